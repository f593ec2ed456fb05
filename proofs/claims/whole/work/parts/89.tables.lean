/-! TABLES over sets -/
set_option maxRecDepth 20000 in
set_option maxHeartbeats 4000000 in
theorem sg_Sets_sum_0 {e : gE} {b : Nat} {m : Int} {Z : Int → gH → Prop} {kc ks : Nat} {G : gH} {p0 p2 : Int} (h : (p0 ≠ (-4611686018427387904) → (p2 ≠ (-4611686018427387904) → (inL (p0 + p2)) ∧ Z (p0 + p2) G)) ∧ ((p0 = (-4611686018427387904) ∨ (p0 ≠ (-4611686018427387904) ∧ p2 = (-4611686018427387904))) → Z (-4611686018427387904) G)) : EX e b m m_Sets_sum Z kc ks 0 [(1, p0), (9, 0), (1, p2), (9, 0)] [] G := by
  obtain ⟨h, hJ6⟩ := h
  have kJ6 : (p0 = (-4611686018427387904) ∨ (p0 ≠ (-4611686018427387904) ∧ p2 = (-4611686018427387904))) → EX e b m m_Sets_sum Z kc ks 16 [(1, p0), (9, 0), (1, p2), (9, 0)] [] G := by
    intro rJ6
    have h := hJ6 rJ6
    refine e_ldc2 (-4611686018427387904) d_Sets_sum_16 (by decide) (by have h9 := w_694; rw [show (-4611686018427387904 : Int64) = Int64.ofInt (-4611686018427387904) from by decide] at h9; exact h9) ?_
    refine e_goto (tgt := 25) d_Sets_sum_19 (by decide) ?_
    exact e_lret d_Sets_sum_25 rfl h
  refine e_lload_n d_Sets_sum_0 rfl ?_
  refine e_ldc2 (-4611686018427387904) d_Sets_sum_1 (by decide) (by have h9 := w_694; rw [show (-4611686018427387904 : Int64) = Int64.ofInt (-4611686018427387904) from by decide] at h9; exact h9) ?_
  refine e_lcmp_eq (tgt := 16) d_Sets_sum_4 d_Sets_sum_5 (by decide) (fun q1 => ?_) (fun q2 => ?_)
  · exact kJ6 (Or.inl q1)
  · have h := h q2
    refine e_lload_n d_Sets_sum_8 rfl ?_
    refine e_ldc2 (-4611686018427387904) d_Sets_sum_9 (by decide) (by have h9 := w_694; rw [show (-4611686018427387904 : Int64) = Int64.ofInt (-4611686018427387904) from by decide] at h9; exact h9) ?_
    refine e_lcmp_ne (tgt := 22) d_Sets_sum_12 d_Sets_sum_13 (by decide) (fun q3 => ?_) (fun q4 => ?_)
    · have h := h q3
      refine e_lload_n d_Sets_sum_22 rfl ?_
      refine e_lload_n d_Sets_sum_23 rfl ?_
      obtain ⟨o5, h⟩ := h
      refine e_ladd d_Sets_sum_24 o5 ?_
      exact e_lret d_Sets_sum_25 rfl h
    · exact kJ6 (Or.inr ⟨q2, q4⟩)
def zsm (a c : Int) : Int := if a = (-4611686018427387904) ∨ c = (-4611686018427387904) then (-4611686018427387904) else a + c
theorem c_Sets_sum {e : gE} {b : Nat} {m : Int} {G : gH} {p0 p2 : Int} (h1 : p0 = (-4611686018427387904) ∨ p2 = (-4611686018427387904) ∨ inL (p0 + p2)) : GX e b m m_Sets_sum [(1, p0), (1, p2)] G 0 0 (fun v9 G9 => v9 = (zsm p0 p2 : Int) ∧ G9 = G) := by
  refine GM.ofEV (by decide) (Nat.le_of_ble_eq_true rfl) (sg_Sets_sum_0 ?_)
  exact ⟨fun q1 q2 => ⟨h1.elim (fun h => absurd h q1) (fun h => h.elim (fun h => absurd h q2) id), by unfold zsm; rw [if_neg (by omega)], rfl⟩, fun q => ⟨by unfold zsm; rw [if_pos (by omega)], rfl⟩⟩
set_option maxRecDepth 20000 in
set_option maxHeartbeats 4000000 in
theorem sg_Sets_clear_0 {e : gE} {b : Nat} {m : Int} {Z : Int → gH → Prop} {kc ks : Nat} {G : gH} {p0 : Int} (h : GX e b m m_Arrays_fill_b [(2, p0), (1, (-4611686018427387904))] G 0 0 (fun _ G2 => (100 ≤ G2 0 p0 0 ∧ G2 0 p0 0 ≤ 105) ∧ (((G2 0 p0 1) ≤ 0 → Z 0 G2) ∧ (0 < (G2 0 p0 1) → (G2 0 p0 0 = 101) ∧ ((0 < G2 0 p0 1) ∧ (((b : Int) < p0) ∧ (∀ G9 : gH, G9 = gU G2 2 p0 0 0 → Z 0 G9))))))) : EX e b m m_Sets_clear Z kc ks 0 [(2, p0)] [] G := by
  refine e_aload_n d_Sets_clear_0 rfl ?_
  refine e_ldc2 (-4611686018427387904) d_Sets_clear_1 (by decide) (by have h9 := w_694; rw [show (-4611686018427387904 : Int64) = Int64.ofInt (-4611686018427387904) from by decide] at h9; exact h9) ?_
  refine e_callS m_Arrays_fill_b lw_good d_Sets_clear_4 (k_Arrays_fill_b _) ⟨Nat.le_of_ble_eq_true rfl, Nat.le_of_ble_eq_true rfl⟩ w_695 w_696 (args := [(2, p0), (1, (-4611686018427387904))]) rfl rfl (Nat.le_of_ble_eq_true rfl) (kc' := kc) (ks' := ks) (mc := 0) (ms := 0) rfl rfl h ?_
  intro v1 G2 h
  refine e_aload_n d_Sets_clear_7 rfl ?_
  obtain ⟨o3, h⟩ := h
  refine e_alen d_Sets_clear_8 o3 ?_
  refine e_if_le (tgt := 16) d_Sets_clear_9 (by decide) (fun q4 => ?_) (fun q5 => ?_)
  · have h := h.1 q4
    exact e_vret d_Sets_clear_16 rfl h
  · have h := h.2 q5
    refine e_aload_n d_Sets_clear_12 rfl ?_
    refine e_iconst d_Sets_clear_13 (by decide) ?_
    refine e_lconst 0 d_Sets_clear_14 (by decide) (by decide) ?_
    obtain ⟨o6, o7, o8, h⟩ := h
    refine e_last d_Sets_clear_15 o6 (by decide) o7 o8 (fx_U (by decide)) ?_
    let G9 : gH := gU G2 2 p0 0 0
    have h := h G9 rfl
    exact e_vret d_Sets_clear_16 rfl h
set_option maxRecDepth 20000 in
set_option maxHeartbeats 4000000 in
theorem sg_Sets_isBare_0 {e : gE} {b : Nat} {m : Int} {Z : Int → gH → Prop} {kc ks : Nat} {G : gH} {p0 p1 : Int} (h : (1 ≤ p1 → (G 0 p0 0 = 101) ∧ (((0 : Int) ≤ 0) ∧ ((0 < G 0 p0 1) ∧ ((G 2 p0 0) = 0 → EX e b m m_Sets_isBare Z kc ks 17 [(2, p0), (0, p1), (0, 1)] [] G)))) ∧ ((p1 < 1 ∨ (1 ≤ p1 ∧ (G 2 p0 0) ≠ 0)) → Z 0 G)) : EX e b m m_Sets_isBare Z kc ks 0 [(2, p0), (0, p1), (9, 0)] [] G := by
  obtain ⟨h, hJ8⟩ := h
  have kJ8 : (p1 < 1 ∨ (1 ≤ p1 ∧ (G 2 p0 0) ≠ 0)) → EX e b m m_Sets_isBare Z kc ks 13 [(2, p0), (0, p1), (9, 0)] [] G := by
    intro rJ8
    have h := hJ8 rJ8
    refine e_iconst d_Sets_isBare_13 (by decide) ?_
    exact e_zret .boolean d_Sets_isBare_14 rfl (by decide) h
  refine e_iload_n d_Sets_isBare_0 rfl ?_
  refine e_iconst d_Sets_isBare_1 (by decide) ?_
  refine e_icmp_lt (tgt := 13) d_Sets_isBare_2 (by decide) (fun q1 => ?_) (fun q2 => ?_)
  · exact kJ8 (Or.inl q1)
  · have h := h q2
    refine e_aload_n d_Sets_isBare_5 rfl ?_
    refine e_iconst d_Sets_isBare_6 (by decide) ?_
    obtain ⟨o3, o4, o5, h⟩ := h
    refine e_lald d_Sets_isBare_7 o3 o4 o5 ?_
    refine e_lconst 0 d_Sets_isBare_8 (by decide) (by decide) ?_
    refine e_lcmp_eq (tgt := 15) d_Sets_isBare_9 d_Sets_isBare_10 (by decide) (fun q6 => ?_) (fun q7 => ?_)
    · have h := h q6
      refine e_iconst d_Sets_isBare_15 (by decide) ?_
      refine e_istore_n (ls' := [(2, p0), (0, p1), (0, 1)]) d_Sets_isBare_16 (by decide) rfl ?_
      exact e_forget (ls' := [(2, p0), (0, p1), (0, 1)]) ⟨Or.inr rfl, Or.inr rfl, Or.inr rfl, trivial⟩ h
    · exact kJ8 (Or.inr ⟨q2, q7⟩)
set_option maxRecDepth 20000 in
set_option maxHeartbeats 4000000 in
theorem sg_Sets_isBare_17 {e : gE} {b : Nat} {m : Int} {Z : Int → gH → Prop} {kc ks : Nat} {G : gH} {p0 p1 x2 : Int} (h : (p1 ≤ x2 → Z 1 G) ∧ (x2 < p1 → (G 0 p0 0 = 101) ∧ ((0 ≤ x2) ∧ ((x2 < G 0 p0 1) ∧ (((G 2 p0 x2) = (-4611686018427387904) → (inI (x2 + 1)) ∧ EX e b m m_Sets_isBare Z kc ks 17 [(2, p0), (0, p1), (0, (x2 + 1))] [] G) ∧ ((G 2 p0 x2) ≠ (-4611686018427387904) → Z 0 G)))))) : EX e b m m_Sets_isBare Z kc ks 17 [(2, p0), (0, p1), (0, x2)] [] G := by
  refine e_iload_n d_Sets_isBare_17 rfl ?_
  refine e_iload_n d_Sets_isBare_18 rfl ?_
  refine e_icmp_ge (tgt := 40) d_Sets_isBare_19 (by decide) (fun q1 => ?_) (fun q2 => ?_)
  · have h := h.1 q1
    refine e_iconst d_Sets_isBare_40 (by decide) ?_
    exact e_zret .boolean d_Sets_isBare_41 rfl (by decide) h
  · have h := h.2 q2
    refine e_aload_n d_Sets_isBare_22 rfl ?_
    refine e_iload_n d_Sets_isBare_23 rfl ?_
    obtain ⟨o3, o4, o5, h⟩ := h
    refine e_lald d_Sets_isBare_24 o3 o4 o5 ?_
    refine e_ldc2 (-4611686018427387904) d_Sets_isBare_25 (by decide) (by have h9 := w_694; rw [show (-4611686018427387904 : Int64) = Int64.ofInt (-4611686018427387904) from by decide] at h9; exact h9) ?_
    refine e_lcmp_eq (tgt := 34) d_Sets_isBare_28 d_Sets_isBare_29 (by decide) (fun q6 => ?_) (fun q7 => ?_)
    · have h := h.1 q6
      obtain ⟨o8, h⟩ := h
      refine e_iinc (ls' := [(2, p0), (0, p1), (0, (x2 + 1))]) d_Sets_isBare_34 rfl (by decide) o8 rfl ?_
      refine e_goto (tgt := 17) d_Sets_isBare_37 (by decide) ?_
      exact e_forget (ls' := [(2, p0), (0, p1), (0, (x2 + 1))]) ⟨Or.inr rfl, Or.inr rfl, Or.inr rfl, trivial⟩ h
    · have h := h.2 q7
      refine e_iconst d_Sets_isBare_32 (by decide) ?_
      exact e_zret .boolean d_Sets_isBare_33 rfl (by decide) h
set_option maxRecDepth 20000 in
set_option maxHeartbeats 4000000 in
theorem sg_Sets_bestCut_0 {e : gE} {b : Nat} {m : Int} {Z : Int → gH → Prop} {kc ks : Nat} {G : gH} {p0 p1 p2 : Int} (h : (G 0 p0 0 = 101) ∧ ((0 : Int) ≤ 0) ∧ (0 < G 0 p0 1) ∧ (G 0 p1 0 = 101) ∧ (0 ≤ p2) ∧ (p2 < G 0 p1 1) ∧ ((G 2 p0 0) = (-4611686018427387904) ∨ (G 2 p1 p2) = (-4611686018427387904) ∨ inL ((G 2 p0 0) + (G 2 p1 p2))) ∧ EX e b m m_Sets_bestCut Z kc ks 13 [(2, p0), (2, p1), (0, p2), (1, (zsm (G 2 p0 0) (G 2 p1 p2))), (9, 0), (0, p2)] [] G) : EX e b m m_Sets_bestCut Z kc ks 0 [(2, p0), (2, p1), (0, p2), (9, 0), (9, 0), (9, 0)] [] G := by
  refine e_aload_n d_Sets_bestCut_0 rfl ?_
  refine e_iconst d_Sets_bestCut_1 (by decide) ?_
  obtain ⟨o1, o2, o3, h⟩ := h
  refine e_lald d_Sets_bestCut_2 o1 o2 o3 ?_
  refine e_aload_n d_Sets_bestCut_3 rfl ?_
  refine e_iload_n d_Sets_bestCut_4 rfl ?_
  obtain ⟨o4, o5, o6, h⟩ := h
  refine e_lald d_Sets_bestCut_5 o4 o5 o6 ?_
  obtain ⟨o7, h⟩ := h
  refine e_callS m_Sets_sum lw_good d_Sets_bestCut_6 (k_Sets_sum _) ⟨Nat.le_of_ble_eq_true rfl, Nat.le_of_ble_eq_true rfl⟩ w_749 w_736 (args := [(1, (G 2 p0 0)), (1, (G 2 p1 p2))]) rfl rfl (Nat.le_of_ble_eq_true rfl) (kc' := kc) (ks' := ks) (mc := 0) (ms := 0) rfl rfl (c_Sets_sum o7) (pureK ?_)
  refine e_lstore_n (ls' := [(2, p0), (2, p1), (0, p2), (1, (zsm (G 2 p0 0) (G 2 p1 p2))), (9, 0), (9, 0)]) d_Sets_bestCut_9 (by decide) rfl ?_
  refine e_iload_n d_Sets_bestCut_10 rfl ?_
  refine e_istore (ls' := [(2, p0), (2, p1), (0, p2), (1, (zsm (G 2 p0 0) (G 2 p1 p2))), (9, 0), (0, p2)]) d_Sets_bestCut_11 (by decide) rfl ?_
  exact e_forget (ls' := [(2, p0), (2, p1), (0, p2), (1, (zsm (G 2 p0 0) (G 2 p1 p2))), (9, 0), (0, p2)]) ⟨Or.inr rfl, Or.inr rfl, Or.inr rfl, Or.inr rfl, Or.inl rfl, Or.inr rfl, trivial⟩ h
set_option maxRecDepth 20000 in
set_option maxHeartbeats 4000000 in
theorem sg_Sets_bestCut_13 {e : gE} {b : Nat} {m : Int} {Z : Int → gH → Prop} {kc ks : Nat} {G : gH} {p0 p1 p2 x3 x5 : Int} (h : (x5 ≤ 0 → Z x3 G) ∧ (0 < x5 → (G 0 p0 0 = 101) ∧ (0 ≤ x5) ∧ (x5 < G 0 p0 1) ∧ (G 0 p1 0 = 101) ∧ (0 ≤ (gxor p2 x5)) ∧ ((gxor p2 x5) < G 0 p1 1) ∧ ((G 2 p0 x5) = (-4611686018427387904) ∨ (G 2 p1 (gxor p2 x5)) = (-4611686018427387904) ∨ inL ((G 2 p0 x5) + (G 2 p1 (gxor p2 x5)))) ∧ (inI (x5 - 1)) ∧ EX e b m m_Sets_bestCut Z kc ks 13 [(2, p0), (2, p1), (0, p2), (1, (if x3 < (zsm (G 2 p0 x5) (G 2 p1 (gxor p2 x5))) then (zsm (G 2 p0 x5) (G 2 p1 (gxor p2 x5))) else x3)), (9, 0), (0, (gand (x5 - 1) p2))] [] G)) : EX e b m m_Sets_bestCut Z kc ks 13 [(2, p0), (2, p1), (0, p2), (1, x3), (9, 0), (0, x5)] [] G := by
  refine e_iload d_Sets_bestCut_13 rfl ?_
  refine e_if_le (tgt := 47) d_Sets_bestCut_15 (by decide) (fun q1 => ?_) (fun q2 => ?_)
  · have h := h.1 q1
    refine e_lload_n d_Sets_bestCut_47 rfl ?_
    exact e_lret d_Sets_bestCut_48 rfl h
  · have h := h.2 q2
    refine e_lload_n d_Sets_bestCut_18 rfl ?_
    refine e_aload_n d_Sets_bestCut_19 rfl ?_
    refine e_iload d_Sets_bestCut_20 rfl ?_
    obtain ⟨o3, o4, o5, h⟩ := h
    refine e_lald d_Sets_bestCut_22 o3 o4 o5 ?_
    refine e_aload_n d_Sets_bestCut_23 rfl ?_
    refine e_iload_n d_Sets_bestCut_24 rfl ?_
    refine e_iload d_Sets_bestCut_25 rfl ?_
    refine e_ixor d_Sets_bestCut_27 ?_
    obtain ⟨o6, o7, o8, h⟩ := h
    refine e_lald d_Sets_bestCut_28 o6 o7 o8 ?_
    obtain ⟨o9, h⟩ := h
    refine e_callS m_Sets_sum lw_good d_Sets_bestCut_29 (k_Sets_sum _) ⟨Nat.le_of_ble_eq_true rfl, Nat.le_of_ble_eq_true rfl⟩ w_749 w_736 (args := [(1, (G 2 p0 x5)), (1, (G 2 p1 (gxor p2 x5)))]) rfl rfl (Nat.le_of_ble_eq_true rfl) (kc' := kc) (ks' := ks) (mc := 0) (ms := 0) rfl rfl (c_Sets_sum o9) (pureK ?_)
    refine e_callS m_Math_max_b lw_good d_Sets_bestCut_32 (k_Math_max_b _) ⟨Nat.le_of_ble_eq_true rfl, Nat.le_of_ble_eq_true rfl⟩ w_750 w_751 (args := [(1, x3), (1, (zsm (G 2 p0 x5) (G 2 p1 (gxor p2 x5))))]) rfl rfl (Nat.le_of_ble_eq_true rfl) (kc' := kc) (ks' := ks) (mc := 0) (ms := 0) rfl rfl (c_Math_max_b) (pureK ?_)
    refine e_lstore_n (ls' := [(2, p0), (2, p1), (0, p2), (1, (if x3 < (zsm (G 2 p0 x5) (G 2 p1 (gxor p2 x5))) then (zsm (G 2 p0 x5) (G 2 p1 (gxor p2 x5))) else x3)), (9, 0), (0, x5)]) d_Sets_bestCut_35 (by decide) rfl ?_
    refine e_iload d_Sets_bestCut_36 rfl ?_
    refine e_iconst d_Sets_bestCut_38 (by decide) ?_
    obtain ⟨o10, h⟩ := h
    refine e_isub d_Sets_bestCut_39 o10 ?_
    refine e_iload_n d_Sets_bestCut_40 rfl ?_
    refine e_iand d_Sets_bestCut_41 ?_
    refine e_istore (ls' := [(2, p0), (2, p1), (0, p2), (1, (if x3 < (zsm (G 2 p0 x5) (G 2 p1 (gxor p2 x5))) then (zsm (G 2 p0 x5) (G 2 p1 (gxor p2 x5))) else x3)), (9, 0), (0, (gand (x5 - 1) p2))]) d_Sets_bestCut_42 (by decide) rfl ?_
    refine e_goto (tgt := 13) d_Sets_bestCut_44 (by decide) ?_
    exact e_forget (ls' := [(2, p0), (2, p1), (0, p2), (1, (if x3 < (zsm (G 2 p0 x5) (G 2 p1 (gxor p2 x5))) then (zsm (G 2 p0 x5) (G 2 p1 (gxor p2 x5))) else x3)), (9, 0), (0, (gand (x5 - 1) p2))]) ⟨Or.inr rfl, Or.inr rfl, Or.inr rfl, Or.inr rfl, Or.inl rfl, Or.inr rfl, trivial⟩ h
set_option maxRecDepth 20000 in
set_option maxHeartbeats 4000000 in
theorem sg_Sets_join_0 {e : gE} {b : Nat} {m : Int} {Z : Int → gH → Prop} {kc ks : Nat} {G : gH} {p0 p1 p2 : Int} (h : (100 ≤ G 0 p0 0 ∧ G 0 p0 0 ≤ 105) ∧ ((100 ≤ G 0 p1 0 ∧ G 0 p1 0 ≤ 105) ∧ (GX e b m m_Sets_isBare [(2, p1), (0, (if (if (G 0 p1 1) < (G 0 p0 1) then (G 0 p1 1) else (G 0 p0 1)) < p2 then (if (G 0 p1 1) < (G 0 p0 1) then (G 0 p1 1) else (G 0 p0 1)) else p2))] G 0 0 (fun v3 G4 => (v3 = 0 → GX e b m m_Sets_isBare [(2, p0), (0, (if (if (G 0 p1 1) < (G 0 p0 1) then (G 0 p1 1) else (G 0 p0 1)) < p2 then (if (G 0 p1 1) < (G 0 p0 1) then (G 0 p1 1) else (G 0 p0 1)) else p2))] G4 0 0 (fun v7 G8 => (v7 = 0 → (inI ((if (if (G 0 p1 1) < (G 0 p0 1) then (G 0 p1 1) else (G 0 p0 1)) < p2 then (if (G 0 p1 1) < (G 0 p0 1) then (G 0 p1 1) else (G 0 p0 1)) else p2) - 1)) ∧ EX e b m m_Sets_join Z kc ks 43 [(2, p0), (2, p1), (9, 0), (9, 0), (0, ((if (if (G 0 p1 1) < (G 0 p0 1) then (G 0 p1 1) else (G 0 p0 1)) < p2 then (if (G 0 p1 1) < (G 0 p0 1) then (G 0 p1 1) else (G 0 p0 1)) else p2) - 1))] [] G8) ∧ (v7 ≠ 0 → (G8 0 p1 0 = 101) ∧ ((G8 0 p0 0 = 101) ∧ (((b : Int) < p0) ∧ ((0 ≤ (0 : Int) ∧ 0 ≤ (0 : Int) ∧ 0 ≤ (if (if (G 0 p1 1) < (G 0 p0 1) then (G 0 p1 1) else (G 0 p0 1)) < p2 then (if (G 0 p1 1) < (G 0 p0 1) then (G 0 p1 1) else (G 0 p0 1)) else p2) ∧ 0 + (if (if (G 0 p1 1) < (G 0 p0 1) then (G 0 p1 1) else (G 0 p0 1)) < p2 then (if (G 0 p1 1) < (G 0 p0 1) then (G 0 p1 1) else (G 0 p0 1)) else p2) ≤ G8 0 p1 1 ∧ 0 + (if (if (G 0 p1 1) < (G 0 p0 1) then (G 0 p1 1) else (G 0 p0 1)) < p2 then (if (G 0 p1 1) < (G 0 p0 1) then (G 0 p1 1) else (G 0 p0 1)) else p2) ≤ G8 0 p0 1) ∧ (∀ G16 : gH, G16 = gCp G8 2 p1 0 p0 0 (if (if (G 0 p1 1) < (G 0 p0 1) then (G 0 p1 1) else (G 0 p0 1)) < p2 then (if (G 0 p1 1) < (G 0 p0 1) then (G 0 p1 1) else (G 0 p0 1)) else p2) → Z 0 G16))))))) ∧ (v3 ≠ 0 → Z 0 G4))))) : EX e b m m_Sets_join Z kc ks 0 [(2, p0), (2, p1), (0, p2), (9, 0), (9, 0)] [] G := by
  refine e_iload_n d_Sets_join_0 rfl ?_
  refine e_aload_n d_Sets_join_1 rfl ?_
  obtain ⟨o1, h⟩ := h
  refine e_alen d_Sets_join_2 o1 ?_
  refine e_aload_n d_Sets_join_3 rfl ?_
  obtain ⟨o2, h⟩ := h
  refine e_alen d_Sets_join_4 o2 ?_
  refine e_callS m_Math_min_a lw_good d_Sets_join_5 (k_Math_min_a _) ⟨Nat.le_of_ble_eq_true rfl, Nat.le_of_ble_eq_true rfl⟩ w_741 w_406 (args := [(0, (G 0 p0 1)), (0, (G 0 p1 1))]) rfl rfl (Nat.le_of_ble_eq_true rfl) (kc' := kc) (ks' := ks) (mc := 0) (ms := 0) rfl rfl (c_Math_min_a) (pureK ?_)
  refine e_callS m_Math_min_a lw_good d_Sets_join_8 (k_Math_min_a _) ⟨Nat.le_of_ble_eq_true rfl, Nat.le_of_ble_eq_true rfl⟩ w_741 w_406 (args := [(0, p2), (0, (if (G 0 p1 1) < (G 0 p0 1) then (G 0 p1 1) else (G 0 p0 1)))]) rfl rfl (Nat.le_of_ble_eq_true rfl) (kc' := kc) (ks' := ks) (mc := 0) (ms := 0) rfl rfl (c_Math_min_a) (pureK ?_)
  refine e_istore_n (ls' := [(2, p0), (2, p1), (0, p2), (0, (if (if (G 0 p1 1) < (G 0 p0 1) then (G 0 p1 1) else (G 0 p0 1)) < p2 then (if (G 0 p1 1) < (G 0 p0 1) then (G 0 p1 1) else (G 0 p0 1)) else p2)), (9, 0)]) d_Sets_join_11 (by decide) rfl ?_
  refine e_aload_n d_Sets_join_12 rfl ?_
  refine e_iload_n d_Sets_join_13 rfl ?_
  refine e_callS m_Sets_isBare lw_good d_Sets_join_14 (k_Sets_isBare _) ⟨Nat.le_of_ble_eq_true rfl, Nat.le_of_ble_eq_true rfl⟩ w_742 w_743 (args := [(2, p1), (0, (if (if (G 0 p1 1) < (G 0 p0 1) then (G 0 p1 1) else (G 0 p0 1)) < p2 then (if (G 0 p1 1) < (G 0 p0 1) then (G 0 p1 1) else (G 0 p0 1)) else p2))]) rfl rfl (Nat.le_of_ble_eq_true rfl) (kc' := kc) (ks' := ks) (mc := 0) (ms := 0) rfl rfl h ?_
  intro v3 G4 h
  refine e_if_eq (tgt := 21) d_Sets_join_17 (by decide) (fun q5 => ?_) (fun q6 => ?_)
  · have h := h.1 q5
    refine e_aload_n d_Sets_join_21 rfl ?_
    refine e_iload_n d_Sets_join_22 rfl ?_
    refine e_callS m_Sets_isBare lw_good d_Sets_join_23 (k_Sets_isBare _) ⟨Nat.le_of_ble_eq_true rfl, Nat.le_of_ble_eq_true rfl⟩ w_742 w_743 (args := [(2, p0), (0, (if (if (G 0 p1 1) < (G 0 p0 1) then (G 0 p1 1) else (G 0 p0 1)) < p2 then (if (G 0 p1 1) < (G 0 p0 1) then (G 0 p1 1) else (G 0 p0 1)) else p2))]) rfl rfl (Nat.le_of_ble_eq_true rfl) (kc' := kc) (ks' := ks) (mc := 0) (ms := 0) rfl rfl h ?_
    intro v7 G8 h
    refine e_if_eq (tgt := 38) d_Sets_join_26 (by decide) (fun q9 => ?_) (fun q10 => ?_)
    · have h := h.1 q9
      refine e_iload_n d_Sets_join_38 rfl ?_
      refine e_iconst d_Sets_join_39 (by decide) ?_
      obtain ⟨o11, h⟩ := h
      refine e_isub d_Sets_join_40 o11 ?_
      refine e_istore (ls' := [(2, p0), (2, p1), (0, p2), (0, (if (if (G 0 p1 1) < (G 0 p0 1) then (G 0 p1 1) else (G 0 p0 1)) < p2 then (if (G 0 p1 1) < (G 0 p0 1) then (G 0 p1 1) else (G 0 p0 1)) else p2)), (0, ((if (if (G 0 p1 1) < (G 0 p0 1) then (G 0 p1 1) else (G 0 p0 1)) < p2 then (if (G 0 p1 1) < (G 0 p0 1) then (G 0 p1 1) else (G 0 p0 1)) else p2) - 1))]) d_Sets_join_41 (by decide) rfl ?_
      exact e_forget (ls' := [(2, p0), (2, p1), (9, 0), (9, 0), (0, ((if (if (G 0 p1 1) < (G 0 p0 1) then (G 0 p1 1) else (G 0 p0 1)) < p2 then (if (G 0 p1 1) < (G 0 p0 1) then (G 0 p1 1) else (G 0 p0 1)) else p2) - 1))]) ⟨Or.inr rfl, Or.inr rfl, Or.inl rfl, Or.inl rfl, Or.inr rfl, trivial⟩ h
    · have h := h.2 q10
      refine e_aload_n d_Sets_join_29 rfl ?_
      refine e_iconst d_Sets_join_30 (by decide) ?_
      refine e_aload_n d_Sets_join_31 rfl ?_
      refine e_iconst d_Sets_join_32 (by decide) ?_
      refine e_iload_n d_Sets_join_33 rfl ?_
      obtain ⟨o12, o13, o14, o15, h⟩ := h
      refine e_copyl d_Sets_join_34 w_745 w_410 w_409 w_17 (by decide) (Nat.le_of_ble_eq_true rfl) (by first | simp | decide | exact Nat.le_of_ble_eq_true rfl) o12 o13 o14 o15.1 o15.2.1 o15.2.2.1 o15.2.2.2.1 o15.2.2.2.2 (fx_Cp (Or.inl (by decide))) ?_
      let G16 : gH := gCp G8 2 p1 0 p0 0 (if (if (G 0 p1 1) < (G 0 p0 1) then (G 0 p1 1) else (G 0 p0 1)) < p2 then (if (G 0 p1 1) < (G 0 p0 1) then (G 0 p1 1) else (G 0 p0 1)) else p2)
      have h := h G16 rfl
      exact e_vret d_Sets_join_37 rfl h
  · have h := h.2 q6
    exact e_vret d_Sets_join_20 rfl h
set_option maxRecDepth 20000 in
set_option maxHeartbeats 4000000 in
theorem sg_Sets_join_43 {e : gE} {b : Nat} {m : Int} {Z : Int → gH → Prop} {kc ks : Nat} {G : gH} {p0 p1 x4 : Int} (h : (x4 < 0 → Z 0 G) ∧ (0 ≤ x4 → GX e b m m_Sets_bestCut [(2, p0), (2, p1), (0, x4)] G 0 0 (fun v3 G4 => (G4 0 p0 0 = 101) ∧ ((0 ≤ x4) ∧ ((x4 < G4 0 p0 1) ∧ (((b : Int) < p0) ∧ (∀ G9 : gH, G9 = gU G4 2 p0 x4 v3 → (inI (x4 + (-1))) ∧ EX e b m m_Sets_join Z kc ks 43 [(2, p0), (2, p1), (9, 0), (9, 0), (0, (x4 + (-1)))] [] G9))))))) : EX e b m m_Sets_join Z kc ks 43 [(2, p0), (2, p1), (9, 0), (9, 0), (0, x4)] [] G := by
  refine e_iload d_Sets_join_43 rfl ?_
  refine e_if_lt (tgt := 65) d_Sets_join_45 (by decide) (fun q1 => ?_) (fun q2 => ?_)
  · have h := h.1 q1
    exact e_vret d_Sets_join_65 rfl h
  · have h := h.2 q2
    refine e_aload_n d_Sets_join_48 rfl ?_
    refine e_iload d_Sets_join_49 rfl ?_
    refine e_aload_n d_Sets_join_51 rfl ?_
    refine e_aload_n d_Sets_join_52 rfl ?_
    refine e_iload d_Sets_join_53 rfl ?_
    refine e_callS m_Sets_bestCut lw_good d_Sets_join_55 (k_Sets_bestCut _) ⟨Nat.le_of_ble_eq_true rfl, Nat.le_of_ble_eq_true rfl⟩ w_746 w_747 (args := [(2, p0), (2, p1), (0, x4)]) rfl rfl (Nat.le_of_ble_eq_true rfl) (kc' := kc) (ks' := ks) (mc := 0) (ms := 0) rfl rfl h ?_
    intro v3 G4 h
    obtain ⟨o5, o6, o7, o8, h⟩ := h
    refine e_last d_Sets_join_58 o5 o6 o7 o8 (fx_U (by decide)) ?_
    let G9 : gH := gU G4 2 p0 x4 v3
    have h := h G9 rfl
    obtain ⟨o10, h⟩ := h
    refine e_iinc (ls' := [(2, p0), (2, p1), (9, 0), (9, 0), (0, (x4 + (-1)))]) d_Sets_join_59 rfl (by decide) o10 rfl ?_
    refine e_goto (tgt := 43) d_Sets_join_62 (by decide) ?_
    exact e_forget (ls' := [(2, p0), (2, p1), (9, 0), (9, 0), (0, (x4 + (-1)))]) ⟨Or.inr rfl, Or.inr rfl, Or.inl rfl, Or.inl rfl, Or.inr rfl, trivial⟩ h
theorem c_clear {e : gE} {b : Nat} {m : Int} {G : gH} {p : Int} (h : G 0 p 0 = 101) (hn : G 0 p 1 = 256) (hb : (b : Int) < p) : GX e b m m_Sets_clear [(2, p)] G 0 0 (fun _ G1 => zO2 p G G1 ∧ ∀ i, 0 ≤ i → i < 256 → G1 2 p i = if i = 0 then 0 else (-4611686018427387904)) := by
  refine GM.ofEV (by decide) (Nat.le_of_ble_eq_true rfl) (sg_Sets_clear_0 (GM.mono (c_Arrays_fill_b h (by omega) hb) ?_))
  rintro _ G2 ⟨o, hv⟩
  have k : ∀ j, G2 0 p j = G 0 p j := fun j => o 0 p j (fun z => absurd z (by decide))
  rw [k, k, h, hn]
  refine ⟨by decide, fun z => absurd z (by decide), fun _ => ⟨rfl, by decide, hb, ?_⟩⟩
  rintro _ rfl
  refine ⟨zO2_u o, fun i i1 i2 => ?_⟩
  by_cases z : i = 0
  · rw [z, gU_eq, if_pos rfl]
  · rw [gU_j z, hv i i1 (by omega), if_neg z]
/-- of all cuts of a set in two the greatest -/
def zCut (f g : Int → Int) (s v : Int) : Prop := (∃ q, zPr q s ∧ v = zsm (f q) (g (gxor s q))) ∧ ∀ q, zPr q s → zsm (f q) (g (gxor s q)) ≤ v
def zJn (n : Int) (f g h : Int → Int) : Prop := ∀ s, 0 ≤ s → s < zp2 n → zCut f g s (h s)
/-- a table of worths -/
abbrev zOv (x : Int) : Prop := x = (-4611686018427387904) ∨ (-1152921504606846976 ≤ x ∧ x ≤ 1152921504606846976)
def zOt (n : Int) (f : Int → Int) : Prop := ∀ s, 0 ≤ s → s < zp2 n → zOv (f s)
abbrev zBare (n : Int) (f : Int → Int) : Prop := ∀ i, 0 ≤ i → i < n → f i = if i = 0 then 0 else (-4611686018427387904)
theorem zsm_0 {a : Int} : zsm a 0 = a := by
  unfold zsm
  by_cases q : a = (-4611686018427387904)
  · rw [if_pos (Or.inl q), q]
  · rw [if_neg (by omega)]; omega
theorem z0_sm {a : Int} : zsm 0 a = a := by
  unfold zsm
  by_cases q : a = (-4611686018427387904)
  · rw [if_pos (Or.inr q), q]
  · rw [if_neg (by omega)]; omega
theorem zsm_n {a : Int} : zsm a (-4611686018427387904) = (-4611686018427387904) := if_pos (Or.inr rfl)
theorem zn_sm {a : Int} : zsm (-4611686018427387904) a = (-4611686018427387904) := if_pos (Or.inl rfl)
theorem zxor_0 {s : Int} (hs : 0 ≤ s ∧ s < 256) : gxor s 0 = s := by
  have w := zPr_xor hs (zPr_0 hs.1)
  refine zb_ext (n := 8) ⟨w.1.1.1, by rw [zp2_8]; have := w.1.1.2; omega⟩ ⟨hs.1, by rw [zp2_8]; exact hs.2⟩ (fun j j1 j2 => ?_)
  rw [w.2 j j1 j2]
  exact ⟨fun z => z.1, fun z => ⟨z, zb_0 j⟩⟩
theorem zxor_s {s q : Int} (hs : 0 ≤ s ∧ s < 256) (h : zPr q s) : gxor s q = 0 ↔ q = s := by
  have w := zPr_xor hs h
  constructor
  · intro z
    have hq := h.1
    refine zb_ext (n := 8) ⟨hq.1, by rw [zp2_8]; omega⟩ ⟨hs.1, by rw [zp2_8]; exact hs.2⟩ (fun j j1 j2 => ⟨h.2 j j1 j2, fun y => ?_⟩)
    have k := w.2 j j1 j2
    rw [z] at k
    by_cases x : zb q j
    · exact x
    · exact absurd (k.2 ⟨y, x⟩) (zb_0 j)
  · intro z
    refine zb_ext (n := 8) ⟨w.1.1.1, by rw [zp2_8]; have := w.1.1.2; omega⟩ ⟨by decide, by rw [zp2_8]; decide⟩ (fun j j1 j2 => ?_)
    rw [w.2 j j1 j2, z]
    exact ⟨fun y => absurd y.1 y.2, fun y => absurd y (zb_0 j)⟩
theorem zJn_b1 {n : Int} {f g : Int → Int} (hn : n ≤ 8) (hf : zOt n f) (hg : zBare (zp2 n) g) : zJn n f g f := fun s s1 s2 => by
  have b := zp2_b hn
  have hs : 0 ≤ s ∧ s < 256 := ⟨s1, by omega⟩
  refine ⟨⟨s, zPr_r s1, ?_⟩, fun q hq => ?_⟩
  · rw [(zxor_s hs (zPr_r s1)).2 rfl, hg 0 (by decide) (by omega), if_pos rfl, zsm_0]
  · have w := zPr_xor hs hq
    have k := w.1.1
    rw [hg _ k.1 (by omega)]
    by_cases z : gxor s q = 0
    · rw [if_pos z, zsm_0, (zxor_s hs hq).1 z]
      exact Int.le_refl _
    · rw [if_neg z, zsm_n]
      have := hf s s1 s2
      omega
theorem zJn_b2 {n : Int} {f g h : Int → Int} (hn : n ≤ 8) (hg : zOt n g) (hf : zBare (zp2 n) f) (hh : ∀ s, 0 ≤ s → s < zp2 n → h s = g s) : zJn n f g h := fun s s1 s2 => by
  have b := zp2_b hn
  have hs : 0 ≤ s ∧ s < 256 := ⟨s1, by omega⟩
  rw [hh s s1 s2]
  refine ⟨⟨0, zPr_0 s1, ?_⟩, fun q hq => ?_⟩
  · rw [zxor_0 hs, hf 0 (by decide) (by omega), if_pos rfl, z0_sm]
  · have k := hq.1
    rw [hf q k.1 (by omega)]
    by_cases z : q = 0
    · rw [if_pos z, z0_sm, z, zxor_0 hs]
      exact Int.le_refl _
    · rw [if_neg z, zn_sm]
      have := hg s s1 s2
      omega
theorem c_isBare {e : gE} {b : Nat} {m : Int} {G : gH} {p n : Int} (h : G 0 p 0 = 101) (hn : G 0 p 1 = 256) (h1 : 1 ≤ n ∧ n ≤ 256) : GX e b m m_Sets_isBare [(2, p), (0, n)] G 0 0 (fun v G1 => (v = 0 ∨ (v = 1 ∧ zBare n (G 2 p))) ∧ G1 = G) := by
  refine GM.ofEV (by decide) (Nat.le_of_ble_eq_true rfl) (sg_Sets_isBare_0 ⟨fun _ => ⟨h, by decide, by omega, fun q0 => ?_⟩, fun _ => ⟨Or.inl rfl, rfl⟩⟩)
  refine zloop (P := fun i => (∀ j, 0 ≤ j → j < i → G 2 p j = if j = 0 then 0 else (-4611686018427387904)) → EX e b m m_Sets_isBare _ 0 0 17 [(2, p), (0, n), (0, i)] [] G) (i := 1) n h1.1 ?_ ?_ (fun j j1 j2 => by rw [show j = 0 by omega, if_pos rfl]; exact q0)
  · intro hj
    exact sg_Sets_isBare_17 ⟨fun _ => ⟨Or.inr ⟨rfl, hj⟩, rfl⟩, fun z => absurd z (by omega)⟩
  · intro i i1 i2 st hj
    refine sg_Sets_isBare_17 ⟨fun z => absurd z (by omega), fun _ => ⟨h, by omega, by omega, fun q => ⟨by omega, st (fun j j1 j2 => ?_)⟩, fun _ => ⟨Or.inl rfl, rfl⟩⟩⟩
    by_cases z : j = i
    · rw [z, if_neg (by omega)]; exact q
    · exact hj j j1 (by omega)
theorem c_bestCut {e : gE} {b : Nat} {m : Int} {G : gH} {p q s : Int} (hp : G 0 p 0 = 101 ∧ G 0 p 1 = 256) (hq : G 0 q 0 = 101 ∧ G 0 q 1 = 256) (hf : ∀ i, 0 ≤ i → i ≤ s → zOv (G 2 p i)) (hg : ∀ i, 0 ≤ i → i ≤ s → zOv (G 2 q i)) (hs : 0 ≤ s ∧ s < 256) : GX e b m m_Sets_bestCut [(2, p), (2, q), (0, s)] G 0 0 (fun v G1 => zCut (G 2 p) (G 2 q) s v ∧ G1 = G) := by
  have hs2 := hs
  have inl : ∀ {x y : Int}, zOv x → zOv y → x = (-4611686018427387904) ∨ y = (-4611686018427387904) ∨ inL (x + y) := fun h1 h2 => by
    rcases h1 with h1 | h1
    · exact Or.inl h1
    · rcases h2 with h2 | h2
      · exact Or.inr (Or.inl h2)
      · exact Or.inr (Or.inr ⟨by omega, by omega⟩)
  refine GM.ofEV (by decide) (Nat.le_of_ble_eq_true rfl) (sg_Sets_bestCut_0 ⟨hp.1, by decide, by omega, hq.1, hs.1, by omega, inl (hf 0 (by decide) hs.1) (hg s hs.1 (Int.le_refl s)), ?_⟩)
  have go : ∀ (r : Nat) (t x : Int), t ≤ r → zPr t s → (∃ u, zPr u s ∧ x = zsm (G 2 p u) (G 2 q (gxor s u))) → (∀ u, zPr u s → (u = 0 ∨ t < u) → zsm (G 2 p u) (G 2 q (gxor s u)) ≤ x) → EX e b m m_Sets_bestCut (fun v G1 => zCut (G 2 p) (G 2 q) s v ∧ G1 = G) 0 0 13 [(2, p), (2, q), (0, s), (1, x), (9, 0), (0, t)] [] G := by
    intro r
    induction r with
    | zero =>
      intro t x ht hts hx hm
      refine sg_Sets_bestCut_13 ⟨fun _ => ⟨⟨hx, fun u hu => hm u hu ?_⟩, rfl⟩, fun z => absurd z (by omega)⟩
      have := hu.1
      omega
    | succ r ih =>
      intro t x ht hts hx hm
      by_cases z : t ≤ 0
      · refine sg_Sets_bestCut_13 ⟨fun _ => ⟨⟨hx, fun u hu => hm u hu ?_⟩, rfl⟩, fun z => absurd z (by omega)⟩
        have := hu.1
        omega
      · have k := zPr_next hs2 hts (by omega)
        have w := zPr_xor hs2 hts
        have t1 := hts.1
        have w1 := w.1.1
        refine sg_Sets_bestCut_13 ⟨fun y => absurd y z, fun _ => ⟨hp.1, t1.1, by omega, hq.1, w1.1, by omega, inl (hf t t1.1 t1.2) (hg _ w1.1 w1.2), by omega, ih _ _ (by omega) k.1 ?_ (fun u hu hu2 => ?_)⟩⟩
        · split
          · exact ⟨t, hts, rfl⟩
          · exact hx
        · have ku := k.2.2 u hu
          by_cases y : u = t
          · rw [y]
            split <;> omega
          · have := hm u hu (by omega)
            split <;> omega
  exact go s.toNat s _ (by omega) (zPr_r hs.1) ⟨0, zPr_0 hs.1, by rw [zxor_0 hs2]⟩ (fun u hu hu2 => by
    have := hu.1
    have e : u = 0 := by omega
    rw [e, zxor_0 hs2]
    exact Int.le_refl _)
theorem zCut_c {f f' g g' : Int → Int} {s v : Int} (hs : 0 ≤ s ∧ s < 256) (ef : ∀ i, 0 ≤ i → i ≤ s → f i = f' i) (eg : ∀ i, 0 ≤ i → i ≤ s → g i = g' i) (h : zCut f g s v) : zCut f' g' s v := by
  have k : ∀ q, zPr q s → zsm (f q) (g (gxor s q)) = zsm (f' q) (g' (gxor s q)) := fun q hq => by
    have w := (zPr_xor hs hq).1.1
    rw [ef q hq.1.1 hq.1.2, eg _ w.1 w.2]
  obtain ⟨⟨q, h1, h2⟩, h3⟩ := h
  exact ⟨⟨q, h1, by rw [h2, k q h1]⟩, fun q hq => by rw [← k q hq]; exact h3 q hq⟩
theorem c_join {e : gE} {b : Nat} {m : Int} {G : gH} {p q n : Int} (hp : G 0 p 0 = 101 ∧ G 0 p 1 = 256) (hq : G 0 q 0 = 101 ∧ G 0 q 1 = 256) (hb : (b : Int) < p) (hpq : p ≠ q) (hn : n ≤ 8) (hf : zOt n (G 2 p)) (hg : zOt n (G 2 q)) : GX e b m m_Sets_join [(2, p), (2, q), (0, zp2 n)] G 0 0 (fun _ G1 => zO2 p G G1 ∧ zJn n (G 2 p) (G 2 q) (G1 2 p)) := by
  have b8 := zp2_b hn
  refine GM.ofEV (by decide) (Nat.le_of_ble_eq_true rfl) (sg_Sets_join_0 ?_)
  rw [hp.2, hq.2, show (if (if (256 : Int) < 256 then (256 : Int) else 256) < zp2 n then (if (256 : Int) < 256 then (256 : Int) else 256) else zp2 n) = zp2 n from by (repeat' split) <;> omega]
  refine ⟨by omega, by omega, GM.mono (c_isBare hq.1 hq.2 b8) ?_⟩
  rintro v G1 ⟨hv, rfl⟩
  refine ⟨fun v0 => GM.mono (c_isBare hp.1 hp.2 b8) ?_, fun v1 => ?_⟩
  · rintro w G2 ⟨hw, rfl⟩
    refine ⟨fun w0 => ⟨by omega, ?_⟩, fun w1 => ⟨hq.1, hp.1, hb, ⟨by decide, by decide, by omega, by omega, by omega⟩, ?_⟩⟩
    · have go : ∀ (r : Nat) (s : Int) (G1 : gH), s + 1 = r → s < zp2 n → zO2 p G2 G1 → (∀ i, 0 ≤ i → i ≤ s → G1 2 p i = G2 2 p i) → (∀ i, s < i → i < zp2 n → 0 ≤ i → zCut (G2 2 p) (G2 2 q) i (G1 2 p i)) → EX e b m m_Sets_join (fun _ G1 => zO2 p G2 G1 ∧ zJn n (G2 2 p) (G2 2 q) (G1 2 p)) 0 0 43 [(2, p), (2, q), (9, 0), (9, 0), (0, s)] [] G1 := by
        intro r
        induction r with
        | zero =>
          intro s G1 hr hs o h1 h2
          exact sg_Sets_join_43 ⟨fun _ => ⟨o, fun i i1 i2 => h2 i (by omega) i2 i1⟩, fun z => absurd z (by omega)⟩
        | succ r ih =>
          intro s G1 hr hs o h1 h2
          have k0 : ∀ i j, G1 0 i j = G2 0 i j := fun i j => o 0 i j (fun z => absurd z (by decide))
          have kq : ∀ j, G1 2 q j = G2 2 q j := fun j => o 2 q j (fun _ z => hpq z.symm)
          refine sg_Sets_join_43 ⟨fun z => absurd z (by omega), fun s0 => ?_⟩
          refine GM.mono (c_bestCut (p := p) (q := q) (s := s) ⟨(k0 _ _).trans hp.1, (k0 _ _).trans hp.2⟩ ⟨(k0 _ _).trans hq.1, (k0 _ _).trans hq.2⟩ (fun i i1 i2 => by rw [h1 i i1 i2]; exact hf i i1 (by omega)) (fun i i1 i2 => by rw [kq]; exact hg i i1 (by omega)) ⟨s0, by omega⟩) ?_
          rintro v G3 ⟨hv, rfl⟩
          have hc := zCut_c (f' := G2 2 p) (g' := G2 2 q) ⟨s0, by omega⟩ h1 (fun i _ _ => kq i) hv
          rw [k0, k0, hp.1, hp.2]
          refine ⟨rfl, s0, by omega, hb, ?_⟩
          rintro _ rfl
          refine ⟨by omega, ih (s + -1) _ (by omega) (by omega) (zO2_u o) (fun i i1 i2 => ?_) (fun i i1 i2 i3 => ?_)⟩
          · rw [gU_j (by omega)]; exact h1 i i1 (by omega)
          · by_cases z : i = s
            · rw [z, gU_eq]; exact hc
            · rw [gU_j z]; exact h2 i (by omega) i2 i3
      exact go (zp2 n).toNat (zp2 n - 1) G2 (by omega) (by omega) zO2_r (fun _ _ _ => rfl) (fun i i1 i2 _ => by omega)
    · rintro _ rfl
      have hb2 : zBare (zp2 n) (G2 2 p) := hw.elim (fun z => absurd z w1) (fun z => z.2)
      refine ⟨fun c i j hc => ?_, zJn_b2 hn hg hb2 (fun s s1 s2 => ?_)⟩
      · unfold gCp
        rw [if_neg (fun z => hc z.1 z.2.1)]
      · unfold gCp
        rw [if_pos ⟨rfl, rfl, s1, by omega⟩, show 0 + (s - 0) = s from by omega]
  · have hb1 : zBare (zp2 n) (G1 2 q) := hv.elim (fun z => absurd z v1) (fun z => z.2)
    exact ⟨zO2_r, zJn_b1 hn hf hb1⟩
