/-! THE CLASS, 11: calls on its own cells -/
theorem zCQ_mk {e : gE} {b : Nat} {m : Int} {G G1 : gH} {x v : Int} {B : zA} (h : v = x) (h1 : zRel e b m G1 B) (h2 : zRf m G G1) : zCQ e b m G (x, B) v G1 := ⟨h, h1, h2⟩
set_option maxRecDepth 20000 in
set_option maxHeartbeats 4000000 in
theorem sg_House_isRoom_0 {e : gE} {b : Nat} {m : Int} {Z : Int → gH → Prop} {kc ks : Nat} {G : gH} {p0 : Int} (h : Z (if 0 ≤ p0 ∧ p0 ≤ 11 then 1 else 0) G) : EX e b m m_House_isRoom Z kc ks 0 [(0, p0)] [] G := by
  refine e_iload_n d_House_isRoom_0 rfl ?_
  refine e_iconst d_House_isRoom_1 (by decide) ?_
  refine e_bipush d_House_isRoom_2 (by decide) (by decide) ?_
  refine e_callSN m_C_within "MuseumFlight" lw_good d_House_isRoom_4 (k_C_within _) ⟨Nat.le_of_ble_eq_true rfl, Nat.le_of_ble_eq_true rfl⟩ w_309 w_295 (args := [(0, p0), (0, 0), (0, 11)]) rfl rfl (Nat.le_of_ble_eq_true rfl) (kc' := kc) (ks' := ks) (mc := 0) (ms := 0) rfl rfl (c_C_within) (pureK ?_)
  exact e_zret .boolean d_House_isRoom_7 rfl (Or.inl ⟨rfl, gb01 _⟩) h
set_option maxRecDepth 20000 in
set_option maxHeartbeats 4000000 in
theorem sg_Years_isKind_0 {e : gE} {b : Nat} {m : Int} {Z : Int → gH → Prop} {kc ks : Nat} {G : gH} {p0 : Int} (h : Z (if 0 ≤ p0 ∧ p0 ≤ 3 then 1 else 0) G) : EX e b m m_Years_isKind Z kc ks 0 [(0, p0)] [] G := by
  refine e_iload_n d_Years_isKind_0 rfl ?_
  refine e_iconst d_Years_isKind_1 (by decide) ?_
  refine e_iconst d_Years_isKind_2 (by decide) ?_
  refine e_callSN m_C_within "MuseumFlight" lw_good d_Years_isKind_3 (k_C_within _) ⟨Nat.le_of_ble_eq_true rfl, Nat.le_of_ble_eq_true rfl⟩ w_1052 w_295 (args := [(0, p0), (0, 0), (0, 3)]) rfl rfl (Nat.le_of_ble_eq_true rfl) (kc' := kc) (ks' := ks) (mc := 0) (ms := 0) rfl rfl (c_C_within) (pureK ?_)
  exact e_zret .boolean d_Years_isKind_6 rfl (Or.inl ⟨rfl, gb01 _⟩) h
theorem c_House_isRoom {e : gE} {b : Nat} {m : Int} {G : gH} {p0 : Int} : GX e b m m_House_isRoom [(0, p0)] G 0 0 (fun v9 G9 => v9 = ((if 0 ≤ p0 ∧ p0 < 12 then 1 else 0) : Int) ∧ G9 = G) := by
  refine GM.ofEV (by decide) (Nat.le_of_ble_eq_true rfl) (sg_House_isRoom_0 ?_)
  refine ⟨?_, rfl⟩
  (repeat' split) <;> omega
theorem c_Years_isKind {e : gE} {b : Nat} {m : Int} {G : gH} {p0 : Int} : GX e b m m_Years_isKind [(0, p0)] G 0 0 (fun v9 G9 => v9 = ((if 0 ≤ p0 ∧ p0 < 4 then 1 else 0) : Int) ∧ G9 = G) := by
  refine GM.ofEV (by decide) (Nat.le_of_ble_eq_true rfl) (sg_Years_isKind_0 ?_)
  refine ⟨?_, rfl⟩
  (repeat' split) <;> omega
set_option maxRecDepth 20000 in
set_option maxHeartbeats 4000000 in
theorem sg_House_wayTo_0 {e : gE} {b : Nat} {m : Int} {Z : Int → gH → Prop} {kc ks : Nat} {G : gH} {p1 : Int} (h : ((¬ (0 ≤ p1 ∧ p1 < 12)) → Z (-1) G) ∧ ((0 ≤ p1 ∧ p1 < 12) → (0 ≤ p1 ∧ p1 < 12) ∧ Z (G 1 ((b : Int) + 8) p1) G)) : EX e b m m_House_wayTo Z kc ks 0 [(2, ((b : Int) + 3)), (0, p1)] [] G := by
  refine e_iload_n d_House_wayTo_0 rfl ?_
  refine e_callS m_House_isRoom lw_good d_House_wayTo_1 (k_House_isRoom _) ⟨Nat.le_of_ble_eq_true rfl, Nat.le_of_ble_eq_true rfl⟩ w_310 w_311 (args := [(0, p1)]) rfl rfl (Nat.le_of_ble_eq_true rfl) (kc' := kc) (ks' := ks) (mc := 0) (ms := 0) rfl rfl (c_House_isRoom) (pureK ?_)
  refine e_if_eq (tgt := 16) d_House_wayTo_4 (by decide) (fun q1 => ?_) (fun q2 => ?_)
  · replace q1 := gb0.mp q1
    have h := h.1 q1
    refine e_iconst d_House_wayTo_16 (by decide) ?_
    exact e_iret d_House_wayTo_17 rfl h
  · replace q2 := gb1.mp q2
    have h := h.2 q2
    refine e_aload_n d_House_wayTo_7 rfl ?_
    refine gx_House_25 d_House_wayTo_8 rfl ?_
    refine e_iload_n d_House_wayTo_11 rfl ?_
    obtain ⟨o3, h⟩ := h
    refine xC_iald 7 rfl d_House_wayTo_12 o3 ?_
    refine e_goto (tgt := 17) d_House_wayTo_13 (by decide) ?_
    exact e_iret d_House_wayTo_17 rfl h
set_option maxRecDepth 20000 in
set_option maxHeartbeats 4000000 in
theorem sg_Years_keepOf_0 {e : gE} {b : Nat} {m : Int} {Z : Int → gH → Prop} {kc ks : Nat} {G : gH} {p1 : Int} (h : ((¬ (0 ≤ p1 ∧ p1 < 4)) → Z 0 G) ∧ ((0 ≤ p1 ∧ p1 < 4) → (0 ≤ p1 ∧ p1 < 4) ∧ Z (G 1 ((b : Int) + 22) p1) G)) : EX e b m m_Years_keepOf Z kc ks 0 [(2, ((b : Int) + 18)), (0, p1)] [] G := by
  refine e_iload_n d_Years_keepOf_0 rfl ?_
  refine e_callS m_Years_isKind lw_good d_Years_keepOf_1 (k_Years_isKind _) ⟨Nat.le_of_ble_eq_true rfl, Nat.le_of_ble_eq_true rfl⟩ w_1091 w_1092 (args := [(0, p1)]) rfl rfl (Nat.le_of_ble_eq_true rfl) (kc' := kc) (ks' := ks) (mc := 0) (ms := 0) rfl rfl (c_Years_isKind) (pureK ?_)
  refine e_if_eq (tgt := 16) d_Years_keepOf_4 (by decide) (fun q1 => ?_) (fun q2 => ?_)
  · replace q1 := gb0.mp q1
    have h := h.1 q1
    refine e_iconst d_Years_keepOf_16 (by decide) ?_
    exact e_iret d_Years_keepOf_17 rfl h
  · replace q2 := gb1.mp q2
    have h := h.2 q2
    refine e_aload_n d_Years_keepOf_7 rfl ?_
    refine gx_Years_34 d_Years_keepOf_8 rfl ?_
    refine e_iload_n d_Years_keepOf_11 rfl ?_
    obtain ⟨o3, h⟩ := h
    refine xC_iald 21 rfl d_Years_keepOf_12 o3 ?_
    refine e_goto (tgt := 17) d_Years_keepOf_13 (by decide) ?_
    exact e_iret d_Years_keepOf_17 rfl h
theorem c_House_wayTo {e : gE} {b : Nat} {m : Int} {G : gH} {p1 : Int} : GX e b m m_House_wayTo [(2, ((b : Int) + 3)), (0, p1)] G 0 0 (fun v9 G9 => v9 = (if 0 ≤ p1 ∧ p1 < 12 then G 1 ((b : Int) + 8) p1 else -1 : Int) ∧ G9 = G) := by
  refine GM.ofEV (by decide) (Nat.le_of_ble_eq_true rfl) (sg_House_wayTo_0 ?_)
  repeat' (first | apply And.intro | intro _)
  all_goals first | assumption | rfl | omega | (rw [if_pos (by omega)]) | (rw [if_neg (by omega)])
theorem c_Years_keepOf {e : gE} {b : Nat} {m : Int} {G : gH} {p1 : Int} : GX e b m m_Years_keepOf [(2, ((b : Int) + 18)), (0, p1)] G 0 0 (fun v9 G9 => v9 = (if 0 ≤ p1 ∧ p1 < 4 then G 1 ((b : Int) + 22) p1 else 0 : Int) ∧ G9 = G) := by
  refine GM.ofEV (by decide) (Nat.le_of_ble_eq_true rfl) (sg_Years_keepOf_0 ?_)
  repeat' (first | apply And.intro | intro _)
  all_goals first | assumption | rfl | omega | (rw [if_pos (by omega)]) | (rw [if_neg (by omega)])
set_option maxRecDepth 20000 in
set_option maxHeartbeats 4000000 in
theorem sg_C_far_0 {e : gE} {b : Nat} {m : Int} {Z : Int → gH → Prop} {kc ks : Nat} {G : gH} {p1 : Int} (h : Z (if 0 ≤ p1 ∧ p1 < 12 then G 1 ((b : Int) + 8) p1 else -1) G) : EX e b m m_C_far Z kc ks 0 [(2, ((b : Int) + 1)), (0, p1)] [] G := by
  refine e_aload_n d_C_far_0 rfl ?_
  refine gx_C_19 d_C_far_1 rfl ?_
  refine e_iload_n d_C_far_4 rfl ?_
  refine EV.inv fun hFf1 => ?_
  have f1 := (fx_ct 2 rfl hFf1).1
  refine e_callV m_House_wayTo 2 lw_good d_C_far_5 (k_House_wayTo _) ⟨Nat.le_of_ble_eq_true rfl, Nat.le_of_ble_eq_true rfl⟩ w_790 w_791 w_792 (q_House _) rfl f1 (args := [(0, p1)]) rfl rfl (Nat.le_of_ble_eq_true rfl) (kc' := kc) (ks' := ks) (mc := 0) (ms := 0) rfl rfl (c_House_wayTo) (pureK ?_)
  exact e_iret d_C_far_8 rfl h
set_option maxRecDepth 20000 in
set_option maxHeartbeats 4000000 in
theorem sg_C_fault_0 {e : gE} {b : Nat} {m : Int} {Z : Int → gH → Prop} {kc ks : Nat} {G : gH} (h : Z (G 729 ((b : Int) + 1) 0) G) : EX e b m m_C_fault Z kc ks 0 [(2, ((b : Int) + 1))] [] G := by
  refine e_aload_n d_C_fault_0 rfl ?_
  refine gx_C_77 d_C_fault_1 rfl ?_
  exact e_iret d_C_fault_4 rfl h
set_option maxRecDepth 20000 in
set_option maxHeartbeats 4000000 in
theorem sg_C_holds_0 {e : gE} {b : Nat} {m : Int} {Z : Int → gH → Prop} {kc ks : Nat} {G : gH} {p1 : Int} (h : ((¬ (zSh p1)) → Z (-1) G) ∧ (zSh p1 → (0 ≤ p1 ∧ p1 < 8) ∧ Z (G 1 ((b : Int) + 50) p1) G)) : EX e b m m_C_holds Z kc ks 0 [(2, ((b : Int) + 1)), (0, p1)] [] G := by
  refine e_iload_n d_C_holds_0 rfl ?_
  refine e_callS m_C_isShelf lw_good d_C_holds_1 (k_C_isShelf _) ⟨Nat.le_of_ble_eq_true rfl, Nat.le_of_ble_eq_true rfl⟩ w_486 w_487 (args := [(0, p1)]) rfl rfl (Nat.le_of_ble_eq_true rfl) (kc' := kc) (ks' := ks) (mc := 0) (ms := 0) rfl rfl (c_C_isShelf) (pureK ?_)
  refine e_if_eq (tgt := 16) d_C_holds_4 (by decide) (fun q1 => ?_) (fun q2 => ?_)
  · replace q1 := gb0.mp q1
    have h := h.1 q1
    refine e_iconst d_C_holds_16 (by decide) ?_
    exact e_iret d_C_holds_17 rfl h
  · replace q2 := gb1.mp q2
    have h := h.2 q2
    refine e_aload_n d_C_holds_7 rfl ?_
    refine gx_C_57 d_C_holds_8 rfl ?_
    refine e_iload_n d_C_holds_11 rfl ?_
    obtain ⟨o3, h⟩ := h
    refine xC_iald 49 rfl d_C_holds_12 o3 ?_
    refine e_goto (tgt := 17) d_C_holds_13 (by decide) ?_
    exact e_iret d_C_holds_17 rfl h
set_option maxRecDepth 20000 in
set_option maxHeartbeats 4000000 in
theorem sg_C_element_0 {e : gE} {b : Nat} {m : Int} {Z : Int → gH → Prop} {kc ks : Nat} {G : gH} {p1 p2 : Int} (h : ((if zHr b G p1 then G 3 ((b : Int) + 33) p1 else 0) ≠ 0 → (G 0 (if zHr b G p1 then G 3 ((b : Int) + 33) p1 else 0) 0 = 7) ∧ (G 0 (if zHr b G p1 then G 3 ((b : Int) + 33) p1 else 0) 0 = 7) ∧ (zEl G (if zHr b G p1 then G 3 ((b : Int) + 33) p1 else 0)) ∧ Z (if zHs G (if zHr b G p1 then G 3 ((b : Int) + 33) p1 else 0) p2 then G 2 (G 400 (if zHr b G p1 then G 3 ((b : Int) + 33) p1 else 0) 0) p2 else 0) G) ∧ ((if zHr b G p1 then G 3 ((b : Int) + 33) p1 else 0) = 0 → Z 0 G)) : EX e b m m_C_element Z kc ks 0 [(2, ((b : Int) + 1)), (0, p1), (0, p2), (9, 0)] [] G := by
  refine e_aload_n d_C_element_0 rfl ?_
  refine e_iload_n d_C_element_1 rfl ?_
  refine EV.inv fun hFf1 => ?_
  have f1 := (fx_ct 0 rfl hFf1).1
  refine e_callV m_C_rowIn 11 lw_good d_C_element_2 (k_C_rowIn _) ⟨Nat.le_of_ble_eq_true rfl, Nat.le_of_ble_eq_true rfl⟩ w_482 w_484 w_s7 (q_C _) rfl f1 (args := [(0, p1)]) rfl rfl (Nat.le_of_ble_eq_true rfl) (kc' := kc) (ks' := ks) (mc := 0) (ms := 0) rfl rfl (c_C_rowIn) (pureK ?_)
  refine e_astore_n (ls' := [(2, ((b : Int) + 1)), (0, p1), (0, p2), (2, (if zHr b G p1 then G 3 ((b : Int) + 33) p1 else 0))]) d_C_element_5 (by decide) rfl ?_
  refine e_aload_n d_C_element_6 rfl ?_
  refine e_ifnonnull (tgt := 14) d_C_element_7 (by decide) (fun q2 => ?_) (fun q3 => ?_)
  · have h := h.1 q2
    refine e_aload_n d_C_element_14 rfl ?_
    refine e_iload_n d_C_element_15 rfl ?_
    obtain ⟨o4, o5, o6, h⟩ := h
    refine e_callV m_Row_at 6 lw_good d_C_element_16 (k_Row_at _) ⟨Nat.le_of_ble_eq_true rfl, Nat.le_of_ble_eq_true rfl⟩ w_841 w_520 w_521 (q_Row _) rfl o4 (args := [(0, p2)]) rfl rfl (Nat.le_of_ble_eq_true rfl) (kc' := kc) (ks' := ks) (mc := 0) (ms := 0) rfl rfl (c_Row_at o5 o6) (pureK ?_)
    exact e_lret d_C_element_19 rfl h
  · have h := h.2 q3
    refine e_lconst 0 d_C_element_10 (by decide) (by decide) ?_
    refine e_goto (tgt := 19) d_C_element_11 (by decide) ?_
    exact e_lret d_C_element_19 rfl h
set_option maxRecDepth 20000 in
set_option maxHeartbeats 4000000 in
theorem sg_C_band_0 {e : gE} {b : Nat} {m : Int} {Z : Int → gH → Prop} {kc ks : Nat} {G : gH} {p1 p2 p3 : Int} (h : (((0 ≤ p1 ∧ p1 ≤ 3) → (0 ≤ p2 → (p2 ≤ p3 → (p3 ≤ 100 → GX e b m m_Years_changeBand [(2, ((b : Int) + 18)), (0, p1), (0, p2), (0, p3)] G 0 0 (fun _ G11 => Z 1 G11))))) ∧ ((¬ (0 ≤ p1 ∧ p1 ≤ 3)) → GX e b m m_C_refuse [(2, ((b : Int) + 1)), (0, (-1))] G 0 0 (fun v13 G14 => Z v13 G14))) ∧ ((((0 ≤ p1 ∧ p1 ≤ 3) ∧ p2 < 0) ∨ ((0 ≤ p1 ∧ p1 ≤ 3) ∧ 0 ≤ p2 ∧ p3 < p2) ∨ ((0 ≤ p1 ∧ p1 ≤ 3) ∧ 0 ≤ p2 ∧ p2 ≤ p3 ∧ 100 < p3)) → GX e b m m_C_refuse [(2, ((b : Int) + 1)), (0, (-6))] G 0 0 (fun v17 G18 => Z v17 G18))) : EX e b m m_C_band Z kc ks 0 [(2, ((b : Int) + 1)), (0, p1), (0, p2), (0, p3)] [] G := by
  obtain ⟨h, hJ15⟩ := h
  have kJ15 : (((0 ≤ p1 ∧ p1 ≤ 3) ∧ p2 < 0) ∨ ((0 ≤ p1 ∧ p1 ≤ 3) ∧ 0 ≤ p2 ∧ p3 < p2) ∨ ((0 ≤ p1 ∧ p1 ≤ 3) ∧ 0 ≤ p2 ∧ p2 ≤ p3 ∧ 100 < p3)) → EX e b m m_C_band Z kc ks 30 [(2, ((b : Int) + 1)), (0, p1), (0, p2), (0, p3)] [] G := by
    intro rJ15
    have h := hJ15 rJ15
    refine e_aload_n d_C_band_30 rfl ?_
    refine e_bipush d_C_band_31 (by decide) (by decide) ?_
    refine EV.inv fun hFf16 => ?_
    have f16 := (fx_ct 0 rfl hFf16).1
    refine e_callV m_C_refuse 11 lw_good d_C_band_33 (k_C_refuse _) ⟨Nat.le_of_ble_eq_true rfl, Nat.le_of_ble_eq_true rfl⟩ w_297 w_299 w_s0 (q_C _) rfl f16 (args := [(0, (-6))]) rfl rfl (Nat.le_of_ble_eq_true rfl) (kc' := kc) (ks' := ks) (mc := 0) (ms := 0) rfl rfl h ?_
    intro v17 G18 h
    exact e_iret d_C_band_36 rfl h
  refine e_iload_n d_C_band_0 rfl ?_
  refine e_iconst d_C_band_1 (by decide) ?_
  refine e_iconst d_C_band_2 (by decide) ?_
  refine e_callS m_C_within lw_good d_C_band_3 (k_C_within _) ⟨Nat.le_of_ble_eq_true rfl, Nat.le_of_ble_eq_true rfl⟩ w_294 w_295 (args := [(0, p1), (0, 0), (0, 3)]) rfl rfl (Nat.le_of_ble_eq_true rfl) (kc' := kc) (ks' := ks) (mc := 0) (ms := 0) rfl rfl (c_C_within) (pureK ?_)
  refine e_if_ne (tgt := 15) d_C_band_6 (by decide) (fun q1 => ?_) (fun q2 => ?_)
  · replace q1 := gb1.mp q1
    have h := h.1 q1
    refine e_iload_n d_C_band_15 rfl ?_
    refine e_if_lt (tgt := 30) d_C_band_16 (by decide) (fun q3 => ?_) (fun q4 => ?_)
    · exact kJ15 (Or.inl ⟨q1, q3⟩)
    · have h := h q4
      refine e_iload_n d_C_band_19 rfl ?_
      refine e_iload_n d_C_band_20 rfl ?_
      refine e_icmp_gt (tgt := 30) d_C_band_21 (by decide) (fun q5 => ?_) (fun q6 => ?_)
      · exact kJ15 (Or.inr (Or.inl ⟨q1, q4, q5⟩))
      · have h := h q6
        refine e_iload_n d_C_band_24 rfl ?_
        refine e_bipush d_C_band_25 (by decide) (by decide) ?_
        refine e_icmp_le (tgt := 37) d_C_band_27 (by decide) (fun q7 => ?_) (fun q8 => ?_)
        · have h := h q7
          refine e_aload_n d_C_band_37 rfl ?_
          refine gx_C_37 d_C_band_38 rfl ?_
          refine e_iload_n d_C_band_41 rfl ?_
          refine e_iload_n d_C_band_42 rfl ?_
          refine e_iload_n d_C_band_43 rfl ?_
          refine EV.inv fun hFf9 => ?_
          have f9 := (fx_ct 17 rfl hFf9).1
          refine e_callV m_Years_changeBand 10 lw_good d_C_band_44 (k_Years_changeBand _) ⟨Nat.le_of_ble_eq_true rfl, Nat.le_of_ble_eq_true rfl⟩ w_1087 w_1088 w_1089 (q_Years _) rfl f9 (args := [(0, p1), (0, p2), (0, p3)]) rfl rfl (Nat.le_of_ble_eq_true rfl) (kc' := kc) (ks' := ks) (mc := 0) (ms := 0) rfl rfl h ?_
          intro v10 G11 h
          refine e_iconst d_C_band_47 (by decide) ?_
          exact e_iret d_C_band_48 rfl h
        · exact kJ15 (Or.inr (Or.inr ⟨q1, q4, q6, q8⟩))
  · replace q2 := gb0.mp q2
    have h := h.2 q2
    refine e_aload_n d_C_band_9 rfl ?_
    refine e_iconst d_C_band_10 (by decide) ?_
    refine EV.inv fun hFf12 => ?_
    have f12 := (fx_ct 0 rfl hFf12).1
    refine e_callV m_C_refuse 11 lw_good d_C_band_11 (k_C_refuse _) ⟨Nat.le_of_ble_eq_true rfl, Nat.le_of_ble_eq_true rfl⟩ w_297 w_299 w_s0 (q_C _) rfl f12 (args := [(0, (-1))]) rfl rfl (Nat.le_of_ble_eq_true rfl) (kc' := kc) (ks' := ks) (mc := 0) (ms := 0) rfl rfl h ?_
    intro v13 G14 h
    exact e_iret d_C_band_14 rfl h
set_option maxRecDepth 20000 in
set_option maxHeartbeats 4000000 in
theorem sg_Years_changeBand_0 {e : gE} {b : Nat} {m : Int} {Z : Int → gH → Prop} {kc ks : Nat} {G : gH} {p1 p2 p3 : Int} (h : ((¬ (0 ≤ p1 ∧ p1 < 4)) → Z 0 G) ∧ ((0 ≤ p1 ∧ p1 < 4) → (0 ≤ p1 ∧ p1 < 4) ∧ (∀ G4 : gH, G4 = gU G 1 ((b : Int) + 20) p1 p2 → ∀ G5 : gH, G5 = gU G4 1 ((b : Int) + 21) p1 p3 → Z 0 G5))) : EX e b m m_Years_changeBand Z kc ks 0 [(2, ((b : Int) + 18)), (0, p1), (0, p2), (0, p3)] [] G := by
  refine e_iload_n d_Years_changeBand_0 rfl ?_
  refine e_callS m_Years_isKind lw_good d_Years_changeBand_1 (k_Years_isKind _) ⟨Nat.le_of_ble_eq_true rfl, Nat.le_of_ble_eq_true rfl⟩ w_1091 w_1092 (args := [(0, p1)]) rfl rfl (Nat.le_of_ble_eq_true rfl) (kc' := kc) (ks' := ks) (mc := 0) (ms := 0) rfl rfl (c_Years_isKind) (pureK ?_)
  refine e_if_eq (tgt := 21) d_Years_changeBand_4 (by decide) (fun q1 => ?_) (fun q2 => ?_)
  · replace q1 := gb0.mp q1
    have h := h.1 q1
    exact e_vret d_Years_changeBand_21 rfl h
  · replace q2 := gb1.mp q2
    have h := h.2 q2
    refine e_aload_n d_Years_changeBand_7 rfl ?_
    refine gx_Years_21 d_Years_changeBand_8 rfl ?_
    refine e_iload_n d_Years_changeBand_11 rfl ?_
    refine e_iload_n d_Years_changeBand_12 rfl ?_
    obtain ⟨o3, h⟩ := h
    refine xC_iast 19 rfl d_Years_changeBand_13 o3 ?_
    let G4 : gH := gU G 1 ((b : Int) + 20) p1 p2
    have h := h G4 rfl
    refine e_aload_n d_Years_changeBand_14 rfl ?_
    refine gx_Years_25 d_Years_changeBand_15 rfl ?_
    refine e_iload_n d_Years_changeBand_18 rfl ?_
    refine e_iload_n d_Years_changeBand_19 rfl ?_
    refine xC_iast 20 rfl d_Years_changeBand_20 o3 ?_
    let G5 : gH := gU G4 1 ((b : Int) + 21) p1 p3
    have h := h G5 rfl
    exact e_vret d_Years_changeBand_21 rfl h
set_option maxRecDepth 20000 in
set_option maxHeartbeats 4000000 in
theorem sg_C_keep_0 {e : gE} {b : Nat} {m : Int} {Z : Int → gH → Prop} {kc ks : Nat} {G : gH} {p1 p2 : Int} (h : ((0 ≤ p1 ∧ p1 ≤ 3) → ((¬ (0 ≤ p2 ∧ p2 ≤ 9)) → GX e b m m_C_refuse [(2, ((b : Int) + 1)), (0, (-6))] G 0 0 (fun v6 G7 => Z v6 G7)) ∧ ((0 ≤ p2 ∧ p2 ≤ 9) → GX e b m m_Years_changeKeep [(2, ((b : Int) + 18)), (0, p1), (0, p2)] G 0 0 (fun v9 G10 => Z v9 G10))) ∧ ((¬ (0 ≤ p1 ∧ p1 ≤ 3)) → GX e b m m_C_refuse [(2, ((b : Int) + 1)), (0, (-1))] G 0 0 (fun v12 G13 => Z v12 G13))) : EX e b m m_C_keep Z kc ks 0 [(2, ((b : Int) + 1)), (0, p1), (0, p2)] [] G := by
  refine e_iload_n d_C_keep_0 rfl ?_
  refine e_iconst d_C_keep_1 (by decide) ?_
  refine e_iconst d_C_keep_2 (by decide) ?_
  refine e_callS m_C_within lw_good d_C_keep_3 (k_C_within _) ⟨Nat.le_of_ble_eq_true rfl, Nat.le_of_ble_eq_true rfl⟩ w_294 w_295 (args := [(0, p1), (0, 0), (0, 3)]) rfl rfl (Nat.le_of_ble_eq_true rfl) (kc' := kc) (ks' := ks) (mc := 0) (ms := 0) rfl rfl (c_C_within) (pureK ?_)
  refine e_if_ne (tgt := 15) d_C_keep_6 (by decide) (fun q1 => ?_) (fun q2 => ?_)
  · replace q1 := gb1.mp q1
    have h := h.1 q1
    refine e_iload_n d_C_keep_15 rfl ?_
    refine e_iconst d_C_keep_16 (by decide) ?_
    refine e_bipush d_C_keep_17 (by decide) (by decide) ?_
    refine e_callS m_C_within lw_good d_C_keep_19 (k_C_within _) ⟨Nat.le_of_ble_eq_true rfl, Nat.le_of_ble_eq_true rfl⟩ w_294 w_295 (args := [(0, p2), (0, 0), (0, 9)]) rfl rfl (Nat.le_of_ble_eq_true rfl) (kc' := kc) (ks' := ks) (mc := 0) (ms := 0) rfl rfl (c_C_within) (pureK ?_)
    refine e_if_eq (tgt := 37) d_C_keep_22 (by decide) (fun q3 => ?_) (fun q4 => ?_)
    · replace q3 := gb0.mp q3
      have h := h.1 q3
      refine e_aload_n d_C_keep_37 rfl ?_
      refine e_bipush d_C_keep_38 (by decide) (by decide) ?_
      refine EV.inv fun hFf5 => ?_
      have f5 := (fx_ct 0 rfl hFf5).1
      refine e_callV m_C_refuse 11 lw_good d_C_keep_40 (k_C_refuse _) ⟨Nat.le_of_ble_eq_true rfl, Nat.le_of_ble_eq_true rfl⟩ w_297 w_299 w_s0 (q_C _) rfl f5 (args := [(0, (-6))]) rfl rfl (Nat.le_of_ble_eq_true rfl) (kc' := kc) (ks' := ks) (mc := 0) (ms := 0) rfl rfl h ?_
      intro v6 G7 h
      exact e_iret d_C_keep_43 rfl h
    · replace q4 := gb1.mp q4
      have h := h.2 q4
      refine e_aload_n d_C_keep_25 rfl ?_
      refine gx_C_37 d_C_keep_26 rfl ?_
      refine e_iload_n d_C_keep_29 rfl ?_
      refine e_iload_n d_C_keep_30 rfl ?_
      refine EV.inv fun hFf8 => ?_
      have f8 := (fx_ct 17 rfl hFf8).1
      refine e_callV m_Years_changeKeep 10 lw_good d_C_keep_31 (k_Years_changeKeep _) ⟨Nat.le_of_ble_eq_true rfl, Nat.le_of_ble_eq_true rfl⟩ w_1098 w_1099 w_1100 (q_Years _) rfl f8 (args := [(0, p1), (0, p2)]) rfl rfl (Nat.le_of_ble_eq_true rfl) (kc' := kc) (ks' := ks) (mc := 0) (ms := 0) rfl rfl h ?_
      intro v9 G10 h
      refine e_goto (tgt := 43) d_C_keep_34 (by decide) ?_
      exact e_iret d_C_keep_43 rfl h
  · replace q2 := gb0.mp q2
    have h := h.2 q2
    refine e_aload_n d_C_keep_9 rfl ?_
    refine e_iconst d_C_keep_10 (by decide) ?_
    refine EV.inv fun hFf11 => ?_
    have f11 := (fx_ct 0 rfl hFf11).1
    refine e_callV m_C_refuse 11 lw_good d_C_keep_11 (k_C_refuse _) ⟨Nat.le_of_ble_eq_true rfl, Nat.le_of_ble_eq_true rfl⟩ w_297 w_299 w_s0 (q_C _) rfl f11 (args := [(0, (-1))]) rfl rfl (Nat.le_of_ble_eq_true rfl) (kc' := kc) (ks' := ks) (mc := 0) (ms := 0) rfl rfl h ?_
    intro v12 G13 h
    exact e_iret d_C_keep_14 rfl h
set_option maxRecDepth 20000 in
set_option maxHeartbeats 4000000 in
theorem sg_Years_changeKeep_0 {e : gE} {b : Nat} {m : Int} {Z : Int → gH → Prop} {kc ks : Nat} {G : gH} {p1 p2 : Int} (h : ((¬ (0 ≤ p1 ∧ p1 < 4)) → Z (if 0 ≤ p1 ∧ p1 < 4 then G 1 ((b : Int) + 22) p1 else 0) G) ∧ ((0 ≤ p1 ∧ p1 < 4) → (0 ≤ p1 ∧ p1 < 4) ∧ (∀ G5 : gH, G5 = gU G 1 ((b : Int) + 22) p1 p2 → Z (if 0 ≤ p1 ∧ p1 < 4 then G 1 ((b : Int) + 22) p1 else 0) G5))) : EX e b m m_Years_changeKeep Z kc ks 0 [(2, ((b : Int) + 18)), (0, p1), (0, p2), (9, 0)] [] G := by
  refine e_aload_n d_Years_changeKeep_0 rfl ?_
  refine e_iload_n d_Years_changeKeep_1 rfl ?_
  refine EV.inv fun hFf1 => ?_
  have f1 := (fx_ct 17 rfl hFf1).1
  refine e_callV m_Years_keepOf 10 lw_good d_Years_changeKeep_2 (k_Years_keepOf _) ⟨Nat.le_of_ble_eq_true rfl, Nat.le_of_ble_eq_true rfl⟩ w_1102 w_1103 w_1104 (q_Years _) rfl f1 (args := [(0, p1)]) rfl rfl (Nat.le_of_ble_eq_true rfl) (kc' := kc) (ks' := ks) (mc := 0) (ms := 0) rfl rfl (c_Years_keepOf) (pureK ?_)
  refine e_istore_n (ls' := [(2, ((b : Int) + 18)), (0, p1), (0, p2), (0, (if 0 ≤ p1 ∧ p1 < 4 then G 1 ((b : Int) + 22) p1 else 0))]) d_Years_changeKeep_5 (by decide) rfl ?_
  refine e_iload_n d_Years_changeKeep_6 rfl ?_
  refine e_callS m_Years_isKind lw_good d_Years_changeKeep_7 (k_Years_isKind _) ⟨Nat.le_of_ble_eq_true rfl, Nat.le_of_ble_eq_true rfl⟩ w_1091 w_1092 (args := [(0, p1)]) rfl rfl (Nat.le_of_ble_eq_true rfl) (kc' := kc) (ks' := ks) (mc := 0) (ms := 0) rfl rfl (c_Years_isKind) (pureK ?_)
  refine e_if_eq (tgt := 20) d_Years_changeKeep_10 (by decide) (fun q2 => ?_) (fun q3 => ?_)
  · replace q2 := gb0.mp q2
    have h := h.1 q2
    refine e_iload_n d_Years_changeKeep_20 rfl ?_
    exact e_iret d_Years_changeKeep_21 rfl h
  · replace q3 := gb1.mp q3
    have h := h.2 q3
    refine e_aload_n d_Years_changeKeep_13 rfl ?_
    refine gx_Years_34 d_Years_changeKeep_14 rfl ?_
    refine e_iload_n d_Years_changeKeep_17 rfl ?_
    refine e_iload_n d_Years_changeKeep_18 rfl ?_
    obtain ⟨o4, h⟩ := h
    refine xC_iast 21 rfl d_Years_changeKeep_19 o4 ?_
    let G5 : gH := gU G 1 ((b : Int) + 22) p1 p2
    have h := h G5 rfl
    refine e_iload_n d_Years_changeKeep_20 rfl ?_
    exact e_iret d_Years_changeKeep_21 rfl h
set_option maxRecDepth 20000 in
set_option maxHeartbeats 4000000 in
theorem sg_C_fuel_0 {e : gE} {b : Nat} {m : Int} {Z : Int → gH → Prop} {kc ks : Nat} {G : gH} {p1 : Int} (h : ((¬ (0 ≤ p1 ∧ p1 ≤ 10000)) → GX e b m m_C_refuse [(2, ((b : Int) + 1)), (0, (-6))] G 0 0 (fun v4 G5 => Z v4 G5)) ∧ ((0 ≤ p1 ∧ p1 ≤ 10000) → GX e b m m_Years_pour [(2, ((b : Int) + 18)), (0, p1)] G 0 0 (fun v7 G8 => Z v7 G8))) : EX e b m m_C_fuel Z kc ks 0 [(2, ((b : Int) + 1)), (0, p1)] [] G := by
  refine e_iload_n d_C_fuel_0 rfl ?_
  refine e_iconst d_C_fuel_1 (by decide) ?_
  refine e_sipush d_C_fuel_2 (by decide) (by decide) ?_
  refine e_callS m_C_within lw_good d_C_fuel_5 (k_C_within _) ⟨Nat.le_of_ble_eq_true rfl, Nat.le_of_ble_eq_true rfl⟩ w_294 w_295 (args := [(0, p1), (0, 0), (0, 10000)]) rfl rfl (Nat.le_of_ble_eq_true rfl) (kc' := kc) (ks' := ks) (mc := 0) (ms := 0) rfl rfl (c_C_within) (pureK ?_)
  refine e_if_eq (tgt := 22) d_C_fuel_8 (by decide) (fun q1 => ?_) (fun q2 => ?_)
  · replace q1 := gb0.mp q1
    have h := h.1 q1
    refine e_aload_n d_C_fuel_22 rfl ?_
    refine e_bipush d_C_fuel_23 (by decide) (by decide) ?_
    refine EV.inv fun hFf3 => ?_
    have f3 := (fx_ct 0 rfl hFf3).1
    refine e_callV m_C_refuse 11 lw_good d_C_fuel_25 (k_C_refuse _) ⟨Nat.le_of_ble_eq_true rfl, Nat.le_of_ble_eq_true rfl⟩ w_297 w_299 w_s0 (q_C _) rfl f3 (args := [(0, (-6))]) rfl rfl (Nat.le_of_ble_eq_true rfl) (kc' := kc) (ks' := ks) (mc := 0) (ms := 0) rfl rfl h ?_
    intro v4 G5 h
    exact e_iret d_C_fuel_28 rfl h
  · replace q2 := gb1.mp q2
    have h := h.2 q2
    refine e_aload_n d_C_fuel_11 rfl ?_
    refine gx_C_37 d_C_fuel_12 rfl ?_
    refine e_iload_n d_C_fuel_15 rfl ?_
    refine EV.inv fun hFf6 => ?_
    have f6 := (fx_ct 17 rfl hFf6).1
    refine e_callV m_Years_pour 10 lw_good d_C_fuel_16 (k_Years_pour _) ⟨Nat.le_of_ble_eq_true rfl, Nat.le_of_ble_eq_true rfl⟩ w_1110 w_1111 w_1112 (q_Years _) rfl f6 (args := [(0, p1)]) rfl rfl (Nat.le_of_ble_eq_true rfl) (kc' := kc) (ks' := ks) (mc := 0) (ms := 0) rfl rfl h ?_
    intro v7 G8 h
    refine e_goto (tgt := 28) d_C_fuel_19 (by decide) ?_
    exact e_iret d_C_fuel_28 rfl h
set_option maxRecDepth 20000 in
set_option maxHeartbeats 4000000 in
theorem sg_Years_pour_0 {e : gE} {b : Nat} {m : Int} {Z : Int → gH → Prop} {kc ks : Nat} {G : gH} {p1 : Int} (h : (inI ((G 662 ((b : Int) + 18) 0) + p1)) ∧ (∀ G2 : gH, G2 = gU G 662 ((b : Int) + 18) 0 (if ((G 662 ((b : Int) + 18) 0) + p1) < 1000000 then ((G 662 ((b : Int) + 18) 0) + p1) else 1000000) → Z (G2 662 ((b : Int) + 18) 0) G2)) : EX e b m m_Years_pour Z kc ks 0 [(2, ((b : Int) + 18)), (0, p1)] [] G := by
  refine e_aload_n d_Years_pour_0 rfl ?_
  refine e_ldc 1000000 d_Years_pour_1 (by decide) w_1114 ?_
  refine e_aload_n d_Years_pour_3 rfl ?_
  refine gx_Years_70 d_Years_pour_4 rfl ?_
  refine e_iload_n d_Years_pour_7 rfl ?_
  obtain ⟨o1, h⟩ := h
  refine e_iadd d_Years_pour_8 o1 ?_
  refine e_callS m_Math_min_a lw_good d_Years_pour_9 (k_Math_min_a _) ⟨Nat.le_of_ble_eq_true rfl, Nat.le_of_ble_eq_true rfl⟩ w_1115 w_406 (args := [(0, 1000000), (0, ((G 662 ((b : Int) + 18) 0) + p1))]) rfl rfl (Nat.le_of_ble_eq_true rfl) (kc' := kc) (ks' := ks) (mc := 0) (ms := 0) rfl rfl (c_Math_min_a) (pureK ?_)
  refine px_Years_70 d_Years_pour_12 rfl ?_
  let G2 : gH := gU G 662 ((b : Int) + 18) 0 (if ((G 662 ((b : Int) + 18) 0) + p1) < 1000000 then ((G 662 ((b : Int) + 18) 0) + p1) else 1000000)
  have h := h G2 rfl
  refine e_aload_n d_Years_pour_15 rfl ?_
  refine gx_Years_70 d_Years_pour_16 rfl ?_
  exact e_iret d_Years_pour_19 rfl h
set_option maxRecDepth 20000 in
set_option maxHeartbeats 4000000 in
theorem sg_Row_renew_0 {e : gE} {b : Nat} {m : Int} {Z : Int → gH → Prop} {kc ks : Nat} {G : gH} {a0 p1 p2 : Int} (t0 : G 0 a0 0 = 7) (h : ((¬ (0 ≤ p1 ∧ p1 ≤ 3)) → ((b : Int) < a0) ∧ (∀ G4 : gH, G4 = gU G 401 a0 0 0 → ∀ G5 : gH, G5 = gU G4 402 a0 0 (if 0 < (if 60 < p2 then 60 else p2) then (if 60 < p2 then 60 else p2) else 0) → GX e b m m_Arrays_fill_b [(2, (G 400 a0 0)), (1, 0)] G5 0 0 (fun _ G7 => Z 0 G7))) ∧ ((0 ≤ p1 ∧ p1 ≤ 3) → ((b : Int) < a0) ∧ (∀ G9 : gH, G9 = gU G 401 a0 0 p1 → ∀ G10 : gH, G10 = gU G9 402 a0 0 (if 0 < (if 60 < p2 then 60 else p2) then (if 60 < p2 then 60 else p2) else 0) → GX e b m m_Arrays_fill_b [(2, (G 400 a0 0)), (1, 0)] G10 0 0 (fun _ G12 => Z 0 G12)))) : EX e b m m_Row_renew Z kc ks 0 [(2, a0), (0, p1), (0, p2)] [] G := by
  refine e_aload_n d_Row_renew_0 rfl ?_
  refine e_iload_n d_Row_renew_1 rfl ?_
  refine e_iconst d_Row_renew_2 (by decide) ?_
  refine e_iconst d_Row_renew_3 (by decide) ?_
  refine e_callSN m_C_within "MuseumFlight" lw_good d_Row_renew_4 (k_C_within _) ⟨Nat.le_of_ble_eq_true rfl, Nat.le_of_ble_eq_true rfl⟩ w_802 w_295 (args := [(0, p1), (0, 0), (0, 3)]) rfl rfl (Nat.le_of_ble_eq_true rfl) (kc' := kc) (ks' := ks) (mc := 0) (ms := 0) rfl rfl (c_C_within) (pureK ?_)
  refine e_if_eq (tgt := 14) d_Row_renew_7 (by decide) (fun q1 => ?_) (fun q2 => ?_)
  · replace q1 := gb0.mp q1
    have h := h.1 q1
    refine e_iconst d_Row_renew_14 (by decide) ?_
    obtain ⟨o3, h⟩ := h
    refine gp_Row_19 d_Row_renew_15 rfl t0 o3 (fx_U (by decide)) ?_
    let G4 : gH := gU G 401 a0 0 0
    have h := h G4 rfl
    refine e_aload_n d_Row_renew_18 rfl ?_
    refine e_iconst d_Row_renew_19 (by decide) ?_
    refine e_iload_n d_Row_renew_20 rfl ?_
    refine e_bipush d_Row_renew_21 (by decide) (by decide) ?_
    refine e_callS m_Math_min_a lw_good d_Row_renew_23 (k_Math_min_a _) ⟨Nat.le_of_ble_eq_true rfl, Nat.le_of_ble_eq_true rfl⟩ w_803 w_406 (args := [(0, p2), (0, 60)]) rfl rfl (Nat.le_of_ble_eq_true rfl) (kc' := kc) (ks' := ks) (mc := 0) (ms := 0) rfl rfl (c_Math_min_a) (pureK ?_)
    refine e_callS m_Math_max_a lw_good d_Row_renew_26 (k_Math_max_a _) ⟨Nat.le_of_ble_eq_true rfl, Nat.le_of_ble_eq_true rfl⟩ w_804 w_373 (args := [(0, 0), (0, (if 60 < p2 then 60 else p2))]) rfl rfl (Nat.le_of_ble_eq_true rfl) (kc' := kc) (ks' := ks) (mc := 0) (ms := 0) rfl rfl (c_Math_max_a) (pureK ?_)
    refine gp_Row_32 d_Row_renew_29 rfl t0 o3 (fx_U (by decide)) ?_
    let G5 : gH := gU G4 402 a0 0 (if 0 < (if 60 < p2 then 60 else p2) then (if 60 < p2 then 60 else p2) else 0)
    have h := h G5 rfl
    refine e_aload_n d_Row_renew_32 rfl ?_
    refine gf_Row_9 d_Row_renew_33 rfl t0 ?_
    refine e_lconst 0 d_Row_renew_36 (by decide) (by decide) ?_
    refine e_callS m_Arrays_fill_b lw_good d_Row_renew_37 (k_Arrays_fill_b _) ⟨Nat.le_of_ble_eq_true rfl, Nat.le_of_ble_eq_true rfl⟩ w_805 w_696 (args := [(2, (G 400 a0 0)), (1, 0)]) rfl rfl (Nat.le_of_ble_eq_true rfl) (kc' := kc) (ks' := ks) (mc := 0) (ms := 0) rfl rfl h ?_
    intro v6 G7 h
    exact e_vret d_Row_renew_40 rfl h
  · replace q2 := gb1.mp q2
    have h := h.2 q2
    refine e_iload_n d_Row_renew_10 rfl ?_
    refine e_goto (tgt := 15) d_Row_renew_11 (by decide) ?_
    obtain ⟨o8, h⟩ := h
    refine gp_Row_19 d_Row_renew_15 rfl t0 o8 (fx_U (by decide)) ?_
    let G9 : gH := gU G 401 a0 0 p1
    have h := h G9 rfl
    refine e_aload_n d_Row_renew_18 rfl ?_
    refine e_iconst d_Row_renew_19 (by decide) ?_
    refine e_iload_n d_Row_renew_20 rfl ?_
    refine e_bipush d_Row_renew_21 (by decide) (by decide) ?_
    refine e_callS m_Math_min_a lw_good d_Row_renew_23 (k_Math_min_a _) ⟨Nat.le_of_ble_eq_true rfl, Nat.le_of_ble_eq_true rfl⟩ w_803 w_406 (args := [(0, p2), (0, 60)]) rfl rfl (Nat.le_of_ble_eq_true rfl) (kc' := kc) (ks' := ks) (mc := 0) (ms := 0) rfl rfl (c_Math_min_a) (pureK ?_)
    refine e_callS m_Math_max_a lw_good d_Row_renew_26 (k_Math_max_a _) ⟨Nat.le_of_ble_eq_true rfl, Nat.le_of_ble_eq_true rfl⟩ w_804 w_373 (args := [(0, 0), (0, (if 60 < p2 then 60 else p2))]) rfl rfl (Nat.le_of_ble_eq_true rfl) (kc' := kc) (ks' := ks) (mc := 0) (ms := 0) rfl rfl (c_Math_max_a) (pureK ?_)
    refine gp_Row_32 d_Row_renew_29 rfl t0 o8 (fx_U (by decide)) ?_
    let G10 : gH := gU G9 402 a0 0 (if 0 < (if 60 < p2 then 60 else p2) then (if 60 < p2 then 60 else p2) else 0)
    have h := h G10 rfl
    refine e_aload_n d_Row_renew_32 rfl ?_
    refine gf_Row_9 d_Row_renew_33 rfl t0 ?_
    refine e_lconst 0 d_Row_renew_36 (by decide) (by decide) ?_
    refine e_callS m_Arrays_fill_b lw_good d_Row_renew_37 (k_Arrays_fill_b _) ⟨Nat.le_of_ble_eq_true rfl, Nat.le_of_ble_eq_true rfl⟩ w_805 w_696 (args := [(2, (G 400 a0 0)), (1, 0)]) rfl rfl (Nat.le_of_ble_eq_true rfl) (kc' := kc) (ks' := ks) (mc := 0) (ms := 0) rfl rfl h ?_
    intro v11 G12 h
    exact e_vret d_Row_renew_40 rfl h
set_option maxRecDepth 20000 in
set_option maxHeartbeats 4000000 in
theorem sg_C_row_0 {e : gE} {b : Nat} {m : Int} {Z : Int → gH → Prop} {kc ks : Nat} {G : gH} {p1 p2 p3 : Int} (h : (zSh p1 → (0 ≤ p3 → ((0 ≤ p2 ∧ p2 ≤ 3) → (p3 ≤ 60 → (0 ≤ p1 ∧ p1 < 8) ∧ ((G 0 (G 3 ((b : Int) + 33) p1) 0 = 7) ∧ (GX e b m m_Row_renew [(2, (G 3 ((b : Int) + 33) p1)), (0, p2), (0, p3)] G 0 0 (fun _ G13 => (inI (100 + p2)) ∧ (∀ G15 : gH, G15 = gU G13 1 ((b : Int) + 50) p1 (100 + p2) → Z 1 G15))))) ∧ (60 < p3 → GX e b m m_C_refuse [(2, ((b : Int) + 1)), (0, (-7))] G 0 0 (fun v17 G18 => Z v17 G18))) ∧ ((¬ (0 ≤ p2 ∧ p2 ≤ 3)) → GX e b m m_C_refuse [(2, ((b : Int) + 1)), (0, (-6))] G 0 0 (fun v20 G21 => Z v20 G21))) ∧ (p3 < 0 → GX e b m m_C_refuse [(2, ((b : Int) + 1)), (0, (-4))] G 0 0 (fun v23 G24 => Z v23 G24))) ∧ ((¬ (zSh p1)) → GX e b m m_C_refuse [(2, ((b : Int) + 1)), (0, (-1))] G 0 0 (fun v26 G27 => Z v26 G27))) : EX e b m m_C_row Z kc ks 0 [(2, ((b : Int) + 1)), (0, p1), (0, p2), (0, p3)] [] G := by
  refine e_iload_n d_C_row_0 rfl ?_
  refine e_callS m_C_isShelf lw_good d_C_row_1 (k_C_isShelf _) ⟨Nat.le_of_ble_eq_true rfl, Nat.le_of_ble_eq_true rfl⟩ w_486 w_487 (args := [(0, p1)]) rfl rfl (Nat.le_of_ble_eq_true rfl) (kc' := kc) (ks' := ks) (mc := 0) (ms := 0) rfl rfl (c_C_isShelf) (pureK ?_)
  refine e_if_ne (tgt := 13) d_C_row_4 (by decide) (fun q1 => ?_) (fun q2 => ?_)
  · replace q1 := gb1.mp q1
    have h := h.1 q1
    refine e_iload_n d_C_row_13 rfl ?_
    refine e_if_ge (tgt := 24) d_C_row_14 (by decide) (fun q3 => ?_) (fun q4 => ?_)
    · have h := h.1 q3
      refine e_iload_n d_C_row_24 rfl ?_
      refine e_iconst d_C_row_25 (by decide) ?_
      refine e_iconst d_C_row_26 (by decide) ?_
      refine e_callS m_C_within lw_good d_C_row_27 (k_C_within _) ⟨Nat.le_of_ble_eq_true rfl, Nat.le_of_ble_eq_true rfl⟩ w_294 w_295 (args := [(0, p2), (0, 0), (0, 3)]) rfl rfl (Nat.le_of_ble_eq_true rfl) (kc' := kc) (ks' := ks) (mc := 0) (ms := 0) rfl rfl (c_C_within) (pureK ?_)
      refine e_if_ne (tgt := 40) d_C_row_30 (by decide) (fun q5 => ?_) (fun q6 => ?_)
      · replace q5 := gb1.mp q5
        have h := h.1 q5
        refine e_iload_n d_C_row_40 rfl ?_
        refine e_bipush d_C_row_41 (by decide) (by decide) ?_
        refine e_icmp_le (tgt := 53) d_C_row_43 (by decide) (fun q7 => ?_) (fun q8 => ?_)
        · have h := h.1 q7
          refine e_aload_n d_C_row_53 rfl ?_
          refine gx_C_52 d_C_row_54 rfl ?_
          refine e_iload_n d_C_row_57 rfl ?_
          obtain ⟨o9, h⟩ := h
          refine EV.inv fun hFf10 => ?_
          have f10 := fx_ct 32 rfl hFf10
          refine e_aald d_C_row_58 (Or.inr f10.1) o9.1 (by rw [f10.2]; exact o9.2) ?_
          refine e_iload_n d_C_row_59 rfl ?_
          refine e_iload_n d_C_row_60 rfl ?_
          obtain ⟨o11, h⟩ := h
          refine e_callV m_Row_renew 6 lw_good d_C_row_61 (k_Row_renew _) ⟨Nat.le_of_ble_eq_true rfl, Nat.le_of_ble_eq_true rfl⟩ w_798 w_799 w_800 (q_Row _) rfl o11 (args := [(0, p2), (0, p3)]) rfl rfl (Nat.le_of_ble_eq_true rfl) (kc' := kc) (ks' := ks) (mc := 0) (ms := 0) rfl rfl h ?_
          intro v12 G13 h
          refine e_aload_n d_C_row_64 rfl ?_
          refine gx_C_57 d_C_row_65 rfl ?_
          refine e_iload_n d_C_row_68 rfl ?_
          refine e_bipush d_C_row_69 (by decide) (by decide) ?_
          refine e_iload_n d_C_row_71 rfl ?_
          obtain ⟨o14, h⟩ := h
          refine e_iadd d_C_row_72 o14 ?_
          refine xC_iast 49 rfl d_C_row_73 o9 ?_
          let G15 : gH := gU G13 1 ((b : Int) + 50) p1 (100 + p2)
          have h := h G15 rfl
          refine e_iconst d_C_row_74 (by decide) ?_
          exact e_iret d_C_row_75 rfl h
        · have h := h.2 q8
          refine e_aload_n d_C_row_46 rfl ?_
          refine e_bipush d_C_row_47 (by decide) (by decide) ?_
          refine EV.inv fun hFf16 => ?_
          have f16 := (fx_ct 0 rfl hFf16).1
          refine e_callV m_C_refuse 11 lw_good d_C_row_49 (k_C_refuse _) ⟨Nat.le_of_ble_eq_true rfl, Nat.le_of_ble_eq_true rfl⟩ w_297 w_299 w_s0 (q_C _) rfl f16 (args := [(0, (-7))]) rfl rfl (Nat.le_of_ble_eq_true rfl) (kc' := kc) (ks' := ks) (mc := 0) (ms := 0) rfl rfl h ?_
          intro v17 G18 h
          exact e_iret d_C_row_52 rfl h
      · replace q6 := gb0.mp q6
        have h := h.2 q6
        refine e_aload_n d_C_row_33 rfl ?_
        refine e_bipush d_C_row_34 (by decide) (by decide) ?_
        refine EV.inv fun hFf19 => ?_
        have f19 := (fx_ct 0 rfl hFf19).1
        refine e_callV m_C_refuse 11 lw_good d_C_row_36 (k_C_refuse _) ⟨Nat.le_of_ble_eq_true rfl, Nat.le_of_ble_eq_true rfl⟩ w_297 w_299 w_s0 (q_C _) rfl f19 (args := [(0, (-6))]) rfl rfl (Nat.le_of_ble_eq_true rfl) (kc' := kc) (ks' := ks) (mc := 0) (ms := 0) rfl rfl h ?_
        intro v20 G21 h
        exact e_iret d_C_row_39 rfl h
    · have h := h.2 q4
      refine e_aload_n d_C_row_17 rfl ?_
      refine e_bipush d_C_row_18 (by decide) (by decide) ?_
      refine EV.inv fun hFf22 => ?_
      have f22 := (fx_ct 0 rfl hFf22).1
      refine e_callV m_C_refuse 11 lw_good d_C_row_20 (k_C_refuse _) ⟨Nat.le_of_ble_eq_true rfl, Nat.le_of_ble_eq_true rfl⟩ w_297 w_299 w_s0 (q_C _) rfl f22 (args := [(0, (-4))]) rfl rfl (Nat.le_of_ble_eq_true rfl) (kc' := kc) (ks' := ks) (mc := 0) (ms := 0) rfl rfl h ?_
      intro v23 G24 h
      exact e_iret d_C_row_23 rfl h
  · replace q2 := gb0.mp q2
    have h := h.2 q2
    refine e_aload_n d_C_row_7 rfl ?_
    refine e_iconst d_C_row_8 (by decide) ?_
    refine EV.inv fun hFf25 => ?_
    have f25 := (fx_ct 0 rfl hFf25).1
    refine e_callV m_C_refuse 11 lw_good d_C_row_9 (k_C_refuse _) ⟨Nat.le_of_ble_eq_true rfl, Nat.le_of_ble_eq_true rfl⟩ w_297 w_299 w_s0 (q_C _) rfl f25 (args := [(0, (-1))]) rfl rfl (Nat.le_of_ble_eq_true rfl) (kc' := kc) (ks' := ks) (mc := 0) (ms := 0) rfl rfl h ?_
    intro v26 G27 h
    exact e_iret d_C_row_12 rfl h
theorem zWay_0 {A : zA} (h : A 784 0 = 0) {r : Int} (hr : 0 ≤ r ∧ r < 12) : zWay A r = if r = 0 then 0 else -1 := by
  refine (zWay_u (f := fun r => if r = 0 then 0 else -1) ⟨rfl, fun r h1 h2 q => ?_, ?_⟩ hr).symm
  · by_cases z : r = 0
    · subst z; exact ⟨by decide, 0, rfl, rfl⟩
    · exact absurd (if_neg z) q
  · rintro a r w ⟨d, hd, -⟩
    omega
/-- the ways are as they were found last -/
def zWf (A : zA) : Prop := zWay A 0 = 0 ∧ ((A 784 0 ≠ 0 ∨ A 788 0 ≠ 0) → ∀ r, 0 ≤ r → r < 12 → A 6 r = zWay A r)
theorem zfFar_way {A : zA} (h : zWf A) {r : Int} (hr : 0 ≤ r ∧ r < 12) : zfFar A r = zWay A r := by
  unfold zfFar
  rw [if_neg (by omega)]
  by_cases q0 : A 784 0 = 0
  · rw [if_pos q0, zWay_0 q0 hr]
  · rw [if_neg q0, h.2 (Or.inl q0) r hr.1 hr.2]
    split
    · rename_i z
      rw [z, h.1]
    · rfl
theorem c_C_far {e : gE} {b : Nat} {m : Int} {G : gH} {A : zA} {p1 : Int} (hR : zRel e b m G A) (hW : zWf A) : GX e b m m_C_far [(2, ((b : Int) + 1)), (0, p1)] G 0 0 (zCQ e b m G (zfFar A p1, A)) := by
  refine GM.ofEV (by decide) (Nat.le_of_ble_eq_true rfl) (sg_C_far_0 ⟨?_, hR, zRf_r⟩)
  obtain ⟨T, Q, P, ⟨r1, -⟩, -⟩ := hR
  show (if 0 ≤ p1 ∧ p1 < 12 then G 1 ((b : Int) + 8) p1 else -1) = zfFar A p1
  split
  · rename_i q
    rw [zfFar_way hW q]
    exact (r1.2.1 p1 q.1 q.2).1
  · rename_i q
    unfold zfFar
    rw [if_pos q]
theorem c_C_fault {e : gE} {b : Nat} {m : Int} {G : gH} {A : zA} (hR : zRel e b m G A) : GX e b m m_C_fault [(2, ((b : Int) + 1))] G 0 0 (zCQ e b m G (A 793 0, A)) := by
  refine GM.ofEV (by decide) (Nat.le_of_ble_eq_true rfl) (sg_C_fault_0 ⟨?_, hR, zRf_r⟩)
  obtain ⟨T, Q, P, ⟨-, r2, -⟩, -⟩ := hR
  exact r2.2.2.2.2
theorem c_C_holds {e : gE} {b : Nat} {m : Int} {G : gH} {A : zA} {p1 : Int} (hR : zRel e b m G A) : GX e b m m_C_holds [(2, ((b : Int) + 1)), (0, p1)] G 0 0 (zCQ e b m G (zfHolds A p1, A)) := by
  have hr := hR
  obtain ⟨T, Q, P, ⟨-, -, r3, -⟩, -⟩ := hr
  refine GM.ofEV (by decide) (Nat.le_of_ble_eq_true rfl) (sg_C_holds_0 ⟨fun q => ⟨?_, hR, zRf_r⟩, fun q => ⟨q, ?_, hR, zRf_r⟩⟩)
  · show -1 = zfHolds A p1
    unfold zfHolds
    rw [if_neg q]
  · exact (r3.1 p1 q).2.2.1
theorem zHr_h {b : Nat} {G : gH} {A : zA} {s n : Int} (r3 : zR3 b G A) (hB : zB n A) (hs : zSh s) : (100 ≤ G 1 ((b : Int) + 50) s ↔ A 18 s = 1) ∧ ((0 ≤ G 1 ((b : Int) + 50) s ∧ G 1 ((b : Int) + 50) s ≤ 15) ↔ (A 18 s = 2 ∧ A 21 s ≠ -1)) ∧ (G 1 ((b : Int) + 50) s = -1 ↔ A 18 s = 0 ∨ (A 18 s = 2 ∧ A 21 s = -1)) := by
  have b1 : 0 ≤ A 18 s ∧ A 18 s ≤ 2 := hB 18 s
  have b2 : -1 ≤ A 21 s ∧ A 21 s ≤ 15 := hB 21 s
  have b3 : 0 ≤ A 19 s ∧ A 19 s ≤ 3 := hB 19 s
  rw [(r3.1 s hs).2.2.1]
  unfold zfHolds
  rw [if_pos hs]
  (repeat' split) <;> omega
theorem c_C_element {e : gE} {b : Nat} {m : Int} {G : gH} {A : zA} {p1 p2 : Int} (hR : zRel e b m G A) (hB : zB 512 A) : GX e b m m_C_element [(2, ((b : Int) + 1)), (0, p1), (0, p2)] G 0 0 (zCQ e b m G (zfElement A p1 p2, A)) := by
  refine GM.inv fun hF => ?_
  have hr := hR
  obtain ⟨T, Q, P, ⟨-, -, r3, -⟩, -⟩ := hr
  refine GM.ofEV (by decide) (Nat.le_of_ble_eq_true rfl) (sg_C_element_0 ?_)
  by_cases q : zHr b G p1
  · have hs := q.1
    obtain ⟨x1, x2, x3, x4, x5⟩ := fx_row hF hs
    have w := r3.1 p1 hs
    have hh := (zHr_h r3 hB hs).1.mp q.2
    have bs : 0 ≤ A 20 p1 ∧ A 20 p1 ≤ 60 := hB 20 p1
    rw [if_pos q, x1]
    refine ⟨fun _ => ⟨x2, x2, ⟨by rw [x3]; exact x4, by rw [x3, x5, w.2.1]; exact bs.2⟩, ?_, hR, zRf_r⟩, fun z => by unfold zSh at hs; omega⟩
    show (if zHs G ((b : Int) + (34 + 2 * p1)) p2 then _ else 0) = zfElement A p1 p2
    unfold zfElement zHs zHas
    rw [x3, w.2.1]
    by_cases z : 0 ≤ p2 ∧ p2 < A 20 p1
    · rw [if_pos z, if_pos ⟨hs, hh, z⟩]
      exact w.2.2.2 p2 z.1 (by omega)
    · rw [if_neg z, if_neg (fun y => z y.2.2)]
  · rw [if_neg q]
    refine ⟨fun z => absurd rfl z, fun _ => ⟨?_, hR, zRf_r⟩⟩
    show 0 = zfElement A p1 p2
    unfold zfElement
    rw [if_neg (fun y => q ⟨y.1, (zHr_h r3 hB y.1).1.mpr y.2.1⟩)]
theorem c_C_band {e : gE} {b : Nat} {m : Int} {G : gH} {A : zA} {p1 p2 p3 : Int} (hR : zRel e b m G A) (hB : zB 512 A) : GX e b m m_C_band [(2, ((b : Int) + 1)), (0, p1), (0, p2), (0, p3)] G 0 0 (zCQ e b m G (zfBand A p1 p2 p3)) := by
  refine GM.inv fun hF => ?_
  have hlo := fx_lo hF
  refine GM.ofEV (by decide) (Nat.le_of_ble_eq_true rfl) (sg_C_band_0 ?_)
  unfold zfBand
  refine ⟨⟨fun q1 q2 q3 q4 => ?_, fun q => ?_⟩, fun q => ?_⟩
  · rw [if_neg (by omega), if_neg (by omega)]
    refine GM.ofEV (by decide) (Nat.le_of_ble_eq_true rfl) (sg_Years_changeBand_0 ⟨fun z => absurd z (by omega), fun _ => ⟨by omega, ?_⟩⟩)
    rintro _ rfl _ rfl
    refine zCQ_mk rfl ?_ (zRf_t (zRf_u (Or.inl (by omega))) (zRf_u (Or.inl (by omega))))
    have qc : zCh ([29] ++ [30]) A (zU (zU A 29 p1 p2) 30 p1 p3) := zCh_t zCh_u zCh_u
    have qx : zSx b ([(1, 20)] ++ [(1, 21)]) G (gU (gU G 1 ((b : Int) + 20) p1 p2) 1 ((b : Int) + 21) p1 p3) := zSx_t zSx_u zSx_u
    refine zRel_st hR (zDyn_t (zDyn_u (by omega) (by decide)) (zDyn_u (by omega) (by decide))) qc (by decide) (fun r1 r2 r3 r4 => ⟨zR1_A qc (by decide) (zR1_G qx (by decide) r1), zR2_A qc (by decide) (zR2_G qx (by decide) r2), zR3_A qc (by decide) (zR3_G qx (by decide) r3), fun k k1 k2 => ?_, ?_⟩)
    · have w := r4.1 k k1 k2
      by_cases z : k = p1
      · subst z
        rw [gU_k (by decide), gU_eq, gU_eq, gU_k (by decide), gU_k (by decide), zU_k (by decide), zU_eq, zU_eq, zU_k (by decide), zU_k (by decide)]
        exact ⟨rfl, rfl, w.2.2⟩
      · rw [gU_j z, gU_j z, gU_j z, gU_j z, gU_j z, gU_j z, zU_i z, zU_i z, zU_i z, zU_i z, zU_i z, zU_i z]
        exact w
    · rw [gU_c _ (by decide), gU_c _ (by decide), gU_c _ (by decide), gU_c _ (by decide), zU_k (by decide), zU_k (by decide), zU_k (by decide), zU_k (by decide)]
      exact r4.2
  · rw [if_pos (by omega)]; exact c_C_refuse hR hB (by decide)
  · rw [if_neg (by omega), if_pos (by omega)]; exact c_C_refuse hR hB (by decide)
theorem c_C_keep {e : gE} {b : Nat} {m : Int} {G : gH} {A : zA} {p1 p2 : Int} (hR : zRel e b m G A) (hB : zB 512 A) : GX e b m m_C_keep [(2, ((b : Int) + 1)), (0, p1), (0, p2)] G 0 0 (zCQ e b m G (zfKeep A p1 p2)) := by
  refine GM.inv fun hF => ?_
  have hlo := fx_lo hF
  refine GM.ofEV (by decide) (Nat.le_of_ble_eq_true rfl) (sg_C_keep_0 ?_)
  unfold zfKeep
  refine ⟨fun q1 => ⟨fun q2 => ?_, fun q2 => ?_⟩, fun q => ?_⟩
  · rw [if_neg (by omega), if_pos (by omega)]; exact c_C_refuse hR hB (by decide)
  · rw [if_neg (by omega), if_neg (by omega)]
    refine GM.ofEV (by decide) (Nat.le_of_ble_eq_true rfl) (sg_Years_changeKeep_0 ⟨fun z => absurd z (by omega), fun _ => ⟨by omega, ?_⟩⟩)
    rintro _ rfl
    have hr := hR
    obtain ⟨T, Q, P, ⟨-, -, -, r4⟩, -⟩ := hr
    refine zCQ_mk ?_ ?_ (zRf_u (Or.inl (by omega)))
    · rw [if_pos (by omega)]
      exact (r4.1 p1 (by omega) (by omega)).2.2
    · refine zRel_st hR (zDyn_u (by omega) (by decide)) zCh_u (by decide) (fun r1 r2 r3 r4 => ⟨zR1_A zCh_u (by decide) (zR1_G zSx_u (by decide) r1), zR2_A zCh_u (by decide) (zR2_G zSx_u (by decide) r2), zR3_A zCh_u (by decide) (zR3_G zSx_u (by decide) r3), fun k k1 k2 => ?_, ?_⟩)
      · have w := r4.1 k k1 k2
        show gU _ _ _ _ _ _ _ _ = zU A 31 p1 p2 29 k ∧ gU _ _ _ _ _ _ _ _ = zU A 31 p1 p2 30 k ∧ gU _ _ _ _ _ _ _ _ = zU A 31 p1 p2 31 k
        rw [gU_k (by decide), gU_k (by decide), zU_k (by decide), zU_k (by decide)]
        refine ⟨w.1, w.2.1, ?_⟩
        by_cases z : k = p1
        · subst z; rw [gU_eq, zU_eq]
        · rw [gU_j z, zU_i z]; exact w.2.2
      · show gU _ _ _ _ _ _ _ _ = zU A 31 p1 p2 791 0 ∧ gU _ _ _ _ _ _ _ _ = zU A 31 p1 p2 792 0
        rw [gU_c _ (by decide), gU_c _ (by decide), zU_k (by decide), zU_k (by decide)]
        exact r4.2
  · rw [if_pos (by omega)]; exact c_C_refuse hR hB (by decide)
theorem c_C_fuel {e : gE} {b : Nat} {m : Int} {G : gH} {A : zA} {p1 : Int} (hR : zRel e b m G A) (hB : zB 512 A) : GX e b m m_C_fuel [(2, ((b : Int) + 1)), (0, p1)] G 0 0 (zCQ e b m G (zfFuel A p1)) := by
  refine GM.inv fun hF => ?_
  have hlo := fx_lo hF
  have bf : 0 ≤ A 792 0 ∧ A 792 0 ≤ 1000000 := hB 792 0
  have hr := hR
  obtain ⟨T, Q, P, ⟨-, -, -, r4⟩, -⟩ := hr
  refine GM.ofEV (by decide) (Nat.le_of_ble_eq_true rfl) (sg_C_fuel_0 ?_)
  unfold zfFuel
  refine ⟨fun q => ?_, fun q => ?_⟩
  · rw [if_pos (by omega)]; exact c_C_refuse hR hB (by decide)
  · rw [if_neg (by omega)]
    have ev : (if A 792 0 + p1 < 1000000 then A 792 0 + p1 else 1000000) = if 1000000 < A 792 0 + p1 then 1000000 else A 792 0 + p1 := by split <;> split <;> omega
    refine GM.ofEV (by decide) (Nat.le_of_ble_eq_true rfl) (sg_Years_pour_0 ?_)
    rw [r4.2.2, ev]
    refine ⟨by omega, ?_⟩
    rintro _ rfl
    refine zCQ_mk gU_eq ?_ (zRf_u (Or.inl (by omega)))
    refine zRel_st hR (zDyn_u (by omega) (by decide)) zCh_u (by decide) (fun r1 r2 r3 r4 => ⟨zR1_A zCh_u (by decide) (zR1_G zSx_u (by decide) r1), zR2_A zCh_u (by decide) (zR2_G zSx_u (by decide) r2), zR3_A zCh_u (by decide) (zR3_G zSx_u (by decide) r3), fun k k1 k2 => ?_, ?_⟩)
    · show gU _ _ _ _ _ _ _ _ = zU A 792 0 _ 29 k ∧ gU _ _ _ _ _ _ _ _ = zU A 792 0 _ 30 k ∧ gU _ _ _ _ _ _ _ _ = zU A 792 0 _ 31 k
      rw [gU_c _ (by decide), gU_c _ (by decide), gU_c _ (by decide), zU_k (by decide), zU_k (by decide), zU_k (by decide)]
      exact r4.1 k k1 k2
    · show gU _ _ _ _ _ _ _ _ = zU A 792 0 _ 791 0 ∧ gU _ _ _ _ _ _ _ _ = zU A 792 0 _ 792 0
      rw [gU_c _ (by decide), gU_eq, zU_k (by decide), zU_eq]
      exact ⟨r4.2.1, rfl⟩
