/-! THE REFERENCE, 4: public reads; refusals -/
set_option maxRecDepth 20000 in
set_option maxHeartbeats 4000000 in
theorem sg_M_no_0 {e : gE} {b : Nat} {m : Int} {Z : Int → gH → Prop} {kc ks : Nat} {G : gH} {p1 : Int} (h : (inI (-p1)) ∧ ((0 ≤ (-p1) ∧ (-p1) < 8) ∧ ((inI ((zM m G 39 (-p1)) + 1)) ∧ (∀ G4 : gH, G4 = gU G 1 (m + 39) (-p1) ((zM m G 39 (-p1)) + 1) → Z p1 G4)))) : EX e b m m_M_no Z kc ks 0 [(2, (m + 0)), (0, p1)] [] G := by
  refine e_aload_n d_M_no_0 rfl ?_
  refine gx_M_130 d_M_no_1 rfl ?_
  refine e_iload_n d_M_no_4 rfl ?_
  obtain ⟨o1, h⟩ := h
  refine e_ineg d_M_no_5 o1 ?_
  refine e_dup2 d_M_no_6 (by simp) (by simp) ?_
  obtain ⟨o2, h⟩ := h
  refine xM_iald 39 rfl d_M_no_7 o2 ?_
  refine e_iconst d_M_no_8 (by decide) ?_
  obtain ⟨o3, h⟩ := h
  refine e_iadd d_M_no_9 o3 ?_
  refine xM_iast 39 rfl d_M_no_10 o2 ?_
  let G4 : gH := gU G 1 (m + 39) (-p1) ((zM m G 39 (-p1)) + 1)
  have h := h G4 rfl
  refine e_iload_n d_M_no_11 rfl ?_
  exact e_iret d_M_no_12 rfl h
/-- a call's answer and state -/
def zQ (m : Int) (G : gH) (r : Int × zA) (v : Int) (G1 : gH) : Prop := v = r.1 ∧ zM m G1 = r.2 ∧ zC m G G1
def zNo (A : zA) (k : Int) : Int × zA := (k, zU A 39 (-k) (A 39 (-k) + 1))
theorem c_M_no {e : gE} {b : Nat} {m : Int} {G : gH} {p1 : Int} (h : zB 512 (zM m G)) (h1 : -7 ≤ p1 ∧ p1 ≤ -1) : GX e b m m_M_no [(2, (m + 0)), (0, p1)] G 0 0 (fun v G1 => zQ m G (zNo (zM m G) p1) v G1) := by
  refine GM.ofEV (by decide) (Nat.le_of_ble_eq_true rfl) (sg_M_no_0 ?_)
  have b1 : 0 ≤ zM m G 39 (-p1) ∧ zM m G 39 (-p1) ≤ 512 := h 39 (-p1)
  refine ⟨by omega, by omega, by omega, ?_⟩
  rintro _ rfl
  exact ⟨rfl, zM_u39, zC_u zC_r (by decide)⟩
set_option maxRecDepth 20000 in
set_option maxHeartbeats 4000000 in
theorem sg_M_far_0 {e : gE} {b : Nat} {m : Int} {Z : Int → gH → Prop} {kc ks : Nat} {G : gH} {p1 : Int} (h : ((0 ≤ p1 ∧ p1 < 12) → (p1 ≠ 0 → ((zM m G 784 0) ≠ 0 → (0 ≤ p1 ∧ p1 < 12) ∧ Z (zM m G 6 p1) G) ∧ ((zM m G 784 0) = 0 → Z (-1) G)) ∧ (p1 = 0 → Z 0 G)) ∧ ((¬ (0 ≤ p1 ∧ p1 < 12)) → Z (-1) G)) : EX e b m m_M_far Z kc ks 0 [(2, (m + 0)), (0, p1)] [] G := by
  refine e_iload_n d_M_far_0 rfl ?_
  refine e_callS m_M_isRoom lw_good d_M_far_1 (k_M_isRoom _) ⟨Nat.le_of_ble_eq_true rfl, Nat.le_of_ble_eq_true rfl⟩ w_1566 w_1567 (args := [(0, p1)]) rfl rfl (Nat.le_of_ble_eq_true rfl) (kc' := kc) (ks' := ks) (mc := 0) (ms := 0) rfl rfl (c_M_isRoom) (pureK ?_)
  refine e_if_ne (tgt := 9) d_M_far_4 (by decide) (fun q1 => ?_) (fun q2 => ?_)
  · replace q1 := gb1.mp q1
    have h := h.1 q1
    refine e_iload_n d_M_far_9 rfl ?_
    refine e_if_ne (tgt := 17) d_M_far_10 (by decide) (fun q3 => ?_) (fun q4 => ?_)
    · have h := h.1 q3
      refine e_aload_n d_M_far_17 rfl ?_
      refine gx_M_168 d_M_far_18 rfl ?_
      refine e_if_ne (tgt := 28) d_M_far_21 (by decide) (fun q5 => ?_) (fun q6 => ?_)
      · have h := h.1 q5
        refine e_aload_n d_M_far_28 rfl ?_
        refine gx_M_30 d_M_far_29 rfl ?_
        refine e_iload_n d_M_far_32 rfl ?_
        obtain ⟨o7, h⟩ := h
        refine xM_iald 6 rfl d_M_far_33 o7 ?_
        exact e_iret d_M_far_34 rfl h
      · have h := h.2 q6
        refine e_iconst d_M_far_24 (by decide) ?_
        refine e_goto (tgt := 34) d_M_far_25 (by decide) ?_
        exact e_iret d_M_far_34 rfl h
    · have h := h.2 q4
      refine e_iconst d_M_far_13 (by decide) ?_
      refine e_goto (tgt := 34) d_M_far_14 (by decide) ?_
      exact e_iret d_M_far_34 rfl h
  · replace q2 := gb0.mp q2
    have h := h.2 q2
    refine e_iconst d_M_far_7 (by decide) ?_
    exact e_iret d_M_far_8 rfl h
set_option maxRecDepth 20000 in
set_option maxHeartbeats 4000000 in
theorem sg_M_given_0 {e : gE} {b : Nat} {m : Int} {Z : Int → gH → Prop} {kc ks : Nat} {G : gH} {p1 : Int} (h : (((0 ≤ p1 ∧ p1 < zM m G 785 0) → (0 ≤ p1 ∧ p1 < 16) ∧ (200 ≤ (zM m G 11 p1) → ((zM m G 11 p1) < 300 → (inI ((zM m G 11 p1) - 200)) ∧ Z ((zM m G 11 p1) - 200) G))) ∧ ((¬ (0 ≤ p1 ∧ p1 < zM m G 785 0)) → Z (-1) G)) ∧ ((((0 ≤ p1 ∧ p1 < zM m G 785 0) ∧ (zM m G 11 p1) < 200) ∨ ((0 ≤ p1 ∧ p1 < zM m G 785 0) ∧ 200 ≤ (zM m G 11 p1) ∧ 300 ≤ (zM m G 11 p1))) → ((zM m G 788 0) = 1 → (0 ≤ p1 ∧ p1 < 16) ∧ (zIn (zM m G) p1 → Z (zM m G 14 p1) G))) ∧ ((((((0 ≤ p1 ∧ p1 < zM m G 785 0) ∧ (zM m G 11 p1) < 200) ∨ ((0 ≤ p1 ∧ p1 < zM m G 785 0) ∧ 200 ≤ (zM m G 11 p1) ∧ 300 ≤ (zM m G 11 p1))) ∧ (zM m G 788 0) ≠ 1) ∨ ((((0 ≤ p1 ∧ p1 < zM m G 785 0) ∧ (zM m G 11 p1) < 200) ∨ ((0 ≤ p1 ∧ p1 < zM m G 785 0) ∧ 200 ≤ (zM m G 11 p1) ∧ 300 ≤ (zM m G 11 p1))) ∧ (zM m G 788 0) = 1 ∧ (¬ (zIn (zM m G) p1)))) → Z (-1) G)) : EX e b m m_M_given Z kc ks 0 [(2, (m + 0)), (0, p1)] [] G := by
  obtain ⟨h, hJ10, hJ17⟩ := h
  have kJ17 : (((((0 ≤ p1 ∧ p1 < zM m G 785 0) ∧ (zM m G 11 p1) < 200) ∨ ((0 ≤ p1 ∧ p1 < zM m G 785 0) ∧ 200 ≤ (zM m G 11 p1) ∧ 300 ≤ (zM m G 11 p1))) ∧ (zM m G 788 0) ≠ 1) ∨ ((((0 ≤ p1 ∧ p1 < zM m G 785 0) ∧ (zM m G 11 p1) < 200) ∨ ((0 ≤ p1 ∧ p1 < zM m G 785 0) ∧ 200 ≤ (zM m G 11 p1) ∧ 300 ≤ (zM m G 11 p1))) ∧ (zM m G 788 0) = 1 ∧ (¬ (zIn (zM m G) p1)))) → EX e b m m_M_given Z kc ks 70 [(2, (m + 0)), (0, p1)] [] G := by
    intro rJ17
    have h := hJ17 rJ17
    refine e_iconst d_M_given_70 (by decide) ?_
    exact e_iret d_M_given_71 rfl h
  have kJ10 : (((0 ≤ p1 ∧ p1 < zM m G 785 0) ∧ (zM m G 11 p1) < 200) ∨ ((0 ≤ p1 ∧ p1 < zM m G 785 0) ∧ 200 ≤ (zM m G 11 p1) ∧ 300 ≤ (zM m G 11 p1))) → EX e b m m_M_given Z kc ks 45 [(2, (m + 0)), (0, p1)] [] G := by
    intro rJ10
    have h := hJ10 rJ10
    refine e_aload_n d_M_given_45 rfl ?_
    refine gx_M_165 d_M_given_46 rfl ?_
    refine e_iconst d_M_given_49 (by decide) ?_
    refine e_icmp_ne (tgt := 70) d_M_given_50 (by decide) (fun q11 => ?_) (fun q12 => ?_)
    · exact kJ17 (Or.inl ⟨rJ10, q11⟩)
    · have h := h q12
      refine e_aload_n d_M_given_53 rfl ?_
      refine e_iload_n d_M_given_54 rfl ?_
      refine EV.inv fun hFf13 => ?_
      have f13 := (fx_mt 0 rfl hFf13).1
      obtain ⟨o14, h⟩ := h
      refine e_callV m_M_isInRoom 12 lw_good d_M_given_55 (k_M_isInRoom _) ⟨Nat.le_of_ble_eq_true rfl, Nat.le_of_ble_eq_true rfl⟩ w_1624 w_1626 w_s50 (q_M _) rfl f13 (args := [(0, p1)]) rfl rfl (Nat.le_of_ble_eq_true rfl) (kc' := kc) (ks' := ks) (mc := 0) (ms := 0) rfl rfl (c_M_isInRoom o14) (pureK ?_)
      refine e_if_eq (tgt := 70) d_M_given_58 (by decide) (fun q15 => ?_) (fun q16 => ?_)
      · replace q15 := gb0.mp q15
        exact kJ17 (Or.inr ⟨rJ10, q12, q15⟩)
      · replace q16 := gb1.mp q16
        have h := h q16
        refine e_aload_n d_M_given_61 rfl ?_
        refine gx_M_54 d_M_given_62 rfl ?_
        refine e_iload_n d_M_given_65 rfl ?_
        refine xM_iald 14 rfl d_M_given_66 o14 ?_
        refine e_goto (tgt := 71) d_M_given_67 (by decide) ?_
        exact e_iret d_M_given_71 rfl h
  refine e_aload_n d_M_given_0 rfl ?_
  refine e_iload_n d_M_given_1 rfl ?_
  refine EV.inv fun hFf1 => ?_
  have f1 := (fx_mt 0 rfl hFf1).1
  refine e_callV m_M_isThing 12 lw_good d_M_given_2 (k_M_isThing _) ⟨Nat.le_of_ble_eq_true rfl, Nat.le_of_ble_eq_true rfl⟩ w_1692 w_1694 w_s62 (q_M _) rfl f1 (args := [(0, p1)]) rfl rfl (Nat.le_of_ble_eq_true rfl) (kc' := kc) (ks' := ks) (mc := 0) (ms := 0) rfl rfl (c_M_isThing) (pureK ?_)
  refine e_if_ne (tgt := 10) d_M_given_5 (by decide) (fun q2 => ?_) (fun q3 => ?_)
  · replace q2 := gb1.mp q2
    have h := h.1 q2
    refine e_aload_n d_M_given_10 rfl ?_
    refine gx_M_45 d_M_given_11 rfl ?_
    refine e_iload_n d_M_given_14 rfl ?_
    obtain ⟨o4, h⟩ := h
    refine xM_iald 11 rfl d_M_given_15 o4 ?_
    refine e_sipush d_M_given_16 (by decide) (by decide) ?_
    refine e_icmp_lt (tgt := 45) d_M_given_19 (by decide) (fun q5 => ?_) (fun q6 => ?_)
    · exact kJ10 (Or.inl ⟨q2, q5⟩)
    · have h := h q6
      refine e_aload_n d_M_given_22 rfl ?_
      refine gx_M_45 d_M_given_23 rfl ?_
      refine e_iload_n d_M_given_26 rfl ?_
      refine xM_iald 11 rfl d_M_given_27 o4 ?_
      refine e_sipush d_M_given_28 (by decide) (by decide) ?_
      refine e_icmp_ge (tgt := 45) d_M_given_31 (by decide) (fun q7 => ?_) (fun q8 => ?_)
      · exact kJ10 (Or.inr ⟨q2, q6, q7⟩)
      · have h := h q8
        refine e_aload_n d_M_given_34 rfl ?_
        refine gx_M_45 d_M_given_35 rfl ?_
        refine e_iload_n d_M_given_38 rfl ?_
        refine xM_iald 11 rfl d_M_given_39 o4 ?_
        refine e_sipush d_M_given_40 (by decide) (by decide) ?_
        obtain ⟨o9, h⟩ := h
        refine e_isub d_M_given_43 o9 ?_
        exact e_iret d_M_given_44 rfl h
  · replace q3 := gb0.mp q3
    have h := h.2 q3
    refine e_iconst d_M_given_8 (by decide) ?_
    exact e_iret d_M_given_9 rfl h
set_option maxRecDepth 20000 in
set_option maxHeartbeats 4000000 in
theorem sg_M_holds_0 {e : gE} {b : Nat} {m : Int} {Z : Int → gH → Prop} {kc ks : Nat} {G : gH} {p1 : Int} (h : ((0 ≤ p1 ∧ p1 < 8) → (0 ≤ p1 ∧ p1 < 8) ∧ ((zM m G 18 p1) ≠ 0 → ((zM m G 18 p1) ≠ 1 → Z (zM m G 21 p1) G) ∧ ((zM m G 18 p1) = 1 → (inI (100 + (zM m G 19 p1))) ∧ Z (100 + (zM m G 19 p1)) G))) ∧ ((((¬ (0 ≤ p1 ∧ p1 < 8))) ∨ ((0 ≤ p1 ∧ p1 < 8) ∧ (zM m G 18 p1) = 0)) → Z (-1) G)) : EX e b m m_M_holds Z kc ks 0 [(2, (m + 0)), (0, p1)] [] G := by
  obtain ⟨h, hJ9⟩ := h
  have kJ9 : (((¬ (0 ≤ p1 ∧ p1 < 8))) ∨ ((0 ≤ p1 ∧ p1 < 8) ∧ (zM m G 18 p1) = 0)) → EX e b m m_M_holds Z kc ks 16 [(2, (m + 0)), (0, p1)] [] G := by
    intro rJ9
    have h := hJ9 rJ9
    refine e_iconst d_M_holds_16 (by decide) ?_
    exact e_iret d_M_holds_17 rfl h
  refine e_iload_n d_M_holds_0 rfl ?_
  refine e_callS m_M_isShelf lw_good d_M_holds_1 (k_M_isShelf _) ⟨Nat.le_of_ble_eq_true rfl, Nat.le_of_ble_eq_true rfl⟩ w_1593 w_1594 (args := [(0, p1)]) rfl rfl (Nat.le_of_ble_eq_true rfl) (kc' := kc) (ks' := ks) (mc := 0) (ms := 0) rfl rfl (c_M_isShelf) (pureK ?_)
  refine e_if_eq (tgt := 16) d_M_holds_4 (by decide) (fun q1 => ?_) (fun q2 => ?_)
  · replace q1 := gb0.mp q1
    exact kJ9 (Or.inl q1)
  · replace q2 := gb1.mp q2
    have h := h q2
    refine e_aload_n d_M_holds_7 rfl ?_
    refine gx_M_66 d_M_holds_8 rfl ?_
    refine e_iload_n d_M_holds_11 rfl ?_
    obtain ⟨o3, h⟩ := h
    refine xM_iald 18 rfl d_M_holds_12 o3 ?_
    refine e_if_ne (tgt := 18) d_M_holds_13 (by decide) (fun q4 => ?_) (fun q5 => ?_)
    · have h := h q4
      refine e_aload_n d_M_holds_18 rfl ?_
      refine gx_M_66 d_M_holds_19 rfl ?_
      refine e_iload_n d_M_holds_22 rfl ?_
      refine xM_iald 18 rfl d_M_holds_23 o3 ?_
      refine e_iconst d_M_holds_24 (by decide) ?_
      refine e_icmp_ne (tgt := 40) d_M_holds_25 (by decide) (fun q6 => ?_) (fun q7 => ?_)
      · have h := h.1 q6
        refine e_aload_n d_M_holds_40 rfl ?_
        refine gx_M_75 d_M_holds_41 rfl ?_
        refine e_iload_n d_M_holds_44 rfl ?_
        refine xM_iald 21 rfl d_M_holds_45 o3 ?_
        exact e_iret d_M_holds_46 rfl h
      · have h := h.2 q7
        refine e_bipush d_M_holds_28 (by decide) (by decide) ?_
        refine e_aload_n d_M_holds_30 rfl ?_
        refine gx_M_69 d_M_holds_31 rfl ?_
        refine e_iload_n d_M_holds_34 rfl ?_
        refine xM_iald 19 rfl d_M_holds_35 o3 ?_
        obtain ⟨o8, h⟩ := h
        refine e_iadd d_M_holds_36 o8 ?_
        refine e_goto (tgt := 46) d_M_holds_37 (by decide) ?_
        exact e_iret d_M_holds_46 rfl h
    · exact kJ9 (Or.inr ⟨q2, q5⟩)
set_option maxRecDepth 20000 in
set_option maxHeartbeats 4000000 in
theorem sg_M_element_0 {e : gE} {b : Nat} {m : Int} {Z : Int → gH → Prop} {kc ks : Nat} {G : gH} {p1 p2 : Int} (h : ((0 ≤ p1 ∧ p1 < 8) → (0 ≤ p1 ∧ p1 < 8) ∧ ((zM m G 18 p1) = 1 → (0 ≤ p2 → (p2 < (zM m G 20 p1) → (inI (60 * p1)) ∧ (inI ((60 * p1) + p2)) ∧ (0 ≤ ((60 * p1) + p2) ∧ ((60 * p1) + p2) < 480) ∧ Z (zM m G 22 ((60 * p1) + p2)) G)))) ∧ ((((¬ (0 ≤ p1 ∧ p1 < 8))) ∨ ((0 ≤ p1 ∧ p1 < 8) ∧ (zM m G 18 p1) ≠ 1) ∨ ((0 ≤ p1 ∧ p1 < 8) ∧ (zM m G 18 p1) = 1 ∧ p2 < 0) ∨ ((0 ≤ p1 ∧ p1 < 8) ∧ (zM m G 18 p1) = 1 ∧ 0 ≤ p2 ∧ (zM m G 20 p1) ≤ p2)) → Z 0 G)) : EX e b m m_M_element Z kc ks 0 [(2, (m + 0)), (0, p1), (0, p2)] [] G := by
  obtain ⟨h, hJ13⟩ := h
  have kJ13 : (((¬ (0 ≤ p1 ∧ p1 < 8))) ∨ ((0 ≤ p1 ∧ p1 < 8) ∧ (zM m G 18 p1) ≠ 1) ∨ ((0 ≤ p1 ∧ p1 < 8) ∧ (zM m G 18 p1) = 1 ∧ p2 < 0) ∨ ((0 ≤ p1 ∧ p1 < 8) ∧ (zM m G 18 p1) = 1 ∧ 0 ≤ p2 ∧ (zM m G 20 p1) ≤ p2)) → EX e b m m_M_element Z kc ks 45 [(2, (m + 0)), (0, p1), (0, p2)] [] G := by
    intro rJ13
    have h := hJ13 rJ13
    refine e_lconst 0 d_M_element_45 (by decide) (by decide) ?_
    exact e_lret d_M_element_46 rfl h
  refine e_iload_n d_M_element_0 rfl ?_
  refine e_callS m_M_isShelf lw_good d_M_element_1 (k_M_isShelf _) ⟨Nat.le_of_ble_eq_true rfl, Nat.le_of_ble_eq_true rfl⟩ w_1593 w_1594 (args := [(0, p1)]) rfl rfl (Nat.le_of_ble_eq_true rfl) (kc' := kc) (ks' := ks) (mc := 0) (ms := 0) rfl rfl (c_M_isShelf) (pureK ?_)
  refine e_if_eq (tgt := 45) d_M_element_4 (by decide) (fun q1 => ?_) (fun q2 => ?_)
  · replace q1 := gb0.mp q1
    exact kJ13 (Or.inl q1)
  · replace q2 := gb1.mp q2
    have h := h q2
    refine e_aload_n d_M_element_7 rfl ?_
    refine gx_M_66 d_M_element_8 rfl ?_
    refine e_iload_n d_M_element_11 rfl ?_
    obtain ⟨o3, h⟩ := h
    refine xM_iald 18 rfl d_M_element_12 o3 ?_
    refine e_iconst d_M_element_13 (by decide) ?_
    refine e_icmp_ne (tgt := 45) d_M_element_14 (by decide) (fun q4 => ?_) (fun q5 => ?_)
    · exact kJ13 (Or.inr (Or.inl ⟨q2, q4⟩))
    · have h := h q5
      refine e_iload_n d_M_element_17 rfl ?_
      refine e_if_lt (tgt := 45) d_M_element_18 (by decide) (fun q6 => ?_) (fun q7 => ?_)
      · exact kJ13 (Or.inr (Or.inr (Or.inl ⟨q2, q5, q6⟩)))
      · have h := h q7
        refine e_iload_n d_M_element_21 rfl ?_
        refine e_aload_n d_M_element_22 rfl ?_
        refine gx_M_72 d_M_element_23 rfl ?_
        refine e_iload_n d_M_element_26 rfl ?_
        refine xM_iald 20 rfl d_M_element_27 o3 ?_
        refine e_icmp_ge (tgt := 45) d_M_element_28 (by decide) (fun q8 => ?_) (fun q9 => ?_)
        · exact kJ13 (Or.inr (Or.inr (Or.inr ⟨q2, q5, q7, q8⟩)))
        · have h := h q9
          refine e_aload_n d_M_element_31 rfl ?_
          refine gx_M_78 d_M_element_32 rfl ?_
          refine e_bipush d_M_element_35 (by decide) (by decide) ?_
          refine e_iload_n d_M_element_37 rfl ?_
          obtain ⟨o10, h⟩ := h
          refine e_imul d_M_element_38 o10 ?_
          refine e_iload_n d_M_element_39 rfl ?_
          obtain ⟨o11, h⟩ := h
          refine e_iadd d_M_element_40 o11 ?_
          obtain ⟨o12, h⟩ := h
          refine xM_lald 22 rfl d_M_element_41 o12 ?_
          refine e_goto (tgt := 46) d_M_element_42 (by decide) ?_
          exact e_lret d_M_element_46 rfl h
set_option maxRecDepth 20000 in
set_option maxHeartbeats 4000000 in
theorem sg_M_worthIn_0 {e : gE} {b : Nat} {m : Int} {Z : Int → gH → Prop} {kc ks : Nat} {G : gH} {p1 : Int} (h : ((0 ≤ p1 ∧ p1 < 8) → (0 ≤ p1 ∧ p1 < 8) ∧ (((zM m G 18 p1) ≠ 1 → ((zM m G 18 p1) ≠ 0 → (0 ≤ (zM m G 21 p1) ∧ (zM m G 21 p1) < 16) ∧ Z (zM m G 8 (zM m G 21 p1)) G) ∧ ((zM m G 18 p1) = 0 → GX e b m m_M_no [(2, (m + 0)), (0, (-3))] G 0 0 (fun v10 G11 => Z v10 G11))) ∧ ((zM m G 18 p1) = 1 → GX e b m m_M_no [(2, (m + 0)), (0, (-2))] G 0 0 (fun v13 G14 => Z v13 G14)))) ∧ ((¬ (0 ≤ p1 ∧ p1 < 8)) → GX e b m m_M_no [(2, (m + 0)), (0, (-1))] G 0 0 (fun v16 G17 => Z v16 G17))) : EX e b m m_M_worthIn Z kc ks 0 [(2, (m + 0)), (0, p1)] [] G := by
  refine e_iload_n d_M_worthIn_0 rfl ?_
  refine e_callS m_M_isShelf lw_good d_M_worthIn_1 (k_M_isShelf _) ⟨Nat.le_of_ble_eq_true rfl, Nat.le_of_ble_eq_true rfl⟩ w_1593 w_1594 (args := [(0, p1)]) rfl rfl (Nat.le_of_ble_eq_true rfl) (kc' := kc) (ks' := ks) (mc := 0) (ms := 0) rfl rfl (c_M_isShelf) (pureK ?_)
  refine e_if_ne (tgt := 13) d_M_worthIn_4 (by decide) (fun q1 => ?_) (fun q2 => ?_)
  · replace q1 := gb1.mp q1
    have h := h.1 q1
    refine e_aload_n d_M_worthIn_13 rfl ?_
    refine gx_M_66 d_M_worthIn_14 rfl ?_
    refine e_iload_n d_M_worthIn_17 rfl ?_
    obtain ⟨o3, h⟩ := h
    refine xM_iald 18 rfl d_M_worthIn_18 o3 ?_
    refine e_iconst d_M_worthIn_19 (by decide) ?_
    refine e_icmp_ne (tgt := 30) d_M_worthIn_20 (by decide) (fun q4 => ?_) (fun q5 => ?_)
    · have h := h.1 q4
      refine e_aload_n d_M_worthIn_30 rfl ?_
      refine gx_M_66 d_M_worthIn_31 rfl ?_
      refine e_iload_n d_M_worthIn_34 rfl ?_
      refine xM_iald 18 rfl d_M_worthIn_35 o3 ?_
      refine e_if_ne (tgt := 48) d_M_worthIn_36 (by decide) (fun q6 => ?_) (fun q7 => ?_)
      · have h := h.1 q6
        refine e_aload_n d_M_worthIn_48 rfl ?_
        refine gx_M_36 d_M_worthIn_49 rfl ?_
        refine e_aload_n d_M_worthIn_52 rfl ?_
        refine gx_M_75 d_M_worthIn_53 rfl ?_
        refine e_iload_n d_M_worthIn_56 rfl ?_
        refine xM_iald 21 rfl d_M_worthIn_57 o3 ?_
        obtain ⟨o8, h⟩ := h
        refine xM_iald 8 rfl d_M_worthIn_58 o8 ?_
        exact e_iret d_M_worthIn_59 rfl h
      · have h := h.2 q7
        refine e_aload_n d_M_worthIn_39 rfl ?_
        refine e_bipush d_M_worthIn_40 (by decide) (by decide) ?_
        refine EV.inv fun hFf9 => ?_
        have f9 := (fx_mt 0 rfl hFf9).1
        refine e_callV m_M_no 12 lw_good d_M_worthIn_42 (k_M_no _) ⟨Nat.le_of_ble_eq_true rfl, Nat.le_of_ble_eq_true rfl⟩ w_1569 w_1571 w_s42 (q_M _) rfl f9 (args := [(0, (-3))]) rfl rfl (Nat.le_of_ble_eq_true rfl) (kc' := kc) (ks' := ks) (mc := 0) (ms := 0) rfl rfl h ?_
        intro v10 G11 h
        refine e_goto (tgt := 59) d_M_worthIn_45 (by decide) ?_
        exact e_iret d_M_worthIn_59 rfl h
    · have h := h.2 q5
      refine e_aload_n d_M_worthIn_23 rfl ?_
      refine e_bipush d_M_worthIn_24 (by decide) (by decide) ?_
      refine EV.inv fun hFf12 => ?_
      have f12 := (fx_mt 0 rfl hFf12).1
      refine e_callV m_M_no 12 lw_good d_M_worthIn_26 (k_M_no _) ⟨Nat.le_of_ble_eq_true rfl, Nat.le_of_ble_eq_true rfl⟩ w_1569 w_1571 w_s42 (q_M _) rfl f12 (args := [(0, (-2))]) rfl rfl (Nat.le_of_ble_eq_true rfl) (kc' := kc) (ks' := ks) (mc := 0) (ms := 0) rfl rfl h ?_
      intro v13 G14 h
      exact e_iret d_M_worthIn_29 rfl h
  · replace q2 := gb0.mp q2
    have h := h.2 q2
    refine e_aload_n d_M_worthIn_7 rfl ?_
    refine e_iconst d_M_worthIn_8 (by decide) ?_
    refine EV.inv fun hFf15 => ?_
    have f15 := (fx_mt 0 rfl hFf15).1
    refine e_callV m_M_no 12 lw_good d_M_worthIn_9 (k_M_no _) ⟨Nat.le_of_ble_eq_true rfl, Nat.le_of_ble_eq_true rfl⟩ w_1569 w_1571 w_s42 (q_M _) rfl f15 (args := [(0, (-1))]) rfl rfl (Nat.le_of_ble_eq_true rfl) (kc' := kc) (ks' := ks) (mc := 0) (ms := 0) rfl rfl h ?_
    intro v16 G17 h
    exact e_iret d_M_worthIn_12 rfl h
set_option maxRecDepth 20000 in
set_option maxHeartbeats 4000000 in
theorem sg_M_about_0 {e : gE} {b : Nat} {m : Int} {Z : Int → gH → Prop} {kc ks : Nat} {G : gH} {p1 p2 : Int} (h : ((0 ≤ p1 ∧ p1 < zM m G 785 0) → (p2 = 0 → (0 ≤ p1 ∧ p1 < 16) ∧ Z (zM m G 11 p1) G) ∧ (p2 = 1 → (0 ≤ p1 ∧ p1 < 16) ∧ Z (zM m G 7 p1) G) ∧ (p2 = 2 → (0 ≤ p1 ∧ p1 < 16) ∧ Z (zM m G 8 p1) G) ∧ (p2 = 3 → (0 ≤ p1 ∧ p1 < 16) ∧ Z (zM m G 9 p1) G) ∧ (p2 = 4 → (0 ≤ p1 ∧ p1 < 16) ∧ Z (zM m G 10 p1) G) ∧ (p2 = 5 → (0 ≤ p1 ∧ p1 < 16) ∧ Z (zM m G 12 p1) G) ∧ (p2 = 6 → (0 ≤ zM m G 794 0 ∧ zM m G 794 0 ≤ 12000) ∧ Z (zSeals (zM m G) p1) G) ∧ (p2 = 7 → (0 ≤ p1 ∧ p1 < 16) ∧ Z (zM m G 13 p1) G) ∧ ((p2 ≠ 0 ∧ p2 ≠ 1 ∧ p2 ≠ 2 ∧ p2 ≠ 3 ∧ p2 ≠ 4 ∧ p2 ≠ 5 ∧ p2 ≠ 6 ∧ p2 ≠ 7) → Z (-1) G)) ∧ ((¬ (0 ≤ p1 ∧ p1 < zM m G 785 0)) → Z (-1) G)) : EX e b m m_M_about Z kc ks 0 [(2, (m + 0)), (0, p1), (0, p2)] [] G := by
  refine e_aload_n d_M_about_0 rfl ?_
  refine e_iload_n d_M_about_1 rfl ?_
  refine EV.inv fun hFf1 => ?_
  have f1 := (fx_mt 0 rfl hFf1).1
  refine e_callV m_M_isThing 12 lw_good d_M_about_2 (k_M_isThing _) ⟨Nat.le_of_ble_eq_true rfl, Nat.le_of_ble_eq_true rfl⟩ w_1692 w_1694 w_s62 (q_M _) rfl f1 (args := [(0, p1)]) rfl rfl (Nat.le_of_ble_eq_true rfl) (kc' := kc) (ks' := ks) (mc := 0) (ms := 0) rfl rfl (c_M_isThing) (pureK ?_)
  refine e_if_ne (tgt := 10) d_M_about_5 (by decide) (fun q2 => ?_) (fun q3 => ?_)
  · replace q2 := gb1.mp q2
    have h := h.1 q2
    refine e_iload_n d_M_about_10 rfl ?_
    obtain ⟨hs0, hs1, hs2, hs3, hs4, hs5, hs6, hs7, hs8⟩ := h
    by_cases q4 : p2 = 0
    · have h := hs0 q4
      refine e_tableIn (tgt := 56) d_M_about_11 (by omega) (by omega) (by rw [show p2 = 0 from q4]; rfl) (by decide) ?_
      refine e_aload_n d_M_about_56 rfl ?_
      refine gx_M_45 d_M_about_57 rfl ?_
      refine e_iload_n d_M_about_60 rfl ?_
      obtain ⟨o5, h⟩ := h
      refine xM_iald 11 rfl d_M_about_61 o5 ?_
      exact e_iret d_M_about_62 rfl h
    by_cases q6 : p2 = 1
    · have h := hs1 q6
      refine e_tableIn (tgt := 63) d_M_about_11 (by omega) (by omega) (by rw [show p2 = 1 from q6]; rfl) (by decide) ?_
      refine e_aload_n d_M_about_63 rfl ?_
      refine gx_M_33 d_M_about_64 rfl ?_
      refine e_iload_n d_M_about_67 rfl ?_
      obtain ⟨o7, h⟩ := h
      refine xM_iald 7 rfl d_M_about_68 o7 ?_
      exact e_iret d_M_about_69 rfl h
    by_cases q8 : p2 = 2
    · have h := hs2 q8
      refine e_tableIn (tgt := 70) d_M_about_11 (by omega) (by omega) (by rw [show p2 = 2 from q8]; rfl) (by decide) ?_
      refine e_aload_n d_M_about_70 rfl ?_
      refine gx_M_36 d_M_about_71 rfl ?_
      refine e_iload_n d_M_about_74 rfl ?_
      obtain ⟨o9, h⟩ := h
      refine xM_iald 8 rfl d_M_about_75 o9 ?_
      exact e_iret d_M_about_76 rfl h
    by_cases q10 : p2 = 3
    · have h := hs3 q10
      refine e_tableIn (tgt := 77) d_M_about_11 (by omega) (by omega) (by rw [show p2 = 3 from q10]; rfl) (by decide) ?_
      refine e_aload_n d_M_about_77 rfl ?_
      refine gx_M_39 d_M_about_78 rfl ?_
      refine e_iload_n d_M_about_81 rfl ?_
      obtain ⟨o11, h⟩ := h
      refine xM_iald 9 rfl d_M_about_82 o11 ?_
      exact e_iret d_M_about_83 rfl h
    by_cases q12 : p2 = 4
    · have h := hs4 q12
      refine e_tableIn (tgt := 84) d_M_about_11 (by omega) (by omega) (by rw [show p2 = 4 from q12]; rfl) (by decide) ?_
      refine e_aload_n d_M_about_84 rfl ?_
      refine gx_M_42 d_M_about_85 rfl ?_
      refine e_iload_n d_M_about_88 rfl ?_
      obtain ⟨o13, h⟩ := h
      refine xM_iald 10 rfl d_M_about_89 o13 ?_
      exact e_iret d_M_about_90 rfl h
    by_cases q14 : p2 = 5
    · have h := hs5 q14
      refine e_tableIn (tgt := 91) d_M_about_11 (by omega) (by omega) (by rw [show p2 = 5 from q14]; rfl) (by decide) ?_
      refine e_aload_n d_M_about_91 rfl ?_
      refine gx_M_48 d_M_about_92 rfl ?_
      refine e_iload_n d_M_about_95 rfl ?_
      obtain ⟨o15, h⟩ := h
      refine xM_iald 12 rfl d_M_about_96 o15 ?_
      exact e_iret d_M_about_97 rfl h
    by_cases q16 : p2 = 6
    · have h := hs6 q16
      refine e_tableIn (tgt := 98) d_M_about_11 (by omega) (by omega) (by rw [show p2 = 6 from q16]; rfl) (by decide) ?_
      refine e_aload_n d_M_about_98 rfl ?_
      refine e_iload_n d_M_about_99 rfl ?_
      refine EV.inv fun hFf17 => ?_
      have f17 := (fx_mt 0 rfl hFf17).1
      obtain ⟨o18, h⟩ := h
      refine e_callV m_M_sealsOf 12 lw_good d_M_about_100 (k_M_sealsOf _) ⟨Nat.le_of_ble_eq_true rfl, Nat.le_of_ble_eq_true rfl⟩ w_1851 w_1853 w_s74 (q_M _) rfl f17 (args := [(0, p1)]) rfl rfl (Nat.le_of_ble_eq_true rfl) (kc' := kc) (ks' := ks) (mc := 0) (ms := 0) rfl rfl (c_M_sealsOf o18) (pureK ?_)
      exact e_iret d_M_about_103 rfl h
    by_cases q19 : p2 = 7
    · have h := hs7 q19
      refine e_tableIn (tgt := 104) d_M_about_11 (by omega) (by omega) (by rw [show p2 = 7 from q19]; rfl) (by decide) ?_
      refine e_aload_n d_M_about_104 rfl ?_
      refine gx_M_51 d_M_about_105 rfl ?_
      refine e_iload_n d_M_about_108 rfl ?_
      obtain ⟨o20, h⟩ := h
      refine xM_iald 13 rfl d_M_about_109 o20 ?_
      exact e_iret d_M_about_110 rfl h
    have q21 : p2 ≠ 0 ∧ p2 ≠ 1 ∧ p2 ≠ 2 ∧ p2 ≠ 3 ∧ p2 ≠ 4 ∧ p2 ≠ 5 ∧ p2 ≠ 6 ∧ p2 ≠ 7 := ⟨q4, q6, q8, q10, q12, q14, q16, q19⟩
    have h := hs8 q21
    have hout : (p2 < 0 ∨ 7 < p2) := by omega
    refine e_tableOut (tgt := 111) d_M_about_11 hout (by decide) ?_
    refine e_iconst d_M_about_111 (by decide) ?_
    exact e_iret d_M_about_112 rfl h
  · replace q3 := gb0.mp q3
    have h := h.2 q3
    refine e_iconst d_M_about_8 (by decide) ?_
    exact e_iret d_M_about_9 rfl h
set_option maxRecDepth 20000 in
set_option maxHeartbeats 4000000 in
theorem sg_M_holder_0 {e : gE} {b : Nat} {m : Int} {Z : Int → gH → Prop} {kc ks : Nat} {G : gH} {p1 p2 : Int} (h : ((0 ≤ p1 ∧ p1 < zM m G 785 0) → EX e b m m_M_holder Z kc ks 15 [(2, (m + 0)), (0, p1), (0, p2), (0, (-1)), (0, 0), (9, 0)] [] G) ∧ ((¬ (0 ≤ p1 ∧ p1 < zM m G 785 0)) → Z (-1) G)) : EX e b m m_M_holder Z kc ks 0 [(2, (m + 0)), (0, p1), (0, p2), (9, 0), (9, 0), (9, 0)] [] G := by
  refine e_aload_n d_M_holder_0 rfl ?_
  refine e_iload_n d_M_holder_1 rfl ?_
  refine EV.inv fun hFf1 => ?_
  have f1 := (fx_mt 0 rfl hFf1).1
  refine e_callV m_M_isThing 12 lw_good d_M_holder_2 (k_M_isThing _) ⟨Nat.le_of_ble_eq_true rfl, Nat.le_of_ble_eq_true rfl⟩ w_1692 w_1694 w_s62 (q_M _) rfl f1 (args := [(0, p1)]) rfl rfl (Nat.le_of_ble_eq_true rfl) (kc' := kc) (ks' := ks) (mc := 0) (ms := 0) rfl rfl (c_M_isThing) (pureK ?_)
  refine e_if_ne (tgt := 10) d_M_holder_5 (by decide) (fun q2 => ?_) (fun q3 => ?_)
  · replace q2 := gb1.mp q2
    have h := h.1 q2
    refine e_iconst d_M_holder_10 (by decide) ?_
    refine e_istore_n (ls' := [(2, (m + 0)), (0, p1), (0, p2), (0, (-1)), (9, 0), (9, 0)]) d_M_holder_11 (by decide) rfl ?_
    refine e_iconst d_M_holder_12 (by decide) ?_
    refine e_istore (ls' := [(2, (m + 0)), (0, p1), (0, p2), (0, (-1)), (0, 0), (9, 0)]) d_M_holder_13 (by decide) rfl ?_
    exact e_forget (ls' := [(2, (m + 0)), (0, p1), (0, p2), (0, (-1)), (0, 0), (9, 0)]) ⟨Or.inr rfl, Or.inr rfl, Or.inr rfl, Or.inr rfl, Or.inr rfl, Or.inl rfl, trivial⟩ h
  · replace q3 := gb0.mp q3
    have h := h.2 q3
    refine e_iconst d_M_holder_8 (by decide) ?_
    exact e_iret d_M_holder_9 rfl h
set_option maxRecDepth 20000 in
set_option maxHeartbeats 4000000 in
theorem sg_M_holder_15 {e : gE} {b : Nat} {m : Int} {Z : Int → gH → Prop} {kc ks : Nat} {G : gH} {p1 p2 x3 x4 : Int} (h : ((0 ≤ p1 ∧ p1 < 16) ∧ (((zM m G 13 p1) ≤ x4 → Z x3 G) ∧ (x4 < (zM m G 13 p1) → (inI (6 * p1)) ∧ ((inI ((6 * p1) + x4)) ∧ ((0 ≤ ((6 * p1) + x4) ∧ ((6 * p1) + x4) < 96) ∧ ((zM m G 33 ((6 * p1) + x4)) ≤ p2 → (p2 ≤ (zM m G 34 ((6 * p1) + x4)) → (x3 ≠ (-1) → (x3 ≠ (zM m G 32 ((6 * p1) + x4)) → Z 100 G))))))))) ∧ (((x4 < (zM m G 13 p1) ∧ (zM m G 33 ((6 * p1) + x4)) ≤ p2 ∧ p2 ≤ (zM m G 34 ((6 * p1) + x4)) ∧ x3 = (-1)) ∨ (x4 < (zM m G 13 p1) ∧ (zM m G 33 ((6 * p1) + x4)) ≤ p2 ∧ p2 ≤ (zM m G 34 ((6 * p1) + x4)) ∧ x3 ≠ (-1) ∧ x3 = (zM m G 32 ((6 * p1) + x4)))) → (0 ≤ ((6 * p1) + x4) ∧ ((6 * p1) + x4) < 96) ∧ (inI (x4 + 1)) ∧ EX e b m m_M_holder Z kc ks 15 [(2, (m + 0)), (0, p1), (0, p2), (0, (zM m G 32 ((6 * p1) + x4))), (0, (x4 + 1)), (9, 0)] [] G) ∧ (((x4 < (zM m G 13 p1) ∧ p2 < (zM m G 33 ((6 * p1) + x4))) ∨ (x4 < (zM m G 13 p1) ∧ (zM m G 33 ((6 * p1) + x4)) ≤ p2 ∧ (zM m G 34 ((6 * p1) + x4)) < p2)) → (inI (x4 + 1)) ∧ EX e b m m_M_holder Z kc ks 15 [(2, (m + 0)), (0, p1), (0, p2), (0, x3), (0, (x4 + 1)), (9, 0)] [] G)) : EX e b m m_M_holder Z kc ks 15 [(2, (m + 0)), (0, p1), (0, p2), (0, x3), (0, x4), (9, 0)] [] G := by
  obtain ⟨h, hJ15, hJ17⟩ := h
  have kJ17 : ((x4 < (zM m G 13 p1) ∧ p2 < (zM m G 33 ((6 * p1) + x4))) ∨ (x4 < (zM m G 13 p1) ∧ (zM m G 33 ((6 * p1) + x4)) ≤ p2 ∧ (zM m G 34 ((6 * p1) + x4)) < p2)) → EX e b m m_M_holder Z kc ks 87 [(2, (m + 0)), (0, p1), (0, p2), (0, x3), (0, x4), (0, ((6 * p1) + x4))] [] G := by
    intro rJ17
    have h := hJ17 rJ17
    obtain ⟨o18, h⟩ := h
    refine e_iinc (ls' := [(2, (m + 0)), (0, p1), (0, p2), (0, x3), (0, (x4 + 1)), (0, ((6 * p1) + x4))]) d_M_holder_87 rfl (by decide) o18 rfl ?_
    refine e_goto (tgt := 15) d_M_holder_90 (by decide) ?_
    exact e_forget (ls' := [(2, (m + 0)), (0, p1), (0, p2), (0, x3), (0, (x4 + 1)), (9, 0)]) ⟨Or.inr rfl, Or.inr rfl, Or.inr rfl, Or.inr rfl, Or.inr rfl, Or.inl rfl, trivial⟩ h
  have kJ15 : ((x4 < (zM m G 13 p1) ∧ (zM m G 33 ((6 * p1) + x4)) ≤ p2 ∧ p2 ≤ (zM m G 34 ((6 * p1) + x4)) ∧ x3 = (-1)) ∨ (x4 < (zM m G 13 p1) ∧ (zM m G 33 ((6 * p1) + x4)) ≤ p2 ∧ p2 ≤ (zM m G 34 ((6 * p1) + x4)) ∧ x3 ≠ (-1) ∧ x3 = (zM m G 32 ((6 * p1) + x4)))) → EX e b m m_M_holder Z kc ks 79 [(2, (m + 0)), (0, p1), (0, p2), (0, x3), (0, x4), (0, ((6 * p1) + x4))] [] G := by
    intro rJ15
    have h := hJ15 rJ15
    refine e_aload_n d_M_holder_79 rfl ?_
    refine gx_M_109 d_M_holder_80 rfl ?_
    refine e_iload d_M_holder_83 rfl ?_
    obtain ⟨o16, h⟩ := h
    refine xM_iald 32 rfl d_M_holder_85 o16 ?_
    refine e_istore_n (ls' := [(2, (m + 0)), (0, p1), (0, p2), (0, (zM m G 32 ((6 * p1) + x4))), (0, x4), (0, ((6 * p1) + x4))]) d_M_holder_86 (by decide) rfl ?_
    obtain ⟨o19, h⟩ := h
    refine e_iinc (ls' := [(2, (m + 0)), (0, p1), (0, p2), (0, (zM m G 32 ((6 * p1) + x4))), (0, (x4 + 1)), (0, ((6 * p1) + x4))]) d_M_holder_87 rfl (by decide) o19 rfl ?_
    refine e_goto (tgt := 15) d_M_holder_90 (by decide) ?_
    exact e_forget (ls' := [(2, (m + 0)), (0, p1), (0, p2), (0, (zM m G 32 ((6 * p1) + x4))), (0, (x4 + 1)), (9, 0)]) ⟨Or.inr rfl, Or.inr rfl, Or.inr rfl, Or.inr rfl, Or.inr rfl, Or.inl rfl, trivial⟩ h
  refine e_iload d_M_holder_15 rfl ?_
  refine e_aload_n d_M_holder_17 rfl ?_
  refine gx_M_51 d_M_holder_18 rfl ?_
  refine e_iload_n d_M_holder_21 rfl ?_
  obtain ⟨o1, h⟩ := h
  refine xM_iald 13 rfl d_M_holder_22 o1 ?_
  refine e_icmp_ge (tgt := 93) d_M_holder_23 (by decide) (fun q2 => ?_) (fun q3 => ?_)
  · have h := h.1 q2
    refine e_iload_n d_M_holder_93 rfl ?_
    exact e_iret d_M_holder_94 rfl h
  · have h := h.2 q3
    refine e_bipush d_M_holder_26 (by decide) (by decide) ?_
    refine e_iload_n d_M_holder_28 rfl ?_
    obtain ⟨o4, h⟩ := h
    refine e_imul d_M_holder_29 o4 ?_
    refine e_iload d_M_holder_30 rfl ?_
    obtain ⟨o5, h⟩ := h
    refine e_iadd d_M_holder_32 o5 ?_
    refine e_istore (ls' := [(2, (m + 0)), (0, p1), (0, p2), (0, x3), (0, x4), (0, ((6 * p1) + x4))]) d_M_holder_33 (by decide) rfl ?_
    refine e_iload_n d_M_holder_35 rfl ?_
    refine e_aload_n d_M_holder_36 rfl ?_
    refine gx_M_112 d_M_holder_37 rfl ?_
    refine e_iload d_M_holder_40 rfl ?_
    obtain ⟨o6, h⟩ := h
    refine xM_iald 33 rfl d_M_holder_42 o6 ?_
    refine e_icmp_lt (tgt := 87) d_M_holder_43 (by decide) (fun q7 => ?_) (fun q8 => ?_)
    · exact kJ17 (Or.inl ⟨q3, q7⟩)
    · have h := h q8
      refine e_iload_n d_M_holder_46 rfl ?_
      refine e_aload_n d_M_holder_47 rfl ?_
      refine gx_M_115 d_M_holder_48 rfl ?_
      refine e_iload d_M_holder_51 rfl ?_
      refine xM_iald 34 rfl d_M_holder_53 o6 ?_
      refine e_icmp_le (tgt := 60) d_M_holder_54 (by decide) (fun q9 => ?_) (fun q10 => ?_)
      · have h := h q9
        refine e_iload_n d_M_holder_60 rfl ?_
        refine e_iconst d_M_holder_61 (by decide) ?_
        refine e_icmp_eq (tgt := 79) d_M_holder_62 (by decide) (fun q11 => ?_) (fun q12 => ?_)
        · exact kJ15 (Or.inl ⟨q3, q8, q9, q11⟩)
        · have h := h q12
          refine e_iload_n d_M_holder_65 rfl ?_
          refine e_aload_n d_M_holder_66 rfl ?_
          refine gx_M_109 d_M_holder_67 rfl ?_
          refine e_iload d_M_holder_70 rfl ?_
          refine xM_iald 32 rfl d_M_holder_72 o6 ?_
          refine e_icmp_eq (tgt := 79) d_M_holder_73 (by decide) (fun q13 => ?_) (fun q14 => ?_)
          · exact kJ15 (Or.inr ⟨q3, q8, q9, q12, q13⟩)
          · have h := h q14
            refine e_bipush d_M_holder_76 (by decide) (by decide) ?_
            exact e_iret d_M_holder_78 rfl h
      · refine e_goto (tgt := 87) d_M_holder_57 (by decide) ?_
        exact kJ17 (Or.inr ⟨q3, q8, q10⟩)
set_option maxRecDepth 20000 in
set_option maxHeartbeats 4000000 in
theorem sg_M_seal_0 {e : gE} {b : Nat} {m : Int} {Z : Int → gH → Prop} {kc ks : Nat} {G : gH} {p1 p2 p3 : Int} (h : ((0 ≤ p1 ∧ p1 < zM m G 785 0) → (0 ≤ p2 → (0 ≤ p3 → (p3 ≤ 2 → EX e b m m_M_seal Z kc ks 29 [(2, (m + 0)), (0, p1), (9, 0), (0, p3), (0, p2), (0, 0)] [] G)))) ∧ ((((¬ (0 ≤ p1 ∧ p1 < zM m G 785 0))) ∨ ((0 ≤ p1 ∧ p1 < zM m G 785 0) ∧ p2 < 0) ∨ ((0 ≤ p1 ∧ p1 < zM m G 785 0) ∧ 0 ≤ p2 ∧ p3 < 0) ∨ ((0 ≤ p1 ∧ p1 < zM m G 785 0) ∧ 0 ≤ p2 ∧ 0 ≤ p3 ∧ 2 < p3)) → Z (-1) G)) : EX e b m m_M_seal Z kc ks 0 [(2, (m + 0)), (0, p1), (0, p2), (0, p3), (9, 0), (9, 0)] [] G := by
  obtain ⟨h, hJ10⟩ := h
  have kJ10 : (((¬ (0 ≤ p1 ∧ p1 < zM m G 785 0))) ∨ ((0 ≤ p1 ∧ p1 < zM m G 785 0) ∧ p2 < 0) ∨ ((0 ≤ p1 ∧ p1 < zM m G 785 0) ∧ 0 ≤ p2 ∧ p3 < 0) ∨ ((0 ≤ p1 ∧ p1 < zM m G 785 0) ∧ 0 ≤ p2 ∧ 0 ≤ p3 ∧ 2 < p3)) → EX e b m m_M_seal Z kc ks 21 [(2, (m + 0)), (0, p1), (0, p2), (0, p3), (9, 0), (9, 0)] [] G := by
    intro rJ10
    have h := hJ10 rJ10
    refine e_iconst d_M_seal_21 (by decide) ?_
    exact e_iret d_M_seal_22 rfl h
  refine e_aload_n d_M_seal_0 rfl ?_
  refine e_iload_n d_M_seal_1 rfl ?_
  refine EV.inv fun hFf1 => ?_
  have f1 := (fx_mt 0 rfl hFf1).1
  refine e_callV m_M_isThing 12 lw_good d_M_seal_2 (k_M_isThing _) ⟨Nat.le_of_ble_eq_true rfl, Nat.le_of_ble_eq_true rfl⟩ w_1692 w_1694 w_s62 (q_M _) rfl f1 (args := [(0, p1)]) rfl rfl (Nat.le_of_ble_eq_true rfl) (kc' := kc) (ks' := ks) (mc := 0) (ms := 0) rfl rfl (c_M_isThing) (pureK ?_)
  refine e_if_eq (tgt := 21) d_M_seal_5 (by decide) (fun q2 => ?_) (fun q3 => ?_)
  · replace q2 := gb0.mp q2
    exact kJ10 (Or.inl q2)
  · replace q3 := gb1.mp q3
    have h := h q3
    refine e_iload_n d_M_seal_8 rfl ?_
    refine e_if_lt (tgt := 21) d_M_seal_9 (by decide) (fun q4 => ?_) (fun q5 => ?_)
    · exact kJ10 (Or.inr (Or.inl ⟨q3, q4⟩))
    · have h := h q5
      refine e_iload_n d_M_seal_12 rfl ?_
      refine e_if_lt (tgt := 21) d_M_seal_13 (by decide) (fun q6 => ?_) (fun q7 => ?_)
      · exact kJ10 (Or.inr (Or.inr (Or.inl ⟨q3, q5, q6⟩)))
      · have h := h q7
        refine e_iload_n d_M_seal_16 rfl ?_
        refine e_iconst d_M_seal_17 (by decide) ?_
        refine e_icmp_le (tgt := 23) d_M_seal_18 (by decide) (fun q8 => ?_) (fun q9 => ?_)
        · have h := h q8
          refine e_iload_n d_M_seal_23 rfl ?_
          refine e_istore (ls' := [(2, (m + 0)), (0, p1), (0, p2), (0, p3), (0, p2), (9, 0)]) d_M_seal_24 (by decide) rfl ?_
          refine e_iconst d_M_seal_26 (by decide) ?_
          refine e_istore (ls' := [(2, (m + 0)), (0, p1), (0, p2), (0, p3), (0, p2), (0, 0)]) d_M_seal_27 (by decide) rfl ?_
          exact e_forget (ls' := [(2, (m + 0)), (0, p1), (9, 0), (0, p3), (0, p2), (0, 0)]) ⟨Or.inr rfl, Or.inr rfl, Or.inl rfl, Or.inr rfl, Or.inr rfl, Or.inr rfl, trivial⟩ h
        · exact kJ10 (Or.inr (Or.inr (Or.inr ⟨q3, q5, q7, q9⟩)))
set_option maxRecDepth 20000 in
set_option maxHeartbeats 4000000 in
theorem sg_M_seal_29 {e : gE} {b : Nat} {m : Int} {Z : Int → gH → Prop} {kc ks : Nat} {G : gH} {p1 p3 x4 x5 : Int} (h : ((zM m G 794 0) ≤ x5 → Z (-1) G) ∧ (x5 < (zM m G 794 0) → (0 ≤ x5 ∧ x5 < 12000) ∧ (((zM m G 35 x5) = p1 → (x4 ≠ 0 → (inI (x4 + (-1))) ∧ (inI (x5 + 1)) ∧ EX e b m m_M_seal Z kc ks 29 [(2, (m + 0)), (0, p1), (9, 0), (0, p3), (0, (x4 + (-1))), (0, (x5 + 1))] [] G) ∧ (x4 = 0 → (p3 ≠ 0 → (p3 ≠ 1 → Z (zM m G 38 x5) G) ∧ (p3 = 1 → Z (zM m G 37 x5) G)) ∧ (p3 = 0 → Z (zM m G 36 x5) G))) ∧ ((zM m G 35 x5) ≠ p1 → (inI (x5 + 1)) ∧ EX e b m m_M_seal Z kc ks 29 [(2, (m + 0)), (0, p1), (9, 0), (0, p3), (0, x4), (0, (x5 + 1))] [] G)))) : EX e b m m_M_seal Z kc ks 29 [(2, (m + 0)), (0, p1), (9, 0), (0, p3), (0, x4), (0, x5)] [] G := by
  refine e_iload d_M_seal_29 rfl ?_
  refine e_aload_n d_M_seal_31 rfl ?_
  refine gx_M_256 d_M_seal_32 rfl ?_
  refine e_icmp_ge (tgt := 103) d_M_seal_35 (by decide) (fun q1 => ?_) (fun q2 => ?_)
  · have h := h.1 q1
    refine e_iconst d_M_seal_103 (by decide) ?_
    exact e_iret d_M_seal_104 rfl h
  · have h := h.2 q2
    refine e_aload_n d_M_seal_38 rfl ?_
    refine gx_M_118 d_M_seal_39 rfl ?_
    refine e_iload d_M_seal_42 rfl ?_
    obtain ⟨o3, h⟩ := h
    refine xM_iald 35 rfl d_M_seal_44 o3 ?_
    refine e_iload_n d_M_seal_45 rfl ?_
    refine e_icmp_eq (tgt := 52) d_M_seal_46 (by decide) (fun q4 => ?_) (fun q5 => ?_)
    · have h := h.1 q4
      refine e_iload d_M_seal_52 rfl ?_
      refine e_if_ne (tgt := 94) d_M_seal_54 (by decide) (fun q6 => ?_) (fun q7 => ?_)
      · have h := h.1 q6
        obtain ⟨o8, h⟩ := h
        refine e_iinc (ls' := [(2, (m + 0)), (0, p1), (9, 0), (0, p3), (0, (x4 + (-1))), (0, x5)]) d_M_seal_94 rfl (by decide) o8 rfl ?_
        obtain ⟨o13, h⟩ := h
        refine e_iinc (ls' := [(2, (m + 0)), (0, p1), (9, 0), (0, p3), (0, (x4 + (-1))), (0, (x5 + 1))]) d_M_seal_97 rfl (by decide) o13 rfl ?_
        refine e_goto (tgt := 29) d_M_seal_100 (by decide) ?_
        exact e_forget (ls' := [(2, (m + 0)), (0, p1), (9, 0), (0, p3), (0, (x4 + (-1))), (0, (x5 + 1))]) ⟨Or.inr rfl, Or.inr rfl, Or.inl rfl, Or.inr rfl, Or.inr rfl, Or.inr rfl, trivial⟩ h
      · have h := h.2 q7
        refine e_iload_n d_M_seal_57 rfl ?_
        refine e_if_ne (tgt := 71) d_M_seal_58 (by decide) (fun q9 => ?_) (fun q10 => ?_)
        · have h := h.1 q9
          refine e_iload_n d_M_seal_71 rfl ?_
          refine e_iconst d_M_seal_72 (by decide) ?_
          refine e_icmp_ne (tgt := 86) d_M_seal_73 (by decide) (fun q11 => ?_) (fun q12 => ?_)
          · have h := h.1 q11
            refine e_aload_n d_M_seal_86 rfl ?_
            refine gx_M_127 d_M_seal_87 rfl ?_
            refine e_iload d_M_seal_90 rfl ?_
            refine xM_iald 38 rfl d_M_seal_92 o3 ?_
            exact e_iret d_M_seal_93 rfl h
          · have h := h.2 q12
            refine e_aload_n d_M_seal_76 rfl ?_
            refine gx_M_124 d_M_seal_77 rfl ?_
            refine e_iload d_M_seal_80 rfl ?_
            refine xM_iald 37 rfl d_M_seal_82 o3 ?_
            refine e_goto (tgt := 93) d_M_seal_83 (by decide) ?_
            exact e_iret d_M_seal_93 rfl h
        · have h := h.2 q10
          refine e_aload_n d_M_seal_61 rfl ?_
          refine gx_M_121 d_M_seal_62 rfl ?_
          refine e_iload d_M_seal_65 rfl ?_
          refine xM_iald 36 rfl d_M_seal_67 o3 ?_
          refine e_goto (tgt := 93) d_M_seal_68 (by decide) ?_
          exact e_iret d_M_seal_93 rfl h
    · have h := h.2 q5
      refine e_goto (tgt := 97) d_M_seal_49 (by decide) ?_
      obtain ⟨o14, h⟩ := h
      refine e_iinc (ls' := [(2, (m + 0)), (0, p1), (9, 0), (0, p3), (0, x4), (0, (x5 + 1))]) d_M_seal_97 rfl (by decide) o14 rfl ?_
      refine e_goto (tgt := 29) d_M_seal_100 (by decide) ?_
      exact e_forget (ls' := [(2, (m + 0)), (0, p1), (9, 0), (0, p3), (0, x4), (0, (x5 + 1))]) ⟨Or.inr rfl, Or.inr rfl, Or.inl rfl, Or.inr rfl, Or.inr rfl, Or.inr rfl, trivial⟩ h
set_option maxRecDepth 20000 in
set_option maxHeartbeats 4000000 in
theorem sg_M_fault_0 {e : gE} {b : Nat} {m : Int} {Z : Int → gH → Prop} {kc ks : Nat} {G : gH} (h : Z (zM m G 793 0) G) : EX e b m m_M_fault Z kc ks 0 [(2, (m + 0))] [] G := by
  refine e_aload_n d_M_fault_0 rfl ?_
  refine gx_M_9 d_M_fault_1 rfl ?_
  exact e_iret d_M_fault_4 rfl h
abbrev zTh (A : zA) (t : Int) : Prop := 0 ≤ t ∧ t < A 785 0
def zfFar (A : zA) (r : Int) : Int := if ¬ (0 ≤ r ∧ r < 12) then -1 else if r = 0 then 0 else if A 784 0 = 0 then -1 else A 6 r
theorem c_M_far {e : gE} {b : Nat} {m : Int} {G : gH} {p1 : Int} : GX e b m m_M_far [(2, (m + 0)), (0, p1)] G 0 0 (fun v9 G9 => v9 = (zfFar (zM m G) p1 : Int) ∧ G9 = G) := by
  refine GM.ofEV (by decide) (Nat.le_of_ble_eq_true rfl) (sg_M_far_0 ?_)
  unfold zfFar
  refine ⟨fun q => ⟨fun q2 => ⟨fun q3 => ⟨q, ?_, rfl⟩, fun q3 => ⟨?_, rfl⟩⟩, fun q2 => ⟨?_, rfl⟩⟩, fun q => ⟨?_, rfl⟩⟩
  · rw [if_neg (by omega), if_neg q2, if_neg q3]
  · rw [if_neg (by omega), if_neg q2, if_pos q3]
  · rw [if_neg (by omega), if_pos q2]
  · rw [if_pos q]
def zfGiven (A : zA) (t : Int) : Int := if zTh A t then (if 200 ≤ A 11 t ∧ A 11 t < 300 then A 11 t - 200 else if A 788 0 = 1 ∧ zIn A t then A 14 t else -1) else -1
theorem c_M_given {e : gE} {b : Nat} {m : Int} {G : gH} {p1 : Int} (h1 : zB 512 (zM m G)) : GX e b m m_M_given [(2, (m + 0)), (0, p1)] G 0 0 (fun v9 G9 => v9 = (zfGiven (zM m G) p1 : Int) ∧ G9 = G) := by
  refine GM.ofEV (by decide) (Nat.le_of_ble_eq_true rfl) (sg_M_given_0 ?_)
  have b0 : 0 ≤ zM m G 785 0 ∧ zM m G 785 0 ≤ 16 := h1 785 0
  unfold zfGiven zTh
  refine ⟨⟨fun q => ⟨by omega, fun q2 q3 => ⟨by omega, ?_, rfl⟩⟩, fun q => ⟨?_, rfl⟩⟩, fun q q2 => ⟨by omega, fun q3 => ⟨?_, rfl⟩⟩, fun q => ⟨?_, rfl⟩⟩
  · rw [if_pos q, if_pos ⟨q2, q3⟩]
  · rw [if_neg q]
  · rw [if_pos (by omega), if_neg (by omega), if_pos ⟨q2, q3⟩]
  · rw [if_pos (by omega), if_neg (by omega), if_neg (by omega)]
def zfAirIn (A : zA) (p w : Int) : Int := if (0 ≤ p ∧ p < A 787 0) ∧ 0 ≤ w then (if zMiss A p w then -2 else zAir A p w) else -1
theorem c_M_airIn {e : gE} {b : Nat} {m : Int} {G : gH} {p1 p2 : Int} (h1 : zB 512 (zM m G)) : GX e b m m_M_airIn [(2, (m + 0)), (0, p1), (0, p2)] G 0 0 (fun v9 G9 => v9 = (zfAirIn (zM m G) p1 p2 : Int) ∧ G9 = G) := by
  refine GM.ofEV (by decide) (Nat.le_of_ble_eq_true rfl) (sg_M_airIn_0 ?_)
  have b0 : 0 ≤ zM m G 787 0 ∧ zM m G 787 0 ≤ 5 := h1 787 0
  have b1 : 0 ≤ zM m G 26 p1 ∧ zM m G 26 p1 ≤ 60 := h1 26 p1
  have b2 : ∀ q : 0 ≤ p1 ∧ p1 < zM m G 787 0, ∀ q2 : 0 ≤ p2, zP (zM m G) p1 p2 := fun q q2 => ⟨by omega, q2, b1⟩
  unfold zfAirIn
  refine ⟨fun q q2 => ⟨b2 q q2, fun q3 => ⟨⟨b2 q q2, fun z => q3 (Or.inl z)⟩, ?_, rfl⟩, fun q3 => ⟨?_, rfl⟩⟩, fun q => ⟨?_, rfl⟩⟩
  · rw [if_pos ⟨q, q2⟩, if_neg q3]
  · rw [if_pos ⟨q, q2⟩, if_pos q3]
  · rw [if_neg (by omega)]
abbrev zSh (s : Int) : Prop := 0 ≤ s ∧ s < 8
def zfHolds (A : zA) (s : Int) : Int := if zSh s then (if A 18 s = 0 then -1 else if A 18 s = 1 then 100 + A 19 s else A 21 s) else -1
theorem c_M_holds {e : gE} {b : Nat} {m : Int} {G : gH} {p1 : Int} (h1 : zB 512 (zM m G)) : GX e b m m_M_holds [(2, (m + 0)), (0, p1)] G 0 0 (fun v9 G9 => v9 = (zfHolds (zM m G) p1 : Int) ∧ G9 = G) := by
  refine GM.ofEV (by decide) (Nat.le_of_ble_eq_true rfl) (sg_M_holds_0 ?_)
  have b0 : 0 ≤ zM m G 19 p1 ∧ zM m G 19 p1 ≤ 3 := h1 19 p1
  unfold zfHolds
  refine ⟨fun q => ⟨q, fun q2 => ⟨fun q3 => ⟨?_, rfl⟩, fun q3 => ⟨by omega, ?_, rfl⟩⟩⟩, fun q => ⟨?_, rfl⟩⟩
  · rw [if_pos q, if_neg q2, if_neg q3]
  · rw [if_pos q, if_neg q2, if_pos q3]
  · split
    · rw [if_pos (by omega)]
    · rfl
def zfElement (A : zA) (s i : Int) : Int := if zSh s ∧ A 18 s = 1 ∧ zHas A s i then A 22 (60 * s + i) else 0
theorem c_M_element {e : gE} {b : Nat} {m : Int} {G : gH} {p1 p2 : Int} (h1 : zB 512 (zM m G)) : GX e b m m_M_element [(2, (m + 0)), (0, p1), (0, p2)] G 0 0 (fun v9 G9 => v9 = (zfElement (zM m G) p1 p2 : Int) ∧ G9 = G) := by
  refine GM.ofEV (by decide) (Nat.le_of_ble_eq_true rfl) (sg_M_element_0 ?_)
  have b0 : 0 ≤ zM m G 20 p1 ∧ zM m G 20 p1 ≤ 60 := h1 20 p1
  unfold zfElement
  refine ⟨fun q => ⟨q, fun q2 q3 q4 => ⟨by omega, by omega, by omega, ?_, rfl⟩⟩, fun q => ⟨?_, rfl⟩⟩
  · rw [if_pos ⟨q, q2, q3, q4⟩]
  · rw [if_neg (by omega)]
theorem c_M_fault {e : gE} {b : Nat} {m : Int} {G : gH} : GX e b m m_M_fault [(2, (m + 0))] G 0 0 (fun v9 G9 => v9 = (zM m G 793 0 : Int) ∧ G9 = G) := by
  refine GM.ofEV (by decide) (Nat.le_of_ble_eq_true rfl) (sg_M_fault_0 ?_)
  repeat' (first | apply And.intro | intro _)
  all_goals first | assumption | rfl | omega | (rw [if_pos (by omega)]) | (rw [if_neg (by omega)])
def zfWorthIn (A : zA) (s : Int) : Int × zA := if zSh s then (if A 18 s = 1 then zNo A (-2) else if A 18 s = 0 then zNo A (-3) else (A 8 (A 21 s), A)) else zNo A (-1)
theorem c_M_worthIn {e : gE} {b : Nat} {m : Int} {G : gH} {p1 : Int} (h : zB 512 (zM m G)) (hs : zM m G 18 p1 = 2 → 0 ≤ zM m G 21 p1) : GX e b m m_M_worthIn [(2, (m + 0)), (0, p1)] G 0 0 (zQ m G (zfWorthIn (zM m G) p1)) := by
  refine GM.ofEV (by decide) (Nat.le_of_ble_eq_true rfl) (sg_M_worthIn_0 ?_)
  have b1 : -1 ≤ zM m G 21 p1 ∧ zM m G 21 p1 ≤ 15 := h 21 p1
  have b2 : 0 ≤ zM m G 18 p1 ∧ zM m G 18 p1 ≤ 2 := h 18 p1
  unfold zfWorthIn
  refine ⟨fun q => ⟨q, fun q2 => ⟨fun q3 => ⟨by have := hs (by omega); omega, ?_⟩, fun q3 => ?_⟩, fun q2 => ?_⟩, fun q => ?_⟩
  · rw [if_pos q, if_neg q2, if_neg q3]; exact ⟨rfl, rfl, zC_r⟩
  · rw [if_pos q, if_neg q2, if_pos q3]; exact c_M_no h (by decide)
  · rw [if_pos q, if_pos q2]; exact c_M_no h (by decide)
  · rw [if_neg q]; exact c_M_no h (by decide)
def zfAbout (A : zA) (t w : Int) : Int := if zTh A t then (if w = 0 then A 11 t else if w = 1 then A 7 t else if w = 2 then A 8 t else if w = 3 then A 9 t else if w = 4 then A 10 t else if w = 5 then A 12 t else if w = 6 then zSeals A t else if w = 7 then A 13 t else -1) else -1
theorem c_M_about {e : gE} {b : Nat} {m : Int} {G : gH} {p1 p2 : Int} (h1 : zB 512 (zM m G)) : GX e b m m_M_about [(2, (m + 0)), (0, p1), (0, p2)] G 0 0 (fun v9 G9 => v9 = (zfAbout (zM m G) p1 p2 : Int) ∧ G9 = G) := by
  refine GM.ofEV (by decide) (Nat.le_of_ble_eq_true rfl) (sg_M_about_0 ?_)
  have b0 : 0 ≤ zM m G 785 0 ∧ zM m G 785 0 ≤ 16 := h1 785 0
  have b1 : 0 ≤ zM m G 794 0 ∧ zM m G 794 0 ≤ 16 * 512 + 32 := h1 794 0
  unfold zfAbout
  refine ⟨fun q => ?_, fun q => ⟨by rw [if_neg q], rfl⟩⟩
  rw [if_pos q]
  refine ⟨fun z => ⟨by omega, ?_, rfl⟩, fun z => ⟨by omega, ?_, rfl⟩, fun z => ⟨by omega, ?_, rfl⟩, fun z => ⟨by omega, ?_, rfl⟩, fun z => ⟨by omega, ?_, rfl⟩, fun z => ⟨by omega, ?_, rfl⟩, fun z => ⟨by omega, ?_, rfl⟩, fun z => ⟨by omega, ?_, rfl⟩, fun z => ⟨?_, rfl⟩⟩
  all_goals (repeat first | rw [if_pos (by omega)] | rw [if_neg (by omega)])
/-- who holds a thing in a year, by its first n papers -/
def zHoldN (A : zA) (t y : Int) : Nat → Int
  | 0 => -1
  | n + 1 => if A 33 (6 * t + n) ≤ y ∧ y ≤ A 34 (6 * t + n) then (if zHoldN A t y n = -1 ∨ zHoldN A t y n = A 32 (6 * t + n) then A 32 (6 * t + n) else 100) else zHoldN A t y n
def zHold (A : zA) (t y n : Int) : Int := zHoldN A t y n.toNat
theorem zHold_s {A : zA} {t y n : Int} (h : 0 ≤ n) : zHold A t y (n + 1) = if A 33 (6 * t + n) ≤ y ∧ y ≤ A 34 (6 * t + n) then (if zHold A t y n = -1 ∨ zHold A t y n = A 32 (6 * t + n) then A 32 (6 * t + n) else 100) else zHold A t y n := by
  unfold zHold
  rw [show (n + 1).toNat = n.toNat + 1 from by omega]
  show (if _ then _ else _) = _
  rw [show ((n.toNat : Nat) : Int) = n from by omega]
theorem zHold_100 {A : zA} {t y n k : Int} (hw : ∀ i, 0 ≤ A 32 i ∧ A 32 i ≤ 9) (hn : 0 ≤ n) (hk : n ≤ k) (h : zHold A t y n = 100) : zHold A t y k = 100 := by
  refine zloopI (I := fun i => zHold A t y i = 100) (P := fun _ => zHold A t y k = 100) k hk h ?_ (fun q => q) (fun j h1 h2 hi q => q)
  intro j h1 h2 hi
  have := hw (6 * t + j)
  rw [zHold_s (by omega), hi]
  split
  · rw [if_neg (by omega)]
  · rfl
def zfHolder (A : zA) (t y : Int) : Int := if zTh A t then zHold A t y (A 13 t) else -1
theorem l_M_holder {e : gE} {b : Nat} {m : Int} {Z : Int → gH → Prop} {kc ks : Nat} {G : gH} {p1 p2 : Int} (hB : zB 512 (zM m G)) (ht : 0 ≤ p1 ∧ p1 < 16) (hZ : Z (zHold (zM m G) p1 p2 (zM m G 13 p1)) G) : EX e b m m_M_holder Z kc ks 15 [(2, (m + 0)), (0, p1), (0, p2), (0, (-1)), (0, 0), (9, 0)] [] G := by
  have b1 : 0 ≤ zM m G 13 p1 ∧ zM m G 13 p1 ≤ 6 := hB 13 p1
  have b2 : ∀ i, 0 ≤ zM m G 32 i ∧ zM m G 32 i ≤ 9 := fun i => hB 32 i
  refine zloop (P := fun i => EX e b m m_M_holder Z kc ks 15 [(2, (m + 0)), (0, p1), (0, p2), (0, zHold (zM m G) p1 p2 i), (0, i), (9, 0)] [] G) (zM m G 13 p1) b1.1 ?_ ?_
  · exact sg_M_holder_15 ⟨⟨ht, fun _ => hZ, fun q => absurd q (by omega)⟩, fun q => absurd q (by omega), fun q => absurd q (by omega)⟩
  · intro j h1 h2 ih
    rw [zHold_s h1] at ih
    refine sg_M_holder_15 ⟨⟨ht, fun q => absurd q (by omega), fun _ => ⟨by omega, by omega, by omega, fun q1 q2 q3 q4 => ?_⟩⟩, fun q => ⟨by omega, by omega, ?_⟩, fun q => ⟨by omega, ?_⟩⟩
    · rw [zHold_100 b2 (n := j + 1) (by omega) (by omega) (by rw [zHold_s h1, if_pos ⟨q1, q2⟩, if_neg (by omega)])] at hZ
      exact hZ
    · rw [if_pos (by omega), if_pos (by omega)] at ih
      exact ih
    · rw [if_neg (by omega)] at ih
      exact ih
theorem c_M_holder {e : gE} {b : Nat} {m : Int} {G : gH} {p1 p2 : Int} (h1 : zB 512 (zM m G)) : GX e b m m_M_holder [(2, (m + 0)), (0, p1), (0, p2)] G 0 0 (fun v9 G9 => v9 = (zfHolder (zM m G) p1 p2 : Int) ∧ G9 = G) := by
  refine GM.ofEV (by decide) (Nat.le_of_ble_eq_true rfl) (sg_M_holder_0 ?_)
  have b0 : 0 ≤ zM m G 785 0 ∧ zM m G 785 0 ≤ 16 := h1 785 0
  unfold zfHolder
  exact ⟨fun q => l_M_holder h1 (by omega) ⟨by rw [if_pos q], rfl⟩, fun q => ⟨by rw [if_neg q], rfl⟩⟩
/-- the seals of a thing ahead of the log's place k -/
def zRank (A : zA) (t k : Int) : Int := zS (fun k => if A 35 k = t then 1 else 0) k
def zSealOf (A : zA) (w k : Int) : Int := if w = 0 then A 36 k else if w = 1 then A 37 k else A 38 k
/-- the answer of seal -/
def zSealQ (A : zA) (t i w v : Int) : Prop := (¬ (zTh A t ∧ 0 ≤ i ∧ 0 ≤ w ∧ w ≤ 2) → v = -1) ∧ (zTh A t ∧ 0 ≤ i ∧ 0 ≤ w ∧ w ≤ 2 → (zSeals A t ≤ i → v = -1) ∧ ∀ k, 0 ≤ k → k < A 794 0 → A 35 k = t → zRank A t k = i → v = zSealOf A w k)
theorem zRank_s {A : zA} {t k : Int} (h : 0 ≤ k) : zRank A t (k + 1) = zRank A t k + if A 35 k = t then 1 else 0 := zS_s h
theorem zRank_b {A : zA} {t k : Int} (h : 0 ≤ k) : 0 ≤ zRank A t k ∧ zRank A t k ≤ k := by
  have := zS_b (f := fun k => if A 35 k = t then 1 else 0) (c := 1) k (fun i _ _ => z01) h (by omega)
  unfold zRank; omega
theorem zRank_m {A : zA} {t k l : Int} (h : 0 ≤ k) (h2 : k ≤ l) : zRank A t k ≤ zRank A t l := by
  refine zloopI (I := fun i => zRank A t k ≤ zRank A t i) (P := fun _ => zRank A t k ≤ zRank A t l) l h2 (Int.le_refl _) ?_ (fun q => q) (fun j h1 h2 hi q => q)
  intro j h1 h2 hi
  rw [zRank_s (by omega)]
  have := z01 (c := A 35 j = t)
  omega
/-- no two seals of one rank -/
theorem zRank_i {A : zA} {t k l : Int} (hk : 0 ≤ k) (hl : 0 ≤ l) (h1 : A 35 k = t) (h2 : A 35 l = t) (h : zRank A t k = zRank A t l) : k = l := by
  by_cases q : k < l
  · have a := zRank_m (A := A) (t := t) (k := k + 1) (l := l) (by omega) (by omega)
    rw [zRank_s hk, if_pos h1] at a
    omega
  · by_cases q2 : l < k
    · have a := zRank_m (A := A) (t := t) (k := l + 1) (l := k) (by omega) (by omega)
      rw [zRank_s hl, if_pos h2] at a
      omega
    · omega
theorem l_M_seal {e : gE} {b : Nat} {m : Int} {Z : Int → gH → Prop} {kc ks : Nat} {G : gH} {p1 p2 p3 : Int} (hB : zB 512 (zM m G)) (ht : zTh (zM m G) p1) (h2 : 0 ≤ p2) (h3 : 0 ≤ p3 ∧ p3 ≤ 2) (hp : inI p2) (hZ : ∀ v, zSealQ (zM m G) p1 p2 p3 v → Z v G) : EX e b m m_M_seal Z kc ks 29 [(2, (m + 0)), (0, p1), (9, 0), (0, p3), (0, p2), (0, 0)] [] G := by
  have b1 : 0 ≤ zM m G 794 0 ∧ zM m G 794 0 ≤ 16 * 512 + 32 := hB 794 0
  have hz : zRank (zM m G) p1 0 = 0 := rfl
  have := zloop (P := fun i => zRank (zM m G) p1 i ≤ p2 → EX e b m m_M_seal Z kc ks 29 [(2, (m + 0)), (0, p1), (9, 0), (0, p3), (0, p2 - zRank (zM m G) p1 i), (0, i)] [] G) (zM m G 794 0) (i := 0) b1.1 ?_ ?_
  · have q := this (by omega); rw [hz, Int.sub_zero] at q; exact q
  · intro hr
    refine sg_M_seal_29 ⟨fun _ => hZ _ ⟨fun _ => rfl, fun _ => ⟨fun _ => rfl, fun k k0 k1 k2 k3 => ?_⟩⟩, fun q => absurd q (by omega)⟩
    have a := zRank_m (A := zM m G) (t := p1) (k := k + 1) (l := zM m G 794 0) (by omega) (by omega)
    rw [zRank_s k0, if_pos k2] at a
    omega
  · intro j h1 h2 ih hr
    have b2 := zRank_b (A := zM m G) (t := p1) h1
    rw [zRank_s h1] at ih
    have hans : ∀ v, zM m G 35 j = p1 → p2 - zRank (zM m G) p1 j = 0 → v = zSealOf (zM m G) p3 j → Z v G := by
      intro v q1 q2 q3
      refine hZ v ⟨fun z => absurd ⟨ht, by omega, by omega, by omega⟩ z, fun _ => ⟨fun z => ?_, fun k k0 k1 k2 k3 => ?_⟩⟩
      · have a := zRank_m (A := zM m G) (t := p1) (k := j + 1) (l := zM m G 794 0) (by omega) (by omega)
        rw [zRank_s h1, if_pos q1] at a
        have : zSeals (zM m G) p1 = zRank (zM m G) p1 (zM m G 794 0) := rfl
        omega
      · rw [q3, zRank_i (A := zM m G) (t := p1) k0 h1 k2 q1 (by omega)]
    refine sg_M_seal_29 ⟨fun q => absurd q (by omega), fun _ => ⟨by omega, fun q => ⟨fun q2 => ⟨by omega, by omega, ?_⟩, fun q2 => ⟨fun q3 => ⟨fun q4 => hans _ q q2 ?_, fun q4 => hans _ q q2 ?_⟩, fun q3 => hans _ q q2 ?_⟩⟩, fun q => ⟨by omega, ?_⟩⟩⟩
    · rw [if_pos q] at ih
      have e1 := ih (by omega)
      rw [show p2 - (zRank (zM m G) p1 j + 1) = p2 - zRank (zM m G) p1 j + -1 from by omega] at e1
      exact e1
    · unfold zSealOf; rw [if_neg q3, if_neg q4]
    · unfold zSealOf; rw [if_neg q3, if_pos q4]
    · unfold zSealOf; rw [if_pos q3]
    · rw [if_neg q] at ih
      have e1 := ih (by omega)
      rw [show p2 - (zRank (zM m G) p1 j + 0) = p2 - zRank (zM m G) p1 j from by omega] at e1
      exact e1
theorem c_M_seal {e : gE} {b : Nat} {m : Int} {G : gH} {p1 p2 p3 : Int} (h : zB 512 (zM m G)) : GX e b m m_M_seal [(2, (m + 0)), (0, p1), (0, p2), (0, p3)] G 0 0 (fun v G1 => zSealQ (zM m G) p1 p2 p3 v ∧ G1 = G) := by
  refine GM.ar fun har => GM.ofEV (by decide) (Nat.le_of_ble_eq_true rfl) (sg_M_seal_0 ?_)
  have hp : inI p2 := okV_i.mp (har (0, p2) (by simp))
  exact ⟨fun q1 q2 q3 q4 => l_M_seal h q1 q2 ⟨q3, q4⟩ hp (fun v hv => ⟨hv, rfl⟩), fun q => ⟨⟨fun _ => rfl, fun z => absurd z (by omega)⟩, rfl⟩⟩
