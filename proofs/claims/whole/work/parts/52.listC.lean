/-! THE CLASS, 3: adding, inserting, clearing -/
set_option maxRecDepth 20000 in
set_option maxHeartbeats 4000000 in
theorem sg_AL_add_c_0 {e : gE} {b : Nat} {m : Int} {Z : Int → gH → Prop} {kc ks : Nat} {G : gH} {a0 p1 p2 p3 : Int} (t0 : G 0 a0 0 = 1) (h : (100 ≤ G 0 p2 0 ∧ G 0 p2 0 ≤ 105) ∧ ((p3 ≠ (G 0 p2 1) → (G 0 p2 0 = 103) ∧ ((0 ≤ p3) ∧ ((p3 < G 0 p2 1) ∧ (((b : Int) < p2) ∧ ((gRv (gX e b m) G "java/lang/Object" p1) ∧ (∀ G25 : gH, G25 = gU G 3 p2 p3 p1 → (inI (p3 + 1)) ∧ (((b : Int) < a0) ∧ (∀ G28 : gH, G28 = gU G25 18 a0 0 (p3 + 1) → Z 0 G28)))))))) ∧ (p3 = (G 0 p2 1) → ∃ kc6 ks7 mc8 ms9 : Nat, kc = kc6 + mc8 ∧ ks = ks7 + ms9 ∧ GX e b m m_AL_grow_a [(2, a0)] G mc8 ms9 (fun v4 G5 => (G5 0 v4 0 = 103) ∧ ((0 ≤ p3) ∧ ((p3 < G5 0 v4 1) ∧ (((b : Int) < v4) ∧ ((gRv (gX e b m) G5 "java/lang/Object" p1) ∧ (∀ G15 : gH, G15 = gU G5 3 v4 p3 p1 → (inI (p3 + 1)) ∧ ((G5 0 a0 0 = 1) ∧ (((b : Int) < a0) ∧ (∀ G19 : gH, G19 = gU G15 18 a0 0 (p3 + 1) → Z 0 G19)))))))))))) : EX e b m m_AL_add_c Z kc ks 0 [(2, a0), (2, p1), (2, p2), (0, p3)] [] G := by
  refine e_iload_n d_AL_add_c_0 rfl ?_
  refine e_aload_n d_AL_add_c_1 rfl ?_
  obtain ⟨o1, h⟩ := h
  refine e_alen d_AL_add_c_2 o1 ?_
  refine e_icmp_ne (tgt := 11) d_AL_add_c_3 (by decide) (fun q2 => ?_) (fun q3 => ?_)
  · have h := h.1 q2
    refine e_aload_n d_AL_add_c_11 rfl ?_
    refine e_iload_n d_AL_add_c_12 rfl ?_
    refine e_aload_n d_AL_add_c_13 rfl ?_
    obtain ⟨o20, o21, o22, o23, o24, h⟩ := h
    refine e_aast 103 "java/lang/Object" d_AL_add_c_14 (Or.inl ⟨rfl, rfl⟩) o20 o21 o22 o23 o24 (fx_U3 o20) ?_
    let G25 : gH := gU G 3 p2 p3 p1
    have h := h G25 rfl
    refine e_aload_n d_AL_add_c_15 rfl ?_
    refine e_iload_n d_AL_add_c_16 rfl ?_
    refine e_iconst d_AL_add_c_17 (by decide) ?_
    obtain ⟨o26, h⟩ := h
    refine e_iadd d_AL_add_c_18 o26 ?_
    obtain ⟨o27, h⟩ := h
    refine gp_AL_48 d_AL_add_c_19 rfl t0 o27 (fx_U (by decide)) ?_
    let G28 : gH := gU G25 18 a0 0 (p3 + 1)
    have h := h G28 rfl
    exact e_vret d_AL_add_c_22 rfl h
  · have h := h.2 q3
    refine e_aload_n d_AL_add_c_6 rfl ?_
    obtain ⟨kc6, ks7, mc8, ms9, hkc6, hks7, h⟩ := h
    refine e_callV m_AL_grow_a 0 lw_good d_AL_add_c_7 (k_AL_grow_a _) ⟨Nat.le_of_ble_eq_true rfl, Nat.le_of_ble_eq_true rfl⟩ w_361 w_363 w_s4 (q_AL _) rfl t0 (args := []) rfl rfl (Nat.le_of_ble_eq_true rfl) (kc' := kc6) (ks' := ks7) (mc := mc8) (ms := ms9) hkc6 hks7 h ?_
    intro v4 G5 h
    refine e_astore_n (ls' := [(2, a0), (2, p1), (2, v4), (0, p3)]) d_AL_add_c_10 (by decide) rfl ?_
    refine e_aload_n d_AL_add_c_11 rfl ?_
    refine e_iload_n d_AL_add_c_12 rfl ?_
    refine e_aload_n d_AL_add_c_13 rfl ?_
    obtain ⟨o10, o11, o12, o13, o14, h⟩ := h
    refine e_aast 103 "java/lang/Object" d_AL_add_c_14 (Or.inl ⟨rfl, rfl⟩) o10 o11 o12 o13 o14 (fx_U3 o10) ?_
    let G15 : gH := gU G5 3 v4 p3 p1
    have h := h G15 rfl
    refine e_aload_n d_AL_add_c_15 rfl ?_
    refine e_iload_n d_AL_add_c_16 rfl ?_
    refine e_iconst d_AL_add_c_17 (by decide) ?_
    obtain ⟨o16, h⟩ := h
    refine e_iadd d_AL_add_c_18 o16 ?_
    obtain ⟨o17, o18, h⟩ := h
    refine gp_AL_48 d_AL_add_c_19 rfl o17 o18 (fx_U (by decide)) ?_
    let G19 : gH := gU G15 18 a0 0 (p3 + 1)
    have h := h G19 rfl
    exact e_vret d_AL_add_c_22 rfl h
set_option maxRecDepth 20000 in
set_option maxHeartbeats 4000000 in
theorem sg_AL_add_b_0 {e : gE} {b : Nat} {m : Int} {Z : Int → gH → Prop} {kc ks : Nat} {G : gH} {a0 p1 : Int} (t0 : G 0 a0 0 = 1) (h : ((b : Int) < a0) ∧ (∀ G2 : gH, G2 = gU G 16 a0 0 (w32 ((G 16 a0 0) + 1)) → ∃ kc5 ks6 mc7 ms8 : Nat, kc = kc5 + mc7 ∧ ks = ks6 + ms8 ∧ GX e b m m_AL_add_c [(2, a0), (2, p1), (2, (G 17 a0 0)), (0, (G 18 a0 0))] G2 mc7 ms8 (fun _ G4 => Z 1 G4))) : EX e b m m_AL_add_b Z kc ks 0 [(2, a0), (2, p1)] [] G := by
  refine e_aload_n d_AL_add_b_0 rfl ?_
  refine e_dup d_AL_add_b_1 (by simp) ?_
  refine gf_AL_63 d_AL_add_b_2 rfl t0 ?_
  refine e_iconst d_AL_add_b_5 (by decide) ?_
  refine e_iaddW d_AL_add_b_6 ?_
  obtain ⟨o1, h⟩ := h
  refine gp_AL_63 d_AL_add_b_7 rfl t0 o1 (fx_U (by decide)) ?_
  let G2 : gH := gU G 16 a0 0 (w32 ((G 16 a0 0) + 1))
  have h := h G2 rfl
  refine e_aload_n d_AL_add_b_10 rfl ?_
  refine e_aload_n d_AL_add_b_11 rfl ?_
  refine e_aload_n d_AL_add_b_12 rfl ?_
  refine gf_AL_9 d_AL_add_b_13 rfl t0 ?_
  refine e_aload_n d_AL_add_b_16 rfl ?_
  refine gf_AL_48 d_AL_add_b_17 rfl t0 ?_
  obtain ⟨kc5, ks6, mc7, ms8, hkc5, hks6, h⟩ := h
  refine e_callV m_AL_add_c 0 lw_good d_AL_add_b_20 (k_AL_add_c _) ⟨Nat.le_of_ble_eq_true rfl, Nat.le_of_ble_eq_true rfl⟩ w_357 w_359 w_s3 (q_AL _) rfl t0 (args := [(2, p1), (2, (G 17 a0 0)), (0, (G 18 a0 0))]) rfl rfl (Nat.le_of_ble_eq_true rfl) (kc' := kc5) (ks' := ks6) (mc := mc7) (ms := ms8) hkc5 hks6 h ?_
  intro v3 G4 h
  refine e_iconst d_AL_add_b_23 (by decide) ?_
  exact e_zret .boolean d_AL_add_b_24 rfl (by decide) h
set_option maxRecDepth 20000 in
set_option maxHeartbeats 4000000 in
theorem sg_AL_add_a_0 {e : gE} {b : Nat} {m : Int} {Z : Int → gH → Prop} {kc ks : Nat} {G : gH} {a0 p1 p2 : Int} (t0 : G 0 a0 0 = 1) (h : (G 0 a0 0 = 1) ∧ ((0 ≤ p1 ∧ p1 ≤ G 18 a0 0) ∧ (((b : Int) < a0) ∧ (∀ G4 : gH, G4 = gU G 16 a0 0 (w32 ((G 16 a0 0) + 1)) → (100 ≤ G 0 (G 17 a0 0) 0 ∧ G 0 (G 17 a0 0) 0 ≤ 105) ∧ (((G 18 a0 0) ≠ (G 0 (G 17 a0 0) 1) → (inI (p1 + 1)) ∧ ((inI ((G 18 a0 0) - p1)) ∧ ((G 0 (G 17 a0 0) 0 = 103) ∧ (((b : Int) < (G 17 a0 0)) ∧ ((0 ≤ p1 ∧ 0 ≤ (p1 + 1) ∧ 0 ≤ ((G 18 a0 0) - p1) ∧ p1 + ((G 18 a0 0) - p1) ≤ G 0 (G 17 a0 0) 1 ∧ (p1 + 1) + ((G 18 a0 0) - p1) ≤ G 0 (G 17 a0 0) 1) ∧ ((∀ k : Int, 0 ≤ k → k < ((G 18 a0 0) - p1) → gRv (gX e b m) G4 "java/lang/Object" (G4 3 (G 17 a0 0) (p1 + k))) ∧ (∀ G34 : gH, G34 = gCp G4 3 (G 17 a0 0) p1 (G 17 a0 0) (p1 + 1) ((G 18 a0 0) - p1) → (0 ≤ p1) ∧ ((p1 < G 0 (G 17 a0 0) 1) ∧ ((gRv (gX e b m) G34 "java/lang/Object" p2) ∧ (∀ G38 : gH, G38 = gU G34 3 (G 17 a0 0) p1 p2 → (inI ((G 18 a0 0) + 1)) ∧ (∀ G40 : gH, G40 = gU G38 18 a0 0 ((G 18 a0 0) + 1) → Z 0 G40))))))))))) ∧ ((G 18 a0 0) = (G 0 (G 17 a0 0) 1) → ∃ kc10 ks11 mc12 ms13 : Nat, kc = kc10 + mc12 ∧ ks = ks11 + ms13 ∧ GX e b m m_AL_grow_a [(2, a0)] G4 mc12 ms13 (fun v8 G9 => (inI (p1 + 1)) ∧ ((inI ((G 18 a0 0) - p1)) ∧ ((G9 0 v8 0 = 103) ∧ (((b : Int) < v8) ∧ ((0 ≤ p1 ∧ 0 ≤ (p1 + 1) ∧ 0 ≤ ((G 18 a0 0) - p1) ∧ p1 + ((G 18 a0 0) - p1) ≤ G9 0 v8 1 ∧ (p1 + 1) + ((G 18 a0 0) - p1) ≤ G9 0 v8 1) ∧ ((∀ k : Int, 0 ≤ k → k < ((G 18 a0 0) - p1) → gRv (gX e b m) G9 "java/lang/Object" (G9 3 v8 (p1 + k))) ∧ (∀ G20 : gH, G20 = gCp G9 3 v8 p1 v8 (p1 + 1) ((G 18 a0 0) - p1) → (0 ≤ p1) ∧ ((p1 < G9 0 v8 1) ∧ ((gRv (gX e b m) G20 "java/lang/Object" p2) ∧ (∀ G24 : gH, G24 = gU G20 3 v8 p1 p2 → (inI ((G 18 a0 0) + 1)) ∧ ((G9 0 a0 0 = 1) ∧ (∀ G27 : gH, G27 = gU G24 18 a0 0 ((G 18 a0 0) + 1) → Z 0 G27)))))))))))))))))) : EX e b m m_AL_add_a Z kc ks 0 [(2, a0), (0, p1), (2, p2), (9, 0), (9, 0)] [] G := by
  refine e_aload_n d_AL_add_a_0 rfl ?_
  refine e_iload_n d_AL_add_a_1 rfl ?_
  obtain ⟨o1, o2, h⟩ := h
  refine e_callV m_AL_rangeCheckForAdd 0 lw_good d_AL_add_a_2 (k_AL_rangeCheckForAdd _) ⟨Nat.le_of_ble_eq_true rfl, Nat.le_of_ble_eq_true rfl⟩ w_669 w_671 w_s16 (q_AL _) rfl t0 (args := [(0, p1)]) rfl rfl (Nat.le_of_ble_eq_true rfl) (kc' := kc) (ks' := ks) (mc := 0) (ms := 0) rfl rfl (c_AL_rangeCheckForAdd o1 o2) (pureK ?_)
  refine e_aload_n d_AL_add_a_5 rfl ?_
  refine e_dup d_AL_add_a_6 (by simp) ?_
  refine gf_AL_63 d_AL_add_a_7 rfl t0 ?_
  refine e_iconst d_AL_add_a_10 (by decide) ?_
  refine e_iaddW d_AL_add_a_11 ?_
  obtain ⟨o3, h⟩ := h
  refine gp_AL_63 d_AL_add_a_12 rfl t0 o3 (fx_U (by decide)) ?_
  let G4 : gH := gU G 16 a0 0 (w32 ((G 16 a0 0) + 1))
  have h := h G4 rfl
  refine e_aload_n d_AL_add_a_15 rfl ?_
  refine gf_AL_48 d_AL_add_a_16 rfl t0 ?_
  refine e_dup d_AL_add_a_19 (by simp) ?_
  refine e_istore_n (ls' := [(2, a0), (0, p1), (2, p2), (0, (G 18 a0 0)), (9, 0)]) d_AL_add_a_20 (by decide) rfl ?_
  refine e_aload_n d_AL_add_a_21 rfl ?_
  refine gf_AL_9 d_AL_add_a_22 rfl t0 ?_
  refine e_dup d_AL_add_a_25 (by simp) ?_
  refine e_astore (ls' := [(2, a0), (0, p1), (2, p2), (0, (G 18 a0 0)), (2, (G 17 a0 0))]) d_AL_add_a_26 (by decide) rfl ?_
  obtain ⟨o5, h⟩ := h
  refine e_alen d_AL_add_a_28 o5 ?_
  refine e_icmp_ne (tgt := 38) d_AL_add_a_29 (by decide) (fun q6 => ?_) (fun q7 => ?_)
  · have h := h.1 q6
    refine e_aload d_AL_add_a_38 rfl ?_
    refine e_iload_n d_AL_add_a_40 rfl ?_
    refine e_aload d_AL_add_a_41 rfl ?_
    refine e_iload_n d_AL_add_a_43 rfl ?_
    refine e_iconst d_AL_add_a_44 (by decide) ?_
    obtain ⟨o28, h⟩ := h
    refine e_iadd d_AL_add_a_45 o28 ?_
    refine e_iload_n d_AL_add_a_46 rfl ?_
    refine e_iload_n d_AL_add_a_47 rfl ?_
    obtain ⟨o29, h⟩ := h
    refine e_isub d_AL_add_a_48 o29 ?_
    obtain ⟨o30, o31, o32, o33, h⟩ := h
    refine e_copyq d_AL_add_a_49 w_673 w_410 w_409 w_17 (by decide) (Nat.le_of_ble_eq_true rfl) (by first | simp | decide | exact Nat.le_of_ble_eq_true rfl) o30 o30 o31 o32.1 o32.2.1 o32.2.2.1 o32.2.2.2.1 o32.2.2.2.2 o33 (fx_Cp (Or.inr ⟨rfl, o30⟩)) ?_
    let G34 : gH := gCp G4 3 (G 17 a0 0) p1 (G 17 a0 0) (p1 + 1) ((G 18 a0 0) - p1)
    have h := h G34 rfl
    refine e_aload d_AL_add_a_52 rfl ?_
    refine e_iload_n d_AL_add_a_54 rfl ?_
    refine e_aload_n d_AL_add_a_55 rfl ?_
    obtain ⟨o35, o36, o37, h⟩ := h
    refine e_aast 103 "java/lang/Object" d_AL_add_a_56 (Or.inl ⟨rfl, rfl⟩) o30 o35 o36 o31 o37 (fx_U3 o30) ?_
    let G38 : gH := gU G34 3 (G 17 a0 0) p1 p2
    have h := h G38 rfl
    refine e_aload_n d_AL_add_a_57 rfl ?_
    refine e_iload_n d_AL_add_a_58 rfl ?_
    refine e_iconst d_AL_add_a_59 (by decide) ?_
    obtain ⟨o39, h⟩ := h
    refine e_iadd d_AL_add_a_60 o39 ?_
    refine gp_AL_48 d_AL_add_a_61 rfl t0 o3 (fx_U (by decide)) ?_
    let G40 : gH := gU G38 18 a0 0 ((G 18 a0 0) + 1)
    have h := h G40 rfl
    exact e_vret d_AL_add_a_64 rfl h
  · have h := h.2 q7
    refine e_aload_n d_AL_add_a_32 rfl ?_
    obtain ⟨kc10, ks11, mc12, ms13, hkc10, hks11, h⟩ := h
    refine e_callV m_AL_grow_a 0 lw_good d_AL_add_a_33 (k_AL_grow_a _) ⟨Nat.le_of_ble_eq_true rfl, Nat.le_of_ble_eq_true rfl⟩ w_361 w_363 w_s4 (q_AL _) rfl t0 (args := []) rfl rfl (Nat.le_of_ble_eq_true rfl) (kc' := kc10) (ks' := ks11) (mc := mc12) (ms := ms13) hkc10 hks11 h ?_
    intro v8 G9 h
    refine e_astore (ls' := [(2, a0), (0, p1), (2, p2), (0, (G 18 a0 0)), (2, v8)]) d_AL_add_a_36 (by decide) rfl ?_
    refine e_aload d_AL_add_a_38 rfl ?_
    refine e_iload_n d_AL_add_a_40 rfl ?_
    refine e_aload d_AL_add_a_41 rfl ?_
    refine e_iload_n d_AL_add_a_43 rfl ?_
    refine e_iconst d_AL_add_a_44 (by decide) ?_
    obtain ⟨o14, h⟩ := h
    refine e_iadd d_AL_add_a_45 o14 ?_
    refine e_iload_n d_AL_add_a_46 rfl ?_
    refine e_iload_n d_AL_add_a_47 rfl ?_
    obtain ⟨o15, h⟩ := h
    refine e_isub d_AL_add_a_48 o15 ?_
    obtain ⟨o16, o17, o18, o19, h⟩ := h
    refine e_copyq d_AL_add_a_49 w_673 w_410 w_409 w_17 (by decide) (Nat.le_of_ble_eq_true rfl) (by first | simp | decide | exact Nat.le_of_ble_eq_true rfl) o16 o16 o17 o18.1 o18.2.1 o18.2.2.1 o18.2.2.2.1 o18.2.2.2.2 o19 (fx_Cp (Or.inr ⟨rfl, o16⟩)) ?_
    let G20 : gH := gCp G9 3 v8 p1 v8 (p1 + 1) ((G 18 a0 0) - p1)
    have h := h G20 rfl
    refine e_aload d_AL_add_a_52 rfl ?_
    refine e_iload_n d_AL_add_a_54 rfl ?_
    refine e_aload_n d_AL_add_a_55 rfl ?_
    obtain ⟨o21, o22, o23, h⟩ := h
    refine e_aast 103 "java/lang/Object" d_AL_add_a_56 (Or.inl ⟨rfl, rfl⟩) o16 o21 o22 o17 o23 (fx_U3 o16) ?_
    let G24 : gH := gU G20 3 v8 p1 p2
    have h := h G24 rfl
    refine e_aload_n d_AL_add_a_57 rfl ?_
    refine e_iload_n d_AL_add_a_58 rfl ?_
    refine e_iconst d_AL_add_a_59 (by decide) ?_
    obtain ⟨o25, h⟩ := h
    refine e_iadd d_AL_add_a_60 o25 ?_
    obtain ⟨o26, h⟩ := h
    refine gp_AL_48 d_AL_add_a_61 rfl o26 o3 (fx_U (by decide)) ?_
    let G27 : gH := gU G24 18 a0 0 ((G 18 a0 0) + 1)
    have h := h G27 rfl
    exact e_vret d_AL_add_a_64 rfl h
set_option maxRecDepth 20000 in
set_option maxHeartbeats 4000000 in
theorem sg_AL_clear_0 {e : gE} {b : Nat} {m : Int} {Z : Int → gH → Prop} {kc ks : Nat} {G : gH} {a0 : Int} (t0 : G 0 a0 0 = 1) (h : ((b : Int) < a0) ∧ (∀ G2 : gH, G2 = gU G 16 a0 0 (w32 ((G 16 a0 0) + 1)) → ∀ G3 : gH, G3 = gU G2 18 a0 0 0 → EX e b m m_AL_clear Z kc ks 27 [(9, 0), (2, (G 17 a0 0)), (0, (G 18 a0 0)), (0, 0)] [] G3)) : EX e b m m_AL_clear Z kc ks 0 [(2, a0), (9, 0), (9, 0), (9, 0)] [] G := by
  refine e_aload_n d_AL_clear_0 rfl ?_
  refine e_dup d_AL_clear_1 (by simp) ?_
  refine gf_AL_63 d_AL_clear_2 rfl t0 ?_
  refine e_iconst d_AL_clear_5 (by decide) ?_
  refine e_iaddW d_AL_clear_6 ?_
  obtain ⟨o1, h⟩ := h
  refine gp_AL_63 d_AL_clear_7 rfl t0 o1 (fx_U (by decide)) ?_
  let G2 : gH := gU G 16 a0 0 (w32 ((G 16 a0 0) + 1))
  have h := h G2 rfl
  refine e_aload_n d_AL_clear_10 rfl ?_
  refine gf_AL_9 d_AL_clear_11 rfl t0 ?_
  refine e_astore_n (ls' := [(2, a0), (2, (G 17 a0 0)), (9, 0), (9, 0)]) d_AL_clear_14 (by decide) rfl ?_
  refine e_aload_n d_AL_clear_15 rfl ?_
  refine gf_AL_48 d_AL_clear_16 rfl t0 ?_
  refine e_istore_n (ls' := [(2, a0), (2, (G 17 a0 0)), (0, (G 18 a0 0)), (9, 0)]) d_AL_clear_19 (by decide) rfl ?_
  refine e_aload_n d_AL_clear_20 rfl ?_
  refine e_iconst d_AL_clear_21 (by decide) ?_
  refine e_dup_x1 d_AL_clear_22 (by simp) (by simp) ?_
  refine gp_AL_48 d_AL_clear_23 rfl t0 o1 (fx_U (by decide)) ?_
  let G3 : gH := gU G2 18 a0 0 0
  have h := h G3 rfl
  refine e_istore_n (ls' := [(2, a0), (2, (G 17 a0 0)), (0, (G 18 a0 0)), (0, 0)]) d_AL_clear_26 (by decide) rfl ?_
  exact e_forget (ls' := [(9, 0), (2, (G 17 a0 0)), (0, (G 18 a0 0)), (0, 0)]) ⟨Or.inl rfl, Or.inr rfl, Or.inr rfl, Or.inr rfl, trivial⟩ h
set_option maxRecDepth 20000 in
set_option maxHeartbeats 4000000 in
theorem sg_AL_clear_27 {e : gE} {b : Nat} {m : Int} {Z : Int → gH → Prop} {kc ks : Nat} {G : gH} {x1 x2 x3 : Int} (h : (x2 ≤ x3 → Z 0 G) ∧ (x3 < x2 → (G 0 x1 0 = 103) ∧ ((0 ≤ x3) ∧ ((x3 < G 0 x1 1) ∧ (((b : Int) < x1) ∧ ((gRv (gX e b m) G "java/lang/Object" 0) ∧ (∀ G8 : gH, G8 = gU G 3 x1 x3 0 → (inI (x3 + 1)) ∧ EX e b m m_AL_clear Z kc ks 27 [(9, 0), (2, x1), (0, x2), (0, (x3 + 1))] [] G8))))))) : EX e b m m_AL_clear Z kc ks 27 [(9, 0), (2, x1), (0, x2), (0, x3)] [] G := by
  refine e_iload_n d_AL_clear_27 rfl ?_
  refine e_iload_n d_AL_clear_28 rfl ?_
  refine e_icmp_ge (tgt := 42) d_AL_clear_29 (by decide) (fun q1 => ?_) (fun q2 => ?_)
  · have h := h.1 q1
    exact e_vret d_AL_clear_42 rfl h
  · have h := h.2 q2
    refine e_aload_n d_AL_clear_32 rfl ?_
    refine e_iload_n d_AL_clear_33 rfl ?_
    refine e_null d_AL_clear_34 ?_
    obtain ⟨o3, o4, o5, o6, o7, h⟩ := h
    refine e_aast 103 "java/lang/Object" d_AL_clear_35 (Or.inl ⟨rfl, rfl⟩) o3 o4 o5 o6 o7 (fx_U3 o3) ?_
    let G8 : gH := gU G 3 x1 x3 0
    have h := h G8 rfl
    obtain ⟨o9, h⟩ := h
    refine e_iinc (ls' := [(9, 0), (2, x1), (0, x2), (0, (x3 + 1))]) d_AL_clear_36 rfl (by decide) o9 rfl ?_
    refine e_goto (tgt := 27) d_AL_clear_39 (by decide) ?_
    exact e_forget (ls' := [(9, 0), (2, x1), (0, x2), (0, (x3 + 1))]) ⟨Or.inl rfl, Or.inr rfl, Or.inr rfl, Or.inr rfl, trivial⟩ h
set_option maxRecDepth 20000 in
set_option maxHeartbeats 4000000 in
theorem sg_Arrays_fill_a_0 {e : gE} {b : Nat} {m : Int} {Z : Int → gH → Prop} {kc ks : Nat} {G : gH} {p0 p1 : Int} (h : (100 ≤ G 0 p0 0 ∧ G 0 p0 0 ≤ 105) ∧ EX e b m m_Arrays_fill_a Z kc ks 5 [(2, p0), (0, p1), (0, 0), (0, (G 0 p0 1))] [] G) : EX e b m m_Arrays_fill_a Z kc ks 0 [(2, p0), (0, p1), (9, 0), (9, 0)] [] G := by
  refine e_iconst d_Arrays_fill_a_0 (by decide) ?_
  refine e_istore_n (ls' := [(2, p0), (0, p1), (0, 0), (9, 0)]) d_Arrays_fill_a_1 (by decide) rfl ?_
  refine e_aload_n d_Arrays_fill_a_2 rfl ?_
  obtain ⟨o1, h⟩ := h
  refine e_alen d_Arrays_fill_a_3 o1 ?_
  refine e_istore_n (ls' := [(2, p0), (0, p1), (0, 0), (0, (G 0 p0 1))]) d_Arrays_fill_a_4 (by decide) rfl ?_
  exact e_forget (ls' := [(2, p0), (0, p1), (0, 0), (0, (G 0 p0 1))]) ⟨Or.inr rfl, Or.inr rfl, Or.inr rfl, Or.inr rfl, trivial⟩ h
set_option maxRecDepth 20000 in
set_option maxHeartbeats 4000000 in
theorem sg_Arrays_fill_a_5 {e : gE} {b : Nat} {m : Int} {Z : Int → gH → Prop} {kc ks : Nat} {G : gH} {p0 p1 x2 x3 : Int} (h : (x3 ≤ x2 → Z 0 G) ∧ (x2 < x3 → (G 0 p0 0 = 100) ∧ ((0 ≤ x2) ∧ ((x2 < G 0 p0 1) ∧ (((b : Int) < p0) ∧ (∀ G7 : gH, G7 = gU G 1 p0 x2 p1 → (inI (x2 + 1)) ∧ EX e b m m_Arrays_fill_a Z kc ks 5 [(2, p0), (0, p1), (0, (x2 + 1)), (0, x3)] [] G7)))))) : EX e b m m_Arrays_fill_a Z kc ks 5 [(2, p0), (0, p1), (0, x2), (0, x3)] [] G := by
  refine e_iload_n d_Arrays_fill_a_5 rfl ?_
  refine e_iload_n d_Arrays_fill_a_6 rfl ?_
  refine e_icmp_ge (tgt := 20) d_Arrays_fill_a_7 (by decide) (fun q1 => ?_) (fun q2 => ?_)
  · have h := h.1 q1
    exact e_vret d_Arrays_fill_a_20 rfl h
  · have h := h.2 q2
    refine e_aload_n d_Arrays_fill_a_10 rfl ?_
    refine e_iload_n d_Arrays_fill_a_11 rfl ?_
    refine e_iload_n d_Arrays_fill_a_12 rfl ?_
    obtain ⟨o3, o4, o5, o6, h⟩ := h
    refine e_iast d_Arrays_fill_a_13 o3 o4 o5 o6 (fx_U (by decide)) ?_
    let G7 : gH := gU G 1 p0 x2 p1
    have h := h G7 rfl
    obtain ⟨o8, h⟩ := h
    refine e_iinc (ls' := [(2, p0), (0, p1), (0, (x2 + 1)), (0, x3)]) d_Arrays_fill_a_14 rfl (by decide) o8 rfl ?_
    refine e_goto (tgt := 5) d_Arrays_fill_a_17 (by decide) ?_
    exact e_forget (ls' := [(2, p0), (0, p1), (0, (x2 + 1)), (0, x3)]) ⟨Or.inr rfl, Or.inr rfl, Or.inr rfl, Or.inr rfl, trivial⟩ h
set_option maxRecDepth 20000 in
set_option maxHeartbeats 4000000 in
theorem sg_Arrays_fill_b_0 {e : gE} {b : Nat} {m : Int} {Z : Int → gH → Prop} {kc ks : Nat} {G : gH} {p0 p1 : Int} (h : (100 ≤ G 0 p0 0 ∧ G 0 p0 0 ≤ 105) ∧ EX e b m m_Arrays_fill_b Z kc ks 6 [(2, p0), (1, p1), (9, 0), (0, 0), (0, (G 0 p0 1))] [] G) : EX e b m m_Arrays_fill_b Z kc ks 0 [(2, p0), (1, p1), (9, 0), (9, 0), (9, 0)] [] G := by
  refine e_iconst d_Arrays_fill_b_0 (by decide) ?_
  refine e_istore_n (ls' := [(2, p0), (1, p1), (9, 0), (0, 0), (9, 0)]) d_Arrays_fill_b_1 (by decide) rfl ?_
  refine e_aload_n d_Arrays_fill_b_2 rfl ?_
  obtain ⟨o1, h⟩ := h
  refine e_alen d_Arrays_fill_b_3 o1 ?_
  refine e_istore (ls' := [(2, p0), (1, p1), (9, 0), (0, 0), (0, (G 0 p0 1))]) d_Arrays_fill_b_4 (by decide) rfl ?_
  exact e_forget (ls' := [(2, p0), (1, p1), (9, 0), (0, 0), (0, (G 0 p0 1))]) ⟨Or.inr rfl, Or.inr rfl, Or.inl rfl, Or.inr rfl, Or.inr rfl, trivial⟩ h
set_option maxRecDepth 20000 in
set_option maxHeartbeats 4000000 in
theorem sg_Arrays_fill_b_6 {e : gE} {b : Nat} {m : Int} {Z : Int → gH → Prop} {kc ks : Nat} {G : gH} {p0 p1 x3 x4 : Int} (h : (x4 ≤ x3 → Z 0 G) ∧ (x3 < x4 → (G 0 p0 0 = 101) ∧ ((0 ≤ x3) ∧ ((x3 < G 0 p0 1) ∧ (((b : Int) < p0) ∧ (∀ G7 : gH, G7 = gU G 2 p0 x3 p1 → (inI (x3 + 1)) ∧ EX e b m m_Arrays_fill_b Z kc ks 6 [(2, p0), (1, p1), (9, 0), (0, (x3 + 1)), (0, x4)] [] G7)))))) : EX e b m m_Arrays_fill_b Z kc ks 6 [(2, p0), (1, p1), (9, 0), (0, x3), (0, x4)] [] G := by
  refine e_iload_n d_Arrays_fill_b_6 rfl ?_
  refine e_iload d_Arrays_fill_b_7 rfl ?_
  refine e_icmp_ge (tgt := 22) d_Arrays_fill_b_9 (by decide) (fun q1 => ?_) (fun q2 => ?_)
  · have h := h.1 q1
    exact e_vret d_Arrays_fill_b_22 rfl h
  · have h := h.2 q2
    refine e_aload_n d_Arrays_fill_b_12 rfl ?_
    refine e_iload_n d_Arrays_fill_b_13 rfl ?_
    refine e_lload_n d_Arrays_fill_b_14 rfl ?_
    obtain ⟨o3, o4, o5, o6, h⟩ := h
    refine e_last d_Arrays_fill_b_15 o3 o4 o5 o6 (fx_U (by decide)) ?_
    let G7 : gH := gU G 2 p0 x3 p1
    have h := h G7 rfl
    obtain ⟨o8, h⟩ := h
    refine e_iinc (ls' := [(2, p0), (1, p1), (9, 0), (0, (x3 + 1)), (0, x4)]) d_Arrays_fill_b_16 rfl (by decide) o8 rfl ?_
    refine e_goto (tgt := 6) d_Arrays_fill_b_19 (by decide) ?_
    exact e_forget (ls' := [(2, p0), (1, p1), (9, 0), (0, (x3 + 1)), (0, x4)]) ⟨Or.inr rfl, Or.inr rfl, Or.inl rfl, Or.inr rfl, Or.inr rfl, trivial⟩ h
set_option maxRecDepth 20000 in
set_option maxHeartbeats 4000000 in
theorem sg_Arrays_copyOf_a_0 {e : gE} {b : Nat} {m : Int} {Z : Int → gH → Prop} {kc ks : Nat} {G : gH} {p0 p1 : Int} (h : (100 ≤ G 0 p0 0 ∧ G 0 p0 0 ≤ 105) ∧ ((p1 ≠ (G 0 p0 1) → ∃ kc4 ks5 : Nat, kc = kc4 + 1 ∧ ks = ks5 + Int.toNat p1 ∧ (0 ≤ (p1 : Int) ∧ (p1 : Int) ≤ 60000000) ∧ (∀ a6 : Int, a6 = G 9 0 0 → ∀ G7 : gH, G7 = gN G 100 p1 → (100 ≤ G7 0 p0 0 ∧ G7 0 p0 0 ≤ 105) ∧ ((G7 0 p0 0 = 100) ∧ ((G7 0 a6 0 = 100) ∧ (((b : Int) < a6) ∧ ((0 ≤ (0 : Int) ∧ 0 ≤ (0 : Int) ∧ 0 ≤ (if p1 < (G7 0 p0 1) then p1 else (G7 0 p0 1)) ∧ 0 + (if p1 < (G7 0 p0 1) then p1 else (G7 0 p0 1)) ≤ G7 0 p0 1 ∧ 0 + (if p1 < (G7 0 p0 1) then p1 else (G7 0 p0 1)) ≤ G7 0 a6 1) ∧ (∀ G13 : gH, G13 = gCp G7 1 p0 0 a6 0 (if p1 < (G7 0 p0 1) then p1 else (G7 0 p0 1)) → Z a6 G13))))))) ∧ (p1 = (G 0 p0 1) → False))) : EX e b m m_Arrays_copyOf_a Z kc ks 0 [(2, p0), (0, p1), (9, 0)] [] G := by
  refine e_iload_n d_Arrays_copyOf_a_0 rfl ?_
  refine e_aload_n d_Arrays_copyOf_a_1 rfl ?_
  obtain ⟨o1, h⟩ := h
  refine e_alen d_Arrays_copyOf_a_2 o1 ?_
  refine e_icmp_ne (tgt := 14) d_Arrays_copyOf_a_3 (by decide) (fun q2 => ?_) (fun q3 => ?_)
  · have h := h.1 q2
    refine e_iload_n d_Arrays_copyOf_a_14 rfl ?_
    obtain ⟨kc4, ks5, hkc4, hks5, hna6, h⟩ := h
    refine e_newi d_Arrays_copyOf_a_15 w_92 hna6.1 (by omega) hkc4 hks5 fx_N ?_
    let a6 : Int := G 9 0 0
    have h := h a6 rfl
    let G7 : gH := gN G 100 p1
    have h := h G7 rfl
    refine e_astore_n (ls' := [(2, p0), (0, p1), (2, a6)]) d_Arrays_copyOf_a_17 (by decide) rfl ?_
    refine e_aload_n d_Arrays_copyOf_a_18 rfl ?_
    refine e_iconst d_Arrays_copyOf_a_19 (by decide) ?_
    refine e_aload_n d_Arrays_copyOf_a_20 rfl ?_
    refine e_iconst d_Arrays_copyOf_a_21 (by decide) ?_
    refine e_aload_n d_Arrays_copyOf_a_22 rfl ?_
    obtain ⟨o8, h⟩ := h
    refine e_alen d_Arrays_copyOf_a_23 o8 ?_
    refine e_iload_n d_Arrays_copyOf_a_24 rfl ?_
    refine e_callS m_Math_min_a lw_good d_Arrays_copyOf_a_25 (k_Math_min_a _) ⟨Nat.le_of_ble_eq_true rfl, Nat.le_of_ble_eq_true rfl⟩ w_405 w_406 (args := [(0, (G7 0 p0 1)), (0, p1)]) rfl rfl (Nat.le_of_ble_eq_true rfl) (kc' := kc4) (ks' := ks5) (mc := 0) (ms := 0) rfl rfl (c_Math_min_a) (pureK ?_)
    obtain ⟨o9, o10, o11, o12, h⟩ := h
    refine e_copyi d_Arrays_copyOf_a_28 w_408 w_410 w_409 w_17 (by decide) (Nat.le_of_ble_eq_true rfl) (by first | simp | decide | exact Nat.le_of_ble_eq_true rfl) o9 o10 o11 o12.1 o12.2.1 o12.2.2.1 o12.2.2.2.1 o12.2.2.2.2 (fx_Cp (Or.inl (by decide))) ?_
    let G13 : gH := gCp G7 1 p0 0 a6 0 (if p1 < (G7 0 p0 1) then p1 else (G7 0 p0 1))
    have h := h G13 rfl
    refine e_aload_n d_Arrays_copyOf_a_31 rfl ?_
    exact e_aret d_Arrays_copyOf_a_32 (Or.inr ⟨_, rfl⟩) h
  · have h := h.2 q3
    refine e_aload_n d_Arrays_copyOf_a_6 rfl ?_
    exact h.elim
/-- what a list's call leaves as it was -/
def zAF (a : Int) (G G1 : gH) : Prop := G 9 0 0 ≤ G1 9 0 0 ∧ (G1 17 a 0 = G 17 a 0 ∨ G 9 0 0 ≤ G1 17 a 0) ∧ ∀ (c : Nat) (i j : Int), c ≠ 9 → i < G 9 0 0 → ¬ (i = a ∧ (c = 16 ∨ c = 17 ∨ c = 18)) → ¬ (c = 3 ∧ i = G 17 a 0) → G1 c i j = G c i j
theorem zAF_r {a : Int} {G : gH} : zAF a G G := ⟨Int.le_refl _, Or.inl rfl, fun _ _ _ _ _ _ _ => rfl⟩
theorem zAF_t {a : Int} {G G1 G2 : gH} (h : zAF a G G1) (h2 : zAF a G1 G2) : zAF a G G2 := by
  obtain ⟨a1, a2, a3⟩ := h
  obtain ⟨b1, b2, b3⟩ := h2
  refine ⟨by omega, by omega, fun c i j c1 c2 c3 c4 => ?_⟩
  rw [b3 c i j c1 (by omega) c3 (by omega), a3 c i j c1 c2 c3 c4]
theorem zAL_fr {e : gE} {b : Nat} {m : Int} {G G1 : gH} {a tg n : Int} {f : Int → Int} (ht : tg ≠ 0) (h : zAL e b m G a tg n f) (e0 : ∀ i j, G 0 i 0 ≠ 0 → G1 0 i j = G 0 i j) (e1 : G1 17 a 0 = G 17 a 0) (e2 : G1 18 a 0 = G 18 a 0) (e3 : G 0 (G 17 a 0) 0 = 103 → ∀ j, G1 3 (G 17 a 0) j = G 3 (G 17 a 0) j) : zAL e b m G1 a tg n f := by
  obtain ⟨h1, h2, h3, h4⟩ := h
  refine ⟨by rw [e0 _ _ (by omega)]; exact h1, by rw [e2]; exact h2, fun i i1 i2 => by have := h3 i i1 i2; rw [e0 _ _ (by omega)]; exact this, ?_⟩
  rw [e1]
  rcases h4 with ⟨k1, k2, k3, k4⟩ | ⟨k1, k2, k3, k4⟩
  · exact Or.inl ⟨k1, k2, by rw [e0 _ _ (by omega)]; exact k3, by rw [e0 _ _ (by omega)]; exact k4⟩
  · exact Or.inr ⟨k1, by rw [e0 _ _ (by omega)]; exact k2, by rw [e0 _ _ (by omega)]; exact k3, fun i i1 i2 => by rw [e3 k2]; exact k4 i i1 i2⟩
theorem zAL_c {e : gE} {b : Nat} {m : Int} {G : gH} {a tg n : Int} {f g : Int → Int} (h : zAL e b m G a tg n f) (q : ∀ i, 0 ≤ i → i < n → f i = g i) : zAL e b m G a tg n g := by
  obtain ⟨h1, h2, h3, h4⟩ := h
  refine ⟨h1, h2, fun i i1 i2 => by rw [← q i i1 i2]; exact h3 i i1 i2, h4.imp id (fun w => ⟨w.1, w.2.1, w.2.2.1, fun i i1 i2 => by rw [← q i i1 i2]; exact w.2.2.2 i i1 i2⟩)⟩
/-- an element put in at k -/
def zPut (f : Int → Int) (k v : Int) : Int → Int := fun i => if i < k then f i else if i = k then v else f (i - 1)
theorem c_AL_add_c {e : gE} {b : Nat} {m : Int} {G : gH} {a tg n v : Int} {f : Int → Int} (gr : ∀ (G : gH) (v : Int), G 0 v 0 = tg → gRv (gX e b m) G "java/lang/Object" v) (ht : tg ≠ 0) (h : zAL e b m G a tg n f) (hn : n ≤ 20) (hv : G 0 v 0 = tg) (ha : (b : Int) < a) : GX e b m m_AL_add_c [(2, a), (2, v), (2, (G 17 a 0)), (0, n)] G 1 40 (fun _ G1 => zAL e b m G1 a tg (n + 1) (zPut f n v) ∧ zAF a G G1) := by
  refine GM.tg fun hT => GM.inv fun hF => ?_
  have hz := h
  obtain ⟨h1, h2, h3, h4⟩ := h
  have hpa := hT a (by rw [h1]; decide)
  have hpv := hT v (by rw [hv]; exact ht)
  have hlo := fx_lo hF
  have h0 : 0 ≤ n := by rcases h4 with w | w <;> omega
  refine GM.ofJ (by decide +kernel) (Nat.le_of_ble_eq_true rfl) (sg_AL_add_c_0 h1 ⟨by rcases h4 with w | w <;> omega, fun q => ?_, fun q => ?_⟩)
  · rcases h4 with ⟨k1, k2, k3, k4⟩ | ⟨k1, k2, k3, k4⟩
    · omega
    · refine ⟨k2, h0, by omega, by omega, gr _ _ hv, ?_⟩
      rintro _ rfl
      refine ⟨by omega, ha, ?_⟩
      rintro _ rfl
      refine ⟨⟨by rw [gU_c _ (by decide), gU_c _ (by decide)]; exact h1, gU_eq, fun i i1 i2 => ?_, Or.inr ?_⟩, Int.le_of_eq (by rw [gU_c _ (by decide), gU_c _ (by decide)]), Or.inl (by rw [gU_c _ (by decide), gU_c _ (by decide)]), fun c i j c1 c2 c3 c4 => by rw [gU_ne (by omega), gU_ne (by omega)]⟩
      · rw [gU_c _ (by decide), gU_c _ (by decide)]
        unfold zPut
        split
        · exact h3 i i1 (by omega)
        · rw [if_pos (by omega)]; exact hv
      · rw [gU_c _ (show (17 : Nat) ≠ 18 by decide), gU_c _ (show (17 : Nat) ≠ 3 by decide)]
        refine ⟨k1, by rw [gU_c _ (by decide), gU_c _ (by decide)]; exact k2, ?_, fun i i1 i2 => ?_⟩
        · rw [gU_c _ (by decide), gU_c _ (by decide)]; omega
        · rw [gU_c _ (by decide)]
          unfold zPut
          by_cases z : i = n
          · rw [z, gU_eq, if_neg (by omega), if_pos rfl]
          · rw [gU_j z, if_pos (by omega)]; exact k4 i i1 (by omega)
  · refine ⟨0, 0, 1, 40, by omega, by omega, GM.mono (c_AL_grow_a gr ht hz hn q ha) ?_⟩
    rintro d G5 ⟨⟨g1, g2⟩, g3, g4, g5, g6, g7, g8⟩
    have tv : G5 0 v 0 = tg := by rw [g8 _ _ _ (by decide) (by omega) (by omega)]; exact hv
    have ta : G5 0 a 0 = 1 := by rw [g8 _ _ _ (by decide) (by omega) (by omega)]; exact h1
    refine ⟨g4, h0, g5.1, by omega, gr _ _ tv, ?_⟩
    rintro _ rfl
    refine ⟨by omega, ta, ha, ?_⟩
    rintro _ rfl
    refine ⟨⟨by rw [gU_c _ (by decide), gU_c _ (by decide)]; exact ta, gU_eq, fun i i1 i2 => ?_, Or.inr ?_⟩, ?_, Or.inr ?_, fun c i j c1 c2 c3 c4 => ?_⟩
    · rw [gU_c _ (by decide), gU_c _ (by decide)]
      unfold zPut
      split
      · have := h3 i i1 (by omega)
        have := hT (f i) (by omega)
        rw [g8 _ _ _ (by decide) (by omega) (by omega)]
        exact h3 i i1 (by omega)
      · rw [if_pos (by omega)]; exact tv
    · rw [gU_c _ (show (17 : Nat) ≠ 18 by decide), gU_c _ (show (17 : Nat) ≠ 3 by decide), g3]
      refine ⟨g2, by rw [gU_c _ (by decide), gU_c _ (by decide)]; exact g4, ?_, fun i i1 i2 => ?_⟩
      · rw [gU_c _ (by decide), gU_c _ (by decide)]; omega
      · rw [gU_c _ (by decide)]
        unfold zPut
        by_cases z : i = n
        · rw [z, gU_eq, if_neg (by omega), if_pos rfl]
        · rw [gU_j z, if_pos (by omega)]; exact g6 i i1 (by omega)
    · rw [gU_c _ (by decide), gU_c _ (by decide)]; omega
    · rw [gU_c _ (by decide), gU_c _ (by decide)]; omega
    · rw [gU_ne (by omega), gU_ne (by omega), g8 c i j c1 (by omega) (by omega)]
theorem zAL_mod {e : gE} {b : Nat} {m : Int} {G : gH} {a tg n x : Int} {f : Int → Int} (ht : tg ≠ 0) (h : zAL e b m G a tg n f) : zAL e b m (gU G 16 a 0 x) a tg n f := zAL_fr ht h (fun i j _ => gU_c _ (by decide)) (gU_c _ (by decide)) (gU_c _ (by decide)) (fun _ j => gU_c _ (by decide))
theorem zAF_mod {a x : Int} {G : gH} : zAF a G (gU G 16 a 0 x) := ⟨Int.le_of_eq (gU_c _ (by decide)).symm, Or.inl (gU_c _ (by decide)), fun c i j c1 c2 c3 c4 => gU_ne (by omega)⟩
theorem c_AL_add_b {e : gE} {b : Nat} {m : Int} {G : gH} {a tg n v : Int} {f : Int → Int} (gr : ∀ (G : gH) (v : Int), G 0 v 0 = tg → gRv (gX e b m) G "java/lang/Object" v) (ht : tg ≠ 0) (h : zAL e b m G a tg n f) (hn : n ≤ 20) (hv : G 0 v 0 = tg) (ha : (b : Int) < a) : GX e b m m_AL_add_b [(2, a), (2, v)] G 1 40 (fun _ G1 => zAL e b m G1 a tg (n + 1) (zPut f n v) ∧ zAF a G G1) := by
  refine GM.ofJ (by decide +kernel) (Nat.le_of_ble_eq_true rfl) (sg_AL_add_b_0 h.1 ⟨ha, ?_⟩)
  rintro _ rfl
  have w := c_AL_add_c gr ht (zAL_mod (x := w32 (G 16 a 0 + 1)) ht h) hn (v := v) (by rw [gU_c _ (by decide)]; exact hv) ha
  rw [gU_c _ (by decide)] at w
  rw [h.2.1]
  exact ⟨0, 0, 1, 40, by omega, by omega, GM.mono w (fun v1 G1 q => ⟨q.1, zAF_t zAF_mod q.2⟩)⟩
/-- what a copy of a part does to the array itself -/
theorem z_cp {G : gH} {d k n v : Int} (hk : 0 ≤ k) (i : Int) : gU (gCp G 3 d k d (k + 1) (n - k)) 3 d k v 3 d i = if i < k then G 3 d i else if i = k then v else if i ≤ n then G 3 d (i - 1) else G 3 d i := by
  by_cases q : i = k
  · rw [q, gU_eq, if_neg (by omega), if_pos rfl]
  · rw [gU_j q]
    unfold gCp
    by_cases q2 : i < k
    · rw [if_neg (by omega), if_pos q2]
    · rw [if_neg q2, if_neg q]
      by_cases q3 : i ≤ n
      · rw [if_pos ⟨rfl, rfl, by omega, by omega⟩, if_pos q3, show k + (i - (k + 1)) = i - 1 from by omega]
      · rw [if_neg (by omega), if_neg q3]
theorem z_cp_o {G : gH} {d k n v : Int} {c : Nat} {i j : Int} (h : ¬ (c = 3 ∧ i = d)) : gU (gCp G 3 d k d (k + 1) (n - k)) 3 d k v c i j = G c i j := by
  rw [gU_ne (by omega)]
  unfold gCp
  rw [if_neg (by omega)]
theorem c_AL_add_a {e : gE} {b : Nat} {m : Int} {G : gH} {a tg n k v : Int} {f : Int → Int} (gr : ∀ (G : gH) (v : Int), G 0 v 0 = tg → gRv (gX e b m) G "java/lang/Object" v) (ht : tg ≠ 0) (h : zAL e b m G a tg n f) (hn : n ≤ 20) (hk : 0 ≤ k ∧ k ≤ n) (hv : G 0 v 0 = tg) (ha : (b : Int) < a) : GX e b m m_AL_add_a [(2, a), (0, k), (2, v)] G 1 40 (fun _ G1 => zAL e b m G1 a tg (n + 1) (zPut f k v) ∧ zAF a G G1) := by
  refine GM.tg fun hT => GM.inv fun hF => ?_
  have hz := h
  obtain ⟨h1, h2, h3, h4⟩ := h
  have hpa := hT a (by rw [h1]; decide)
  have hpv := hT v (by rw [hv]; exact ht)
  have hlo := fx_lo hF
  refine GM.ofJ (by decide +kernel) (Nat.le_of_ble_eq_true rfl) (sg_AL_add_a_0 h1 ?_)
  rw [h2]
  refine ⟨h1, hk, ha, ?_⟩
  rintro _ rfl
  refine ⟨by rcases h4 with w | w <;> omega, fun q => ?_, fun q => ?_⟩
  · rcases h4 with ⟨k1, k2, k3, k4⟩ | ⟨k1, k2, k3, k4⟩
    · omega
    · have hd := hT (G 17 a 0) (by rw [k2]; decide)
      refine ⟨by omega, by omega, k2, by omega, by omega, fun j j1 j2 => ?_, ?_⟩
      · rw [gU_c _ (by decide)]
        refine gr _ _ ?_
        rw [gU_c _ (by decide), k4 (k + j) (by omega) (by omega)]
        exact h3 _ (by omega) (by omega)
      · rintro _ rfl
        refine ⟨by omega, by omega, gr _ _ ?_, ?_⟩
        · unfold gCp
          rw [if_neg (by omega), gU_c _ (by decide)]
          exact hv
        · rintro _ rfl
          refine ⟨by omega, ?_⟩
          rintro _ rfl
          have o : ∀ (c : Nat) (i j : Int), ¬ (c = 3 ∧ i = G 17 a 0) → ¬ (c = 18 ∧ i = a) → gU (gU (gCp (gU G 16 a 0 (w32 (G 16 a 0 + 1))) 3 (G 17 a 0) k (G 17 a 0) (k + 1) (n - k)) 3 (G 17 a 0) k v) 18 a 0 (n + 1) c i j = gU G 16 a 0 (w32 (G 16 a 0 + 1)) c i j := fun c i j c1 c2 => by rw [gU_ne (by omega), z_cp_o c1]
          have o0 : ∀ i j, gU (gU (gCp (gU G 16 a 0 (w32 (G 16 a 0 + 1))) 3 (G 17 a 0) k (G 17 a 0) (k + 1) (n - k)) 3 (G 17 a 0) k v) 18 a 0 (n + 1) 0 i j = G 0 i j := fun i j => by rw [o 0 i j (by omega) (by omega), gU_c _ (by decide)]
          have o17 : gU (gU (gCp (gU G 16 a 0 (w32 (G 16 a 0 + 1))) 3 (G 17 a 0) k (G 17 a 0) (k + 1) (n - k)) 3 (G 17 a 0) k v) 18 a 0 (n + 1) 17 a 0 = G 17 a 0 := by rw [o _ a 0 (by omega) (by omega), gU_c _ (by decide)]
          refine ⟨⟨by rw [o0]; exact h1, gU_eq, fun i i1 i2 => ?_, Or.inr ?_⟩, Int.le_of_eq ?_, Or.inl o17, fun c i j c1 c2 c3 c4 => ?_⟩
          · rw [o0]
            unfold zPut
            split
            · exact h3 i i1 (by omega)
            · split
              · exact hv
              · exact h3 _ (by omega) (by omega)
          · rw [o17, o0, o0]
            refine ⟨k1, k2, by omega, fun i i1 i2 => ?_⟩
            rw [gU_c _ (by decide), z_cp hk.1]
            unfold zPut
            split
            · rw [gU_c _ (by decide)]; exact k4 i i1 (by omega)
            · split
              · rfl
              · rw [if_pos (by omega), gU_c _ (by decide)]; exact k4 _ (by omega) (by omega)
          · rw [o 9 0 0 (by omega) (by omega), gU_c _ (by decide)]
          · rw [o c i j c4 (by omega), gU_ne (by omega)]
  · have w := c_AL_grow_a gr ht (zAL_mod (x := w32 (G 16 a 0 + 1)) ht hz) hn (by rw [gU_c _ (by decide), gU_c _ (by decide)]; exact q) ha
    refine ⟨0, 0, 1, 40, by omega, by omega, GM.mono w ?_⟩
    rintro d G5 ⟨⟨g1, g2⟩, g3, g4, g5, g6, g7, g8⟩
    rw [gU_c _ (by decide)] at g1
    have tv : G5 0 v 0 = tg := by rw [g8 _ _ _ (by decide) (by omega) (by omega), gU_c _ (by decide)]; exact hv
    have ta : G5 0 a 0 = 1 := by rw [g8 _ _ _ (by decide) (by omega) (by omega), gU_c _ (by decide)]; exact h1
    have tf : ∀ i, 0 ≤ i → i < n → G5 0 (f i) 0 = tg := fun i i1 i2 => by
      have := h3 i i1 i2
      have := hT (f i) (by omega)
      rw [g8 _ _ _ (by decide) (by omega) (by omega), gU_c _ (by decide)]
      exact h3 i i1 i2
    refine ⟨by omega, by omega, g4, by omega, by omega, fun j j1 j2 => ?_, ?_⟩
    · refine gr _ _ ?_
      rw [g6 (k + j) (by omega) (by omega)]
      exact tf _ (by omega) (by omega)
    · rintro _ rfl
      refine ⟨by omega, by omega, gr _ _ ?_, ?_⟩
      · unfold gCp
        rw [if_neg (by omega)]
        exact tv
      · rintro _ rfl
        refine ⟨by omega, ta, ?_⟩
        rintro _ rfl
        have o : ∀ (c : Nat) (i j : Int), ¬ (c = 3 ∧ i = d) → ¬ (c = 18 ∧ i = a) → gU (gU (gCp G5 3 d k d (k + 1) (n - k)) 3 d k v) 18 a 0 (n + 1) c i j = G5 c i j := fun c i j c1 c2 => by rw [gU_ne (by omega), z_cp_o c1]
        have o0 : ∀ i j, gU (gU (gCp G5 3 d k d (k + 1) (n - k)) 3 d k v) 18 a 0 (n + 1) 0 i j = G5 0 i j := fun i j => o 0 i j (by omega) (by omega)
        have o17 : gU (gU (gCp G5 3 d k d (k + 1) (n - k)) 3 d k v) 18 a 0 (n + 1) 17 a 0 = d := by rw [o _ a 0 (by omega) (by omega)]; exact g3
        refine ⟨⟨by rw [o0]; exact ta, gU_eq, fun i i1 i2 => ?_, Or.inr ?_⟩, ?_, Or.inr ?_, fun c i j c1 c2 c3 c4 => ?_⟩
        · rw [o0]
          unfold zPut
          split
          · exact tf i i1 (by omega)
          · split
            · exact tv
            · exact tf _ (by omega) (by omega)
        · rw [o17, o0, o0]
          refine ⟨g2, g4, by omega, fun i i1 i2 => ?_⟩
          rw [gU_c _ (by decide), z_cp hk.1]
          unfold zPut
          split
          · exact g6 i i1 (by omega)
          · split
            · rfl
            · rw [if_pos (by omega)]; exact g6 _ (by omega) (by omega)
        · rw [o 9 0 0 (by omega) (by omega)]; omega
        · rw [o17]; omega
        · rw [o c i j (by omega) (by omega), g8 c i j c1 (by omega) (by omega), gU_ne (by omega)]
theorem zRv_0 {B : gB} {G : gH} {E : String} : gRv B G E 0 := Or.inl rfl
theorem c_AL_clear {e : gE} {b : Nat} {m : Int} {G : gH} {a tg n : Int} {f : Int → Int} (ht : tg ≠ 0) (h : zAL e b m G a tg n f) (ha : (b : Int) < a) (g : Int → Int) : GX e b m m_AL_clear [(2, a)] G 0 0 (fun _ G1 => zAL e b m G1 a tg 0 g ∧ zAF a G G1) := by
  refine GM.tg fun hT => GM.inv fun hF => ?_
  obtain ⟨h1, h2, h3, h4⟩ := h
  have hpa := hT a (by rw [h1]; decide)
  have hlo := fx_lo hF
  have h0 : 0 ≤ n := by rcases h4 with w | w <;> omega
  refine GM.ofJ (by decide +kernel) (Nat.le_of_ble_eq_true rfl) (sg_AL_clear_0 h1 ⟨ha, ?_⟩)
  rintro _ rfl _ rfl
  rw [h2]
  refine zloop (P := fun i => ∀ G1, (∀ (c : Nat) (x j : Int), ¬ (c = 3 ∧ x = G 17 a 0) → G1 c x j = gU (gU G 16 a 0 (w32 (G 16 a 0 + 1))) 18 a 0 0 c x j) → EX e b m m_AL_clear _ 0 0 27 [(9, 0), (2, (G 17 a 0)), (0, n), (0, i)] [] G1) (i := 0) n h0 ?_ ?_ _ (fun _ _ _ _ => rfl)
  · intro G1 k
    refine sg_AL_clear_27 ⟨fun _ => ?_, fun q => absurd q (by omega)⟩
    have o0 : ∀ i j, G1 0 i j = G 0 i j := fun i j => by rw [k 0 i j (by omega), gU_c _ (by decide), gU_c _ (by decide)]
    have o17 : G1 17 a 0 = G 17 a 0 := by rw [k _ a 0 (by omega), gU_c _ (by decide), gU_c _ (by decide)]
    refine ⟨⟨by rw [o0]; exact h1, by rw [k _ a 0 (by omega), gU_eq], fun i i1 i2 => by omega, ?_⟩, Int.le_of_eq ?_, Or.inl o17, fun c i j c1 c2 c3 c4 => ?_⟩
    · rw [o17, o0, o0]
      rcases h4 with ⟨k1, k2, k3, k4⟩ | ⟨k1, k2, k3, k4⟩
      · exact Or.inl ⟨rfl, k2, k3, k4⟩
      · exact Or.inr ⟨k1, k2, by omega, fun i i1 i2 => by omega⟩
    · rw [k 9 0 0 (by omega), gU_c _ (by decide), gU_c _ (by decide)]
    · rw [k c i j c4, gU_ne (by omega), gU_ne (by omega)]
  · intro j j1 j2 st G1 k
    have o0 : ∀ i j, G1 0 i j = G 0 i j := fun i j => by rw [k 0 i j (by omega), gU_c _ (by decide), gU_c _ (by decide)]
    refine sg_AL_clear_27 ⟨fun q => absurd q (by omega), fun _ => ?_⟩
    rw [o0, o0]
    rcases h4 with ⟨k1, k2, k3, k4⟩ | ⟨k1, k2, k3, k4⟩
    · omega
    · refine ⟨k2, j1, by omega, by omega, zRv_0, ?_⟩
      rintro _ rfl
      exact ⟨by omega, st _ (fun c x i c1 => by rw [gU_ne (by omega)]; exact k c x i c1)⟩
theorem c_Arrays_fill_a {e : gE} {b : Nat} {m : Int} {G : gH} {p v : Int} (h : G 0 p 0 = 100) (hn : 0 ≤ G 0 p 1 ∧ G 0 p 1 ≤ 1000) (hb : (b : Int) < p) : GX e b m m_Arrays_fill_a [(2, p), (0, v)] G 0 0 (fun _ G1 => zO p G G1 ∧ ∀ i, 0 ≤ i → i < G 0 p 1 → G1 1 p i = v) := by
  refine GM.ofJ (by decide +kernel) (Nat.le_of_ble_eq_true rfl) (sg_Arrays_fill_a_0 ⟨by omega, ?_⟩)
  refine zloop (P := fun i => ∀ G1, zO p G G1 → (∀ j, 0 ≤ j → j < i → G1 1 p j = v) → EX e b m m_Arrays_fill_a _ 0 0 5 [(2, p), (0, v), (0, i), (0, (G 0 p 1))] [] G1) (i := 0) (G 0 p 1) hn.1 ?_ ?_ G zO_r (fun j q1 q2 => by omega)
  · intro G1 k1 k2
    exact sg_Arrays_fill_a_5 ⟨fun _ => ⟨k1, k2⟩, fun q => absurd q (by omega)⟩
  · intro j j1 j2 st G1 k1 k2
    refine sg_Arrays_fill_a_5 ⟨fun q => absurd q (by omega), fun _ => ?_⟩
    rw [k1 0 p 0 (fun z => absurd z (by decide)), k1 0 p 1 (fun z => absurd z (by decide))]
    refine ⟨h, j1, j2, hb, ?_⟩
    rintro _ rfl
    refine ⟨by omega, st _ (zO_u k1) (fun i i1 i2 => ?_)⟩
    by_cases z : i = j
    · rw [z, gU_eq]
    · rw [gU_j z]; exact k2 i i1 (by omega)
/-- nothing but one array of long numbers -/
def zO2 (a : Int) (G G1 : gH) : Prop := ∀ (c : Nat) (i j : Int), (c = 2 → i ≠ a) → G1 c i j = G c i j
theorem zO2_r {a : Int} {G : gH} : zO2 a G G := fun _ _ _ _ => rfl
theorem zO2_t {a : Int} {G G1 G2 : gH} (h : zO2 a G G1) (h2 : zO2 a G1 G2) : zO2 a G G2 := fun c i j q => (h2 c i j q).trans (h c i j q)
theorem zO2_u {a : Int} {G G1 : gH} {j v : Int} (h : zO2 a G G1) : zO2 a G (gU G1 2 a j v) := fun c' i j q => (gU_ne (fun z => q z.1 z.2.1)).trans (h c' i j q)
theorem c_Arrays_fill_b {e : gE} {b : Nat} {m : Int} {G : gH} {p v : Int} (h : G 0 p 0 = 101) (hn : 0 ≤ G 0 p 1 ∧ G 0 p 1 ≤ 1000) (hb : (b : Int) < p) : GX e b m m_Arrays_fill_b [(2, p), (1, v)] G 0 0 (fun _ G1 => zO2 p G G1 ∧ ∀ i, 0 ≤ i → i < G 0 p 1 → G1 2 p i = v) := by
  refine GM.ofJ (by decide +kernel) (Nat.le_of_ble_eq_true rfl) (sg_Arrays_fill_b_0 ⟨by omega, ?_⟩)
  refine zloop (P := fun i => ∀ G1, zO2 p G G1 → (∀ j, 0 ≤ j → j < i → G1 2 p j = v) → EX e b m m_Arrays_fill_b _ 0 0 6 [(2, p), (1, v), (9, 0), (0, i), (0, (G 0 p 1))] [] G1) (i := 0) (G 0 p 1) hn.1 ?_ ?_ G zO2_r (fun j q1 q2 => by omega)
  · intro G1 k1 k2
    exact sg_Arrays_fill_b_6 ⟨fun _ => ⟨k1, k2⟩, fun q => absurd q (by omega)⟩
  · intro j j1 j2 st G1 k1 k2
    refine sg_Arrays_fill_b_6 ⟨fun q => absurd q (by omega), fun _ => ?_⟩
    rw [k1 0 p 0 (fun z => absurd z (by decide)), k1 0 p 1 (fun z => absurd z (by decide))]
    refine ⟨h, j1, j2, hb, ?_⟩
    rintro _ rfl
    refine ⟨by omega, st _ (zO2_u k1) (fun i i1 i2 => ?_)⟩
    by_cases z : i = j
    · rw [z, gU_eq]
    · rw [gU_j z]; exact k2 i i1 (by omega)
theorem c_Arrays_copyOf_a {e : gE} {b : Nat} {m : Int} {G : gH} {p0 p1 : Int} (h : G 0 p0 0 = 100) (hn : 0 ≤ G 0 p0 1 ∧ G 0 p0 1 < p1 ∧ p1 ≤ 100000) : GX e b m m_Arrays_copyOf_a [(2, p0), (0, p1)] G 1 p1.toNat (fun v G1 => v = G 9 0 0 ∧ G1 = gCp (gN G 100 p1) 1 p0 0 (G 9 0 0) 0 (G 0 p0 1)) := by
  refine GM.tg fun hT => GM.inv fun hF => ?_
  have hp := hT p0 (by rw [h]; decide)
  have hlo := fx_lo hF
  refine GM.ofJ (by decide +kernel) (Nat.le_of_ble_eq_true rfl) (sg_Arrays_copyOf_a_0 ⟨by omega, fun _ => ⟨0, 0, by omega, by omega, by omega, ?_⟩, fun q => absurd q (by omega)⟩)
  rintro _ rfl _ rfl
  have e1 : gN G 100 p1 0 p0 0 = 100 := by rw [gN_old (by omega) (by decide), h]
  have e2 : gN G 100 p1 0 p0 1 = G 0 p0 1 := gN_old (by omega) (by decide)
  rw [e1, e2, gN_tag, gN_len]
  refine ⟨by decide, rfl, rfl, by omega, ?_, ?_⟩
  · split <;> omega
  · rintro _ rfl
    rw [if_neg (by omega)]
    exact ⟨rfl, rfl⟩
