/-! THE CLASS, 14: quarrels, what rows say, status -/
set_option maxRecDepth 20000 in
set_option maxHeartbeats 4000000 in
theorem sg_C_quarrel_0 {e : gE} {b : Nat} {m : Int} {Z : Int → gH → Prop} {kc ks : Nat} {G : gH} {p1 p2 p3 : Int} (h : ((zWhy b G p1 p2 p3) = 0 → EX e b m m_C_quarrel Z kc ks 48 [(2, ((b : Int) + 1)), (9, 0), (9, 0), (9, 0), (9, 0), (2, (if zHr b G p1 then G 3 ((b : Int) + 33) p1 else 0)), (2, (if zHr b G p2 then G 3 ((b : Int) + 33) p2 else 0)), (2, (if zHr b G p3 then G 3 ((b : Int) + 33) p3 else 0)), (0, 0), (0, 0)] [] G) ∧ ((zWhy b G p1 p2 p3) ≠ 0 → GX e b m m_C_refuse [(2, ((b : Int) + 1)), (0, (zWhy b G p1 p2 p3))] G 0 0 (fun v8 G9 => Z v8 G9))) : EX e b m m_C_quarrel Z kc ks 0 [(2, ((b : Int) + 1)), (0, p1), (0, p2), (0, p3), (9, 0), (9, 0), (9, 0), (9, 0), (9, 0), (9, 0)] [] G := by
  refine e_aload_n d_C_quarrel_0 rfl ?_
  refine e_iload_n d_C_quarrel_1 rfl ?_
  refine e_iload_n d_C_quarrel_2 rfl ?_
  refine e_iload_n d_C_quarrel_3 rfl ?_
  refine EV.inv fun hFf1 => ?_
  have f1 := (fx_ct 0 rfl hFf1).1
  refine e_callV m_C_whyNoRows 11 lw_good d_C_quarrel_4 (k_C_whyNoRows _) ⟨Nat.le_of_ble_eq_true rfl, Nat.le_of_ble_eq_true rfl⟩ w_493 w_495 w_s9 (q_C _) rfl f1 (args := [(0, p1), (0, p2), (0, p3)]) rfl rfl (Nat.le_of_ble_eq_true rfl) (kc' := kc) (ks' := ks) (mc := 0) (ms := 0) rfl rfl (c_C_whyNoRows) (pureK ?_)
  refine e_istore (ls' := [(2, ((b : Int) + 1)), (0, p1), (0, p2), (0, p3), (0, (zWhy b G p1 p2 p3)), (9, 0), (9, 0), (9, 0), (9, 0), (9, 0)]) d_C_quarrel_7 (by decide) rfl ?_
  refine e_iload d_C_quarrel_9 rfl ?_
  refine e_if_eq (tgt := 21) d_C_quarrel_11 (by decide) (fun q2 => ?_) (fun q3 => ?_)
  · have h := h.1 q2
    refine e_aload_n d_C_quarrel_21 rfl ?_
    refine e_iload_n d_C_quarrel_22 rfl ?_
    refine EV.inv fun hFf4 => ?_
    have f4 := (fx_ct 0 rfl hFf4).1
    refine e_callV m_C_rowIn 11 lw_good d_C_quarrel_23 (k_C_rowIn _) ⟨Nat.le_of_ble_eq_true rfl, Nat.le_of_ble_eq_true rfl⟩ w_482 w_484 w_s7 (q_C _) rfl f4 (args := [(0, p1)]) rfl rfl (Nat.le_of_ble_eq_true rfl) (kc' := kc) (ks' := ks) (mc := 0) (ms := 0) rfl rfl (c_C_rowIn) (pureK ?_)
    refine e_astore (ls' := [(2, ((b : Int) + 1)), (0, p1), (0, p2), (0, p3), (0, (zWhy b G p1 p2 p3)), (2, (if zHr b G p1 then G 3 ((b : Int) + 33) p1 else 0)), (9, 0), (9, 0), (9, 0), (9, 0)]) d_C_quarrel_26 (by decide) rfl ?_
    refine e_aload_n d_C_quarrel_28 rfl ?_
    refine e_iload_n d_C_quarrel_29 rfl ?_
    refine EV.inv fun hFf5 => ?_
    have f5 := (fx_ct 0 rfl hFf5).1
    refine e_callV m_C_rowIn 11 lw_good d_C_quarrel_30 (k_C_rowIn _) ⟨Nat.le_of_ble_eq_true rfl, Nat.le_of_ble_eq_true rfl⟩ w_482 w_484 w_s7 (q_C _) rfl f5 (args := [(0, p2)]) rfl rfl (Nat.le_of_ble_eq_true rfl) (kc' := kc) (ks' := ks) (mc := 0) (ms := 0) rfl rfl (c_C_rowIn) (pureK ?_)
    refine e_astore (ls' := [(2, ((b : Int) + 1)), (0, p1), (0, p2), (0, p3), (0, (zWhy b G p1 p2 p3)), (2, (if zHr b G p1 then G 3 ((b : Int) + 33) p1 else 0)), (2, (if zHr b G p2 then G 3 ((b : Int) + 33) p2 else 0)), (9, 0), (9, 0), (9, 0)]) d_C_quarrel_33 (by decide) rfl ?_
    refine e_aload_n d_C_quarrel_35 rfl ?_
    refine e_iload_n d_C_quarrel_36 rfl ?_
    refine EV.inv fun hFf6 => ?_
    have f6 := (fx_ct 0 rfl hFf6).1
    refine e_callV m_C_rowIn 11 lw_good d_C_quarrel_37 (k_C_rowIn _) ⟨Nat.le_of_ble_eq_true rfl, Nat.le_of_ble_eq_true rfl⟩ w_482 w_484 w_s7 (q_C _) rfl f6 (args := [(0, p3)]) rfl rfl (Nat.le_of_ble_eq_true rfl) (kc' := kc) (ks' := ks) (mc := 0) (ms := 0) rfl rfl (c_C_rowIn) (pureK ?_)
    refine e_astore (ls' := [(2, ((b : Int) + 1)), (0, p1), (0, p2), (0, p3), (0, (zWhy b G p1 p2 p3)), (2, (if zHr b G p1 then G 3 ((b : Int) + 33) p1 else 0)), (2, (if zHr b G p2 then G 3 ((b : Int) + 33) p2 else 0)), (2, (if zHr b G p3 then G 3 ((b : Int) + 33) p3 else 0)), (9, 0), (9, 0)]) d_C_quarrel_40 (by decide) rfl ?_
    refine e_iconst d_C_quarrel_42 (by decide) ?_
    refine e_istore (ls' := [(2, ((b : Int) + 1)), (0, p1), (0, p2), (0, p3), (0, (zWhy b G p1 p2 p3)), (2, (if zHr b G p1 then G 3 ((b : Int) + 33) p1 else 0)), (2, (if zHr b G p2 then G 3 ((b : Int) + 33) p2 else 0)), (2, (if zHr b G p3 then G 3 ((b : Int) + 33) p3 else 0)), (0, 0), (9, 0)]) d_C_quarrel_43 (by decide) rfl ?_
    refine e_iconst d_C_quarrel_45 (by decide) ?_
    refine e_istore (ls' := [(2, ((b : Int) + 1)), (0, p1), (0, p2), (0, p3), (0, (zWhy b G p1 p2 p3)), (2, (if zHr b G p1 then G 3 ((b : Int) + 33) p1 else 0)), (2, (if zHr b G p2 then G 3 ((b : Int) + 33) p2 else 0)), (2, (if zHr b G p3 then G 3 ((b : Int) + 33) p3 else 0)), (0, 0), (0, 0)]) d_C_quarrel_46 (by decide) rfl ?_
    exact e_forget (ls' := [(2, ((b : Int) + 1)), (9, 0), (9, 0), (9, 0), (9, 0), (2, (if zHr b G p1 then G 3 ((b : Int) + 33) p1 else 0)), (2, (if zHr b G p2 then G 3 ((b : Int) + 33) p2 else 0)), (2, (if zHr b G p3 then G 3 ((b : Int) + 33) p3 else 0)), (0, 0), (0, 0)]) ⟨Or.inr rfl, Or.inl rfl, Or.inl rfl, Or.inl rfl, Or.inl rfl, Or.inr rfl, Or.inr rfl, Or.inr rfl, Or.inr rfl, Or.inr rfl, trivial⟩ h
  · have h := h.2 q3
    refine e_aload_n d_C_quarrel_14 rfl ?_
    refine e_iload d_C_quarrel_15 rfl ?_
    refine EV.inv fun hFf7 => ?_
    have f7 := (fx_ct 0 rfl hFf7).1
    refine e_callV m_C_refuse 11 lw_good d_C_quarrel_17 (k_C_refuse _) ⟨Nat.le_of_ble_eq_true rfl, Nat.le_of_ble_eq_true rfl⟩ w_297 w_299 w_s0 (q_C _) rfl f7 (args := [(0, (zWhy b G p1 p2 p3))]) rfl rfl (Nat.le_of_ble_eq_true rfl) (kc' := kc) (ks' := ks) (mc := 0) (ms := 0) rfl rfl h ?_
    intro v8 G9 h
    exact e_iret d_C_quarrel_20 rfl h
set_option maxRecDepth 20000 in
set_option maxHeartbeats 4000000 in
theorem sg_C_quarrel_48 {e : gE} {b : Nat} {m : Int} {Z : Int → gH → Prop} {kc ks : Nat} {G : gH} {x5 x6 x7 x8 x9 : Int} (h : (G 0 ((b : Int) + 2) 0 = 1) ∧ (((G 18 ((b : Int) + 2) 0) ≤ x9 → Z x8 G) ∧ (x9 < (G 18 ((b : Int) + 2) 0) → ((G 0 x5 0 = 7 ∧ G 0 x6 0 = 7 ∧ G 0 x7 0 = 7) ∧ zEl G x5 ∧ zEl G x6 ∧ zEl G x7) ∧ (x5 ≠ 0 ∧ x6 ≠ 0 ∧ x7 ≠ 0) ∧ (inI (3 - (zMx (zAl G x5 x5 x6 x7 x9) (zAl G x6 x5 x6 x7 x9) (zAl G x7 x5 x6 x7 x9)))) ∧ (inI (x8 + (3 - (zMx (zAl G x5 x5 x6 x7 x9) (zAl G x6 x5 x6 x7 x9) (zAl G x7 x5 x6 x7 x9))))) ∧ (inI (x9 + 1)) ∧ EX e b m m_C_quarrel Z kc ks 48 [(2, ((b : Int) + 1)), (9, 0), (9, 0), (9, 0), (9, 0), (2, x5), (2, x6), (2, x7), (0, (x8 + (3 - (zMx (zAl G x5 x5 x6 x7 x9) (zAl G x6 x5 x6 x7 x9) (zAl G x7 x5 x6 x7 x9))))), (0, (x9 + 1))] [] G))) : EX e b m m_C_quarrel Z kc ks 48 [(2, ((b : Int) + 1)), (9, 0), (9, 0), (9, 0), (9, 0), (2, x5), (2, x6), (2, x7), (0, x8), (0, x9)] [] G := by
  refine e_iload d_C_quarrel_48 rfl ?_
  refine e_aload_n d_C_quarrel_50 rfl ?_
  refine gx_C_12 d_C_quarrel_51 rfl ?_
  refine EV.inv fun hFf1 => ?_
  have f1 := (fx_ct 1 rfl hFf1).1
  obtain ⟨o2, h⟩ := h
  refine e_callV m_AL_size 0 lw_good d_C_quarrel_54 (k_AL_size _) ⟨Nat.le_of_ble_eq_true rfl, Nat.le_of_ble_eq_true rfl⟩ w_421 w_330 w_331 (q_AL _) rfl f1 (args := []) rfl rfl (Nat.le_of_ble_eq_true rfl) (kc' := kc) (ks' := ks) (mc := 0) (ms := 0) rfl rfl (c_AL_size o2) (pureK ?_)
  refine e_icmp_ge (tgt := 84) d_C_quarrel_57 (by decide) (fun q3 => ?_) (fun q4 => ?_)
  · have h := h.1 q3
    refine e_iload d_C_quarrel_84 rfl ?_
    exact e_iret d_C_quarrel_86 rfl h
  · have h := h.2 q4
    refine e_iload d_C_quarrel_60 rfl ?_
    refine e_iconst d_C_quarrel_62 (by decide) ?_
    refine e_aload d_C_quarrel_63 rfl ?_
    refine e_aload d_C_quarrel_65 rfl ?_
    refine e_aload d_C_quarrel_67 rfl ?_
    refine e_iload d_C_quarrel_69 rfl ?_
    obtain ⟨o5, o6, h⟩ := h
    refine e_callS m_Row_mostAlike lw_good d_C_quarrel_71 (k_Row_mostAlike _) ⟨Nat.le_of_ble_eq_true rfl, Nat.le_of_ble_eq_true rfl⟩ w_1356 w_1357 (args := [(2, x5), (2, x6), (2, x7), (0, x9)]) rfl rfl (Nat.le_of_ble_eq_true rfl) (kc' := kc) (ks' := ks) (mc := 0) (ms := 0) rfl rfl (c_Row_mostAlike o5 o6) (pureK ?_)
    obtain ⟨o7, h⟩ := h
    refine e_isub d_C_quarrel_74 o7 ?_
    obtain ⟨o8, h⟩ := h
    refine e_iadd d_C_quarrel_75 o8 ?_
    refine e_istore (ls' := [(2, ((b : Int) + 1)), (9, 0), (9, 0), (9, 0), (9, 0), (2, x5), (2, x6), (2, x7), (0, (x8 + (3 - (zMx (zAl G x5 x5 x6 x7 x9) (zAl G x6 x5 x6 x7 x9) (zAl G x7 x5 x6 x7 x9))))), (0, x9)]) d_C_quarrel_76 (by decide) rfl ?_
    obtain ⟨o9, h⟩ := h
    refine e_iinc (ls' := [(2, ((b : Int) + 1)), (9, 0), (9, 0), (9, 0), (9, 0), (2, x5), (2, x6), (2, x7), (0, (x8 + (3 - (zMx (zAl G x5 x5 x6 x7 x9) (zAl G x6 x5 x6 x7 x9) (zAl G x7 x5 x6 x7 x9))))), (0, (x9 + 1))]) d_C_quarrel_78 rfl (by decide) o9 rfl ?_
    refine e_goto (tgt := 48) d_C_quarrel_81 (by decide) ?_
    exact e_forget (ls' := [(2, ((b : Int) + 1)), (9, 0), (9, 0), (9, 0), (9, 0), (2, x5), (2, x6), (2, x7), (0, (x8 + (3 - (zMx (zAl G x5 x5 x6 x7 x9) (zAl G x6 x5 x6 x7 x9) (zAl G x7 x5 x6 x7 x9))))), (0, (x9 + 1))]) ⟨Or.inr rfl, Or.inl rfl, Or.inl rfl, Or.inl rfl, Or.inl rfl, Or.inr rfl, Or.inr rfl, Or.inr rfl, Or.inr rfl, Or.inr rfl, trivial⟩ h
set_option maxRecDepth 20000 in
set_option maxHeartbeats 4000000 in
theorem sg_C_said_0 {e : gE} {b : Nat} {m : Int} {Z : Int → gH → Prop} {kc ks : Nat} {G : gH} {p1 p2 p3 p4 : Int} (h : ((if zHr b G p1 then G 3 ((b : Int) + 33) p1 else 0) ≠ 0 → ((if zHr b G p2 then G 3 ((b : Int) + 33) p2 else 0) ≠ 0 → ((if zHr b G p3 then G 3 ((b : Int) + 33) p3 else 0) ≠ 0 → (0 ≤ G 18 ((b : Int) + 2) 0 ∧ G 18 ((b : Int) + 2) 0 ≤ 16) ∧ ((G 0 ((b : Int) + 2) 0 = 1) ∧ ((0 ≤ p4 ∧ p4 < G 18 ((b : Int) + 2) 0 → G 0 (G 17 ((b : Int) + 2) 0) 0 = 103 ∧ G 18 ((b : Int) + 2) 0 ≤ G 0 (G 17 ((b : Int) + 2) 0) 1 ∧ G 0 (G 3 (G 17 ((b : Int) + 2) 0) p4) 0 = 10) ∧ (((if 0 ≤ p4 ∧ p4 < G 18 ((b : Int) + 2) 0 then G 3 (G 17 ((b : Int) + 2) 0) p4 else 0) ≠ 0) → (G 0 (if zHr b G p1 then G 3 ((b : Int) + 33) p1 else 0) 0 = 7) ∧ ((G 0 (if zHr b G p1 then G 3 ((b : Int) + 33) p1 else 0) 0 = 7) ∧ ((G 0 (if zHr b G p2 then G 3 ((b : Int) + 33) p2 else 0) 0 = 7) ∧ ((zEl G (if zHr b G p1 then G 3 ((b : Int) + 33) p1 else 0)) ∧ ((zEl G (if zHr b G p2 then G 3 ((b : Int) + 33) p2 else 0)) ∧ ((¬ (zAg G (if zHr b G p1 then G 3 ((b : Int) + 33) p1 else 0) (if zHr b G p2 then G 3 ((b : Int) + 33) p2 else 0) p4)) → (G 0 (if zHr b G p3 then G 3 ((b : Int) + 33) p3 else 0) 0 = 7) ∧ ((zEl G (if zHr b G p3 then G 3 ((b : Int) + 33) p3 else 0)) ∧ ((¬ (zAg G (if zHr b G p1 then G 3 ((b : Int) + 33) p1 else 0) (if zHr b G p3 then G 3 ((b : Int) + 33) p3 else 0) p4)) → (G 0 (if zHr b G p2 then G 3 ((b : Int) + 33) p2 else 0) 0 = 7) ∧ (((¬ (zAg G (if zHr b G p2 then G 3 ((b : Int) + 33) p2 else 0) (if zHr b G p3 then G 3 ((b : Int) + 33) p3 else 0) p4)) → Z (-1) G) ∧ (zAg G (if zHr b G p2 then G 3 ((b : Int) + 33) p2 else 0) (if zHr b G p3 then G 3 ((b : Int) + 33) p3 else 0) p4 → Z (if zHs G (if zHr b G p2 then G 3 ((b : Int) + 33) p2 else 0) p4 then G 2 (G 400 (if zHr b G p2 then G 3 ((b : Int) + 33) p2 else 0) 0) p4 else 0) G))))))))))))))) ∧ (((if zHr b G p1 then G 3 ((b : Int) + 33) p1 else 0) = 0 ∨ ((if zHr b G p1 then G 3 ((b : Int) + 33) p1 else 0) ≠ 0 ∧ (if zHr b G p2 then G 3 ((b : Int) + 33) p2 else 0) = 0) ∨ ((if zHr b G p1 then G 3 ((b : Int) + 33) p1 else 0) ≠ 0 ∧ (if zHr b G p2 then G 3 ((b : Int) + 33) p2 else 0) ≠ 0 ∧ (if zHr b G p3 then G 3 ((b : Int) + 33) p3 else 0) = 0) ∨ ((if zHr b G p1 then G 3 ((b : Int) + 33) p1 else 0) ≠ 0 ∧ (if zHr b G p2 then G 3 ((b : Int) + 33) p2 else 0) ≠ 0 ∧ (if zHr b G p3 then G 3 ((b : Int) + 33) p3 else 0) ≠ 0 ∧ ((if 0 ≤ p4 ∧ p4 < G 18 ((b : Int) + 2) 0 then G 3 (G 17 ((b : Int) + 2) 0) p4 else 0) = 0))) → Z (-1) G) ∧ ((((if zHr b G p1 then G 3 ((b : Int) + 33) p1 else 0) ≠ 0 ∧ (if zHr b G p2 then G 3 ((b : Int) + 33) p2 else 0) ≠ 0 ∧ (if zHr b G p3 then G 3 ((b : Int) + 33) p3 else 0) ≠ 0 ∧ ((if 0 ≤ p4 ∧ p4 < G 18 ((b : Int) + 2) 0 then G 3 (G 17 ((b : Int) + 2) 0) p4 else 0) ≠ 0) ∧ zAg G (if zHr b G p1 then G 3 ((b : Int) + 33) p1 else 0) (if zHr b G p2 then G 3 ((b : Int) + 33) p2 else 0) p4) ∨ ((if zHr b G p1 then G 3 ((b : Int) + 33) p1 else 0) ≠ 0 ∧ (if zHr b G p2 then G 3 ((b : Int) + 33) p2 else 0) ≠ 0 ∧ (if zHr b G p3 then G 3 ((b : Int) + 33) p3 else 0) ≠ 0 ∧ ((if 0 ≤ p4 ∧ p4 < G 18 ((b : Int) + 2) 0 then G 3 (G 17 ((b : Int) + 2) 0) p4 else 0) ≠ 0) ∧ (¬ (zAg G (if zHr b G p1 then G 3 ((b : Int) + 33) p1 else 0) (if zHr b G p2 then G 3 ((b : Int) + 33) p2 else 0) p4)) ∧ zAg G (if zHr b G p1 then G 3 ((b : Int) + 33) p1 else 0) (if zHr b G p3 then G 3 ((b : Int) + 33) p3 else 0) p4)) → (G 0 (if zHr b G p1 then G 3 ((b : Int) + 33) p1 else 0) 0 = 7) ∧ (G 0 (if zHr b G p1 then G 3 ((b : Int) + 33) p1 else 0) 0 = 7) ∧ (zEl G (if zHr b G p1 then G 3 ((b : Int) + 33) p1 else 0)) ∧ Z (if zHs G (if zHr b G p1 then G 3 ((b : Int) + 33) p1 else 0) p4 then G 2 (G 400 (if zHr b G p1 then G 3 ((b : Int) + 33) p1 else 0) 0) p4 else 0) G)) : EX e b m m_C_said Z kc ks 0 [(2, ((b : Int) + 1)), (0, p1), (0, p2), (0, p3), (0, p4), (9, 0), (9, 0), (9, 0)] [] G := by
  obtain ⟨h, hJ30, hJ31⟩ := h
  have kJ31 : (((if zHr b G p1 then G 3 ((b : Int) + 33) p1 else 0) ≠ 0 ∧ (if zHr b G p2 then G 3 ((b : Int) + 33) p2 else 0) ≠ 0 ∧ (if zHr b G p3 then G 3 ((b : Int) + 33) p3 else 0) ≠ 0 ∧ ((if 0 ≤ p4 ∧ p4 < G 18 ((b : Int) + 2) 0 then G 3 (G 17 ((b : Int) + 2) 0) p4 else 0) ≠ 0) ∧ zAg G (if zHr b G p1 then G 3 ((b : Int) + 33) p1 else 0) (if zHr b G p2 then G 3 ((b : Int) + 33) p2 else 0) p4) ∨ ((if zHr b G p1 then G 3 ((b : Int) + 33) p1 else 0) ≠ 0 ∧ (if zHr b G p2 then G 3 ((b : Int) + 33) p2 else 0) ≠ 0 ∧ (if zHr b G p3 then G 3 ((b : Int) + 33) p3 else 0) ≠ 0 ∧ ((if 0 ≤ p4 ∧ p4 < G 18 ((b : Int) + 2) 0 then G 3 (G 17 ((b : Int) + 2) 0) p4 else 0) ≠ 0) ∧ (¬ (zAg G (if zHr b G p1 then G 3 ((b : Int) + 33) p1 else 0) (if zHr b G p2 then G 3 ((b : Int) + 33) p2 else 0) p4)) ∧ zAg G (if zHr b G p1 then G 3 ((b : Int) + 33) p1 else 0) (if zHr b G p3 then G 3 ((b : Int) + 33) p3 else 0) p4)) → EX e b m m_C_said Z kc ks 73 [(2, ((b : Int) + 1)), (0, p1), (0, p2), (0, p3), (0, p4), (2, (if zHr b G p1 then G 3 ((b : Int) + 33) p1 else 0)), (2, (if zHr b G p2 then G 3 ((b : Int) + 33) p2 else 0)), (2, (if zHr b G p3 then G 3 ((b : Int) + 33) p3 else 0))] [] G := by
    intro rJ31
    have h := hJ31 rJ31
    refine e_aload d_C_said_73 rfl ?_
    refine e_iload d_C_said_75 rfl ?_
    obtain ⟨o32, o33, o34, h⟩ := h
    refine e_callV m_Row_at 6 lw_good d_C_said_77 (k_Row_at _) ⟨Nat.le_of_ble_eq_true rfl, Nat.le_of_ble_eq_true rfl⟩ w_841 w_520 w_521 (q_Row _) rfl o32 (args := [(0, p4)]) rfl rfl (Nat.le_of_ble_eq_true rfl) (kc' := kc) (ks' := ks) (mc := 0) (ms := 0) rfl rfl (c_Row_at o33 o34) (pureK ?_)
    exact e_lret d_C_said_80 rfl h
  have kJ30 : ((if zHr b G p1 then G 3 ((b : Int) + 33) p1 else 0) = 0 ∨ ((if zHr b G p1 then G 3 ((b : Int) + 33) p1 else 0) ≠ 0 ∧ (if zHr b G p2 then G 3 ((b : Int) + 33) p2 else 0) = 0) ∨ ((if zHr b G p1 then G 3 ((b : Int) + 33) p1 else 0) ≠ 0 ∧ (if zHr b G p2 then G 3 ((b : Int) + 33) p2 else 0) ≠ 0 ∧ (if zHr b G p3 then G 3 ((b : Int) + 33) p3 else 0) = 0) ∨ ((if zHr b G p1 then G 3 ((b : Int) + 33) p1 else 0) ≠ 0 ∧ (if zHr b G p2 then G 3 ((b : Int) + 33) p2 else 0) ≠ 0 ∧ (if zHr b G p3 then G 3 ((b : Int) + 33) p3 else 0) ≠ 0 ∧ ((if 0 ≤ p4 ∧ p4 < G 18 ((b : Int) + 2) 0 then G 3 (G 17 ((b : Int) + 2) 0) p4 else 0) = 0))) → EX e b m m_C_said Z kc ks 45 [(2, ((b : Int) + 1)), (0, p1), (0, p2), (0, p3), (0, p4), (2, (if zHr b G p1 then G 3 ((b : Int) + 33) p1 else 0)), (2, (if zHr b G p2 then G 3 ((b : Int) + 33) p2 else 0)), (2, (if zHr b G p3 then G 3 ((b : Int) + 33) p3 else 0))] [] G := by
    intro rJ30
    have h := hJ30 rJ30
    refine e_ldc2 (-1) d_C_said_45 (by decide) (by have h9 := w_1371; rw [show (-1 : Int64) = Int64.ofInt (-1) from by decide] at h9; exact h9) ?_
    exact e_lret d_C_said_48 rfl h
  refine e_aload_n d_C_said_0 rfl ?_
  refine e_iload_n d_C_said_1 rfl ?_
  refine EV.inv fun hFf1 => ?_
  have f1 := (fx_ct 0 rfl hFf1).1
  refine e_callV m_C_rowIn 11 lw_good d_C_said_2 (k_C_rowIn _) ⟨Nat.le_of_ble_eq_true rfl, Nat.le_of_ble_eq_true rfl⟩ w_482 w_484 w_s7 (q_C _) rfl f1 (args := [(0, p1)]) rfl rfl (Nat.le_of_ble_eq_true rfl) (kc' := kc) (ks' := ks) (mc := 0) (ms := 0) rfl rfl (c_C_rowIn) (pureK ?_)
  refine e_astore (ls' := [(2, ((b : Int) + 1)), (0, p1), (0, p2), (0, p3), (0, p4), (2, (if zHr b G p1 then G 3 ((b : Int) + 33) p1 else 0)), (9, 0), (9, 0)]) d_C_said_5 (by decide) rfl ?_
  refine e_aload_n d_C_said_7 rfl ?_
  refine e_iload_n d_C_said_8 rfl ?_
  refine EV.inv fun hFf2 => ?_
  have f2 := (fx_ct 0 rfl hFf2).1
  refine e_callV m_C_rowIn 11 lw_good d_C_said_9 (k_C_rowIn _) ⟨Nat.le_of_ble_eq_true rfl, Nat.le_of_ble_eq_true rfl⟩ w_482 w_484 w_s7 (q_C _) rfl f2 (args := [(0, p2)]) rfl rfl (Nat.le_of_ble_eq_true rfl) (kc' := kc) (ks' := ks) (mc := 0) (ms := 0) rfl rfl (c_C_rowIn) (pureK ?_)
  refine e_astore (ls' := [(2, ((b : Int) + 1)), (0, p1), (0, p2), (0, p3), (0, p4), (2, (if zHr b G p1 then G 3 ((b : Int) + 33) p1 else 0)), (2, (if zHr b G p2 then G 3 ((b : Int) + 33) p2 else 0)), (9, 0)]) d_C_said_12 (by decide) rfl ?_
  refine e_aload_n d_C_said_14 rfl ?_
  refine e_iload_n d_C_said_15 rfl ?_
  refine EV.inv fun hFf3 => ?_
  have f3 := (fx_ct 0 rfl hFf3).1
  refine e_callV m_C_rowIn 11 lw_good d_C_said_16 (k_C_rowIn _) ⟨Nat.le_of_ble_eq_true rfl, Nat.le_of_ble_eq_true rfl⟩ w_482 w_484 w_s7 (q_C _) rfl f3 (args := [(0, p3)]) rfl rfl (Nat.le_of_ble_eq_true rfl) (kc' := kc) (ks' := ks) (mc := 0) (ms := 0) rfl rfl (c_C_rowIn) (pureK ?_)
  refine e_astore (ls' := [(2, ((b : Int) + 1)), (0, p1), (0, p2), (0, p3), (0, p4), (2, (if zHr b G p1 then G 3 ((b : Int) + 33) p1 else 0)), (2, (if zHr b G p2 then G 3 ((b : Int) + 33) p2 else 0)), (2, (if zHr b G p3 then G 3 ((b : Int) + 33) p3 else 0))]) d_C_said_19 (by decide) rfl ?_
  refine e_aload d_C_said_21 rfl ?_
  refine e_ifnull (tgt := 45) d_C_said_23 (by decide) (fun q4 => ?_) (fun q5 => ?_)
  · exact kJ30 (Or.inl q4)
  · have h := h q5
    refine e_aload d_C_said_26 rfl ?_
    refine e_ifnull (tgt := 45) d_C_said_28 (by decide) (fun q6 => ?_) (fun q7 => ?_)
    · exact kJ30 (Or.inr (Or.inl ⟨q5, q6⟩))
    · have h := h q7
      refine e_aload d_C_said_31 rfl ?_
      refine e_ifnull (tgt := 45) d_C_said_33 (by decide) (fun q8 => ?_) (fun q9 => ?_)
      · exact kJ30 (Or.inr (Or.inr (Or.inl ⟨q5, q7, q8⟩)))
      · have h := h q9
        refine e_aload_n d_C_said_36 rfl ?_
        refine e_iload d_C_said_37 rfl ?_
        refine EV.inv fun hFf10 => ?_
        have f10 := (fx_ct 0 rfl hFf10).1
        obtain ⟨o11, o12, o13, h⟩ := h
        refine e_callV m_C_thingAt 11 lw_good d_C_said_39 (k_C_thingAt _) ⟨Nat.le_of_ble_eq_true rfl, Nat.le_of_ble_eq_true rfl⟩ w_846 w_848 w_s24 (q_C _) rfl f10 (args := [(0, p4)]) rfl rfl (Nat.le_of_ble_eq_true rfl) (kc' := kc) (ks' := ks) (mc := 0) (ms := 0) rfl rfl (c_C_thingAt o11 o12 o13) (pureK ?_)
        refine e_ifnonnull (tgt := 49) d_C_said_42 (by decide) (fun q14 => ?_) (fun q15 => ?_)
        · have h := h q14
          refine e_aload d_C_said_49 rfl ?_
          refine e_aload d_C_said_51 rfl ?_
          refine e_iload d_C_said_53 rfl ?_
          obtain ⟨o16, o17, o18, o19, o20, h⟩ := h
          refine e_callV m_Row_agrees 6 lw_good d_C_said_55 (k_Row_agrees _) ⟨Nat.le_of_ble_eq_true rfl, Nat.le_of_ble_eq_true rfl⟩ w_1372 w_1363 w_1364 (q_Row _) rfl o16 (args := [(2, (if zHr b G p2 then G 3 ((b : Int) + 33) p2 else 0)), (0, p4)]) rfl rfl (Nat.le_of_ble_eq_true rfl) (kc' := kc) (ks' := ks) (mc := 0) (ms := 0) rfl rfl (c_Row_agrees o17 o18 o19 o20) (pureK ?_)
          refine e_if_ne (tgt := 73) d_C_said_58 (by decide) (fun q21 => ?_) (fun q22 => ?_)
          · replace q21 := gb1.mp q21
            exact kJ31 (Or.inl ⟨q5, q7, q9, q14, q21⟩)
          · replace q22 := gb0.mp q22
            have h := h q22
            refine e_aload d_C_said_61 rfl ?_
            refine e_aload d_C_said_63 rfl ?_
            refine e_iload d_C_said_65 rfl ?_
            obtain ⟨o23, o24, h⟩ := h
            refine e_callV m_Row_agrees 6 lw_good d_C_said_67 (k_Row_agrees _) ⟨Nat.le_of_ble_eq_true rfl, Nat.le_of_ble_eq_true rfl⟩ w_1372 w_1363 w_1364 (q_Row _) rfl o16 (args := [(2, (if zHr b G p3 then G 3 ((b : Int) + 33) p3 else 0)), (0, p4)]) rfl rfl (Nat.le_of_ble_eq_true rfl) (kc' := kc) (ks' := ks) (mc := 0) (ms := 0) rfl rfl (c_Row_agrees o17 o23 o19 o24) (pureK ?_)
            refine e_if_eq (tgt := 81) d_C_said_70 (by decide) (fun q25 => ?_) (fun q26 => ?_)
            · replace q25 := gb0.mp q25
              have h := h q25
              refine e_aload d_C_said_81 rfl ?_
              refine e_aload d_C_said_83 rfl ?_
              refine e_iload d_C_said_85 rfl ?_
              obtain ⟨o27, h⟩ := h
              refine e_callV m_Row_agrees 6 lw_good d_C_said_87 (k_Row_agrees _) ⟨Nat.le_of_ble_eq_true rfl, Nat.le_of_ble_eq_true rfl⟩ w_1372 w_1363 w_1364 (q_Row _) rfl o27 (args := [(2, (if zHr b G p3 then G 3 ((b : Int) + 33) p3 else 0)), (0, p4)]) rfl rfl (Nat.le_of_ble_eq_true rfl) (kc' := kc) (ks' := ks) (mc := 0) (ms := 0) rfl rfl (c_Row_agrees o18 o23 o20 o24) (pureK ?_)
              refine e_if_eq (tgt := 103) d_C_said_90 (by decide) (fun q28 => ?_) (fun q29 => ?_)
              · replace q28 := gb0.mp q28
                have h := h.1 q28
                refine e_ldc2 (-1) d_C_said_103 (by decide) (by have h9 := w_1371; rw [show (-1 : Int64) = Int64.ofInt (-1) from by decide] at h9; exact h9) ?_
                exact e_lret d_C_said_106 rfl h
              · replace q29 := gb1.mp q29
                have h := h.2 q29
                refine e_aload d_C_said_93 rfl ?_
                refine e_iload d_C_said_95 rfl ?_
                refine e_callV m_Row_at 6 lw_good d_C_said_97 (k_Row_at _) ⟨Nat.le_of_ble_eq_true rfl, Nat.le_of_ble_eq_true rfl⟩ w_841 w_520 w_521 (q_Row _) rfl o27 (args := [(0, p4)]) rfl rfl (Nat.le_of_ble_eq_true rfl) (kc' := kc) (ks' := ks) (mc := 0) (ms := 0) rfl rfl (c_Row_at o18 o20) (pureK ?_)
                refine e_goto (tgt := 106) d_C_said_100 (by decide) ?_
                exact e_lret d_C_said_106 rfl h
            · replace q26 := gb1.mp q26
              exact kJ31 (Or.inr ⟨q5, q7, q9, q14, q22, q26⟩)
        · exact kJ30 (Or.inr (Or.inr (Or.inr ⟨q5, q7, q9, q15⟩)))
theorem zQk {Ha Hb Hc : Prop} [Decidable Ha] [Decidable Hb] [Decidable Hc] {u v w : Int} : 3 - zMx ((if (Ha ∧ Ha) ∧ True then 1 else 0) + (if (Ha ∧ Hb) ∧ u = v then 1 else 0) + (if (Ha ∧ Hc) ∧ u = w then 1 else 0)) ((if (Hb ∧ Ha) ∧ v = u then 1 else 0) + (if (Hb ∧ Hb) ∧ True then 1 else 0) + (if (Hb ∧ Hc) ∧ v = w then 1 else 0)) ((if (Hc ∧ Ha) ∧ w = u then 1 else 0) + (if (Hc ∧ Hb) ∧ w = v then 1 else 0) + (if (Hc ∧ Hc) ∧ True then 1 else 0)) = if ((Ha ∧ Hb) ∧ u = v) ∧ ((Ha ∧ Hc) ∧ u = w) then 0 else if ((Ha ∧ Hb) ∧ u = v) ∨ ((Ha ∧ Hc) ∧ u = w) ∨ ((Hb ∧ Hc) ∧ v = w) then 1 else if Ha ∨ Hb ∨ Hc then 2 else 3 := by
  unfold zMx
  by_cases ha : Ha <;> by_cases hb : Hb <;> by_cases hc : Hc <;> by_cases e1 : u = v <;> by_cases e2 : u = w <;> by_cases e3 : v = w <;> simp [ha, hb, hc, e1, e2, e3] <;> (first | omega | simp_all)
theorem zAg_r {b : Nat} {m : Int} {G : gH} {A : zA} {s t i : Int} (hF : gFix b m G) (r3 : zR3 b G A) (hB : zB 512 A) (hs : zSh s) (ht : zSh t) (hi : 0 ≤ i) : zAg G ((b : Int) + (34 + 2 * s)) ((b : Int) + (34 + 2 * t)) i ↔ ((i < A 20 s ∧ i < A 20 t) ∧ A 22 (60 * s + i) = A 22 (60 * t + i)) := by
  obtain ⟨-, -, x3, -, -⟩ := fx_row hF hs
  obtain ⟨-, -, y3, -, -⟩ := fx_row hF ht
  have w1 := r3.1 s hs
  have w2 := r3.1 t ht
  have b1 : 0 ≤ A 20 s ∧ A 20 s ≤ 60 := hB 20 s
  have b2 : 0 ≤ A 20 t ∧ A 20 t ≤ 60 := hB 20 t
  unfold zAg zHs
  rw [w1.2.1, w2.2.1, x3, y3]
  constructor
  · rintro ⟨⟨h1, h2⟩, h3⟩
    rw [w1.2.2.2 i hi (by omega), w2.2.2.2 i hi (by omega)] at h3
    exact ⟨⟨h1.2, h2.2⟩, h3⟩
  · rintro ⟨⟨h1, h2⟩, h3⟩
    refine ⟨⟨⟨hi, h1⟩, hi, h2⟩, ?_⟩
    rw [w1.2.2.2 i hi (by omega), w2.2.2.2 i hi (by omega)]
    exact h3
theorem zEl_r {b : Nat} {m : Int} {G : gH} {A : zA} {s : Int} (hF : gFix b m G) (r3 : zR3 b G A) (hB : zB 512 A) (hs : zSh s) : zEl G ((b : Int) + (34 + 2 * s)) := by
  obtain ⟨-, -, x3, x4, x5⟩ := fx_row hF hs
  have w1 := r3.1 s hs
  have b1 : 0 ≤ A 20 s ∧ A 20 s ≤ 60 := hB 20 s
  exact ⟨by rw [x3]; exact x4, by rw [x3, x5, w1.2.1]; exact b1.2⟩
theorem c_C_quarrel {e : gE} {b : Nat} {m : Int} {G : gH} {A : zA} {p1 p2 p3 : Int} (hR : zRel e b m G A) (hB : zB 512 A) (hS : zShw A) : GX e b m m_C_quarrel [(2, ((b : Int) + 1)), (0, p1), (0, p2), (0, p3)] G 0 0 (zCQ e b m G (zfQuarrel A p1 p2 p3)) := by
  refine GM.inv fun hF => ?_
  have hlo := fx_lo hF
  have b0 : 0 ≤ A 785 0 ∧ A 785 0 ≤ 16 := hB 785 0
  have hr := hR
  obtain ⟨T, Q, P, ⟨-, -, r3, -⟩, hT, -⟩ := hr
  have ew := zWhy_3 (s := p1) (t := p2) (u := p3) r3 hB hS
  refine GM.ofEV (by decide) (Nat.le_of_ble_eq_true rfl) (sg_C_quarrel_0 ?_)
  by_cases hs : zSh p1 ∧ zSh p2 ∧ zSh p3
  · rw [if_neg (fun z : ¬ (zSh p1 ∧ zSh p2 ∧ zSh p3) => z hs)] at ew
    by_cases h2 : A 18 p1 = 2 ∨ A 18 p2 = 2 ∨ A 18 p3 = 2
    · rw [if_pos h2] at ew
      rw [ew, show zfQuarrel A p1 p2 p3 = zNo A (-2) from by unfold zfQuarrel; rw [if_pos hs, if_pos h2]]
      exact ⟨fun z => absurd z (by decide), fun _ => c_C_refuse hR hB (by decide)⟩
    · rw [if_neg h2] at ew
      by_cases h0 : A 18 p1 = 0 ∨ A 18 p2 = 0 ∨ A 18 p3 = 0
      · rw [if_pos h0] at ew
        rw [ew, show zfQuarrel A p1 p2 p3 = zNo A (-3) from by unfold zfQuarrel; rw [if_pos hs, if_neg h2, if_pos h0]]
        exact ⟨fun z => absurd z (by decide), fun _ => c_C_refuse hR hB (by decide)⟩
      · rw [if_neg h0] at ew
        rw [ew, show zfQuarrel A p1 p2 p3 = (zS (zQr A p1 p2 p3) (A 785 0), A) from by unfold zfQuarrel; rw [if_pos hs, if_neg h2, if_neg h0]]
        have b1 : 0 ≤ A 18 p1 ∧ A 18 p1 ≤ 2 := hB 18 p1
        have b2 : 0 ≤ A 18 p2 ∧ A 18 p2 ≤ 2 := hB 18 p2
        have b3 : 0 ≤ A 18 p3 ∧ A 18 p3 ≤ 2 := hB 18 p3
        have g1 := (zHk r3 hB hS hs.1).1.mpr (by omega)
        have g2 := (zHk r3 hB hS hs.2.1).1.mpr (by omega)
        have g3 := (zHk r3 hB hS hs.2.2).1.mpr (by omega)
        have x := fx_row hF hs.1
        have y := fx_row hF hs.2.1
        have z := fx_row hF hs.2.2
        rw [if_pos g1, if_pos g2, if_pos g3, x.1, y.1, z.1]
        refine ⟨fun _ => ?_, fun w => absurd rfl w⟩
        refine zloop (P := fun i => EX e b m m_C_quarrel (zCQ e b m G (zS (zQr A p1 p2 p3) (A 785 0), A)) 0 0 48 [(2, ((b : Int) + 1)), (9, 0), (9, 0), (9, 0), (9, 0), (2, ((b : Int) + (34 + 2 * p1))), (2, ((b : Int) + (34 + 2 * p2))), (2, ((b : Int) + (34 + 2 * p3))), (0, zS (zQr A p1 p2 p3) i), (0, i)] [] G) (i := 0) (A 785 0) b0.1 ?_ ?_
        · refine sg_C_quarrel_48 ?_
          rw [hT.1.2.1]
          exact ⟨hT.1.1, fun _ => ⟨rfl, hR, zRf_r⟩, fun w => absurd w (by omega)⟩
        · intro j j1 j2 st
          have bq := zS_b (f := zQr A p1 p2 p3) (c := 3) j (fun i _ _ => zQr_b) j1 (by decide)
          have bq1 := zQr_b (A := A) (a := p1) (b := p2) (c := p3) (t := j)
          have el1 := zEl_r hF r3 hB hs.1
          have el2 := zEl_r hF r3 hB hs.2.1
          have el3 := zEl_r hF r3 hB hs.2.2
          have key : 3 - zMx (zAl G ((b : Int) + (34 + 2 * p1)) ((b : Int) + (34 + 2 * p1)) ((b : Int) + (34 + 2 * p2)) ((b : Int) + (34 + 2 * p3)) j) (zAl G ((b : Int) + (34 + 2 * p2)) ((b : Int) + (34 + 2 * p1)) ((b : Int) + (34 + 2 * p2)) ((b : Int) + (34 + 2 * p3)) j) (zAl G ((b : Int) + (34 + 2 * p3)) ((b : Int) + (34 + 2 * p1)) ((b : Int) + (34 + 2 * p2)) ((b : Int) + (34 + 2 * p3)) j) = zQr A p1 p2 p3 j := by
            unfold zAl
            simp only [zAg_r hF r3 hB hs.1 hs.1 j1, zAg_r hF r3 hB hs.1 hs.2.1 j1, zAg_r hF r3 hB hs.1 hs.2.2 j1, zAg_r hF r3 hB hs.2.1 hs.1 j1, zAg_r hF r3 hB hs.2.1 hs.2.1 j1, zAg_r hF r3 hB hs.2.1 hs.2.2 j1, zAg_r hF r3 hB hs.2.2 hs.1 j1, zAg_r hF r3 hB hs.2.2 hs.2.1 j1, zAg_r hF r3 hB hs.2.2 hs.2.2 j1]
            rw [zQk]
            unfold zQr zAlike
            simp only [and_assoc]
          refine sg_C_quarrel_48 ?_
          rw [hT.1.2.1, key]
          rw [zS_s j1] at st
          exact ⟨hT.1.1, fun w => absurd w (by omega), fun _ => ⟨⟨⟨x.2.1, y.2.1, z.2.1⟩, el1, el2, el3⟩, by omega, by omega, by omega, by omega, st⟩⟩
  · rw [if_pos hs] at ew
    rw [ew, show zfQuarrel A p1 p2 p3 = zNo A (-1) from by unfold zfQuarrel; rw [if_neg hs]]
    exact ⟨fun z => absurd z (by decide), fun _ => c_C_refuse hR hB (by decide)⟩
theorem c_C_said {e : gE} {b : Nat} {m : Int} {G : gH} {A : zA} {p1 p2 p3 p4 : Int} (hR : zRel e b m G A) (hB : zB 512 A) (hS : zShw A) : GX e b m m_C_said [(2, ((b : Int) + 1)), (0, p1), (0, p2), (0, p3), (0, p4)] G 0 0 (zCQ e b m G (zfSaid A p1 p2 p3 p4, A)) := by
  refine GM.inv fun hF => ?_
  have hlo := fx_lo hF
  have hr := hR
  obtain ⟨T, Q, P, ⟨-, -, r3, -⟩, hT, -⟩ := hr
  obtain ⟨y1, y2, y3⟩ := zTa_p hT hB
  refine GM.ofEV (by decide) (Nat.le_of_ble_eq_true rfl) (sg_C_said_0 ?_)
  rw [zTa_e hT]
  have out : ¬ ((zSh p1 ∧ A 18 p1 = 1) ∧ (zSh p2 ∧ A 18 p2 = 1) ∧ (zSh p3 ∧ A 18 p3 = 1) ∧ zTh A p4) → zCQ e b m G (zfSaid A p1 p2 p3 p4, A) (-1) G := fun q => by
    refine zCQ_mk ?_ hR zRf_r
    unfold zfSaid
    rw [if_neg (fun z => q ⟨⟨z.1.1, z.2.1⟩, ⟨z.1.2.1, z.2.2.1⟩, ⟨z.1.2.2.1, z.2.2.2⟩, z.1.2.2.2⟩)]
  have t0 : ∀ s, zHr b G s → G 3 ((b : Int) + 33) s ≠ 0 := fun s q => by have := (fx_row hF q.1).1; unfold zHr zSh at q; omega
  have g : ∀ s, (zSh s ∧ A 18 s = 1) ↔ zHr b G s := fun s => ⟨fun z => (zHk r3 hB hS z.1).1.mpr z.2, fun z => ⟨z.1, (zHk r3 hB hS z.1).1.mp z⟩⟩
  rw [g, g, g] at out
  by_cases h1 : zHr b G p1
  · by_cases h2 : zHr b G p2
    · by_cases h3 : zHr b G p3
      · have x := fx_row hF h1.1
        have y := fx_row hF h2.1
        have z := fx_row hF h3.1
        have s1 := h1.1
        have s2 := h2.1
        have s3 := h3.1
        rw [if_pos h1, if_pos h2, if_pos h3, x.1, y.1, z.1]
        have el1 := zEl_r hF r3 hB s1
        have el2 := zEl_r hF r3 hB s2
        have el3 := zEl_r hF r3 hB s3
        by_cases ht : zTh A p4
        · have tt : T p4 ≠ 0 := by have := (hT.2.1 p4 ht.1 ht.2).1.1.2; omega
          have hyp : (zSh p1 ∧ zSh p2 ∧ zSh p3 ∧ zTh A p4) ∧ zRow3 A p1 p2 p3 := ⟨⟨s1, s2, s3, ht⟩, ((g p1).mpr h1).2, ((g p2).mpr h2).2, ((g p3).mpr h3).2⟩
          have a12 := zAg_r hF r3 hB s1 s2 ht.1
          have a13 := zAg_r hF r3 hB s1 s3 ht.1
          have a23 := zAg_r hF r3 hB s2 s3 ht.1
          have val : ∀ s, zSh s → p4 < A 20 s → (if zHs G ((b : Int) + (34 + 2 * s)) p4 then G 2 (G 400 ((b : Int) + (34 + 2 * s)) 0) p4 else 0) = A 22 (60 * s + p4) := fun s hs q => by
            have bs : 0 ≤ A 20 s ∧ A 20 s ≤ 60 := hB 20 s
            have w := r3.1 s hs
            rw [(fx_row hF hs).2.2.1, if_pos (by unfold zHs; rw [w.2.1]; exact ⟨ht.1, q⟩)]
            exact w.2.2.2 p4 ht.1 (by omega)
          rw [if_pos ht]
          unfold zfSaid
          rw [if_pos hyp]
          refine ⟨fun _ _ _ => ⟨y1, y2, y3 p4, fun _ => ⟨x.2.1, x.2.1, y.2.1, el1, el2, fun n12 => ⟨z.2.1, el3, fun n13 => ⟨y.2.1, fun n23 => zCQ_mk ?_ hR zRf_r, fun q23 => zCQ_mk ?_ hR zRf_r⟩⟩⟩⟩, fun w => absurd w (by omega), fun w => ⟨x.2.1, x.2.1, el1, zCQ_mk ?_ hR zRf_r⟩⟩
          · rw [a12] at n12
            rw [a13] at n13
            rw [a23] at n23
            rw [if_neg (fun w => w.elim (fun w => n12 ⟨⟨w.1, w.2.1⟩, w.2.2⟩) (fun w => n13 ⟨⟨w.1, w.2.1⟩, w.2.2⟩)), if_neg (fun w => n23 ⟨⟨w.1, w.2.1⟩, w.2.2⟩)]
          · rw [a12] at n12
            rw [a13] at n13
            rw [a23] at q23
            rw [val p2 s2 q23.1.1]
            rw [if_neg (fun w => w.elim (fun w => n12 ⟨⟨w.1, w.2.1⟩, w.2.2⟩) (fun w => n13 ⟨⟨w.1, w.2.1⟩, w.2.2⟩)), if_pos ⟨q23.1.1, q23.1.2, q23.2⟩]
          · have q : ((p4 < A 20 p1 ∧ p4 < A 20 p2) ∧ A 22 (60 * p1 + p4) = A 22 (60 * p2 + p4)) ∨ ((p4 < A 20 p1 ∧ p4 < A 20 p3) ∧ A 22 (60 * p1 + p4) = A 22 (60 * p3 + p4)) := by
              rcases w with w | w
              · exact Or.inl (a12.mp w.2.2.2.2)
              · exact Or.inr (a13.mp w.2.2.2.2.2)
            rw [val p1 s1 (by rcases q with q | q <;> exact q.1.1)]
            rw [if_pos (q.imp (fun q => ⟨q.1.1, q.1.2, q.2⟩) (fun q => ⟨q.1.1, q.1.2, q.2⟩))]
        · rw [if_neg ht]
          refine ⟨fun _ _ _ => ⟨y1, y2, y3 p4, fun w => absurd rfl w⟩, fun _ => out (fun w => ht w.2.2.2), fun w => ?_⟩
          rcases w with w | w
          · exact absurd rfl w.2.2.2.1
          · exact absurd rfl w.2.2.2.1
      · rw [if_neg h3]
        refine ⟨fun _ _ w => absurd rfl w, fun _ => out (fun w => h3 w.2.2.1), fun w => ?_⟩
        rcases w with w | w
        · exact absurd rfl w.2.2.1
        · exact absurd rfl w.2.2.1
    · rw [if_neg h2]
      refine ⟨fun _ w => absurd rfl w, fun _ => out (fun w => h2 w.2.1), fun w => ?_⟩
      rcases w with w | w
      · exact absurd rfl w.2.1
      · exact absurd rfl w.2.1
  · rw [if_neg h1]
    refine ⟨fun w => absurd rfl w, fun _ => out (fun w => h1 w.1), fun w => ?_⟩
    rcases w with w | w
    · exact absurd rfl w.1
    · exact absurd rfl w.1
set_option maxRecDepth 20000 in
set_option maxHeartbeats 4000000 in
theorem sg_House_doorCount_0 {e : gE} {b : Nat} {m : Int} {Z : Int → gH → Prop} {kc ks : Nat} {G : gH} (h : Z (G 150 ((b : Int) + 3) 0) G) : EX e b m m_House_doorCount Z kc ks 0 [(2, ((b : Int) + 3))] [] G := by
  refine e_aload_n d_House_doorCount_0 rfl ?_
  refine gx_House_37 d_House_doorCount_1 rfl ?_
  exact e_iret d_House_doorCount_4 rfl h
set_option maxRecDepth 20000 in
set_option maxHeartbeats 4000000 in
theorem sg_Hours_teamCount_0 {e : gE} {b : Nat} {m : Int} {Z : Int → gH → Prop} {kc ks : Nat} {G : gH} (h : (G 0 ((b : Int) + 11) 0 = 1) ∧ Z (G 18 ((b : Int) + 11) 0) G) : EX e b m m_Hours_teamCount Z kc ks 0 [(2, ((b : Int) + 10))] [] G := by
  refine e_aload_n d_Hours_teamCount_0 rfl ?_
  refine gx_Hours_18 d_Hours_teamCount_1 rfl ?_
  refine EV.inv fun hFf1 => ?_
  have f1 := (fx_ct 10 rfl hFf1).1
  obtain ⟨o2, h⟩ := h
  refine e_callV m_AL_size 0 lw_good d_Hours_teamCount_4 (k_AL_size _) ⟨Nat.le_of_ble_eq_true rfl, Nat.le_of_ble_eq_true rfl⟩ w_329 w_330 w_331 (q_AL _) rfl f1 (args := []) rfl rfl (Nat.le_of_ble_eq_true rfl) (kc' := kc) (ks' := ks) (mc := 0) (ms := 0) rfl rfl (c_AL_size o2) (pureK ?_)
  exact e_iret d_Hours_teamCount_7 rfl h
set_option maxRecDepth 20000 in
set_option maxHeartbeats 4000000 in
theorem sg_Years_placeCount_0 {e : gE} {b : Nat} {m : Int} {Z : Int → gH → Prop} {kc ks : Nat} {G : gH} (h : (G 0 ((b : Int) + 19) 0 = 1) ∧ Z (G 18 ((b : Int) + 19) 0) G) : EX e b m m_Years_placeCount Z kc ks 0 [(2, ((b : Int) + 18))] [] G := by
  refine e_aload_n d_Years_placeCount_0 rfl ?_
  refine gx_Years_18 d_Years_placeCount_1 rfl ?_
  refine EV.inv fun hFf1 => ?_
  have f1 := (fx_ct 18 rfl hFf1).1
  obtain ⟨o2, h⟩ := h
  refine e_callV m_AL_size 0 lw_good d_Years_placeCount_4 (k_AL_size _) ⟨Nat.le_of_ble_eq_true rfl, Nat.le_of_ble_eq_true rfl⟩ w_1017 w_330 w_331 (q_AL _) rfl f1 (args := []) rfl rfl (Nat.le_of_ble_eq_true rfl) (kc' := kc) (ks' := ks) (mc := 0) (ms := 0) rfl rfl (c_AL_size o2) (pureK ?_)
  exact e_iret d_Years_placeCount_7 rfl h
set_option maxRecDepth 20000 in
set_option maxHeartbeats 4000000 in
theorem sg_Hours_minuteNow_0 {e : gE} {b : Nat} {m : Int} {Z : Int → gH → Prop} {kc ks : Nat} {G : gH} (h : Z (G 83 ((b : Int) + 10) 0) G) : EX e b m m_Hours_minuteNow Z kc ks 0 [(2, ((b : Int) + 10))] [] G := by
  refine e_aload_n d_Hours_minuteNow_0 rfl ?_
  refine gx_Hours_43 d_Hours_minuteNow_1 rfl ?_
  exact e_iret d_Hours_minuteNow_4 rfl h
set_option maxRecDepth 20000 in
set_option maxHeartbeats 4000000 in
theorem sg_Years_weekNow_0 {e : gE} {b : Nat} {m : Int} {Z : Int → gH → Prop} {kc ks : Nat} {G : gH} (h : Z (G 661 ((b : Int) + 18) 0) G) : EX e b m m_Years_weekNow Z kc ks 0 [(2, ((b : Int) + 18))] [] G := by
  refine e_aload_n d_Years_weekNow_0 rfl ?_
  refine gx_Years_58 d_Years_weekNow_1 rfl ?_
  exact e_iret d_Years_weekNow_4 rfl h
set_option maxRecDepth 20000 in
set_option maxHeartbeats 4000000 in
theorem sg_Years_fuelLeft_0 {e : gE} {b : Nat} {m : Int} {Z : Int → gH → Prop} {kc ks : Nat} {G : gH} (h : Z (G 662 ((b : Int) + 18) 0) G) : EX e b m m_Years_fuelLeft Z kc ks 0 [(2, ((b : Int) + 18))] [] G := by
  refine e_aload_n d_Years_fuelLeft_0 rfl ?_
  refine gx_Years_70 d_Years_fuelLeft_1 rfl ?_
  exact e_iret d_Years_fuelLeft_4 rfl h
theorem c_House_doorCount {e : gE} {b : Nat} {m : Int} {G : gH} : GX e b m m_House_doorCount [(2, ((b : Int) + 3))] G 0 0 (fun v9 G9 => v9 = (G 150 ((b : Int) + 3) 0 : Int) ∧ G9 = G) := by
  refine GM.ofEV (by decide) (Nat.le_of_ble_eq_true rfl) (sg_House_doorCount_0 ?_)
  repeat' (first | apply And.intro | intro _)
  all_goals first | assumption | rfl | omega | (rw [if_pos (by omega)]) | (rw [if_neg (by omega)])
theorem c_Hours_teamCount {e : gE} {b : Nat} {m : Int} {G : gH} (h1 : G 0 ((b : Int) + 11) 0 = 1) : GX e b m m_Hours_teamCount [(2, ((b : Int) + 10))] G 0 0 (fun v9 G9 => v9 = (G 18 ((b : Int) + 11) 0 : Int) ∧ G9 = G) := by
  refine GM.ofEV (by decide) (Nat.le_of_ble_eq_true rfl) (sg_Hours_teamCount_0 ?_)
  repeat' (first | apply And.intro | intro _)
  all_goals first | assumption | rfl | omega | (rw [if_pos (by omega)]) | (rw [if_neg (by omega)])
theorem c_Years_placeCount {e : gE} {b : Nat} {m : Int} {G : gH} (h1 : G 0 ((b : Int) + 19) 0 = 1) : GX e b m m_Years_placeCount [(2, ((b : Int) + 18))] G 0 0 (fun v9 G9 => v9 = (G 18 ((b : Int) + 19) 0 : Int) ∧ G9 = G) := by
  refine GM.ofEV (by decide) (Nat.le_of_ble_eq_true rfl) (sg_Years_placeCount_0 ?_)
  repeat' (first | apply And.intro | intro _)
  all_goals first | assumption | rfl | omega | (rw [if_pos (by omega)]) | (rw [if_neg (by omega)])
theorem c_Hours_minuteNow {e : gE} {b : Nat} {m : Int} {G : gH} : GX e b m m_Hours_minuteNow [(2, ((b : Int) + 10))] G 0 0 (fun v9 G9 => v9 = (G 83 ((b : Int) + 10) 0 : Int) ∧ G9 = G) := by
  refine GM.ofEV (by decide) (Nat.le_of_ble_eq_true rfl) (sg_Hours_minuteNow_0 ?_)
  repeat' (first | apply And.intro | intro _)
  all_goals first | assumption | rfl | omega | (rw [if_pos (by omega)]) | (rw [if_neg (by omega)])
theorem c_Years_weekNow {e : gE} {b : Nat} {m : Int} {G : gH} : GX e b m m_Years_weekNow [(2, ((b : Int) + 18))] G 0 0 (fun v9 G9 => v9 = (G 661 ((b : Int) + 18) 0 : Int) ∧ G9 = G) := by
  refine GM.ofEV (by decide) (Nat.le_of_ble_eq_true rfl) (sg_Years_weekNow_0 ?_)
  repeat' (first | apply And.intro | intro _)
  all_goals first | assumption | rfl | omega | (rw [if_pos (by omega)]) | (rw [if_neg (by omega)])
theorem c_Years_fuelLeft {e : gE} {b : Nat} {m : Int} {G : gH} : GX e b m m_Years_fuelLeft [(2, ((b : Int) + 18))] G 0 0 (fun v9 G9 => v9 = (G 662 ((b : Int) + 18) 0 : Int) ∧ G9 = G) := by
  refine GM.ofEV (by decide) (Nat.le_of_ble_eq_true rfl) (sg_Years_fuelLeft_0 ?_)
  repeat' (first | apply And.intro | intro _)
  all_goals first | assumption | rfl | omega | (rw [if_pos (by omega)]) | (rw [if_neg (by omega)])
set_option maxRecDepth 20000 in
set_option maxHeartbeats 4000000 in
theorem sg_C_howManyAt_0 {e : gE} {b : Nat} {m : Int} {Z : Int → gH → Prop} {kc ks : Nat} {G : gH} {p1 : Int} (h : EX e b m m_C_howManyAt Z kc ks 4 [(2, ((b : Int) + 1)), (0, p1), (0, 0), (0, 0)] [] G) : EX e b m m_C_howManyAt Z kc ks 0 [(2, ((b : Int) + 1)), (0, p1), (9, 0), (9, 0)] [] G := by
  refine e_iconst d_C_howManyAt_0 (by decide) ?_
  refine e_istore_n (ls' := [(2, ((b : Int) + 1)), (0, p1), (0, 0), (9, 0)]) d_C_howManyAt_1 (by decide) rfl ?_
  refine e_iconst d_C_howManyAt_2 (by decide) ?_
  refine e_istore_n (ls' := [(2, ((b : Int) + 1)), (0, p1), (0, 0), (0, 0)]) d_C_howManyAt_3 (by decide) rfl ?_
  exact e_forget (ls' := [(2, ((b : Int) + 1)), (0, p1), (0, 0), (0, 0)]) ⟨Or.inr rfl, Or.inr rfl, Or.inr rfl, Or.inr rfl, trivial⟩ h
set_option maxRecDepth 20000 in
set_option maxHeartbeats 4000000 in
theorem sg_C_howManyAt_4 {e : gE} {b : Nat} {m : Int} {Z : Int → gH → Prop} {kc ks : Nat} {G : gH} {p1 x2 x3 : Int} (h : (G 0 ((b : Int) + 2) 0 = 1) ∧ (((G 18 ((b : Int) + 2) 0) ≤ x3 → Z x2 G) ∧ (x3 < (G 18 ((b : Int) + 2) 0) → (G 0 (G 17 ((b : Int) + 2) 0) 0 = 103) ∧ ((0 ≤ x3 ∧ x3 < G 18 ((b : Int) + 2) 0) ∧ ((G 18 ((b : Int) + 2) 0 ≤ G 0 (G 17 ((b : Int) + 2) 0) 1) ∧ ((G 0 (G 3 (G 17 ((b : Int) + 2) 0) x3) 0 = 10) ∧ ((G 0 (G 3 (G 17 ((b : Int) + 2) 0) x3) 0 = 10) ∧ ((inI (p1 + 100)) ∧ (((¬ (p1 ≤ G 598 (G 3 (G 17 ((b : Int) + 2) 0) x3) 0 ∧ G 598 (G 3 (G 17 ((b : Int) + 2) 0) x3) 0 < p1 + 100)) → (inI (x3 + 1)) ∧ EX e b m m_C_howManyAt Z kc ks 4 [(2, ((b : Int) + 1)), (0, p1), (0, x2), (0, (x3 + 1))] [] G) ∧ ((p1 ≤ G 598 (G 3 (G 17 ((b : Int) + 2) 0) x3) 0 ∧ G 598 (G 3 (G 17 ((b : Int) + 2) 0) x3) 0 < p1 + 100) → (inI (x2 + 1)) ∧ (inI (x3 + 1)) ∧ EX e b m m_C_howManyAt Z kc ks 4 [(2, ((b : Int) + 1)), (0, p1), (0, (x2 + 1)), (0, (x3 + 1))] [] G)))))))))) : EX e b m m_C_howManyAt Z kc ks 4 [(2, ((b : Int) + 1)), (0, p1), (0, x2), (0, x3)] [] G := by
  refine e_iload_n d_C_howManyAt_4 rfl ?_
  refine e_aload_n d_C_howManyAt_5 rfl ?_
  refine gx_C_12 d_C_howManyAt_6 rfl ?_
  refine EV.inv fun hFf1 => ?_
  have f1 := (fx_ct 1 rfl hFf1).1
  obtain ⟨o2, h⟩ := h
  refine e_callV m_AL_size 0 lw_good d_C_howManyAt_9 (k_AL_size _) ⟨Nat.le_of_ble_eq_true rfl, Nat.le_of_ble_eq_true rfl⟩ w_421 w_330 w_331 (q_AL _) rfl f1 (args := []) rfl rfl (Nat.le_of_ble_eq_true rfl) (kc' := kc) (ks' := ks) (mc := 0) (ms := 0) rfl rfl (c_AL_size o2) (pureK ?_)
  refine e_icmp_ge (tgt := 42) d_C_howManyAt_12 (by decide) (fun q3 => ?_) (fun q4 => ?_)
  · have h := h.1 q3
    refine e_iload_n d_C_howManyAt_42 rfl ?_
    exact e_iret d_C_howManyAt_43 rfl h
  · have h := h.2 q4
    refine e_aload_n d_C_howManyAt_15 rfl ?_
    refine gx_C_12 d_C_howManyAt_16 rfl ?_
    refine e_iload_n d_C_howManyAt_19 rfl ?_
    refine EV.inv fun hFf5 => ?_
    have f5 := (fx_ct 1 rfl hFf5).1
    obtain ⟨o6, o7, o8, h⟩ := h
    refine e_callV m_AL_get 0 lw_good d_C_howManyAt_20 (k_AL_get _) ⟨Nat.le_of_ble_eq_true rfl, Nat.le_of_ble_eq_true rfl⟩ w_850 w_607 w_608 (q_AL _) rfl f5 (args := [(0, x3)]) rfl rfl (Nat.le_of_ble_eq_true rfl) (kc' := kc) (ks' := ks) (mc := 0) (ms := 0) rfl rfl (c_AL_get o2 o6 o7 o8) (pureK ?_)
    obtain ⟨o9, h⟩ := h
    refine e_cast 9 d_C_howManyAt_23 (q_Thing _) w_422 (Or.inr o9) ?_
    refine e_iload_n d_C_howManyAt_26 rfl ?_
    obtain ⟨o10, o11, h⟩ := h
    refine e_callV m_Thing_isAt 9 lw_good d_C_howManyAt_27 (k_Thing_isAt _) ⟨Nat.le_of_ble_eq_true rfl, Nat.le_of_ble_eq_true rfl⟩ w_881 w_620 w_621 (q_Thing _) rfl o9 (args := [(0, p1)]) rfl rfl (Nat.le_of_ble_eq_true rfl) (kc' := kc) (ks' := ks) (mc := 0) (ms := 0) rfl rfl (c_Thing_isAt o10 o11) (pureK ?_)
    refine e_if_eq (tgt := 36) d_C_howManyAt_30 (by decide) (fun q12 => ?_) (fun q13 => ?_)
    · replace q12 := gb0.mp q12
      have h := h.1 q12
      obtain ⟨o15, h⟩ := h
      refine e_iinc (ls' := [(2, ((b : Int) + 1)), (0, p1), (0, x2), (0, (x3 + 1))]) d_C_howManyAt_36 rfl (by decide) o15 rfl ?_
      refine e_goto (tgt := 4) d_C_howManyAt_39 (by decide) ?_
      exact e_forget (ls' := [(2, ((b : Int) + 1)), (0, p1), (0, x2), (0, (x3 + 1))]) ⟨Or.inr rfl, Or.inr rfl, Or.inr rfl, Or.inr rfl, trivial⟩ h
    · replace q13 := gb1.mp q13
      have h := h.2 q13
      obtain ⟨o14, h⟩ := h
      refine e_iinc (ls' := [(2, ((b : Int) + 1)), (0, p1), (0, (x2 + 1)), (0, x3)]) d_C_howManyAt_33 rfl (by decide) o14 rfl ?_
      obtain ⟨o16, h⟩ := h
      refine e_iinc (ls' := [(2, ((b : Int) + 1)), (0, p1), (0, (x2 + 1)), (0, (x3 + 1))]) d_C_howManyAt_36 rfl (by decide) o16 rfl ?_
      refine e_goto (tgt := 4) d_C_howManyAt_39 (by decide) ?_
      exact e_forget (ls' := [(2, ((b : Int) + 1)), (0, p1), (0, (x2 + 1)), (0, (x3 + 1))]) ⟨Or.inr rfl, Or.inr rfl, Or.inr rfl, Or.inr rfl, trivial⟩ h
set_option maxRecDepth 20000 in
set_option maxHeartbeats 4000000 in
theorem sg_C_status_0 {e : gE} {b : Nat} {m : Int} {Z : Int → gH → Prop} {kc ks : Nat} {G : gH} {p1 : Int} (h : ((¬ (4 ≤ p1 ∧ p1 ≤ 9)) → ((¬ (11 ≤ p1 ∧ p1 ≤ 17)) → (p1 = 0 → (G 0 ((b : Int) + 2) 0 = 1) ∧ Z (G 18 ((b : Int) + 2) 0) G) ∧ (p1 = 1 → Z (G 150 ((b : Int) + 3) 0) G) ∧ (p1 = 2 → (G 0 ((b : Int) + 11) 0 = 1) ∧ Z (G 18 ((b : Int) + 11) 0) G) ∧ (p1 = 3 → (G 0 ((b : Int) + 19) 0 = 1) ∧ Z (G 18 ((b : Int) + 19) 0) G) ∧ (p1 = 10 → Z (G 730 ((b : Int) + 1) 0) G) ∧ (p1 = 18 → Z (G 83 ((b : Int) + 10) 0) G) ∧ (p1 = 19 → Z (G 661 ((b : Int) + 18) 0) G) ∧ (p1 = 20 → Z (G 662 ((b : Int) + 18) 0) G) ∧ ((p1 ≠ 0 ∧ p1 ≠ 1 ∧ p1 ≠ 2 ∧ p1 ≠ 3 ∧ p1 ≠ 10 ∧ p1 ≠ 18 ∧ p1 ≠ 19 ∧ p1 ≠ 20) → Z (-1) G)) ∧ ((11 ≤ p1 ∧ p1 ≤ 17) → (inI (p1 - 10)) ∧ (0 ≤ (p1 - 10) ∧ (p1 - 10) < 8) ∧ Z (G 1 ((b : Int) + 53) (p1 - 10)) G)) ∧ ((4 ≤ p1 ∧ p1 ≤ 9) → (inI (p1 - 3)) ∧ (inI ((p1 - 3) * 100)) ∧ GX e b m m_C_howManyAt [(2, ((b : Int) + 1)), (0, ((p1 - 3) * 100))] G 0 0 (fun v29 G30 => Z v29 G30))) : EX e b m m_C_status Z kc ks 0 [(2, ((b : Int) + 1)), (0, p1)] [] G := by
  refine e_iload_n d_C_status_0 rfl ?_
  refine e_iconst d_C_status_1 (by decide) ?_
  refine e_bipush d_C_status_2 (by decide) (by decide) ?_
  refine e_callS m_C_within lw_good d_C_status_4 (k_C_within _) ⟨Nat.le_of_ble_eq_true rfl, Nat.le_of_ble_eq_true rfl⟩ w_294 w_295 (args := [(0, p1), (0, 4), (0, 9)]) rfl rfl (Nat.le_of_ble_eq_true rfl) (kc' := kc) (ks' := ks) (mc := 0) (ms := 0) rfl rfl (c_C_within) (pureK ?_)
  refine e_if_eq (tgt := 21) d_C_status_7 (by decide) (fun q1 => ?_) (fun q2 => ?_)
  · replace q1 := gb0.mp q1
    have h := h.1 q1
    refine e_iload_n d_C_status_21 rfl ?_
    refine e_bipush d_C_status_22 (by decide) (by decide) ?_
    refine e_bipush d_C_status_24 (by decide) (by decide) ?_
    refine e_callS m_C_within lw_good d_C_status_26 (k_C_within _) ⟨Nat.le_of_ble_eq_true rfl, Nat.le_of_ble_eq_true rfl⟩ w_294 w_295 (args := [(0, p1), (0, 11), (0, 17)]) rfl rfl (Nat.le_of_ble_eq_true rfl) (kc' := kc) (ks' := ks) (mc := 0) (ms := 0) rfl rfl (c_C_within) (pureK ?_)
    refine e_if_eq (tgt := 42) d_C_status_29 (by decide) (fun q3 => ?_) (fun q4 => ?_)
    · replace q3 := gb0.mp q3
      have h := h.1 q3
      refine e_iload_n d_C_status_42 rfl ?_
      obtain ⟨hs0, hs1, hs2, hs3, hs4, hs5, hs6, hs7, hs8⟩ := h
      by_cases q5 : p1 = 0
      · have h := hs0 q5
        refine e_tableIn (tgt := 140) d_C_status_43 (by omega) (by omega) (by rw [show p1 = 0 from q5]; rfl) (by decide) ?_
        refine e_aload_n d_C_status_140 rfl ?_
        refine gx_C_12 d_C_status_141 rfl ?_
        refine EV.inv fun hFf6 => ?_
        have f6 := (fx_ct 1 rfl hFf6).1
        obtain ⟨o7, h⟩ := h
        refine e_callV m_AL_size 0 lw_good d_C_status_144 (k_AL_size _) ⟨Nat.le_of_ble_eq_true rfl, Nat.le_of_ble_eq_true rfl⟩ w_421 w_330 w_331 (q_AL _) rfl f6 (args := []) rfl rfl (Nat.le_of_ble_eq_true rfl) (kc' := kc) (ks' := ks) (mc := 0) (ms := 0) rfl rfl (c_AL_size o7) (pureK ?_)
        exact e_iret d_C_status_147 rfl h
      by_cases q8 : p1 = 1
      · have h := hs1 q8
        refine e_tableIn (tgt := 148) d_C_status_43 (by omega) (by omega) (by rw [show p1 = 1 from q8]; rfl) (by decide) ?_
        refine e_aload_n d_C_status_148 rfl ?_
        refine gx_C_19 d_C_status_149 rfl ?_
        refine EV.inv fun hFf9 => ?_
        have f9 := (fx_ct 2 rfl hFf9).1
        refine e_callV m_House_doorCount 2 lw_good d_C_status_152 (k_House_doorCount _) ⟨Nat.le_of_ble_eq_true rfl, Nat.le_of_ble_eq_true rfl⟩ w_301 w_302 w_303 (q_House _) rfl f9 (args := []) rfl rfl (Nat.le_of_ble_eq_true rfl) (kc' := kc) (ks' := ks) (mc := 0) (ms := 0) rfl rfl (c_House_doorCount) (pureK ?_)
        exact e_iret d_C_status_155 rfl h
      by_cases q10 : p1 = 2
      · have h := hs2 q10
        refine e_tableIn (tgt := 156) d_C_status_43 (by omega) (by omega) (by rw [show p1 = 2 from q10]; rfl) (by decide) ?_
        refine e_aload_n d_C_status_156 rfl ?_
        refine gx_C_28 d_C_status_157 rfl ?_
        refine EV.inv fun hFf11 => ?_
        have f11 := (fx_ct 9 rfl hFf11).1
        obtain ⟨o12, h⟩ := h
        refine e_callV m_Hours_teamCount 1 lw_good d_C_status_160 (k_Hours_teamCount _) ⟨Nat.le_of_ble_eq_true rfl, Nat.le_of_ble_eq_true rfl⟩ w_325 w_326 w_327 (q_Hours _) rfl f11 (args := []) rfl rfl (Nat.le_of_ble_eq_true rfl) (kc' := kc) (ks' := ks) (mc := 0) (ms := 0) rfl rfl (c_Hours_teamCount o12) (pureK ?_)
        exact e_iret d_C_status_163 rfl h
      by_cases q13 : p1 = 3
      · have h := hs3 q13
        refine e_tableIn (tgt := 164) d_C_status_43 (by omega) (by omega) (by rw [show p1 = 3 from q13]; rfl) (by decide) ?_
        refine e_aload_n d_C_status_164 rfl ?_
        refine gx_C_37 d_C_status_165 rfl ?_
        refine EV.inv fun hFf14 => ?_
        have f14 := (fx_ct 17 rfl hFf14).1
        obtain ⟨o15, h⟩ := h
        refine e_callV m_Years_placeCount 10 lw_good d_C_status_168 (k_Years_placeCount _) ⟨Nat.le_of_ble_eq_true rfl, Nat.le_of_ble_eq_true rfl⟩ w_1013 w_1014 w_1015 (q_Years _) rfl f14 (args := []) rfl rfl (Nat.le_of_ble_eq_true rfl) (kc' := kc) (ks' := ks) (mc := 0) (ms := 0) rfl rfl (c_Years_placeCount o15) (pureK ?_)
        exact e_iret d_C_status_171 rfl h
      by_cases q16 : p1 = 10
      · have h := hs4 q16
        refine e_tableIn (tgt := 172) d_C_status_43 (by omega) (by omega) (by rw [show p1 = 10 from q16]; rfl) (by decide) ?_
        refine e_aload_n d_C_status_172 rfl ?_
        refine gx_C_81 d_C_status_173 rfl ?_
        exact e_iret d_C_status_176 rfl h
      by_cases q17 : p1 = 18
      · have h := hs5 q17
        refine e_tableIn (tgt := 177) d_C_status_43 (by omega) (by omega) (by rw [show p1 = 18 from q17]; rfl) (by decide) ?_
        refine e_aload_n d_C_status_177 rfl ?_
        refine gx_C_28 d_C_status_178 rfl ?_
        refine EV.inv fun hFf18 => ?_
        have f18 := (fx_ct 9 rfl hFf18).1
        refine e_callV m_Hours_minuteNow 1 lw_good d_C_status_181 (k_Hours_minuteNow _) ⟨Nat.le_of_ble_eq_true rfl, Nat.le_of_ble_eq_true rfl⟩ w_590 w_591 w_592 (q_Hours _) rfl f18 (args := []) rfl rfl (Nat.le_of_ble_eq_true rfl) (kc' := kc) (ks' := ks) (mc := 0) (ms := 0) rfl rfl (c_Hours_minuteNow) (pureK ?_)
        exact e_iret d_C_status_184 rfl h
      by_cases q19 : p1 = 19
      · have h := hs6 q19
        refine e_tableIn (tgt := 185) d_C_status_43 (by omega) (by omega) (by rw [show p1 = 19 from q19]; rfl) (by decide) ?_
        refine e_aload_n d_C_status_185 rfl ?_
        refine gx_C_37 d_C_status_186 rfl ?_
        refine EV.inv fun hFf20 => ?_
        have f20 := (fx_ct 17 rfl hFf20).1
        refine e_callV m_Years_weekNow 10 lw_good d_C_status_189 (k_Years_weekNow _) ⟨Nat.le_of_ble_eq_true rfl, Nat.le_of_ble_eq_true rfl⟩ w_1275 w_1276 w_1277 (q_Years _) rfl f20 (args := []) rfl rfl (Nat.le_of_ble_eq_true rfl) (kc' := kc) (ks' := ks) (mc := 0) (ms := 0) rfl rfl (c_Years_weekNow) (pureK ?_)
        exact e_iret d_C_status_192 rfl h
      by_cases q21 : p1 = 20
      · have h := hs7 q21
        refine e_tableIn (tgt := 193) d_C_status_43 (by omega) (by omega) (by rw [show p1 = 20 from q21]; rfl) (by decide) ?_
        refine e_aload_n d_C_status_193 rfl ?_
        refine gx_C_37 d_C_status_194 rfl ?_
        refine EV.inv fun hFf22 => ?_
        have f22 := (fx_ct 17 rfl hFf22).1
        refine e_callV m_Years_fuelLeft 10 lw_good d_C_status_197 (k_Years_fuelLeft _) ⟨Nat.le_of_ble_eq_true rfl, Nat.le_of_ble_eq_true rfl⟩ w_1377 w_1378 w_1379 (q_Years _) rfl f22 (args := []) rfl rfl (Nat.le_of_ble_eq_true rfl) (kc' := kc) (ks' := ks) (mc := 0) (ms := 0) rfl rfl (c_Years_fuelLeft) (pureK ?_)
        exact e_iret d_C_status_200 rfl h
      have q23 : p1 ≠ 0 ∧ p1 ≠ 1 ∧ p1 ≠ 2 ∧ p1 ≠ 3 ∧ p1 ≠ 10 ∧ p1 ≠ 18 ∧ p1 ≠ 19 ∧ p1 ≠ 20 := ⟨q5, q8, q10, q13, q16, q17, q19, q21⟩
      have h := hs8 q23
      have hout : (p1 < 0 ∨ 20 < p1) ∨ p1 = 4 ∨ p1 = 5 ∨ p1 = 6 ∨ p1 = 7 ∨ p1 = 8 ∨ p1 = 9 ∨ p1 = 11 ∨ p1 = 12 ∨ p1 = 13 ∨ p1 = 14 ∨ p1 = 15 ∨ p1 = 16 ∨ p1 = 17 := by omega
      rcases hout with hout | hout | hout | hout | hout | hout | hout | hout | hout | hout | hout | hout | hout | hout
      · refine e_tableOut (tgt := 201) d_C_status_43 hout (by decide) ?_
        refine e_iconst d_C_status_201 (by decide) ?_
        exact e_iret d_C_status_202 rfl h
      · refine e_tableIn (tgt := 201) d_C_status_43 (by omega) (by omega) (by rw [hout]; rfl) (by decide) ?_
        refine e_iconst d_C_status_201 (by decide) ?_
        exact e_iret d_C_status_202 rfl h
      · refine e_tableIn (tgt := 201) d_C_status_43 (by omega) (by omega) (by rw [hout]; rfl) (by decide) ?_
        refine e_iconst d_C_status_201 (by decide) ?_
        exact e_iret d_C_status_202 rfl h
      · refine e_tableIn (tgt := 201) d_C_status_43 (by omega) (by omega) (by rw [hout]; rfl) (by decide) ?_
        refine e_iconst d_C_status_201 (by decide) ?_
        exact e_iret d_C_status_202 rfl h
      · refine e_tableIn (tgt := 201) d_C_status_43 (by omega) (by omega) (by rw [hout]; rfl) (by decide) ?_
        refine e_iconst d_C_status_201 (by decide) ?_
        exact e_iret d_C_status_202 rfl h
      · refine e_tableIn (tgt := 201) d_C_status_43 (by omega) (by omega) (by rw [hout]; rfl) (by decide) ?_
        refine e_iconst d_C_status_201 (by decide) ?_
        exact e_iret d_C_status_202 rfl h
      · refine e_tableIn (tgt := 201) d_C_status_43 (by omega) (by omega) (by rw [hout]; rfl) (by decide) ?_
        refine e_iconst d_C_status_201 (by decide) ?_
        exact e_iret d_C_status_202 rfl h
      · refine e_tableIn (tgt := 201) d_C_status_43 (by omega) (by omega) (by rw [hout]; rfl) (by decide) ?_
        refine e_iconst d_C_status_201 (by decide) ?_
        exact e_iret d_C_status_202 rfl h
      · refine e_tableIn (tgt := 201) d_C_status_43 (by omega) (by omega) (by rw [hout]; rfl) (by decide) ?_
        refine e_iconst d_C_status_201 (by decide) ?_
        exact e_iret d_C_status_202 rfl h
      · refine e_tableIn (tgt := 201) d_C_status_43 (by omega) (by omega) (by rw [hout]; rfl) (by decide) ?_
        refine e_iconst d_C_status_201 (by decide) ?_
        exact e_iret d_C_status_202 rfl h
      · refine e_tableIn (tgt := 201) d_C_status_43 (by omega) (by omega) (by rw [hout]; rfl) (by decide) ?_
        refine e_iconst d_C_status_201 (by decide) ?_
        exact e_iret d_C_status_202 rfl h
      · refine e_tableIn (tgt := 201) d_C_status_43 (by omega) (by omega) (by rw [hout]; rfl) (by decide) ?_
        refine e_iconst d_C_status_201 (by decide) ?_
        exact e_iret d_C_status_202 rfl h
      · refine e_tableIn (tgt := 201) d_C_status_43 (by omega) (by omega) (by rw [hout]; rfl) (by decide) ?_
        refine e_iconst d_C_status_201 (by decide) ?_
        exact e_iret d_C_status_202 rfl h
      · refine e_tableIn (tgt := 201) d_C_status_43 (by omega) (by omega) (by rw [hout]; rfl) (by decide) ?_
        refine e_iconst d_C_status_201 (by decide) ?_
        exact e_iret d_C_status_202 rfl h
    · replace q4 := gb1.mp q4
      have h := h.2 q4
      refine e_aload_n d_C_status_32 rfl ?_
      refine gx_C_74 d_C_status_33 rfl ?_
      refine e_iload_n d_C_status_36 rfl ?_
      refine e_bipush d_C_status_37 (by decide) (by decide) ?_
      obtain ⟨o24, h⟩ := h
      refine e_isub d_C_status_39 o24 ?_
      obtain ⟨o25, h⟩ := h
      refine xC_iald 52 rfl d_C_status_40 o25 ?_
      exact e_iret d_C_status_41 rfl h
  · replace q2 := gb1.mp q2
    have h := h.2 q2
    refine e_aload_n d_C_status_10 rfl ?_
    refine e_iload_n d_C_status_11 rfl ?_
    refine e_iconst d_C_status_12 (by decide) ?_
    obtain ⟨o26, h⟩ := h
    refine e_isub d_C_status_13 o26 ?_
    refine e_bipush d_C_status_14 (by decide) (by decide) ?_
    obtain ⟨o27, h⟩ := h
    refine e_imul d_C_status_16 o27 ?_
    refine EV.inv fun hFf28 => ?_
    have f28 := (fx_ct 0 rfl hFf28).1
    refine e_callV m_C_howManyAt 11 lw_good d_C_status_17 (k_C_howManyAt _) ⟨Nat.le_of_ble_eq_true rfl, Nat.le_of_ble_eq_true rfl⟩ w_877 w_879 w_s26 (q_C _) rfl f28 (args := [(0, ((p1 - 3) * 100))]) rfl rfl (Nat.le_of_ble_eq_true rfl) (kc' := kc) (ks' := ks) (mc := 0) (ms := 0) rfl rfl h ?_
    intro v29 G30 h
    exact e_iret d_C_status_20 rfl h
