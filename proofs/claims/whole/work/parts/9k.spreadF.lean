/-! THE CLASS, 53: places and groups are scored -/
set_option maxRecDepth 20000 in
set_option maxHeartbeats 4000000 in
theorem sg_Spread_shiftOf_0 {e : gE} {b : Nat} {m : Int} {Z : Int → gH → Prop} {kc ks : Nat} {G : gH} {p0 : Int} (h : (G 0 p0 0 = 10) ∧ (G 0 p0 0 = 10) ∧ (inI (15 - (G 592 p0 0))) ∧ (inI (3 * (15 - (G 592 p0 0)))) ∧ Z (3 * (15 - (G 592 p0 0))) G) : EX e b m m_Spread_shiftOf Z kc ks 0 [(2, p0)] [] G := by
  refine e_iconst d_Spread_shiftOf_0 (by decide) ?_
  refine e_bipush d_Spread_shiftOf_1 (by decide) (by decide) ?_
  refine e_aload_n d_Spread_shiftOf_3 rfl ?_
  obtain ⟨o1, o2, h⟩ := h
  refine e_callV m_Thing_number 9 lw_good d_Spread_shiftOf_4 (k_Thing_number _) ⟨Nat.le_of_ble_eq_true rfl, Nat.le_of_ble_eq_true rfl⟩ w_1210 w_728 w_729 (q_Thing _) rfl o1 (args := []) rfl rfl (Nat.le_of_ble_eq_true rfl) (kc' := kc) (ks' := ks) (mc := 0) (ms := 0) rfl rfl (c_Thing_number o2) (pureK ?_)
  obtain ⟨o3, h⟩ := h
  refine e_isub d_Spread_shiftOf_7 o3 ?_
  obtain ⟨o4, h⟩ := h
  refine e_imul d_Spread_shiftOf_8 o4 ?_
  exact e_iret d_Spread_shiftOf_9 rfl h
theorem c_Spread_shiftOf {e : gE} {b : Nat} {m : Int} {G : gH} {p0 : Int} (h1 : G 0 p0 0 = 10) (h2 : 0 ≤ G 592 p0 0 ∧ G 592 p0 0 ≤ 15) : GX e b m m_Spread_shiftOf [(2, p0)] G 0 0 (fun v9 G9 => v9 = (3 * (15 - G 592 p0 0) : Int) ∧ G9 = G) := by
  refine GM.ofEV (by decide) (Nat.le_of_ble_eq_true rfl) (sg_Spread_shiftOf_0 ?_)
  repeat' (first | apply And.intro | intro _)
  all_goals first | assumption | rfl | omega | (rw [if_pos (by omega)]) | (rw [if_neg (by omega)])
set_option maxRecDepth 20000 in
set_option maxHeartbeats 4000000 in
theorem sg_Spread_scoreOf_0 {e : gE} {b : Nat} {m : Int} {Z : Int → gH → Prop} {kc ks : Nat} {G : gH} {p1 p2 p3 : Int} (h : GX e b m m_Years_costOf [(2, ((b : Int) + 18)), (2, p1), (2, p3)] G 0 0 (fun v2 G3 => (G3 0 p1 0 = 10) ∧ (0 ≤ G3 592 p1 0 ∧ G3 592 p1 0 ≤ 15) ∧ (inL ((glshl v2 48) + (glshl p2 (3 * (15 - G3 592 p1 0))))) ∧ (inL (-((glshl v2 48) + (glshl p2 (3 * (15 - G3 592 p1 0)))))) ∧ Z (-((glshl v2 48) + (glshl p2 (3 * (15 - G3 592 p1 0))))) G3)) : EX e b m m_Spread_scoreOf Z kc ks 0 [(2, ((b : Int) + 23)), (2, p1), (0, p2), (2, p3)] [] G := by
  refine e_aload_n d_Spread_scoreOf_0 rfl ?_
  refine gx_Spread_15 d_Spread_scoreOf_1 rfl ?_
  refine e_aload_n d_Spread_scoreOf_4 rfl ?_
  refine e_aload_n d_Spread_scoreOf_5 rfl ?_
  refine EV.inv fun hFf1 => ?_
  have f1 := (fx_ct 17 rfl hFf1).1
  refine e_callV m_Years_costOf 10 lw_good d_Spread_scoreOf_6 (k_Years_costOf _) ⟨Nat.le_of_ble_eq_true rfl, Nat.le_of_ble_eq_true rfl⟩ w_1196 w_1197 w_1198 (q_Years _) rfl f1 (args := [(2, p1), (2, p3)]) rfl rfl (Nat.le_of_ble_eq_true rfl) (kc' := kc) (ks' := ks) (mc := 0) (ms := 0) rfl rfl h ?_
  intro v2 G3 h
  refine e_i2l d_Spread_scoreOf_9 ?_
  refine e_bipush d_Spread_scoreOf_10 (by decide) (by decide) ?_
  refine e_lshl d_Spread_scoreOf_12 ?_
  refine e_iload_n d_Spread_scoreOf_13 rfl ?_
  refine e_i2l d_Spread_scoreOf_14 ?_
  refine e_aload_n d_Spread_scoreOf_15 rfl ?_
  obtain ⟨o4, o5, h⟩ := h
  refine e_callS m_Spread_shiftOf lw_good d_Spread_scoreOf_16 (k_Spread_shiftOf _) ⟨Nat.le_of_ble_eq_true rfl, Nat.le_of_ble_eq_true rfl⟩ w_1207 w_1208 (args := [(2, p1)]) rfl rfl (Nat.le_of_ble_eq_true rfl) (kc' := kc) (ks' := ks) (mc := 0) (ms := 0) rfl rfl (c_Spread_shiftOf o4 o5) (pureK ?_)
  refine e_lshl d_Spread_scoreOf_19 ?_
  obtain ⟨o6, h⟩ := h
  refine e_ladd d_Spread_scoreOf_20 o6 ?_
  obtain ⟨o7, h⟩ := h
  refine e_lneg d_Spread_scoreOf_21 o7 ?_
  exact e_lret d_Spread_scoreOf_22 rfl h
set_option maxRecDepth 20000 in
set_option maxHeartbeats 4000000 in
theorem sg_Spread_scorePlace_0 {e : gE} {b : Nat} {m : Int} {Z : Int → gH → Prop} {kc ks : Nat} {G : gH} {p1 p2 : Int} (h : (G 0 p2 0 = 5) ∧ ((G 0 p2 0 = 5) ∧ (((¬ (0 ≤ p1 ∧ p1 ≤ 4)) → (inI ((G 272 p2 0) - 0)) ∧ GX e b m m_Sets_clear [(2, ((b : Int) + 27))] G 0 0 (fun _ G8 => EX e b m m_Spread_scorePlace Z kc ks 35 [(2, ((b : Int) + 23)), (0, p1), (2, p2), (0, ((G 272 p2 0) - 0)), (0, 0), (9, 0), (9, 0), (9, 0), (9, 0), (9, 0), (9, 0)] [] G8)) ∧ ((0 ≤ p1 ∧ p1 ≤ 4) → (0 ≤ p1 ∧ p1 < 5) ∧ (inI ((G 272 p2 0) - (G 1 ((b : Int) + 32) p1))) ∧ GX e b m m_Sets_clear [(2, ((b : Int) + 27))] G 0 0 (fun _ G11 => EX e b m m_Spread_scorePlace Z kc ks 35 [(2, ((b : Int) + 23)), (0, p1), (2, p2), (0, ((G 272 p2 0) - (G 1 ((b : Int) + 32) p1))), (0, 0), (9, 0), (9, 0), (9, 0), (9, 0), (9, 0), (9, 0)] [] G11))))) : EX e b m m_Spread_scorePlace Z kc ks 0 [(2, ((b : Int) + 23)), (0, p1), (2, p2), (9, 0), (9, 0), (9, 0), (9, 0), (9, 0), (9, 0), (9, 0), (9, 0)] [] G := by
  refine e_aload_n d_Spread_scorePlace_0 rfl ?_
  obtain ⟨o1, o2, h⟩ := h
  refine e_callV m_Place_hands 4 lw_good d_Spread_scorePlace_1 (k_Place_hands _) ⟨Nat.le_of_ble_eq_true rfl, Nat.le_of_ble_eq_true rfl⟩ w_1188 w_1189 w_1190 (q_Place _) rfl o1 (args := []) rfl rfl (Nat.le_of_ble_eq_true rfl) (kc' := kc) (ks' := ks) (mc := 0) (ms := 0) rfl rfl (c_Place_hands o2) (pureK ?_)
  refine e_iload_n d_Spread_scorePlace_4 rfl ?_
  refine e_iconst d_Spread_scorePlace_5 (by decide) ?_
  refine e_iconst d_Spread_scorePlace_6 (by decide) ?_
  refine e_callSN m_C_within "MuseumFlight" lw_good d_Spread_scorePlace_7 (k_C_within _) ⟨Nat.le_of_ble_eq_true rfl, Nat.le_of_ble_eq_true rfl⟩ w_1142 w_295 (args := [(0, p1), (0, 0), (0, 4)]) rfl rfl (Nat.le_of_ble_eq_true rfl) (kc' := kc) (ks' := ks) (mc := 0) (ms := 0) rfl rfl (c_C_within) (pureK ?_)
  refine e_if_eq (tgt := 22) d_Spread_scorePlace_10 (by decide) (fun q3 => ?_) (fun q4 => ?_)
  · replace q3 := gb0.mp q3
    have h := h.1 q3
    refine e_iconst d_Spread_scorePlace_22 (by decide) ?_
    obtain ⟨o6, h⟩ := h
    refine e_isub d_Spread_scorePlace_23 o6 ?_
    refine e_istore_n (ls' := [(2, ((b : Int) + 23)), (0, p1), (2, p2), (0, ((G 272 p2 0) - 0)), (9, 0), (9, 0), (9, 0), (9, 0), (9, 0), (9, 0), (9, 0)]) d_Spread_scorePlace_24 (by decide) rfl ?_
    refine e_aload_n d_Spread_scorePlace_25 rfl ?_
    refine gx_Spread_32 d_Spread_scorePlace_26 rfl ?_
    refine e_callS m_Sets_clear lw_good d_Spread_scorePlace_29 (k_Sets_clear _) ⟨Nat.le_of_ble_eq_true rfl, Nat.le_of_ble_eq_true rfl⟩ w_1178 w_692 (args := [(2, ((b : Int) + 27))]) rfl rfl (Nat.le_of_ble_eq_true rfl) (kc' := kc) (ks' := ks) (mc := 0) (ms := 0) rfl rfl h ?_
    intro v7 G8 h
    refine e_iconst d_Spread_scorePlace_32 (by decide) ?_
    refine e_istore (ls' := [(2, ((b : Int) + 23)), (0, p1), (2, p2), (0, ((G 272 p2 0) - 0)), (0, 0), (9, 0), (9, 0), (9, 0), (9, 0), (9, 0), (9, 0)]) d_Spread_scorePlace_33 (by decide) rfl ?_
    exact e_forget (ls' := [(2, ((b : Int) + 23)), (0, p1), (2, p2), (0, ((G 272 p2 0) - 0)), (0, 0), (9, 0), (9, 0), (9, 0), (9, 0), (9, 0), (9, 0)]) ⟨Or.inr rfl, Or.inr rfl, Or.inr rfl, Or.inr rfl, Or.inr rfl, Or.inl rfl, Or.inl rfl, Or.inl rfl, Or.inl rfl, Or.inl rfl, Or.inl rfl, trivial⟩ h
  · replace q4 := gb1.mp q4
    have h := h.2 q4
    refine e_aload_n d_Spread_scorePlace_13 rfl ?_
    refine gx_Spread_48 d_Spread_scorePlace_14 rfl ?_
    refine e_iload_n d_Spread_scorePlace_17 rfl ?_
    obtain ⟨o5, h⟩ := h
    refine xC_iald 31 rfl d_Spread_scorePlace_18 o5 ?_
    refine e_goto (tgt := 23) d_Spread_scorePlace_19 (by decide) ?_
    obtain ⟨o9, h⟩ := h
    refine e_isub d_Spread_scorePlace_23 o9 ?_
    refine e_istore_n (ls' := [(2, ((b : Int) + 23)), (0, p1), (2, p2), (0, ((G 272 p2 0) - (G 1 ((b : Int) + 32) p1))), (9, 0), (9, 0), (9, 0), (9, 0), (9, 0), (9, 0), (9, 0)]) d_Spread_scorePlace_24 (by decide) rfl ?_
    refine e_aload_n d_Spread_scorePlace_25 rfl ?_
    refine gx_Spread_32 d_Spread_scorePlace_26 rfl ?_
    refine e_callS m_Sets_clear lw_good d_Spread_scorePlace_29 (k_Sets_clear _) ⟨Nat.le_of_ble_eq_true rfl, Nat.le_of_ble_eq_true rfl⟩ w_1178 w_692 (args := [(2, ((b : Int) + 27))]) rfl rfl (Nat.le_of_ble_eq_true rfl) (kc' := kc) (ks' := ks) (mc := 0) (ms := 0) rfl rfl h ?_
    intro v10 G11 h
    refine e_iconst d_Spread_scorePlace_32 (by decide) ?_
    refine e_istore (ls' := [(2, ((b : Int) + 23)), (0, p1), (2, p2), (0, ((G 272 p2 0) - (G 1 ((b : Int) + 32) p1))), (0, 0), (9, 0), (9, 0), (9, 0), (9, 0), (9, 0), (9, 0)]) d_Spread_scorePlace_33 (by decide) rfl ?_
    exact e_forget (ls' := [(2, ((b : Int) + 23)), (0, p1), (2, p2), (0, ((G 272 p2 0) - (G 1 ((b : Int) + 32) p1))), (0, 0), (9, 0), (9, 0), (9, 0), (9, 0), (9, 0), (9, 0)]) ⟨Or.inr rfl, Or.inr rfl, Or.inr rfl, Or.inr rfl, Or.inr rfl, Or.inl rfl, Or.inl rfl, Or.inl rfl, Or.inl rfl, Or.inl rfl, Or.inl rfl, trivial⟩ h
set_option maxRecDepth 20000 in
set_option maxHeartbeats 4000000 in
theorem sg_Spread_scorePlace_35 {e : gE} {b : Nat} {m : Int} {Z : Int → gH → Prop} {kc ks : Nat} {G : gH} {p1 p2 x3 x4 : Int} (h : ((G 0 ((b : Int) + 24) 0 = 1) ∧ (x4 < (G 18 ((b : Int) + 24) 0) → (x4 < 8 → (G 0 (G 17 ((b : Int) + 24) 0) 0 = 103) ∧ ((0 ≤ x4 ∧ x4 < G 18 ((b : Int) + 24) 0) ∧ ((G 18 ((b : Int) + 24) 0 ≤ G 0 (G 17 ((b : Int) + 24) 0) 1) ∧ ((G 0 (G 3 (G 17 ((b : Int) + 24) 0) x4) 0 = 10) ∧ (GX e b m m_Years_suits [(2, ((b : Int) + 18)), (2, p2), (2, (G 3 (G 17 ((b : Int) + 24) 0) x4))] G 0 0 (fun v13 G14 => (v13 = 0 → EX e b m m_Spread_scorePlace Z kc ks 106 [(2, ((b : Int) + 23)), (0, p1), (2, p2), (0, x3), (0, x4), (9, 0), (1, (-4611686018427387904)), (9, 0), (0, (gshl 1 x4)), (0, 0), (9, 0)] [] G14) ∧ (v13 ≠ 0 → GX e b m m_Spread_scoreOf [(2, ((b : Int) + 23)), (2, (G 3 (G 17 ((b : Int) + 24) 0) x4)), (0, p1), (2, p2)] G14 0 0 (fun v18 G19 => EX e b m m_Spread_scorePlace Z kc ks 106 [(2, ((b : Int) + 23)), (0, p1), (2, p2), (0, x3), (0, x4), (9, 0), (1, v18), (9, 0), (0, (gshl 1 x4)), (0, 0), (9, 0)] [] G19)))))))))) ∧ (((G 18 ((b : Int) + 24) 0) ≤ x4 ∨ (x4 < (G 18 ((b : Int) + 24) 0) ∧ 8 ≤ x4)) → Z 0 G)) : EX e b m m_Spread_scorePlace Z kc ks 35 [(2, ((b : Int) + 23)), (0, p1), (2, p2), (0, x3), (0, x4), (9, 0), (9, 0), (9, 0), (9, 0), (9, 0), (9, 0)] [] G := by
  obtain ⟨h, hJ20⟩ := h
  have kJ20 : ((G 18 ((b : Int) + 24) 0) ≤ x4 ∨ (x4 < (G 18 ((b : Int) + 24) 0) ∧ 8 ≤ x4)) → EX e b m m_Spread_scorePlace Z kc ks 190 [(2, ((b : Int) + 23)), (0, p1), (2, p2), (0, x3), (0, x4), (9, 0), (9, 0), (9, 0), (9, 0), (9, 0), (9, 0)] [] G := by
    intro rJ20
    have h := hJ20 rJ20
    exact e_vret d_Spread_scorePlace_190 rfl h
  refine e_iload d_Spread_scorePlace_35 rfl ?_
  refine e_aload_n d_Spread_scorePlace_37 rfl ?_
  refine gx_Spread_22 d_Spread_scorePlace_38 rfl ?_
  refine EV.inv fun hFf1 => ?_
  have f1 := (fx_ct 23 rfl hFf1).1
  obtain ⟨o2, h⟩ := h
  refine e_callV m_AL_size 0 lw_good d_Spread_scorePlace_41 (k_AL_size _) ⟨Nat.le_of_ble_eq_true rfl, Nat.le_of_ble_eq_true rfl⟩ w_1130 w_330 w_331 (q_AL _) rfl f1 (args := []) rfl rfl (Nat.le_of_ble_eq_true rfl) (kc' := kc) (ks' := ks) (mc := 0) (ms := 0) rfl rfl (c_AL_size o2) (pureK ?_)
  refine e_icmp_ge (tgt := 190) d_Spread_scorePlace_44 (by decide) (fun q3 => ?_) (fun q4 => ?_)
  · exact kJ20 (Or.inl q3)
  · have h := h q4
    refine e_iload d_Spread_scorePlace_47 rfl ?_
    refine e_bipush d_Spread_scorePlace_49 (by decide) (by decide) ?_
    refine e_icmp_ge (tgt := 190) d_Spread_scorePlace_51 (by decide) (fun q5 => ?_) (fun q6 => ?_)
    · exact kJ20 (Or.inr ⟨q4, q5⟩)
    · have h := h q6
      refine e_aload_n d_Spread_scorePlace_54 rfl ?_
      refine gx_Spread_22 d_Spread_scorePlace_55 rfl ?_
      refine e_iload d_Spread_scorePlace_58 rfl ?_
      refine EV.inv fun hFf7 => ?_
      have f7 := (fx_ct 23 rfl hFf7).1
      obtain ⟨o8, o9, o10, h⟩ := h
      refine e_callV m_AL_get 0 lw_good d_Spread_scorePlace_60 (k_AL_get _) ⟨Nat.le_of_ble_eq_true rfl, Nat.le_of_ble_eq_true rfl⟩ w_1131 w_607 w_608 (q_AL _) rfl f7 (args := [(0, x4)]) rfl rfl (Nat.le_of_ble_eq_true rfl) (kc' := kc) (ks' := ks) (mc := 0) (ms := 0) rfl rfl (c_AL_get o2 o8 o9 o10) (pureK ?_)
      obtain ⟨o11, h⟩ := h
      refine e_cast 9 d_Spread_scorePlace_63 (q_Thing _) w_1132 (Or.inr o11) ?_
      refine e_astore (ls' := [(2, ((b : Int) + 23)), (0, p1), (2, p2), (0, x3), (0, x4), (2, (G 3 (G 17 ((b : Int) + 24) 0) x4)), (9, 0), (9, 0), (9, 0), (9, 0), (9, 0)]) d_Spread_scorePlace_66 (by decide) rfl ?_
      refine e_aload_n d_Spread_scorePlace_68 rfl ?_
      refine gx_Spread_15 d_Spread_scorePlace_69 rfl ?_
      refine e_aload_n d_Spread_scorePlace_72 rfl ?_
      refine e_aload d_Spread_scorePlace_73 rfl ?_
      refine EV.inv fun hFf12 => ?_
      have f12 := (fx_ct 17 rfl hFf12).1
      refine e_callV m_Years_suits 10 lw_good d_Spread_scorePlace_75 (k_Years_suits _) ⟨Nat.le_of_ble_eq_true rfl, Nat.le_of_ble_eq_true rfl⟩ w_1152 w_1153 w_1154 (q_Years _) rfl f12 (args := [(2, p2), (2, (G 3 (G 17 ((b : Int) + 24) 0) x4))]) rfl rfl (Nat.le_of_ble_eq_true rfl) (kc' := kc) (ks' := ks) (mc := 0) (ms := 0) rfl rfl h ?_
      intro v13 G14 h
      refine e_if_eq (tgt := 92) d_Spread_scorePlace_78 (by decide) (fun q15 => ?_) (fun q16 => ?_)
      · have h := h.1 q15
        refine e_ldc2 (-4611686018427387904) d_Spread_scorePlace_92 (by decide) (by have h9 := w_1211; rw [show (-4611686018427387904 : Int64) = Int64.ofInt (-4611686018427387904) from by decide] at h9; exact h9) ?_
        refine e_lstore (ls' := [(2, ((b : Int) + 23)), (0, p1), (2, p2), (0, x3), (0, x4), (2, (G 3 (G 17 ((b : Int) + 24) 0) x4)), (1, (-4611686018427387904)), (9, 0), (9, 0), (9, 0), (9, 0)]) d_Spread_scorePlace_95 (by decide) rfl ?_
        refine e_iconst d_Spread_scorePlace_97 (by decide) ?_
        refine e_iload d_Spread_scorePlace_98 rfl ?_
        refine e_ishl d_Spread_scorePlace_100 ?_
        refine e_istore (ls' := [(2, ((b : Int) + 23)), (0, p1), (2, p2), (0, x3), (0, x4), (2, (G 3 (G 17 ((b : Int) + 24) 0) x4)), (1, (-4611686018427387904)), (9, 0), (0, (gshl 1 x4)), (9, 0), (9, 0)]) d_Spread_scorePlace_101 (by decide) rfl ?_
        refine e_iconst d_Spread_scorePlace_103 (by decide) ?_
        refine e_istore (ls' := [(2, ((b : Int) + 23)), (0, p1), (2, p2), (0, x3), (0, x4), (2, (G 3 (G 17 ((b : Int) + 24) 0) x4)), (1, (-4611686018427387904)), (9, 0), (0, (gshl 1 x4)), (0, 0), (9, 0)]) d_Spread_scorePlace_104 (by decide) rfl ?_
        exact e_forget (ls' := [(2, ((b : Int) + 23)), (0, p1), (2, p2), (0, x3), (0, x4), (9, 0), (1, (-4611686018427387904)), (9, 0), (0, (gshl 1 x4)), (0, 0), (9, 0)]) ⟨Or.inr rfl, Or.inr rfl, Or.inr rfl, Or.inr rfl, Or.inr rfl, Or.inl rfl, Or.inr rfl, Or.inl rfl, Or.inr rfl, Or.inr rfl, Or.inl rfl, trivial⟩ h
      · have h := h.2 q16
        refine e_aload_n d_Spread_scorePlace_81 rfl ?_
        refine e_aload d_Spread_scorePlace_82 rfl ?_
        refine e_iload_n d_Spread_scorePlace_84 rfl ?_
        refine e_aload_n d_Spread_scorePlace_85 rfl ?_
        refine EV.inv fun hFf17 => ?_
        have f17 := (fx_ct 22 rfl hFf17).1
        refine e_callV m_Spread_scoreOf 7 lw_good d_Spread_scorePlace_86 (k_Spread_scoreOf _) ⟨Nat.le_of_ble_eq_true rfl, Nat.le_of_ble_eq_true rfl⟩ w_1192 w_1194 w_s36 (q_Spread _) rfl f17 (args := [(2, (G 3 (G 17 ((b : Int) + 24) 0) x4)), (0, p1), (2, p2)]) rfl rfl (Nat.le_of_ble_eq_true rfl) (kc' := kc) (ks' := ks) (mc := 0) (ms := 0) rfl rfl h ?_
        intro v18 G19 h
        refine e_goto (tgt := 95) d_Spread_scorePlace_89 (by decide) ?_
        refine e_lstore (ls' := [(2, ((b : Int) + 23)), (0, p1), (2, p2), (0, x3), (0, x4), (2, (G 3 (G 17 ((b : Int) + 24) 0) x4)), (1, v18), (9, 0), (9, 0), (9, 0), (9, 0)]) d_Spread_scorePlace_95 (by decide) rfl ?_
        refine e_iconst d_Spread_scorePlace_97 (by decide) ?_
        refine e_iload d_Spread_scorePlace_98 rfl ?_
        refine e_ishl d_Spread_scorePlace_100 ?_
        refine e_istore (ls' := [(2, ((b : Int) + 23)), (0, p1), (2, p2), (0, x3), (0, x4), (2, (G 3 (G 17 ((b : Int) + 24) 0) x4)), (1, v18), (9, 0), (0, (gshl 1 x4)), (9, 0), (9, 0)]) d_Spread_scorePlace_101 (by decide) rfl ?_
        refine e_iconst d_Spread_scorePlace_103 (by decide) ?_
        refine e_istore (ls' := [(2, ((b : Int) + 23)), (0, p1), (2, p2), (0, x3), (0, x4), (2, (G 3 (G 17 ((b : Int) + 24) 0) x4)), (1, v18), (9, 0), (0, (gshl 1 x4)), (0, 0), (9, 0)]) d_Spread_scorePlace_104 (by decide) rfl ?_
        exact e_forget (ls' := [(2, ((b : Int) + 23)), (0, p1), (2, p2), (0, x3), (0, x4), (9, 0), (1, v18), (9, 0), (0, (gshl 1 x4)), (0, 0), (9, 0)]) ⟨Or.inr rfl, Or.inr rfl, Or.inr rfl, Or.inr rfl, Or.inr rfl, Or.inl rfl, Or.inr rfl, Or.inl rfl, Or.inr rfl, Or.inr rfl, Or.inl rfl, trivial⟩ h
set_option maxRecDepth 20000 in
set_option maxHeartbeats 4000000 in
theorem sg_Spread_scorePlace_106 {e : gE} {b : Nat} {m : Int} {Z : Int → gH → Prop} {kc ks : Nat} {G : gH} {p1 p2 x3 x4 x6 x8 x9 : Int} (h : (x9 < x8 → (inI (x9 + x8)) ∧ ((x9 + x8) < 256 → (0 ≤ (x9 + x8) ∧ (x9 + x8) < 256) ∧ ((x3 < (G 1 ((b : Int) + 28) (x9 + x8)) → ∀ G15 : gH, G15 = gU G 2 ((b : Int) + 27) (x9 + x8) (-4611686018427387904) → (inI (x9 + 1)) ∧ EX e b m m_Spread_scorePlace Z kc ks 106 [(2, ((b : Int) + 23)), (0, p1), (2, p2), (0, x3), (0, x4), (9, 0), (1, x6), (9, 0), (0, x8), (0, (x9 + 1)), (9, 0)] [] G15) ∧ ((G 1 ((b : Int) + 28) (x9 + x8)) ≤ x3 → (0 ≤ x9 ∧ x9 < 256) ∧ (((G 2 ((b : Int) + 27) x9) = (-4611686018427387904) ∨ x6 = (-4611686018427387904) ∨ inL ((G 2 ((b : Int) + 27) x9) + x6)) ∧ (∀ G17 : gH, G17 = gU G 2 ((b : Int) + 27) (x9 + x8) (zsm (G 2 ((b : Int) + 27) x9) x6) → (inI (x9 + 1)) ∧ EX e b m m_Spread_scorePlace Z kc ks 106 [(2, ((b : Int) + 23)), (0, p1), (2, p2), (0, x3), (0, x4), (9, 0), (1, x6), (9, 0), (0, x8), (0, (x9 + 1)), (9, 0)] [] G17)))))) ∧ ((x8 ≤ x9 ∨ (x9 < x8 ∧ 256 ≤ (x9 + x8))) → (inI (x4 + 1)) ∧ EX e b m m_Spread_scorePlace Z kc ks 35 [(2, ((b : Int) + 23)), (0, p1), (2, p2), (0, x3), (0, (x4 + 1)), (9, 0), (9, 0), (9, 0), (9, 0), (9, 0), (9, 0)] [] G)) : EX e b m m_Spread_scorePlace Z kc ks 106 [(2, ((b : Int) + 23)), (0, p1), (2, p2), (0, x3), (0, x4), (9, 0), (1, x6), (9, 0), (0, x8), (0, x9), (9, 0)] [] G := by
  obtain ⟨h, hJ19⟩ := h
  have kJ19 : (x8 ≤ x9 ∨ (x9 < x8 ∧ 256 ≤ (x9 + x8))) → EX e b m m_Spread_scorePlace Z kc ks 184 [(2, ((b : Int) + 23)), (0, p1), (2, p2), (0, x3), (0, x4), (9, 0), (1, x6), (9, 0), (0, x8), (0, x9), (9, 0)] [] G := by
    intro rJ19
    have h := hJ19 rJ19
    obtain ⟨o20, h⟩ := h
    refine e_iinc (ls' := [(2, ((b : Int) + 23)), (0, p1), (2, p2), (0, x3), (0, (x4 + 1)), (9, 0), (1, x6), (9, 0), (0, x8), (0, x9), (9, 0)]) d_Spread_scorePlace_184 rfl (by decide) o20 rfl ?_
    refine e_goto (tgt := 35) d_Spread_scorePlace_187 (by decide) ?_
    exact e_forget (ls' := [(2, ((b : Int) + 23)), (0, p1), (2, p2), (0, x3), (0, (x4 + 1)), (9, 0), (9, 0), (9, 0), (9, 0), (9, 0), (9, 0)]) ⟨Or.inr rfl, Or.inr rfl, Or.inr rfl, Or.inr rfl, Or.inr rfl, Or.inl rfl, Or.inl rfl, Or.inl rfl, Or.inl rfl, Or.inl rfl, Or.inl rfl, trivial⟩ h
  refine e_iload d_Spread_scorePlace_106 rfl ?_
  refine e_iload d_Spread_scorePlace_108 rfl ?_
  refine e_icmp_ge (tgt := 184) d_Spread_scorePlace_110 (by decide) (fun q1 => ?_) (fun q2 => ?_)
  · exact kJ19 (Or.inl q1)
  · have h := h q2
    refine e_iload d_Spread_scorePlace_113 rfl ?_
    refine e_iload d_Spread_scorePlace_115 rfl ?_
    obtain ⟨o3, h⟩ := h
    refine e_iadd d_Spread_scorePlace_117 o3 ?_
    refine e_sipush d_Spread_scorePlace_118 (by decide) (by decide) ?_
    refine e_icmp_ge (tgt := 184) d_Spread_scorePlace_121 (by decide) (fun q4 => ?_) (fun q5 => ?_)
    · exact kJ19 (Or.inr ⟨q2, q4⟩)
    · have h := h q5
      refine e_aload_n d_Spread_scorePlace_124 rfl ?_
      refine gx_Spread_35 d_Spread_scorePlace_125 rfl ?_
      refine e_iload d_Spread_scorePlace_128 rfl ?_
      refine e_iload d_Spread_scorePlace_130 rfl ?_
      refine e_iadd d_Spread_scorePlace_132 o3 ?_
      obtain ⟨o6, h⟩ := h
      refine xC_iald 27 rfl d_Spread_scorePlace_133 o6 ?_
      refine e_iload_n d_Spread_scorePlace_134 rfl ?_
      refine e_icmp_gt (tgt := 142) d_Spread_scorePlace_135 (by decide) (fun q7 => ?_) (fun q8 => ?_)
      · have h := h.1 q7
        refine e_iconst d_Spread_scorePlace_142 (by decide) ?_
        refine e_istore (ls' := [(2, ((b : Int) + 23)), (0, p1), (2, p2), (0, x3), (0, x4), (9, 0), (1, x6), (9, 0), (0, x8), (0, x9), (0, 0)]) d_Spread_scorePlace_143 (by decide) rfl ?_
        refine e_aload_n d_Spread_scorePlace_145 rfl ?_
        refine gx_Spread_32 d_Spread_scorePlace_146 rfl ?_
        refine e_iload d_Spread_scorePlace_149 rfl ?_
        refine e_iload d_Spread_scorePlace_151 rfl ?_
        refine e_iadd d_Spread_scorePlace_153 o3 ?_
        refine e_iload d_Spread_scorePlace_154 rfl ?_
        refine e_if_eq (tgt := 174) d_Spread_scorePlace_156 (by decide) (fun q9 => ?_) (fun q10 => ?_)
        · refine e_ldc2 (-4611686018427387904) d_Spread_scorePlace_174 (by decide) (by have h9 := w_1211; rw [show (-4611686018427387904 : Int64) = Int64.ofInt (-4611686018427387904) from by decide] at h9; exact h9) ?_
          refine xC_last 26 rfl d_Spread_scorePlace_177 o6 ?_
          let G15 : gH := gU G 2 ((b : Int) + 27) (x9 + x8) (-4611686018427387904)
          have h := h G15 rfl
          obtain ⟨o16, h⟩ := h
          refine e_iinc (ls' := [(2, ((b : Int) + 23)), (0, p1), (2, p2), (0, x3), (0, x4), (9, 0), (1, x6), (9, 0), (0, x8), (0, (x9 + 1)), (0, 0)]) d_Spread_scorePlace_178 rfl (by decide) o16 rfl ?_
          refine e_goto (tgt := 106) d_Spread_scorePlace_181 (by decide) ?_
          exact e_forget (ls' := [(2, ((b : Int) + 23)), (0, p1), (2, p2), (0, x3), (0, x4), (9, 0), (1, x6), (9, 0), (0, x8), (0, (x9 + 1)), (9, 0)]) ⟨Or.inr rfl, Or.inr rfl, Or.inr rfl, Or.inr rfl, Or.inr rfl, Or.inl rfl, Or.inr rfl, Or.inl rfl, Or.inr rfl, Or.inr rfl, Or.inl rfl, trivial⟩ h
        · exact absurd q10 (by decide)
      · have h := h.2 q8
        refine e_iconst d_Spread_scorePlace_138 (by decide) ?_
        refine e_goto (tgt := 143) d_Spread_scorePlace_139 (by decide) ?_
        refine e_istore (ls' := [(2, ((b : Int) + 23)), (0, p1), (2, p2), (0, x3), (0, x4), (9, 0), (1, x6), (9, 0), (0, x8), (0, x9), (0, 1)]) d_Spread_scorePlace_143 (by decide) rfl ?_
        refine e_aload_n d_Spread_scorePlace_145 rfl ?_
        refine gx_Spread_32 d_Spread_scorePlace_146 rfl ?_
        refine e_iload d_Spread_scorePlace_149 rfl ?_
        refine e_iload d_Spread_scorePlace_151 rfl ?_
        refine e_iadd d_Spread_scorePlace_153 o3 ?_
        refine e_iload d_Spread_scorePlace_154 rfl ?_
        refine e_if_eq (tgt := 174) d_Spread_scorePlace_156 (by decide) (fun q11 => ?_) (fun q12 => ?_)
        · exact absurd q11 (by decide)
        · refine e_aload_n d_Spread_scorePlace_159 rfl ?_
          refine gx_Spread_32 d_Spread_scorePlace_160 rfl ?_
          refine e_iload d_Spread_scorePlace_163 rfl ?_
          obtain ⟨o13, h⟩ := h
          refine xC_lald 26 rfl d_Spread_scorePlace_165 o13 ?_
          refine e_lload d_Spread_scorePlace_166 rfl ?_
          obtain ⟨o14, h⟩ := h
          refine e_callS m_Sets_sum lw_good d_Spread_scorePlace_168 (k_Sets_sum _) ⟨Nat.le_of_ble_eq_true rfl, Nat.le_of_ble_eq_true rfl⟩ w_1212 w_736 (args := [(1, (G 2 ((b : Int) + 27) x9)), (1, x6)]) rfl rfl (Nat.le_of_ble_eq_true rfl) (kc' := kc) (ks' := ks) (mc := 0) (ms := 0) rfl rfl (c_Sets_sum o14) (pureK ?_)
          refine e_goto (tgt := 177) d_Spread_scorePlace_171 (by decide) ?_
          refine xC_last 26 rfl d_Spread_scorePlace_177 o6 ?_
          let G17 : gH := gU G 2 ((b : Int) + 27) (x9 + x8) (zsm (G 2 ((b : Int) + 27) x9) x6)
          have h := h G17 rfl
          obtain ⟨o18, h⟩ := h
          refine e_iinc (ls' := [(2, ((b : Int) + 23)), (0, p1), (2, p2), (0, x3), (0, x4), (9, 0), (1, x6), (9, 0), (0, x8), (0, (x9 + 1)), (0, 1)]) d_Spread_scorePlace_178 rfl (by decide) o18 rfl ?_
          refine e_goto (tgt := 106) d_Spread_scorePlace_181 (by decide) ?_
          exact e_forget (ls' := [(2, ((b : Int) + 23)), (0, p1), (2, p2), (0, x3), (0, x4), (9, 0), (1, x6), (9, 0), (0, x8), (0, (x9 + 1)), (9, 0)]) ⟨Or.inr rfl, Or.inr rfl, Or.inr rfl, Or.inr rfl, Or.inr rfl, Or.inl rfl, Or.inr rfl, Or.inl rfl, Or.inr rfl, Or.inr rfl, Or.inl rfl, trivial⟩ h
set_option maxRecDepth 20000 in
set_option maxHeartbeats 4000000 in
theorem sg_Spread_scoreGroup_0 {e : gE} {b : Nat} {m : Int} {Z : Int → gH → Prop} {kc ks : Nat} {G : gH} {p1 : Int} (h : GX e b m m_Sets_clear [(2, ((b : Int) + 26))] G 0 0 (fun _ G2 => EX e b m m_Spread_scoreGroup Z kc ks 9 [(2, ((b : Int) + 23)), (0, p1), (0, 0), (9, 0)] [] G2)) : EX e b m m_Spread_scoreGroup Z kc ks 0 [(2, ((b : Int) + 23)), (0, p1), (9, 0), (9, 0)] [] G := by
  refine e_aload_n d_Spread_scoreGroup_0 rfl ?_
  refine gx_Spread_29 d_Spread_scoreGroup_1 rfl ?_
  refine e_callS m_Sets_clear lw_good d_Spread_scoreGroup_4 (k_Sets_clear _) ⟨Nat.le_of_ble_eq_true rfl, Nat.le_of_ble_eq_true rfl⟩ w_1178 w_692 (args := [(2, ((b : Int) + 26))]) rfl rfl (Nat.le_of_ble_eq_true rfl) (kc' := kc) (ks' := ks) (mc := 0) (ms := 0) rfl rfl h ?_
  intro v1 G2 h
  refine e_iconst d_Spread_scoreGroup_7 (by decide) ?_
  refine e_istore_n (ls' := [(2, ((b : Int) + 23)), (0, p1), (0, 0), (9, 0)]) d_Spread_scoreGroup_8 (by decide) rfl ?_
  exact e_forget (ls' := [(2, ((b : Int) + 23)), (0, p1), (0, 0), (9, 0)]) ⟨Or.inr rfl, Or.inr rfl, Or.inr rfl, Or.inl rfl, trivial⟩ h
set_option maxRecDepth 20000 in
set_option maxHeartbeats 4000000 in
theorem sg_Spread_scoreGroup_9 {e : gE} {b : Nat} {m : Int} {Z : Int → gH → Prop} {kc ks : Nat} {G : gH} {p1 x2 : Int} (h : ((G 0 ((b : Int) + 19) 0 = 1) ∧ (((G 18 ((b : Int) + 19) 0) ≤ x2 → EX e b m m_Spread_scoreGroup Z kc ks 70 [(2, ((b : Int) + 23)), (0, p1), (0, 0), (9, 0)] [] G) ∧ (x2 < (G 18 ((b : Int) + 19) 0) → (0 ≤ G 18 ((b : Int) + 19) 0 ∧ G 18 ((b : Int) + 19) 0 ≤ 5) ∧ ((0 ≤ x2 ∧ x2 < G 18 ((b : Int) + 19) 0 → G 0 (G 17 ((b : Int) + 19) 0) 0 = 103 ∧ G 18 ((b : Int) + 19) 0 ≤ G 0 (G 17 ((b : Int) + 19) 0) 1 ∧ G 0 (G 3 (G 17 ((b : Int) + 19) 0) x2) 0 = 5) ∧ (((if 0 ≤ x2 ∧ x2 < G 18 ((b : Int) + 19) 0 then G 3 (G 17 ((b : Int) + 19) 0) x2 else 0) ≠ 0) → (G 0 (if 0 ≤ x2 ∧ x2 < G 18 ((b : Int) + 19) 0 then G 3 (G 17 ((b : Int) + 19) 0) x2 else 0) 0 = 5) ∧ ((G 0 (if 0 ≤ x2 ∧ x2 < G 18 ((b : Int) + 19) 0 then G 3 (G 17 ((b : Int) + 19) 0) x2 else 0) 0 = 5) ∧ (((G 273 (if 0 ≤ x2 ∧ x2 < G 18 ((b : Int) + 19) 0 then G 3 (G 17 ((b : Int) + 19) 0) x2 else 0) 0) = p1) → GX e b m m_Spread_scorePlace [(2, ((b : Int) + 23)), (0, x2), (2, (if 0 ≤ x2 ∧ x2 < G 18 ((b : Int) + 19) 0 then G 3 (G 17 ((b : Int) + 19) 0) x2 else 0))] G 0 0 (fun _ G16 => GX e b m m_Spread_sets [(2, ((b : Int) + 23))] G16 0 0 (fun v18 G19 => GX e b m m_Sets_join [(2, ((b : Int) + 26)), (2, ((b : Int) + 27)), (0, v18)] G19 0 0 (fun _ G21 => (inI (x2 + 1)) ∧ EX e b m m_Spread_scoreGroup Z kc ks 9 [(2, ((b : Int) + 23)), (0, p1), (0, (x2 + 1)), (9, 0)] [] G21)))))))))) ∧ (((x2 < (G 18 ((b : Int) + 19) 0) ∧ ((if 0 ≤ x2 ∧ x2 < G 18 ((b : Int) + 19) 0 then G 3 (G 17 ((b : Int) + 19) 0) x2 else 0) = 0)) ∨ (x2 < (G 18 ((b : Int) + 19) 0) ∧ ((if 0 ≤ x2 ∧ x2 < G 18 ((b : Int) + 19) 0 then G 3 (G 17 ((b : Int) + 19) 0) x2 else 0) ≠ 0) ∧ ((G 273 (if 0 ≤ x2 ∧ x2 < G 18 ((b : Int) + 19) 0 then G 3 (G 17 ((b : Int) + 19) 0) x2 else 0) 0) ≠ p1))) → (inI (x2 + 1)) ∧ EX e b m m_Spread_scoreGroup Z kc ks 9 [(2, ((b : Int) + 23)), (0, p1), (0, (x2 + 1)), (9, 0)] [] G)) : EX e b m m_Spread_scoreGroup Z kc ks 9 [(2, ((b : Int) + 23)), (0, p1), (0, x2), (9, 0)] [] G := by
  obtain ⟨h, hJ23⟩ := h
  have kJ23 : ((x2 < (G 18 ((b : Int) + 19) 0) ∧ ((if 0 ≤ x2 ∧ x2 < G 18 ((b : Int) + 19) 0 then G 3 (G 17 ((b : Int) + 19) 0) x2 else 0) = 0)) ∨ (x2 < (G 18 ((b : Int) + 19) 0) ∧ ((if 0 ≤ x2 ∧ x2 < G 18 ((b : Int) + 19) 0 then G 3 (G 17 ((b : Int) + 19) 0) x2 else 0) ≠ 0) ∧ ((G 273 (if 0 ≤ x2 ∧ x2 < G 18 ((b : Int) + 19) 0 then G 3 (G 17 ((b : Int) + 19) 0) x2 else 0) 0) ≠ p1))) → EX e b m m_Spread_scoreGroup Z kc ks 62 [(2, ((b : Int) + 23)), (0, p1), (0, x2), (2, (if 0 ≤ x2 ∧ x2 < G 18 ((b : Int) + 19) 0 then G 3 (G 17 ((b : Int) + 19) 0) x2 else 0))] [] G := by
    intro rJ23
    have h := hJ23 rJ23
    obtain ⟨o24, h⟩ := h
    refine e_iinc (ls' := [(2, ((b : Int) + 23)), (0, p1), (0, (x2 + 1)), (2, (if 0 ≤ x2 ∧ x2 < G 18 ((b : Int) + 19) 0 then G 3 (G 17 ((b : Int) + 19) 0) x2 else 0))]) d_Spread_scoreGroup_62 rfl (by decide) o24 rfl ?_
    refine e_goto (tgt := 9) d_Spread_scoreGroup_65 (by decide) ?_
    exact e_forget (ls' := [(2, ((b : Int) + 23)), (0, p1), (0, (x2 + 1)), (9, 0)]) ⟨Or.inr rfl, Or.inr rfl, Or.inr rfl, Or.inl rfl, trivial⟩ h
  refine e_iload_n d_Spread_scoreGroup_9 rfl ?_
  refine e_aload_n d_Spread_scoreGroup_10 rfl ?_
  refine gx_Spread_15 d_Spread_scoreGroup_11 rfl ?_
  refine EV.inv fun hFf1 => ?_
  have f1 := (fx_ct 17 rfl hFf1).1
  obtain ⟨o2, h⟩ := h
  refine e_callV m_Years_placeCount 10 lw_good d_Spread_scoreGroup_14 (k_Years_placeCount _) ⟨Nat.le_of_ble_eq_true rfl, Nat.le_of_ble_eq_true rfl⟩ w_1183 w_1014 w_1015 (q_Years _) rfl f1 (args := []) rfl rfl (Nat.le_of_ble_eq_true rfl) (kc' := kc) (ks' := ks) (mc := 0) (ms := 0) rfl rfl (c_Years_placeCount o2) (pureK ?_)
  refine e_icmp_ge (tgt := 68) d_Spread_scoreGroup_17 (by decide) (fun q3 => ?_) (fun q4 => ?_)
  · have h := h.1 q3
    refine e_iconst d_Spread_scoreGroup_68 (by decide) ?_
    refine e_istore_n (ls' := [(2, ((b : Int) + 23)), (0, p1), (0, 0), (9, 0)]) d_Spread_scoreGroup_69 (by decide) rfl ?_
    exact e_forget (ls' := [(2, ((b : Int) + 23)), (0, p1), (0, 0), (9, 0)]) ⟨Or.inr rfl, Or.inr rfl, Or.inr rfl, Or.inl rfl, trivial⟩ h
  · have h := h.2 q4
    refine e_aload_n d_Spread_scoreGroup_20 rfl ?_
    refine gx_Spread_15 d_Spread_scoreGroup_21 rfl ?_
    refine e_iload_n d_Spread_scoreGroup_24 rfl ?_
    refine EV.inv fun hFf5 => ?_
    have f5 := (fx_ct 17 rfl hFf5).1
    obtain ⟨o6, o7, h⟩ := h
    refine e_callV m_Years_placeAt 10 lw_good d_Spread_scoreGroup_25 (k_Years_placeAt _) ⟨Nat.le_of_ble_eq_true rfl, Nat.le_of_ble_eq_true rfl⟩ w_1147 w_1049 w_1050 (q_Years _) rfl f5 (args := [(0, x2)]) rfl rfl (Nat.le_of_ble_eq_true rfl) (kc' := kc) (ks' := ks) (mc := 0) (ms := 0) rfl rfl (c_Years_placeAt o6 o2 o7) (pureK ?_)
    refine e_astore_n (ls' := [(2, ((b : Int) + 23)), (0, p1), (0, x2), (2, (if 0 ≤ x2 ∧ x2 < G 18 ((b : Int) + 19) 0 then G 3 (G 17 ((b : Int) + 19) 0) x2 else 0))]) d_Spread_scoreGroup_28 (by decide) rfl ?_
    refine e_aload_n d_Spread_scoreGroup_29 rfl ?_
    refine e_ifnull (tgt := 62) d_Spread_scoreGroup_30 (by decide) (fun q8 => ?_) (fun q9 => ?_)
    · exact kJ23 (Or.inl ⟨q4, q8⟩)
    · have h := h q9
      refine e_aload_n d_Spread_scoreGroup_33 rfl ?_
      obtain ⟨o10, o11, h⟩ := h
      refine e_callV m_Place_group 4 lw_good d_Spread_scoreGroup_34 (k_Place_group _) ⟨Nat.le_of_ble_eq_true rfl, Nat.le_of_ble_eq_true rfl⟩ w_1169 w_1170 w_1171 (q_Place _) rfl o10 (args := []) rfl rfl (Nat.le_of_ble_eq_true rfl) (kc' := kc) (ks' := ks) (mc := 0) (ms := 0) rfl rfl (c_Place_group o11) (pureK ?_)
      refine e_iload_n d_Spread_scoreGroup_37 rfl ?_
      refine e_icmp_ne (tgt := 62) d_Spread_scoreGroup_38 (by decide) (fun q12 => ?_) (fun q13 => ?_)
      · exact kJ23 (Or.inr ⟨q4, q9, q12⟩)
      · have h := h q13
        refine e_aload_n d_Spread_scoreGroup_41 rfl ?_
        refine e_iload_n d_Spread_scoreGroup_42 rfl ?_
        refine e_aload_n d_Spread_scoreGroup_43 rfl ?_
        refine EV.inv fun hFf14 => ?_
        have f14 := (fx_ct 22 rfl hFf14).1
        refine e_callV m_Spread_scorePlace 7 lw_good d_Spread_scoreGroup_44 (k_Spread_scorePlace _) ⟨Nat.le_of_ble_eq_true rfl, Nat.le_of_ble_eq_true rfl⟩ w_1184 w_1186 w_s35 (q_Spread _) rfl f14 (args := [(0, x2), (2, (if 0 ≤ x2 ∧ x2 < G 18 ((b : Int) + 19) 0 then G 3 (G 17 ((b : Int) + 19) 0) x2 else 0))]) rfl rfl (Nat.le_of_ble_eq_true rfl) (kc' := kc) (ks' := ks) (mc := 0) (ms := 0) rfl rfl h ?_
        intro v15 G16 h
        refine e_aload_n d_Spread_scoreGroup_47 rfl ?_
        refine gx_Spread_29 d_Spread_scoreGroup_48 rfl ?_
        refine e_aload_n d_Spread_scoreGroup_51 rfl ?_
        refine gx_Spread_32 d_Spread_scoreGroup_52 rfl ?_
        refine e_aload_n d_Spread_scoreGroup_55 rfl ?_
        refine EV.inv fun hFf17 => ?_
        have f17 := (fx_ct 22 rfl hFf17).1
        refine e_callV m_Spread_sets 7 lw_good d_Spread_scoreGroup_56 (k_Spread_sets _) ⟨Nat.le_of_ble_eq_true rfl, Nat.le_of_ble_eq_true rfl⟩ w_1213 w_1215 w_s37 (q_Spread _) rfl f17 (args := []) rfl rfl (Nat.le_of_ble_eq_true rfl) (kc' := kc) (ks' := ks) (mc := 0) (ms := 0) rfl rfl h ?_
        intro v18 G19 h
        refine e_callS m_Sets_join lw_good d_Spread_scoreGroup_59 (k_Sets_join _) ⟨Nat.le_of_ble_eq_true rfl, Nat.le_of_ble_eq_true rfl⟩ w_1218 w_739 (args := [(2, ((b : Int) + 26)), (2, ((b : Int) + 27)), (0, v18)]) rfl rfl (Nat.le_of_ble_eq_true rfl) (kc' := kc) (ks' := ks) (mc := 0) (ms := 0) rfl rfl h ?_
        intro v20 G21 h
        obtain ⟨o22, h⟩ := h
        refine e_iinc (ls' := [(2, ((b : Int) + 23)), (0, p1), (0, (x2 + 1)), (2, (if 0 ≤ x2 ∧ x2 < G 18 ((b : Int) + 19) 0 then G 3 (G 17 ((b : Int) + 19) 0) x2 else 0))]) d_Spread_scoreGroup_62 rfl (by decide) o22 rfl ?_
        refine e_goto (tgt := 9) d_Spread_scoreGroup_65 (by decide) ?_
        exact e_forget (ls' := [(2, ((b : Int) + 23)), (0, p1), (0, (x2 + 1)), (9, 0)]) ⟨Or.inr rfl, Or.inr rfl, Or.inr rfl, Or.inl rfl, trivial⟩ h
set_option maxRecDepth 20000 in
set_option maxHeartbeats 4000000 in
theorem sg_Spread_scoreGroup_70 {e : gE} {b : Nat} {m : Int} {Z : Int → gH → Prop} {kc ks : Nat} {G : gH} {p1 x2 : Int} (h : (4 ≤ x2 → Z 0 G) ∧ (x2 < 4 → GX e b m m_Spread_mostIn [(2, ((b : Int) + 23)), (0, p1), (0, x2)] G 0 0 (fun v4 G5 => (0 ≤ x2 ∧ x2 < 4) ∧ GX e b m m_Spread_strikeAbove [(2, ((b : Int) + 23)), (0, v4), (0, (G5 1 ((b : Int) + 29) x2))] G5 0 0 (fun _ G9 => (inI (x2 + 1)) ∧ EX e b m m_Spread_scoreGroup Z kc ks 70 [(2, ((b : Int) + 23)), (0, p1), (0, (x2 + 1)), (9, 0)] [] G9)))) : EX e b m m_Spread_scoreGroup Z kc ks 70 [(2, ((b : Int) + 23)), (0, p1), (0, x2), (9, 0)] [] G := by
  refine e_iload_n d_Spread_scoreGroup_70 rfl ?_
  refine e_iconst d_Spread_scoreGroup_71 (by decide) ?_
  refine e_icmp_ge (tgt := 97) d_Spread_scoreGroup_72 (by decide) (fun q1 => ?_) (fun q2 => ?_)
  · have h := h.1 q1
    exact e_vret d_Spread_scoreGroup_97 rfl h
  · have h := h.2 q2
    refine e_aload_n d_Spread_scoreGroup_75 rfl ?_
    refine e_aload_n d_Spread_scoreGroup_76 rfl ?_
    refine e_iload_n d_Spread_scoreGroup_77 rfl ?_
    refine e_iload_n d_Spread_scoreGroup_78 rfl ?_
    refine EV.inv fun hFf3 => ?_
    have f3 := (fx_ct 22 rfl hFf3).1
    refine e_callV m_Spread_mostIn 7 lw_good d_Spread_scoreGroup_79 (k_Spread_mostIn _) ⟨Nat.le_of_ble_eq_true rfl, Nat.le_of_ble_eq_true rfl⟩ w_1219 w_1221 w_s38 (q_Spread _) rfl f3 (args := [(0, p1), (0, x2)]) rfl rfl (Nat.le_of_ble_eq_true rfl) (kc' := kc) (ks' := ks) (mc := 0) (ms := 0) rfl rfl h ?_
    intro v4 G5 h
    refine e_aload_n d_Spread_scoreGroup_82 rfl ?_
    refine gx_Spread_39 d_Spread_scoreGroup_83 rfl ?_
    refine e_iload_n d_Spread_scoreGroup_86 rfl ?_
    obtain ⟨o6, h⟩ := h
    refine xC_iald 28 rfl d_Spread_scoreGroup_87 o6 ?_
    refine EV.inv fun hFf7 => ?_
    have f7 := (fx_ct 22 rfl hFf7).1
    refine e_callV m_Spread_strikeAbove 7 lw_good d_Spread_scoreGroup_88 (k_Spread_strikeAbove _) ⟨Nat.le_of_ble_eq_true rfl, Nat.le_of_ble_eq_true rfl⟩ w_1224 w_1226 w_s39 (q_Spread _) rfl f7 (args := [(0, v4), (0, (G5 1 ((b : Int) + 29) x2))]) rfl rfl (Nat.le_of_ble_eq_true rfl) (kc' := kc) (ks' := ks) (mc := 0) (ms := 0) rfl rfl h ?_
    intro v8 G9 h
    obtain ⟨o10, h⟩ := h
    refine e_iinc (ls' := [(2, ((b : Int) + 23)), (0, p1), (0, (x2 + 1)), (9, 0)]) d_Spread_scoreGroup_91 rfl (by decide) o10 rfl ?_
    refine e_goto (tgt := 70) d_Spread_scoreGroup_94 (by decide) ?_
    exact e_forget (ls' := [(2, ((b : Int) + 23)), (0, p1), (0, (x2 + 1)), (9, 0)]) ⟨Or.inr rfl, Or.inr rfl, Or.inr rfl, Or.inl rfl, trivial⟩ h
set_option maxRecDepth 20000 in
set_option maxHeartbeats 4000000 in
theorem sg_Spread_scoreFound_0 {e : gE} {b : Nat} {m : Int} {Z : Int → gH → Prop} {kc ks : Nat} {G : gH} (h : GX e b m m_Spread_sets [(2, ((b : Int) + 23))] G 0 0 (fun v2 G3 => ((¬ (1 ≤ v2 ∧ v2 ≤ 256)) → Z (-4611686018427387904) G3) ∧ ((1 ≤ v2 ∧ v2 ≤ 256) → GX e b m m_Spread_sets [(2, ((b : Int) + 23))] G3 0 0 (fun v7 G8 => (inI (v7 - 1)) ∧ (0 ≤ (v7 - 1) ∧ (v7 - 1) < 256) ∧ Z (G8 2 ((b : Int) + 25) (v7 - 1)) G8)))) : EX e b m m_Spread_scoreFound Z kc ks 0 [(2, ((b : Int) + 23))] [] G := by
  refine e_aload_n d_Spread_scoreFound_0 rfl ?_
  refine EV.inv fun hFf1 => ?_
  have f1 := (fx_ct 22 rfl hFf1).1
  refine e_callV m_Spread_sets 7 lw_good d_Spread_scoreFound_1 (k_Spread_sets _) ⟨Nat.le_of_ble_eq_true rfl, Nat.le_of_ble_eq_true rfl⟩ w_1213 w_1215 w_s37 (q_Spread _) rfl f1 (args := []) rfl rfl (Nat.le_of_ble_eq_true rfl) (kc' := kc) (ks' := ks) (mc := 0) (ms := 0) rfl rfl h ?_
  intro v2 G3 h
  refine e_iconst d_Spread_scoreFound_4 (by decide) ?_
  refine e_sipush d_Spread_scoreFound_5 (by decide) (by decide) ?_
  refine e_callSN m_C_within "MuseumFlight" lw_good d_Spread_scoreFound_8 (k_C_within _) ⟨Nat.le_of_ble_eq_true rfl, Nat.le_of_ble_eq_true rfl⟩ w_1142 w_295 (args := [(0, v2), (0, 1), (0, 256)]) rfl rfl (Nat.le_of_ble_eq_true rfl) (kc' := kc) (ks' := ks) (mc := 0) (ms := 0) rfl rfl (c_C_within) (pureK ?_)
  refine e_if_eq (tgt := 28) d_Spread_scoreFound_11 (by decide) (fun q4 => ?_) (fun q5 => ?_)
  · replace q4 := gb0.mp q4
    have h := h.1 q4
    refine e_ldc2 (-4611686018427387904) d_Spread_scoreFound_28 (by decide) (by have h9 := w_1211; rw [show (-4611686018427387904 : Int64) = Int64.ofInt (-4611686018427387904) from by decide] at h9; exact h9) ?_
    exact e_lret d_Spread_scoreFound_31 rfl h
  · replace q5 := gb1.mp q5
    have h := h.2 q5
    refine e_aload_n d_Spread_scoreFound_14 rfl ?_
    refine gx_Spread_25 d_Spread_scoreFound_15 rfl ?_
    refine e_aload_n d_Spread_scoreFound_18 rfl ?_
    refine EV.inv fun hFf6 => ?_
    have f6 := (fx_ct 22 rfl hFf6).1
    refine e_callV m_Spread_sets 7 lw_good d_Spread_scoreFound_19 (k_Spread_sets _) ⟨Nat.le_of_ble_eq_true rfl, Nat.le_of_ble_eq_true rfl⟩ w_1213 w_1215 w_s37 (q_Spread _) rfl f6 (args := []) rfl rfl (Nat.le_of_ble_eq_true rfl) (kc' := kc) (ks' := ks) (mc := 0) (ms := 0) rfl rfl h ?_
    intro v7 G8 h
    refine e_iconst d_Spread_scoreFound_22 (by decide) ?_
    obtain ⟨o9, h⟩ := h
    refine e_isub d_Spread_scoreFound_23 o9 ?_
    obtain ⟨o10, h⟩ := h
    refine xC_lald 24 rfl d_Spread_scoreFound_24 o10 ?_
    refine e_goto (tgt := 31) d_Spread_scoreFound_25 (by decide) ?_
    exact e_lret d_Spread_scoreFound_31 rfl h
set_option maxRecDepth 20000 in
set_option maxHeartbeats 4000000 in
theorem sg_Spread_find_0 {e : gE} {b : Nat} {m : Int} {Z : Int → gH → Prop} {kc ks : Nat} {G : gH} (h : ∃ kc4 ks5 mc6 ms7 : Nat, kc = kc4 + mc6 ∧ ks = ks5 + ms7 ∧ GX e b m m_Spread_gather [(2, ((b : Int) + 23))] G mc6 ms7 (fun _ G3 => (G3 0 ((b : Int) + 24) 0 = 1) ∧ (((G3 18 ((b : Int) + 24) 0) ≤ 8 → GX e b m m_Spread_noteMovers [(2, ((b : Int) + 23))] G3 0 0 (fun _ G14 => GX e b m m_Sets_clear [(2, ((b : Int) + 25))] G14 0 0 (fun _ G16 => EX e b m m_Spread_find Z kc4 ks5 32 [(2, ((b : Int) + 23)), (0, 0), (9, 0)] [] G16))) ∧ (8 < (G3 18 ((b : Int) + 24) 0) → Z (-7) G3)))) : EX e b m m_Spread_find Z kc ks 0 [(2, ((b : Int) + 23)), (9, 0), (9, 0)] [] G := by
  refine e_aload_n d_Spread_find_0 rfl ?_
  refine EV.inv fun hFf1 => ?_
  have f1 := (fx_ct 22 rfl hFf1).1
  obtain ⟨kc4, ks5, mc6, ms7, hkc4, hks5, h⟩ := h
  refine e_callV m_Spread_gather 7 lw_good d_Spread_find_1 (k_Spread_gather _) ⟨Nat.le_of_ble_eq_true rfl, Nat.le_of_ble_eq_true rfl⟩ w_1124 w_1126 w_s30 (q_Spread _) rfl f1 (args := []) rfl rfl (Nat.le_of_ble_eq_true rfl) (kc' := kc4) (ks' := ks5) (mc := mc6) (ms := ms7) hkc4 hks5 h ?_
  intro v2 G3 h
  refine e_aload_n d_Spread_find_4 rfl ?_
  refine gx_Spread_22 d_Spread_find_5 rfl ?_
  refine EV.inv fun hFf8 => ?_
  have f8 := (fx_ct 23 rfl hFf8).1
  obtain ⟨o9, h⟩ := h
  refine e_callV m_AL_size 0 lw_good d_Spread_find_8 (k_AL_size _) ⟨Nat.le_of_ble_eq_true rfl, Nat.le_of_ble_eq_true rfl⟩ w_1130 w_330 w_331 (q_AL _) rfl f8 (args := []) rfl rfl (Nat.le_of_ble_eq_true rfl) (kc' := kc4) (ks' := ks5) (mc := 0) (ms := 0) rfl rfl (c_AL_size o9) (pureK ?_)
  refine e_bipush d_Spread_find_11 (by decide) (by decide) ?_
  refine e_icmp_le (tgt := 19) d_Spread_find_13 (by decide) (fun q10 => ?_) (fun q11 => ?_)
  · have h := h.1 q10
    refine e_aload_n d_Spread_find_19 rfl ?_
    refine EV.inv fun hFf12 => ?_
    have f12 := (fx_ct 22 rfl hFf12).1
    refine e_callV m_Spread_noteMovers 7 lw_good d_Spread_find_20 (k_Spread_noteMovers _) ⟨Nat.le_of_ble_eq_true rfl, Nat.le_of_ble_eq_true rfl⟩ w_1174 w_1176 w_s33 (q_Spread _) rfl f12 (args := []) rfl rfl (Nat.le_of_ble_eq_true rfl) (kc' := kc4) (ks' := ks5) (mc := 0) (ms := 0) rfl rfl h ?_
    intro v13 G14 h
    refine e_aload_n d_Spread_find_23 rfl ?_
    refine gx_Spread_25 d_Spread_find_24 rfl ?_
    refine e_callS m_Sets_clear lw_good d_Spread_find_27 (k_Sets_clear _) ⟨Nat.le_of_ble_eq_true rfl, Nat.le_of_ble_eq_true rfl⟩ w_1178 w_692 (args := [(2, ((b : Int) + 25))]) rfl rfl (Nat.le_of_ble_eq_true rfl) (kc' := kc4) (ks' := ks5) (mc := 0) (ms := 0) rfl rfl h ?_
    intro v15 G16 h
    refine e_iconst d_Spread_find_30 (by decide) ?_
    refine e_istore_n (ls' := [(2, ((b : Int) + 23)), (0, 0), (9, 0)]) d_Spread_find_31 (by decide) rfl ?_
    exact e_forget (ls' := [(2, ((b : Int) + 23)), (0, 0), (9, 0)]) ⟨Or.inr rfl, Or.inr rfl, Or.inl rfl, trivial⟩ h
  · have h := h.2 q11
    refine e_bipush d_Spread_find_16 (by decide) (by decide) ?_
    exact e_iret d_Spread_find_18 rfl h
set_option maxRecDepth 20000 in
set_option maxHeartbeats 4000000 in
theorem sg_Spread_find_32 {e : gE} {b : Nat} {m : Int} {Z : Int → gH → Prop} {kc ks : Nat} {G : gH} {x1 : Int} (h : (4 ≤ x1 → GX e b m m_Spread_scoreFound [(2, ((b : Int) + 23))] G 0 0 (fun v4 G5 => (v4 ≠ (-4611686018427387904) → (inL (-v4)) ∧ Z (w32 (glshr (-v4) 48)) G5) ∧ (v4 = (-4611686018427387904) → Z (-6) G5))) ∧ (x1 < 4 → GX e b m m_Spread_scoreGroup [(2, ((b : Int) + 23)), (0, x1)] G 0 0 (fun _ G11 => GX e b m m_Spread_sets [(2, ((b : Int) + 23))] G11 0 0 (fun v13 G14 => GX e b m m_Sets_join [(2, ((b : Int) + 25)), (2, ((b : Int) + 26)), (0, v13)] G14 0 0 (fun _ G16 => (inI (x1 + 1)) ∧ EX e b m m_Spread_find Z kc ks 32 [(2, ((b : Int) + 23)), (0, (x1 + 1)), (9, 0)] [] G16))))) : EX e b m m_Spread_find Z kc ks 32 [(2, ((b : Int) + 23)), (0, x1), (9, 0)] [] G := by
  refine e_iload_n d_Spread_find_32 rfl ?_
  refine e_iconst d_Spread_find_33 (by decide) ?_
  refine e_icmp_ge (tgt := 63) d_Spread_find_34 (by decide) (fun q1 => ?_) (fun q2 => ?_)
  · have h := h.1 q1
    refine e_aload_n d_Spread_find_63 rfl ?_
    refine EV.inv fun hFf3 => ?_
    have f3 := (fx_ct 22 rfl hFf3).1
    refine e_callV m_Spread_scoreFound 7 lw_good d_Spread_find_64 (k_Spread_scoreFound _) ⟨Nat.le_of_ble_eq_true rfl, Nat.le_of_ble_eq_true rfl⟩ w_1234 w_1236 w_s40 (q_Spread _) rfl f3 (args := []) rfl rfl (Nat.le_of_ble_eq_true rfl) (kc' := kc) (ks' := ks) (mc := 0) (ms := 0) rfl rfl h ?_
    intro v4 G5 h
    refine e_lstore_n (ls' := [(2, ((b : Int) + 23)), (1, v4), (9, 0)]) d_Spread_find_67 (by decide) rfl ?_
    refine e_lload_n d_Spread_find_68 rfl ?_
    refine e_ldc2 (-4611686018427387904) d_Spread_find_69 (by decide) (by have h9 := w_1211; rw [show (-4611686018427387904 : Int64) = Int64.ofInt (-4611686018427387904) from by decide] at h9; exact h9) ?_
    refine e_lcmp_ne (tgt := 81) d_Spread_find_72 d_Spread_find_73 (by decide) (fun q6 => ?_) (fun q7 => ?_)
    · have h := h.1 q6
      refine e_lload_n d_Spread_find_81 rfl ?_
      obtain ⟨o8, h⟩ := h
      refine e_lneg d_Spread_find_82 o8 ?_
      refine e_bipush d_Spread_find_83 (by decide) (by decide) ?_
      refine e_lshr d_Spread_find_85 ?_
      refine e_l2i d_Spread_find_86 ?_
      exact e_iret d_Spread_find_87 rfl h
    · have h := h.2 q7
      refine e_bipush d_Spread_find_76 (by decide) (by decide) ?_
      refine e_goto (tgt := 87) d_Spread_find_78 (by decide) ?_
      exact e_iret d_Spread_find_87 rfl h
  · have h := h.2 q2
    refine e_aload_n d_Spread_find_37 rfl ?_
    refine e_iload_n d_Spread_find_38 rfl ?_
    refine EV.inv fun hFf9 => ?_
    have f9 := (fx_ct 22 rfl hFf9).1
    refine e_callV m_Spread_scoreGroup 7 lw_good d_Spread_find_39 (k_Spread_scoreGroup _) ⟨Nat.le_of_ble_eq_true rfl, Nat.le_of_ble_eq_true rfl⟩ w_1179 w_1181 w_s34 (q_Spread _) rfl f9 (args := [(0, x1)]) rfl rfl (Nat.le_of_ble_eq_true rfl) (kc' := kc) (ks' := ks) (mc := 0) (ms := 0) rfl rfl h ?_
    intro v10 G11 h
    refine e_aload_n d_Spread_find_42 rfl ?_
    refine gx_Spread_25 d_Spread_find_43 rfl ?_
    refine e_aload_n d_Spread_find_46 rfl ?_
    refine gx_Spread_29 d_Spread_find_47 rfl ?_
    refine e_aload_n d_Spread_find_50 rfl ?_
    refine EV.inv fun hFf12 => ?_
    have f12 := (fx_ct 22 rfl hFf12).1
    refine e_callV m_Spread_sets 7 lw_good d_Spread_find_51 (k_Spread_sets _) ⟨Nat.le_of_ble_eq_true rfl, Nat.le_of_ble_eq_true rfl⟩ w_1213 w_1215 w_s37 (q_Spread _) rfl f12 (args := []) rfl rfl (Nat.le_of_ble_eq_true rfl) (kc' := kc) (ks' := ks) (mc := 0) (ms := 0) rfl rfl h ?_
    intro v13 G14 h
    refine e_callS m_Sets_join lw_good d_Spread_find_54 (k_Sets_join _) ⟨Nat.le_of_ble_eq_true rfl, Nat.le_of_ble_eq_true rfl⟩ w_1218 w_739 (args := [(2, ((b : Int) + 25)), (2, ((b : Int) + 26)), (0, v13)]) rfl rfl (Nat.le_of_ble_eq_true rfl) (kc' := kc) (ks' := ks) (mc := 0) (ms := 0) rfl rfl h ?_
    intro v15 G16 h
    obtain ⟨o17, h⟩ := h
    refine e_iinc (ls' := [(2, ((b : Int) + 23)), (0, (x1 + 1)), (9, 0)]) d_Spread_find_57 rfl (by decide) o17 rfl ?_
    refine e_goto (tgt := 32) d_Spread_find_60 (by decide) ?_
    exact e_forget (ls' := [(2, ((b : Int) + 23)), (0, (x1 + 1)), (9, 0)]) ⟨Or.inr rfl, Or.inr rfl, Or.inl rfl, trivial⟩ h
theorem zSs_rc {e : gE} {b : Nat} {m : Int} {G0 G : gH} {A : zA} {T Q P L : Int → Int} {n : Int} (hTg : ∀ a : Int, G0 0 a 0 ≠ 0 → 0 < a ∧ a < G0 9 0 0) (hF : gFix b m G0) (hc : zRc e b m G0 A T Q P) (hs : zSs e b m G0 G A T n L) : zRc e b m G A T Q P ∧ zRf m G0 G := zSF_rc hTg hF hc hs.1.1 hs.2.1 hs.1.2
theorem c_scoreOfS {e : gE} {b : Nat} {m : Int} {G : gH} {A : zA} {T Q P L : Int → Int} {p j t : Int} (hlo : (b : Int) + 53 < m) (hc : zRc e b m G A T Q P) (hB : zB 512 A) (hPl : zPl A) (ht : zTh A t) (hp : 0 ≤ p ∧ p < A 787 0) (hL : L j = t) : GX e b m m_Spread_scoreOf [(2, ((b : Int) + 23)), (2, T t), (0, p), (2, P p)] G 0 0 (fun v G1 => v = zSq1 A L p j ∧ G1 = G) := by
  obtain ⟨-, hT, -, hP, -⟩ := hc
  have b0 : 0 ≤ A 785 0 ∧ A 785 0 ≤ 16 := hB 785 0
  have bpl : 0 ≤ A 787 0 ∧ A 787 0 ≤ 5 := hB 787 0
  have tt := (hT.2.1 t ht.1 ht.2).1
  have pr := zPrice_b (t := t) (p := p) hB
  have t15 : 0 ≤ t ∧ t ≤ 15 := ⟨ht.1, by have := ht.2; omega⟩
  have bp := zP8_b t15
  have m1 : 0 ≤ p * zP8 t ∧ p * zP8 t ≤ 4 * 35184372088832 := zmul_b ⟨hp.1, by omega⟩ ⟨by omega, bp.2⟩
  have e1 : glshl (zPrice A t p) 48 = zPrice A t p * 281474976710656 := zlshI pr.1 (by decide) (by decide) (by omega)
  have e2 : glshl p (3 * (15 - t)) = p * zP8 t := zlshI hp.1 (by omega) (zP8_2 t15) (by omega)
  refine GM.ofEV (by decide) (Nat.le_of_ble_eq_true rfl) (sg_Spread_scoreOf_0 (GM.mono (c_costOf hlo hT hP hB hPl ht hp) ?_))
  rintro v G1 ⟨rfl, rfl⟩
  rw [tt.2.1, e1, e2]
  refine ⟨tt.1.1, t15, ⟨by omega, by omega⟩, ⟨by omega, by omega⟩, ?_, rfl⟩
  unfold zSq1
  rw [hL]
theorem zOk_add {A : zA} {L : Int → Int} {n p r j : Int} (hB : zB 512 A) (hj : 0 ≤ j ∧ j < n) (hn : n ≤ 8) (hr : 0 ≤ r ∧ r < zp2 j) : zOk A L n p (r + zp2 j) ↔ (zOk A L n p r ∧ zGood A p (A 7 (L j)) ∧ zMS (fun j => A 9 (L j)) (r + zp2 j) ≤ zRm A p) := by
  have bh : 0 ≤ A 9 (L j) ∧ A 9 (L j) ≤ 4 := hB 9 _
  have ms := zMS_add (w := fun j => A 9 (L j)) ⟨hj.1, by omega⟩ hr
  have b1 := zp2_1 (n := j)
  constructor
  · intro h
    have h2 := h.2 (by omega)
    refine ⟨⟨fun i i1 i2 i3 => h.1 i i1 i2 ((zb_add hj.1 i1 hr).2 (Or.inl i3)), fun _ => ?_⟩, h.1 j hj.1 hj.2 ((zb_add hj.1 hj.1 hr).2 (Or.inr rfl)), h2⟩
    rw [ms] at h2
    have h3 : zMS (fun j => A 9 (L j)) r + A 9 (L j) ≤ zRm A p := h2
    omega
  · rintro ⟨h1, h2, h3⟩
    refine ⟨fun i i1 i2 i3 => ?_, fun _ => h3⟩
    rcases (zb_add hj.1 i1 hr).1 i3 with z | z
    · exact h1.1 i i1 i2 z
    · rw [z]; exact h2
noncomputable def zUw (A : zA) (L : Int → Int) (n p s : Int) : Int := zIf (zOk A L n p s) (zMS (zSq1 A L p) s) (-4611686018427387904)
theorem c_scorePlace {e : gE} {b : Nat} {m : Int} {G0 G : gH} {A : zA} {T Q P L : Int → Int} {n p : Int} (hTg : ∀ a : Int, G0 0 a 0 ≠ 0 → 0 < a ∧ a < G0 9 0 0) (hF : gFix b m G0) (hc : zRc e b m G0 A T Q P) (hB : zB 512 A) (hft : zFt A) (hPl : zPl A) (hE : zEnum (zMv A) (fun _ => 0) (A 785 0) n L) (hn : n ≤ 8) (hs : zSs e b m G0 G A T n L) (hN : zNt b G A n L) (hp : 0 ≤ p ∧ p < A 787 0) : GX e b m m_Spread_scorePlace [(2, ((b : Int) + 23)), (0, p), (2, P p)] G 0 0 (fun _ G1 => zO2 ((b : Int) + 27) G G1 ∧ ∀ s, 0 ≤ s → s < zp2 n → G1 2 ((b : Int) + 27) s = zUw A L n p s) := by
  have hlo := fx_lo hF
  have n0 := hE.1.1
  have b0 : 0 ≤ A 785 0 ∧ A 785 0 ≤ 16 := hB 785 0
  have bpl : 0 ≤ A 787 0 ∧ A 787 0 ≤ 5 := hB 787 0
  have hc1 := (zSs_rc hTg hF hc hs).1
  have l := hs.2.1
  have hP := hc1.2.2.2.1
  have hT := hc1.2.1
  have q := hP.2.1 p hp.1 hp.2
  have p5 := hP.1.2.2.1 p hp.1 hp.2
  have bb := (zTak_b (p := p) hB b0).1
  have br : 0 ≤ A 23 p ∧ A 23 p ≤ 40 := hB 23 p
  have bS : ∀ s, 0 ≤ s → s < zp2 n → -164381386399023104 ≤ zMS (zSq1 A L p) s ∧ zMS (zSq1 A L p) s ≤ 0 := fun s s1 s2 => by
    have k := zMS_b (w := zSq1 A L p) (s := s) (c := 0) (d := 20547673299877888) (fun i i1 i2 z => by
      have jn : i < n := by
        by_cases y : i < n
        · exact y
        · exact absurd z (zb_hi ⟨s1, s2⟩ (by omega))
      exact zSq1_b hB hE hp ⟨i1, jn⟩) (by decide) (by decide)
    omega
  refine GM.inv fun hFG => ?_
  have f27 : G 0 ((b : Int) + 27) 0 = 101 ∧ G 0 ((b : Int) + 27) 1 = 256 := by
    obtain ⟨⟨h1, -⟩, -⟩ := hFG
    exact h1 (27, 101, 256) (by decide)
  refine GM.ofEV (by decide) (Nat.le_of_ble_eq_true rfl) (sg_Spread_scorePlace_0 ?_)
  rw [q.1.2.1, hs.2.2.2.2 p hp.1 (by omega)]
  refine ⟨p5, p5, fun z => absurd z (by omega), fun _ => ⟨⟨hp.1, by omega⟩, by omega, GM.mono (c_clear f27.1 f27.2 (by omega)) ?_⟩⟩
  rintro _ G1 ⟨o1, v1⟩
  have eR : A 23 p - zTak A p (A 785 0) = zRm A p := rfl
  rw [eR]
  have p0 : zp2 0 = 1 := by decide
  refine zloop (P := fun j => ∀ G1 : gH, zO2 ((b : Int) + 27) G G1 → (∀ s, 0 ≤ s → s < zp2 j → G1 2 ((b : Int) + 27) s = zUw A L n p s) → EX e b m m_Spread_scorePlace _ 0 0 35 [(2, ((b : Int) + 23)), (0, p), (2, P p), (0, zRm A p), (0, j), (9, 0), (9, 0), (9, 0), (9, 0), (9, 0), (9, 0)] [] G1) (i := 0) n n0 ?_ ?_ G1 o1 (fun s s1 s2 => ?_)
  · intro G1 o hv
    refine sg_Spread_scorePlace_35 ?_
    rw [o 18 _ _ (fun z => absurd z (by decide)), l.2.1]
    exact ⟨⟨(o 0 _ _ (fun z => absurd z (by decide))).trans l.1, fun z => absurd z (by omega)⟩, fun _ => ⟨o, hv⟩⟩
  · intro j j1 j2 st G1 o hv
    have b8 := zp2_b (n := j + 1) (by omega)
    have bj := zp2_1 (n := j)
    have es := zp2_s j1
    have pm := zp2_m (show j + 1 ≤ n by omega)
    have w := zAL_g l ⟨j1, j2⟩
    obtain ⟨⟨o3, o4⟩, -⟩ := hE.2.1 j j1 j2
    have bsc := zSq1_b hB hE hp ⟨j1, j2⟩
    have c0 : ∀ (c : Nat) (i l : Int), c ≠ 2 → G1 c i l = G c i l := fun c i l hc => o c i l (fun z => absurd z hc)
    have hs1 : zSs e b m G0 G1 A T n L := zSs_sc hs (fun c i l z => o c i l (fun y x => z ⟨Or.inr y, by omega⟩))
    have hcG := (zSs_rc hTg hF hc hs1).1
    have inner : ∀ x, ((zGood A p (A 7 (L j)) ∧ x = zSq1 A L p j) ∨ (¬ zGood A p (A 7 (L j)) ∧ x = (-4611686018427387904))) → EX e b m m_Spread_scorePlace (fun _ G1 => zO2 ((b : Int) + 27) G G1 ∧ ∀ s, 0 ≤ s → s < zp2 n → G1 2 ((b : Int) + 27) s = zUw A L n p s) 0 0 106 [(2, ((b : Int) + 23)), (0, p), (2, P p), (0, zRm A p), (0, j), (9, 0), (1, x), (9, 0), (0, zp2 j), (0, 0), (9, 0)] [] G1 := by
      intro x hx
      refine zloop (P := fun r => ∀ G2 : gH, zO2 ((b : Int) + 27) G G2 → (∀ s, 0 ≤ s → s < zp2 j + r → G2 2 ((b : Int) + 27) s = zUw A L n p s) → EX e b m m_Spread_scorePlace _ 0 0 106 [(2, ((b : Int) + 23)), (0, p), (2, P p), (0, zRm A p), (0, j), (9, 0), (1, x), (9, 0), (0, zp2 j), (0, r), (9, 0)] [] G2) (i := 0) (zp2 j) (by omega) ?_ ?_ G1 o (fun s s1 s2 => hv s s1 (by omega))
      · intro G2 o2 hv2
        exact sg_Spread_scorePlace_106 ⟨fun z => absurd z (by omega), fun _ => ⟨by omega, st G2 o2 (fun s s1 s2 => hv2 s s1 (by omega))⟩⟩
      · intro r r1 r2 st2 G2 q2 hv2
        have k0 : ∀ (c : Nat) (i l : Int), c ≠ 2 → G2 c i l = G c i l := fun c i l hc => q2 c i l (fun z => absurd z hc)
        have er := hv2 r r1 (by omega)
        have bSr := bS r r1 (by omega)
        have da := zOk_add (p := p) hB ⟨j1, j2⟩ hn ⟨r1, r2⟩ (L := L)
        have ms := zMS_add (w := zSq1 A L p) ⟨j1, by omega⟩ ⟨r1, r2⟩
        have nx : ∀ v, v = zUw A L n p (r + zp2 j) → EX e b m m_Spread_scorePlace (fun _ G1 => zO2 ((b : Int) + 27) G G1 ∧ ∀ s, 0 ≤ s → s < zp2 n → G1 2 ((b : Int) + 27) s = zUw A L n p s) 0 0 106 [(2, ((b : Int) + 23)), (0, p), (2, P p), (0, zRm A p), (0, j), (9, 0), (1, x), (9, 0), (0, zp2 j), (0, r + 1), (9, 0)] [] (gU G2 2 ((b : Int) + 27) (r + zp2 j) v) := fun v hv3 => st2 _ (zO2_u q2) (fun s s1 s2 => by
          by_cases z : s = r + zp2 j
          · rw [z, gU_eq, hv3]
          · rw [gU_j z]; exact hv2 s s1 (by omega))
        refine sg_Spread_scorePlace_106 ⟨fun _ => ⟨by omega, fun _ => ⟨⟨by omega, by omega⟩, ?_⟩⟩, fun z => absurd z (by omega)⟩
        rw [k0 1 _ _ (by decide), hN.1 (r + zp2 j) (by omega) (by omega), er]
        refine ⟨fun c => ?_, fun c => ⟨⟨r1, by omega⟩, ?_, ?_⟩⟩
        · rintro _ rfl
          refine ⟨by omega, nx _ ?_⟩
          unfold zUw
          rw [zIf_neg (fun z => by have := (da.1 z).2.2; omega)]
        · unfold zUw
          by_cases z : zOk A L n p r
          · rw [zIf_pos z]
            rcases hx with y | y
            · exact Or.inr (Or.inr ⟨by omega, by omega⟩)
            · exact Or.inr (Or.inl y.2)
          · rw [zIf_neg z]; exact Or.inl rfl
        · rintro _ rfl
          refine ⟨by omega, nx _ ?_⟩
          unfold zUw
          rcases hx with y | y
          · by_cases z : zOk A L n p r
            · rw [zIf_pos z, zIf_pos (da.2 ⟨z, y.1, c⟩), y.2, ms]
              unfold zsm
              rw [if_neg (by omega)]
            · rw [zIf_neg z, zIf_neg (fun x => z (da.1 x).1), zn_sm]
          · rw [y.2, zsm_n, zIf_neg (fun x => y.1 (da.1 x).2.1)]
    refine sg_Spread_scorePlace_35 ?_
    rw [c0 18 _ _ (by decide), l.2.1, c0 17 _ _ (by decide), c0 3 _ _ (by decide), w.2.2.1, c0 0 (G 17 ((b : Int) + 24) 0) 0 (by decide), c0 0 (G 17 ((b : Int) + 24) 0) 1 (by decide), c0 0 (T (L j)) 0 (by decide), zshl1 ⟨j1, by omega⟩]
    refine ⟨⟨(c0 0 _ _ (by decide)).trans l.1, fun _ _ => ⟨w.1, ⟨j1, j2⟩, w.2.1, w.2.2.2, GM.mono (c_suits hcG hB hft hp ⟨o3, o4⟩) ?_⟩⟩, fun z => absurd z (by omega)⟩
    rintro v G3 ⟨hv3, rfl⟩
    refine ⟨fun v0 => inner _ (Or.inr ⟨hv3.elim (fun z => by omega) (fun z => z.2), rfl⟩), fun v1 => GM.mono (c_scoreOfS (L := L) (j := j) hlo.1 hcG hB hPl ⟨o3, o4⟩ hp rfl) ?_⟩
    rintro v2 G4 ⟨rfl, rfl⟩
    exact inner _ (Or.inl ⟨hv3.elim (fun z => z.2) (fun z => absurd z.1 v1), rfl⟩)
  · rw [show s = 0 by omega, v1 0 (by decide) (by decide), if_pos rfl]
    have z0 : zOk A L n p 0 := ⟨fun i i1 i2 z => absurd z (zb_0 i), fun z => absurd rfl z⟩
    unfold zUw
    rw [zIf_pos z0, zMS_0]
theorem zUw_t {A : zA} {L f : Int → Int} {n p : Int} (hn : n ≤ 8) (hp : 0 ≤ p ∧ p < A 787 0) (h : ∀ s, 0 ≤ s → s < zp2 n → f s = zUw A L n p s) : zTb n f (zAx A L n (fun q => q = p) (fun _ => False)) := fun s s1 s2 => by
  rw [h s s1 s2]
  unfold zUw
  by_cases z : zOk A L n p s
  · rw [zIf_pos z]
    exact Or.inr ⟨(zAx_1 hn ⟨s1, s2⟩ hp).2 ⟨z, rfl⟩, fun v hv => by rw [((zAx_1 hn ⟨s1, s2⟩ hp).1 hv).2]; exact Int.le_refl _⟩
  · rw [zIf_neg z]
    exact Or.inl ⟨rfl, fun v hv => z ((zAx_1 hn ⟨s1, s2⟩ hp).1 hv).1⟩
theorem zTb_strike {n : Int} {f f' : Int → Int} {V : Int → Int → Prop} {c : Int → Prop} [DecidablePred c] (h : zTb n f V) (e : ∀ s, 0 ≤ s → s < zp2 n → f' s = if c s then (-4611686018427387904) else f s) : zTb n f' (fun s v => V s v ∧ ¬ c s) := fun s s1 s2 => by
  rw [e s s1 s2]
  by_cases z : c s
  · rw [if_pos z]; exact Or.inl ⟨rfl, fun v hv => hv.2 z⟩
  · rw [if_neg z]
    rcases h s s1 s2 with k | k
    · exact Or.inl ⟨k.1, fun v hv => k.2 v hv.1⟩
    · exact Or.inr ⟨⟨k.1, z⟩, fun v hv => k.2 v hv.1⟩
theorem c_scoreGroup {e : gE} {b : Nat} {m : Int} {G0 G : gH} {A : zA} {T Q P L : Int → Int} {n g : Int} (hTg : ∀ a : Int, G0 0 a 0 ≠ 0 → 0 < a ∧ a < G0 9 0 0) (hF : gFix b m G0) (hc : zRc e b m G0 A T Q P) (hB : zB 512 A) (hft : zFt A) (hPl : zPl A) (hE : zEnum (zMv A) (fun _ => 0) (A 785 0) n L) (hn : n ≤ 8) (hs : zSs e b m G0 G A T n L) (hN : zNt b G A n L) (hg : 0 ≤ g ∧ g < 4) : GX e b m m_Spread_scoreGroup [(2, ((b : Int) + 23)), (0, g)] G 0 0 (fun _ G1 => (∀ (c : Nat) (i j : Int), ¬ (c = 2 ∧ (i = (b : Int) + 26 ∨ i = (b : Int) + 27)) → G1 c i j = G c i j) ∧ zTb n (G1 2 ((b : Int) + 26)) (zAx A L n (fun p => A 24 p = g) (fun x => x = g))) := by
  have hlo := fx_lo hF
  have n0 := hE.1.1
  have bpl : 0 ≤ A 787 0 ∧ A 787 0 ≤ 5 := hB 787 0
  have b8 := zp2_b hn
  have fx : ∀ {G : gH}, gFix b m G → (G 0 ((b : Int) + 26) 0 = 101 ∧ G 0 ((b : Int) + 26) 1 = 256) ∧ (G 0 ((b : Int) + 27) 0 = 101 ∧ G 0 ((b : Int) + 27) 1 = 256) := fun hFG => by
    obtain ⟨⟨h1, -⟩, -⟩ := hFG
    exact ⟨h1 (26, 101, 256) (by decide), h1 (27, 101, 256) (by decide)⟩
  refine GM.inv fun hFG => ?_
  have f26 := (fx hFG).1
  refine GM.ofEV (by decide) (Nat.le_of_ble_eq_true rfl) (sg_Spread_scoreGroup_0 (GM.mono (c_clear f26.1 f26.2 (by omega)) ?_))
  rintro _ G1 ⟨o1, v1⟩
  have sub : ∀ {G1 : gH}, (∀ (c : Nat) (i j : Int), ¬ (c = 2 ∧ (i = (b : Int) + 26 ∨ i = (b : Int) + 27)) → G1 c i j = G c i j) → zSs e b m G0 G1 A T n L ∧ zNt b G1 A n L := fun {G1} o => ⟨zSs_sc hs (fun c i j z => o c i j (fun y => z ⟨Or.inr y.1, by omega⟩)), ⟨fun s s1 s2 => by rw [o 1 _ _ (by omega)]; exact hN.1 s s1 s2, fun k k1 k2 => by rw [o 1 _ _ (by omega)]; exact hN.2 k k1 k2⟩⟩
  refine zloop (P := fun p => ∀ G1 : gH, (∀ (c : Nat) (i j : Int), ¬ (c = 2 ∧ (i = (b : Int) + 26 ∨ i = (b : Int) + 27)) → G1 c i j = G c i j) → zTb n (G1 2 ((b : Int) + 26)) (zAx A L n (fun q => q < p ∧ A 24 q = g) (fun _ => False)) → EX e b m m_Spread_scoreGroup _ 0 0 9 [(2, ((b : Int) + 23)), (0, g), (0, p), (9, 0)] [] G1) (i := 0) (A 787 0) bpl.1 ?_ ?_ G1 (fun c i j z => o1 c i j (by omega)) ?_
  · intro G2 o hv
    have hP := (zSs_rc hTg hF hc (sub o).1).1.2.2.2.1
    refine sg_Spread_scoreGroup_9 ?_
    rw [hP.1.2.1]
    refine ⟨⟨hP.1.1, fun _ => ?_, fun z => absurd z (by omega)⟩, fun z => absurd z (by omega)⟩
    have hv0 : zTb n (G2 2 ((b : Int) + 26)) (fun s v => zAx A L n (fun q => A 24 q = g) (fun _ => False) s v ∧ ∀ k, 0 ≤ k → k < 0 → zCs A L n s k ≤ zMo A g k) := zTb_c hv (fun s v s1 s2 => ⟨fun z => ⟨(zAx_c (fun p p1 p2 => ⟨fun y => y.2, fun y => ⟨p2, y⟩⟩) (fun _ _ _ => Iff.rfl)).1 z, fun k k1 k2 => by omega⟩, fun z => (zAx_c (fun p p1 p2 => ⟨fun y => y.2, fun y => ⟨p2, y⟩⟩) (fun _ _ _ => Iff.rfl)).2 z.1⟩)
    refine zloop (P := fun k => ∀ G2 : gH, (∀ (c : Nat) (i j : Int), ¬ (c = 2 ∧ (i = (b : Int) + 26 ∨ i = (b : Int) + 27)) → G2 c i j = G c i j) → zTb n (G2 2 ((b : Int) + 26)) (fun s v => zAx A L n (fun q => A 24 q = g) (fun _ => False) s v ∧ ∀ k', 0 ≤ k' → k' < k → zCs A L n s k' ≤ zMo A g k') → EX e b m m_Spread_scoreGroup _ 0 0 70 [(2, ((b : Int) + 23)), (0, g), (0, k), (9, 0)] [] G2) (i := 0) 4 (by decide) ?_ ?_ G2 o hv0
    · intro G3 o3 hv3
      exact sg_Spread_scoreGroup_70 ⟨fun _ => ⟨o3, zTb_c hv3 (fun s v s1 s2 => (zAx_g ⟨n0, hn⟩ hg).symm)⟩, fun z => absurd z (by omega)⟩
    · intro k k1 k2 st G3 o3 hv3
      have hs3 := sub o3
      have r4 := (zSs_rc hTg hF hc hs3.1).1.1.2.2.2
      refine sg_Spread_scoreGroup_70 ⟨fun z => absurd z (by omega), fun _ => GM.mono (c_mostIn hB hs3.1 r4 hg ⟨k1, k2⟩) ?_⟩
      rintro v G4 ⟨rfl, rfl⟩
      have hk := hs3.2.2 k k1 k2
      refine ⟨⟨k1, k2⟩, GM.mono (c_strikeAbove hs3.1.2.1 ⟨n0, hn⟩ hk.1 hk.2) ?_⟩
      rintro _ G5 ⟨o5, hv5⟩
      refine ⟨by omega, st G5 (fun c i j z => by rw [o5 c i j (by omega)]; exact o3 c i j z) (zTb_c (zTb_strike (c := fun s => zMo A g k < zCs A L n s k) hv3 hv5) (fun s v s1 s2 => ?_))⟩
      constructor
      · rintro ⟨⟨z1, z2⟩, z3⟩
        refine ⟨z1, fun k' y1 y2 => ?_⟩
        by_cases x : k' = k
        · rw [x]; omega
        · exact z2 k' y1 (by omega)
      · rintro ⟨z1, z2⟩
        refine ⟨⟨z1, fun k' y1 y2 => z2 k' y1 (by omega)⟩, ?_⟩
        have := z2 k k1 (by omega)
        omega
  · intro p p1 p2 st G2 o hv
    have hs2 := sub o
    have hc2 := (zSs_rc hTg hF hc hs2.1).1
    have hP := hc2.2.2.2.1
    have q := hP.2.1 p p1 p2
    have p5 := hP.1.2.2.1 p p1 p2
    have pp := zPa_p hP hB
    have q1 := q.1.1
    have px := pp.2.2 p
    have pe := zPa_e hP p
    have pq := pp.1
    rw [hP.1.2.1, if_pos ⟨p1, p2⟩, if_pos ⟨p1, p2⟩] at pe
    rw [hP.1.2.1, pe] at px
    rw [hP.1.2.1] at pq
    refine sg_Spread_scoreGroup_9 ?_
    rw [hP.1.2.1, if_pos ⟨p1, p2⟩, pe, q.1.2.2.1]
    refine ⟨⟨hP.1.1, fun z => absurd z (by omega), fun _ => ⟨pq, px, fun _ => ⟨p5, p5, fun eg => ?_⟩⟩⟩, fun z => ⟨by omega, st G2 o ?_⟩⟩
    · refine GM.mono (c_scorePlace hTg hF hc hB hft hPl hE hn hs2.1 hs2.2 ⟨p1, p2⟩) ?_
      rintro _ G3 ⟨o3, hv3⟩
      have o3' : ∀ (c : Nat) (i j : Int), ¬ (c = 2 ∧ (i = (b : Int) + 26 ∨ i = (b : Int) + 27)) → G3 c i j = G c i j := fun c i j z => by rw [o3 c i j (by omega)]; exact o c i j z
      have hs3 := sub o3'
      refine GM.mono (c_sets hs3.1.2.1 ⟨n0, hn⟩) ?_
      rintro v G4 ⟨rfl, rfl⟩
      refine GM.inv fun hF4 => ?_
      have f4 := fx hF4
      have e26 : G4 2 ((b : Int) + 26) = G2 2 ((b : Int) + 26) := funext fun j => o3 2 _ j (fun _ => by omega)
      have tV : zTb n (G4 2 ((b : Int) + 26)) (zAx A L n (fun q => q < p ∧ A 24 q = g) (fun _ => False)) := by rw [e26]; exact hv
      have tU := zUw_t hn ⟨p1, p2⟩ hv3
      have bV := zAx_b (R := fun q => q < p ∧ A 24 q = g) (Gs := fun _ => False) hB hE
      have bU := zAx_b (R := fun q => q = p) (Gs := fun _ => False) hB hE
      refine GM.mono (c_join f4.1 f4.2 (by omega) (by omega) hn (zTb_ot tV bV (by decide)) (zTb_ot tU bU (by decide))) ?_
      rintro _ G5 ⟨o5, hj⟩
      refine ⟨by omega, st G5 (fun c i j z => by rw [o5 c i j (by omega)]; exact o3' c i j z) (zTb_c (zTb_join hn tV tU bV bU (by decide) hj) (fun s v s1 s2 => ?_))⟩
      rw [← zAx_j ⟨n0, hn⟩ ⟨s1, s2⟩ (fun x y1 y2 => by omega) (fun x y z => z.elim) (fun x y z => z.elim)]
      refine zAx_c (fun x x1 x2 => ⟨fun y => y.elim (fun y => ⟨by omega, y.2⟩) (fun y => ⟨by omega, by rw [y]; exact eg⟩), fun y => ?_⟩) (fun x _ _ => ⟨fun y => y.elim id id, Or.inl⟩)
      by_cases w : x = p
      · exact Or.inr w
      · exact Or.inl ⟨by omega, y.2⟩
    · have ng : ¬ A 24 p = g := by
        rcases z with z | z
        · omega
        · exact z.2.2
      exact zTb_c hv (fun s v s1 s2 => zAx_c (fun x x1 x2 => ⟨fun y => ⟨by omega, y.2⟩, fun y => ⟨by
        by_cases w : x = p
        · exact absurd (by rw [← w]; exact y.2) ng
        · omega, y.2⟩⟩) (fun _ _ _ => Iff.rfl))
  · intro s s1 s2
    have e0 : ∀ v, zAx A L n (fun q => q < 0 ∧ A 24 q = g) (fun _ => False) s v ↔ (s = 0 ∧ v = 0) := fun v => (zAx_c (fun x x1 x2 => ⟨fun y => by omega, fun y => y.elim⟩) (fun _ _ _ => Iff.rfl)).trans (zAx_0 hn ⟨s1, s2⟩)
    rw [v1 s s1 (by omega)]
    by_cases z : s = 0
    · rw [if_pos z]
      exact Or.inr ⟨(e0 0).2 ⟨z, rfl⟩, fun v hv => by rw [((e0 v).1 hv).2]; exact Int.le_refl _⟩
    · rw [if_neg z]
      exact Or.inl ⟨rfl, fun v hv => z ((e0 v).1 hv).1⟩
