/-! THE CLASS, 26: a new place -/
set_option maxRecDepth 20000 in
set_option maxHeartbeats 4000000 in
theorem sg_Row_init_0 {e : gE} {b : Nat} {m : Int} {Z : Int → gH → Prop} {kc ks : Nat} {G : gH} {a0 : Int} (t0 : G 0 a0 0 = 7) (h : (a0 ≠ 0) ∧ (∃ kc2 ks3 : Nat, kc = kc2 + 1 ∧ ks = ks3 + Int.toNat 60 ∧ (0 ≤ (60 : Int) ∧ (60 : Int) ≤ 60000000) ∧ (∀ a4 : Int, a4 = G 9 0 0 → ∀ G5 : gH, G5 = gN G 101 60 → (G5 0 a0 0 = 7) ∧ (((b : Int) < a0) ∧ ((m + 45 < a0) ∧ (∀ G9 : gH, G9 = gU G5 400 a0 0 a4 → Z 0 G9)))))) : EX e b m m_Row_init Z kc ks 0 [(2, a0)] [] G := by
  refine e_aload_n d_Row_init_0 rfl ?_
  obtain ⟨o1, h⟩ := h
  refine e_objI d_Row_init_1 w_234 w_33 w_34 o1 (by decide) (Nat.le_of_ble_eq_true rfl) (Nat.le_trans (gcat _) (by simp)) ?_
  refine e_aload_n d_Row_init_4 rfl ?_
  refine e_bipush d_Row_init_5 (by decide) (by decide) ?_
  obtain ⟨kc2, ks3, hkc2, hks3, hna4, h⟩ := h
  refine e_newj d_Row_init_7 w_135 hna4.1 (by omega) hkc2 hks3 fx_N ?_
  let a4 : Int := G 9 0 0
  have h := h a4 rfl
  let G5 : gH := gN G 101 60
  have h := h G5 rfl
  obtain ⟨o6, o7, o8, h⟩ := h
  refine gp_Row_9 d_Row_init_9 rfl rfl o6 o7 (fx_Uf (by decide) o8) ?_
  let G9 : gH := gU G5 400 a0 0 a4
  have h := h G9 rfl
  exact e_vret d_Row_init_12 rfl h
set_option maxRecDepth 20000 in
set_option maxHeartbeats 4000000 in
theorem sg_Place_init_0 {e : gE} {b : Nat} {m : Int} {Z : Int → gH → Prop} {kc ks : Nat} {G : gH} {a0 p1 p2 p3 : Int} (t0 : G 0 a0 0 = 5) (h : (a0 ≠ 0) ∧ (((b : Int) < a0) ∧ ((m + 45 < a0) ∧ (∀ G4 : gH, G4 = gU G 272 a0 0 p1 → ∀ G5 : gH, G5 = gU G4 273 a0 0 p2 → ∀ G6 : gH, G6 = gU G5 274 a0 0 p3 → ∃ kc7 ks8 : Nat, kc = kc7 + 1 ∧ ks = ks8 + 3 ∧ (∀ a9 : Int, a9 = G6 9 0 0 → ∀ G10 : gH, G10 = gN G6 7 0 → (a9 ≠ 0) ∧ (∃ kc14 ks15 mc16 ms17 : Nat, kc7 = kc14 + mc16 ∧ ks8 = ks15 + ms17 ∧ GX e b m m_Row_init [(2, a9)] G10 mc16 ms17 (fun _ G13 => (G13 0 a0 0 = 5) ∧ (∀ G19 : gH, G19 = gU G13 275 a0 0 a9 → Z 0 G19)))))))) : EX e b m m_Place_init Z kc ks 0 [(2, a0), (0, p1), (0, p2), (0, p3)] [] G := by
  refine e_aload_n d_Place_init_0 rfl ?_
  obtain ⟨o1, h⟩ := h
  refine e_objI d_Place_init_1 w_1027 w_33 w_34 o1 (by decide) (Nat.le_of_ble_eq_true rfl) (Nat.le_trans (gcat _) (by simp)) ?_
  refine e_aload_n d_Place_init_4 rfl ?_
  refine e_iload_n d_Place_init_5 rfl ?_
  obtain ⟨o2, o3, h⟩ := h
  refine gp_Place_7 d_Place_init_6 rfl rfl t0 o2 (fx_Uf (by decide) o3) ?_
  let G4 : gH := gU G 272 a0 0 p1
  have h := h G4 rfl
  refine e_aload_n d_Place_init_9 rfl ?_
  refine e_iload_n d_Place_init_10 rfl ?_
  refine gp_Place_13 d_Place_init_11 rfl rfl t0 o2 (fx_Uf (by decide) o3) ?_
  let G5 : gH := gU G4 273 a0 0 p2
  have h := h G5 rfl
  refine e_aload_n d_Place_init_14 rfl ?_
  refine e_iload_n d_Place_init_15 rfl ?_
  refine gp_Place_16 d_Place_init_16 rfl rfl t0 o2 (fx_Uf (by decide) o3) ?_
  let G6 : gH := gU G5 274 a0 0 p3
  have h := h G6 rfl
  refine e_aload_n d_Place_init_19 rfl ?_
  obtain ⟨kc7, ks8, hkc7, hks8, h⟩ := h
  refine e_new 6 d_Place_init_20 (q_Row _) w_1028 w_230 w_11 hkc7 hks8 fx_N ?_
  let a9 : Int := G6 9 0 0
  have h := h a9 rfl
  let G10 : gH := gN G6 7 0
  have h := h G10 rfl
  refine e_dup d_Place_init_23 (by simp) ?_
  obtain ⟨o11, h⟩ := h
  obtain ⟨kc14, ks15, mc16, ms17, hkc14, hks15, h⟩ := h
  refine e_callI m_Row_init lw_good d_Place_init_24 (k_Row_init _) ⟨Nat.le_of_ble_eq_true rfl, Nat.le_of_ble_eq_true rfl⟩ w_1029 w_232 rfl rfl o11 (args := []) rfl rfl (Nat.le_of_ble_eq_true rfl) (kc' := kc14) (ks' := ks15) (mc := mc16) (ms := ms17) hkc14 hks15 h ?_
  intro v12 G13 h
  obtain ⟨o18, h⟩ := h
  refine gp_Place_22 d_Place_init_27 rfl rfl o18 o2 (fx_Uf (by decide) o3) ?_
  let G19 : gH := gU G13 275 a0 0 a9
  have h := h G19 rfl
  exact e_vret d_Place_init_30 rfl h
set_option maxRecDepth 20000 in
set_option maxHeartbeats 4000000 in
theorem sg_Years_addPlace_0 {e : gE} {b : Nat} {m : Int} {Z : Int → gH → Prop} {kc ks : Nat} {G : gH} {p1 p2 p3 : Int} (h : ∃ kc1 ks2 : Nat, kc = kc1 + 1 ∧ ks = ks2 + 4 ∧ (∀ a3 : Int, a3 = G 9 0 0 → ∀ G4 : gH, G4 = gN G 5 0 → (a3 ≠ 0) ∧ ∃ kc8 ks9 mc10 ms11 : Nat, kc1 = kc8 + mc10 ∧ ks2 = ks9 + ms11 ∧ GX e b m m_Place_init [(2, a3), (0, p1), (0, p2), (0, p3)] G4 mc10 ms11 (fun _ G7 => ∃ kc15 ks16 mc17 ms18 : Nat, kc8 = kc15 + mc17 ∧ ks9 = ks16 + ms18 ∧ GX e b m m_AL_add_b [(2, ((b : Int) + 19)), (2, a3)] G7 mc17 ms18 (fun v13 G14 => (G14 0 ((b : Int) + 19) 0 = 1) ∧ (inI ((G14 18 ((b : Int) + 19) 0) - 1)) ∧ Z ((G14 18 ((b : Int) + 19) 0) - 1) G14)))) : EX e b m m_Years_addPlace Z kc ks 0 [(2, ((b : Int) + 18)), (0, p1), (0, p2), (0, p3)] [] G := by
  refine e_aload_n d_Years_addPlace_0 rfl ?_
  refine gx_Years_18 d_Years_addPlace_1 rfl ?_
  obtain ⟨kc1, ks2, hkc1, hks2, h⟩ := h
  refine e_new 4 d_Years_addPlace_4 (q_Place _) w_1022 w_1023 w_25 hkc1 hks2 fx_N ?_
  let a3 : Int := G 9 0 0
  have h := h a3 rfl
  let G4 : gH := gN G 5 0
  have h := h G4 rfl
  refine e_dup d_Years_addPlace_7 (by simp) ?_
  refine e_iload_n d_Years_addPlace_8 rfl ?_
  refine e_iload_n d_Years_addPlace_9 rfl ?_
  refine e_iload_n d_Years_addPlace_10 rfl ?_
  obtain ⟨o5, h⟩ := h
  obtain ⟨kc8, ks9, mc10, ms11, hkc8, hks9, h⟩ := h
  refine e_callI m_Place_init lw_good d_Years_addPlace_11 (k_Place_init _) ⟨Nat.le_of_ble_eq_true rfl, Nat.le_of_ble_eq_true rfl⟩ w_1024 w_1025 rfl rfl o5 (args := [(0, p1), (0, p2), (0, p3)]) rfl rfl (Nat.le_of_ble_eq_true rfl) (kc' := kc8) (ks' := ks9) (mc := mc10) (ms := ms11) hkc8 hks9 h ?_
  intro v6 G7 h
  refine EV.inv fun hFf12 => ?_
  have f12 := (fx_ct 18 rfl hFf12).1
  obtain ⟨kc15, ks16, mc17, ms18, hkc15, hks16, h⟩ := h
  refine e_callV m_AL_add_b 0 lw_good d_Years_addPlace_14 (k_AL_add_b _) ⟨Nat.le_of_ble_eq_true rfl, Nat.le_of_ble_eq_true rfl⟩ w_1043 w_354 w_355 (q_AL _) rfl f12 (args := [(2, a3)]) rfl rfl (Nat.le_of_ble_eq_true rfl) (kc' := kc15) (ks' := ks16) (mc := mc17) (ms := ms18) hkc15 hks16 h ?_
  intro v13 G14 h
  refine e_pop d_Years_addPlace_17 (by simp) ?_
  refine e_aload_n d_Years_addPlace_18 rfl ?_
  refine gx_Years_18 d_Years_addPlace_19 rfl ?_
  refine EV.inv fun hFf19 => ?_
  have f19 := (fx_ct 18 rfl hFf19).1
  obtain ⟨o20, h⟩ := h
  refine e_callV m_AL_size 0 lw_good d_Years_addPlace_22 (k_AL_size _) ⟨Nat.le_of_ble_eq_true rfl, Nat.le_of_ble_eq_true rfl⟩ w_1017 w_330 w_331 (q_AL _) rfl f19 (args := []) rfl rfl (Nat.le_of_ble_eq_true rfl) (kc' := kc15) (ks' := ks16) (mc := 0) (ms := 0) rfl rfl (c_AL_size o20) (pureK ?_)
  refine e_iconst d_Years_addPlace_25 (by decide) ?_
  obtain ⟨o21, h⟩ := h
  refine e_isub d_Years_addPlace_26 o21 ?_
  exact e_iret d_Years_addPlace_27 rfl h
set_option maxRecDepth 20000 in
set_option maxHeartbeats 4000000 in
theorem sg_C_place_0 {e : gE} {b : Nat} {m : Int} {Z : Int → gH → Prop} {kc ks : Nat} {G : gH} {p1 p2 p3 : Int} (h : (((0 ≤ p2 ∧ p2 ≤ 3) → ((1 ≤ p1 ∧ p1 ≤ 40) → ((1 ≤ p3 ∧ p3 ≤ 9) → (G 0 ((b : Int) + 19) 0 = 1) ∧ (((G 18 ((b : Int) + 19) 0) < 5 → ∃ kc14 ks15 mc16 ms17 : Nat, kc = kc14 + mc16 ∧ ks = ks15 + ms17 ∧ GX e b m m_Years_addPlace [(2, ((b : Int) + 18)), (0, p1), (0, p2), (0, p3)] G mc16 ms17 (fun v12 G13 => Z v12 G13)) ∧ (5 ≤ (G 18 ((b : Int) + 19) 0) → GX e b m m_C_refuse [(2, ((b : Int) + 1)), (0, (-7))] G 0 0 (fun v19 G20 => Z v19 G20)))))) ∧ ((¬ (0 ≤ p2 ∧ p2 ≤ 3)) → GX e b m m_C_refuse [(2, ((b : Int) + 1)), (0, (-1))] G 0 0 (fun v22 G23 => Z v22 G23))) ∧ ((((0 ≤ p2 ∧ p2 ≤ 3) ∧ (¬ (1 ≤ p1 ∧ p1 ≤ 40))) ∨ ((0 ≤ p2 ∧ p2 ≤ 3) ∧ (1 ≤ p1 ∧ p1 ≤ 40) ∧ (¬ (1 ≤ p3 ∧ p3 ≤ 9)))) → GX e b m m_C_refuse [(2, ((b : Int) + 1)), (0, (-6))] G 0 0 (fun v26 G27 => Z v26 G27))) : EX e b m m_C_place Z kc ks 0 [(2, ((b : Int) + 1)), (0, p1), (0, p2), (0, p3)] [] G := by
  obtain ⟨h, hJ24⟩ := h
  have kJ24 : (((0 ≤ p2 ∧ p2 ≤ 3) ∧ (¬ (1 ≤ p1 ∧ p1 ≤ 40))) ∨ ((0 ≤ p2 ∧ p2 ≤ 3) ∧ (1 ≤ p1 ∧ p1 ≤ 40) ∧ (¬ (1 ≤ p3 ∧ p3 ≤ 9)))) → EX e b m m_C_place Z kc ks 35 [(2, ((b : Int) + 1)), (0, p1), (0, p2), (0, p3)] [] G := by
    intro rJ24
    have h := hJ24 rJ24
    refine e_aload_n d_C_place_35 rfl ?_
    refine e_bipush d_C_place_36 (by decide) (by decide) ?_
    refine EV.inv fun hFf25 => ?_
    have f25 := (fx_ct 0 rfl hFf25).1
    refine e_callV m_C_refuse 11 lw_good d_C_place_38 (k_C_refuse _) ⟨Nat.le_of_ble_eq_true rfl, Nat.le_of_ble_eq_true rfl⟩ w_297 w_299 w_s0 (q_C _) rfl f25 (args := [(0, (-6))]) rfl rfl (Nat.le_of_ble_eq_true rfl) (kc' := kc) (ks' := ks) (mc := 0) (ms := 0) rfl rfl h ?_
    intro v26 G27 h
    exact e_iret d_C_place_41 rfl h
  refine e_iload_n d_C_place_0 rfl ?_
  refine e_iconst d_C_place_1 (by decide) ?_
  refine e_iconst d_C_place_2 (by decide) ?_
  refine e_callS m_C_within lw_good d_C_place_3 (k_C_within _) ⟨Nat.le_of_ble_eq_true rfl, Nat.le_of_ble_eq_true rfl⟩ w_294 w_295 (args := [(0, p2), (0, 0), (0, 3)]) rfl rfl (Nat.le_of_ble_eq_true rfl) (kc' := kc) (ks' := ks) (mc := 0) (ms := 0) rfl rfl (c_C_within) (pureK ?_)
  refine e_if_ne (tgt := 15) d_C_place_6 (by decide) (fun q1 => ?_) (fun q2 => ?_)
  · replace q1 := gb1.mp q1
    have h := h.1 q1
    refine e_iload_n d_C_place_15 rfl ?_
    refine e_iconst d_C_place_16 (by decide) ?_
    refine e_bipush d_C_place_17 (by decide) (by decide) ?_
    refine e_callS m_C_within lw_good d_C_place_19 (k_C_within _) ⟨Nat.le_of_ble_eq_true rfl, Nat.le_of_ble_eq_true rfl⟩ w_294 w_295 (args := [(0, p1), (0, 1), (0, 40)]) rfl rfl (Nat.le_of_ble_eq_true rfl) (kc' := kc) (ks' := ks) (mc := 0) (ms := 0) rfl rfl (c_C_within) (pureK ?_)
    refine e_if_eq (tgt := 35) d_C_place_22 (by decide) (fun q3 => ?_) (fun q4 => ?_)
    · replace q3 := gb0.mp q3
      exact kJ24 (Or.inl ⟨q1, q3⟩)
    · replace q4 := gb1.mp q4
      have h := h q4
      refine e_iload_n d_C_place_25 rfl ?_
      refine e_iconst d_C_place_26 (by decide) ?_
      refine e_bipush d_C_place_27 (by decide) (by decide) ?_
      refine e_callS m_C_within lw_good d_C_place_29 (k_C_within _) ⟨Nat.le_of_ble_eq_true rfl, Nat.le_of_ble_eq_true rfl⟩ w_294 w_295 (args := [(0, p3), (0, 1), (0, 9)]) rfl rfl (Nat.le_of_ble_eq_true rfl) (kc' := kc) (ks' := ks) (mc := 0) (ms := 0) rfl rfl (c_C_within) (pureK ?_)
      refine e_if_ne (tgt := 42) d_C_place_32 (by decide) (fun q5 => ?_) (fun q6 => ?_)
      · replace q5 := gb1.mp q5
        have h := h q5
        refine e_aload_n d_C_place_42 rfl ?_
        refine gx_C_37 d_C_place_43 rfl ?_
        refine EV.inv fun hFf7 => ?_
        have f7 := (fx_ct 17 rfl hFf7).1
        obtain ⟨o8, h⟩ := h
        refine e_callV m_Years_placeCount 10 lw_good d_C_place_46 (k_Years_placeCount _) ⟨Nat.le_of_ble_eq_true rfl, Nat.le_of_ble_eq_true rfl⟩ w_1013 w_1014 w_1015 (q_Years _) rfl f7 (args := []) rfl rfl (Nat.le_of_ble_eq_true rfl) (kc' := kc) (ks' := ks) (mc := 0) (ms := 0) rfl rfl (c_Years_placeCount o8) (pureK ?_)
        refine e_iconst d_C_place_49 (by decide) ?_
        refine e_icmp_lt (tgt := 60) d_C_place_50 (by decide) (fun q9 => ?_) (fun q10 => ?_)
        · have h := h.1 q9
          refine e_aload_n d_C_place_60 rfl ?_
          refine gx_C_37 d_C_place_61 rfl ?_
          refine e_iload_n d_C_place_64 rfl ?_
          refine e_iload_n d_C_place_65 rfl ?_
          refine e_iload_n d_C_place_66 rfl ?_
          refine EV.inv fun hFf11 => ?_
          have f11 := (fx_ct 17 rfl hFf11).1
          obtain ⟨kc14, ks15, mc16, ms17, hkc14, hks15, h⟩ := h
          refine e_callV m_Years_addPlace 10 lw_good d_C_place_67 (k_Years_addPlace _) ⟨Nat.le_of_ble_eq_true rfl, Nat.le_of_ble_eq_true rfl⟩ w_1018 w_1019 w_1020 (q_Years _) rfl f11 (args := [(0, p1), (0, p2), (0, p3)]) rfl rfl (Nat.le_of_ble_eq_true rfl) (kc' := kc14) (ks' := ks15) (mc := mc16) (ms := ms17) hkc14 hks15 h ?_
          intro v12 G13 h
          exact e_iret d_C_place_70 rfl h
        · have h := h.2 q10
          refine e_aload_n d_C_place_53 rfl ?_
          refine e_bipush d_C_place_54 (by decide) (by decide) ?_
          refine EV.inv fun hFf18 => ?_
          have f18 := (fx_ct 0 rfl hFf18).1
          refine e_callV m_C_refuse 11 lw_good d_C_place_56 (k_C_refuse _) ⟨Nat.le_of_ble_eq_true rfl, Nat.le_of_ble_eq_true rfl⟩ w_297 w_299 w_s0 (q_C _) rfl f18 (args := [(0, (-7))]) rfl rfl (Nat.le_of_ble_eq_true rfl) (kc' := kc) (ks' := ks) (mc := 0) (ms := 0) rfl rfl h ?_
          intro v19 G20 h
          exact e_iret d_C_place_59 rfl h
      · replace q6 := gb0.mp q6
        exact kJ24 (Or.inr ⟨q1, q4, q6⟩)
  · replace q2 := gb0.mp q2
    have h := h.2 q2
    refine e_aload_n d_C_place_9 rfl ?_
    refine e_iconst d_C_place_10 (by decide) ?_
    refine EV.inv fun hFf21 => ?_
    have f21 := (fx_ct 0 rfl hFf21).1
    refine e_callV m_C_refuse 11 lw_good d_C_place_11 (k_C_refuse _) ⟨Nat.le_of_ble_eq_true rfl, Nat.le_of_ble_eq_true rfl⟩ w_297 w_299 w_s0 (q_C _) rfl f21 (args := [(0, (-1))]) rfl rfl (Nat.le_of_ble_eq_true rfl) (kc' := kc) (ks' := ks) (mc := 0) (ms := 0) rfl rfl h ?_
    intro v22 G23 h
    exact e_iret d_C_place_14 rfl h
theorem c_Row_init {e : gE} {b : Nat} {m : Int} {G : gH} {a : Int} (h : G 0 a 0 = 7) (ha : m + 45 < a) : GX e b m m_Row_init [(2, a)] G 1 60 (fun _ G1 => G1 = gU (gN G 101 60) 400 a 0 (G 9 0 0)) := by
  refine GM.tg fun hT => GM.inv fun hF => ?_
  have hlo := fx_lo hF
  have h1 := hT a (by omega)
  refine GM.ofEV (by decide) (Nat.le_of_ble_eq_true rfl) (sg_Row_init_0 h ⟨by omega, 0, 0, rfl, rfl, by decide, ?_⟩)
  rintro _ rfl _ rfl
  refine ⟨by rw [gN_old (by omega) (by decide)]; exact h, by omega, ha, ?_⟩
  rintro _ rfl
  rfl
/-- a new place as it is -/
def zNP (m a p1 p2 p3 : Int) (G G1 : gH) : Prop := (G1 272 a 0 = p1 ∧ G1 273 a 0 = p2 ∧ G1 274 a 0 = p3 ∧ G1 275 a 0 = G 9 0 0) ∧ (G1 0 (G 9 0 0) 0 = 7 ∧ G1 401 (G 9 0 0) 0 = 0 ∧ G1 402 (G 9 0 0) 0 = 0 ∧ G1 400 (G 9 0 0) 0 = G 9 0 0 + 1) ∧ (G1 0 (G 9 0 0 + 1) 0 = 101 ∧ G1 0 (G 9 0 0 + 1) 1 = 60) ∧ G1 9 0 0 = G 9 0 0 + 2 ∧ ∀ (c : Nat) (i j : Int), c ≠ 9 → i < G 9 0 0 → ¬ (i = a ∧ c ≠ 0) → G1 c i j = G c i j
theorem c_Place_init {e : gE} {b : Nat} {m : Int} {G : gH} {a p1 p2 p3 : Int} (h : G 0 a 0 = 5) (ha : m + 45 < a) : GX e b m m_Place_init [(2, a), (0, p1), (0, p2), (0, p3)] G 2 63 (fun _ G1 => zNP m a p1 p2 p3 G G1) := by
  refine GM.tg fun hT => GM.inv fun hF => ?_
  have hlo := fx_lo hF
  have h1 := hT a (by omega)
  refine GM.ofEV (by decide) (Nat.le_of_ble_eq_true rfl) (sg_Place_init_0 h ⟨by omega, by omega, ha, ?_⟩)
  rintro _ rfl _ rfl _ rfl
  refine ⟨1, 60, rfl, rfl, ?_⟩
  have e9 : gU (gU (gU G 272 a 0 p1) 273 a 0 p2) 274 a 0 p3 9 0 0 = G 9 0 0 := by rw [gU_c _ (by decide), gU_c _ (by decide), gU_c _ (by decide)]
  rintro _ rfl
  rw [e9]
  rintro _ rfl
  refine ⟨by omega, 0, 0, 1, 60, rfl, rfl, GM.mono (c_Row_init ?_ (by omega)) ?_⟩
  · rw [← e9, gN_tag]
  rintro _ _ rfl
  have n9 : gN (gU (gU (gU G 272 a 0 p1) 273 a 0 p2) 274 a 0 p3) 7 0 9 0 0 = G 9 0 0 + 1 := by rw [gN_nxt, e9]
  have o : ∀ (c : Nat) (i j : Int), c ≠ 9 → i < G 9 0 0 → gN (gN (gU (gU (gU G 272 a 0 p1) 273 a 0 p2) 274 a 0 p3) 7 0) 101 60 c i j = gU (gU (gU G 272 a 0 p1) 273 a 0 p2) 274 a 0 p3 c i j := fun c i j c1 i1 => by rw [gN_old (by omega) c1, gN_old (by omega) c1]
  have o2 : ∀ (c : Nat) (j : Int), c ≠ 9 → gN (gN (gU (gU (gU G 272 a 0 p1) 273 a 0 p2) 274 a 0 p3) 7 0) 101 60 c (G 9 0 0) j = gN (gU (gU (gU G 272 a 0 p1) 273 a 0 p2) 274 a 0 p3) 7 0 c (G 9 0 0) j := fun c j c1 => gN_old (by omega) c1
  have z0 : ∀ (c : Nat) (j : Int), c ≠ 9 → c ≠ 0 → gN (gU (gU (gU G 272 a 0 p1) 273 a 0 p2) 274 a 0 p3) 7 0 c (G 9 0 0) j = 0 := fun c j c1 c2 => by
    have := gN_new (G := gU (gU (gU G 272 a 0 p1) 273 a 0 p2) 274 a 0 p3) (t := 7) (n := 0) (c := c) (j := j) c1 c2
    rw [e9] at this
    exact this
  have t7 : gN (gU (gU (gU G 272 a 0 p1) 273 a 0 p2) 274 a 0 p3) 7 0 0 (G 9 0 0) 0 = 7 := by rw [← e9, gN_tag]
  have t8 : gN (gN (gU (gU (gU G 272 a 0 p1) 273 a 0 p2) 274 a 0 p3) 7 0) 101 60 0 (G 9 0 0 + 1) 0 = 101 := by rw [← n9, gN_tag]
  have t9 : gN (gN (gU (gU (gU G 272 a 0 p1) 273 a 0 p2) 274 a 0 p3) 7 0) 101 60 0 (G 9 0 0 + 1) 1 = 60 := by rw [← n9, gN_len]
  refine ⟨?_, ?_⟩
  · rw [gU_c _ (by decide), o _ _ _ (by decide) h1.2, gU_c _ (by decide), gU_c _ (by decide), gU_c _ (by decide)]; exact h
  rintro _ rfl
  unfold zNP
  rw [n9]
  refine ⟨⟨?_, ?_, ?_, gU_eq⟩, ⟨?_, ?_, ?_, ?_⟩, ⟨?_, ?_⟩, ?_, fun c i j c1 i1 c2 => ?_⟩
  · rw [gU_c _ (by decide), gU_c _ (by decide), o _ _ _ (by decide) h1.2, gU_c _ (by decide), gU_c _ (by decide), gU_eq]
  · rw [gU_c _ (by decide), gU_c _ (by decide), o _ _ _ (by decide) h1.2, gU_c _ (by decide), gU_eq]
  · rw [gU_c _ (by decide), gU_c _ (by decide), o _ _ _ (by decide) h1.2, gU_eq]
  · rw [gU_c _ (by decide), gU_c _ (by decide), o2 _ _ (by decide), t7]
  · rw [gU_c _ (by decide), gU_c _ (by decide), o2 _ _ (by decide), z0 _ _ (by decide) (by decide)]
  · rw [gU_c _ (by decide), gU_c _ (by decide), o2 _ _ (by decide), z0 _ _ (by decide) (by decide)]
  · rw [gU_c _ (by decide), gU_eq]
  · rw [gU_c _ (by decide), gU_c _ (by decide), t8]
  · rw [gU_c _ (by decide), gU_c _ (by decide), t9]
  · rw [gU_c _ (by decide), gU_c _ (by decide), gN_nxt, n9]; omega
  · by_cases z : i = a
    · have c0 : c = 0 := by omega
      subst c0
      rw [gU_c _ (by decide), gU_c _ (by decide), o _ _ _ c1 i1, gU_c _ (by decide), gU_c _ (by decide), gU_c _ (by decide)]
    · rw [gU_ne (fun y => z y.2.1), gU_ne (fun y => by omega), o _ _ _ c1 i1, gU_ne (fun y => z y.2.1), gU_ne (fun y => z y.2.1), gU_ne (fun y => z y.2.1)]
theorem zPut_lt {f : Int → Int} {k v i : Int} (h : i < k) : zPut f k v i = f i := if_pos h
theorem zPut_eq {f : Int → Int} {k v : Int} : zPut f k v k = v := by unfold zPut; rw [if_neg (Int.lt_irrefl _), if_pos rfl]
theorem c_C_place {e : gE} {b : Nat} {m : Int} {G : gH} {A : zA} {p1 p2 p3 : Int} (hR : zRel e b m G A) (hB : zB 512 A) (hz : A 26 (A 787 0) = 0 ∧ A 27 (A 787 0) = 0) : GX e b m m_C_place [(2, ((b : Int) + 1)), (0, p1), (0, p2), (0, p3)] G 4 107 (zCQ e b m G (zfPlace A p1 p2 p3)) := by
  refine GM.tg fun hTg => GM.inv fun hF => ?_
  have hlo := fx_lo hF
  have hr := hR
  obtain ⟨T, Q, P, ⟨r1, r2, r3, r4⟩, hT, hQ, hP, hJ, hD⟩ := hr
  have b0 : 0 ≤ A 787 0 ∧ A 787 0 ≤ 5 := hB 787 0
  refine GM.ofEV (by decide) (Nat.le_of_ble_eq_true rfl) (sg_C_place_0 ?_)
  rw [hP.1.2.1]
  refine ⟨⟨fun q1 q2 q3 => ⟨hP.1.1, fun q4 => ?_, fun q4 => ?_⟩, fun q1 => ?_⟩, fun q => ?_⟩
  · rw [show zfPlace A p1 p2 p3 = (A 787 0, zU (zU (zU (zU A 23 (A 787 0) p1) 24 (A 787 0) p2) 25 (A 787 0) p3) 787 0 (A 787 0 + 1)) from by unfold zfPlace; rw [if_neg (show ¬ (p2 < 0 ∨ p2 > 3) by omega), if_neg (show ¬ (p1 < 1 ∨ p1 > 40 ∨ p3 < 1 ∨ p3 > 9) by omega), if_neg (show ¬ A 787 0 = 5 by omega)]]
    refine ⟨0, 0, 4, 107, rfl, rfl, ?_⟩
    refine GM.ofEV (by decide) (Nat.le_of_ble_eq_true rfl) (sg_Years_addPlace_0 ?_)
    refine ⟨3, 103, rfl, rfl, ?_⟩
    rintro _ rfl _ rfl
    refine ⟨by omega, 1, 40, 2, 63, rfl, rfl, GM.mono (c_Place_init gN_tag (by omega)) ?_⟩
    rintro _ G1 ⟨⟨n1, n2, n3, n4⟩, ⟨n5, n6, n7, n8⟩, ⟨n9, n10⟩, n11, n12⟩
    rw [gN_nxt] at *
    have fw : zFW m [] G G1 := ⟨by omega, fun c i j c9 i1 _ => by rw [n12 c i j c9 (by omega) (by omega), gN_old (by omega) c9]⟩
    have t5 : G1 0 (G 9 0 0) 0 = 5 := by rw [n12 0 _ _ (by decide) (by omega) (by omega), gN_tag]
    have l1 : zAL e b m G1 ((b : Int) + 19) 5 (A 787 0) P := zAL_fw hTg hlo (by decide) fw (by decide) (by decide) hP.1
    refine ⟨0, 0, 1, 40, rfl, rfl, GM.mono (c_AL_add_b gr_Place (by decide) l1 (by omega) t5 (by omega)) ?_⟩
    rintro _ G2 ⟨l2, af1⟩
    have af : zAF ((b : Int) + 19) G G2 := zAF_t (zAF_fw hlo (by decide) fw) af1
    have sx := zSx_af hlo af
    have hk : zLs 19 := by decide
    rw [l2.2.1]
    refine ⟨l2.1, by omega, ?_⟩
    have qc : zCh [23, 24, 25, 787] A (zU (zU (zU (zU A 23 (A 787 0) p1) 24 (A 787 0) p2) 25 (A 787 0) p3) 787 0 (A 787 0 + 1)) := zCh_m (zCh_t (zCh_t (zCh_t zCh_u zCh_u) zCh_u) zCh_u) (by decide)
    refine zCQ_mk (by omega) ⟨T, Q, zPut P (A 787 0) (G 9 0 0), ⟨zR1_A qc (by decide) (zR1_G sx (by decide +kernel) r1), zR2_A qc (by decide) (zR2_G sx (by decide +kernel) r2), zR3_A qc (by decide) (zR3_G sx (by decide +kernel) r3), zR4_A qc (by decide) (zR4_G sx (by decide +kernel) r4)⟩, ?_, zRkQ_A qc (by decide) (zRkQ_af hTg hlo hD hk (by decide) af hQ), ?_, zRkJ_A qc (by decide) (zRkJ_af hTg hlo hD hk (by decide) af hT hJ), zDst_af hTg hlo (zLs_0 hT hQ hP hJ) hk af hD⟩ (zRf_af hF (by decide) (zLs_5 hT hQ hP hJ _ hk) af)
    · rw [zTau_c qc (by decide)]
      exact zRkT_B qc (by decide) (zRkT_af hTg hlo hD hk (by decide) af hT)
    · have e787 : (zU (zU (zU (zU A 23 (A 787 0) p1) 24 (A 787 0) p2) 25 (A 787 0) p3) 787 0 (A 787 0 + 1)) 787 0 = A 787 0 + 1 := zU_eq
      have aP : ∀ p, 0 ≤ p → p < A 787 0 → P p < G 9 0 0 := fun p p1 p2 => (hTg _ (by have := hP.1.2.2.1 p p1 p2; omega)).2
      have aR : ∀ p, 0 ≤ p → p < A 787 0 → G 275 (P p) 0 < G 9 0 0 := fun p p1 p2 => (hTg _ (by have := (hP.2.1 p p1 p2).2.1.2.1; omega)).2
      have aE : ∀ p, 0 ≤ p → p < A 787 0 → G 400 (G 275 (P p) 0) 0 < G 9 0 0 := fun p p1 p2 => (hTg _ (by have := (hP.2.1 p p1 p2).2.2.1.2.1; omega)).2
      have o5 : ∀ (c : Nat) (i j : Int), c ∈ [0, 2, 272, 273, 274, 275, 400, 401, 402] → i < G 9 0 0 → G2 c i j = G c i j := fun c i j hc hi => af.2.2 c i j (by rintro rfl; exact absurd hc (by decide)) hi (by rintro ⟨_, y | y | y⟩ <;> subst y <;> exact absurd hc (by decide)) (by rintro ⟨y, _⟩; subst y; exact absurd hc (by decide))
      have o6 : ∀ (c : Nat) (i j : Int), c ∈ [0, 2, 272, 273, 274, 275, 400, 401, 402] → i < G 9 0 0 + 3 → G2 c i j = G1 c i j := fun c i j hc hi => af1.2.2 c i j (by rintro rfl; exact absurd hc (by decide)) (by omega) (by rintro ⟨_, y | y | y⟩ <;> subst y <;> exact absurd hc (by decide)) (by rintro ⟨y, _⟩; subst y; exact absurd hc (by decide))
      refine ⟨by rw [e787]; exact l2, fun p q5 q6 => ?_, fun j k j1 j2 k1 k2 => ?_⟩
      · rw [e787] at q6
        by_cases z : p = A 787 0
        · subst z
          rw [zPut_eq, o6 275 _ _ (by decide) (by omega), n4, o6 272 _ _ (by decide) (by omega), o6 273 _ _ (by decide) (by omega), o6 274 _ _ (by decide) (by omega), o6 400 _ _ (by decide) (by omega), n8, o6 0 _ _ (by decide) (by omega), o6 401 _ _ (by decide) (by omega), o6 402 _ _ (by decide) (by omega), o6 0 _ _ (by decide) (by omega), o6 0 _ _ (by decide) (by omega), n1, n2, n3, n5, n6, n7, n9, n10, zU_k (show (23 : Nat) ≠ 787 by decide), zU_k (show (23 : Nat) ≠ 25 by decide), zU_k (show (23 : Nat) ≠ 24 by decide), zU_eq, zU_k (show (24 : Nat) ≠ 787 by decide), zU_k (show (24 : Nat) ≠ 25 by decide), zU_eq, zU_k (show (25 : Nat) ≠ 787 by decide), zU_eq, qc 26 (by decide), qc 27 (by decide), hz.1, hz.2]
          exact ⟨⟨by omega, rfl, rfl, rfl⟩, ⟨by omega, rfl, rfl, rfl⟩, ⟨by omega, rfl, rfl⟩, fun i i1 i2 => by omega⟩
        · have q7 : p < A 787 0 := by omega
          have w := hP.2.1 p q5 q7
          have eB : ∀ k : Nat, k ≠ 787 → (zU (zU (zU (zU A 23 (A 787 0) p1) 24 (A 787 0) p2) 25 (A 787 0) p3) 787 0 (A 787 0 + 1)) k p = A k p := fun k hk => by rw [zU_k hk, zU_i z, zU_i z, zU_i z]
          rw [zPut_lt q7, o5 275 _ _ (by decide) (aP p q5 q7), o5 400 _ _ (by decide) (aR p q5 q7), o5 272 _ _ (by decide) (aP p q5 q7), o5 273 _ _ (by decide) (aP p q5 q7), o5 274 _ _ (by decide) (aP p q5 q7), o5 0 _ _ (by decide) (aR p q5 q7), o5 0 _ _ (by decide) (aE p q5 q7), o5 0 _ _ (by decide) (aE p q5 q7), o5 401 _ _ (by decide) (aR p q5 q7), o5 402 _ _ (by decide) (aR p q5 q7), eB 23 (by decide), eB 24 (by decide), eB 25 (by decide), qc 26 (by decide), qc 27 (by decide), qc 28 (by decide)]
          exact ⟨w.1, w.2.1, w.2.2.1, fun i i1 i2 => by rw [o5 2 _ _ (by decide) (aE p q5 q7)]; exact w.2.2.2 i i1 i2⟩
      · rw [e787] at j2 k2
        have nw : ∀ p, 0 ≤ p → p < A 787 0 → G2 275 (P p) 0 = G 275 (P p) 0 ∧ G2 400 (G 275 (P p) 0) 0 = G 400 (G 275 (P p) 0) 0 := fun p z1 z2 => ⟨o5 275 _ _ (by decide) (aP p z1 z2), o5 400 _ _ (by decide) (aR p z1 z2)⟩
        have nn : G2 275 (G 9 0 0) 0 = G 9 0 0 + 1 ∧ G2 400 (G 9 0 0 + 1) 0 = G 9 0 0 + 2 := ⟨by rw [o6 275 _ _ (by decide) (by omega), n4], by rw [o6 400 _ _ (by decide) (by omega), n8]; omega⟩
        by_cases zj : j = A 787 0
        · by_cases zk : k = A 787 0
          · exact ⟨fun _ => by omega, fun _ => by omega, fun _ => by omega⟩
          · have k3 : k < A 787 0 := by omega
            have a1 := aP k k1 k3
            have a2 := aR k k1 k3
            have a3 := aE k k1 k3
            rw [zj, zPut_eq, zPut_lt k3, nn.1, nn.2, (nw k k1 k3).1, (nw k k1 k3).2]
            exact ⟨fun _ => by omega, fun _ => by omega, fun _ => by omega⟩
        · have j3 : j < A 787 0 := by omega
          have a1 := aP j j1 j3
          have a2 := aR j j1 j3
          have a3 := aE j j1 j3
          by_cases zk : k = A 787 0
          · rw [zk, zPut_eq, zPut_lt j3, nn.1, nn.2, (nw j j1 j3).1, (nw j j1 j3).2]
            exact ⟨fun _ => by omega, fun _ => by omega, fun _ => by omega⟩
          · have k3 : k < A 787 0 := by omega
            rw [zPut_lt j3, zPut_lt k3, (nw j j1 j3).1, (nw j j1 j3).2, (nw k k1 k3).1, (nw k k1 k3).2]
            exact hP.2.2 j k j1 j3 k1 k3
  · rw [show zfPlace A p1 p2 p3 = zNo A (-7) from by unfold zfPlace; rw [if_neg (show ¬ (p2 < 0 ∨ p2 > 3) by omega), if_neg (show ¬ (p1 < 1 ∨ p1 > 40 ∨ p3 < 1 ∨ p3 > 9) by omega), if_pos (show A 787 0 = 5 by omega)]]
    exact c_C_refuse hR hB (by decide)
  · rw [show zfPlace A p1 p2 p3 = zNo A (-1) from by unfold zfPlace; rw [if_pos (show (p2 < 0 ∨ p2 > 3) by omega)]]
    exact c_C_refuse hR hB (by decide)
  · rw [show zfPlace A p1 p2 p3 = zNo A (-6) from by unfold zfPlace; rw [if_neg (show ¬ (p2 < 0 ∨ p2 > 3) by omega), if_pos (show (p1 < 1 ∨ p1 > 40 ∨ p3 < 1 ∨ p3 > 9) by omega)]]
    exact c_C_refuse hR hB (by decide)
