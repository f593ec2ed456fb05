/-! THE CLASS, 28: a new thing -/
set_option maxRecDepth 20000 in
set_option maxHeartbeats 4000000 in
theorem sg_Thing_init_0 {e : gE} {b : Nat} {m : Int} {Z : Int → gH → Prop} {kc ks : Nat} {G : gH} {a0 p1 p2 p3 p4 p5 p6 : Int} (t0 : G 0 a0 0 = 10) (h : (a0 ≠ 0) ∧ (((b : Int) < a0) ∧ ((m + 45 < a0) ∧ (∀ G4 : gH, G4 = gU G 592 a0 0 p1 → ∀ G5 : gH, G5 = gU G4 593 a0 0 p2 → ∀ G6 : gH, G6 = gU G5 594 a0 0 p3 → ∀ G7 : gH, G7 = gU G6 595 a0 0 p4 → ∀ G8 : gH, G8 = gU G7 596 a0 0 p5 → ∀ G9 : gH, G9 = gU G8 597 a0 0 p6 → (inI (100 + p5)) ∧ (∀ G11 : gH, G11 = gU G9 598 a0 0 (100 + p5) → ∀ G12 : gH, G12 = gU G11 600 a0 0 (-1) → ∀ G13 : gH, G13 = gU G12 601 a0 0 (-1) → ∃ kc14 ks15 : Nat, kc = kc14 + 1 ∧ ks = ks15 + Int.toNat 12 ∧ (0 ≤ (12 : Int) ∧ (12 : Int) ≤ 60000000) ∧ (∀ a16 : Int, a16 = G13 9 0 0 → ∀ G17 : gH, G17 = gN G13 100 12 → (G17 0 a0 0 = 10) ∧ (∀ G19 : gH, G19 = gU G17 604 a0 0 a16 → ∃ kc20 ks21 : Nat, kc14 = kc20 + 1 ∧ ks15 = ks21 + Int.toNat 18 ∧ (0 ≤ (18 : Int) ∧ (18 : Int) ≤ 60000000) ∧ (∀ a22 : Int, a22 = G19 9 0 0 → ∀ G23 : gH, G23 = gN G19 100 18 → (G23 0 a0 0 = 10) ∧ (∀ G25 : gH, G25 = gU G23 606 a0 0 a22 → Z 0 G25))))))))) : EX e b m m_Thing_init Z kc ks 0 [(2, a0), (0, p1), (0, p2), (0, p3), (0, p4), (0, p5), (0, p6)] [] G := by
  refine e_aload_n d_Thing_init_0 rfl ?_
  obtain ⟨o1, h⟩ := h
  refine e_objI d_Thing_init_1 w_427 w_33 w_34 o1 (by decide) (Nat.le_of_ble_eq_true rfl) (Nat.le_trans (gcat _) (by simp)) ?_
  refine e_aload_n d_Thing_init_4 rfl ?_
  refine e_iload_n d_Thing_init_5 rfl ?_
  obtain ⟨o2, o3, h⟩ := h
  refine gp_Thing_9 d_Thing_init_6 rfl rfl t0 o2 (fx_Uf (by decide) o3) ?_
  let G4 : gH := gU G 592 a0 0 p1
  have h := h G4 rfl
  refine e_aload_n d_Thing_init_9 rfl ?_
  refine e_iload_n d_Thing_init_10 rfl ?_
  refine gp_Thing_15 d_Thing_init_11 rfl rfl t0 o2 (fx_Uf (by decide) o3) ?_
  let G5 : gH := gU G4 593 a0 0 p2
  have h := h G5 rfl
  refine e_aload_n d_Thing_init_14 rfl ?_
  refine e_iload_n d_Thing_init_15 rfl ?_
  refine gp_Thing_18 d_Thing_init_16 rfl rfl t0 o2 (fx_Uf (by decide) o3) ?_
  let G6 : gH := gU G5 594 a0 0 p3
  have h := h G6 rfl
  refine e_aload_n d_Thing_init_19 rfl ?_
  refine e_iload d_Thing_init_20 rfl ?_
  refine gp_Thing_21 d_Thing_init_22 rfl rfl t0 o2 (fx_Uf (by decide) o3) ?_
  let G7 : gH := gU G6 595 a0 0 p4
  have h := h G7 rfl
  refine e_aload_n d_Thing_init_25 rfl ?_
  refine e_iload d_Thing_init_26 rfl ?_
  refine gp_Thing_24 d_Thing_init_28 rfl rfl t0 o2 (fx_Uf (by decide) o3) ?_
  let G8 : gH := gU G7 596 a0 0 p5
  have h := h G8 rfl
  refine e_aload_n d_Thing_init_31 rfl ?_
  refine e_iload d_Thing_init_32 rfl ?_
  refine gp_Thing_27 d_Thing_init_34 rfl rfl t0 o2 (fx_Uf (by decide) o3) ?_
  let G9 : gH := gU G8 597 a0 0 p6
  have h := h G9 rfl
  refine e_aload_n d_Thing_init_37 rfl ?_
  refine e_bipush d_Thing_init_38 (by decide) (by decide) ?_
  refine e_iload d_Thing_init_40 rfl ?_
  obtain ⟨o10, h⟩ := h
  refine e_iadd d_Thing_init_42 o10 ?_
  refine gp_Thing_30 d_Thing_init_43 rfl t0 o2 (fx_U (by decide)) ?_
  let G11 : gH := gU G9 598 a0 0 (100 + p5)
  have h := h G11 rfl
  refine e_aload_n d_Thing_init_46 rfl ?_
  refine e_iconst d_Thing_init_47 (by decide) ?_
  refine gp_Thing_33 d_Thing_init_48 rfl t0 o2 (fx_U (by decide)) ?_
  let G12 : gH := gU G11 600 a0 0 (-1)
  have h := h G12 rfl
  refine e_aload_n d_Thing_init_51 rfl ?_
  refine e_iconst d_Thing_init_52 (by decide) ?_
  refine gp_Thing_36 d_Thing_init_53 rfl t0 o2 (fx_U (by decide)) ?_
  let G13 : gH := gU G12 601 a0 0 (-1)
  have h := h G13 rfl
  refine e_aload_n d_Thing_init_56 rfl ?_
  refine e_bipush d_Thing_init_57 (by decide) (by decide) ?_
  obtain ⟨kc14, ks15, hkc14, hks15, hna16, h⟩ := h
  refine e_newi d_Thing_init_59 w_92 hna16.1 (by omega) hkc14 hks15 fx_N ?_
  let a16 : Int := G13 9 0 0
  have h := h a16 rfl
  let G17 : gH := gN G13 100 12
  have h := h G17 rfl
  obtain ⟨o18, h⟩ := h
  refine gp_Thing_39 d_Thing_init_61 rfl o18 o2 (fx_U (by decide)) ?_
  let G19 : gH := gU G17 604 a0 0 a16
  have h := h G19 rfl
  refine e_aload_n d_Thing_init_64 rfl ?_
  refine e_bipush d_Thing_init_65 (by decide) (by decide) ?_
  obtain ⟨kc20, ks21, hkc20, hks21, hna22, h⟩ := h
  refine e_newi d_Thing_init_67 w_92 hna22.1 (by omega) hkc20 hks21 fx_N ?_
  let a22 : Int := G19 9 0 0
  have h := h a22 rfl
  let G23 : gH := gN G19 100 18
  have h := h G23 rfl
  obtain ⟨o24, h⟩ := h
  refine gp_Thing_43 d_Thing_init_69 rfl rfl o24 o2 (fx_Uf (by decide) o3) ?_
  let G25 : gH := gU G23 606 a0 0 a22
  have h := h G25 rfl
  exact e_vret d_Thing_init_72 rfl h
set_option maxRecDepth 20000 in
set_option maxHeartbeats 4000000 in
theorem sg_C_addThing_0 {e : gE} {b : Nat} {m : Int} {Z : Int → gH → Prop} {kc ks : Nat} {G : gH} {p1 p2 p3 p4 p5 : Int} (h : ((G 730 ((b : Int) + 1) 0) = 0 → (G 0 ((b : Int) + 2) 0 = 1) ∧ (((G 18 ((b : Int) + 2) 0) < 16 → ∃ kc7 ks8 : Nat, kc = kc7 + 1 ∧ ks = ks8 + 16 ∧ (∀ a9 : Int, a9 = G 9 0 0 → ∀ G10 : gH, G10 = gN G 10 0 → (a9 ≠ 0) ∧ ∃ kc14 ks15 mc16 ms17 : Nat, kc7 = kc14 + mc16 ∧ ks8 = ks15 + ms17 ∧ GX e b m m_Thing_init [(2, a9), (0, (G 18 ((b : Int) + 2) 0)), (0, p1), (0, p2), (0, p3), (0, p4), (0, p5)] G10 mc16 ms17 (fun _ G13 => ∃ kc21 ks22 mc23 ms24 : Nat, kc14 = kc21 + mc23 ∧ ks15 = ks22 + ms24 ∧ GX e b m m_AL_add_b [(2, ((b : Int) + 2)), (2, a9)] G13 mc23 ms24 (fun v19 G20 => Z (G 18 ((b : Int) + 2) 0) G20)))) ∧ (16 ≤ (G 18 ((b : Int) + 2) 0) → GX e b m m_C_refuse [(2, ((b : Int) + 1)), (0, (-7))] G 0 0 (fun v26 G27 => Z v26 G27)))) ∧ ((G 730 ((b : Int) + 1) 0) ≠ 0 → GX e b m m_C_refuse [(2, ((b : Int) + 1)), (0, (-6))] G 0 0 (fun v29 G30 => Z v29 G30))) : EX e b m m_C_addThing Z kc ks 0 [(2, ((b : Int) + 1)), (0, p1), (0, p2), (0, p3), (0, p4), (0, p5), (9, 0)] [] G := by
  refine e_aload_n d_C_addThing_0 rfl ?_
  refine gx_C_81 d_C_addThing_1 rfl ?_
  refine e_if_eq (tgt := 14) d_C_addThing_4 (by decide) (fun q1 => ?_) (fun q2 => ?_)
  · have h := h.1 q1
    refine e_aload_n d_C_addThing_14 rfl ?_
    refine gx_C_12 d_C_addThing_15 rfl ?_
    refine EV.inv fun hFf3 => ?_
    have f3 := (fx_ct 1 rfl hFf3).1
    obtain ⟨o4, h⟩ := h
    refine e_callV m_AL_size 0 lw_good d_C_addThing_18 (k_AL_size _) ⟨Nat.le_of_ble_eq_true rfl, Nat.le_of_ble_eq_true rfl⟩ w_421 w_330 w_331 (q_AL _) rfl f3 (args := []) rfl rfl (Nat.le_of_ble_eq_true rfl) (kc' := kc) (ks' := ks) (mc := 0) (ms := 0) rfl rfl (c_AL_size o4) (pureK ?_)
    refine e_istore (ls' := [(2, ((b : Int) + 1)), (0, p1), (0, p2), (0, p3), (0, p4), (0, p5), (0, (G 18 ((b : Int) + 2) 0))]) d_C_addThing_21 (by decide) rfl ?_
    refine e_iload d_C_addThing_23 rfl ?_
    refine e_bipush d_C_addThing_25 (by decide) (by decide) ?_
    refine e_icmp_lt (tgt := 37) d_C_addThing_27 (by decide) (fun q5 => ?_) (fun q6 => ?_)
    · have h := h.1 q5
      refine e_aload_n d_C_addThing_37 rfl ?_
      refine gx_C_12 d_C_addThing_38 rfl ?_
      obtain ⟨kc7, ks8, hkc7, hks8, h⟩ := h
      refine e_new 9 d_C_addThing_41 (q_Thing _) w_422 w_423 w_18 hkc7 hks8 fx_N ?_
      let a9 : Int := G 9 0 0
      have h := h a9 rfl
      let G10 : gH := gN G 10 0
      have h := h G10 rfl
      refine e_dup d_C_addThing_44 (by simp) ?_
      refine e_iload d_C_addThing_45 rfl ?_
      refine e_iload_n d_C_addThing_47 rfl ?_
      refine e_iload_n d_C_addThing_48 rfl ?_
      refine e_iload_n d_C_addThing_49 rfl ?_
      refine e_iload d_C_addThing_50 rfl ?_
      refine e_iload d_C_addThing_52 rfl ?_
      obtain ⟨o11, h⟩ := h
      obtain ⟨kc14, ks15, mc16, ms17, hkc14, hks15, h⟩ := h
      refine e_callI m_Thing_init lw_good d_C_addThing_54 (k_Thing_init _) ⟨Nat.le_of_ble_eq_true rfl, Nat.le_of_ble_eq_true rfl⟩ w_424 w_425 rfl rfl o11 (args := [(0, (G 18 ((b : Int) + 2) 0)), (0, p1), (0, p2), (0, p3), (0, p4), (0, p5)]) rfl rfl (Nat.le_of_ble_eq_true rfl) (kc' := kc14) (ks' := ks15) (mc := mc16) (ms := ms17) hkc14 hks15 h ?_
      intro v12 G13 h
      refine EV.inv fun hFf18 => ?_
      have f18 := (fx_ct 1 rfl hFf18).1
      obtain ⟨kc21, ks22, mc23, ms24, hkc21, hks22, h⟩ := h
      refine e_callV m_AL_add_b 0 lw_good d_C_addThing_57 (k_AL_add_b _) ⟨Nat.le_of_ble_eq_true rfl, Nat.le_of_ble_eq_true rfl⟩ w_477 w_354 w_355 (q_AL _) rfl f18 (args := [(2, a9)]) rfl rfl (Nat.le_of_ble_eq_true rfl) (kc' := kc21) (ks' := ks22) (mc := mc23) (ms := ms24) hkc21 hks22 h ?_
      intro v19 G20 h
      refine e_pop d_C_addThing_60 (by simp) ?_
      refine e_iload d_C_addThing_61 rfl ?_
      exact e_iret d_C_addThing_63 rfl h
    · have h := h.2 q6
      refine e_aload_n d_C_addThing_30 rfl ?_
      refine e_bipush d_C_addThing_31 (by decide) (by decide) ?_
      refine EV.inv fun hFf25 => ?_
      have f25 := (fx_ct 0 rfl hFf25).1
      refine e_callV m_C_refuse 11 lw_good d_C_addThing_33 (k_C_refuse _) ⟨Nat.le_of_ble_eq_true rfl, Nat.le_of_ble_eq_true rfl⟩ w_297 w_299 w_s0 (q_C _) rfl f25 (args := [(0, (-7))]) rfl rfl (Nat.le_of_ble_eq_true rfl) (kc' := kc) (ks' := ks) (mc := 0) (ms := 0) rfl rfl h ?_
      intro v26 G27 h
      exact e_iret d_C_addThing_36 rfl h
  · have h := h.2 q2
    refine e_aload_n d_C_addThing_7 rfl ?_
    refine e_bipush d_C_addThing_8 (by decide) (by decide) ?_
    refine EV.inv fun hFf28 => ?_
    have f28 := (fx_ct 0 rfl hFf28).1
    refine e_callV m_C_refuse 11 lw_good d_C_addThing_10 (k_C_refuse _) ⟨Nat.le_of_ble_eq_true rfl, Nat.le_of_ble_eq_true rfl⟩ w_297 w_299 w_s0 (q_C _) rfl f28 (args := [(0, (-6))]) rfl rfl (Nat.le_of_ble_eq_true rfl) (kc' := kc) (ks' := ks) (mc := 0) (ms := 0) rfl rfl h ?_
    intro v29 G30 h
    exact e_iret d_C_addThing_13 rfl h
set_option maxRecDepth 20000 in
set_option maxHeartbeats 4000000 in
theorem sg_C_thing_0 {e : gE} {b : Nat} {m : Int} {Z : Int → gH → Prop} {kc ks : Nat} {G : gH} {p1 p2 p3 p4 p5 : Int} (h : ((0 ≤ p1 ∧ p1 ≤ 3) → ((1 ≤ p4 ∧ p4 ≤ 11) → ((1 ≤ p2 ∧ p2 ≤ 100) → ((1 ≤ p3 ∧ p3 ≤ 4) → ((0 ≤ p5 ∧ p5 ≤ 20) → ∃ kc14 ks15 mc16 ms17 : Nat, kc = kc14 + mc16 ∧ ks = ks15 + ms17 ∧ GX e b m m_C_addThing [(2, ((b : Int) + 1)), (0, p1), (0, p2), (0, p3), (0, p4), (0, p5)] G mc16 ms17 (fun v12 G13 => Z v12 G13)))))) ∧ ((((¬ (0 ≤ p1 ∧ p1 ≤ 3))) ∨ ((0 ≤ p1 ∧ p1 ≤ 3) ∧ (¬ (1 ≤ p4 ∧ p4 ≤ 11)))) → GX e b m m_C_refuse [(2, ((b : Int) + 1)), (0, (-1))] G 0 0 (fun v20 G21 => Z v20 G21)) ∧ ((((0 ≤ p1 ∧ p1 ≤ 3) ∧ (1 ≤ p4 ∧ p4 ≤ 11) ∧ (¬ (1 ≤ p2 ∧ p2 ≤ 100))) ∨ ((0 ≤ p1 ∧ p1 ≤ 3) ∧ (1 ≤ p4 ∧ p4 ≤ 11) ∧ (1 ≤ p2 ∧ p2 ≤ 100) ∧ (¬ (1 ≤ p3 ∧ p3 ≤ 4))) ∨ ((0 ≤ p1 ∧ p1 ≤ 3) ∧ (1 ≤ p4 ∧ p4 ≤ 11) ∧ (1 ≤ p2 ∧ p2 ≤ 100) ∧ (1 ≤ p3 ∧ p3 ≤ 4) ∧ (¬ (0 ≤ p5 ∧ p5 ≤ 20)))) → GX e b m m_C_refuse [(2, ((b : Int) + 1)), (0, (-6))] G 0 0 (fun v24 G25 => Z v24 G25))) : EX e b m m_C_thing Z kc ks 0 [(2, ((b : Int) + 1)), (0, p1), (0, p2), (0, p3), (0, p4), (0, p5)] [] G := by
  obtain ⟨h, hJ18, hJ22⟩ := h
  have kJ22 : (((0 ≤ p1 ∧ p1 ≤ 3) ∧ (1 ≤ p4 ∧ p4 ≤ 11) ∧ (¬ (1 ≤ p2 ∧ p2 ≤ 100))) ∨ ((0 ≤ p1 ∧ p1 ≤ 3) ∧ (1 ≤ p4 ∧ p4 ≤ 11) ∧ (1 ≤ p2 ∧ p2 ≤ 100) ∧ (¬ (1 ≤ p3 ∧ p3 ≤ 4))) ∨ ((0 ≤ p1 ∧ p1 ≤ 3) ∧ (1 ≤ p4 ∧ p4 ≤ 11) ∧ (1 ≤ p2 ∧ p2 ≤ 100) ∧ (1 ≤ p3 ∧ p3 ≤ 4) ∧ (¬ (0 ≤ p5 ∧ p5 ≤ 20)))) → EX e b m m_C_thing Z kc ks 56 [(2, ((b : Int) + 1)), (0, p1), (0, p2), (0, p3), (0, p4), (0, p5)] [] G := by
    intro rJ22
    have h := hJ22 rJ22
    refine e_aload_n d_C_thing_56 rfl ?_
    refine e_bipush d_C_thing_57 (by decide) (by decide) ?_
    refine EV.inv fun hFf23 => ?_
    have f23 := (fx_ct 0 rfl hFf23).1
    refine e_callV m_C_refuse 11 lw_good d_C_thing_59 (k_C_refuse _) ⟨Nat.le_of_ble_eq_true rfl, Nat.le_of_ble_eq_true rfl⟩ w_297 w_299 w_s0 (q_C _) rfl f23 (args := [(0, (-6))]) rfl rfl (Nat.le_of_ble_eq_true rfl) (kc' := kc) (ks' := ks) (mc := 0) (ms := 0) rfl rfl h ?_
    intro v24 G25 h
    exact e_iret d_C_thing_62 rfl h
  have kJ18 : (((¬ (0 ≤ p1 ∧ p1 ≤ 3))) ∨ ((0 ≤ p1 ∧ p1 ≤ 3) ∧ (¬ (1 ≤ p4 ∧ p4 ≤ 11)))) → EX e b m m_C_thing Z kc ks 20 [(2, ((b : Int) + 1)), (0, p1), (0, p2), (0, p3), (0, p4), (0, p5)] [] G := by
    intro rJ18
    have h := hJ18 rJ18
    refine e_aload_n d_C_thing_20 rfl ?_
    refine e_iconst d_C_thing_21 (by decide) ?_
    refine EV.inv fun hFf19 => ?_
    have f19 := (fx_ct 0 rfl hFf19).1
    refine e_callV m_C_refuse 11 lw_good d_C_thing_22 (k_C_refuse _) ⟨Nat.le_of_ble_eq_true rfl, Nat.le_of_ble_eq_true rfl⟩ w_297 w_299 w_s0 (q_C _) rfl f19 (args := [(0, (-1))]) rfl rfl (Nat.le_of_ble_eq_true rfl) (kc' := kc) (ks' := ks) (mc := 0) (ms := 0) rfl rfl h ?_
    intro v20 G21 h
    exact e_iret d_C_thing_25 rfl h
  refine e_iload_n d_C_thing_0 rfl ?_
  refine e_iconst d_C_thing_1 (by decide) ?_
  refine e_iconst d_C_thing_2 (by decide) ?_
  refine e_callS m_C_within lw_good d_C_thing_3 (k_C_within _) ⟨Nat.le_of_ble_eq_true rfl, Nat.le_of_ble_eq_true rfl⟩ w_294 w_295 (args := [(0, p1), (0, 0), (0, 3)]) rfl rfl (Nat.le_of_ble_eq_true rfl) (kc' := kc) (ks' := ks) (mc := 0) (ms := 0) rfl rfl (c_C_within) (pureK ?_)
  refine e_if_eq (tgt := 20) d_C_thing_6 (by decide) (fun q1 => ?_) (fun q2 => ?_)
  · replace q1 := gb0.mp q1
    exact kJ18 (Or.inl q1)
  · replace q2 := gb1.mp q2
    have h := h q2
    refine e_iload d_C_thing_9 rfl ?_
    refine e_iconst d_C_thing_11 (by decide) ?_
    refine e_bipush d_C_thing_12 (by decide) (by decide) ?_
    refine e_callS m_C_within lw_good d_C_thing_14 (k_C_within _) ⟨Nat.le_of_ble_eq_true rfl, Nat.le_of_ble_eq_true rfl⟩ w_294 w_295 (args := [(0, p4), (0, 1), (0, 11)]) rfl rfl (Nat.le_of_ble_eq_true rfl) (kc' := kc) (ks' := ks) (mc := 0) (ms := 0) rfl rfl (c_C_within) (pureK ?_)
    refine e_if_ne (tgt := 26) d_C_thing_17 (by decide) (fun q3 => ?_) (fun q4 => ?_)
    · replace q3 := gb1.mp q3
      have h := h q3
      refine e_iload_n d_C_thing_26 rfl ?_
      refine e_iconst d_C_thing_27 (by decide) ?_
      refine e_bipush d_C_thing_28 (by decide) (by decide) ?_
      refine e_callS m_C_within lw_good d_C_thing_30 (k_C_within _) ⟨Nat.le_of_ble_eq_true rfl, Nat.le_of_ble_eq_true rfl⟩ w_294 w_295 (args := [(0, p2), (0, 1), (0, 100)]) rfl rfl (Nat.le_of_ble_eq_true rfl) (kc' := kc) (ks' := ks) (mc := 0) (ms := 0) rfl rfl (c_C_within) (pureK ?_)
      refine e_if_eq (tgt := 56) d_C_thing_33 (by decide) (fun q5 => ?_) (fun q6 => ?_)
      · replace q5 := gb0.mp q5
        exact kJ22 (Or.inl ⟨q2, q3, q5⟩)
      · replace q6 := gb1.mp q6
        have h := h q6
        refine e_iload_n d_C_thing_36 rfl ?_
        refine e_iconst d_C_thing_37 (by decide) ?_
        refine e_iconst d_C_thing_38 (by decide) ?_
        refine e_callS m_C_within lw_good d_C_thing_39 (k_C_within _) ⟨Nat.le_of_ble_eq_true rfl, Nat.le_of_ble_eq_true rfl⟩ w_294 w_295 (args := [(0, p3), (0, 1), (0, 4)]) rfl rfl (Nat.le_of_ble_eq_true rfl) (kc' := kc) (ks' := ks) (mc := 0) (ms := 0) rfl rfl (c_C_within) (pureK ?_)
        refine e_if_eq (tgt := 56) d_C_thing_42 (by decide) (fun q7 => ?_) (fun q8 => ?_)
        · replace q7 := gb0.mp q7
          exact kJ22 (Or.inr (Or.inl ⟨q2, q3, q6, q7⟩))
        · replace q8 := gb1.mp q8
          have h := h q8
          refine e_iload d_C_thing_45 rfl ?_
          refine e_iconst d_C_thing_47 (by decide) ?_
          refine e_bipush d_C_thing_48 (by decide) (by decide) ?_
          refine e_callS m_C_within lw_good d_C_thing_50 (k_C_within _) ⟨Nat.le_of_ble_eq_true rfl, Nat.le_of_ble_eq_true rfl⟩ w_294 w_295 (args := [(0, p5), (0, 0), (0, 20)]) rfl rfl (Nat.le_of_ble_eq_true rfl) (kc' := kc) (ks' := ks) (mc := 0) (ms := 0) rfl rfl (c_C_within) (pureK ?_)
          refine e_if_ne (tgt := 63) d_C_thing_53 (by decide) (fun q9 => ?_) (fun q10 => ?_)
          · replace q9 := gb1.mp q9
            have h := h q9
            refine e_aload_n d_C_thing_63 rfl ?_
            refine e_iload_n d_C_thing_64 rfl ?_
            refine e_iload_n d_C_thing_65 rfl ?_
            refine e_iload_n d_C_thing_66 rfl ?_
            refine e_iload d_C_thing_67 rfl ?_
            refine e_iload d_C_thing_69 rfl ?_
            refine EV.inv fun hFf11 => ?_
            have f11 := (fx_ct 0 rfl hFf11).1
            obtain ⟨kc14, ks15, mc16, ms17, hkc14, hks15, h⟩ := h
            refine e_callV m_C_addThing 11 lw_good d_C_thing_71 (k_C_addThing _) ⟨Nat.le_of_ble_eq_true rfl, Nat.le_of_ble_eq_true rfl⟩ w_417 w_419 w_s6 (q_C _) rfl f11 (args := [(0, p1), (0, p2), (0, p3), (0, p4), (0, p5)]) rfl rfl (Nat.le_of_ble_eq_true rfl) (kc' := kc14) (ks' := ks15) (mc := mc16) (ms := ms17) hkc14 hks15 h ?_
            intro v12 G13 h
            exact e_iret d_C_thing_74 rfl h
          · replace q10 := gb0.mp q10
            exact kJ22 (Or.inr (Or.inr ⟨q2, q3, q6, q8, q10⟩))
    · replace q4 := gb0.mp q4
      exact kJ18 (Or.inr ⟨q2, q4⟩)
/-- a new thing as it is -/
def zNT (a p1 p2 p3 p4 p5 p6 : Int) (G G1 : gH) : Prop := (G1 592 a 0 = p1 ∧ G1 593 a 0 = p2 ∧ G1 594 a 0 = p3 ∧ G1 595 a 0 = p4 ∧ G1 596 a 0 = p5 ∧ G1 597 a 0 = p6 ∧ G1 598 a 0 = 100 + p5 ∧ G1 600 a 0 = -1 ∧ ∀ c : Nat, c = 599 ∨ c = 605 ∨ c = 607 → G1 c a 0 = G c a 0) ∧ (G1 604 a 0 = G 9 0 0 ∧ G1 0 (G 9 0 0) 0 = 100 ∧ G1 0 (G 9 0 0) 1 = 12) ∧ (G1 606 a 0 = G 9 0 0 + 1 ∧ G1 0 (G 9 0 0 + 1) 0 = 100 ∧ G1 0 (G 9 0 0 + 1) 1 = 18) ∧ G1 9 0 0 = G 9 0 0 + 2 ∧ ∀ (c : Nat) (i j : Int), c ≠ 9 → i < G 9 0 0 → ¬ (i = a ∧ c ≠ 0) → G1 c i j = G c i j
theorem c_Thing_init {e : gE} {b : Nat} {m : Int} {G : gH} {a p1 p2 p3 p4 p5 p6 : Int} (h : G 0 a 0 = 10) (ha : m + 45 < a) (h5 : 0 ≤ p5 ∧ p5 ≤ 11) : GX e b m m_Thing_init [(2, a), (0, p1), (0, p2), (0, p3), (0, p4), (0, p5), (0, p6)] G 2 30 (fun _ G1 => zNT a p1 p2 p3 p4 p5 p6 G G1) := by
  refine GM.tg fun hT => GM.inv fun hF => ?_
  have hlo := fx_lo hF
  have h1 := hT a (by omega)
  refine GM.ofEV (by decide) (Nat.le_of_ble_eq_true rfl) (sg_Thing_init_0 h ⟨by omega, by omega, ha, ?_⟩)
  rintro _ rfl _ rfl _ rfl _ rfl _ rfl _ rfl
  refine ⟨by omega, ?_⟩
  rintro _ rfl _ rfl H hH
  have e1 : H 592 a 0 = p1 ∧ H 593 a 0 = p2 ∧ H 594 a 0 = p3 ∧ H 595 a 0 = p4 ∧ H 596 a 0 = p5 ∧ H 597 a 0 = p6 ∧ H 598 a 0 = 100 + p5 ∧ H 600 a 0 = -1 := by
    rw [hH]
    refine ⟨?_, ?_, ?_, ?_, ?_, ?_, ?_, ?_⟩
    · rw [gU_c _ (by decide), gU_c _ (by decide), gU_c _ (by decide), gU_c _ (by decide), gU_c _ (by decide), gU_c _ (by decide), gU_c _ (by decide), gU_c _ (by decide), gU_eq]
    · rw [gU_c _ (by decide), gU_c _ (by decide), gU_c _ (by decide), gU_c _ (by decide), gU_c _ (by decide), gU_c _ (by decide), gU_c _ (by decide), gU_eq]
    · rw [gU_c _ (by decide), gU_c _ (by decide), gU_c _ (by decide), gU_c _ (by decide), gU_c _ (by decide), gU_c _ (by decide), gU_eq]
    · rw [gU_c _ (by decide), gU_c _ (by decide), gU_c _ (by decide), gU_c _ (by decide), gU_c _ (by decide), gU_eq]
    · rw [gU_c _ (by decide), gU_c _ (by decide), gU_c _ (by decide), gU_c _ (by decide), gU_eq]
    · rw [gU_c _ (by decide), gU_c _ (by decide), gU_c _ (by decide), gU_eq]
    · rw [gU_c _ (by decide), gU_c _ (by decide), gU_eq]
    · rw [gU_c _ (by decide), gU_eq]
  have e2 : ∀ (c : Nat) (i j : Int), ¬ (i = a ∧ (592 ≤ c ∧ c ≤ 598 ∨ c = 600 ∨ c = 601)) → H c i j = G c i j := fun c i j z => by
    rw [hH, gU_ne (by omega), gU_ne (by omega), gU_ne (by omega), gU_ne (by omega), gU_ne (by omega), gU_ne (by omega), gU_ne (by omega), gU_ne (by omega), gU_ne (by omega)]
  clear hH
  have e9 : H 9 0 0 = G 9 0 0 := e2 _ _ _ (by omega)
  refine ⟨1, 18, rfl, rfl, by decide, ?_⟩
  rw [e9]
  rintro _ rfl _ rfl
  refine ⟨by rw [gN_old (by omega) (by decide), e2 _ _ _ (by omega)]; exact h, ?_⟩
  rintro H2 hH2
  have n9 : H2 9 0 0 = G 9 0 0 + 1 := by rw [hH2, gU_c _ (by decide), gN_nxt, e9]
  have e3 : ∀ (c : Nat) (i j : Int), c ≠ 9 → i < G 9 0 0 → ¬ (i = a ∧ c = 604) → H2 c i j = H c i j := fun c i j c9 i1 z => by rw [hH2, gU_ne (by omega), gN_old (by omega) c9]
  have e4 : H2 604 a 0 = G 9 0 0 ∧ H2 0 (G 9 0 0) 0 = 100 ∧ H2 0 (G 9 0 0) 1 = 12 := by
    rw [hH2]
    exact ⟨gU_eq, by rw [gU_c _ (by decide), ← e9, gN_tag], by rw [gU_c _ (by decide), ← e9, gN_len]⟩
  clear hH2
  refine ⟨0, 0, rfl, rfl, by decide, ?_⟩
  rw [n9]
  rintro _ rfl _ rfl
  refine ⟨by rw [gN_old (by omega) (by decide), e3 _ _ _ (by decide) (by omega) (by omega), e2 _ _ _ (by omega)]; exact h, ?_⟩
  rintro _ rfl
  have o : ∀ (c : Nat) (i j : Int), c ≠ 9 → i ≤ G 9 0 0 → ¬ (i = a ∧ c = 606) → gU (gN H2 100 18) 606 a 0 (G 9 0 0 + 1) c i j = H2 c i j := fun c i j c9 i1 z => by rw [gU_ne (by omega), gN_old (by omega) c9]
  obtain ⟨f1, f2, f3, f4, f5, f6, f7, f8⟩ := e1
  refine ⟨⟨?_, ?_, ?_, ?_, ?_, ?_, ?_, ?_, fun c hc => ?_⟩, ⟨?_, ?_, ?_⟩, ⟨gU_eq, ?_, ?_⟩, ?_, fun c i j c1 i1 c2 => ?_⟩
  · rw [o _ _ _ (by decide) (by omega) (by omega), e3 _ _ _ (by decide) (by omega) (by omega), f1]
  · rw [o _ _ _ (by decide) (by omega) (by omega), e3 _ _ _ (by decide) (by omega) (by omega), f2]
  · rw [o _ _ _ (by decide) (by omega) (by omega), e3 _ _ _ (by decide) (by omega) (by omega), f3]
  · rw [o _ _ _ (by decide) (by omega) (by omega), e3 _ _ _ (by decide) (by omega) (by omega), f4]
  · rw [o _ _ _ (by decide) (by omega) (by omega), e3 _ _ _ (by decide) (by omega) (by omega), f5]
  · rw [o _ _ _ (by decide) (by omega) (by omega), e3 _ _ _ (by decide) (by omega) (by omega), f6]
  · rw [o _ _ _ (by decide) (by omega) (by omega), e3 _ _ _ (by decide) (by omega) (by omega), f7]
  · rw [o _ _ _ (by decide) (by omega) (by omega), e3 _ _ _ (by decide) (by omega) (by omega), f8]
  · rw [o _ _ _ (by omega) (by omega) (by omega), e3 _ _ _ (by omega) (by omega) (by omega), e2 _ _ _ (by omega)]
  · rw [o _ _ _ (by decide) (by omega) (by omega)]; exact e4.1
  · rw [o _ _ _ (by decide) (by omega) (by omega)]; exact e4.2.1
  · rw [o _ _ _ (by decide) (by omega) (by omega)]; exact e4.2.2
  · rw [gU_c _ (by decide), ← n9, gN_tag]
  · rw [gU_c _ (by decide), ← n9, gN_len]
  · rw [gU_c _ (by decide), gN_nxt, n9]; omega
  · rw [o _ _ _ c1 (by omega) (by omega), e3 _ _ _ c1 i1 (by omega), e2 _ _ _ (by omega)]
def zAdd (A : zA) (k w h r p : Int) : Int × zA := if A 788 0 ≠ 0 then zNo A (-6) else if A 785 0 = 16 then zNo A (-7) else (A 785 0, zPuts A k w h r p)
/-- what a new thing wants of the state -/
def zNw (A : zA) : Prop := (A 12 (A 785 0) = 0 ∧ A 13 (A 785 0) = 0) ∧ (∀ k, 0 ≤ k → k < A 794 0 → A 35 k < A 785 0) ∧ ∀ k, A 17 k < A 785 0
theorem zPuts_ch {A : zA} {k w h r p : Int} : zCh [7, 8, 9, 10, 11, 14, 785] A (zPuts A k w h r p) := zCh_m (zCh_t (zCh_t (zCh_t (zCh_t (zCh_t (zCh_t zCh_u zCh_u) zCh_u) zCh_u) zCh_u) zCh_u) zCh_u) (by decide)
theorem zPuts_i {A : zA} {k w h r p t : Int} (z : t ≠ A 785 0) {c : Nat} (hc : c ≠ 785) : zPuts A k w h r p c t = A c t := by
  unfold zPuts
  rw [zU_k hc, zU_i z, zU_i z, zU_i z, zU_i z, zU_i z, zU_i z]
theorem zPuts_n {A : zA} {k w h r p : Int} : zPuts A k w h r p 785 0 = A 785 0 + 1 := zU_eq
theorem zPuts_v {A : zA} {k w h r p : Int} : zPuts A k w h r p 7 (A 785 0) = k ∧ zPuts A k w h r p 8 (A 785 0) = w ∧ zPuts A k w h r p 9 (A 785 0) = h ∧ zPuts A k w h r p 10 (A 785 0) = p ∧ zPuts A k w h r p 11 (A 785 0) = 100 + r ∧ zPuts A k w h r p 14 (A 785 0) = -1 := by
  unfold zPuts
  refine ⟨?_, ?_, ?_, ?_, ?_, ?_⟩
  · rw [zU_k (by decide), zU_k (by decide), zU_k (by decide), zU_k (by decide), zU_k (by decide), zU_k (by decide), zU_eq]
  · rw [zU_k (by decide), zU_k (by decide), zU_k (by decide), zU_k (by decide), zU_k (by decide), zU_eq]
  · rw [zU_k (by decide), zU_k (by decide), zU_k (by decide), zU_k (by decide), zU_eq]
  · rw [zU_k (by decide), zU_k (by decide), zU_k (by decide), zU_eq]
  · rw [zU_k (by decide), zU_k (by decide), zU_eq]
  · rw [zU_k (by decide), zU_eq]
theorem c_C_addThing {e : gE} {b : Nat} {m : Int} {G : gH} {A : zA} {p1 p2 p3 p4 p5 : Int} (hR : zRel e b m G A) (hB : zB 512 A) (hz : zNw A) (hr : 1 ≤ p4 ∧ p4 ≤ 11) : GX e b m m_C_addThing [(2, ((b : Int) + 1)), (0, p1), (0, p2), (0, p3), (0, p4), (0, p5)] G 4 86 (zCQ e b m G (zAdd A p1 p2 p3 p4 p5)) := by
  refine GM.tg fun hTg => GM.inv fun hF => ?_
  have hlo := fx_lo hF
  have hr := hR
  obtain ⟨T, Q, P, ⟨r1, r2, r3, r4⟩, hT, hQ, hP, hJ, hD⟩ := hr
  have b0 : 0 ≤ A 785 0 ∧ A 785 0 ≤ 16 := hB 785 0
  have b1 : 0 ≤ A 788 0 ∧ A 788 0 ≤ 2 := hB 788 0
  have b2 : 0 ≤ A 794 0 ∧ _ := hB 794 0
  refine GM.ofEV (by decide) (Nat.le_of_ble_eq_true rfl) (sg_C_addThing_0 ?_)
  rw [hT.1.2.1, r2.2.2.2.1]
  refine ⟨fun q1 => ⟨hT.1.1, fun q4 => ?_, fun q4 => ?_⟩, fun q => ?_⟩
  · rw [show zAdd A p1 p2 p3 p4 p5 = (A 785 0, zPuts A p1 p2 p3 p4 p5) from by unfold zAdd; rw [if_neg (show ¬ A 788 0 ≠ 0 by omega), if_neg (show ¬ A 785 0 = 16 by omega)]]
    refine ⟨3, 70, rfl, rfl, ?_⟩
    rintro _ rfl _ rfl
    refine ⟨by omega, 1, 40, 2, 30, rfl, rfl, GM.mono (c_Thing_init gN_tag (by omega) (by omega)) ?_⟩
    rintro _ G1 ⟨⟨n1, n2, n3, n4, n5, n6, n7, n8, n9⟩, ⟨n10, n11, n12⟩, ⟨n13, n14, n15⟩, n16, n17⟩
    rw [gN_nxt] at *
    have m1 : G1 599 (G 9 0 0) 0 = 0 := by rw [n9 _ (Or.inl rfl), gN_new (by decide) (by decide)]
    have m2 : G1 605 (G 9 0 0) 0 = 0 := by rw [n9 _ (Or.inr (Or.inl rfl)), gN_new (by decide) (by decide)]
    have m3 : G1 607 (G 9 0 0) 0 = 0 := by rw [n9 _ (Or.inr (Or.inr rfl)), gN_new (by decide) (by decide)]
    have fw : zFW m [] G G1 := ⟨by omega, fun c i j c9 i1 _ => by rw [n17 c i j c9 (by omega) (by omega), gN_old (by omega) c9]⟩
    have t5 : G1 0 (G 9 0 0) 0 = 10 := by rw [n17 0 _ _ (by decide) (by omega) (by omega), gN_tag]
    have l1 : zAL e b m G1 ((b : Int) + 2) 10 (A 785 0) T := zAL_fw hTg hlo (by decide) fw (by decide) (by decide) hT.1
    refine ⟨0, 0, 1, 40, rfl, rfl, GM.mono (c_AL_add_b gr_Thing (by decide) l1 (by omega) t5 (by omega)) ?_⟩
    rintro _ G2 ⟨l2, af1⟩
    have af : zAF ((b : Int) + 2) G G2 := zAF_t (zAF_fw hlo (by decide) fw) af1
    have sx := zSx_af hlo af
    have hk : zLs 2 := by decide
    have qc : zCh [7, 8, 9, 10, 11, 14, 785] A (zPuts A p1 p2 p3 p4 p5) := zPuts_ch
    have o0 : ∀ i j, G 0 i 0 ≠ 0 → G2 0 i j = G 0 i j := fun i j z => af.2.2 0 i j (by decide) (hTg i z).2 (by omega) (by omega)
    have aT : ∀ t, 0 ≤ t → t < A 785 0 → T t < G 9 0 0 := fun t t1 t2 => (hTg _ (by have := hT.1.2.2.1 t t1 t2; omega)).2
    have aS : ∀ t, 0 ≤ t → t < A 785 0 → G 604 (T t) 0 < G 9 0 0 := fun t t1 t2 => (hTg _ (by have := (hT.2.1 t t1 t2).2.1.2.1.1; omega : G 0 (G 604 (T t) 0) 0 ≠ 0)).2
    have aP : ∀ t, 0 ≤ t → t < A 785 0 → G 606 (T t) 0 < G 9 0 0 := fun t t1 t2 => (hTg _ (by have := (hT.2.1 t t1 t2).2.2.2.1.1; omega : G 0 (G 606 (T t) 0) 0 ≠ 0)).2
    have oT : ∀ (c : Nat) t, 0 ≤ t → t < A 785 0 → 592 ≤ c ∧ c ≤ 607 → G2 c (T t) 0 = G c (T t) 0 := fun c t t1 t2 hc => af.2.2 c _ _ (by omega) (aT t t1 t2) (by omega) (by omega)
    have oN : ∀ (c : Nat), 592 ≤ c ∧ c ≤ 607 → G2 c (G 9 0 0) 0 = G1 c (G 9 0 0) 0 := fun c hc => af1.2.2 c _ _ (by omega) (by omega) (by omega) (by omega)
    have s0 : zSeals A (A 785 0) = 0 := by
      have : zS (fun k => if A 35 k = A 785 0 then (1 : Int) else 0) (A 794 0) = zS (fun _ => 0) (A 794 0) := zS_eq _ b2.1 (fun i i1 i2 => if_neg (by have := hz.2.1 i i1 i2; omega))
      unfold zSeals
      rw [this]
      have w := zS_b (f := fun _ => (0 : Int)) (c := 0) (A 794 0) (fun _ _ _ => ⟨Int.le_refl _, Int.le_refl _⟩) b2.1 (Int.le_refl _)
      omega
    have pv := zPuts_v (A := A) (k := p1) (w := p2) (h := p3) (r := p4) (p := p5)
    refine zCQ_mk rfl ⟨zPut T (A 785 0) (G 9 0 0), Q, P, ⟨zR1_A qc (by decide) (zR1_G sx (by decide +kernel) r1), zR2_A qc (by decide) (zR2_G sx (by decide +kernel) r2), zR3_A qc (by decide) (zR3_G sx (by decide +kernel) r3), zR4_A qc (by decide) (zR4_G sx (by decide +kernel) r4)⟩, ⟨by rw [zPuts_n]; exact l2, fun t t1 t2 => ?_, fun s t s1 s2 t1 t2 => ?_⟩, zRkQ_A qc (by decide) ⟨(zRkQ_af hTg hlo hD hk (by decide) af hQ).1, fun k k1 k2 => ?_, hQ.2.2⟩, zRkP_A qc (by decide) (zRkP_af hTg hlo hD hk (by decide) af hP), ?_, zDst_af hTg hlo (zLs_0 hT hQ hP hJ) hk af hD⟩ (zRf_af hF (by decide) (zLs_5 hT hQ hP hJ _ hk) af)
    · rw [zPuts_n] at t2
      by_cases z : t = A 785 0
      · subst z
        rw [zPut_eq]
        refine ⟨?_, ?_, ?_⟩
        · unfold zThR
          rw [af1.2.2 0 _ _ (by decide) (by omega) (by omega) (by omega), t5, oN _ (by decide), oN _ (by decide), oN _ (by decide), oN _ (by decide), oN _ (by decide), oN _ (by decide), oN _ (by decide), oN _ (by decide), oN _ (by decide), n1, n2, n3, n4, n5, n6, n7, n8, m1, pv.1, pv.2.1, pv.2.2.1, pv.2.2.2.1, pv.2.2.2.2.1, qc 12 (by decide), hz.1.1]
          refine ⟨⟨rfl, by omega⟩, rfl, rfl, rfl, rfl, rfl, rfl, rfl, ?_, fun _ => by omega⟩
          unfold zTau zIn
          rw [pv.2.2.2.2.1, pv.2.2.2.2.2, if_neg (by omega), if_pos (by omega)]
        · unfold zSlR
          have e1 : zSeals (zPuts A p1 p2 p3 p4 p5) (A 785 0) = zSeals A (A 785 0) := by
            unfold zSeals
            rw [qc 35 (by decide), qc 794 (by decide)]
          rw [e1, s0, oN _ (by decide), oN _ (by decide), n10, m2, af1.2.2 0 _ _ (by decide) (by omega) (by omega) (by omega), af1.2.2 0 _ _ (by decide) (by omega) (by omega) (by omega), n11, n12]
          refine ⟨⟨rfl, by omega⟩, ⟨rfl, rfl⟩, fun k k1 k2 k3 => ?_⟩
          rw [qc 794 (by decide)] at k2
          rw [qc 35 (by decide)] at k3
          have := hz.2.1 k k1 k2
          omega
        · unfold zPpR
          rw [oN _ (by decide), oN _ (by decide), n13, m3, af1.2.2 0 _ _ (by decide) (by omega) (by omega) (by omega), af1.2.2 0 _ _ (by decide) (by omega) (by omega) (by omega), n14, n15, qc 13 (by decide), hz.1.2]
          exact ⟨⟨rfl, by omega⟩, ⟨rfl, rfl⟩, fun i i1 i2 => by omega⟩
      · have t3 : t < A 785 0 := by omega
        obtain ⟨w1, w2, w3⟩ := hT.2.1 t t1 t3
        rw [zPut_lt t3]
        have eτ : zTau (zPuts A p1 p2 p3 p4 p5) t = zTau A t := by
          unfold zTau zIn
          rw [zPuts_i z (by decide), zPuts_i z (by decide)]
        refine ⟨?_, ?_, ?_⟩
        · rw [eτ]
          have := zThR_fr w1 o0 (fun c hc => oT c t t1 t3 (by omega))
          unfold zThR zIn at *
          rw [zPuts_i z (by decide), zPuts_i z (by decide), zPuts_i z (by decide), zPuts_i z (by decide), zPuts_i z (by decide), qc 12 (by decide)]
          exact this
        · have := zSlR_fr w2 o0 (oT _ t t1 t3 (by decide)) (oT _ t t1 t3 (by decide)) (fun j => af.2.2 1 _ j (by decide) (aS t t1 t3) (by omega) (by omega))
          unfold zSlR zSeals zRank at *
          rw [qc 35 (by decide), qc 36 (by decide), qc 37 (by decide), qc 38 (by decide), qc 794 (by decide)]
          exact this
        · have := zPpR_fr w3 o0 (oT _ t t1 t3 (by decide)) (oT _ t t1 t3 (by decide)) (fun j => af.2.2 1 _ j (by decide) (aP t t1 t3) (by omega) (by omega))
          unfold zPpR at *
          rw [qc 13 (by decide), qc 32 (by decide), qc 33 (by decide), qc 34 (by decide)]
          exact this
    · rw [zPuts_n] at s2 t2
      have nn : G2 604 (G 9 0 0) 0 = G 9 0 0 + 1 ∧ G2 606 (G 9 0 0) 0 = G 9 0 0 + 2 := ⟨by rw [oN _ (by decide), n10], by rw [oN _ (by decide), n13]; omega⟩
      by_cases zs : s = A 785 0
      · by_cases zt : t = A 785 0
        · rw [zs, zt, zPut_eq, nn.1, nn.2]
          exact ⟨fun _ => rfl, fun _ => rfl, by omega⟩
        · have t3 : t < A 785 0 := by omega
          have a1 := aS t t1 t3
          have a2 := aP t t1 t3
          rw [zs, zPut_eq, zPut_lt t3, nn.1, nn.2, oT _ t t1 t3 (by decide), oT _ t t1 t3 (by decide)]
          exact ⟨fun _ => by omega, fun _ => by omega, by omega⟩
      · have s3 : s < A 785 0 := by omega
        have a1 := aS s s1 s3
        have a2 := aP s s1 s3
        by_cases zt : t = A 785 0
        · rw [zt, zPut_eq, zPut_lt s3, nn.1, nn.2, oT _ s s1 s3 (by decide), oT _ s s1 s3 (by decide)]
          exact ⟨fun _ => by omega, fun _ => by omega, by omega⟩
        · have t3 : t < A 785 0 := by omega
          rw [zPut_lt t3, zPut_lt s3, oT _ s s1 s3 (by decide), oT _ s s1 s3 (by decide), oT _ t t1 t3 (by decide), oT _ t t1 t3 (by decide)]
          exact hT.2.2 s t s1 s3 t1 t3
    · have w := (zRkQ_af hTg hlo hD hk (by decide) af hQ).2.1 k k1 k2
      have := hz.2.2 k
      rw [zPut_lt this]
      exact w
    · obtain ⟨⟨n, f, h1, h2⟩, ⟨n2, f2, h3⟩, ⟨n3, f3, h4⟩⟩ := hJ
      refine ⟨⟨n, f, zAL_af hTg hlo hD hk (by decide) (by decide) af (by decide) h1, fun q => ?_⟩, ⟨n2, f2, zAL_af hTg hlo hD hk (by decide) (by decide) af (by decide) h3⟩, ⟨n3, f3, zAL_af hTg hlo hD hk (by decide) (by decide) af (by decide) h4⟩⟩
      rw [qc 788 (by decide)] at q
      omega
  · rw [show zAdd A p1 p2 p3 p4 p5 = zNo A (-7) from by unfold zAdd; rw [if_neg (show ¬ A 788 0 ≠ 0 by omega), if_pos (show A 785 0 = 16 by omega)]]
    exact c_C_refuse hR hB (by decide)
  · rw [show zAdd A p1 p2 p3 p4 p5 = zNo A (-6) from by unfold zAdd; rw [if_pos q]]
    exact c_C_refuse hR hB (by decide)
theorem c_C_thing {e : gE} {b : Nat} {m : Int} {G : gH} {A : zA} {p1 p2 p3 p4 p5 : Int} (hR : zRel e b m G A) (hB : zB 512 A) (hz : zNw A) : GX e b m m_C_thing [(2, ((b : Int) + 1)), (0, p1), (0, p2), (0, p3), (0, p4), (0, p5)] G 4 86 (zCQ e b m G (zfThing A p1 p2 p3 p4 p5)) := by
  refine GM.inv fun hF => ?_
  refine GM.ofEV (by decide) (Nat.le_of_ble_eq_true rfl) (sg_C_thing_0 ?_)
  refine ⟨fun q1 q2 q3 q4 q5 => ?_, fun q => ?_, fun q => ?_⟩
  · refine ⟨0, 0, 4, 86, rfl, rfl, ?_⟩
    have : zfThing A p1 p2 p3 p4 p5 = zAdd A p1 p2 p3 p4 p5 := by
      unfold zfThing zAdd
      rw [if_neg (show ¬ (p1 < 0 ∨ p1 > 3 ∨ p4 < 1 ∨ p4 > 11) by omega)]
      by_cases z : A 788 0 ≠ 0
      · rw [if_pos z, if_pos (by omega)]
      · rw [if_neg z, if_neg (show ¬ (p2 < 1 ∨ p2 > 100 ∨ p3 < 1 ∨ p3 > 4 ∨ p5 < 0 ∨ p5 > 20 ∨ A 788 0 ≠ 0) by omega)]
    rw [this]
    exact c_C_addThing hR hB hz q2
  · rw [show zfThing A p1 p2 p3 p4 p5 = zNo A (-1) from by unfold zfThing; rw [if_pos (show p1 < 0 ∨ p1 > 3 ∨ p4 < 1 ∨ p4 > 11 by omega)]]
    exact c_C_refuse hR hB (by decide)
  · rw [show zfThing A p1 p2 p3 p4 p5 = zNo A (-6) from by unfold zfThing; rw [if_neg (show ¬ (p1 < 0 ∨ p1 > 3 ∨ p4 < 1 ∨ p4 > 11) by omega), if_pos (show (p2 < 1 ∨ p2 > 100 ∨ p3 < 1 ∨ p3 > 4 ∨ p5 < 0 ∨ p5 > 20 ∨ A 788 0 ≠ 0) by omega)]]
    exact c_C_refuse hR hB (by decide)
