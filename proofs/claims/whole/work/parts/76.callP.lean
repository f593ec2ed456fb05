/-! THE CLASS, 27: a new team -/
set_option maxRecDepth 20000 in
set_option maxHeartbeats 4000000 in
theorem sg_Team_init_0 {e : gE} {b : Nat} {m : Int} {Z : Int → gH → Prop} {kc ks : Nat} {G : gH} {a0 p1 : Int} (t0 : G 0 a0 0 = 9) (h : (a0 ≠ 0) ∧ (((b : Int) < a0) ∧ ((m + 45 < a0) ∧ (∀ G4 : gH, G4 = gU G 528 a0 0 p1 → Z 0 G4)))) : EX e b m m_Team_init Z kc ks 0 [(2, a0), (0, p1)] [] G := by
  refine e_aload_n d_Team_init_0 rfl ?_
  obtain ⟨o1, h⟩ := h
  refine e_objI d_Team_init_1 w_342 w_33 w_34 o1 (by decide) (Nat.le_of_ble_eq_true rfl) (Nat.le_trans (gcat _) (by simp)) ?_
  refine e_aload_n d_Team_init_4 rfl ?_
  refine e_iload_n d_Team_init_5 rfl ?_
  obtain ⟨o2, o3, h⟩ := h
  refine gp_Team_9 d_Team_init_6 rfl rfl t0 o2 (fx_Uf (by decide) o3) ?_
  let G4 : gH := gU G 528 a0 0 p1
  have h := h G4 rfl
  exact e_vret d_Team_init_9 rfl h
set_option maxRecDepth 20000 in
set_option maxHeartbeats 4000000 in
theorem sg_Hours_addTeam_0 {e : gE} {b : Nat} {m : Int} {Z : Int → gH → Prop} {kc ks : Nat} {G : gH} {p1 : Int} (h : ∃ kc1 ks2 : Nat, kc = kc1 + 1 ∧ ks = ks2 + 3 ∧ (∀ a3 : Int, a3 = G 9 0 0 → ∀ G4 : gH, G4 = gN G 9 0 → (a3 ≠ 0) ∧ ∃ kc8 ks9 mc10 ms11 : Nat, kc1 = kc8 + mc10 ∧ ks2 = ks9 + ms11 ∧ GX e b m m_Team_init [(2, a3), (0, p1)] G4 mc10 ms11 (fun _ G7 => ∃ kc15 ks16 mc17 ms18 : Nat, kc8 = kc15 + mc17 ∧ ks9 = ks16 + ms18 ∧ GX e b m m_AL_add_b [(2, ((b : Int) + 11)), (2, a3)] G7 mc17 ms18 (fun v13 G14 => (G14 0 ((b : Int) + 11) 0 = 1) ∧ (inI ((G14 18 ((b : Int) + 11) 0) - 1)) ∧ Z ((G14 18 ((b : Int) + 11) 0) - 1) G14)))) : EX e b m m_Hours_addTeam Z kc ks 0 [(2, ((b : Int) + 10)), (0, p1)] [] G := by
  refine e_aload_n d_Hours_addTeam_0 rfl ?_
  refine gx_Hours_18 d_Hours_addTeam_1 rfl ?_
  obtain ⟨kc1, ks2, hkc1, hks2, h⟩ := h
  refine e_new 8 d_Hours_addTeam_4 (q_Team _) w_337 w_338 w_14 hkc1 hks2 fx_N ?_
  let a3 : Int := G 9 0 0
  have h := h a3 rfl
  let G4 : gH := gN G 9 0
  have h := h G4 rfl
  refine e_dup d_Hours_addTeam_7 (by simp) ?_
  refine e_iload_n d_Hours_addTeam_8 rfl ?_
  obtain ⟨o5, h⟩ := h
  obtain ⟨kc8, ks9, mc10, ms11, hkc8, hks9, h⟩ := h
  refine e_callI m_Team_init lw_good d_Hours_addTeam_9 (k_Team_init _) ⟨Nat.le_of_ble_eq_true rfl, Nat.le_of_ble_eq_true rfl⟩ w_339 w_340 rfl rfl o5 (args := [(0, p1)]) rfl rfl (Nat.le_of_ble_eq_true rfl) (kc' := kc8) (ks' := ks9) (mc := mc10) (ms := ms11) hkc8 hks9 h ?_
  intro v6 G7 h
  refine EV.inv fun hFf12 => ?_
  have f12 := (fx_ct 10 rfl hFf12).1
  obtain ⟨kc15, ks16, mc17, ms18, hkc15, hks16, h⟩ := h
  refine e_callV m_AL_add_b 0 lw_good d_Hours_addTeam_12 (k_AL_add_b _) ⟨Nat.le_of_ble_eq_true rfl, Nat.le_of_ble_eq_true rfl⟩ w_353 w_354 w_355 (q_AL _) rfl f12 (args := [(2, a3)]) rfl rfl (Nat.le_of_ble_eq_true rfl) (kc' := kc15) (ks' := ks16) (mc := mc17) (ms := ms18) hkc15 hks16 h ?_
  intro v13 G14 h
  refine e_pop d_Hours_addTeam_15 (by simp) ?_
  refine e_aload_n d_Hours_addTeam_16 rfl ?_
  refine gx_Hours_18 d_Hours_addTeam_17 rfl ?_
  refine EV.inv fun hFf19 => ?_
  have f19 := (fx_ct 10 rfl hFf19).1
  obtain ⟨o20, h⟩ := h
  refine e_callV m_AL_size 0 lw_good d_Hours_addTeam_20 (k_AL_size _) ⟨Nat.le_of_ble_eq_true rfl, Nat.le_of_ble_eq_true rfl⟩ w_329 w_330 w_331 (q_AL _) rfl f19 (args := []) rfl rfl (Nat.le_of_ble_eq_true rfl) (kc' := kc15) (ks' := ks16) (mc := 0) (ms := 0) rfl rfl (c_AL_size o20) (pureK ?_)
  refine e_iconst d_Hours_addTeam_23 (by decide) ?_
  obtain ⟨o21, h⟩ := h
  refine e_isub d_Hours_addTeam_24 o21 ?_
  exact e_iret d_Hours_addTeam_25 rfl h
set_option maxRecDepth 20000 in
set_option maxHeartbeats 4000000 in
theorem sg_C_team_0 {e : gE} {b : Nat} {m : Int} {Z : Int → gH → Prop} {kc ks : Nat} {G : gH} {p1 : Int} (h : ((1 ≤ p1 ∧ p1 ≤ 4) → ((G 730 ((b : Int) + 1) 0) = 0 → (G 0 ((b : Int) + 11) 0 = 1) ∧ (((G 18 ((b : Int) + 11) 0) < 3 → ∃ kc12 ks13 mc14 ms15 : Nat, kc = kc12 + mc14 ∧ ks = ks13 + ms15 ∧ GX e b m m_Hours_addTeam [(2, ((b : Int) + 10)), (0, p1)] G mc14 ms15 (fun v10 G11 => Z v10 G11)) ∧ (3 ≤ (G 18 ((b : Int) + 11) 0) → GX e b m m_C_refuse [(2, ((b : Int) + 1)), (0, (-7))] G 0 0 (fun v17 G18 => Z v17 G18))))) ∧ ((((¬ (1 ≤ p1 ∧ p1 ≤ 4))) ∨ ((1 ≤ p1 ∧ p1 ≤ 4) ∧ (G 730 ((b : Int) + 1) 0) ≠ 0)) → GX e b m m_C_refuse [(2, ((b : Int) + 1)), (0, (-6))] G 0 0 (fun v21 G22 => Z v21 G22))) : EX e b m m_C_team Z kc ks 0 [(2, ((b : Int) + 1)), (0, p1)] [] G := by
  obtain ⟨h, hJ19⟩ := h
  have kJ19 : (((¬ (1 ≤ p1 ∧ p1 ≤ 4))) ∨ ((1 ≤ p1 ∧ p1 ≤ 4) ∧ (G 730 ((b : Int) + 1) 0) ≠ 0)) → EX e b m m_C_team Z kc ks 16 [(2, ((b : Int) + 1)), (0, p1)] [] G := by
    intro rJ19
    have h := hJ19 rJ19
    refine e_aload_n d_C_team_16 rfl ?_
    refine e_bipush d_C_team_17 (by decide) (by decide) ?_
    refine EV.inv fun hFf20 => ?_
    have f20 := (fx_ct 0 rfl hFf20).1
    refine e_callV m_C_refuse 11 lw_good d_C_team_19 (k_C_refuse _) ⟨Nat.le_of_ble_eq_true rfl, Nat.le_of_ble_eq_true rfl⟩ w_297 w_299 w_s0 (q_C _) rfl f20 (args := [(0, (-6))]) rfl rfl (Nat.le_of_ble_eq_true rfl) (kc' := kc) (ks' := ks) (mc := 0) (ms := 0) rfl rfl h ?_
    intro v21 G22 h
    exact e_iret d_C_team_22 rfl h
  refine e_iload_n d_C_team_0 rfl ?_
  refine e_iconst d_C_team_1 (by decide) ?_
  refine e_iconst d_C_team_2 (by decide) ?_
  refine e_callS m_C_within lw_good d_C_team_3 (k_C_within _) ⟨Nat.le_of_ble_eq_true rfl, Nat.le_of_ble_eq_true rfl⟩ w_294 w_295 (args := [(0, p1), (0, 1), (0, 4)]) rfl rfl (Nat.le_of_ble_eq_true rfl) (kc' := kc) (ks' := ks) (mc := 0) (ms := 0) rfl rfl (c_C_within) (pureK ?_)
  refine e_if_eq (tgt := 16) d_C_team_6 (by decide) (fun q1 => ?_) (fun q2 => ?_)
  · replace q1 := gb0.mp q1
    exact kJ19 (Or.inl q1)
  · replace q2 := gb1.mp q2
    have h := h q2
    refine e_aload_n d_C_team_9 rfl ?_
    refine gx_C_81 d_C_team_10 rfl ?_
    refine e_if_eq (tgt := 23) d_C_team_13 (by decide) (fun q3 => ?_) (fun q4 => ?_)
    · have h := h q3
      refine e_aload_n d_C_team_23 rfl ?_
      refine gx_C_28 d_C_team_24 rfl ?_
      refine EV.inv fun hFf5 => ?_
      have f5 := (fx_ct 9 rfl hFf5).1
      obtain ⟨o6, h⟩ := h
      refine e_callV m_Hours_teamCount 1 lw_good d_C_team_27 (k_Hours_teamCount _) ⟨Nat.le_of_ble_eq_true rfl, Nat.le_of_ble_eq_true rfl⟩ w_325 w_326 w_327 (q_Hours _) rfl f5 (args := []) rfl rfl (Nat.le_of_ble_eq_true rfl) (kc' := kc) (ks' := ks) (mc := 0) (ms := 0) rfl rfl (c_Hours_teamCount o6) (pureK ?_)
      refine e_iconst d_C_team_30 (by decide) ?_
      refine e_icmp_lt (tgt := 41) d_C_team_31 (by decide) (fun q7 => ?_) (fun q8 => ?_)
      · have h := h.1 q7
        refine e_aload_n d_C_team_41 rfl ?_
        refine gx_C_28 d_C_team_42 rfl ?_
        refine e_iload_n d_C_team_45 rfl ?_
        refine EV.inv fun hFf9 => ?_
        have f9 := (fx_ct 9 rfl hFf9).1
        obtain ⟨kc12, ks13, mc14, ms15, hkc12, hks13, h⟩ := h
        refine e_callV m_Hours_addTeam 1 lw_good d_C_team_46 (k_Hours_addTeam _) ⟨Nat.le_of_ble_eq_true rfl, Nat.le_of_ble_eq_true rfl⟩ w_333 w_334 w_335 (q_Hours _) rfl f9 (args := [(0, p1)]) rfl rfl (Nat.le_of_ble_eq_true rfl) (kc' := kc12) (ks' := ks13) (mc := mc14) (ms := ms15) hkc12 hks13 h ?_
        intro v10 G11 h
        exact e_iret d_C_team_49 rfl h
      · have h := h.2 q8
        refine e_aload_n d_C_team_34 rfl ?_
        refine e_bipush d_C_team_35 (by decide) (by decide) ?_
        refine EV.inv fun hFf16 => ?_
        have f16 := (fx_ct 0 rfl hFf16).1
        refine e_callV m_C_refuse 11 lw_good d_C_team_37 (k_C_refuse _) ⟨Nat.le_of_ble_eq_true rfl, Nat.le_of_ble_eq_true rfl⟩ w_297 w_299 w_s0 (q_C _) rfl f16 (args := [(0, (-7))]) rfl rfl (Nat.le_of_ble_eq_true rfl) (kc' := kc) (ks' := ks) (mc := 0) (ms := 0) rfl rfl h ?_
        intro v17 G18 h
        exact e_iret d_C_team_40 rfl h
    · exact kJ19 (Or.inr ⟨q2, q4⟩)
theorem c_Team_init {e : gE} {b : Nat} {m : Int} {G : gH} {a p1 : Int} (h : G 0 a 0 = 9) (ha : m + 45 < a) : GX e b m m_Team_init [(2, a), (0, p1)] G 0 0 (fun _ G1 => G1 = gU G 528 a 0 p1) := by
  refine GM.tg fun hT => GM.inv fun hF => ?_
  have hlo := fx_lo hF
  have h1 := hT a (by omega)
  refine GM.ofEV (by decide) (Nat.le_of_ble_eq_true rfl) (sg_Team_init_0 h ⟨by omega, by omega, ha, ?_⟩)
  rintro _ rfl
  rfl
theorem c_C_team {e : gE} {b : Nat} {m : Int} {G : gH} {A : zA} {p1 : Int} (hR : zRel e b m G A) (hB : zB 512 A) (hz : A 16 (A 786 0) = 0 ∧ A 17 (A 786 0) = -1) : GX e b m m_C_team [(2, ((b : Int) + 1)), (0, p1)] G 2 43 (zCQ e b m G (zfTeam A p1)) := by
  refine GM.tg fun hTg => GM.inv fun hF => ?_
  have hlo := fx_lo hF
  have hr := hR
  obtain ⟨T, Q, P, ⟨r1, r2, r3, r4⟩, hT, hQ, hP, hJ, hD⟩ := hr
  have b0 : 0 ≤ A 786 0 ∧ A 786 0 ≤ 3 := hB 786 0
  refine GM.ofEV (by decide) (Nat.le_of_ble_eq_true rfl) (sg_C_team_0 ?_)
  rw [hQ.1.2.1, r2.2.2.2.1]
  refine ⟨fun q1 q2 => ⟨hQ.1.1, fun q4 => ?_, fun q4 => ?_⟩, fun q => ?_⟩
  · rw [show zfTeam A p1 = (A 786 0, zU (zU A 15 (A 786 0) p1) 786 0 (A 786 0 + 1)) from by unfold zfTeam; rw [if_neg (show ¬ (p1 < 1 ∨ p1 > 4 ∨ A 788 0 ≠ 0) by omega), if_neg (show ¬ A 786 0 = 3 by omega)]]
    refine ⟨0, 0, 2, 43, rfl, rfl, ?_⟩
    refine GM.ofEV (by decide) (Nat.le_of_ble_eq_true rfl) (sg_Hours_addTeam_0 ?_)
    refine ⟨1, 40, rfl, rfl, ?_⟩
    rintro _ rfl _ rfl
    refine ⟨by omega, 1, 40, 0, 0, rfl, rfl, GM.mono (c_Team_init gN_tag (by omega)) ?_⟩
    rintro _ G1 hG1
    have o1 : ∀ (c : Nat) (i j : Int), c ≠ 9 → i < G 9 0 0 → G1 c i j = G c i j := fun c i j c9 i1 => by rw [hG1, gU_ne (by omega), gN_old (by omega) c9]
    have g9 : G1 9 0 0 = G 9 0 0 + 1 := by rw [hG1, gU_c _ (by decide), gN_nxt]
    have fw : zFW m [] G G1 := ⟨by omega, fun c i j c9 i1 _ => o1 c i j c9 i1⟩
    have t9 : G1 0 (G 9 0 0) 0 = 9 := by rw [hG1, gU_c _ (by decide), gN_tag]
    have n1 : G1 528 (G 9 0 0) 0 = p1 := by rw [hG1, gU_eq]
    have n2 : G1 529 (G 9 0 0) 0 = 0 := by rw [hG1, gU_c _ (by decide), gN_new (by decide) (by decide)]
    have n3 : G1 530 (G 9 0 0) 0 = 0 := by rw [hG1, gU_c _ (by decide), gN_new (by decide) (by decide)]
    have l1 : zAL e b m G1 ((b : Int) + 11) 9 (A 786 0) Q := zAL_fw hTg hlo (by decide) fw (by decide) (by decide) hQ.1
    refine ⟨0, 0, 1, 40, rfl, rfl, GM.mono (c_AL_add_b gr_Team (by decide) l1 (by omega) t9 (by omega)) ?_⟩
    rintro _ G2 ⟨l2, af1⟩
    have af : zAF ((b : Int) + 11) G G2 := zAF_t (zAF_fw hlo (by decide) fw) af1
    have sx := zSx_af hlo af
    have hk : zLs 11 := by decide
    rw [l2.2.1]
    refine ⟨l2.1, by omega, ?_⟩
    have qc : zCh [15, 786] A (zU (zU A 15 (A 786 0) p1) 786 0 (A 786 0 + 1)) := zCh_m (zCh_t zCh_u zCh_u) (by decide)
    refine zCQ_mk (by omega) ⟨T, zPut Q (A 786 0) (G 9 0 0), P, ⟨zR1_A qc (by decide) (zR1_G sx (by decide +kernel) r1), zR2_A qc (by decide) (zR2_G sx (by decide +kernel) r2), zR3_A qc (by decide) (zR3_G sx (by decide +kernel) r3), zR4_A qc (by decide) (zR4_G sx (by decide +kernel) r4)⟩, ?_, ?_, zRkP_A qc (by decide) (zRkP_af hTg hlo hD hk (by decide) af hP), zRkJ_A qc (by decide) (zRkJ_af hTg hlo hD hk (by decide) af hT hJ), zDst_af hTg hlo (zLs_0 hT hQ hP hJ) hk af hD⟩ (zRf_af hF (by decide) (zLs_5 hT hQ hP hJ _ hk) af)
    · rw [zTau_c qc (by decide)]
      exact zRkT_B qc (by decide) (zRkT_af hTg hlo hD hk (by decide) af hT)
    · have e786 : (zU (zU A 15 (A 786 0) p1) 786 0 (A 786 0 + 1)) 786 0 = A 786 0 + 1 := zU_eq
      have aQ : ∀ p, 0 ≤ p → p < A 786 0 → Q p < G 9 0 0 := fun p p1 p2 => (hTg _ (by have := hQ.1.2.2.1 p p1 p2; omega)).2
      refine ⟨by rw [e786]; exact l2, fun p q5 q6 => ?_, fun j k j1 j2 k1 k2 => ?_⟩
      · rw [e786] at q6
        by_cases z : p = A 786 0
        · subst z
          rw [zPut_eq, af1.2.2 528 _ _ (by decide) (by omega) (by omega) (by omega), af1.2.2 529 _ _ (by decide) (by omega) (by omega) (by omega), af1.2.2 530 _ _ (by decide) (by omega) (by omega) (by omega), n1, n2, n3, zU_k (show (15 : Nat) ≠ 786 by decide), zU_eq, qc 16 (by decide), qc 17 (by decide), hz.1, hz.2, if_pos rfl]
          exact ⟨by omega, rfl, rfl, rfl⟩
        · have q7 : p < A 786 0 := by omega
          have a1 := aQ p q5 q7
          rw [zPut_lt q7, af.2.2 528 _ _ (by decide) a1 (by omega) (by omega), af.2.2 529 _ _ (by decide) a1 (by omega) (by omega), af.2.2 530 _ _ (by decide) a1 (by omega) (by omega), zU_k (show (15 : Nat) ≠ 786 by decide), zU_i z, qc 16 (by decide), qc 17 (by decide)]
          exact hQ.2.1 p q5 q7
      · rw [e786] at j2 k2
        by_cases zj : j = A 786 0
        · by_cases zk : k = A 786 0
          · exact fun _ => by omega
          · have k3 : k < A 786 0 := by omega
            have a1 := aQ k k1 k3
            rw [zj, zPut_eq, zPut_lt k3]
            exact fun _ => by omega
        · have j3 : j < A 786 0 := by omega
          have a1 := aQ j j1 j3
          by_cases zk : k = A 786 0
          · rw [zk, zPut_eq, zPut_lt j3]
            exact fun _ => by omega
          · have k3 : k < A 786 0 := by omega
            rw [zPut_lt j3, zPut_lt k3]
            exact hQ.2.2 j k j1 j3 k1 k3
  · rw [show zfTeam A p1 = zNo A (-7) from by unfold zfTeam; rw [if_neg (show ¬ (p1 < 1 ∨ p1 > 4 ∨ A 788 0 ≠ 0) by omega), if_pos (show A 786 0 = 3 by omega)]]
    exact c_C_refuse hR hB (by decide)
  · rw [show zfTeam A p1 = zNo A (-6) from by unfold zfTeam; rw [if_pos (show (p1 < 1 ∨ p1 > 4 ∨ A 788 0 ≠ 0) by omega)]]
    exact c_C_refuse hR hB (by decide)
