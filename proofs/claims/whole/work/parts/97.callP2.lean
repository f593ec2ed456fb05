/-! THE CLASS, 42: plan, gap, block, danger -/
theorem c_whyNoPlan {e : gE} {b : Nat} {m : Int} {G : gH} {A : zA} {p1 : Int} (hR : zRel e b m G A) (hB : zB 512 A) : GX e b m m_C_whyNoPlan [(2, ((b : Int) + 1)), (0, p1)] G 0 0 (fun v G1 => v = (if A 788 0 ≠ 1 then -6 else if p1 ≠ 0 ∧ 8 < zRooms A then -7 else 0) ∧ G1 = G) := by
  obtain ⟨T, Q, P, ⟨-, r2, -⟩, hT, -⟩ := hR
  refine GM.ofEV (by decide) (Nat.le_of_ble_eq_true rfl) (sg_C_whyNoPlan_0 ?_)
  rw [r2.2.2.2.1]
  refine ⟨fun q1 => ⟨fun q2 => ⟨by rw [if_neg (fun z => z q1), if_neg (fun z => z.1 q2)], rfl⟩, fun q2 => GM.mono (c_C_howManyAt hT hB (by decide)) ?_⟩, fun q1 => ⟨by rw [if_pos q1], rfl⟩⟩
  rintro v G1 ⟨hv, rfl⟩
  have hv2 : v = zRooms A := hv
  exact ⟨fun q3 => ⟨by rw [if_neg (fun z => z q1), if_neg (fun z => by omega)], rfl⟩, fun q3 => ⟨by rw [if_neg (fun z => z q1), if_pos ⟨q2, by omega⟩], rfl⟩⟩
theorem c_C_plan {e : gE} {b : Nat} {m : Int} {G : gH} {A : zA} {p1 : Int} (hR : zRel e b m G A) (hB : zB 512 A) (hI : zIr A) (hWf : zWf A) (hp : p1 = 0 ∨ p1 = 1) : GX e b m m_C_plan [(2, ((b : Int) + 1)), (0, p1)] G 32 1280 (zCQ e b m G (zfPlan A p1)) := by
  refine GM.inv fun hF => ?_
  have hlo := fx_lo hF
  have hr := hR
  obtain ⟨T, Q, P, hc⟩ := hr
  refine GM.ofEV (by decide) (Nat.le_of_ble_eq_true rfl) (sg_C_plan_0 (GM.mono (c_whyNoPlan hR hB) ?_))
  rintro v G1 ⟨rfl, rfl⟩
  by_cases q1 : A 788 0 ≠ 1
  · rw [if_pos q1, show zfPlan A p1 = zNo A (-6) from by unfold zfPlan; rw [if_pos q1]]
    exact ⟨fun _ => c_C_refuse hR hB (by decide), fun z => absurd z (by decide)⟩
  · rw [if_neg q1]
    by_cases q2 : p1 ≠ 0 ∧ 8 < zRooms A
    · rw [if_pos q2, show zfPlan A p1 = zNo A (-7) from by unfold zfPlan; rw [if_neg q1, if_pos q2]]
      exact ⟨fun _ => c_C_refuse hR hB (by decide), fun z => absurd z (by decide)⟩
    · rw [if_neg q2, show zfPlan A p1 = zfPlans (zU A 795 0 p1) from by unfold zfPlan; rw [if_neg q1, if_neg q2]]
      refine ⟨fun z => absurd rfl z, fun _ => ⟨0, 0, 32, 1280, rfl, rfl, GM.ofEV (by decide) (Nat.le_of_ble_eq_true rfl) (sg_Hours_planBy_0 ⟨hp, ?_⟩)⟩⟩
      rintro _ rfl
      refine ⟨0, 0, 32, 1280, rfl, rfl, ?_⟩
      have qc : zCh [795] A (zU A 795 0 p1) := zCh_u
      have sx : zSx b [(85, 10)] G1 (gU G1 85 ((b : Int) + 10) 0 p1) := zSx_u
      have ew : zWay (zU A 795 0 p1) = zWay A := zWay_c (fun k z => qc k (by rcases z with z | z | z | z | z <;> rw [z] <;> decide))
      refine c_mkp (T := T) (Q := Q) (P := P) (zRo_st hc (zDyn_u (by omega) (by decide)) qc (by decide) (fun r1 r2 r3 r4 => ⟨zR1_A qc (by decide) (zR1_G sx (by decide) r1), ⟨?_, ?_, ?_, ?_, ?_⟩, zR3_A qc (by decide) (zR3_G sx (by decide) r3), zR4_A qc (by decide) (zR4_G sx (by decide) r4)⟩)) (zB_u hB ⟨by show (0 : Int) ≤ p1; omega, by show p1 ≤ 1; omega⟩) (zIr_k hI (fun i => by rw [qc 11 (by decide)])) ⟨by rw [ew]; exact hWf.1, fun z => by rw [ew, qc 6 (by decide)]; rw [qc 784 (by decide), qc 788 (by decide)] at z; exact hWf.2 z⟩ (by rw [qc 788 (by decide)]; omega) (zRf_u (Or.inl (by omega)))
      · rw [qc 789 (by decide), sx 83 10 0 (by decide) (by decide) (by decide) (by decide)]
        exact r2.1
      · rw [qc 790 (by decide), sx 84 10 0 (by decide) (by decide) (by decide) (by decide)]
        exact r2.2.1
      · rw [gU_eq, zU_eq]
      · rw [qc 788 (by decide), sx 730 1 0 (by decide) (by decide) (by decide) (by decide)]
        exact r2.2.2.2.1
      · rw [qc 793 (by decide), sx 729 1 0 (by decide) (by decide) (by decide) (by decide)]
        exact r2.2.2.2.2
theorem c_C_gap {e : gE} {b : Nat} {m : Int} {G : gH} {A : zA} (hR : zRel e b m G A) (hB : zB 512 A) (hI : zIr A) (hWf : zWf A) : GX e b m m_C_gap [(2, ((b : Int) + 1))] G 64 2560 (zCQ e b m G (zfGap A)) := by
  refine GM.tg fun hTg => GM.inv fun hF => ?_
  have hlo := fx_lo hF
  have hr := hR
  obtain ⟨T, Q, P, hc⟩ := hr
  have b1 := zBest_b hB
  have b2 := zRule_b hB
  refine GM.ofEV (by decide) (Nat.le_of_ble_eq_true rfl) (sg_C_gap_0 (GM.mono (c_whyNoPlan hR hB) ?_))
  rintro v G1 ⟨rfl, rfl⟩
  by_cases q1 : A 788 0 ≠ 1
  · rw [if_pos q1, show zfGap A = zNo A (-6) from by unfold zfGap; rw [if_pos q1]]
    exact ⟨fun _ => c_C_refuse hR hB (by decide), fun z => absurd z (by decide)⟩
  · rw [if_neg q1]
    by_cases q2 : 8 < zRooms A
    · rw [if_pos ⟨by decide, q2⟩, show zfGap A = zNo A (-7) from by unfold zfGap; rw [if_neg q1, if_pos q2]]
      exact ⟨fun _ => c_C_refuse hR hB (by decide), fun z => absurd z (by decide)⟩
    · rw [if_neg (fun z => q2 z.2), show zfGap A = ((zBest A).2 - (zRule A).2, A) from by unfold zfGap; rw [if_neg q1, if_neg q2]]
      refine ⟨fun z => absurd rfl z, fun _ => ⟨0, 0, 64, 2560, rfl, rfl, GM.ofEV (by decide) (Nat.le_of_ble_eq_true rfl) (sg_Hours_gapNow_0 ?_)⟩⟩
      have r2 := hc.1.2.1
      rw [r2.1, r2.2.1]
      refine ⟨32, 1280, 32, 1280, rfl, rfl, GM.mono (c_makeByBest (zRo_c hc) hB hI hWf (by omega) (by omega)) ?_⟩
      rintro v G2 ⟨rfl, ⟨n1, O1, n2, O2, C, hps, -⟩, -⟩
      have w := zPs_rc hTg hF (zRo_c hc) hps
      have r22 := w.1.1.2.1
      rw [r22.1, r22.2.1]
      refine ⟨0, 0, 32, 1280, rfl, rfl, GM.tg fun hTg2 => GM.inv fun hF2 => GM.mono (c_makeByRule (zRo_c w.1) hB hI hWf (by omega)) ?_⟩
      rintro v G3 ⟨rfl, ⟨m1, U1, m2, U2, D, hps3, -⟩, -⟩
      have w3 := zPs_rc hTg2 hF2 (zRo_c w.1) hps3
      exact ⟨by omega, zCQ_mk rfl (zRc_r w3.1) (zRf_t w.2 w3.2)⟩
theorem c_House_blockDoor {e : gE} {b : Nat} {m : Int} {G : gH} {A : zA} {p1 : Int} (hB : zB 512 A) (hM : zDr A) (hd : zDoo b G A) (h1 : 0 ≤ p1 ∧ p1 < 20) : GX e b m m_House_blockDoor [(2, ((b : Int) + 3)), (0, p1)] G 0 0 (fun _ G1 => zDoo b G1 (zU A 4 p1 1) ∧ (∀ r, 0 ≤ r → r < 12 → G1 1 ((b : Int) + 8) r = zWay (zU A 4 p1 1) r) ∧ ∀ (c : Nat) (i j : Int), ¬ (c = 1 ∧ (i = (b : Int) + 7 ∨ i = (b : Int) + 8)) → G1 c i j = G c i j) := by
  refine GM.ofEV (by decide) (Nat.le_of_ble_eq_true rfl) (sg_House_blockDoor_0 ⟨fun z => by omega, fun _ => ⟨h1, ?_⟩⟩)
  rintro _ rfl
  have hd2 : zDoo b (gU G 1 ((b : Int) + 7) p1 1) (zU A 4 p1 1) := by
    refine ⟨fun i i1 i2 => ?_, by rw [gU_c _ (by decide), zU_k (by decide)]; exact hd.2⟩
    have w := hd.1 i i1 i2
    rw [gU_k (by decide), gU_k (by decide), gU_k (by decide), zU_k (by decide), zU_k (by decide), zU_k (by decide)]
    refine ⟨w.1, w.2.1, w.2.2.1, ?_⟩
    by_cases z : i = p1
    · rw [z, gU_eq, zU_eq]
    · rw [gU_j z, zU_i z]; exact w.2.2.2
  have hM2 : zDr (zU A 4 p1 1) := fun d d1 d2 => by
    rw [zU_k (by decide)] at d2 ⊢
    exact hM d d1 d2
  refine GM.mono (c_findWays (zB_u hB (by decide)) hM2 hd2) ?_
  rintro _ G1 ⟨k1, k2⟩
  exact ⟨zDoo_x k1 hd2, k2, fun c i j z => by rw [k1 c i j (by omega), gU_ne (by omega)]⟩
theorem c_C_block {e : gE} {b : Nat} {m : Int} {G : gH} {A : zA} {p1 : Int} (hR : zRel e b m G A) (hB : zB 512 A) (hI : zIr A) (hM : zDr A) : GX e b m m_C_block [(2, ((b : Int) + 1)), (0, p1)] G 32 1280 (zCQ e b m G (zfBlock A p1)) := by
  refine GM.inv fun hF => ?_
  have hlo := fx_lo hF
  have hr := hR
  obtain ⟨T, Q, P, hc⟩ := hr
  have r1 := hc.1.1
  have r2 := hc.1.2.1
  have bd : 0 ≤ A 784 0 ∧ A 784 0 ≤ 20 := hB 784 0
  have bp : 0 ≤ A 788 0 ∧ A 788 0 ≤ 2 := hB 788 0
  have bb : 0 ≤ A 4 p1 ∧ A 4 p1 ≤ 1 := hB 4 p1
  refine GM.ofEV (by decide) (Nat.le_of_ble_eq_true rfl) (sg_C_block_0 ?_)
  rw [r1.2.2, r2.2.2.2.1]
  refine ⟨bd, fun q1 => ⟨fun q2 => ?_, fun q2 => GM.ofEV (by decide) (Nat.le_of_ble_eq_true rfl) (sg_House_isBlocked_0 ⟨fun q3 => ⟨⟨q3.1, by omega⟩, fun q4 => ⟨fun z => absurd z (by decide), fun _ => ?_⟩⟩, fun q3 => ⟨fun _ => ?_, fun z => absurd rfl z⟩⟩)⟩, fun q1 => ?_⟩
  · rw [show zfBlock A p1 = zNo A (-6) from by unfold zfBlock; rw [if_neg (by omega), if_pos (Or.inl q2)]]
    exact c_C_refuse hR hB (by decide)
  · rw [(r1.1 p1 q1.1 (by omega)).2.2.2] at q4
    rw [show zfBlock A p1 = zNo A (-6) from by unfold zfBlock; rw [if_neg (by omega), if_pos (Or.inr q4)]]
    exact c_C_refuse hR hB (by decide)
  · have nb : ¬ A 4 p1 ≠ 0 := by
      rw [(r1.1 p1 q1.1 (by omega)).2.2.2] at q3
      omega
    refine GM.mono (c_House_blockDoor hB hM ⟨r1.1, r1.2.2⟩ ⟨q1.1, by omega⟩) ?_
    rintro _ G1 ⟨k1, k2, k3⟩
    have qc : zCh [4, 6] A (zWs (zU A 4 p1 1)) := zCh_t zCh_u zCh_Ws
    have sx : zSx b [(1, 7), (1, 8)] G G1 := fun c k j c9 y0 y1 hn => by
      simp only [List.mem_cons, List.mem_nil_iff, Prod.mk.injEq, or_false, not_or, not_and] at hn
      refine k3 c _ j (fun z => ?_)
      have h1 := hn.1 z.1
      have h2 := hn.2 z.1
      omega
    have dy : zDyn m G G1 := zDyn_st hlo.1 (fun c i j z => k3 c i j (by omega))
    have rf : zRf m G G1 := fun c i j _ i1 i2 => k3 c i j (by omega)
    have K : zR1 b G A → zR2 b G A → zR3 b G A → zR4 b G A → zR1 b G1 (zWs (zU A 4 p1 1)) ∧ zR2 b G1 (zWs (zU A 4 p1 1)) ∧ zR3 b G1 (zWs (zU A 4 p1 1)) ∧ zR4 b G1 (zWs (zU A 4 p1 1)) := fun r1 r2 r3 r4 => by
      refine ⟨⟨fun i i1 i2 => ?_, fun r y1 y2 => ?_, ?_⟩, zR2_A qc (by decide) (zR2_G sx (by decide) r2), zR3_A qc (by decide) (zR3_G sx (by decide) r3), zR4_A qc (by decide) (zR4_G sx (by decide) r4)⟩
      · rw [zWs_k (by decide), zWs_k (by decide), zWs_k (by decide), zWs_k (by decide)]
        exact k1.1 i i1 i2
      · rw [zWay_s, k2 r y1 y2, qc 5 (by decide), sx 1 9 r (by decide) (by decide) (by decide) (by decide)]
        exact ⟨rfl, (r1.2.1 r y1 y2).2⟩
      · rw [zWs_k (by decide)]; exact k1.2
    have e1 : G1 730 ((b : Int) + 1) 0 = A 788 0 := by
      rw [sx 730 1 0 (by decide) (by decide) (by decide) (by decide)]
      exact r2.2.2.2.1
    rw [e1]
    refine ⟨fun c => ?_, fun c => ⟨0, 0, 32, 1280, rfl, rfl, ?_⟩⟩
    · rw [show zfBlock A p1 = (0, zWs (zU A 4 p1 1)) from by unfold zfBlock; rw [if_neg (by omega), if_neg (by omega), if_pos (by omega)]]
      exact zCQ_mk rfl (zRel_s2 hR dy qc (by decide) (by rw [qc 788 (by decide)]; omega) K) rf
    · rw [show zfBlock A p1 = zfPlans (zWs (zU A 4 p1 1)) from by unfold zfBlock; rw [if_neg (by omega), if_neg (by omega), if_neg (by omega)]]
      refine c_mkp (T := T) (Q := Q) (P := P) (zRo_st hc dy qc (by decide) K) (zB_Ws (zB_u hB (by decide))) (zIr_k hI (fun i => by rw [qc 11 (by decide)])) ⟨?_, fun _ r x1 x2 => by rw [zWay_s]; exact zV_in ⟨x1, x2⟩⟩ (by rw [qc 788 (by decide)]; exact c) rf
      rw [zWay_s]
      exact (zWay_w (zB_u hB (by decide))).1
  · rw [show zfBlock A p1 = zNo A (-1) from by unfold zfBlock; rw [if_pos (by omega)]]
    exact c_C_refuse hR hB (by decide)
