/-! THE CLASS, 43: danger, late, begins -/
theorem c_C_danger {e : gE} {b : Nat} {m : Int} {G : gH} {A : zA} {p1 p2 : Int} (hR : zRel e b m G A) (hB : zB 512 A) (hI : zIr A) (hWf : zWf A) : GX e b m m_C_danger [(2, ((b : Int) + 1)), (0, p1), (0, p2)] G 32 1280 (zCQ e b m G (zfDanger A p1 p2)) := by
  refine GM.inv fun hF => ?_
  have hlo := fx_lo hF
  have hr := hR
  obtain ⟨T, Q, P, hc⟩ := hr
  have r1 := hc.1.1
  have r2 := hc.1.2.1
  have bp : 0 ≤ A 788 0 ∧ A 788 0 ≤ 2 := hB 788 0
  have r6 : ∀ x, (1 ≤ p1 ∧ p1 ≤ 11) → (p2 < -1 ∨ p2 > 240 ∨ A 788 0 = 2 ∨ (A 788 0 = 1 ∧ p2 ≠ -1 ∧ p2 < A 789 0)) → x = zfDanger A p1 p2 → x = zNo A (-6) := fun x h1 h2 h3 => by
    rw [h3]
    unfold zfDanger
    rw [if_neg (by omega), if_pos h2]
  have go : (1 ≤ p1 ∧ p1 ≤ 11) → (-1 ≤ p2 ∧ p2 ≤ 240) → A 788 0 ≠ 2 → ¬ (A 788 0 = 1 ∧ p2 ≠ -1 ∧ p2 < A 789 0) → GX e b m m_House_changeDanger [(2, ((b : Int) + 3)), (0, p1), (0, p2)] G 0 0 (fun v G1 => ((G1 730 ((b : Int) + 1) 0) ≠ 1 → zCQ e b m G (zfDanger A p1 p2) v G1) ∧ ((G1 730 ((b : Int) + 1) 0) = 1 → ∃ k1 k2 k3 k4 : Nat, 32 = k1 + k3 ∧ 1280 = k2 + k4 ∧ GX e b m m_Hours_makePlan [(2, ((b : Int) + 10))] G1 k3 k4 (fun _ G2 => zCQ e b m G (zfDanger A p1 p2) v G2))) := fun h1 h2 h3 h4 => by
    refine GM.ofEV (by decide) (Nat.le_of_ble_eq_true rfl) (sg_House_changeDanger_0 ⟨fun _ => ⟨by omega, ?_⟩, fun z => absurd z (by omega)⟩)
    rintro _ rfl
    have qc : zCh [5] A (zU A 5 p1 p2) := zCh_u
    have sx : zSx b [(1, 9)] G (gU G 1 ((b : Int) + 9) p1 p2) := zSx_u
    have dy : zDyn m G (gU G 1 ((b : Int) + 9) p1 p2) := zDyn_u (by omega) (by decide)
    have rf : zRf m G (gU G 1 ((b : Int) + 9) p1 p2) := zRf_u (Or.inl (by omega))
    have ew : zWay (zU A 5 p1 p2) = zWay A := zWay_c (fun k z => qc k (by rcases z with z | z | z | z | z <;> rw [z] <;> decide))
    have K : zR1 b G A → zR2 b G A → zR3 b G A → zR4 b G A → zR1 b (gU G 1 ((b : Int) + 9) p1 p2) (zU A 5 p1 p2) ∧ zR2 b (gU G 1 ((b : Int) + 9) p1 p2) (zU A 5 p1 p2) ∧ zR3 b (gU G 1 ((b : Int) + 9) p1 p2) (zU A 5 p1 p2) ∧ zR4 b (gU G 1 ((b : Int) + 9) p1 p2) (zU A 5 p1 p2) := fun r1 r2 r3 r4 => by
      refine ⟨⟨fun i i1 i2 => ?_, fun r y1 y2 => ?_, ?_⟩, zR2_A qc (by decide) (zR2_G sx (by decide) r2), zR3_A qc (by decide) (zR3_G sx (by decide) r3), zR4_A qc (by decide) (zR4_G sx (by decide) r4)⟩
      · rw [qc 1 (by decide), qc 2 (by decide), qc 3 (by decide), qc 4 (by decide), sx 1 4 i (by decide) (by decide) (by decide) (by decide), sx 1 5 i (by decide) (by decide) (by decide) (by decide), sx 1 6 i (by decide) (by decide) (by decide) (by decide), sx 1 7 i (by decide) (by decide) (by decide) (by decide)]
        exact r1.1 i i1 i2
      · rw [ew, sx 1 8 r (by decide) (by decide) (by decide) (by decide)]
        refine ⟨(r1.2.1 r y1 y2).1, ?_⟩
        by_cases z : r = p1
        · rw [z, gU_eq, zU_eq]
        · rw [gU_j z, zU_i z]; exact (r1.2.1 r y1 y2).2
      · rw [qc 784 (by decide), sx 150 3 0 (by decide) (by decide) (by decide) (by decide)]
        exact r1.2.2
    have e1 : gU G 1 ((b : Int) + 9) p1 p2 730 ((b : Int) + 1) 0 = A 788 0 := (gU_c _ (by decide)).trans r2.2.2.2.1
    rw [e1, (r1.2.1 p1 (by omega) (by omega)).2, show zfDanger A p1 p2 = (A 5 p1, if A 788 0 = 1 then (zfPlans (zU A 5 p1 p2)).2 else zU A 5 p1 p2) from by unfold zfDanger; rw [if_neg (by omega), if_neg (by omega)]]
    refine ⟨fun c => ?_, fun c => ⟨0, 0, 32, 1280, rfl, rfl, ?_⟩⟩
    · rw [if_neg c]
      exact zCQ_mk rfl (zRel_s2 hR dy qc (by decide) (by rw [qc 788 (by decide)]; exact c) K) rf
    · rw [if_pos c]
      refine GM.mono (c_makePlan (T := T) (Q := Q) (P := P) (zRo_st hc dy qc (by decide) K) (zB_u hB ⟨by show (-1 : Int) ≤ p2; omega, by show p2 ≤ 240; omega⟩) (zIr_k hI (fun i => by rw [qc 11 (by decide)])) ⟨by rw [ew]; exact hWf.1, fun z => by rw [ew, qc 6 (by decide)]; rw [qc 784 (by decide), qc 788 (by decide)] at z; exact hWf.2 z⟩ (by rw [qc 788 (by decide)]; exact c)) ?_
      rintro _ G2 ⟨-, k2, k3⟩
      exact zCQ_mk rfl (zRc_r k2) (zRf_t rf k3)
  refine GM.ofEV (by decide) (Nat.le_of_ble_eq_true rfl) (sg_C_danger_0 ?_)
  rw [r2.2.2.2.1, r2.1]
  refine ⟨fun q => ?_, fun q1 q2 q3 => go (by omega) (by omega) q3 (by omega), fun q1 => ⟨fun q2 => go (by omega) (by omega) q2 (by omega), fun q2 => ?_⟩, fun q => ?_, fun q => ?_⟩
  · rw [show zfDanger A p1 p2 = zNo A (-1) from by unfold zfDanger; rw [if_pos (by omega)]]
    exact c_C_refuse hR hB (by decide)
  · rw [r6 _ (by omega) (by omega) rfl]
    exact c_C_refuse hR hB (by decide)
  · rw [r6 _ (by omega) (by omega) rfl]
    exact c_C_refuse hR hB (by decide)
  · rw [r6 _ (by omega) (by omega) rfl]
    exact c_C_refuse hR hB (by decide)
theorem zRo_free {e : gE} {b : Nat} {m : Int} {G : gH} {A : zA} {T Q P : Int → Int} {k v : Int} (hTg : ∀ a : Int, G 0 a 0 ≠ 0 → 0 < a ∧ a < G 9 0 0) (hlo : (b : Int) + 53 < m ∧ m + 45 < G 9 0 0) (hc : zRc e b m G A T Q P) (hk : 0 ≤ k ∧ k < A 786 0) : zRo e b m (gU G 529 (Q k) 0 v) (zU A 16 k v) T Q P ∧ zRf m G (gU G 529 (Q k) 0 v) := by
  obtain ⟨⟨r1, r2, r3, r4⟩, hT, hQ, hP, hJ, hD⟩ := hc
  have hq := (hQ.2.1 k hk.1 hk.2).1
  have fw : zFW m [529] G (gU G 529 (Q k) 0 v) := zFW_u (by decide) (by decide) hq
  have qc : zCh [16] A (zU A 16 k v) := zCh_u
  have sx := zSx_fw hlo fw
  have hL := zLs_0 hT hQ hP hJ
  obtain ⟨⟨x1, y1, z1⟩, ⟨x2, y2, z2⟩, ⟨x3, y3, z3⟩⟩ := zRj0_J hJ
  refine ⟨⟨⟨zR1_A qc (by decide) (zR1_G sx (by decide) r1), zR2_A qc (by decide) (zR2_G sx (by decide) r2), zR3_A qc (by decide) (zR3_G sx (by decide) r3), zR4_A qc (by decide) (zR4_G sx (by decide) r4)⟩, ?_, ⟨?_, fun j j1 j2 => ?_, ?_⟩, zRkP_A qc (by decide) (zRkP_fw hTg hlo fw (by decide) hP), ⟨⟨x1, y1, zAL_fw hTg hlo (by decide) fw (by decide) (by decide) z1⟩, ⟨x2, y2, zAL_fw hTg hlo (by decide) fw (by decide) (by decide) z2⟩, ⟨x3, y3, zAL_fw hTg hlo (by decide) fw (by decide) (by decide) z3⟩⟩, zDst_fw hTg hlo fw (by decide) hL hD⟩, zRf_fw hlo.2 fw⟩
  · rw [zTau_c qc (by decide)]
    exact zRkT_B qc (by decide) (zRkT_fr hT ⟨fun i j _ => gU_c _ (by decide), ⟨gU_c _ (by decide), gU_c _ (by decide)⟩, fun _ j => gU_c _ (by decide), fun t t1 t2 => ⟨fun c hc => gU_c _ (by omega), fun j => gU_c _ (by decide), fun j => gU_c _ (by decide)⟩⟩)
  · rw [qc 786 (by decide)]
    exact zAL_fw hTg hlo (by decide) fw (by decide) (by decide) hQ.1
  · rw [qc 786 (by decide)] at j2
    have w := hQ.2.1 j j1 j2
    rw [qc 15 (by decide), qc 17 (by decide), gU_c 528 (by decide), gU_c 530 (by decide)]
    refine ⟨w.1, w.2.1, ?_, w.2.2.2⟩
    by_cases z : j = k
    · rw [z, gU_eq, zU_eq]
    · rw [zU_i z, gU_ne (fun y => z (hQ.2.2 j k j1 j2 hk.1 hk.2 y.2.1))]
      exact w.2.2.1
  · rw [qc 786 (by decide)]
    exact hQ.2.2
theorem c_C_late {e : gE} {b : Nat} {m : Int} {G : gH} {A : zA} {p1 p2 : Int} (hR : zRel e b m G A) (hB : zB 511 A) (hI : zIr A) (hWf : zWf A) (hHd : zHd A) : GX e b m m_C_late [(2, ((b : Int) + 1)), (0, p1), (0, p2)] G 32 1280 (zCQ e b m G (zfLate A p1 p2)) := by
  refine GM.tg fun hTg => GM.inv fun hF => ?_
  have hlo := fx_lo hF
  have hB2 : zB 512 A := zB_mono hB (by decide)
  have hr := hR
  obtain ⟨T, Q, P, hc⟩ := hr
  have hc2 := hc
  obtain ⟨⟨r1, r2, r3, r4⟩, hT, hQ, hP, hJ, hD⟩ := hc2
  have bt : 0 ≤ A 786 0 ∧ A 786 0 ≤ 3 := hB 786 0
  have bf := zFree_n hB (by decide) p1
  refine GM.ofEV (by decide) (Nat.le_of_ble_eq_true rfl) (sg_C_late_0 ?_)
  rw [hQ.1.2.1, r2.2.2.2.1]
  refine ⟨⟨hQ.1.1, by omega, fun q1 q2 q3 => ?_, fun q => ?_⟩, fun q => ?_⟩
  · have w := zAL_g hQ.1 ⟨q1.1, by omega⟩
    have q := hQ.2.1 p1 q1.1 (by omega)
    have busy : GX e b m m_Hours_isBusy [(2, ((b : Int) + 10)), (0, p1)] G 0 0 (fun v G1 => ((v = 0 ∧ G 530 (Q p1) 0 = 0) ∨ (v = 1 ∧ G 530 (Q p1) 0 ≠ 0)) ∧ G1 = G) := by
      refine GM.ofEV (by decide) (Nat.le_of_ble_eq_true rfl) (sg_Hours_isBusy_0 ?_)
      rw [hQ.1.2.1, w.2.2.1]
      refine ⟨⟨hQ.1.1, by omega, fun _ => ⟨w.1, ⟨q1.1, by omega⟩, w.2.1, w.2.2.2, w.2.2.2, fun z => ⟨Or.inr ⟨rfl, z⟩, rfl⟩⟩⟩, fun z => ⟨Or.inl ⟨rfl, ?_⟩, rfl⟩⟩
      rcases z with z | z
      · exact absurd q1 z
      · by_cases y : G 530 (Q p1) 0 = 0
        · exact y
        · exact absurd y z.2
    refine GM.mono busy ?_
    rintro v G1 ⟨hv, rfl⟩
    have ei := q.2.2.2
    rcases hv with ⟨v0, h0⟩ | ⟨v1, h1⟩
    · have ih : A 17 p1 = -1 := by
        by_cases z : A 17 p1 = -1
        · exact z
        · rw [h0, if_neg z] at ei
          have hh := hHd p1 q1.1 (by omega) z
          have := (hT.2.1 _ hh.1.1 hh.1.2).1.1.2
          omega
      refine ⟨fun _ => ⟨0, 0, 32, 1280, rfl, rfl, GM.ofEV (by decide) (Nat.le_of_ble_eq_true rfl) (sg_Hours_delay_0 ?_)⟩, fun z => absurd v0 z⟩
      rw [hQ.1.2.1, w.2.2.1, r2.1]
      refine ⟨hQ.1.1, by omega, fun z => absurd q1 z, fun _ => ⟨w.1, ⟨q1.1, by omega⟩, w.2.1, w.2.2.2, GM.ofEV (by decide) (Nat.le_of_ble_eq_true rfl) (sg_Team_delay_0 w.2.2.2 ?_)⟩⟩
      rw [q.2.2.1, zFr_e]
      refine ⟨w.2.2.2, by omega, by have := q.1; omega, ?_⟩
      rintro _ rfl
      refine ⟨0, 0, 32, 1280, rfl, rfl, ?_⟩
      rw [show zfLate A p1 p2 = zfPlans (zU A 16 p1 (zFree A p1 + p2)) from by unfold zfLate; rw [if_neg (by omega), if_neg (by omega)]]
      have k := zRo_free (v := zFree A p1 + p2) hTg hlo hc ⟨q1.1, by omega⟩
      have qc : zCh [16] A (zU A 16 p1 (zFree A p1 + p2)) := zCh_u
      have ew : zWay (zU A 16 p1 (zFree A p1 + p2)) = zWay A := zWay_c (fun k z => qc k (by rcases z with z | z | z | z | z <;> rw [z] <;> decide))
      exact c_mkp k.1 (zB_u hB2 ⟨by show (0 : Int) ≤ zFree A p1 + p2; omega, by show zFree A p1 + p2 ≤ 500 + 60 * 512; omega⟩) (zIr_k hI (fun i => by rw [qc 11 (by decide)])) ⟨by rw [ew]; exact hWf.1, fun z => by rw [ew, qc 6 (by decide)]; rw [qc 784 (by decide), qc 788 (by decide)] at z; exact hWf.2 z⟩ (by rw [qc 788 (by decide)]; exact q3) k.2
    · have ih : A 17 p1 ≠ -1 := fun z => by
        rw [if_pos z] at ei
        exact h1 ei
      rw [show zfLate A p1 p2 = zNo A (-6) from by unfold zfLate; rw [if_neg (by omega), if_pos (by omega)]]
      exact ⟨fun z => by omega, fun _ => c_C_refuse hR hB2 (by decide)⟩
  · rw [show zfLate A p1 p2 = zNo A (-1) from by unfold zfLate; rw [if_pos (by omega)]]
    exact c_C_refuse hR hB2 (by decide)
  · rw [show zfLate A p1 p2 = zNo A (-6) from by unfold zfLate; rw [if_neg (by omega), if_pos (by omega)]]
    exact c_C_refuse hR hB2 (by decide)
/-- a thing in a room is given to a team only in the hours, and has a way then -/
def zTeam (A : zA) : Prop := ∀ t, zTh A t → zIn A t → A 14 t = -1 ∨ (A 788 0 = 1 ∧ (0 ≤ A 14 t ∧ A 14 t < A 786 0) ∧ zFar A t ≠ -1)
set_option maxRecDepth 20000 in
set_option maxHeartbeats 4000000 in
theorem sg_Hours_beginOf_0 {e : gE} {b : Nat} {m : Int} {Z : Int → gH → Prop} {kc ks : Nat} {G : gH} {p1 : Int} (h : ((G 0 p1 0 = 10) ∧ ((G 0 p1 0 = 10) ∧ ((inI (100 + 100)) ∧ ((100 ≤ G 598 p1 0 ∧ G 598 p1 0 < 100 + 100) → (G 0 ((b : Int) + 11) 0 = 1) ∧ ((inI ((G 18 ((b : Int) + 11) 0) - 1)) ∧ ((0 ≤ (G 600 p1 0) ∧ (G 600 p1 0) ≤ ((G 18 ((b : Int) + 11) 0) - 1)) → (G 0 (G 17 ((b : Int) + 11) 0) 0 = 103) ∧ (0 ≤ (G 600 p1 0) ∧ (G 600 p1 0) < G 18 ((b : Int) + 11) 0) ∧ (G 18 ((b : Int) + 11) 0 ≤ G 0 (G 17 ((b : Int) + 11) 0) 1) ∧ (G 0 (G 3 (G 17 ((b : Int) + 11) 0) (G 600 p1 0)) 0 = 9) ∧ (G 0 (G 3 (G 17 ((b : Int) + 11) 0) (G 600 p1 0)) 0 = 9) ∧ EX e b m m_Hours_beginOf Z kc ks 64 [(9, 0), (2, p1), (0, (G 600 p1 0)), (0, (if G 529 (G 3 (G 17 ((b : Int) + 11) 0) (G 600 p1 0)) 0 < (G 83 ((b : Int) + 10) 0) then (G 83 ((b : Int) + 10) 0) else G 529 (G 3 (G 17 ((b : Int) + 11) 0) (G 600 p1 0)) 0)), (2, ((b : Int) + 13)), (0, 0), (9, 0)] [] G)))))) ∧ ((((¬ (100 ≤ G 598 p1 0 ∧ G 598 p1 0 < 100 + 100))) ∨ ((100 ≤ G 598 p1 0 ∧ G 598 p1 0 < 100 + 100) ∧ (¬ (0 ≤ (G 600 p1 0) ∧ (G 600 p1 0) ≤ ((G 18 ((b : Int) + 11) 0) - 1))))) → Z (-1) G)) : EX e b m m_Hours_beginOf Z kc ks 0 [(2, ((b : Int) + 10)), (2, p1), (9, 0), (9, 0), (9, 0), (9, 0), (9, 0)] [] G := by
  obtain ⟨h, hJ18⟩ := h
  have kJ18 : (((¬ (100 ≤ G 598 p1 0 ∧ G 598 p1 0 < 100 + 100))) ∨ ((100 ≤ G 598 p1 0 ∧ G 598 p1 0 < 100 + 100) ∧ (¬ (0 ≤ (G 600 p1 0) ∧ (G 600 p1 0) ≤ ((G 18 ((b : Int) + 11) 0) - 1))))) → EX e b m m_Hours_beginOf Z kc ks 31 [(2, ((b : Int) + 10)), (2, p1), (0, (G 600 p1 0)), (9, 0), (9, 0), (9, 0), (9, 0)] [] G := by
    intro rJ18
    have h := hJ18 rJ18
    refine e_iconst d_Hours_beginOf_31 (by decide) ?_
    exact e_iret d_Hours_beginOf_32 rfl h
  refine e_aload_n d_Hours_beginOf_0 rfl ?_
  obtain ⟨o1, o2, h⟩ := h
  refine e_callV m_Thing_givenTo 9 lw_good d_Hours_beginOf_1 (k_Thing_givenTo _) ⟨Nat.le_of_ble_eq_true rfl, Nat.le_of_ble_eq_true rfl⟩ w_956 w_957 w_958 (q_Thing _) rfl o1 (args := []) rfl rfl (Nat.le_of_ble_eq_true rfl) (kc' := kc) (ks' := ks) (mc := 0) (ms := 0) rfl rfl (c_Thing_givenTo o2) (pureK ?_)
  refine e_istore_n (ls' := [(2, ((b : Int) + 10)), (2, p1), (0, (G 600 p1 0)), (9, 0), (9, 0), (9, 0), (9, 0)]) d_Hours_beginOf_4 (by decide) rfl ?_
  refine e_aload_n d_Hours_beginOf_5 rfl ?_
  refine e_bipush d_Hours_beginOf_6 (by decide) (by decide) ?_
  obtain ⟨o3, h⟩ := h
  refine e_callV m_Thing_isAt 9 lw_good d_Hours_beginOf_8 (k_Thing_isAt _) ⟨Nat.le_of_ble_eq_true rfl, Nat.le_of_ble_eq_true rfl⟩ w_619 w_620 w_621 (q_Thing _) rfl o1 (args := [(0, 100)]) rfl rfl (Nat.le_of_ble_eq_true rfl) (kc' := kc) (ks' := ks) (mc := 0) (ms := 0) rfl rfl (c_Thing_isAt o2 o3) (pureK ?_)
  refine e_if_eq (tgt := 31) d_Hours_beginOf_11 (by decide) (fun q4 => ?_) (fun q5 => ?_)
  · replace q4 := gb0.mp q4
    exact kJ18 (Or.inl q4)
  · replace q5 := gb1.mp q5
    have h := h q5
    refine e_iload_n d_Hours_beginOf_14 rfl ?_
    refine e_iconst d_Hours_beginOf_15 (by decide) ?_
    refine e_aload_n d_Hours_beginOf_16 rfl ?_
    refine gx_Hours_18 d_Hours_beginOf_17 rfl ?_
    refine EV.inv fun hFf6 => ?_
    have f6 := (fx_ct 10 rfl hFf6).1
    obtain ⟨o7, h⟩ := h
    refine e_callV m_AL_size 0 lw_good d_Hours_beginOf_20 (k_AL_size _) ⟨Nat.le_of_ble_eq_true rfl, Nat.le_of_ble_eq_true rfl⟩ w_329 w_330 w_331 (q_AL _) rfl f6 (args := []) rfl rfl (Nat.le_of_ble_eq_true rfl) (kc' := kc) (ks' := ks) (mc := 0) (ms := 0) rfl rfl (c_AL_size o7) (pureK ?_)
    refine e_iconst d_Hours_beginOf_23 (by decide) ?_
    obtain ⟨o8, h⟩ := h
    refine e_isub d_Hours_beginOf_24 o8 ?_
    refine e_callSN m_C_within "MuseumFlight" lw_good d_Hours_beginOf_25 (k_C_within _) ⟨Nat.le_of_ble_eq_true rfl, Nat.le_of_ble_eq_true rfl⟩ w_918 w_295 (args := [(0, (G 600 p1 0)), (0, 0), (0, ((G 18 ((b : Int) + 11) 0) - 1))]) rfl rfl (Nat.le_of_ble_eq_true rfl) (kc' := kc) (ks' := ks) (mc := 0) (ms := 0) rfl rfl (c_C_within) (pureK ?_)
    refine e_if_ne (tgt := 33) d_Hours_beginOf_28 (by decide) (fun q9 => ?_) (fun q10 => ?_)
    · replace q9 := gb1.mp q9
      have h := h q9
      refine e_aload_n d_Hours_beginOf_33 rfl ?_
      refine gx_Hours_18 d_Hours_beginOf_34 rfl ?_
      refine e_iload_n d_Hours_beginOf_37 rfl ?_
      refine EV.inv fun hFf11 => ?_
      have f11 := (fx_ct 10 rfl hFf11).1
      obtain ⟨o12, o13, o14, h⟩ := h
      refine e_callV m_AL_get 0 lw_good d_Hours_beginOf_38 (k_AL_get _) ⟨Nat.le_of_ble_eq_true rfl, Nat.le_of_ble_eq_true rfl⟩ w_606 w_607 w_608 (q_AL _) rfl f11 (args := [(0, (G 600 p1 0))]) rfl rfl (Nat.le_of_ble_eq_true rfl) (kc' := kc) (ks' := ks) (mc := 0) (ms := 0) rfl rfl (c_AL_get o7 o12 o13 o14) (pureK ?_)
      obtain ⟨o15, h⟩ := h
      refine e_cast 8 d_Hours_beginOf_41 (q_Team _) w_337 (Or.inr o15) ?_
      refine e_aload_n d_Hours_beginOf_44 rfl ?_
      refine gx_Hours_43 d_Hours_beginOf_45 rfl ?_
      obtain ⟨o16, h⟩ := h
      refine e_callV m_Team_freeFrom 8 lw_good d_Hours_beginOf_48 (k_Team_freeFrom _) ⟨Nat.le_of_ble_eq_true rfl, Nat.le_of_ble_eq_true rfl⟩ w_948 w_704 w_705 (q_Team _) rfl o15 (args := [(0, (G 83 ((b : Int) + 10) 0))]) rfl rfl (Nat.le_of_ble_eq_true rfl) (kc' := kc) (ks' := ks) (mc := 0) (ms := 0) rfl rfl (c_Team_freeFrom o16) (pureK ?_)
      refine e_istore_n (ls' := [(2, ((b : Int) + 10)), (2, p1), (0, (G 600 p1 0)), (0, (if G 529 (G 3 (G 17 ((b : Int) + 11) 0) (G 600 p1 0)) 0 < (G 83 ((b : Int) + 10) 0) then (G 83 ((b : Int) + 10) 0) else G 529 (G 3 (G 17 ((b : Int) + 11) 0) (G 600 p1 0)) 0)), (9, 0), (9, 0), (9, 0)]) d_Hours_beginOf_51 (by decide) rfl ?_
      refine e_aload_n d_Hours_beginOf_52 rfl ?_
      refine gx_Hours_26 d_Hours_beginOf_53 rfl ?_
      refine EV.inv fun hFf17 => ?_
      have f17 := (fx_ct 11 rfl hFf17).1
      refine e_callV m_Planner_jobs 5 lw_good d_Hours_beginOf_56 (k_Planner_jobs _) ⟨Nat.le_of_ble_eq_true rfl, Nat.le_of_ble_eq_true rfl⟩ w_949 w_950 w_951 (q_Planner _) rfl f17 (args := []) rfl rfl (Nat.le_of_ble_eq_true rfl) (kc' := kc) (ks' := ks) (mc := 0) (ms := 0) rfl rfl (c_Planner_jobs) (pureK ?_)
      refine e_astore (ls' := [(2, ((b : Int) + 10)), (2, p1), (0, (G 600 p1 0)), (0, (if G 529 (G 3 (G 17 ((b : Int) + 11) 0) (G 600 p1 0)) 0 < (G 83 ((b : Int) + 10) 0) then (G 83 ((b : Int) + 10) 0) else G 529 (G 3 (G 17 ((b : Int) + 11) 0) (G 600 p1 0)) 0)), (2, ((b : Int) + 13)), (9, 0), (9, 0)]) d_Hours_beginOf_59 (by decide) rfl ?_
      refine e_iconst d_Hours_beginOf_61 (by decide) ?_
      refine e_istore (ls' := [(2, ((b : Int) + 10)), (2, p1), (0, (G 600 p1 0)), (0, (if G 529 (G 3 (G 17 ((b : Int) + 11) 0) (G 600 p1 0)) 0 < (G 83 ((b : Int) + 10) 0) then (G 83 ((b : Int) + 10) 0) else G 529 (G 3 (G 17 ((b : Int) + 11) 0) (G 600 p1 0)) 0)), (2, ((b : Int) + 13)), (0, 0), (9, 0)]) d_Hours_beginOf_62 (by decide) rfl ?_
      exact e_forget (ls' := [(9, 0), (2, p1), (0, (G 600 p1 0)), (0, (if G 529 (G 3 (G 17 ((b : Int) + 11) 0) (G 600 p1 0)) 0 < (G 83 ((b : Int) + 10) 0) then (G 83 ((b : Int) + 10) 0) else G 529 (G 3 (G 17 ((b : Int) + 11) 0) (G 600 p1 0)) 0)), (2, ((b : Int) + 13)), (0, 0), (9, 0)]) ⟨Or.inl rfl, Or.inr rfl, Or.inr rfl, Or.inr rfl, Or.inr rfl, Or.inr rfl, Or.inl rfl, trivial⟩ h
    · replace q10 := gb0.mp q10
      exact kJ18 (Or.inr ⟨q5, q10⟩)
set_option maxRecDepth 20000 in
set_option maxHeartbeats 4000000 in
theorem sg_Hours_beginOf_64 {e : gE} {b : Nat} {m : Int} {Z : Int → gH → Prop} {kc ks : Nat} {G : gH} {p1 x2 x3 x4 x5 : Int} (h : (G 0 x4 0 = 1) ∧ ((G 0 x4 0 = 1) ∧ (((G 18 x4 0) ≤ x5 → Z (-1) G) ∧ (x5 < (G 18 x4 0) → (G 0 (G 17 x4 0) 0 = 103) ∧ ((0 ≤ x5 ∧ x5 < G 18 x4 0) ∧ ((G 18 x4 0 ≤ G 0 (G 17 x4 0) 1) ∧ ((G 0 (G 3 (G 17 x4 0) x5) 0 = 10) ∧ (((G 3 (G 17 x4 0) x5) ≠ p1 → (G 0 (G 3 (G 17 x4 0) x5) 0 = 10) ∧ (((¬ ((100 ≤ G 598 (G 3 (G 17 x4 0) x5) 0 ∧ G 598 (G 3 (G 17 x4 0) x5) 0 < 200) ∧ G 600 (G 3 (G 17 x4 0) x5) 0 = x2)) → (inI (x3 + 0)) ∧ (inI (x5 + 1)) ∧ EX e b m m_Hours_beginOf Z kc ks 64 [(9, 0), (2, p1), (0, x2), (0, (x3 + 0)), (2, x4), (0, (x5 + 1)), (9, 0)] [] G) ∧ (((100 ≤ G 598 (G 3 (G 17 x4 0) x5) 0 ∧ G 598 (G 3 (G 17 x4 0) x5) 0 < 200) ∧ G 600 (G 3 (G 17 x4 0) x5) 0 = x2) → (inI (x3 + (G 602 (G 3 (G 17 x4 0) x5) 0))) ∧ (inI (x5 + 1)) ∧ EX e b m m_Hours_beginOf Z kc ks 64 [(9, 0), (2, p1), (0, x2), (0, (x3 + (G 602 (G 3 (G 17 x4 0) x5) 0))), (2, x4), (0, (x5 + 1)), (9, 0)] [] G))) ∧ ((G 3 (G 17 x4 0) x5) = p1 → Z x3 G))))))))) : EX e b m m_Hours_beginOf Z kc ks 64 [(9, 0), (2, p1), (0, x2), (0, x3), (2, x4), (0, x5), (9, 0)] [] G := by
  refine e_iload d_Hours_beginOf_64 rfl ?_
  refine e_aload d_Hours_beginOf_66 rfl ?_
  obtain ⟨o1, o2, h⟩ := h
  refine e_callV m_AL_size 0 lw_good d_Hours_beginOf_68 (k_AL_size _) ⟨Nat.le_of_ble_eq_true rfl, Nat.le_of_ble_eq_true rfl⟩ w_329 w_330 w_331 (q_AL _) rfl o1 (args := []) rfl rfl (Nat.le_of_ble_eq_true rfl) (kc' := kc) (ks' := ks) (mc := 0) (ms := 0) rfl rfl (c_AL_size o2) (pureK ?_)
  refine e_icmp_ge (tgt := 121) d_Hours_beginOf_71 (by decide) (fun q3 => ?_) (fun q4 => ?_)
  · have h := h.1 q3
    refine e_iconst d_Hours_beginOf_121 (by decide) ?_
    exact e_iret d_Hours_beginOf_122 rfl h
  · have h := h.2 q4
    refine e_aload d_Hours_beginOf_74 rfl ?_
    refine e_iload d_Hours_beginOf_76 rfl ?_
    obtain ⟨o5, o6, o7, h⟩ := h
    refine e_callV m_AL_get 0 lw_good d_Hours_beginOf_78 (k_AL_get _) ⟨Nat.le_of_ble_eq_true rfl, Nat.le_of_ble_eq_true rfl⟩ w_606 w_607 w_608 (q_AL _) rfl o1 (args := [(0, x5)]) rfl rfl (Nat.le_of_ble_eq_true rfl) (kc' := kc) (ks' := ks) (mc := 0) (ms := 0) rfl rfl (c_AL_get o2 o5 o6 o7) (pureK ?_)
    obtain ⟨o8, h⟩ := h
    refine e_cast 9 d_Hours_beginOf_81 (q_Thing _) w_618 (Or.inr o8) ?_
    refine e_astore (ls' := [(9, 0), (2, p1), (0, x2), (0, x3), (2, x4), (0, x5), (2, (G 3 (G 17 x4 0) x5))]) d_Hours_beginOf_84 (by decide) rfl ?_
    refine e_aload d_Hours_beginOf_86 rfl ?_
    refine e_aload_n d_Hours_beginOf_88 rfl ?_
    refine e_acmp_ne (tgt := 94) d_Hours_beginOf_89 (by decide) (fun q9 => ?_) (fun q10 => ?_)
    · have h := h.1 q9
      refine e_iload_n d_Hours_beginOf_94 rfl ?_
      refine e_aload d_Hours_beginOf_95 rfl ?_
      refine e_iload_n d_Hours_beginOf_97 rfl ?_
      obtain ⟨o11, h⟩ := h
      refine e_callS m_Hours_isLeft lw_good d_Hours_beginOf_98 (k_Hours_isLeft _) ⟨Nat.le_of_ble_eq_true rfl, Nat.le_of_ble_eq_true rfl⟩ w_953 w_954 (args := [(2, (G 3 (G 17 x4 0) x5)), (0, x2)]) rfl rfl (Nat.le_of_ble_eq_true rfl) (kc' := kc) (ks' := ks) (mc := 0) (ms := 0) rfl rfl (c_Hours_isLeft o11) (pureK ?_)
      refine e_if_eq (tgt := 112) d_Hours_beginOf_101 (by decide) (fun q12 => ?_) (fun q13 => ?_)
      · replace q12 := gb0.mp q12
        have h := h.1 q12
        refine e_iconst d_Hours_beginOf_112 (by decide) ?_
        obtain ⟨o14, h⟩ := h
        refine e_iadd d_Hours_beginOf_113 o14 ?_
        refine e_istore_n (ls' := [(9, 0), (2, p1), (0, x2), (0, (x3 + 0)), (2, x4), (0, x5), (2, (G 3 (G 17 x4 0) x5))]) d_Hours_beginOf_114 (by decide) rfl ?_
        obtain ⟨o15, h⟩ := h
        refine e_iinc (ls' := [(9, 0), (2, p1), (0, x2), (0, (x3 + 0)), (2, x4), (0, (x5 + 1)), (2, (G 3 (G 17 x4 0) x5))]) d_Hours_beginOf_115 rfl (by decide) o15 rfl ?_
        refine e_goto (tgt := 64) d_Hours_beginOf_118 (by decide) ?_
        exact e_forget (ls' := [(9, 0), (2, p1), (0, x2), (0, (x3 + 0)), (2, x4), (0, (x5 + 1)), (9, 0)]) ⟨Or.inl rfl, Or.inr rfl, Or.inr rfl, Or.inr rfl, Or.inr rfl, Or.inr rfl, Or.inl rfl, trivial⟩ h
      · replace q13 := gb1.mp q13
        have h := h.2 q13
        refine e_aload d_Hours_beginOf_104 rfl ?_
        refine e_callV m_Thing_length 9 lw_good d_Hours_beginOf_106 (k_Thing_length _) ⟨Nat.le_of_ble_eq_true rfl, Nat.le_of_ble_eq_true rfl⟩ w_1008 w_688 w_689 (q_Thing _) rfl o8 (args := []) rfl rfl (Nat.le_of_ble_eq_true rfl) (kc' := kc) (ks' := ks) (mc := 0) (ms := 0) rfl rfl (c_Thing_length o11) (pureK ?_)
        refine e_goto (tgt := 113) d_Hours_beginOf_109 (by decide) ?_
        obtain ⟨o16, h⟩ := h
        refine e_iadd d_Hours_beginOf_113 o16 ?_
        refine e_istore_n (ls' := [(9, 0), (2, p1), (0, x2), (0, (x3 + (G 602 (G 3 (G 17 x4 0) x5) 0))), (2, x4), (0, x5), (2, (G 3 (G 17 x4 0) x5))]) d_Hours_beginOf_114 (by decide) rfl ?_
        obtain ⟨o17, h⟩ := h
        refine e_iinc (ls' := [(9, 0), (2, p1), (0, x2), (0, (x3 + (G 602 (G 3 (G 17 x4 0) x5) 0))), (2, x4), (0, (x5 + 1)), (2, (G 3 (G 17 x4 0) x5))]) d_Hours_beginOf_115 rfl (by decide) o17 rfl ?_
        refine e_goto (tgt := 64) d_Hours_beginOf_118 (by decide) ?_
        exact e_forget (ls' := [(9, 0), (2, p1), (0, x2), (0, (x3 + (G 602 (G 3 (G 17 x4 0) x5) 0))), (2, x4), (0, (x5 + 1)), (9, 0)]) ⟨Or.inl rfl, Or.inr rfl, Or.inr rfl, Or.inr rfl, Or.inr rfl, Or.inr rfl, Or.inl rfl, trivial⟩ h
    · have h := h.2 q10
      refine e_iload_n d_Hours_beginOf_92 rfl ?_
      exact e_iret d_Hours_beginOf_93 rfl h
set_option maxRecDepth 20000 in
set_option maxHeartbeats 4000000 in
theorem sg_C_begins_0 {e : gE} {b : Nat} {m : Int} {Z : Int → gH → Prop} {kc ks : Nat} {G : gH} {p1 : Int} (h : (0 ≤ G 18 ((b : Int) + 2) 0 ∧ G 18 ((b : Int) + 2) 0 ≤ 16) ∧ ((G 0 ((b : Int) + 2) 0 = 1) ∧ ((0 ≤ p1 ∧ p1 < G 18 ((b : Int) + 2) 0 → G 0 (G 17 ((b : Int) + 2) 0) 0 = 103 ∧ G 18 ((b : Int) + 2) 0 ≤ G 0 (G 17 ((b : Int) + 2) 0) 1 ∧ G 0 (G 3 (G 17 ((b : Int) + 2) 0) p1) 0 = 10) ∧ ((((if 0 ≤ p1 ∧ p1 < G 18 ((b : Int) + 2) 0 then G 3 (G 17 ((b : Int) + 2) 0) p1 else 0) ≠ 0) → GX e b m m_Hours_beginOf [(2, ((b : Int) + 10)), (2, (if 0 ≤ p1 ∧ p1 < G 18 ((b : Int) + 2) 0 then G 3 (G 17 ((b : Int) + 2) 0) p1 else 0))] G 0 0 (fun v8 G9 => Z v8 G9)) ∧ (((if 0 ≤ p1 ∧ p1 < G 18 ((b : Int) + 2) 0 then G 3 (G 17 ((b : Int) + 2) 0) p1 else 0) = 0) → Z (-1) G))))) : EX e b m m_C_begins Z kc ks 0 [(2, ((b : Int) + 1)), (0, p1), (9, 0)] [] G := by
  refine e_aload_n d_C_begins_0 rfl ?_
  refine e_iload_n d_C_begins_1 rfl ?_
  refine EV.inv fun hFf1 => ?_
  have f1 := (fx_ct 0 rfl hFf1).1
  obtain ⟨o2, o3, o4, h⟩ := h
  refine e_callV m_C_thingAt 11 lw_good d_C_begins_2 (k_C_thingAt _) ⟨Nat.le_of_ble_eq_true rfl, Nat.le_of_ble_eq_true rfl⟩ w_846 w_848 w_s24 (q_C _) rfl f1 (args := [(0, p1)]) rfl rfl (Nat.le_of_ble_eq_true rfl) (kc' := kc) (ks' := ks) (mc := 0) (ms := 0) rfl rfl (c_C_thingAt o2 o3 o4) (pureK ?_)
  refine e_astore_n (ls' := [(2, ((b : Int) + 1)), (0, p1), (2, (if 0 ≤ p1 ∧ p1 < G 18 ((b : Int) + 2) 0 then G 3 (G 17 ((b : Int) + 2) 0) p1 else 0))]) d_C_begins_5 (by decide) rfl ?_
  refine e_aload_n d_C_begins_6 rfl ?_
  refine e_ifnonnull (tgt := 14) d_C_begins_7 (by decide) (fun q5 => ?_) (fun q6 => ?_)
  · have h := h.1 q5
    refine e_aload_n d_C_begins_14 rfl ?_
    refine gx_C_28 d_C_begins_15 rfl ?_
    refine e_aload_n d_C_begins_18 rfl ?_
    refine EV.inv fun hFf7 => ?_
    have f7 := (fx_ct 9 rfl hFf7).1
    refine e_callV m_Hours_beginOf 1 lw_good d_C_begins_19 (k_Hours_beginOf _) ⟨Nat.le_of_ble_eq_true rfl, Nat.le_of_ble_eq_true rfl⟩ w_1004 w_1005 w_1006 (q_Hours _) rfl f7 (args := [(2, (if 0 ≤ p1 ∧ p1 < G 18 ((b : Int) + 2) 0 then G 3 (G 17 ((b : Int) + 2) 0) p1 else 0))]) rfl rfl (Nat.le_of_ble_eq_true rfl) (kc' := kc) (ks' := ks) (mc := 0) (ms := 0) rfl rfl h ?_
    intro v8 G9 h
    exact e_iret d_C_begins_22 rfl h
  · have h := h.2 q6
    refine e_iconst d_C_begins_10 (by decide) ?_
    refine e_goto (tgt := 22) d_C_begins_11 (by decide) ?_
    exact e_iret d_C_begins_22 rfl h
theorem c_C_begins {e : gE} {b : Nat} {m : Int} {G : gH} {A : zA} {p1 : Int} (hR : zRel e b m G A) (hB : zB 512 A) (hI : zIr A) (hTm : zTeam A) : GX e b m m_C_begins [(2, ((b : Int) + 1)), (0, p1)] G 0 0 (zCQ e b m G (zfBegins A p1)) := by
  refine GM.inv fun hF => ?_
  have hlo := fx_lo hF
  have hr := hR
  obtain ⟨T, Q, P, ⟨r1, r2, r3, r4⟩, hT, hQ, hP, hJ, hD⟩ := hr
  obtain ⟨y1, y2, y3⟩ := zTa_p hT hB
  have b0 : 0 ≤ A 785 0 ∧ A 785 0 ≤ 16 := hB 785 0
  have bt : 0 ≤ A 786 0 ∧ A 786 0 ≤ 3 := hB 786 0
  have no : ∀ {v : Int}, v = -1 → ¬ ((0 ≤ p1 ∧ p1 < A 785 0) ∧ A 788 0 = 1 ∧ zIn A p1 ∧ A 14 p1 ≠ -1) → zCQ e b m G (zfBegins A p1) v G := fun hv h => by
    unfold zfBegins
    rw [if_neg h, hv]
    exact zCQ_mk rfl hR zRf_r
  refine GM.ofEV (by decide) (Nat.le_of_ble_eq_true rfl) (sg_C_begins_0 ⟨y1, y2, y3 p1, ?_⟩)
  rw [zTa_e hT]
  by_cases ht : zTh A p1
  · have tt := (hT.2.1 p1 ht.1 ht.2).1
    have k0 := tt.1.1
    have tw := tt.2.2.2.2.2.2.1
    have tu := tt.2.2.2.2.2.2.2.2.1
    rw [if_pos ht]
    refine ⟨fun _ => GM.ofEV (by decide) (Nat.le_of_ble_eq_true rfl) (sg_Hours_beginOf_0 ?_), fun z => by have := tt.1.2; omega⟩
    rw [tw, tu, hQ.1.2.1, r2.1]
    refine ⟨⟨k0, k0, by decide, fun q1 => ⟨hQ.1.1, by omega, fun q2 => ?_⟩⟩, fun z => no rfl (fun y => ?_)⟩
    · have hin : zIn A p1 := ⟨q1.1, by omega⟩
      have eu : zTau A p1 = A 14 p1 := by
        unfold zTau
        rw [if_neg (by omega), if_pos hin]
      rw [eu] at q2 ⊢
      have hm := hTm p1 ht hin
      have hph : A 788 0 = 1 := by omega
      have hfr : zFar A p1 ≠ -1 := by
        rcases hm with z | z
        · omega
        · exact z.2.2
      have w := zAL_g hQ.1 ⟨q2.1, by omega⟩
      have q := hQ.2.1 (A 14 p1) q2.1 (by omega)
      have bf := zFree_b hB (A 14 p1)
      rw [w.2.2.1, q.2.2.1, zFr_e]
      refine ⟨w.1, ⟨q2.1, by omega⟩, w.2.1, w.2.2.2, w.2.2.2, ?_⟩
      obtain ⟨⟨n, f, l1, hl⟩, -⟩ := hJ
      obtain ⟨J, O, en, ef, hj⟩ := hl hph
      have jt : J p1 := (hj p1 ht.1 ht.2 hin).1.2 hfr
      obtain ⟨i0, ⟨i1, i2⟩, i3⟩ := en.2.2.2 p1 ht.1 ht.2 jt
      have bz : ∀ i, 0 ≤ i → i ≤ n → 0 ≤ zS (fun j => if zGv A (A 14) (A 14 p1) (O j) then zLen A (O j) else 0) i ∧ zS (fun j => if zGv A (A 14) (A 14 p1) (O j) then zLen A (O j) else 0) i ≤ 300 * i := fun i z1 z2 => zS_b i (fun j j1 j2 => by
        show 0 ≤ (if zGv A (A 14) (A 14 p1) (O j) then zLen A (O j) else 0) ∧ (if zGv A (A 14) (A 14 p1) (O j) then zLen A (O j) else 0) ≤ 300
        have o := (en.2.1 j j1 (by omega)).1
        split
        · rename_i z
          have := zLen_b (zR_of hB hI ⟨o.1, by omega⟩ z.2)
          omega
        · omega) z1 (by decide)
      have n16 := en.1
      have fin : zFree A (A 14 p1) + zS (fun j => if zGv A (A 14) (A 14 p1) (O j) then zLen A (O j) else 0) i0 = zBeg A (A 14) (A 14 p1) p1 := by
        have dJ : DecidablePred J := fun _ => Classical.propDecidable _
        have e := @zEnum_pre J dJ _ O (A 785 0) n en (fun u => if zGv A (A 14) (A 14 p1) u then zLen A u else 0) i0 ⟨i1, i2⟩
        have e2 : zS (fun j => if zGv A (A 14) (A 14 p1) (O j) then zLen A (O j) else 0) i0 = _ := e
        rw [e2]
        unfold zBeg
        refine congrArg (fun x => zFree A (A 14 p1) + x) (zS_eq _ b0.1 (fun u u1 u2 => ?_))
        show (if J u ∧ zBf (fun t => G 603 (T t) 0 + G 602 (T t) 0) u (O i0) then (if zGv A (A 14) (A 14 p1) u then zLen A u else 0) else 0) = if zGv A (A 14) (A 14 p1) u ∧ zBf (zDue A) u p1 then zLen A u else 0
        have dp : G 603 (T p1) 0 + G 602 (T p1) 0 = zDue A p1 := by
          have x := (hj p1 ht.1 ht.2 hin).2 jt
          rw [x.1, x.2]; rfl
        by_cases z : zGv A (A 14) (A 14 p1) u
        · have ju : J u := (hj u u1 u2 z.2).1.2 (by
            rcases hTm u ⟨u1, u2⟩ z.2 with y | y
            · have := z.1; omega
            · exact y.2.2)
          have du : G 603 (T u) 0 + G 602 (T u) 0 = zDue A u := by
            have x := (hj u u1 u2 z.2).2 ju
            rw [x.1, x.2]; rfl
          have eb : zBf (fun t => G 603 (T t) 0 + G 602 (T t) 0) u (O i0) ↔ zBf (zDue A) u p1 := by
            rw [i3]
            show (G 603 (T u) 0 + G 602 (T u) 0 < G 603 (T p1) 0 + G 602 (T p1) 0 ∨ (G 603 (T u) 0 + G 602 (T u) 0 = G 603 (T p1) 0 + G 602 (T p1) 0 ∧ u < p1)) ↔ zBf (zDue A) u p1
            rw [du, dp]
          by_cases y : zBf (zDue A) u p1
          · rw [if_pos ⟨ju, eb.2 y⟩, if_pos z, if_pos ⟨z, y⟩]
          · rw [if_neg (fun x => y (eb.1 x.2)), if_neg (fun x => y x.2)]
        · rw [if_neg z, if_neg (show ¬ (zGv A (A 14) (A 14 p1) u ∧ zBf (zDue A) u p1) from fun x => z x.1)]
          split <;> rfl
      refine zloop (P := fun i => ∀ x, x = zFree A (A 14 p1) + zS (fun j => if zGv A (A 14) (A 14 p1) (O j) then zLen A (O j) else 0) i → EX e b m m_Hours_beginOf (zCQ e b m G (zfBegins A p1)) 0 0 64 [(9, 0), (2, T p1), (0, A 14 p1), (0, x), (2, (b : Int) + 13), (0, i), (9, 0)] [] G) (i := 0) i0 i1 ?_ ?_ (zFree A (A 14 p1)) (by rw [zS_0, Int.add_zero])
      · intro x hx
        have v := zAL_g l1 ⟨i1, i2⟩
        refine sg_Hours_beginOf_64 ?_
        rw [l1.2.1, v.2.2.1, ef i0 i1 i2, i3]
        refine ⟨l1.1, l1.1, fun z => absurd z (by omega), fun _ => ⟨v.1, ⟨i1, i2⟩, v.2.1, k0, fun z => absurd rfl z, fun _ => ?_⟩⟩
        unfold zfBegins
        rw [if_pos ⟨ht, hph, hin, by omega⟩, hx, fin]
        exact zCQ_mk rfl hR zRf_r
      · intro i j1 j2 st x hx
        have v := zAL_g l1 ⟨j1, by omega⟩
        have o := (en.2.1 i j1 (by omega)).1
        have ot := (hT.2.1 (O i) o.1 o.2).1
        have ne : O i ≠ p1 := fun z => by
          have := zEnum_inj en ⟨j1, by omega⟩ ⟨i1, i2⟩ (z.trans i3.symm)
          omega
        have bi := bz i j1 (by omega)
        have vk := v.2.2.2
        rw [ef i j1 (by omega)] at vk
        refine sg_Hours_beginOf_64 ?_
        rw [l1.2.1, v.2.2.1, ef i j1 (by omega), ot.2.2.2.2.2.2.1, ot.2.2.2.2.2.2.2.2.1]
        have eq2 : ((100 ≤ A 11 (O i) ∧ A 11 (O i) < 200) ∧ zTau A (O i) = A 14 p1) ↔ zGv A (A 14) (A 14 p1) (O i) := by
          constructor
          · intro z
            have : zTau A (O i) = A 14 (O i) := by
              unfold zTau
              rw [if_neg (by omega), if_pos z.1]
            exact ⟨this.symm.trans z.2, z.1⟩
          · intro z
            have : zTau A (O i) = A 14 (O i) := by
              unfold zTau
              rw [if_neg (by have := z.2; omega), if_pos z.2]
            exact ⟨z.2, this.trans z.1⟩
        refine ⟨l1.1, l1.1, fun z => absurd z (by omega), fun _ => ⟨v.1, ⟨j1, by omega⟩, v.2.1, vk, fun _ => ⟨vk, fun z => ⟨by omega, by omega, st _ ?_⟩, fun z => ?_⟩, fun z => absurd (zRkT_i hT o ht z) ne⟩⟩
        · rw [zS_s j1, if_neg (fun y => z (eq2.2 y)), ← Int.add_assoc, ← hx]
        · have zg := eq2.1 z
          have jO : J (O i) := (en.2.1 i j1 (by omega)).2
          have ll := ((hj (O i) o.1 o.2 zg.2).2 jO).1
          have lb := zLen_b (zR_of hB hI ⟨o.1, by omega⟩ zg.2)
          rw [ll]
          refine ⟨by omega, by omega, st _ ?_⟩
          rw [zS_s j1, if_pos zg, ← Int.add_assoc, ← hx]
    · have hin := y.2.2.1
      have hm := hTm p1 ht hin
      have eu : zTau A p1 = A 14 p1 := by
        unfold zTau
        rw [if_neg (by omega), if_pos hin]
      rw [eu] at z
      rcases z with z | z
      · exact z ⟨hin.1, by omega⟩
      · rcases hm with x | x
        · exact y.2.2.2 x
        · exact z.2 ⟨x.2.1.1, by omega⟩
  · rw [if_neg ht]
    exact ⟨fun z => absurd rfl z, fun _ => no rfl (fun z => ht z.1)⟩
