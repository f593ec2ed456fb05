/-! THE CLASS, 49: minutes, on -/
theorem zfMin_e {A : zA} {n : Int} (h1 : 1 ≤ n ∧ n ≤ 240) (h2 : A 788 0 = 1) : zfMinutes A n = ((zF zMn1 (0, A) n).2 789 0, zOver (zF zMn1 (0, A) n).2) := by
  unfold zfMinutes
  rw [if_neg (by omega)]
theorem c_C_minutes {e : gE} {b : Nat} {m : Int} {G : gH} {A : zA} {p1 : Int} (hR : zRel e b m G A) (hB : zB 512 A) (h : A 788 0 = 1 → zHo A ∧ zFn 1 A ∧ A 789 0 < A 790 0) : GX e b m m_C_minutes [(2, ((b : Int) + 1)), (0, p1)] G 32 0 (zCQ e b m G (zfMinutes A p1)) := by
  refine GM.inv fun hF => ?_
  have hlo := fx_lo hF
  have hr := hR
  obtain ⟨T, Q, P, hc⟩ := hr
  have r2 := hc.1.2.1
  have bP := zPP_b hB
  refine GM.ofEV (by decide) (Nat.le_of_ble_eq_true rfl) (sg_C_minutes_0 ?_)
  rw [r2.2.2.2.1]
  refine ⟨fun q1 q2 => ?_, fun q => ?_⟩
  · obtain ⟨hh, hf, hn⟩ := h q2
    rw [zfMin_e q1 q2]
    have over : ∀ (i : Int) (G1 : gH) (kc : Nat) (X : zA), X = (zF zMn1 (0, A) p1).2 → zHo X → X 789 0 = X 790 0 → zRc e b m G1 (zF zLs1 (0, X) (X 785 0)).2 T Q P → zRf m G G1 → EX e b m m_C_minutes (zCQ e b m G ((zF zMn1 (0, A) p1).2 789 0, zOver (zF zMn1 (0, A) p1).2)) kc 0 28 [(2, ((b : Int) + 1)), (0, p1), (0, i)] [] G1 := fun i G1 kc X eX hX he hL rf => by
      have b0 : 0 ≤ X 785 0 ∧ X 785 0 ≤ 16 := hX.1.1 785 0
      have d := (zLs_d hX (X 785 0) ⟨b0.1, Int.le_refl _⟩).1
      generalize hLd : (zF zLs1 (0, X) (X 785 0)).2 = L at *
      have en : L 789 0 = X 789 0 := d.2.2
      have ee : L 790 0 = X 790 0 := d.2.1.2.2.1
      have rL := hL.1.2.1
      have fin : ∀ v : Int, v ≠ 0 → ∀ G2 : gH, G2 = gU G1 730 ((b : Int) + 1) 0 2 → zCQ e b m G ((zF zMn1 (0, A) p1).2 789 0, zOver (zF zMn1 (0, A) p1).2) (G2 83 ((b : Int) + 10) 0) G2 := fun v _ G2 e2 => by
        rw [e2, ← eX, show zOver X = zU L 788 0 2 from by unfold zOver; rw [if_pos he, hLd]]
        have qp : zCh [788] L (zU L 788 0 2) := zCh_u
        have sx : zSx b [(730, 1)] G1 (gU G1 730 ((b : Int) + 1) 0 2) := zSx_u
        refine zCQ_mk (by rw [gU_c _ (by decide), rL.1, en]) (zRel_s2 (zRc_r hL) (zDyn_u (by omega) (by decide)) qp (by decide) (by rw [zU_eq]; decide) (fun r1 r2 r3 r4 => ⟨zR1_A qp (by decide) (zR1_G sx (by decide) r1), ⟨?_, ?_, ?_, by rw [gU_eq, zU_eq], ?_⟩, zR3_A qp (by decide) (zR3_G sx (by decide) r3), zR4_A qp (by decide) (zR4_G sx (by decide) r4)⟩)) (zRf_t rf (zRf_u (Or.inl (by omega))))
        · rw [qp 789 (by decide), sx 83 10 0 (by decide) (by decide) (by decide) (by decide)]; exact r2.1
        · rw [qp 790 (by decide), sx 84 10 0 (by decide) (by decide) (by decide) (by decide)]; exact r2.2.1
        · rw [qp 795 (by decide), sx 85 10 0 (by decide) (by decide) (by decide) (by decide)]; exact r2.2.2.1
        · rw [qp 793 (by decide), sx 729 1 0 (by decide) (by decide) (by decide) (by decide)]; exact r2.2.2.2.2
      refine sg_C_minutes_28 ⟨fun _ => GM.mono (c_over rL) ?_, fun _ => GM.mono (c_over rL) ?_⟩
      · rintro v G2 ⟨hv, rfl⟩
        have v1 : v = 1 := hv.elim (fun z => by omega) (fun z => z.2)
        exact ⟨fun z => by omega, fun z => fin v z⟩
      · rintro v G2 ⟨hv, rfl⟩
        have v1 : v = 1 := hv.elim (fun z => by omega) (fun z => z.2)
        refine ⟨fun _ => GM.mono (c_over rL) ?_, fun z => by omega⟩
        rintro v' G3 ⟨hv', rfl⟩
        have v1' : v' = 1 := hv'.elim (fun z => by omega) (fun z => z.2)
        exact ⟨fun z => by omega, fun z => fin v' z⟩
    refine zloop (P := fun i => ∀ (G1 : gH) (kc : Nat), zRc e b m G1 (zF zMn1 (0, A) i).2 T Q P → zHo (zF zMn1 (0, A) i).2 → zFn 1 (zF zMn1 (0, A) i).2 → (zF zMn1 (0, A) i).2 789 0 < (zF zMn1 (0, A) i).2 790 0 → zRf m G G1 → zPP (zF zMn1 (0, A) i).2 ≤ kc → EX e b m m_C_minutes (zCQ e b m G ((zF zMn1 (0, A) p1).2 789 0, zOver (zF zMn1 (0, A) p1).2)) kc 0 28 [(2, ((b : Int) + 1)), (0, p1), (0, i)] [] G1) (i := 0) p1 (by omega) ?_ ?_ G 32 (by rw [zF_0]; exact hc) (by rw [zF_0]; exact hh) (by rw [zF_0]; exact hf) (by rw [zF_0]; exact hn) zRf_r (by rw [zF_0]; show zPP A ≤ _; omega)
    · intro G1 kc hc1 h1 f1 n1 rf hk
      refine sg_C_minutes_28 ⟨fun _ => GM.mono (c_over hc1.1.2.1) ?_, fun z => absurd z (by omega)⟩
      rintro v G2 ⟨hv, rfl⟩
      have v0 : v = 0 := hv.elim (fun z => z.2) (fun z => by omega)
      refine ⟨fun _ => ?_, fun z => absurd v0 z⟩
      rw [show zOver (zF zMn1 (0, A) p1).2 = (zF zMn1 (0, A) p1).2 from by unfold zOver; rw [if_neg (by omega)]]
      exact zCQ_mk hc1.1.2.1.1 (zRc_r hc1) rf
    · intro i i1 i2 st G1 kc hc1 h1 f1 n1 rf hk
      have es : zF zMn1 (0, A) (i + 1) = zMn1 i (zF zMn1 (0, A) i) := zF_s i1
      have stop := zMn_stop (r := (0, A)) (j := i + 1) (n := p1) (by omega) (by omega)
      rw [es] at st stop
      generalize zF zMn1 (0, A) i = r at *
      obtain ⟨v, X⟩ := r
      dsimp only at *
      have e1 : zMn1 i (v, X) = (v, zMb X) := by
        unfold zMn1
        dsimp only
        rw [if_pos n1]
        rfl
      rw [e1] at st stop
      dsimp only at st stop
      obtain ⟨⟨m1, m2⟩, ⟨m3, m4, m5, m6⟩, m7⟩ := zMb_h h1 f1 n1
      refine sg_C_minutes_28 ⟨fun z => absurd z (by omega), fun _ => GM.mono (c_over hc1.1.2.1) ?_⟩
      rintro w G2 ⟨hv, rfl⟩
      have v0 : w = 0 := hv.elim (fun z => z.2) (fun z => by omega)
      have pA : zPP (zAf X) ≤ zPP X := by
        have c := zMc_h h1 f1 n1
        have bt : 0 ≤ X 786 0 ∧ X 786 0 ≤ 3 := h1.1.1 786 0
        have dB := (zBg_d h1 f1 0 ⟨Int.le_refl _, bt.1⟩).2
        have dC := (zCm_d c.1.1 c.1.2 0 ⟨Int.le_refl _, by rw [c.2.1.2.2.1]; exact bt.1⟩).2
        have x1 : zPP (zBegin X) ≤ zPP X := dB
        have x2 : zPP (zMb X) ≤ zPP (zMc X) := dC
        have := c.2.2
        omega
      have pB : 0 ≤ zPP (zAf X) := by
        have hx : zHo (zAf X) := by
          unfold zAf
          split
          · exact m1
          · have b0 : 0 ≤ zMb X 785 0 ∧ zMb X 785 0 ≤ 16 := m1.1.1 785 0
            exact (zLs_d m1 _ ⟨b0.1, Int.le_refl _⟩).1.1
        exact (zPP_b hx.1.1).1
      refine ⟨fun z => absurd v0 z, fun _ => ⟨kc - (zPP X - zPP (zAf X)).toNat, 0, _, 0, by omega, rfl, GM.mono (c_liveMinute hc1 h1 f1 n1) ?_⟩⟩
      rintro _ G3 ⟨k1, k2⟩
      refine ⟨by omega, ?_⟩
      by_cases lt : zMb X 789 0 < zMb X 790 0
      · have ea : zAf X = zMb X := if_pos lt
        rw [ea] at k1 ⊢
        exact st G3 _ k1 m1 m2 lt (zRf_t rf k2) (by rw [ea] at pA; omega)
      · have ea : zAf X = (zF zLs1 (0, zMb X) (zMb X 785 0)).2 := if_neg lt
        rw [ea] at k1
        exact over (i + 1) G3 _ (zMb X) (by rw [stop lt]) m1 (by omega) k1 (zRf_t rf k2)
  · rw [show zfMinutes A p1 = zNo A (-6) from by unfold zfMinutes; rw [if_pos (by omega)]]
    exact c_C_refuse hR hB (by decide)
