/-! THE CLASS, 48: a minute, and minutes -/
def zMc (A : zA) : zA := zU (zBegin A) 789 0 (zBegin A 789 0 + 1)
def zMb (A : zA) : zA := zComes (zMc A)
def zAf (A : zA) : zA := if zMb A 789 0 < zMb A 790 0 then zMb A else (zF zLs1 (0, zMb A) (zMb A 785 0)).2
theorem zBg_d {A : zA} (h : zHo A) (hf : zFn 1 A) (j : Int) (hj : 0 ≤ j ∧ j ≤ A 786 0) : (zHo (zF zBg1 (0, A) j).2 ∧ zFn 1 (zF zBg1 (0, A) j).2 ∧ zSm (zF zBg1 (0, A) j).2 A) ∧ zPP (zF zBg1 (0, A) (A 786 0)).2 ≤ zPP (zF zBg1 (0, A) j).2 :=
  zF_dec (I := fun _ q => zHo q.2 ∧ zFn 1 q.2 ∧ zSm q.2 A) ⟨h, hf, fun _ _ _ => rfl⟩ (fun i q h1 h2 hi => by
    obtain ⟨v, X⟩ := q
    dsimp only at hi
    have bt : 0 ≤ X 786 0 ∧ X 786 0 ≤ 3 := hi.1.1.1 786 0
    have et : X 786 0 = A 786 0 := hi.2.2 786 0 (by decide)
    have w := zBg1_h (k := i) (v := v) ⟨h1, by omega⟩ hi.1 hi.2.1
    have w2 := zBg1_w (k := i) (r := (v, X)) ⟨h1, by omega⟩ hi.1.1
    exact ⟨⟨w.1, w.2.1, zSm_t w2.2 hi.2.2⟩, w.2.2⟩) j hj
theorem zCm_d {A : zA} (h : zHo A) (hf : zFm 0 A) (j : Int) (hj : 0 ≤ j ∧ j ≤ A 786 0) : (zHo (zF zCm1 (0, A) j).2 ∧ zFm j (zF zCm1 (0, A) j).2 ∧ zSm (zF zCm1 (0, A) j).2 A) ∧ zPP (zF zCm1 (0, A) (A 786 0)).2 ≤ zPP (zF zCm1 (0, A) j).2 :=
  zF_dec (I := fun i q => zHo q.2 ∧ zFm i q.2 ∧ zSm q.2 A) ⟨h, hf, fun _ _ _ => rfl⟩ (fun i q h1 h2 hi => by
    obtain ⟨v, X⟩ := q
    dsimp only at hi
    have bt : 0 ≤ X 786 0 ∧ X 786 0 ≤ 3 := hi.1.1.1 786 0
    have et : X 786 0 = A 786 0 := hi.2.2 786 0 (by decide)
    have w := zCm1_h (k := i) (v := v) ⟨h1, by omega⟩ hi.1 hi.2.1
    have w2 := zCm1_w (k := i) (r := (v, X)) ⟨h1, by omega⟩ hi.1.1
    exact ⟨⟨w.1, w.2.1, zSm_t w2.2 hi.2.2⟩, w.2.2⟩) j hj
theorem zMc_h {A : zA} (h : zHo A) (hf : zFn 1 A) (hn : A 789 0 < A 790 0) : (zHo (zMc A) ∧ zFm 0 (zMc A)) ∧ (zMc A 789 0 = A 789 0 + 1 ∧ zMc A 790 0 = A 790 0 ∧ zMc A 786 0 = A 786 0 ∧ zMc A 785 0 = A 785 0) ∧ zPP (zMc A) = zPP (zBegin A) := by
  have bt : 0 ≤ A 786 0 ∧ A 786 0 ≤ 3 := h.1.1 786 0
  have b1 : 0 ≤ A 790 0 ∧ A 790 0 ≤ 240 := h.1.1 790 0
  have b2 : 0 ≤ A 789 0 ∧ A 789 0 ≤ 240 := h.1.1 789 0
  have d := (zBg_d h hf (A 786 0) ⟨bt.1, Int.le_refl _⟩).1
  have e : (zF zBg1 (0, A) (A 786 0)).2 = zBegin A := rfl
  rw [e] at d
  obtain ⟨⟨hi, hp, hm, hs⟩, d2, d3⟩ := d
  have e1 : zBegin A 789 0 = A 789 0 := d3 _ _ (by decide)
  have e2 : zBegin A 790 0 = A 790 0 := d3 _ _ (by decide)
  have e3 : zBegin A 786 0 = A 786 0 := d3 _ _ (by decide)
  have e4 : zBegin A 785 0 = A 785 0 := d3 _ _ (by decide)
  have qn : zCh [789] (zBegin A) (zMc A) := zCh_u
  have en : zMc A 789 0 = A 789 0 + 1 := by show zU (zBegin A) 789 0 (zBegin A 789 0 + 1) 789 0 = _; rw [zU_eq, e1]
  refine ⟨⟨⟨zHI_u hi (by decide) (by show 0 ≤ zBegin A 789 0 + 1 ∧ zBegin A 789 0 + 1 ≤ 240; omega), by rw [qn 788 (by decide)]; exact hp, zTeam_c hm qn (by decide) (fun t _ _ => by rw [qn 11 (by decide)]), zS2_c hs (qn 35 (by decide)) (qn 794 (by decide)) (qn 11 (by decide)) (qn 785 (by decide))⟩, ⟨fun k k1 k2 k3 => ?_, fun j j1 j2 => by omega⟩⟩, ⟨en, by rw [qn 790 (by decide)]; exact e2, by rw [qn 786 (by decide)]; exact e3, by rw [qn 785 (by decide)]; exact e4⟩, zPP_c (qn 11 (by decide)) (qn 785 (by decide))⟩
  rw [qn 786 (by decide)] at k2
  rw [qn 17 (by decide)] at k3
  rw [en, qn 16 (by decide)]
  have := d2 k k1 k2 k3
  omega
theorem zMb_h {A : zA} (h : zHo A) (hf : zFn 1 A) (hn : A 789 0 < A 790 0) : (zHo (zMb A) ∧ zFn 1 (zMb A)) ∧ (zMb A 789 0 = A 789 0 + 1 ∧ zMb A 790 0 = A 790 0 ∧ zMb A 786 0 = A 786 0 ∧ zMb A 785 0 = A 785 0) ∧ zPP (zAf A) ≤ zPP (zMb A) := by
  obtain ⟨⟨c1, c2⟩, ⟨c3, c4, c5, c6⟩, c7⟩ := zMc_h h hf hn
  have bt : 0 ≤ zMc A 786 0 ∧ zMc A 786 0 ≤ 3 := c1.1.1 786 0
  have d := (zCm_d c1 c2 (zMc A 786 0) ⟨bt.1, Int.le_refl _⟩).1
  have e : (zF zCm1 (0, zMc A) (zMc A 786 0)).2 = zMb A := rfl
  rw [e] at d
  have e5 : zMb A 786 0 = zMc A 786 0 := d.2.2 _ _ (by decide)
  have b0 : 0 ≤ zMb A 785 0 ∧ zMb A 785 0 ≤ 16 := d.1.1.1 785 0
  refine ⟨⟨d.1, fun k k1 k2 k3 => d.2.1.2 k k1 (by rw [← e5]; exact k2) k2 k3⟩, ⟨(d.2.2 _ _ (by decide)).trans c3, (d.2.2 _ _ (by decide)).trans c4, e5.trans c5, (d.2.2 _ _ (by decide)).trans c6⟩, ?_⟩
  unfold zAf
  split
  · exact Int.le_refl _
  · exact (zLs_d d.1 0 ⟨Int.le_refl _, b0.1⟩).2
theorem c_over {e : gE} {b : Nat} {m : Int} {G : gH} {A : zA} (r2 : zR2 b G A) : GX e b m m_Hours_over [(2, ((b : Int) + 10))] G 0 0 (fun v G1 => ((A 789 0 < A 790 0 ∧ v = 0) ∨ (A 790 0 ≤ A 789 0 ∧ v = 1)) ∧ G1 = G) := by
  refine GM.ofEV (by decide) (Nat.le_of_ble_eq_true rfl) (sg_Hours_over_0 ?_)
  rw [r2.1, r2.2.1]
  exact ⟨fun q => ⟨Or.inl ⟨q, rfl⟩, rfl⟩, fun q => ⟨Or.inr ⟨q, rfl⟩, rfl⟩⟩
theorem c_liveMinute {e : gE} {b : Nat} {m : Int} {G : gH} {A : zA} {T Q P : Int → Int} (hc : zRc e b m G A T Q P) (h : zHo A) (hf : zFn 1 A) (hn : A 789 0 < A 790 0) : GX e b m m_Hours_liveMinute [(2, ((b : Int) + 10))] G (zPP A - zPP (zAf A)).toNat 0 (fun _ G1 => zRc e b m G1 (zAf A) T Q P ∧ zRf m G G1) := by
  obtain ⟨⟨c1, c2⟩, ⟨c3, c4, c5, c6⟩, c7⟩ := zMc_h h hf hn
  obtain ⟨⟨m1, m2⟩, ⟨m3, m4, m5, m6⟩, m7⟩ := zMb_h h hf hn
  have bt : 0 ≤ A 786 0 ∧ A 786 0 ≤ 3 := h.1.1 786 0
  have b2 : 0 ≤ A 789 0 ∧ A 789 0 ≤ 240 := h.1.1 789 0
  have dB := zBg_d h hf
  have dC := zCm_d c1 c2
  have eB : (zF zBg1 (0, A) (A 786 0)).2 = zBegin A := rfl
  have eC : (zF zCm1 (0, zMc A) (zMc A 786 0)).2 = zMb A := rfl
  refine GM.ofEV (by decide) (Nat.le_of_ble_eq_true rfl) (sg_Hours_liveMinute_0 ?_)
  refine zloop (P := fun k => ∀ (G1 : gH) (kc : Nat), zRc e b m G1 (zF zBg1 (0, A) k).2 T Q P → zRf m G G1 → zPP (zF zBg1 (0, A) k).2 - zPP (zAf A) ≤ kc → EX e b m m_Hours_liveMinute _ kc 0 2 [(2, ((b : Int) + 10)), (0, k)] [] G1) (i := 0) (A 786 0) bt.1 ?_ ?_ G _ (by rw [zF_0]; exact hc) zRf_r (by rw [zF_0]; show zPP A - _ ≤ _; omega)
  · intro G1 kc hc1 rf hk
    rw [eB] at hc1 hk
    have d := (dB (A 786 0) ⟨bt.1, Int.le_refl _⟩).1
    rw [eB] at d
    have e1 : zBegin A 789 0 = A 789 0 := d.2.2 _ _ (by decide)
    have e5 : zBegin A 786 0 = A 786 0 := d.2.2 _ _ (by decide)
    have hQ := hc1.2.2.1
    have r2 := hc1.1.2.1
    refine sg_Hours_liveMinute_2 ?_
    rw [hQ.1.2.1, e5, r2.1, e1]
    refine ⟨hQ.1.1, fun _ => ⟨by omega, ?_⟩, fun z => absurd z (by omega)⟩
    rintro _ rfl
    refine EV.inv fun hF1 => ?_
    have hlo : (b : Int) + 53 < m := by
      have := fx_lo (b := b) (m := m) (G := gU G1 83 ((b : Int) + 10) 0 (A 789 0 + 1)) hF1
      exact this.1
    have qn : zCh [789] (zBegin A) (zMc A) := zCh_u
    have sx : zSx b [(83, 10)] G1 (gU G1 83 ((b : Int) + 10) 0 (A 789 0 + 1)) := zSx_u
    have hc3 : zRc e b m (gU G1 83 ((b : Int) + 10) 0 (A 789 0 + 1)) (zMc A) T Q P := zRc_st hc1 (zDyn_u (by omega) (by decide)) qn (by decide) (fun r1 r2 r3 r4 => ⟨zR1_A qn (by decide) (zR1_G sx (by decide) r1), ⟨by rw [gU_eq, c3], by rw [qn 790 (by decide), sx 84 10 0 (by decide) (by decide) (by decide) (by decide)]; exact r2.2.1, by rw [qn 795 (by decide), sx 85 10 0 (by decide) (by decide) (by decide) (by decide)]; exact r2.2.2.1, by rw [qn 788 (by decide), sx 730 1 0 (by decide) (by decide) (by decide) (by decide)]; exact r2.2.2.2.1, by rw [qn 793 (by decide), sx 729 1 0 (by decide) (by decide) (by decide) (by decide)]; exact r2.2.2.2.2⟩, zR3_A qn (by decide) (zR3_G sx (by decide) r3), zR4_A qn (by decide) (zR4_G sx (by decide) r4)⟩)
    refine zloop (P := fun k => ∀ (G1 : gH) (kc : Nat), zRc e b m G1 (zF zCm1 (0, zMc A) k).2 T Q P → zRf m G G1 → zPP (zF zCm1 (0, zMc A) k).2 - zPP (zAf A) ≤ kc → EX e b m m_Hours_liveMinute _ kc 0 47 [(2, ((b : Int) + 10)), (0, k)] [] G1) (i := 0) (A 786 0) bt.1 ?_ ?_ _ kc (by rw [zF_0]; exact hc3) (zRf_t rf (zRf_u (Or.inl (by omega)))) (by rw [zF_0]; show zPP (zMc A) - _ ≤ _; omega)
    · intro G2 kc2 hc4 rf2 hk2
      rw [← c5, eC] at hc4 hk2
      have hQ2 := hc4.2.2.1
      have r22 := hc4.1.2.1
      refine sg_Hours_liveMinute_47 ?_
      rw [hQ2.1.2.1, m5]
      refine ⟨hQ2.1.1, fun _ => GM.mono (c_over r22) ?_, fun z => absurd z (by omega)⟩
      rintro v G3 ⟨hv, rfl⟩
      refine ⟨fun v0 => ?_, fun v1 => ?_⟩
      · have lt : zMb A 789 0 < zMb A 790 0 := hv.elim (fun z => z.1) (fun z => by omega)
        have ea : zAf A = zMb A := if_pos lt
        rw [ea]
        exact ⟨hc4, rf2⟩
      · have lt : ¬ zMb A 789 0 < zMb A 790 0 := hv.elim (fun z => absurd z.2 v1) (fun z => by omega)
        have ea : zAf A = (zF zLs1 (0, zMb A) (zMb A 785 0)).2 := if_neg lt
        rw [ea] at hk2 ⊢
        refine ⟨kc2 - (zPP (zMb A) - zPP (zF zLs1 (0, zMb A) (zMb A 785 0)).2).toNat, 0, _, 0, by omega, rfl, GM.mono (c_loseRest hc4 m1) ?_⟩
        rintro _ G4 ⟨k1, k2⟩
        exact ⟨k1, zRf_t rf2 k2⟩
    · intro k k1 k2 st G2 kc2 hc4 rf2 hk2
      have d := dC k ⟨k1, by omega⟩
      have d1 := dC (k + 1) ⟨by omega, by omega⟩
      rw [eC] at d d1
      have es : zF zCm1 (0, zMc A) (k + 1) = zCm1 k (zF zCm1 (0, zMc A) k) := zF_s k1
      rw [es] at st d1
      generalize zF zCm1 (0, zMc A) k = r at *
      obtain ⟨v, X⟩ := r
      dsimp only at *
      obtain ⟨⟨hX, hfm, hsm⟩, -⟩ := d
      have et : X 786 0 = A 786 0 := (hsm _ _ (by decide)).trans c5
      have hQ2 := hc4.2.2.1
      have r22 := hc4.1.2.1
      have w := zAL_g hQ2.1 (i := k) ⟨k1, by omega⟩
      have w21 := w.2.1
      rw [et] at w21
      have ch := zCm1_h (v := v) ⟨k1, by omega⟩ hX hfm
      refine sg_Hours_liveMinute_47 ?_
      rw [hQ2.1.2.1, w.2.2.1, et, r22.1]
      refine ⟨hQ2.1.1, fun z => absurd z (by omega), fun _ => ⟨w.1, ⟨k1, k2⟩, w21, w.2.2.2, kc2 - (zPP X - zPP (zCm1 k (v, X)).2).toNat, 0, _, 0, by omega, rfl, GM.mono (c_bringOut (v := v) hc4 hX hfm ⟨k1, by omega⟩) ?_⟩⟩
      rintro _ G3 ⟨y1, y2⟩
      exact ⟨by omega, st G3 _ y1 (zRf_t rf2 y2) (by omega)⟩
  · intro k k1 k2 st G1 kc hc1 rf hk
    have d := dB k ⟨k1, by omega⟩
    have d1 := dB (k + 1) ⟨by omega, by omega⟩
    rw [eB] at d d1
    have es : zF zBg1 (0, A) (k + 1) = zBg1 k (zF zBg1 (0, A) k) := zF_s k1
    have dc := dC 0 ⟨Int.le_refl _, by omega⟩
    rw [eC, zF_0] at dc
    have dc2 : zPP (zMb A) ≤ zPP (zMc A) := dc.2
    rw [es] at st d1
    generalize zF zBg1 (0, A) k = r at *
    obtain ⟨v, X⟩ := r
    dsimp only at *
    obtain ⟨⟨hX, hfm, hsm⟩, -⟩ := d
    have et : X 786 0 = A 786 0 := hsm _ _ (by decide)
    have hQ2 := hc1.2.2.1
    have w := zAL_g hQ2.1 (i := k) ⟨k1, by omega⟩
    have w21 := w.2.1
    rw [et] at w21
    have ch := zBg1_h (v := v) ⟨k1, by omega⟩ hX hfm
    refine sg_Hours_liveMinute_2 ?_
    rw [hQ2.1.2.1, w.2.2.1, et]
    refine ⟨hQ2.1.1, fun z => absurd z (by omega), fun _ => ⟨w.1, ⟨k1, k2⟩, w21, w.2.2.2, kc - (zPP X - zPP (zBg1 k (v, X)).2).toNat, 0, _, 0, by omega, rfl, GM.mono (c_beginNext (v := v) hc1 hX hfm ⟨k1, by omega⟩) ?_⟩⟩
    rintro _ G3 ⟨y1, y2⟩
    exact ⟨by omega, st G3 _ y1 (zRf_t rf y2) (by omega)⟩
