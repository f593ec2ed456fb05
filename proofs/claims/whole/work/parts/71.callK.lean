/-! THE CLASS, 22: weeks -/
theorem zRkT_harm {e : gE} {b : Nat} {m : Int} {G : gH} {A : zA} {T τ : Int → Int} {t x : Int} (hR : zRkT e b m G A T τ) (ht : zTh A t) : zRkT e b m (gU G 599 (T t) 0 x) (zU A 12 t x) T τ := by
  have hR0 := hR
  obtain ⟨h1, h2, h3⟩ := hR
  have eU : ∀ s, 0 ≤ s → s < A 785 0 → s ≠ t → T s ≠ T t := fun s s1 s2 q z => q (zRkT_i hR0 ⟨s1, s2⟩ ht z)
  have e785 : zU A 12 t x 785 0 = A 785 0 := zU_k (by decide)
  have q : ∀ k, k ≠ 12 → zU A 12 t x k = A k := fun k hk => funext fun i => zU_k hk
  have ec : ∀ c : Nat, c ≠ 599 → ∀ i j, gU G 599 (T t) 0 x c i j = G c i j := fun c hc i j => gU_ne (fun z => hc z.1)
  refine ⟨?_, fun s s1 s2 => ?_, fun s v s1 s2 v1 v2 => ?_⟩
  · rw [e785]
    exact zAL_fr (by decide) h1 (fun _ _ _ => gU_c _ (by decide)) (gU_c _ (by decide)) (gU_c _ (by decide)) (fun _ _ => gU_c _ (by decide))
  · rw [e785] at s2
    obtain ⟨w1, w2, w3⟩ := h2 s s1 s2
    refine ⟨?_, ?_, ?_⟩
    · unfold zThR zIn at *
      rw [q 7 (by decide), q 8 (by decide), q 9 (by decide), q 10 (by decide), q 11 (by decide), ec 0 (by decide), ec 592 (by decide), ec 593 (by decide), ec 594 (by decide), ec 595 (by decide), ec 597 (by decide), ec 598 (by decide), ec 600 (by decide), ec 596 (by decide)]
      obtain ⟨a1, a3, a4, a5, a6, a7, a8, a9, a10, a11⟩ := w1
      refine ⟨a1, a3, a4, a5, a6, a7, a8, ?_, a10, a11⟩
      by_cases z : s = t
      · rw [z, gU_eq, zU_eq]
      · rw [gU_ne (fun y => eU s s1 s2 z y.2.1), zU_i z]; exact a9
    · have := zSlR_fr (G1 := gU G 599 (T t) 0 x) w2 (fun _ _ _ => gU_c _ (by decide)) (gU_c _ (by decide)) (gU_c _ (by decide)) (fun _ => gU_c _ (by decide))
      unfold zSlR zSeals zRank at *
      rw [q 35 (by decide), q 36 (by decide), q 37 (by decide), q 38 (by decide), q 794 (by decide)]
      exact this
    · have := zPpR_fr (G1 := gU G 599 (T t) 0 x) w3 (fun _ _ _ => gU_c _ (by decide)) (gU_c _ (by decide)) (gU_c _ (by decide)) (fun _ => gU_c _ (by decide))
      unfold zPpR at *
      rw [q 13 (by decide), q 32 (by decide), q 33 (by decide), q 34 (by decide)]
      exact this
  · rw [e785] at s2 v2
    rw [gU_c _ (by decide), gU_c _ (by decide), gU_c _ (by decide), gU_c _ (by decide)]
    exact h3 s v s1 s2 v1 v2
theorem zWk1_ch {r : Int × zA} {n : Int} (hn : 0 ≤ n) : zCh [12] r.2 (zF zWk1 r n).2 := fun k q => funext fun i => zWk1_k (by simpa using q) hn
theorem c_liveWeek {e : gE} {b : Nat} {m : Int} {G : gH} {A : zA} {T Q P : Int → Int} {k v : Int} (hR : zRc e b m G A T Q P) (hB : zB 512 A) (hh : ∀ t, A 12 t ≤ 3071900) (hft : zFt A) (hPl : zPl A) (hWv : zWv A) : GX e b m m_Years_liveWeek [(2, ((b : Int) + 18))] G 0 0 (fun _ G1 => zRc e b m G1 (zWk k (v, A)).2 T Q P ∧ zRf m G G1) := by
  refine GM.inv fun hF => ?_
  have hlo := fx_lo hF
  have b0 : 0 ≤ A 785 0 ∧ A 785 0 ≤ 16 := hB 785 0
  have bw : 0 ≤ A 791 0 ∧ A 791 0 ≤ 1000 := hB 791 0
  refine GM.ofEV (by decide) (Nat.le_of_ble_eq_true rfl) (sg_Years_liveWeek_0 ?_)
  refine zloop (P := fun i => ∀ G1, zRc e b m G1 (zF zWk1 (v, A) i).2 T Q P → zRf m G G1 → EX e b m m_Years_liveWeek _ 0 0 2 [(2, ((b : Int) + 18)), (0, i)] [] G1) (i := 0) (A 785 0) b0.1 ?_ ?_ G hR zRf_r
  · intro G1 k1 k2
    have q := zWk1_ch (r := (v, A)) b0.1
    have e785 : (zF zWk1 (v, A) (A 785 0)).2 785 0 = A 785 0 := by rw [q 785 (by decide)]
    have e791 : (zF zWk1 (v, A) (A 785 0)).2 791 0 = A 791 0 := by rw [q 791 (by decide)]
    have hlo1 : (b : Int) + 53 < m := hlo.1
    have k10 := k1
    obtain ⟨⟨r1, r2, r3, r4⟩, hT, -⟩ := k1
    refine sg_Years_liveWeek_2 ?_
    rw [hT.1.2.1, e785, r4.2.1, e791]
    refine ⟨hT.1.1, fun _ => ⟨by omega, ?_⟩, fun z => absurd z (by omega)⟩
    rintro _ rfl
    have qc : zCh [791] (zF zWk1 (v, A) (A 785 0)).2 (zU (zF zWk1 (v, A) (A 785 0)).2 791 0 (A 791 0 + 1)) := zCh_u
    refine ⟨?_, zRf_t k2 (zRf_u (Or.inl (by omega)))⟩
    refine zRc_st (B := zU (zF zWk1 (v, A) (A 785 0)).2 791 0 (A 791 0 + 1)) k10 (zDyn_u (by omega) (by decide)) qc (by decide) (fun r1 r2 r3 r4 => ⟨zR1_A qc (by decide) (zR1_G zSx_u (by decide) r1), zR2_A qc (by decide) (zR2_G zSx_u (by decide) r2), zR3_A qc (by decide) (zR3_G zSx_u (by decide) r3), fun k k1 k2 => ?_, ?_⟩)
    · rw [gU_c _ (by decide), gU_c _ (by decide), gU_c _ (by decide), zU_k (by decide), zU_k (by decide), zU_k (by decide)]
      exact r4.1 k k1 k2
    · rw [gU_eq, gU_c _ (by decide), zU_eq, zU_k (by decide)]
      exact ⟨rfl, r4.2.2⟩
  · intro j j1 j2 st G1 k1 k2
    have q := zWk1_ch (r := (v, A)) j1
    rw [zF_s j1] at st
    have hj0 := zWk1_h (r := (v, A)) (i := j) j1
    rw [if_neg (by omega)] at hj0
    generalize hr : zF zWk1 (v, A) j = r at *
    obtain ⟨v', C⟩ := r
    dsimp only at *
    have e785 : C 785 0 = A 785 0 := by rw [q 785 (by decide)]
    have hC : zB 512 C := fun k i => by
      by_cases z : k = 12
      · subst z
        have w := zWk1_h (r := (v, A)) (i := i) j1
        rw [hr] at w
        have hb := zHarm_b (A := A) (t := i)
        have h0 : 0 ≤ A 12 i ∧ _ := hB 12 i
        have h1 := hh i
        show 0 ≤ C 12 i ∧ C 12 i ≤ 6000 * 512
        dsimp only at w
        split at w <;> omega
      · rw [q k (by simpa using z)]; exact hB k i
    have hW : zWv C := fun t ht => by have := hWv t ⟨ht.1, by have := ht.2; rw [e785] at this; exact this⟩; rw [q 11 (by decide)]; exact this
    have hP : zPl C := fun t ht => by unfold zAt at ht; rw [q 11 (by decide)] at ht ⊢; rw [q 787 (by decide)]; exact hPl t ht
    have hf : zFt C := fun k k1 k2 => by rw [q 29 (by decide), q 30 (by decide)]; exact hft k k1 k2
    have k10 := k1
    obtain ⟨⟨r1, r2, r3, r4⟩, hT, hQ, hPP, hJ, hD⟩ := k1
    have y := zTa_p hT hC
    have ye := zTa_e hT j
    have hj : zTh C j := ⟨j1, by omega⟩
    rw [hT.1.2.1] at ye
    rw [if_pos hj, if_pos hj] at ye
    have y4 := y.2.2 j (by rw [hT.1.2.1]; exact hj)
    rw [ye] at y4
    have tt := (hT.2.1 j j1 (by omega)).1
    have bh := zHarm_b (A := C) (t := j)
    have h0 : 0 ≤ A 12 j ∧ _ := hB 12 j
    have h1 := hh j
    refine sg_Years_liveWeek_2 ?_
    rw [hT.1.2.1, e785, ye]
    refine ⟨y.2.1, fun z => absurd z (by omega), fun _ => ⟨y4.1, ⟨j1, j2⟩, by have := y4.2.1; rw [hT.1.2.1, e785] at this; exact this, y4.2.2, GM.mono (c_harmOf hlo.1 r4 hT hPP hC hf hP hW hj) ?_⟩⟩
    rintro x G2 ⟨rfl, rfl⟩
    refine ⟨y4.2.2, ?_⟩
    refine GM.tg fun hTg => GM.inv fun hF2 => GM.ofEV (by decide) (Nat.le_of_ble_eq_true rfl) (sg_Thing_grow_0 y4.2.2 ?_)
    rw [tt.2.2.2.2.2.2.2.1]
    refine ⟨by omega, by have := tt.1.2; omega, ?_⟩
    rintro _ rfl
    refine ⟨by omega, st _ ?_ (zRf_t k2 (zRf_u (Or.inr tt.1.2)))⟩
    have qc : zCh [12] C (zU C 12 j (C 12 j + zHarm C j)) := zCh_u
    have fw : zFW m [599] G2 (gU G2 599 (T j) 0 (C 12 j + zHarm C j)) := zFW_u (by decide) (by decide) tt.1.2
    show zRc e b m _ (zU C 12 j (C 12 j + zHarm C j)) T Q P
    refine zRel_T hTg (fx_lo hF2) r1 r2 r3 r4 hT hQ hPP hJ hD fw (by decide) qc (by decide) ?_ ?_
    · rw [zTau_c qc (by decide)]; exact zRkT_harm hT hj
    · exact zRkJ_A qc (by decide) (zRkJ_fw hTg (fx_lo hF2) fw (by decide) hT hJ)
