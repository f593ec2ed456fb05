/-! THE CLASS, 47: minutes -/
theorem zLs1_go {A : zA} {t v : Int} (h : zIn A t) : (zLs1 t (v, A)).2 = zGo (zU A 14 t (-1)) t 500 := by
  unfold zLs1
  dsimp only
  rw [if_pos h]
theorem zLs1_no {A : zA} {t v : Int} (h : ¬ zIn A t) : (zLs1 t (v, A)).2 = A := by
  unfold zLs1
  dsimp only
  rw [if_neg h]
theorem zLs1_h {A : zA} {t v : Int} (ht : zTh A t) (h : zHo A) : zHo (zLs1 t (v, A)).2 ∧ zPP (zLs1 t (v, A)).2 ≤ zPP A ∧ (zIn A t → zPP (zLs1 t (v, A)).2 + 1 ≤ zPP A) := by
  obtain ⟨hi, hp, hm, hs⟩ := h
  have bs : 0 ≤ A 794 0 ∧ A 794 0 ≤ 16 * 512 + 32 := hi.1 794 0
  have w := zLs1_w (t := t) (r := (v, A)) ht hi
  by_cases q : zIn A t
  · have qt : zCh [14] A (zU A 14 t (-1)) := zCh_u
    have qc : zCh ([14] ++ [35, 36, 37, 794, 38, 11]) A (zGo (zU A 14 t (-1)) t 500) := zCh_t qt zGo_ch2
    have e11 : zU A 14 t (-1) 11 t = A 11 t := zU_k (by decide)
    have pw : zPw 500 < zPw (zU A 14 t (-1) 11 t) := by
      rw [e11, zPw_2 q, zPw_0 (w := 500) (by decide)]
      decide
    have p := zPP_go (A := zU A 14 t (-1)) (t := t) (w := 500) (by unfold zTh; rw [qt 785 (by decide)]; exact ht) pw
    have p2 := zPP_c (qt 11 (by decide)) (qt 785 (by decide))
    rw [zLs1_go q] at w ⊢
    refine ⟨⟨w.1, by rw [qc 788 (by decide)]; exact hp, fun u hu hin => ?_, zS2_go (by rw [qt 794 (by decide)]; exact bs.1) (zS2_c hs (qt 35 (by decide)) (qt 794 (by decide)) (qt 11 (by decide)) (qt 785 (by decide))) pw⟩, by omega, fun _ => by omega⟩
    unfold zTh at hu
    rw [qc 785 (by decide)] at hu
    unfold zIn at hin
    rw [zGo_w] at hin
    by_cases z : u = t
    · rw [if_pos z] at hin; omega
    · rw [if_neg z, qt 11 (by decide)] at hin
      rw [zGo_k (by decide), zU_i z, qc 788 (by decide), qc 786 (by decide)]
      refine (hm u hu hin).imp id (fun y => ⟨y.1, y.2.1, ?_⟩)
      unfold zFar at y ⊢
      rw [zGo_w, if_neg z, qt 11 (by decide), qc 6 (by decide)]
      exact y.2.2
  · rw [zLs1_no q]
    exact ⟨⟨hi, hp, hm, hs⟩, Int.le_refl _, fun z => absurd z q⟩
/-- steps that keep something and lessen what is to come -/
theorem zF_dec {f : Int → Int × zA → Int × zA} {r : Int × zA} {I : Int → Int × zA → Prop} {n : Int} (h0 : I 0 r) (hs : ∀ i q, 0 ≤ i → i < n → I i q → I (i + 1) (f i q) ∧ zPP (f i q).2 ≤ zPP q.2) (j : Int) (hj : 0 ≤ j ∧ j ≤ n) : I j (zF f r j) ∧ zPP (zF f r n).2 ≤ zPP (zF f r j).2 := by
  have a := zF_i (I := I) j hj.1 h0 (fun i q h1 h2 hi => (hs i q h1 (by omega) hi).1)
  refine ⟨a, ?_⟩
  refine zloopI (i := j) (I := fun i => I i (zF f r i) ∧ zPP (zF f r i).2 ≤ zPP (zF f r j).2) (P := fun _ => zPP (zF f r n).2 ≤ zPP (zF f r j).2) n hj.2 ⟨a, Int.le_refl _⟩ (fun i i1 i2 hi => ?_) (fun q => q.2) (fun _ _ _ _ q => q)
  rw [zF_s (by omega)]
  have w := hs i _ (by omega) i2 hi.1
  exact ⟨w.1, by omega⟩
theorem zLs_d {A : zA} (h : zHo A) (j : Int) (hj : 0 ≤ j ∧ j ≤ A 785 0) : (zHo (zF zLs1 (0, A) j).2 ∧ zSk (zF zLs1 (0, A) j).2 A ∧ (zF zLs1 (0, A) j).2 789 0 = A 789 0) ∧ zPP (zF zLs1 (0, A) (A 785 0)).2 ≤ zPP (zF zLs1 (0, A) j).2 :=
  zF_dec (I := fun _ q => zHo q.2 ∧ zSk q.2 A ∧ q.2 789 0 = A 789 0) ⟨h, ⟨rfl, rfl, rfl, rfl, rfl⟩, rfl⟩ (fun i q h1 h2 hi => by
    obtain ⟨v, X⟩ := q
    dsimp only at hi
    have ht : zTh X i := ⟨h1, by rw [hi.2.1.1]; exact h2⟩
    have w := zLs1_h (v := v) ht hi.1
    have w2 := zLs1_w (r := (v, X)) ht hi.1.1
    exact ⟨⟨w.1, zSk_t w2.2.1 hi.2.1, w2.2.2.trans hi.2.2⟩, w.2.1⟩) j hj
theorem c_loseRest {e : gE} {b : Nat} {m : Int} {G : gH} {A : zA} {T Q P : Int → Int} (hc : zRc e b m G A T Q P) (h : zHo A) : GX e b m m_Hours_loseTheRest [(2, ((b : Int) + 10))] G (zPP A - zPP (zF zLs1 (0, A) (A 785 0)).2).toNat 0 (fun _ G1 => zRc e b m G1 (zF zLs1 (0, A) (A 785 0)).2 T Q P ∧ zRf m G G1) := by
  have b0 : 0 ≤ A 785 0 ∧ A 785 0 ≤ 16 := h.1.1 785 0
  refine GM.ofEV (by decide) (Nat.le_of_ble_eq_true rfl) (sg_Hours_loseTheRest_0 ?_)
  refine zloop (P := fun i => ∀ (G1 : gH) (kc : Nat), zRc e b m G1 (zF zLs1 (0, A) i).2 T Q P → zRf m G G1 → zPP (zF zLs1 (0, A) i).2 - zPP (zF zLs1 (0, A) (A 785 0)).2 ≤ kc → EX e b m m_Hours_loseTheRest _ kc 0 2 [(2, ((b : Int) + 10)), (0, i), (9, 0)] [] G1) (i := 0) (A 785 0) b0.1 ?_ ?_ G _ (by rw [zF_0]; exact hc) zRf_r (by rw [zF_0]; show zPP A - _ ≤ _; omega)
  · intro G1 kc hc1 rf hk
    have d := zLs_d h (A 785 0) ⟨b0.1, Int.le_refl _⟩
    have hT := hc1.2.1
    refine sg_Hours_loseTheRest_2 ?_
    rw [hT.1.2.1, d.1.2.1.1]
    exact ⟨hT.1.1, fun _ => ⟨hc1, rf⟩, fun z => absurd z (by omega)⟩
  · intro i i1 i2 st G1 kc hc1 rf hk
    have d := zLs_d h i ⟨i1, by omega⟩
    have d1 := zLs_d h (i + 1) ⟨by omega, by omega⟩
    have es : zF zLs1 (0, A) (i + 1) = zLs1 i (zF zLs1 (0, A) i) := zF_s i1
    rw [es] at st d1
    generalize zF zLs1 (0, A) i = r at *
    obtain ⟨v, X⟩ := r
    dsimp only at *
    obtain ⟨⟨hX, hsk, hnow⟩, -⟩ := d
    have hX2 := hX
    obtain ⟨hi, hp, hm, hs⟩ := hX2
    have ht : zTh X i := ⟨i1, by rw [hsk.1]; exact i2⟩
    have hc2 := hc1
    obtain ⟨⟨r1, r2, r3, r4⟩, hT, hQ, hP, hJ, hD⟩ := hc2
    have w := zAL_g hT.1 ht
    have tt := (hT.2.1 i ht.1 ht.2).1
    refine sg_Hours_loseTheRest_2 ?_
    rw [hT.1.2.1, w.2.2.1, tt.2.2.2.2.2.2.1, hsk.1, r2.1]
    have w21 := w.2.1
    rw [hsk.1] at w21
    refine ⟨hT.1.1, fun z => absurd z (by omega), fun _ => ⟨w.1, ⟨i1, i2⟩, w21, w.2.2.2, w.2.2.2, by decide, fun z => ⟨by omega, ?_⟩, fun z => ?_⟩⟩
    · have ni : ¬ zIn X i := fun y => z ⟨y.1, by have := y.2; omega⟩
      refine st G1 kc ?_ rf ?_
      · rw [zLs1_no ni]; exact hc1
      · rw [zLs1_no ni]; exact hk
    · have hin : zIn X i := ⟨z.1, by omega⟩
      have lh := (zLs1_h (v := v) ht hX).2.2 hin
      have p2 := zPw_2 hin
      have qt : zCh [14] X (zU X 14 i (-1)) := zCh_u
      have go := c_goH (w := 500) (zB_u (k := 14) (j := i) (v := -1) hi.1 (by decide)) (zS2_c hs (qt 35 (by decide)) (qt 794 (by decide)) (qt 11 (by decide)) (qt 785 (by decide))) (zRkT_B qt (by decide) hT) (by rw [qt 788 (by decide)]; exact hp) (by unfold zTh; rw [qt 785 (by decide)]; exact ht) (by decide) (by rw [qt 11 (by decide), p2]; decide)
      rw [qt 789 (by decide)] at go
      refine ⟨kc - 1, 0, 1, 0, by omega, rfl, GM.tg fun hTg => GM.inv fun hF => GM.mono go ?_⟩
      rintro _ G15 ⟨k1, k2⟩
      have hlo := fx_lo hF
      have t7 := (k1.2.1 i i1 (by rw [zGo_k (by decide), qt 785 (by decide)]; exact ht.2)).1
      have ttm := tt.1.2
      refine ⟨t7.1.1, GM.mono (c_giveTo t7.1.1 (by omega)) ?_⟩
      rintro _ G22 rfl
      have w2 : zFW m [600, 598, 604, 605, 1] G15 (gU G15 600 (T i) 0 (-1)) := zFW_u (by decide) (by decide) ttm
      have ww := zFW_t (zFW_m k2 (S' := [600, 598, 604, 605, 1]) (by decide)) w2
      have qc : zCh ([14] ++ [35, 36, 37, 794, 38, 11]) X (zGo (zU X 14 i (-1)) i 500) := zCh_t qt zGo_ch2
      have inj : ∀ u, zTh X u → T u = T i → u = i := fun u u1 u2 => zRkT_i hT u1 ht u2
      refine ⟨by omega, st _ (kc - 1) ?_ (zRf_t rf (zRf_fw hlo.2 ww)) (by omega)⟩
      rw [zLs1_go hin]
      refine zRc_h hTg hlo hc1 ww (by decide) qc (by decide) (zRkT_tm k1 (zF6_u ttm) (fun u hu => ?_)) (zRkQ_A qc (by decide) (zRkQ_fw hTg hlo ww (by decide) hQ)) (fun u u1 u2 => ?_)
      · unfold zTh at hu
        rw [qc 785 (by decide)] at hu
        unfold zTau zIn
        rw [zGo_w, qt 11 (by decide), zGo_k (k := 14) (by decide)]
        by_cases y : u = i
        · rw [y, gU_eq, if_pos rfl, if_neg (by decide), if_neg (by decide)]
        · rw [gU_ne (fun x => y (inj u hu x.2.1)), if_neg y, zU_i y]
          have x := (k1.2.1 u hu.1 (by rw [qc 785 (by decide)]; exact hu.2)).1.2.2.2.2.2.2.2.2.1
          exact x
      · unfold zIn at u2
        rw [zGo_w] at u2 ⊢
        by_cases y : u = i
        · rw [if_pos y] at u2; omega
        · rw [if_neg y, qt 11 (by decide)]
