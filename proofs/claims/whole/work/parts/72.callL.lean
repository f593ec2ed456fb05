/-! THE CLASS, 23: weeks -/
theorem zWk_k3 {r : Int × zA} {i n : Int} (hi : i ≠ 0) (hn : 0 ≤ n) (h0 : 0 ≤ r.2 785 0) : (zF zWk r n).2 791 i = r.2 791 i := by
  refine (zF_i (I := fun _ q => q.2 791 i = r.2 791 i ∧ q.2 785 0 = r.2 785 0) n hn ⟨rfl, rfl⟩ ?_).1
  intro j q h1 h2 h3
  constructor
  · rw [zWk_2, zU_i hi, zWk1_k (by decide) (by omega), h3.1]
  · rw [zWk_2, zU_k (by decide), zWk1_k (by decide) (by omega), h3.2]
theorem c_C_weeks {e : gE} {b : Nat} {m : Int} {G : gH} {A : zA} {p1 : Int} (hR : zRel e b m G A) (hB : zB 511 A) (hft : zFt A) (hPl : zPl A) (hWv : zWv A) : GX e b m m_C_weeks [(2, ((b : Int) + 1)), (0, p1)] G 0 0 (zCQ e b m G (zfWeeks A p1)) := by
  refine GM.inv fun hF => ?_
  have hlo := fx_lo hF
  have hB2 := zB_mono hB (show (511 : Int) ≤ 512 by decide)
  have b0 : 0 ≤ A 785 0 ∧ A 785 0 ≤ 16 := hB 785 0
  have bw : 0 ≤ A 791 0 ∧ A 791 0 ≤ 1000 := hB 791 0
  have hr := hR
  obtain ⟨T, Q, P, hc⟩ := hr
  have hc1 : zRc e b m G A T Q P := hc
  obtain ⟨⟨r1, r2, r3, r4⟩, -⟩ := hc
  refine GM.ofEV (by decide) (Nat.le_of_ble_eq_true rfl) (sg_C_weeks_0 ?_)
  rw [r2.2.2.2.1, r4.2.1]
  refine ⟨fun q1 q2 => ⟨by omega, fun q3 => ?_, fun q3 => ?_⟩, fun q => ?_⟩
  · rw [show zfWeeks A p1 = (A 791 0 + p1, (zF zWk (0, A) p1).2) from by unfold zfWeeks; rw [if_neg (show ¬ (p1 < 1 ∨ p1 > 60 ∨ A 788 0 ≠ 2) by omega), if_neg (show ¬ A 791 0 + p1 > 1000 by omega)]]
    refine zloop (P := fun i => ∀ G1, zRc e b m G1 (zF zWk (0, A) i).2 T Q P → zRf m G G1 → EX e b m m_C_weeks _ 0 0 49 [(2, ((b : Int) + 1)), (0, p1), (0, i)] [] G1) (i := 0) p1 (by omega) ?_ ?_ G hc1 zRf_r
    · intro G1 k1 k2
      refine sg_C_weeks_49 ⟨fun _ => ?_, fun z => absurd z (by omega)⟩
      refine zCQ_mk ?_ (zRc_r k1) k2
      rw [k1.1.2.2.2.2.1, zWk_w (by omega) b0.1]
    · intro j j1 j2 st G1 k1 k2
      refine sg_C_weeks_49 ⟨fun z => absurd z (by omega), fun _ => ?_⟩
      rw [zF_s j1] at st
      have wk := fun (k : Nat) (i : Int) (h : k ≠ 12 ∧ k ≠ 791) => zWk_k (r := (0, A)) (i := i) h j1 b0.1
      have wk3 := fun (i : Int) (h : i ≠ 0) => zWk_k3 (r := (0, A)) (i := i) h j1 b0.1
      have ww := zWk_w (r := (0, A)) j1 b0.1
      have wh := fun i => zWk_h (r := (0, A)) (i := i) (H := 3066000) j1 b0.1 (hB 12 i)
      generalize hrr : zF zWk (0, A) j = r at *
      obtain ⟨v', C⟩ := r
      dsimp only at *
      have e785 : C 785 0 = A 785 0 := wk _ _ (by decide)
      have hC : zB 512 C := fun k i => by
        by_cases z : k = 12
        · subst z
          have := wh i
          show 0 ≤ C 12 i ∧ C 12 i ≤ 6000 * 512
          omega
        · by_cases z2 : k = 791
          · subst z2
            by_cases z3 : i = 0
            · subst z3
              show 0 ≤ C 791 0 ∧ C 791 0 ≤ 1000
              omega
            · rw [wk3 i z3]; exact hB2 791 i
          · rw [wk k i ⟨z, z2⟩]; exact hB2 k i
      have hW : zWv C := fun t ht => by have := hWv t ⟨ht.1, by have := ht.2; rw [e785] at this; exact this⟩; rw [wk 11 t (by decide)]; exact this
      have hP : zPl C := fun t ht => by unfold zAt at ht; rw [wk 11 t (by decide)] at ht ⊢; rw [wk 787 0 (by decide)]; exact hPl t ht
      have hf : zFt C := fun k k1 k2 => by rw [wk 29 k (by decide), wk 30 k (by decide)]; exact hft k k1 k2
      refine GM.mono (c_liveWeek (k := j) (v := v') k1 hC (fun t => by have := wh t; omega) hf hP hW) ?_
      rintro _ G2 ⟨k3, k4⟩
      exact ⟨by omega, st G2 k3 (zRf_t k2 k4)⟩
  · rw [show zfWeeks A p1 = zNo A (-7) from by unfold zfWeeks; rw [if_neg (show ¬ (p1 < 1 ∨ p1 > 60 ∨ A 788 0 ≠ 2) by omega), if_pos (show A 791 0 + p1 > 1000 by omega)]]
    exact c_C_refuse hR hB2 (by decide)
  · rw [show zfWeeks A p1 = zNo A (-6) from by unfold zfWeeks; rw [if_pos (show (p1 < 1 ∨ p1 > 60 ∨ A 788 0 ≠ 2) by omega)]]
    exact c_C_refuse hR hB2 (by decide)
