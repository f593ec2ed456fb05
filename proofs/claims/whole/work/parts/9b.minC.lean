/-! THE CLASS, 46: minutes are lived -/
theorem zTau_in {A : zA} {t k : Int} (hk : 0 ≤ k) : ((100 ≤ A 11 t ∧ A 11 t < 200) ∧ zTau A t = k) ↔ zGv A (A 14) k t := by
  constructor
  · intro z
    have : zTau A t = A 14 t := by
      unfold zTau
      rw [if_neg (by omega), if_pos z.1]
    exact ⟨this.symm.trans z.2, z.1⟩
  · intro z
    have : zTau A t = A 14 t := by
      unfold zTau
      rw [if_neg (by have := z.2; omega), if_pos z.2]
    exact ⟨z.2, this.trans z.1⟩
theorem c_beginNext {e : gE} {b : Nat} {m : Int} {G : gH} {A : zA} {T Q P : Int → Int} {k v : Int} (hc : zRc e b m G A T Q P) (h : zHo A) (hf : zFn 1 A) (hk : 0 ≤ k ∧ k < A 786 0) : GX e b m m_Hours_beginNext [(2, ((b : Int) + 10)), (0, k), (2, Q k)] G (zPP A - zPP (zBg1 k (v, A)).2).toNat 0 (fun _ G1 => zRc e b m G1 (zBg1 k (v, A)).2 T Q P ∧ zRf m G G1) := by
  refine GM.inv fun hF => ?_
  have hlo := fx_lo hF
  have bg := zBg1_h (v := v) hk h hf
  have hh := h
  obtain ⟨hi, hp, hm, hs⟩ := hh
  have hc2 := hc
  obtain ⟨⟨r1, r2, r3, r4⟩, hT, hQ, hP, hJ, hD⟩ := hc2
  have bt : 0 ≤ A 786 0 ∧ A 786 0 ≤ 3 := hi.1 786 0
  have b0 : 0 ≤ A 785 0 ∧ A 785 0 ≤ 16 := hi.1 785 0
  have q := hQ.2.1 k hk.1 hk.2
  have q9 := hQ.1.2.2.1 k hk.1 hk.2
  have eS : (A 17 k ≠ -1 ∨ A 789 0 < A 16 k ∨ zNxt A k = -1) → (zBg1 k (v, A)).2 = A := fun z => by unfold zBg1; dsimp only; rw [if_pos z]
  have bT : A 17 k ≠ -1 → T (A 17 k) ≠ 0 := fun z => by
    have w := hi.2.2.1 k hk.1 (by omega) z
    have := (hT.2.1 _ w.1.1 w.1.2).1.1.2
    omega
  refine GM.ofEV (by decide) (Nat.le_of_ble_eq_true rfl) (sg_Hours_beginNext_0 ?_)
  rw [q.2.2.1, q.2.2.2, r2.1]
  refine ⟨⟨q9, q9, fun n1 n2 => ?_⟩, fun z => ?_⟩
  · have ih : A 17 k = -1 := by
      by_cases z : A 17 k = -1
      · exact z
      · rw [if_neg z] at n1
        exact absurd (bT z) n1
    have nf : ¬ A 789 0 < A 16 k := by
      intro z
      rw [if_neg (by omega)] at n2
      omega
    obtain ⟨⟨n, f, l1, hl⟩, -⟩ := hJ
    obtain ⟨J, O, en, ef, hj⟩ := hl hp
    have inJ : ∀ u, zTh A u → zGv A (A 14) k u → J u := fun u u1 u2 => (hj u u1.1 u1.2 u2.2).1.2 (by
      rcases hm u u1 u2.2 with z | z
      · have := u2.1; omega
      · exact z.2.2)
    have due : ∀ u, zTh A u → zGv A (A 14) k u → G 603 (T u) 0 + G 602 (T u) 0 = zDue A u := fun u u1 u2 => by
      have x := (hj u u1.1 u1.2 u2.2).2 (inJ u u1 u2)
      rw [x.1, x.2]
      rfl
    have n16 := en.1
    refine zloop (P := fun i => (∀ j, 0 ≤ j → j < i → ¬ zGv A (A 14) k (O j)) → EX e b m m_Hours_beginNext _ _ 0 34 [(2, ((b : Int) + 10)), (0, k), (2, Q k), (2, (b : Int) + 13), (0, i)] [] G) (i := 0) n n16.1 ?_ ?_ (fun j j1 j2 => by omega)
    · intro hn
      refine sg_Hours_beginNext_34 ?_
      rw [l1.2.1]
      refine ⟨l1.1, l1.1, fun _ => ?_, fun z => absurd z (by omega)⟩
      have e1 : zNxt A k = -1 := zArg_n b0.1 (fun u u1 u2 u3 => by
        obtain ⟨j, ⟨j1, j2⟩, rfl⟩ := en.2.2.2 u u1 u2 (inJ u ⟨u1, u2⟩ u3)
        exact hn j j1 j2 u3)
      rw [eS (Or.inr (Or.inr e1))]
      exact ⟨hc, zRf_r⟩
    · intro i i1 i2 st hn
      have w := zAL_g l1 ⟨i1, i2⟩
      have o := (en.2.1 i i1 i2).1
      have ot := (hT.2.1 (O i) o.1 o.2).1
      have wk := w.2.2.2
      rw [ef i i1 i2] at wk
      refine sg_Hours_beginNext_34 ?_
      rw [l1.2.1, w.2.2.1, ef i i1 i2, ot.2.2.2.2.2.2.1, ot.2.2.2.2.2.2.2.2.1, zTau_in hk.1, r2.1]
      refine ⟨l1.1, l1.1, fun z => absurd z (by omega), fun _ => ⟨w.1, ⟨i1, i2⟩, w.2.1, wk, wk, fun z => ⟨by omega, st (fun j j1 j2 => ?_)⟩, fun z => ⟨q9, ?_⟩⟩⟩
      · by_cases y : j = i
        · rw [y]; exact z
        · exact hn j j1 (by omega)
      · have e1 : zNxt A k = O i := zArg_u o z (fun u u1 u2 u3 u4 => by
          obtain ⟨j, ⟨j1, j2⟩, rfl⟩ := en.2.2.2 u u1 u2 (inJ u ⟨u1, u2⟩ u3)
          have ij : i < j := by
            by_cases y : j < i
            · exact absurd u3 (hn j j1 y)
            · by_cases y2 : j = i
              · exact absurd (by rw [y2]) u4
              · omega
          have x := en.2.2.1 i j i1 ij j2
          have x2 : G 603 (T (O i)) 0 + G 602 (T (O i)) 0 < G 603 (T (O j)) 0 + G 602 (T (O j)) 0 ∨ (G 603 (T (O i)) 0 + G 602 (T (O i)) 0 = G 603 (T (O j)) 0 + G 602 (T (O j)) 0 ∧ O i < O j) := x
          rw [due _ o z, due _ ⟨u1, u2⟩ u3] at x2
          exact x2)
        have e2 := zBg1_go (v := v) ih nf e1 (by omega)
        have ll := ((hj (O i) o.1 o.2 z.2).2 (inJ _ o z)).1
        have pw : zPw (200 + k) < zPw (zB1 A k (O i) 11 (O i)) := by
          rw [zB1_ch 11 (by decide), zPw_2 z.2, zPw_1 (by omega)]
          decide
        have p := zPP_go (A := zB1 A k (O i)) (t := O i) (w := 200 + k) (by unfold zTh; rw [zB1_ch 785 (by decide)]; exact o) pw
        have p2 := zPP_c (zB1_ch (A := A) (k := k) (t := O i) 11 (by decide)) (zB1_ch 785 (by decide))
        rw [e2]
        refine ⟨(zPP A - zPP (zGo (zB1 A k (O i)) (O i) (200 + k))).toNat - 1, 0, 1, 0, by omega, rfl, ?_⟩
        exact c_begin hc h hk o z ll
  · rw [eS (by
      rcases z with z | z
      · left
        intro y
        rw [if_pos y] at z
        exact z rfl
      · right; left
        have z2 := z.2
        by_cases y : A 16 k < A 789 0
        · rw [if_pos y] at z2; exact absurd rfl z2
        · rw [if_neg y] at z2; omega)]
    exact ⟨hc, zRf_r⟩
theorem zCm1_go {A : zA} {k v : Int} (h1 : A 17 k ≠ -1) (h2 : A 16 k = A 789 0) : (zCm1 k (v, A)).2 = zU (zGo A (A 17 k) 300) 17 k (-1) := by
  unfold zCm1
  dsimp only
  rw [if_pos ⟨h1, h2⟩]
theorem zCm1_no {A : zA} {k v : Int} (h : ¬ (A 17 k ≠ -1 ∧ A 16 k = A 789 0)) : (zCm1 k (v, A)).2 = A := by
  unfold zCm1
  dsimp only
  rw [if_neg h]
/-- at team k what was in hand is out -/
def zFm (k : Int) (A : zA) : Prop := zFn 0 A ∧ ∀ j, 0 ≤ j → j < k → j < A 786 0 → A 17 j ≠ -1 → A 789 0 + 1 ≤ A 16 j
theorem zCm1_h {A : zA} {k v : Int} (hk : 0 ≤ k ∧ k < A 786 0) (h : zHo A) (hf : zFm k A) : zHo (zCm1 k (v, A)).2 ∧ zFm (k + 1) (zCm1 k (v, A)).2 ∧ zPP (zCm1 k (v, A)).2 ≤ zPP A := by
  obtain ⟨hi, hp, hm, hs⟩ := h
  have bt : 0 ≤ A 786 0 ∧ A 786 0 ≤ 3 := hi.1 786 0
  have bs : 0 ≤ A 794 0 ∧ A 794 0 ≤ 16 * 512 + 32 := hi.1 794 0
  have w := zCm1_w (k := k) (r := (v, A)) ⟨hk.1, by omega⟩ hi
  by_cases q : A 17 k ≠ -1 ∧ A 16 k = A 789 0
  · have hh := hi.2.2.1 k hk.1 (by omega) q.1
    have qc : zCh ([35, 36, 37, 794, 38, 11] ++ [17]) A (zU (zGo A (A 17 k) 300) 17 k (-1)) := zCh_t zGo_ch2 zCh_u
    have q17 : zCh [17] (zGo A (A 17 k) 300) (zU (zGo A (A 17 k) 300) 17 k (-1)) := zCh_u
    have pw : zPw 300 < zPw (A 11 (A 17 k)) := by
      rw [hh.2, zPw_1 (w := 200 + k) (by omega), zPw_0 (w := 300) (by decide)]
      decide
    have p := zPP_go hh.1 pw
    have p2 := zPP_c (q17 11 (by decide)) (q17 785 (by decide))
    have e17 : ∀ j, zU (zGo A (A 17 k) 300) 17 k (-1) 17 j = if j = k then -1 else A 17 j := fun j => by
      by_cases z : j = k
      · rw [z, zU_eq, if_pos rfl]
      · rw [zU_i z, if_neg z, zGo_k (by decide)]
    rw [zCm1_go q.1 q.2] at w ⊢
    refine ⟨⟨w.1, by rw [qc 788 (by decide)]; exact hp, zTeam_c hm qc (by decide) (fun u u1 u2 => ?_), zS2_c (zS2_go bs.1 hs pw) (q17 35 (by decide)) (q17 794 (by decide)) (q17 11 (by decide)) (q17 785 (by decide))⟩, ⟨fun j j1 j2 j3 => ?_, fun j j1 j2 j3 j4 => ?_⟩, by omega⟩
    · unfold zIn at u2
      rw [q17 11 (by decide), zGo_w] at u2 ⊢
      by_cases z : u = A 17 k
      · rw [if_pos z] at u2; omega
      · rw [if_neg z]
    · rw [qc 786 (by decide)] at j2
      rw [e17] at j3
      rw [qc 789 (by decide), qc 16 (by decide)]
      by_cases z : j = k
      · rw [if_pos z] at j3; exact absurd rfl j3
      · rw [if_neg z] at j3
        exact hf.1 j j1 j2 j3
    · rw [qc 786 (by decide)] at j3
      rw [e17] at j4
      rw [qc 789 (by decide), qc 16 (by decide)]
      by_cases z : j = k
      · rw [if_pos z] at j4; exact absurd rfl j4
      · rw [if_neg z] at j4
        exact hf.2 j j1 (by omega) j3 j4
  · rw [zCm1_no q]
    refine ⟨⟨hi, hp, hm, hs⟩, ⟨hf.1, fun j j1 j2 j3 j4 => ?_⟩, Int.le_refl _⟩
    by_cases z : j = k
    · rw [z] at j3 j4 ⊢
      have := hf.1 k hk.1 hk.2 j4
      have : A 16 k ≠ A 789 0 := fun y => q ⟨j4, y⟩
      omega
    · exact hf.2 j j1 (by omega) j3 j4
theorem zRkT_530 {e : gE} {b : Nat} {m : Int} {G : gH} {A : zA} {T τ : Int → Int} {a v : Int} (h : zRkT e b m G A T τ) : zRkT e b m (gU G 530 a 0 v) A T τ := zRkT_fr h ⟨fun i j _ => gU_c _ (by decide), ⟨gU_c _ (by decide), gU_c _ (by decide)⟩, fun _ j => gU_c _ (by decide), fun t t1 t2 => ⟨fun c hc => gU_c _ (by omega), fun j => gU_c _ (by decide), fun j => gU_c _ (by decide)⟩⟩
theorem c_bringOut {e : gE} {b : Nat} {m : Int} {G : gH} {A : zA} {T Q P : Int → Int} {k v : Int} (hc : zRc e b m G A T Q P) (h : zHo A) (hf : zFm k A) (hk : 0 ≤ k ∧ k < A 786 0) : GX e b m m_Team_bringOut [(2, Q k), (0, A 789 0)] G (zPP A - zPP (zCm1 k (v, A)).2).toNat 0 (fun _ G1 => zRc e b m G1 (zCm1 k (v, A)).2 T Q P ∧ zRf m G G1) := by
  refine GM.tg fun hTg => GM.inv fun hF => ?_
  have hlo := fx_lo hF
  have hh := h
  obtain ⟨hi, hp, hm, hs⟩ := hh
  have hc2 := hc
  obtain ⟨⟨r1, r2, r3, r4⟩, hT, hQ, hP, hJ, hD⟩ := hc2
  have bt : 0 ≤ A 786 0 ∧ A 786 0 ≤ 3 := hi.1 786 0
  have b0 : 0 ≤ A 785 0 ∧ A 785 0 ≤ 16 := hi.1 785 0
  have bs : 0 ≤ A 794 0 ∧ A 794 0 ≤ 16 * 512 + 32 := hi.1 794 0
  have q := hQ.2.1 k hk.1 hk.2
  have q9 := hQ.1.2.2.1 k hk.1 hk.2
  have hq := q.1
  refine GM.ofEV (by decide) (Nat.le_of_ble_eq_true rfl) (sg_Team_bringOut_0 q9 ?_)
  rw [q.2.2.1, q.2.2.2]
  refine ⟨fun n1 n2 => ?_, fun z => ?_⟩
  · have ih : A 17 k ≠ -1 := fun z => n1 (by rw [if_pos z])
    rw [if_neg ih]
    have w := hi.2.2.1 k hk.1 (by omega) ih
    have fr := hf.1 k hk.1 hk.2 ih
    have ef : A 16 k = A 789 0 := by omega
    rw [zCm1_go ih ef]
    generalize hgt : A 17 k = t at *
    have tt := (hT.2.1 t w.1.1 w.1.2).1
    have p1 : zPw (A 11 t) = 1 := by rw [w.2]; exact zPw_1 (by omega)
    have pp := zPP_go (w := 300) w.1 (by rw [p1, zPw_0 (w := 300) (by decide)]; decide)
    have q17 : zCh [17] (zGo A t 300) (zU (zGo A t 300) 17 k (-1)) := zCh_u
    have pp2 := zPP_c (q17 11 (by decide)) (q17 785 (by decide))
    have qc : zCh ([35, 36, 37, 794, 38, 11] ++ [17]) A (zU (zGo A t 300) 17 k (-1)) := zCh_t zGo_ch2 zCh_u
    refine ⟨tt.1.1, (zPP A - zPP (zU (zGo A t 300) 17 k (-1))).toNat - 1, 0, 1, 0, by omega, rfl, GM.mono (c_goH (w := 300) hi.1 hs hT hp w.1 (by decide) (by omega)) ?_⟩
    rintro _ G7 ⟨k1, k2⟩
    have tb := hTg (T t) (by have := tt.1.1; omega)
    have qb := hTg (Q k) (by omega)
    have e530 : G7 530 (Q k) 0 = T t := by
      rw [k2.2 530 _ _ (by decide) qb.2 (fun z => absurd z.1 (by decide)), q.2.2.2]
      exact if_neg ih
    have t7 := (k1.2.1 t w.1.1 (by rw [zGo_k (by decide)]; exact w.1.2)).1
    have ttm := tt.1.2
    rw [e530]
    refine ⟨by rw [k2.2 0 _ _ (by decide) qb.2 (fun z => absurd z.1 (by decide))]; exact q9, t7.1.1, GM.mono (c_giveTo t7.1.1 (by omega)) ?_⟩
    rintro _ G15 rfl
    refine ⟨by rw [gU_c _ (by decide), k2.2 0 _ _ (by decide) qb.2 (fun z => absurd z.1 (by decide))]; exact q9, by omega, ?_⟩
    rintro _ rfl
    have w2 : zFW m [530, 600, 598, 604, 605, 1] G7 (gU G7 600 (T t) 0 (-1)) := zFW_u (by decide) (by decide) tt.1.2
    have w3 : zFW m [530, 600, 598, 604, 605, 1] (gU G7 600 (T t) 0 (-1)) (gU (gU G7 600 (T t) 0 (-1)) 530 (Q k) 0 0) := zFW_u (by decide) (by decide) hq
    have ww := zFW_t (zFW_t (zFW_m k2 (S' := [530, 600, 598, 604, 605, 1]) (by decide)) w2) w3
    have inj : ∀ u, zTh A u → T u = T t → u = t := fun u u1 u2 => zRkT_i hT u1 w.1 u2
    refine ⟨zRc_h hTg hlo hc ww (by decide) qc (by decide) (zRkT_B q17 (by decide) (zRkT_530 (zRkT_tm k1 (zF6_u tt.1.2) (fun u hu => ?_)))) ⟨?_, fun j j1 j2 => ?_, ?_⟩ (fun u u1 u2 => ?_), zRf_fw hlo.2 ww⟩
    · unfold zTh at hu
      rw [zGo_k (by decide)] at hu
      unfold zTau zIn
      rw [q17 11 (by decide), zGo_w, qc 14 (by decide)]
      by_cases z : u = t
      · rw [z, gU_eq, if_pos rfl, if_neg (by decide), if_neg (by decide)]
      · rw [gU_ne (fun y => z (inj u hu y.2.1)), if_neg z]
        have x := (k1.2.1 u hu.1 (by rw [zGo_k (by decide)]; exact hu.2)).1.2.2.2.2.2.2.2.2.1
        exact x
    · rw [qc 786 (by decide)]
      exact zAL_fw hTg hlo (by decide) ww (by decide) (by decide) hQ.1
    · rw [qc 786 (by decide)] at j2
      have x := hQ.2.1 j j1 j2
      have hj := (hTg (Q j) (by have := hQ.1.2.2.1 j j1 j2; omega)).2
      rw [ww.2 528 _ _ (by decide) hj (fun z => absurd z.1 (by decide)), ww.2 529 _ _ (by decide) hj (fun z => absurd z.1 (by decide)), qc 15 (by decide), qc 16 (by decide)]
      refine ⟨x.1, x.2.1, x.2.2.1, ?_⟩
      by_cases z : j = k
      · rw [z, gU_eq, zU_eq, if_pos rfl]
      · have nz : Q j ≠ Q k := fun y => z (hQ.2.2 j k j1 j2 hk.1 hk.2 y)
        rw [gU_ne (fun y => nz y.2.1), gU_c 530 (by decide), k2.2 530 _ _ (by decide) hj (fun z => absurd z.1 (by decide)), zU_i z, zGo_k (by decide)]
        exact x.2.2.2
    · rw [qc 786 (by decide)]
      exact hQ.2.2
    · unfold zIn at u2
      rw [q17 11 (by decide), zGo_w] at u2 ⊢
      by_cases z : u = t
      · rw [if_pos z] at u2; omega
      · rw [if_neg z]
  · have e : (zCm1 k (v, A)).2 = A := zCm1_no (fun y => by
      rcases z with z | z
      · rw [if_neg y.1] at z
        have w := hi.2.2.1 k hk.1 (by omega) y.1
        have := (hT.2.1 _ w.1.1 w.1.2).1.1.2
        omega
      · have := z.2; omega)
    rw [e]
    exact ⟨hc, zRf_r⟩
