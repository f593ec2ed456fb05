/-! THE INVARIANT, 3: the search -/
abbrev zMd (n c : Int) (S : Int → Prop) (A : zA) : Prop := zI0 (n + 1) A ∧ A 788 0 = 2 ∧ A 794 0 + zPP A ≤ 16 * n + 32 + c ∧ ∀ t, zTh A t → zSeals A t ≤ n + 2 ∨ (S t ∧ zSeals A t ≤ n + 3)
abbrev zWk3 (A : zA) (w : Int) : Prop := (300 ≤ w ∧ w ≤ 609) ∧ (w < 400 → w = 300) ∧ (400 ≤ w → w < 500 → w - 400 < A 787 0) ∧ (500 ≤ w → w < 600 → w = 500)
theorem zPP_0 {n : Int} {A : zA} (h : zB n A) : 0 ≤ zPP A := (zS_b (f := fun t => zPw (A 11 t)) (c := 2) (A 785 0) (fun i _ _ => zPw_b) (h 785 0).1 (by decide)).1
theorem md_0 {n : Int} {A : zA} (h : zInv n A) (hp : A 788 0 = 2) : zMd n 0 (fun _ => False) A := ⟨(zI0_m h.i (by omega)), hp, by have := h.pt; unfold zPt at this; show A 794 0 + zPP A ≤ _; unfold zPP; omega, fun t ht => Or.inl (h.sc t ht)⟩
theorem md_1 {n c : Int} {S : Int → Prop} {A : zA} (h : zMd n c S A) (hc : c ≤ 16) : zInv (n + 1) A := ⟨h.1, by have := h.2.2.1; unfold zPP at this; unfold zPt; omega, fun t ht => by rcases h.2.2.2 t ht with z | z <;> omega⟩
theorem md_go {n c : Int} {S : Int → Prop} {A : zA} {t w : Int} (h : zMd n c S A) (hc : c < 16) (ht : zTh A t) (hS : ¬ S t) (hw : 300 ≤ A 11 t) (hk : zWk3 A w) : zMd n (c + 1) (fun u => S u ∨ u = t) (zGo A t w) := by
  obtain ⟨h1, h2, h3, h4⟩ := h
  obtain ⟨k1, k2, k3, k4⟩ := hk
  have b0 : 0 ≤ A 785 0 ∧ A 785 0 ≤ 16 := h1.b 785 0
  have bs : 0 ≤ A 794 0 ∧ A 794 0 ≤ 16 * (n + 1) + 32 := h1.b 794 0
  have pp := zPP_0 h1.b
  have qc : zCh [35, 36, 37, 794, 38, 11] A (zGo A t w) := zGo_ch
  have t1 : 0 ≤ t := ht.1
  have t2 : t < A 785 0 := ht.2
  have hB : zB (n + 1) (zGo A t w) := zGo_B h1.b (by omega) (by omega) (by omega)
  have e0 : zGo A t w 785 0 = A 785 0 := zGo_k (by decide)
  refine ⟨zI0_c h1 qc hB (ir := fun _ => zGo_I h1.ir (by omega)) (hd := fun _ j j1 j2 q => ?_) (pl := fun _ u q => ?_) (wv := fun _ u q => ?_) (sl := fun _ j j1 j2 => ?_) (tm := fun _ => zTeam_c h1.tm qc (by decide) (fun u _ q => ?_)) (s2 := fun _ q => ?_), (zGo_k (by decide)).trans h2, ?_, fun u hu => ?_⟩
  · rw [zGo_k (by decide)] at q ⊢
    have := h1.hd j j1 j2 q
    rw [e0, zGo_w, if_neg (fun z => by rw [z] at this; omega)]
    exact this
  · unfold zAt at q
    rw [zGo_w] at q ⊢
    rw [zGo_k (k := 787) (by decide)]
    by_cases z : u = t
    · rw [if_pos z] at q ⊢; exact k3 q.1 q.2
    · rw [if_neg z] at q ⊢; exact h1.pl u q
  · unfold zTh at q
    rw [e0] at q
    rw [zGo_w]
    by_cases z : u = t
    · rw [if_pos z]; exact ⟨by omega, fun _ => k2, k4⟩
    · rw [if_neg z]; exact h1.wv u q
  · rw [zGo_n] at j2
    rw [zGo_35, e0]
    by_cases z : j = A 794 0
    · rw [if_pos z]; exact t2
    · rw [if_neg z]; exact h1.sl j j1 (by omega)
  · unfold zIn at q
    rw [zGo_w] at q ⊢
    by_cases z : u = t
    · rw [if_pos z] at q; omega
    · rw [if_neg z]
  · rw [zGo_k (by decide)] at q; exact absurd h2 q
  · have e : zPP (zGo A t w) = zPP A := by
      unfold zPP
      rw [e0]
      refine zS_eq _ b0.1 (fun i i1 i2 => ?_)
      show zPw (zGo A t w 11 i) = zPw (A 11 i)
      rw [zGo_w]
      by_cases z : i = t
      · rw [if_pos z, z]; unfold zPw; rw [if_neg (by omega), if_neg (by omega), if_neg (by omega), if_neg (by omega)]
      · rw [if_neg z]
    rw [e, zGo_n]
    omega
  · unfold zTh at hu
    rw [e0] at hu
    rw [zGo_seals bs.1]
    by_cases z : t = u
    · rw [if_pos z]
      have := (h4 t ht).resolve_right (fun y => hS y.1)
      rw [z] at this
      exact Or.inr ⟨Or.inr z.symm, by omega⟩
    · rw [if_neg z, Int.add_zero]
      exact (h4 u hu).imp id (fun y => ⟨Or.inl y.1, y.2⟩)
theorem md_c {n c : Int} {S S' : Int → Prop} {A : zA} (h : zMd n c S A) (q : ∀ t, S t → S' t) : zMd n c S' A := ⟨h.1, h.2.1, h.2.2.1, fun t ht => (h.2.2.2 t ht).imp id (fun y => ⟨q t y.1, y.2⟩)⟩
theorem v_found {n t : Int} {A : zA} (h : zInv n A) : zInv (n + 1) (zfFound A t).2 := by
  unfold zfFound
  split
  · exact v_no h
  split
  · exact v_no h
  rename_i q1 q2
  exact md_1 (md_go (md_0 h (by omega)) (by decide) (Classical.not_not.mp q1) id (by omega) ⟨by decide, by decide, by omega, by decide⟩) (by decide)
theorem zHold_9 {N : Int} {A : zA} {t y : Int} (h : zB N A) (n : Int) (hn : 0 ≤ n) : zHold A t y n = -1 ∨ zHold A t y n = 100 ∨ (0 ≤ zHold A t y n ∧ zHold A t y n ≤ 9) := by
  refine zloopI (i := 0) (I := fun n => zHold A t y n = -1 ∨ zHold A t y n = 100 ∨ (0 ≤ zHold A t y n ∧ zHold A t y n ≤ 9)) (P := fun _ => zHold A t y n = -1 ∨ zHold A t y n = 100 ∨ (0 ≤ zHold A t y n ∧ zHold A t y n ≤ 9)) n hn (Or.inl rfl) ?_ (fun q => q) (fun _ _ _ _ q => q)
  intro j j1 j2 hi
  show zHold A t y (j + 1) = -1 ∨ zHold A t y (j + 1) = 100 ∨ (0 ≤ zHold A t y (j + 1) ∧ zHold A t y (j + 1) ≤ 9)
  rw [zHold_s j1]
  have : 0 ≤ A 32 (6 * t + j) ∧ A 32 (6 * t + j) ≤ 9 := h 32 _
  (repeat' split) <;> omega
theorem v_giveBack {n t y : Int} {A : zA} (h : zInv n A) : zInv (n + 1) (zfGiveBack A t y).2 := by
  unfold zfGiveBack
  split
  · exact v_no h
  split
  · exact v_no h
  rename_i q1 q2
  have ht : zTh A t := Classical.not_not.mp q1
  have b : zfHolder A t y = -1 ∨ zfHolder A t y = 100 ∨ (0 ≤ zfHolder A t y ∧ zfHolder A t y ≤ 9) := by
    unfold zfHolder
    rw [if_pos ht]
    exact zHold_9 h.i.b _ (h.i.b 13 t).1
  have a1 : A 788 0 = 2 := Classical.byContradiction fun z => q2 (Or.inl z)
  have a2 : 300 ≤ A 11 t := Classical.byContradiction fun z => q2 (Or.inr (Or.inl ⟨by omega, fun y => by unfold zAt at y; omega⟩))
  have a3 : zfHolder A t y ≠ -1 ∧ zfHolder A t y ≠ 100 := ⟨fun z => q2 (Or.inr (Or.inr (Or.inl z))), fun z => q2 (Or.inr (Or.inr (Or.inr z)))⟩
  exact md_1 (md_go (md_0 h a1) (by decide) ht id a2 ⟨by omega, by omega, by omega, by omega⟩) (by decide)
theorem v_move {n t p : Int} {A : zA} (h : zInv n A) : zInv (n + 1) (zfMove A t p).2 := by
  have b1 : 0 ≤ A 787 0 ∧ A 787 0 ≤ 5 := h.i.b 787 0
  have bf : 0 ≤ A 792 0 ∧ A 792 0 ≤ 1000000 := h.i.b 792 0
  have h1 := (zInv_1 h).i
  unfold zfMove
  split
  · exact v_no h
  split
  · exact v_no h
  split
  · exact v_no h
  rename_i q1 q2 q3
  have ht : zTh A t := Classical.byContradiction fun z => q1 (Or.inl z)
  have hp : 0 ≤ p ∧ p < A 787 0 := Classical.byContradiction fun z => q1 (Or.inr z)
  have a1 : A 788 0 = 2 := Classical.byContradiction fun z => q2 (Or.inl z)
  have a2 : 300 ≤ A 11 t := Classical.byContradiction fun z => q2 (Or.inr (Or.inl ⟨by omega, fun y => by unfold zAt at y; omega⟩))
  have pr : 0 ≤ zPrice A t p := by
    have x1 : 0 ≤ A 9 t := (h.i.b 9 t).1
    have x2 : 0 ≤ A 25 p := (h.i.b 25 p).1
    have x3 : 0 ≤ A 25 (A 11 t - 400) := (h.i.b 25 _).1
    unfold zPrice
    refine Int.mul_nonneg x1 ?_
    split <;> omega
  have hA : zInv n (zU A 792 0 (A 792 0 - zPrice A t p)) := by
    have q : zCh [792] A (zU A 792 0 (A 792 0 - zPrice A t p)) := zCh_u
    exact ⟨zI0_c h.i q (zB_u h.i.b ⟨by show 0 ≤ A 792 0 - zPrice A t p; omega, by show A 792 0 - zPrice A t p ≤ 1000000; omega⟩), h.pt, h.sc⟩
  exact md_1 (md_go (md_0 hA a1) (by decide) ht id a2 ⟨by omega, by omega, fun _ _ => by show 400 + p - 400 < A 787 0; omega, by omega⟩) (by decide)
theorem v_lose {n g : Int} {A : zA} (h : zInv n A) : zInv (n + 1) (zfLose A g).2 := by
  have b0 : 0 ≤ A 785 0 ∧ A 785 0 ≤ 16 := h.i.b 785 0
  unfold zfLose
  split
  · exact v_no h
  split
  · exact v_no h
  rename_i q1 q2
  have w := zF_i (f := zLose1 g) (r := (0, A)) (I := fun i r => ∃ c, c ≤ i ∧ zMd n c (fun u => u < i) r.2 ∧ r.2 785 0 = A 785 0) (A 785 0) b0.1 ⟨0, Int.le_refl _, md_c (md_0 h (Classical.not_not.mp q2)) (fun t q => q.elim), rfl⟩ (fun i r i1 i2 ⟨c, c1, c2, c3⟩ => ?_)
  · obtain ⟨c, c1, c2, c3⟩ := w
    exact md_1 c2 (by omega)
  · obtain ⟨v, X⟩ := r
    unfold zLose1
    dsimp only at *
    split
    · rename_i q
      refine ⟨c + 1, by omega, md_c (md_go c2 (by omega) ⟨i1, by omega⟩ (by omega) (by unfold zAt at q; omega) ⟨by decide, by decide, by omega, by decide⟩) (fun u q => by omega), ?_⟩
      exact (zGo_k (A := X) (t := i) (w := 500) (k := 785) (by decide)).trans c3
    · exact ⟨c, by omega, md_c c2 (fun u q => by omega), c3⟩
theorem zWk_o {A : zA} {t v n : Int} (hn : 0 ≤ n) (h0 : 0 ≤ A 785 0) (ht : A 785 0 ≤ t) : (zF zWk (v, A) n).2 12 t = A 12 t ∧ (zF zWk (v, A) n).2 785 0 = A 785 0 :=
  zF_i (I := fun _ q => q.2 12 t = A 12 t ∧ q.2 785 0 = A 785 0) n hn ⟨rfl, rfl⟩ (fun i q i1 i2 hi => by
    rw [zWk_2]
    have w := zF_i (f := zWk1) (r := q) (I := fun _ q => q.2 12 t = A 12 t ∧ q.2 785 0 = A 785 0) (q.2 785 0) (by rw [hi.2]; exact h0) hi (fun j r j1 j2 hj => by
      unfold zWk1
      dsimp only
      rw [zU_i (by rw [hi.2] at j2; omega), zU_k (by decide)]
      exact hj)
    rw [zU_k (by decide), zU_k (by decide)]
    exact w)
theorem v_weeks {n x : Int} {A : zA} (h : zInv n A) : zInv (n + 1) (zfWeeks A x).2 := by
  have h1 := (zInv_1 h).i
  have b0 : 0 ≤ A 785 0 ∧ A 785 0 ≤ 16 := h.i.b 785 0
  have bw : 0 ≤ A 791 0 ∧ A 791 0 ≤ 1000 := h.i.b 791 0
  unfold zfWeeks
  split
  · exact v_no h
  split
  · exact v_no h
  rename_i q1 q2
  dsimp only
  have qc : zCh [12, 791] A (zF zWk (0, A) x).2 := fun k hk => funext fun i => zWk_k (by simp at hk; omega) (by omega) b0.1
  have ew : (zF zWk (0, A) x).2 791 0 = A 791 0 + x := zWk_w (by omega) b0.1
  refine zInv_c h qc (by decide) (zI0_c h1 qc (fun k i => ?_) (nt := fun _ t q => ?_))
  · by_cases z1 : k = 12
    · rw [z1]
      have bh : 0 ≤ A 12 i ∧ A 12 i ≤ 6000 * n := h.i.b 12 i
      have := zWk_h (r := (0, A)) (n := x) (i := i) (H := 6000 * n) (by omega) b0.1 bh
      show 0 ≤ _ ∧ _ ≤ 6000 * (n + 1)
      omega
    · by_cases z2 : k = 791
      · rw [z2]
        show 0 ≤ _ ∧ _ ≤ 1000
        by_cases y : i = 0
        · rw [y, ew]; omega
        · rw [zWk_k3 y (by omega) b0.1]; exact h.i.b 791 i
      · rw [qc k (by simp; omega)]; exact h1.b k i
  · have e := (zWk_o (v := 0) (t := A 785 0) (by omega : 0 ≤ x) b0.1 (Int.le_refl _)).2
    rw [e] at q
    have e2 := (zWk_o (v := 0) (by omega : 0 ≤ x) b0.1 q).1
    rw [e2, congrFun (qc 13 (by decide)) t]
    exact h1.nt t q
theorem v_spread {n x : Int} {A : zA} (h : zInv n A) : zInv (n + 1) (zfSpread A x).2 := by
  have b0 : 0 ≤ A 785 0 ∧ A 785 0 ≤ 16 := h.i.b 785 0
  have b1 : 0 ≤ A 787 0 ∧ A 787 0 ≤ 5 := h.i.b 787 0
  have bf : 0 ≤ A 792 0 ∧ A 792 0 ≤ 1000000 := h.i.b 792 0
  unfold zfSpread
  split
  · exact v_no h
  split
  · exact v_no h
  split
  · exact v_no h
  split
  · exact zInv_1 h
  split
  · exact v_no h
  rename_i q1 q2 q3 q4 q5
  have hp : A 788 0 = 2 := Classical.not_not.mp q1
  have cost : 0 ≤ (zSp A).2 := by
    rw [← zSp_co q3]
    refine zS_up (i := 0) (f := fun k => zPrice A ((zMn A).2 k) ((zSp A).1 k)) (n := (zMn A).1) ⟨Int.le_refl _, ?_⟩ (fun k _ _ => ?_)
    · by_cases hm : ∃ p : Int × (Int → Int), zEnum (zMv A) (fun _ => 0) (A 785 0) p.1 p.2
      · rw [show zMn A = Classical.choose hm from dif_pos hm]
        exact (Classical.choose_spec hm).1.1
      · rw [show zMn A = (0, fun _ => 0) from dif_neg hm]
        exact Int.le_refl _
    · have x1 : 0 ≤ A 9 ((zMn A).2 k) := (h.i.b 9 _).1
      have x2 : 0 ≤ A 25 ((zSp A).1 k) := (h.i.b 25 _).1
      have x3 : 0 ≤ A 25 (A 11 ((zMn A).2 k) - 400) := (h.i.b 25 _).1
      show 0 ≤ zPrice A ((zMn A).2 k) ((zSp A).1 k)
      unfold zPrice
      refine Int.mul_nonneg x1 ?_
      split <;> omega
  have hA : zInv n (zU A 792 0 (A 792 0 - (zSp A).2)) := by
    have q : zCh [792] A (zU A 792 0 (A 792 0 - (zSp A).2)) := zCh_u
    exact ⟨zI0_c h.i q (zB_u h.i.b ⟨by show 0 ≤ A 792 0 - (zSp A).2; omega, by show A 792 0 - (zSp A).2 ≤ 1000000; omega⟩), h.pt, h.sc⟩
  dsimp only
  by_cases hm : ∃ p : Int × (Int → Int), zEnum (zMv A) (fun _ => 0) (A 785 0) p.1 p.2
  · have em : zMn A = Classical.choose hm := dif_pos hm
    have hE := Classical.choose_spec hm
    rw [← em] at hE
    by_cases hx : ∃ f, zIsS A (zMn A).1 (zMn A).2 f
    · have e : zSp A = (Classical.choose hx, zCo A (zMn A).1 (zMn A).2 (Classical.choose hx)) := dif_pos hx
      have hf := (Classical.choose_spec hx).1.1
      have ef : (zSp A).1 = Classical.choose hx := by rw [e]
      rw [← ef] at hf
      generalize (zMn A).2 = L at *
      generalize (zMn A).1 = k at *
      generalize (zSp A).1 = F at *
      have w := zF_i (f := zGs1 L F) (r := (0, zU A 792 0 (A 792 0 - (zSp A).2))) (I := fun i r => zMd n i (fun u => ∃ j, (0 ≤ j ∧ j < i) ∧ L j = u) r.2 ∧ r.2 785 0 = A 785 0 ∧ r.2 787 0 = A 787 0 ∧ ∀ j, i ≤ j → j < k → r.2 11 (L j) = A 11 (L j)) k hE.1.1 ⟨md_c (md_0 hA hp) (fun t q => q.elim), rfl, rfl, fun _ _ _ => rfl⟩ (fun i r i1 i2 ⟨c1, c2, c3, c4⟩ => ?_)
      · exact md_1 w.1 (by omega)
      · obtain ⟨v, X⟩ := r
        unfold zGs1
        dsimp only at *
        obtain ⟨o1, o2⟩ := hE.2.1 i i1 i2
        have f := (hf i i1 i2).1.1
        have ew := c4 i (Int.le_refl _) i2
        have ne : ∀ j, 0 ≤ j → j < k → j ≠ i → L j ≠ L i := fun j j1 j2 z y => z (zEnum_inj hE ⟨j1, j2⟩ ⟨i1, i2⟩ y)
        refine ⟨md_c (md_go c1 (by omega) ⟨o1.1, by omega⟩ (fun ⟨j, j1, j2⟩ => ne j j1.1 (by omega) (by omega) j2) (by rw [ew]; unfold zMv zAt at o2; omega) ⟨by omega, by omega, by omega, by omega⟩) ?_, ?_, ?_, ?_⟩
        · rintro u (⟨j, j1, j2⟩ | z)
          · exact ⟨j, by omega, j2⟩
          · exact ⟨i, by omega, z.symm⟩
        · exact (zGo_k (k := 785) (by decide)).trans c2
        · exact (zGo_k (k := 787) (by decide)).trans c3
        · intro j j1 j2
          rw [zGo_w, if_neg (ne j (by omega) j2 (by omega))]
          exact c4 j (by omega) j2
    · have e : zSp A = (fun _ => -1, -1) := dif_neg hx
      rw [e] at q3
      exact absurd rfl q3
  · rw [show (zMn A).1 = 0 from by rw [show zMn A = (0, fun _ => 0) from dif_neg hm], zF_0]
    exact zInv_1 hA
