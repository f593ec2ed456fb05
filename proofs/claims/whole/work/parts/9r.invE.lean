/-! THE INVARIANT, 5: the minutes -/
abbrev zKm : List Nat := [11, 14, 16, 17, 35, 36, 37, 38, 788, 789, 794]
abbrev zK (N : Int) (A X : zA) : Prop := zB N X ∧ zPt N X ∧ zPl X ∧ zWv X ∧ (∀ k, 0 ≤ k → k < X 794 0 → X 35 k < X 785 0) ∧ (∀ k, X 17 k < X 785 0) ∧ (∀ k, X 786 0 ≤ k → X 16 k = 0 ∧ X 17 k = -1) ∧ zCh zKm A X
theorem zCh_km {A X Y : zA} {ks : List Nat} (h : zCh zKm A X) (q : zCh ks X Y) (hk : ∀ k ∈ ks, k ∈ zKm) : zCh zKm A Y := zCh_m (zCh_t h q) (fun k z => (List.mem_append.mp z).elim id (hk k))
theorem zK_go {N : Int} {A X : zA} {t w : Int} (h : zK N A X) (ht : zTh X t) (hw : zPw w < zPw (X 11 t)) (hk : (200 ≤ w ∧ w < 203) ∨ w = 300 ∨ w = 500) : zK N A (zGo X t w) := by
  obtain ⟨h1, h2, h3, h4, h5, h6, h7, h8⟩ := h
  have b0 : 0 ≤ X 785 0 ∧ X 785 0 ≤ 16 := h1 785 0
  have t1 : 0 ≤ t := ht.1
  have t2 : t < X 785 0 := ht.2
  have e0 : zGo X t w 785 0 = X 785 0 := zGo_k (by decide)
  refine ⟨zGo_B h1 (zGo_s h1 h2 ht hw) (by omega) (by omega), zGo_P h2 ht hw, fun u q => ?_, fun u q => ?_, fun j j1 j2 => ?_, fun j => ?_, fun j hj => ?_, zCh_km h8 zGo_ch (by decide)⟩
  · unfold zAt at q
    rw [zGo_w] at q ⊢
    rw [zGo_k (k := 787) (by decide)]
    by_cases z : u = t
    · rw [if_pos z] at q; omega
    · rw [if_neg z] at q ⊢; exact h3 u q
  · unfold zTh at q
    rw [e0] at q
    rw [zGo_w]
    by_cases z : u = t
    · rw [if_pos z]; omega
    · rw [if_neg z]; exact h4 u q
  · rw [zGo_n] at j2
    rw [zGo_35, e0]
    by_cases z : j = X 794 0
    · rw [if_pos z]; exact t2
    · rw [if_neg z]; exact h5 j j1 (by omega)
  · rw [e0, zGo_k (by decide)]; exact h6 j
  · rw [zGo_k (by decide)] at hj
    rw [zGo_k (by decide), zGo_k (by decide)]
    exact h7 j hj
theorem zK_c {N : Int} {A X Y : zA} {ks : List Nat} (h : zK N A X) (q : zCh ks X Y) (hq : ∀ k ∈ ks, k ∈ zKm) (hk : ∀ k ∈ [11, 35, 785, 786, 787, 794], k ∉ ks) (b : zB N Y) (h6 : ∀ k, Y 17 k < X 785 0) (h7 : ∀ k, X 786 0 ≤ k → Y 16 k = 0 ∧ Y 17 k = -1) : zK N A Y := by
  obtain ⟨a1, a2, a3, a4, a5, a6, a7, a8⟩ := h
  have e1 := q 11 (hk _ (by decide)); have e2 := q 35 (hk _ (by decide)); have e3 := q 785 (hk _ (by decide)); have e4 := q 786 (hk _ (by decide)); have e5 := q 787 (hk _ (by decide)); have e6 := q 794 (hk _ (by decide))
  refine ⟨b, ?_, ?_, ?_, ?_, ?_, ?_, zCh_km a8 q hq⟩
  · unfold zPt at *; rw [e1, e3, e6]; exact a2
  · unfold zPl zAt at *; rw [e1, e5]; exact a3
  · unfold zWv zTh at *; rw [e1, e3]; exact a4
  · rw [e2, e3, e6]; exact a5
  · rw [e3]; exact h6
  · rw [e4]; exact h7
theorem zK_bg {N : Int} {A X : zA} {k v : Int} (h : zK N A X) (hk : 0 ≤ k ∧ k < X 786 0) (ho : zHo X) : zK N A (zBg1 k (v, X)).2 := by
  have h1 := h.1
  have b0 : 0 ≤ X 785 0 ∧ X 785 0 ≤ 16 := h1 785 0
  have bt : 0 ≤ X 786 0 ∧ X 786 0 ≤ 3 := h1 786 0
  have bn : 0 ≤ X 789 0 ∧ X 789 0 ≤ 240 := h1 789 0
  have bf : 0 ≤ X 16 k ∧ X 16 k ≤ 500 + 60 * N := h1 16 k
  have b4 : 0 ≤ X 39 0 ∧ X 39 0 ≤ N := h1 39 0
  by_cases q : X 17 k ≠ -1 ∨ X 789 0 < X 16 k ∨ zNxt X k = -1
  · have e : (zBg1 k (v, X)).2 = X := by unfold zBg1; dsimp only; rw [if_pos q]
    rw [e]; exact h
  · rw [zBg1_go (A := X) (k := k) (t := zNxt X k) (v := v) (by omega) (by omega) rfl (by omega)]
    have n := zNxt_w b0.1 (show zNxt X k ≠ -1 by omega)
    have hz := zLen_b (zR_of ho.1.1 ho.1.2.1 (t := zNxt X k) (by omega) n.2.2)
    generalize zNxt X k = t at *
    have hc : zK N A (zB1 X k t) := zK_c h zB1_ch (by decide) (by decide) (zB_u (zB_u h1 ⟨by show 0 ≤ X 789 0 + zLen X t; omega, by show X 789 0 + zLen X t ≤ 500 + 60 * N; omega⟩) ⟨by show (-1 : Int) ≤ t; omega, by show t ≤ 15; omega⟩) (fun j => by
      rw [zB1_17]
      split
      · omega
      · exact h.2.2.2.2.2.1 j) (fun j hj => by
      rw [zB1_16, zB1_17, if_neg (by omega), if_neg (by omega)]
      exact h.2.2.2.2.2.2.1 j hj)
    have ew : zB1 X k t 11 t = X 11 t := by rw [zB1_ch 11 (by decide)]
    refine zK_go hc (by unfold zTh; rw [zB1_ch 785 (by decide)]; exact n.1) ?_ (by omega)
    rw [ew, zPw_2 n.2.2, zPw_1 (by omega)]
    decide
theorem zK_cm {N : Int} {A X : zA} {k v : Int} (h : zK N A X) (hk : 0 ≤ k ∧ k < X 786 0) (ho : zHo X) : zK N A (zCm1 k (v, X)).2 := by
  have h1 := h.1
  have b0 : 0 ≤ X 785 0 ∧ X 785 0 ≤ 16 := h1 785 0
  have bt : 0 ≤ X 786 0 ∧ X 786 0 ≤ 3 := h1 786 0
  by_cases q : X 17 k ≠ -1 ∧ X 16 k = X 789 0
  · have hh := ho.1.2.2.1 k hk.1 (by omega) q.1
    rw [zCm1_go q.1 q.2]
    have pw : zPw 300 < zPw (X 11 (X 17 k)) := by
      rw [hh.2, zPw_1 (w := 200 + k) (by omega), zPw_0 (w := 300) (by decide)]
      decide
    have g := zK_go h hh.1 pw (Or.inr (Or.inl rfl))
    generalize zGo X (X 17 k) 300 = Y at *
    have ky : zCh zKm A Y := g.2.2.2.2.2.2.2
    have kx : zCh zKm A X := h.2.2.2.2.2.2.2
    have e0 : Y 785 0 = X 785 0 := congrFun ((ky 785 (by decide)).trans (kx 785 (by decide)).symm) 0
    have e1 : Y 786 0 = X 786 0 := congrFun ((ky 786 (by decide)).trans (kx 786 (by decide)).symm) 0
    refine zK_c g zCh_u (by decide) (by decide) (zB_u g.1 (by show (-1 : Int) ≤ -1 ∧ (-1 : Int) ≤ 15; decide)) (fun j => ?_) (fun j hj => ?_)
    · by_cases z : j = k
      · rw [z, zU_eq]; omega
      · rw [zU_i z]; exact g.2.2.2.2.2.1 j
    · rw [zU_k (by decide), zU_i (by omega)]
      exact g.2.2.2.2.2.2.1 j hj
  · rw [zCm1_no q]; exact h
theorem zK_ls {N : Int} {A X : zA} {t v : Int} (h : zK N A X) (ht : zTh X t) : zK N A (zLs1 t (v, X)).2 := by
  by_cases q : zIn X t
  · rw [zLs1_go q]
    have hc : zK N A (zU X 14 t (-1)) := zK_c h zCh_u (by decide) (by decide) (zB_u h.1 (by show (-1 : Int) ≤ -1 ∧ (-1 : Int) ≤ 2; decide)) h.2.2.2.2.2.1 h.2.2.2.2.2.2.1
    refine zK_go hc ht ?_ (Or.inr (Or.inr rfl))
    rw [zU_k (by decide), zPw_2 q, zPw_0 (w := 500) (by decide)]
    decide
  · rw [zLs1_no q]; exact h
theorem zK_mb {N : Int} {A X : zA} (h : zK N A X) (ho : zHo X) (hf : zFn 1 X) (hn : X 789 0 < X 790 0) : zK N A (zMb X) := by
  have bt : 0 ≤ X 786 0 ∧ X 786 0 ≤ 3 := h.1 786 0
  have be : 0 ≤ X 790 0 ∧ X 790 0 ≤ 240 := h.1 790 0
  have bn : 0 ≤ X 789 0 ∧ X 789 0 ≤ 240 := h.1 789 0
  have w := zF_i (f := zBg1) (r := (0, X)) (I := fun _ q => zHo q.2 ∧ zFn 1 q.2 ∧ zSm q.2 X ∧ zK N A q.2) (X 786 0) bt.1 ⟨ho, hf, fun _ _ _ => rfl, h⟩ (fun i q i1 i2 ⟨a1, a2, a3, a4⟩ => by
    obtain ⟨v, Y⟩ := q
    dsimp only at *
    have et : Y 786 0 = X 786 0 := a3 786 0 (by decide)
    have w := zBg1_h (k := i) (v := v) ⟨i1, by omega⟩ a1 a2
    have w2 := zBg1_w (k := i) (r := (v, Y)) ⟨i1, by omega⟩ a1.1
    exact ⟨w.1, w.2.1, zSm_t w2.2 a3, zK_bg a4 ⟨i1, by omega⟩ a1⟩)
  have eB : (zF zBg1 (0, X) (X 786 0)).2 = zBegin X := rfl
  rw [eB] at w
  obtain ⟨w1, w2, w3, w4⟩ := w
  have e1 : zBegin X 789 0 = X 789 0 := w3 _ _ (by decide)
  have e5 : zBegin X 786 0 = X 786 0 := w3 _ _ (by decide)
  have g : zK N A (zMc X) := zK_c w4 zCh_u (by decide) (by decide) (zB_u w4.1 (by show 0 ≤ zBegin X 789 0 + 1 ∧ zBegin X 789 0 + 1 ≤ 240; omega)) w4.2.2.2.2.2.1 w4.2.2.2.2.2.2.1
  obtain ⟨⟨c1, c2⟩, ⟨c3, c4, c5, c6⟩, c7⟩ := zMc_h ho hf hn
  have w' := zF_i (f := zCm1) (r := (0, zMc X)) (I := fun i q => zHo q.2 ∧ zFm i q.2 ∧ zSm q.2 (zMc X) ∧ zK N A q.2) (zMc X 786 0) (by omega) ⟨c1, c2, fun _ _ _ => rfl, g⟩ (fun i q i1 i2 ⟨a1, a2, a3, a4⟩ => by
    obtain ⟨v, Y⟩ := q
    dsimp only at *
    have et : Y 786 0 = zMc X 786 0 := a3 786 0 (by decide)
    have w := zCm1_h (k := i) (v := v) ⟨i1, by omega⟩ a1 a2
    have w2 := zCm1_w (k := i) (r := (v, Y)) ⟨i1, by omega⟩ a1.1
    exact ⟨w.1, w.2.1, zSm_t w2.2 a3, zK_cm a4 ⟨i1, by omega⟩ a1⟩)
  exact w'.2.2.2
theorem zK_mn {N : Int} {A : zA} (h : zK N A A) (ho : zHo A) (hf : zFn 1 A) (hn : A 789 0 ≤ A 790 0) (x : Int) (hx : 0 ≤ x) : zK N A (zF zMn1 (0, A) x).2 ∧ zHo (zF zMn1 (0, A) x).2 ∧ zFn 1 (zF zMn1 (0, A) x).2 ∧ (zF zMn1 (0, A) x).2 789 0 ≤ (zF zMn1 (0, A) x).2 790 0 :=
  zF_i (I := fun _ q => zK N A q.2 ∧ zHo q.2 ∧ zFn 1 q.2 ∧ q.2 789 0 ≤ q.2 790 0) x hx ⟨h, ho, hf, hn⟩ (fun i q i1 i2 ⟨a1, a2, a3, a4⟩ => by
    obtain ⟨v, X⟩ := q
    dsimp only at a1 a2 a3 a4
    by_cases lt : X 789 0 < X 790 0
    · have e1 : (zMn1 i (v, X)).2 = zMb X := by
        unfold zMn1
        dsimp only
        rw [if_pos lt]
        rfl
      rw [e1]
      obtain ⟨⟨m1, m2⟩, ⟨m3, m4, m5, m6⟩, m7⟩ := zMb_h a2 a3 lt
      exact ⟨zK_mb a1 a2 a3 lt, m1, m2, by omega⟩
    · have e1 : (zMn1 i (v, X)).2 = X := by
        unfold zMn1
        dsimp only
        rw [if_neg lt]
      rw [e1]
      exact ⟨a1, a2, a3, a4⟩)
theorem zK_lose {N : Int} {A X : zA} (h : zK N A X) (ho : zHo X) : zK N A (zF zLs1 (0, X) (X 785 0)).2 ∧ zHo (zF zLs1 (0, X) (X 785 0)).2 ∧ ∀ t, zTh X t → ¬ zIn (zF zLs1 (0, X) (X 785 0)).2 t := by
  have b0 : 0 ≤ X 785 0 ∧ X 785 0 ≤ 16 := h.1 785 0
  have w := zF_i (f := zLs1) (r := (0, X)) (I := fun i q => zK N A q.2 ∧ zHo q.2 ∧ q.2 785 0 = X 785 0 ∧ ∀ t, 0 ≤ t → t < i → ¬ zIn q.2 t) (X 785 0) b0.1 ⟨h, ho, rfl, fun t t1 t2 => by omega⟩ (fun i q i1 i2 ⟨a1, a2, a3, a4⟩ => by
    obtain ⟨v, Y⟩ := q
    dsimp only at a1 a2 a3 a4
    have ht : zTh Y i := ⟨i1, by omega⟩
    refine ⟨zK_ls a1 ht, (zLs1_h ht a2).1, ?_, fun t t1 t2 => ?_⟩
    · have w := (zLs1_w (r := (v, Y)) ht a2.1).2.1.1
      exact w.trans a3
    · by_cases q : zIn Y i
      · rw [zLs1_go q]
        unfold zIn
        rw [zGo_w]
        by_cases z : t = i
        · rw [if_pos z]; omega
        · rw [if_neg z]
          show ¬ (100 ≤ Y 11 t ∧ Y 11 t < 200)
          exact a4 t t1 (by omega)
      · rw [zLs1_no q]
        by_cases z : t = i
        · rw [z]; exact q
        · exact a4 t t1 (by omega))
  exact ⟨w.1, w.2.1, fun t ht => w.2.2.2 t ht.1 ht.2⟩
theorem zInv_ho {n : Int} {A : zA} (h : zInv n A) (hn : n ≤ 512) (hp : A 788 0 = 1) : zHo A := ⟨⟨zB_mono h.i.b hn, h.i.ir, h.i.hd, by have := h.pt; unfold zPt at *; omega⟩, hp, h.i.tm, h.i.s2 (by omega)⟩
theorem v_minutes {n x : Int} {A : zA} (h : zInv n A) (hn : n < 512) : zInv (n + 1) (zfMinutes A x).2 := by
  have h1 := (zInv_1 h).i
  have b4 : 0 ≤ A 39 0 ∧ A 39 0 ≤ n := h.i.b 39 0
  unfold zfMinutes
  split
  · exact v_no h
  rename_i q1
  dsimp only
  have hp : A 788 0 = 1 := by omega
  have ho := zInv_ho h (by omega) hp
  have p1 := h.i.p1 hp
  have w := zK_mn (N := n + 1) ⟨h1.b, (zInv_1 h).pt, h1.pl, h1.wv, h1.sl, h1.ih, h1.nm, fun _ _ => rfl⟩ ho p1.1 (by omega) x (by omega)
  generalize (zF zMn1 (0, A) x).2 = X at *
  obtain ⟨w1, w2, w3, w4⟩ := w
  unfold zOver
  split
  · have l := zK_lose w1 w2
    have bl := w1.1 785 0
    generalize (zF zLs1 (0, X) (X 785 0)).2 = L at *
    obtain ⟨⟨k1, k2, k3, k4, k5, k6, k7, k8⟩, l2, l3⟩ := l
    have q : zCh zKm A (zU L 788 0 2) := zCh_km k8 zCh_u (by decide)
    have ep : zU L 788 0 2 788 0 = 2 := zU_eq
    have eX : X 785 0 = A 785 0 := congrFun (w1.2.2.2.2.2.2.2 785 (by decide)) 0
    have eL : L 785 0 = A 785 0 := congrFun (k8 785 (by decide)) 0
    have ha := h1.wf
    refine ⟨zI0_c h1 q (zB_u k1 (by show (0 : Int) ≤ 2 ∧ (2 : Int) ≤ 2; decide)) (ir := fun _ => l2.1.2.1) (hd := fun _ => l2.1.2.2.1) (pl := fun _ => k3) (wv := fun _ => k4) (sl := fun _ => k5) (ih := fun _ => k6) (nm := fun _ => k7) (wf := fun _ => ?_) (tm := fun _ t ht hi => ?_) (s2 := fun _ y => absurd ep y) (p1 := fun _ y => by rw [ep] at y; omega) (p0 := fun _ y => by rw [ep] at y; omega), k2, fun t ht => ?_⟩
    · unfold zWf at *
      have ew : zWay (zU L 788 0 2) = zWay A := zWay_c (fun k z => q k (by rcases z with z | z | z | z | z <;> rw [z] <;> decide))
      rw [ew, q 6 (by decide)]
      exact ⟨ha.1, fun _ => ha.2 (Or.inr (by omega))⟩
    · have ht2 : zTh L t := ht
      have hi2 : zIn L t := hi
      exact absurd hi2 (l3 t (by unfold zTh at *; omega))
    · have ht2 : zTh L t := ht
      have := l2.2.2.2 t ht2
      have e : zSeals (zU L 788 0 2) t = zSeals L t := rfl
      have pw := zPw_b (w := L 11 t)
      rw [e]
      omega
  · rename_i q2
    obtain ⟨k1, k2, k3, k4, k5, k6, k7, k8⟩ := w1
    have ep : X 788 0 = 1 := w2.2.1
    have ha := h1.wf
    refine ⟨zI0_c h1 k8 k1 (ir := fun _ => w2.1.2.1) (hd := fun _ => w2.1.2.2.1) (pl := fun _ => k3) (wv := fun _ => k4) (sl := fun _ => k5) (ih := fun _ => k6) (nm := fun _ => k7) (wf := fun _ => ?_) (tm := fun _ => w2.2.2.1) (s2 := fun _ _ => w2.2.2.2) (p1 := fun _ _ => ⟨w3, by omega⟩) (p0 := fun _ y => by omega), k2, fun t ht => ?_⟩
    · unfold zWf at *
      have ew : zWay X = zWay A := zWay_c (fun k z => k8 k (by rcases z with z | z | z | z | z <;> rw [z] <;> decide))
      rw [ew, k8 6 (by decide)]
      exact ⟨ha.1, fun _ => ha.2 (Or.inr (by omega))⟩
    · have := w2.2.2.2 t ht
      have pw := zPw_b (w := X 11 t)
      omega
