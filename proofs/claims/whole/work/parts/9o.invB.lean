/-! THE INVARIANT, 2: shelves, things, teams -/
theorem v_set {n s i v : Int} {A : zA} (h : zInv n A) (hv : inL v) : zInv (n + 1) (zfSet A s i v).2 := by
  have h1 := (zInv_1 h).i
  unfold zfSet
  split
  split
  · exact v_no h
  split
  · exact v_no h
  split
  · refine zInv_c h zCh_u (by decide) (zI0_c h1 zCh_u (zB_u h1.b ?_))
    show -9223372036854775808 ≤ zLow (A 19 s) v ∧ zLow (A 19 s) v ≤ 9223372036854775807
    unfold zLow w8 w16 w32
    unfold inL at hv
    (repeat' split) <;> omega
  · exact v_no h
  · exact v_no h
theorem v_row {n s o x : Int} {A : zA} (h : zInv n A) : zInv (n + 1) (zfRow A s o x).2 := by
  have h1 := (zInv_1 h).i
  unfold zfRow
  split
  · exact v_no h
  split
  · exact v_no h
  split
  · exact v_no h
  split
  · exact v_no h
  have qc : zCh ((([18] ++ [19]) ++ [20]) ++ [22]) A (zV (zU (zU (zU A 18 s 1) 19 s o) 20 s x) 22 (60 * s) (60 * s + 60) (fun _ => 0)) := zCh_t (zCh_t (zCh_t zCh_u zCh_u) zCh_u) zCh_V
  dsimp only
  refine zInv_c h qc (by decide) (zI0_c h1 qc (zB_V (zB_u (zB_u (zB_u h1.b (by show (0 : Int) ≤ 1 ∧ (1 : Int) ≤ 2; decide)) ⟨by show (0 : Int) ≤ o; omega, by show o ≤ 3; omega⟩) ⟨by show (0 : Int) ≤ x; omega, by show x ≤ 60; omega⟩) (fun i _ _ => by show (-9223372036854775808 : Int) ≤ 0 ∧ (0 : Int) ≤ 9223372036854775807; decide)) (shw := fun _ j hj hh => ?_) (hs := fun _ j hh => ?_))
  · rw [zV_k (by decide), zU_k (by decide), zU_k (by decide)] at hh
    by_cases z : j = s
    · rw [z, zU_eq] at hh; omega
    · rw [zU_i z] at hh; exact h1.shw j hj hh
  · rw [zV_k (by decide), zU_k (by decide), zU_k (by decide)] at hh
    by_cases z : j = s
    · rw [z, zU_eq] at hh; omega
    · rw [zU_i z] at hh; exact h1.hs j hh
theorem v_copy {n p q i j x : Int} {A : zA} (h : zInv n A) : zInv (n + 1) (zfCopy A p q i j x).2 := by
  have h1 := (zInv_1 h).i
  unfold zfCopy
  split
  · exact v_no h
  split
  · exact v_no h
  split
  · exact v_no h
  split
  · exact v_no h
  split
  · exact v_no h
  dsimp only
  exact zInv_c h zCh_V (by decide) (zI0_c h1 zCh_V (zB_V h1.b (fun y _ _ => h1.b 22 _)))
theorem v_air {n p s : Int} {A : zA} (h : zInv n A) : zInv (n + 1) (zfAir A p s).2 := by
  have h1 := (zInv_1 h).i
  unfold zfAir
  split
  · exact v_no h
  split
  · exact v_no h
  split
  · exact v_no h
  rename_i q1 q2 q3
  have hp : p < A 787 0 := by omega
  have qc : zCh (([26] ++ [27]) ++ [28]) A (zV (zU (zU A 26 p (A 20 s)) 27 p (A 19 s)) 28 (60 * p) (60 * p + A 20 s) (fun x => A 22 (x - 60 * p + 60 * s))) := zCh_t (zCh_t zCh_u zCh_u) zCh_V
  dsimp only
  refine zInv_c h qc (by decide) (zI0_c h1 qc (zB_V (zB_u (zB_u h1.b (h1.b 20 s)) (h1.b 19 s)) (fun y _ _ => h1.b 22 _)) (np := fun _ j hj => ?_))
  have hj2 : A 787 0 ≤ j := hj
  have := h1.np j hj2
  have z : j ≠ p := by omega
  rw [zV_k (by decide), zV_k (by decide)]
  constructor
  · rw [zU_i z, zU_i z]; exact this.1
  · rw [zU_i z, zU_i z]; exact this.2
theorem zSeals_0 {A : zA} {t : Int} (h0 : 0 ≤ A 794 0) (h : ∀ k, 0 ≤ k → k < A 794 0 → A 35 k < A 785 0) (ht : A 785 0 ≤ t) : zSeals A t = 0 := by
  have e : zSeals A t = zS (fun _ => 0) (A 794 0) := zS_eq _ h0 (fun i i1 i2 => if_neg (by have := h i i1 i2; omega))
  have b := zS_b (f := fun _ => (0 : Int)) (c := 0) (A 794 0) (fun _ _ _ => ⟨Int.le_refl _, Int.le_refl _⟩) h0 (by decide)
  omega
theorem v_puts {n k w u r p : Int} {A : zA} (h : zInv n A) (hp : A 788 0 = 0) (ht : A 785 0 < 16) (hk : 0 ≤ k ∧ k ≤ 3) (hw : 1 ≤ w ∧ w ≤ 100) (hu : 1 ≤ u ∧ u ≤ 4) (hr : 1 ≤ r ∧ r ≤ 11) (hq : 0 ≤ p ∧ p ≤ 20) : zInv (n + 1) (zPuts A k w u r p) := by
  have h1 := (zInv_1 h).i
  have b0 : 0 ≤ A 785 0 ∧ A 785 0 ≤ 16 := h.i.b 785 0
  have bs : 0 ≤ A 794 0 ∧ A 794 0 ≤ 16 * n + 32 := h.i.b 794 0
  have en := zPuts_n (A := A) (k := k) (w := w) (h := u) (r := r) (p := p)
  have ev := zPuts_v (A := A) (k := k) (w := w) (h := u) (r := r) (p := p)
  have ei : ∀ {t : Int}, t ≠ A 785 0 → ∀ {c : Nat}, c ≠ 785 → zPuts A k w u r p c t = A c t := fun z _ hc => zPuts_i z hc
  have qc := zPuts_ch (A := A) (k := k) (w := w) (h := u) (r := r) (p := p)
  have e1 := qc 35 (by decide)
  have e2 := qc 794 (by decide)
  have e3 : zPuts A k w u r p 788 0 = A 788 0 := congrFun (qc 788 (by decide)) 0
  have e4 := qc 17 (by decide)
  have b : zB (n + 1) (zPuts A k w u r p) := by
    unfold zPuts
    refine zB_u (zB_u (zB_u (zB_u (zB_u (zB_u (zB_u h1.b ?_) ?_) ?_) ?_) ?_) ?_) ?_
    · exact hk
    · show 0 ≤ w ∧ w ≤ 100; omega
    · show 0 ≤ u ∧ u ≤ 4; omega
    · exact hq
    · show 0 ≤ 100 + r ∧ 100 + r ≤ 609; omega
    · show (-1 : Int) ≤ -1 ∧ (-1 : Int) ≤ 2; decide
    · show 0 ≤ A 785 0 + 1 ∧ A 785 0 + 1 ≤ 16; omega
  have s0 := zSeals_0 bs.1 h.i.sl (Int.le_refl (A 785 0))
  generalize zPuts A k w u r p = B at *
  have cs : ∀ t, zTh B t → t = A 785 0 ∨ (t ≠ A 785 0 ∧ zTh A t) := fun t q => by
    unfold zTh at *
    rw [en] at q
    omega
  refine ⟨zI0_c h1 qc b (ir := fun _ t t1 t2 q => ?_) (hd := fun _ j j1 j2 q => ?_) (pl := fun _ t q => ?_) (wv := fun _ t q => ?_) (shw := fun _ s hs hh => ?_) (sl := fun _ j j1 j2 => ?_) (ih := fun _ j => ?_) (nt := fun _ t q => ?_) (tm := fun _ t q q2 => ?_) (s2 := fun _ _ t q => ?_), ?_, fun t q => ?_⟩
  · by_cases z : t = A 785 0
    · rw [z, ev.2.2.2.2.1]; omega
    · unfold zIn at q; rw [ei z (by decide)] at q ⊢; exact h1.ir t t1 t2 q
  · rw [e4] at q
    exact absurd ((h1.p0 hp).2 j) q
  · by_cases z : t = A 785 0
    · unfold zAt at q; rw [z, ev.2.2.2.2.1] at q; omega
    · unfold zAt at q; rw [ei z (by decide)] at q ⊢; rw [congrFun (qc 787 (by decide)) 0]; exact h1.pl t q
  · rcases cs t q with z | ⟨z, y⟩
    · rw [z, ev.2.2.2.2.1]; omega
    · rw [ei z (by decide)]; exact h1.wv t y
  · rw [congrFun (qc 18 (by decide)) s] at hh
    have := h1.shw s hs hh
    unfold zTh at *
    rw [en, congrFun (qc 21 (by decide)) s]
    omega
  · rw [e2] at j2
    rw [e1, en]
    have := h1.sl j j1 j2
    omega
  · rw [e4, en]
    have := h1.ih j
    omega
  · rw [en] at q
    rw [congrFun (qc 12 (by decide)) t, congrFun (qc 13 (by decide)) t]
    exact h1.nt t (by omega)
  · rcases cs t q with z | ⟨z, y⟩
    · rw [z, ev.2.2.2.2.2]; exact Or.inl rfl
    · unfold zIn at q2
      rw [ei z (by decide)] at q2
      rw [ei z (by decide)]
      exact (h1.tm t y q2).imp id (fun x => by omega)
  · rw [zSeals_c e1 e2]
    rcases cs t q with z | ⟨z, y⟩
    · rw [z, s0, ev.2.2.2.2.1]; unfold zPw; rw [if_pos (by omega)]; decide
    · rw [ei z (by decide)]; exact h1.s2 (by omega) t y
  · have w := h.pt
    unfold zPt at *
    rw [e2, en, zS_s b0.1, zS_eq (g := fun t => zPw (A 11 t)) _ b0.1 (fun i i1 i2 => by rw [ei (by omega) (by decide)]), ev.2.2.2.2.1]
    have : zPw (100 + r) = 2 := if_pos (by omega)
    omega
  · rw [zSeals_c e1 e2]
    rcases cs t q with z | ⟨z, y⟩
    · have := bs; have := h.pt; unfold zPt at this
      rw [z, s0]
      have := (zS_b (f := fun t => zPw (A 11 t)) (c := 2) (A 785 0) (fun i _ _ => zPw_b) b0.1 (by decide)).1
      have := (h.i.b 39 0)
      have x : 0 ≤ A 39 0 ∧ A 39 0 ≤ n := this
      omega
    · have := h.sc t y; omega
theorem v_thing {n k w u r p : Int} {A : zA} (h : zInv n A) : zInv (n + 1) (zfThing A k w u r p).2 := by
  have b0 : 0 ≤ A 785 0 ∧ A 785 0 ≤ 16 := h.i.b 785 0
  unfold zfThing
  split
  · exact v_no h
  split
  · exact v_no h
  split
  · exact v_no h
  exact v_puts h (by omega) (by omega) (by omega) (by omega) (by omega) (by omega) (by omega)
theorem v_team {n k : Int} {A : zA} (h : zInv n A) : zInv (n + 1) (zfTeam A k).2 := by
  have h1 := (zInv_1 h).i
  have b0 : 0 ≤ A 786 0 ∧ A 786 0 ≤ 3 := h.i.b 786 0
  unfold zfTeam
  split
  · exact v_no h
  split
  · exact v_no h
  have qc : zCh ([15] ++ [786]) A (zU (zU A 15 (A 786 0) k) 786 0 (A 786 0 + 1)) := zCh_t zCh_u zCh_u
  dsimp only
  refine zInv_c h qc (by decide) (zI0_c h1 qc (zB_u (zB_u h1.b ⟨by show (0 : Int) ≤ k; omega, by show k ≤ 4; omega⟩) ⟨by show (0 : Int) ≤ A 786 0 + 1; omega, by show A 786 0 + 1 ≤ 3; omega⟩) (nm := fun _ j hj => ?_) (tm := fun _ t q q2 => ?_) (p1 := fun _ q => ?_))
  · rw [zU_eq] at hj
    exact h1.nm j (by omega)
  · exact (h1.tm t q q2).imp id (fun x => by have : A 788 0 = 1 := x.1; omega)
  · have : A 788 0 = 1 := q
    omega
theorem v_label {n s : Int} {A : zA} (h : zInv n A) : zInv (n + 1) (zfLabel A s).2 := by
  have b0 : 0 ≤ A 785 0 ∧ A 785 0 ≤ 16 := h.i.b 785 0
  have bz : 0 ≤ A 20 s ∧ A 20 s ≤ 60 := h.i.b 20 s
  have w := zL_b (A := A) (s := s) bz.2
  have hA : zInv n (zU A 793 0 (zLF A s)) := by
    have q : zCh [793] A (zU A 793 0 (zLF A s)) := zCh_u
    have bf : -1 ≤ zLF A s ∧ zLF A s ≤ 60 := by unfold zLF; split <;> omega
    refine ⟨zI0_c h.i q (zB_u h.i.b bf), h.pt, fun t ht => ?_⟩
    exact h.sc t ht
  unfold zfLabel
  split
  split
  · exact v_no h
  split
  · exact v_no h
  split
  · exact v_no hA
  split
  · exact v_no hA
  · rename_i q1 q2 q3 q4 q5
    have e : zLF A s = -1 := by omega
    have e5 : (zL5 A s).1 ≠ -1 := fun z => by
      unfold zLF at e
      rw [if_pos (Or.inl z)] at e
      omega
    obtain ⟨x1, x2, x3, x4, x5⟩ := w.2.resolve_left e5
    exact v_puts hA (by show A 788 0 = 0; omega) (by show A 785 0 < 16; omega) x1 x2 x3 x4 x5
  · exact v_no h
