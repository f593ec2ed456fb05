/-! THE INVARIANT, 4: plans -/
theorem zRu_in {A : zA} {O : Int → Int} (h0 : 0 ≤ A 786 0) (n : Int) (hn : 0 ≤ n) : ∀ t, (zRu A O n).1 t = -1 ∨ ((0 ≤ (zRu A O n).1 t ∧ (zRu A O n).1 t < A 786 0) ∧ ∃ j, (0 ≤ j ∧ j < n) ∧ O j = t) := by
  refine zloopI (i := 0) (I := fun n => ∀ t, (zRu A O n).1 t = -1 ∨ ((0 ≤ (zRu A O n).1 t ∧ (zRu A O n).1 t < A 786 0) ∧ ∃ j, (0 ≤ j ∧ j < n) ∧ O j = t)) (P := fun _ => ∀ t, (zRu A O n).1 t = -1 ∨ ((0 ≤ (zRu A O n).1 t ∧ (zRu A O n).1 t < A 786 0) ∧ ∃ j, (0 ≤ j ∧ j < n) ∧ O j = t)) n hn (fun t => Or.inl rfl) ?_ (fun q => q) (fun _ _ _ _ q => q)
  intro j j1 j2 hi t
  rw [zRu_s j1]
  show zSet (zRu A O j).1 (O j) _ t = -1 ∨ ((0 ≤ zSet (zRu A O j).1 (O j) _ t ∧ zSet (zRu A O j).1 (O j) _ t < _) ∧ _)
  unfold zSet
  by_cases z : t = O j
  · rw [if_pos z]
    exact (zTm_b (A 786 0) h0).imp id (fun y => ⟨y, j, by omega, z.symm⟩)
  · rw [if_neg z]
    exact (hi t).imp id (fun ⟨y, k, k1, k2⟩ => ⟨y, k, by omega, k2⟩)
theorem zPn_in {A : zA} (h0 : 0 ≤ A 786 0) : ∀ t, zTh A t → (zPn A).1 t = -1 ∨ ((0 ≤ (zPn A).1 t ∧ (zPn A).1 t < A 786 0) ∧ zFar A t ≠ -1) := by
  intro t ht
  unfold zPn
  split
  · by_cases hx : ∃ F, zIsB A F
    · rw [show zBest A = (Classical.choose hx, zW A (Classical.choose hx)) from dif_pos hx]
      have v := (Classical.choose_spec hx).1
      show Classical.choose hx t = -1 ∨ ((0 ≤ Classical.choose hx t ∧ _) ∧ _)
      generalize Classical.choose hx = F at *
      exact (v.1 t ht.1 ht.2).imp id (fun y => ⟨y.2, ((v.2 (F t) y.2.1 y.2.2) t ht.1 ht.2 ⟨rfl, y.1⟩).1.1⟩)
    · rw [show zBest A = (fun _ => -1, 0) from dif_neg hx]
      exact Or.inl rfl
  · by_cases hx : ∃ p : Int × (Int → Int), zEnum (zJb A) (fun t => -zRt A t) (A 785 0) p.1 p.2
    · have hE := Classical.choose_spec hx
      rw [zRule_u hE]
      refine (zRu_in h0 _ hE.1.1 t).imp id (fun ⟨y, j, j1, j2⟩ => ⟨y, ?_⟩)
      rw [← j2]
      exact (hE.2.1 j j1.1 j1.2).2.2
    · rw [show zRule A = (fun _ => -1, 0) from dif_neg hx]
      exact Or.inl rfl
theorem zTk_in {A : zA} {F : Int → Int} {n t : Int} (h : (0 ≤ t ∧ t < n) ∧ zIn A t) : zTk A F n 14 t = F t := if_pos ⟨rfl, h.1, h.2⟩
theorem zTeam_pl {X : zA} (h0 : 0 ≤ X 786 0) (hp : X 788 0 = 1) : zTeam (zfPlans X).2 := by
  unfold zfPlans
  intro t ht hi
  have ht2 : zTh X t := ht
  have hi2 : zIn X t := hi
  have e : zTk X (zPn X).1 (X 785 0) 14 t = (zPn X).1 t := zTk_in ⟨ht2, hi2⟩
  show zTk X (zPn X).1 (X 785 0) 14 t = -1 ∨ (X 788 0 = 1 ∧ (0 ≤ zTk X (zPn X).1 (X 785 0) 14 t ∧ zTk X (zPn X).1 (X 785 0) 14 t < X 786 0) ∧ zFar X t ≠ -1)
  rw [e]
  exact (zPn_in h0 t ht2).imp id (fun y => ⟨hp, y⟩)
theorem zB_pl {N : Int} {X : zA} (h : zB N X) : zB N (zfPlans X).2 := fun k i => by
  have b0 : 0 ≤ X 786 0 ∧ X 786 0 ≤ 3 := h 786 0
  unfold zfPlans
  show zlo k ≤ zTk X (zPn X).1 (X 785 0) k i ∧ zTk X (zPn X).1 (X 785 0) k i ≤ zhi N k
  unfold zTk
  split
  · rename_i q
    rw [q.1]
    have := zPn_in b0.1 i q.2.1
    show -1 ≤ _ ∧ _ ≤ 2
    omega
  · exact h k i
theorem zCh_pl {X : zA} : zCh [14] X (zfPlans X).2 := by unfold zfPlans; exact zTk_ch
theorem zWf_k {A B : zA} {ks : List Nat} (h : zWf A) (q : zCh ks A B) (hk : ∀ k ∈ [1, 2, 3, 4, 784, 6, 788], k ∉ ks) : zWf B := by
  have ew : zWay B = zWay A := zWay_c (fun k y => q k (by rcases y with y | y | y | y | y <;> rw [y] <;> exact hk _ (by decide)))
  have e := q 6 (hk _ (by decide)); have e2 := q 784 (hk _ (by decide)); have e3 := q 788 (hk _ (by decide))
  unfold zWf at *; rw [ew, e, e2, e3]; exact h
theorem zWf_w {X : zA} (hB : zB 512 X) : zWf (zWs X) := by
  unfold zWf
  rw [zWay_s]
  exact ⟨(zWay_w hB).1, fun _ r r1 r2 => zV_in ⟨r1, r2⟩⟩
theorem zB_ws {N : Int} {X : zA} (h : zB N X) : zB N (zWs X) := zB_V h (fun i i1 i2 => zWay_b ⟨i1, i2⟩)
theorem zCh_ws {X : zA} : zCh [6] X (zWs X) := zCh_V
theorem v_door {n a r w : Int} {A : zA} (h : zInv n A) (hn : n < 512) : zInv (n + 1) (zfDoor A a r w).2 := by
  have h1 := (zInv_1 h).i
  have b0 : 0 ≤ A 784 0 ∧ A 784 0 ≤ 20 := h.i.b 784 0
  unfold zfDoor
  split
  · exact v_no h
  split
  · exact v_no h
  split
  · exact v_no h
  rename_i q1 q2 q3
  dsimp only
  have qc : zCh ((([1] ++ [2]) ++ [3]) ++ [784]) A (zU (zU (zU (zU A 1 (A 784 0) a) 2 (A 784 0) r) 3 (A 784 0) w) 784 0 (A 784 0 + 1)) := zCh_t (zCh_t (zCh_t zCh_u zCh_u) zCh_u) zCh_u
  have hB : zB (n + 1) (zU (zU (zU (zU A 1 (A 784 0) a) 2 (A 784 0) r) 3 (A 784 0) w) 784 0 (A 784 0 + 1)) := zB_u (zB_u (zB_u (zB_u h1.b ⟨by show (0 : Int) ≤ a; omega, by show a ≤ 11; omega⟩) ⟨by show (0 : Int) ≤ r; omega, by show r ≤ 11; omega⟩) ⟨by show (0 : Int) ≤ w; omega, by show w ≤ 9; omega⟩) ⟨by show (0 : Int) ≤ A 784 0 + 1; omega, by show A 784 0 + 1 ≤ 20; omega⟩
  have q := zCh_t qc (zCh_ws (X := zU (zU (zU (zU A 1 (A 784 0) a) 2 (A 784 0) r) 3 (A 784 0) w) 784 0 (A 784 0 + 1)))
  refine zInv_c h q (by decide) (zI0_c h1 q (zB_ws hB) (dr := fun _ d d1 d2 => ?_) (wf := fun _ => zWf_w (zB_mono hB (by omega))) (tm := fun _ t y y2 => ?_))
  · have d3 : d < A 784 0 + 1 := by
      have : zU (zU (zU (zU A 1 (A 784 0) a) 2 (A 784 0) r) 3 (A 784 0) w) 784 0 (A 784 0 + 1) 784 0 = A 784 0 + 1 := zU_eq
      have d4 : d < zU (zU (zU (zU A 1 (A 784 0) a) 2 (A 784 0) r) 3 (A 784 0) w) 784 0 (A 784 0 + 1) 784 0 := d2
      omega
    show 1 ≤ zU (zU (zU (zU A 1 (A 784 0) a) 2 (A 784 0) r) 3 (A 784 0) w) 784 0 (A 784 0 + 1) 3 d
    rw [zU_k (by decide)]
    by_cases z : d = A 784 0
    · rw [z, zU_eq]; omega
    · rw [zU_i z, zU_i z, zU_i z]; exact h1.dr d d1 (by omega)
  · have := h1.tm t y y2
    exact Or.inl (this.resolve_right (fun z => by omega))
theorem v_block {n d : Int} {A : zA} (h : zInv n A) (hn : n < 512) : zInv (n + 1) (zfBlock A d).2 := by
  have h1 := (zInv_1 h).i
  have b0 : 0 ≤ A 788 0 ∧ A 788 0 ≤ 2 := h.i.b 788 0
  have b1 : 0 ≤ A 786 0 ∧ A 786 0 ≤ 3 := h.i.b 786 0
  unfold zfBlock
  have hB : zB (n + 1) (zU A 4 d 1) := zB_u h1.b (by show (0 : Int) ≤ 1 ∧ (1 : Int) ≤ 1; decide)
  have q := zCh_t (zCh_u (A := A) (k := 4) (j := d) (v := 1)) (zCh_ws (X := zU A 4 d 1))
  have hW := zWf_w (zB_mono hB (show n + 1 ≤ 512 by omega))
  split
  · exact v_no h
  split
  · exact v_no h
  split
  · dsimp only
    refine zInv_c h q (by decide) (zI0_c h1 q (zB_ws hB) (wf := fun _ => hW) (tm := fun _ t y y2 => ?_))
    have := h1.tm t y y2
    exact Or.inl (this.resolve_right (fun z => by omega))
  · have q2 := zCh_t q (zCh_pl (X := zWs (zU A 4 d 1)))
    exact zInv_c h q2 (by decide) (zI0_c h1 q2 (zB_pl (zB_ws hB)) (wf := fun _ => zWf_k hW zCh_pl (by decide)) (tm := fun _ => zTeam_pl b1.1 (by show A 788 0 = 1; omega)))
theorem v_danger {n r x : Int} {A : zA} (h : zInv n A) : zInv (n + 1) (zfDanger A r x).2 := by
  have h1 := (zInv_1 h).i
  have b1 : 0 ≤ A 786 0 ∧ A 786 0 ≤ 3 := h.i.b 786 0
  unfold zfDanger
  split
  · exact v_no h
  split
  · exact v_no h
  dsimp only
  have hB : zB (n + 1) (zU A 5 r x) := zB_u h1.b ⟨by show (-1 : Int) ≤ x; omega, by show x ≤ 240; omega⟩
  have q : zCh [5] A (zU A 5 r x) := zCh_u
  split
  · rename_i p
    have q2 := zCh_t q (zCh_pl (X := zU A 5 r x))
    exact zInv_c h q2 (by decide) (zI0_c h1 q2 (zB_pl hB) (tm := fun _ => zTeam_pl b1.1 p))
  · exact zInv_c h q (by decide) (zI0_c h1 q hB)
theorem v_late {n k x : Int} {A : zA} (h : zInv n A) : zInv (n + 1) (zfLate A k x).2 := by
  have h1 := (zInv_1 h).i
  have b1 : 0 ≤ A 786 0 ∧ A 786 0 ≤ 3 := h.i.b 786 0
  have b2 : 0 ≤ A 16 k ∧ A 16 k ≤ 500 + 60 * n := h.i.b 16 k
  have b3 : 0 ≤ A 789 0 ∧ A 789 0 ≤ 240 := h.i.b 789 0
  have b4 : 0 ≤ A 39 0 ∧ A 39 0 ≤ n := h.i.b 39 0
  have bf : 0 ≤ zFree A k ∧ zFree A k ≤ 500 + 60 * n := by unfold zFree; split <;> omega
  unfold zfLate
  split
  · exact v_no h
  split
  · exact v_no h
  have hB : zB (n + 1) (zU A 16 k (zFree A k + x)) := zB_u h1.b ⟨by show (0 : Int) ≤ zFree A k + x; omega, by show zFree A k + x ≤ 500 + 60 * (n + 1); omega⟩
  have q : zCh [16] A (zU A 16 k (zFree A k + x)) := zCh_u
  have q2 := zCh_t q (zCh_pl (X := zU A 16 k (zFree A k + x)))
  refine zInv_c h q2 (by decide) (zI0_c h1 q2 (zB_pl hB) (nm := fun _ j hj => ?_) (tm := fun _ => zTeam_pl b1.1 (by show A 788 0 = 1; omega)) (p1 := fun _ y => ?_))
  · have hj2 : A 786 0 ≤ j := hj
    have e : (zfPlans (zU A 16 k (zFree A k + x))).2 16 j = A 16 j := (congrFun (zCh_pl (X := zU A 16 k (zFree A k + x)) 16 (by decide)) j).trans (zU_i (by omega))
    rw [e]
    exact h1.nm j hj2
  · have w := h1.p1 y
    refine ⟨fun j j1 j2 j3 => ?_, w.2⟩
    have j4 : A 17 j ≠ -1 := j3
    have e : (zfPlans (zU A 16 k (zFree A k + x))).2 16 j = A 16 j := (congrFun (zCh_pl (X := zU A 16 k (zFree A k + x)) 16 (by decide)) j).trans (zU_i (fun z => by rw [z] at j4; omega))
    rw [e]
    exact w.1 j j1 j2 j4
theorem v_plan {n p : Int} {A : zA} (h : zInv n A) (hp : p = 0 ∨ p = 1) : zInv (n + 1) (zfPlan A p).2 := by
  have h1 := (zInv_1 h).i
  have b1 : 0 ≤ A 786 0 ∧ A 786 0 ≤ 3 := h.i.b 786 0
  unfold zfPlan
  split
  · exact v_no h
  split
  · exact v_no h
  rename_i q1 _
  have hB : zB (n + 1) (zU A 795 0 p) := zB_u h1.b ⟨by show (0 : Int) ≤ p; omega, by show p ≤ 1; omega⟩
  have q : zCh [795] A (zU A 795 0 p) := zCh_u
  have q2 := zCh_t q (zCh_pl (X := zU A 795 0 p))
  exact zInv_c h q2 (by decide) (zI0_c h1 q2 (zB_pl hB) (tm := fun _ => zTeam_pl b1.1 (Classical.not_not.mp q1)))
theorem v_alarm {n x : Int} {A : zA} (h : zInv n A) (hn : n < 512) : zInv (n + 1) (zfAlarm A x).2 := by
  have h1 := (zInv_1 h).i
  have b1 : 0 ≤ A 786 0 ∧ A 786 0 ≤ 3 := h.i.b 786 0
  unfold zfAlarm
  split
  · exact v_no h
  rename_i q1
  have hB : zB (n + 1) (zU (zU A 790 0 x) 788 0 1) := zB_u (zB_u h1.b ⟨by show (0 : Int) ≤ x; omega, by show x ≤ 240; omega⟩) (by show (0 : Int) ≤ 1 ∧ (1 : Int) ≤ 2; decide)
  have hW := zWf_w (zB_mono hB (show n + 1 ≤ 512 by omega))
  have qc : zCh ([790] ++ [788]) A (zU (zU A 790 0 x) 788 0 1) := zCh_t zCh_u zCh_u
  have q2 := zCh_t (zCh_t qc zCh_ws) (zCh_pl (X := zWs (zU (zU A 790 0 x) 788 0 1)))
  have w := h1.p0 (by omega)
  have ep : (zfPlans (zWs (zU (zU A 790 0 x) 788 0 1))).2 788 0 = 1 := by
    show zU (zU A 790 0 x) 788 0 1 788 0 = 1
    exact zU_eq
  have ee : (zfPlans (zWs (zU (zU A 790 0 x) 788 0 1))).2 790 0 = x := by
    show zU (zU A 790 0 x) 788 0 1 790 0 = x
    rw [zU_k (by decide), zU_eq]
  refine zInv_c h q2 (by decide) (zI0_c h1 q2 (zB_pl (zB_ws hB)) (wf := fun _ => zWf_k hW zCh_pl (by decide)) (tm := fun _ => zTeam_pl b1.1 (by show zU (zU A 790 0 x) 788 0 1 788 0 = 1; exact zU_eq)) (s2 := fun _ _ t ht => h1.s2 (by omega) t ht) (p1 := fun _ _ => ⟨fun j j1 j2 j3 => absurd (w.2 j) j3, ?_⟩) (p0 := fun _ y => ?_))
  · rw [ee]
    show A 789 0 < x
    omega
  · rw [ep] at y; omega
