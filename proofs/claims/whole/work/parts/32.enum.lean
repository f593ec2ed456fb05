/-! THINGS IN ORDER: P's things under T, by D and then by number, are O 0 .. O (n - 1) -/
abbrev zBf (D : Int → Int) (x y : Int) : Prop := D x < D y ∨ (D x = D y ∧ x < y)
def zEnum (P : Int → Prop) (D : Int → Int) (T n : Int) (O : Int → Int) : Prop := (0 ≤ n ∧ n ≤ T) ∧ (∀ k, 0 ≤ k → k < n → (0 ≤ O k ∧ O k < T) ∧ P (O k)) ∧ (∀ j k, 0 ≤ j → j < k → k < n → zBf D (O j) (O k)) ∧ (∀ t, 0 ≤ t → t < T → P t → ∃ k, (0 ≤ k ∧ k < n) ∧ O k = t)
theorem zEnum_0 {P : Int → Prop} {D O : Int → Int} : zEnum P D 0 0 O := ⟨⟨Int.le_refl _, Int.le_refl _⟩, fun k h1 h2 => absurd h2 (by omega), fun j k h1 h2 h3 => absurd h3 (by omega), fun t h1 h2 => absurd h2 (by omega)⟩
theorem zEnum_skip {P : Int → Prop} {D O : Int → Int} {T n : Int} (h : zEnum P D T n O) (q : ¬ P T) : zEnum P D (T + 1) n O := by
  obtain ⟨a1, a2, a3, a4⟩ := h
  refine ⟨by omega, fun k h1 h2 => ⟨by have := (a2 k h1 h2).1; omega, (a2 k h1 h2).2⟩, a3, fun t h1 h2 hP => ?_⟩
  by_cases z : t = T
  · subst z; exact absurd hP q
  · exact a4 t h1 (by omega) hP
theorem zEnum_ext {P : Int → Prop} {D O O' : Int → Int} {T n : Int} (h : zEnum P D T n O) (e : ∀ i, 0 ≤ i → i < n → O' i = O i) : zEnum P D T n O' := by
  obtain ⟨a1, a2, a3, a4⟩ := h
  refine ⟨a1, fun k h1 h2 => by rw [e k h1 h2]; exact a2 k h1 h2, fun j k h1 h2 h3 => by rw [e j h1 (by omega), e k (by omega) h3]; exact a3 j k h1 h2 h3, fun t h1 h2 hP => ?_⟩
  obtain ⟨k, hk, ek⟩ := a4 t h1 h2 hP
  exact ⟨k, hk, by rw [e k hk.1 hk.2, ek]⟩
theorem zEnum_congr {P P' : Int → Prop} {D D' O : Int → Int} {T n : Int} (h : zEnum P D T n O) (eP : ∀ t, 0 ≤ t → t < T → (P t ↔ P' t)) (eD : ∀ t, 0 ≤ t → t < T → P t → D t = D' t) : zEnum P' D' T n O := by
  obtain ⟨a1, a2, a3, a4⟩ := h
  refine ⟨a1, fun k h1 h2 => ?_, fun j k h1 h2 h3 => ?_, fun t h1 h2 hP => a4 t h1 h2 ((eP t h1 h2).mpr hP)⟩
  · have := a2 k h1 h2
    exact ⟨this.1, (eP _ this.1.1 this.1.2).mp this.2⟩
  · have p1 := a2 j h1 (by omega)
    have p2 := a2 k (by omega) h3
    have := a3 j k h1 h2 h3
    have e1 := eD _ p1.1.1 p1.1.2 p1.2
    have e2 := eD _ p2.1.1 p2.1.2 p2.2
    omega
theorem zEnum_ins {P : Int → Prop} {D O O' : Int → Int} {T n k : Int} (h : zEnum P D T n O) (hP : P T) (hk : 0 ≤ k ∧ k ≤ n) (h1 : ∀ i, 0 ≤ i → i < k → D (O i) ≤ D T) (h2 : ∀ i, k ≤ i → i < n → D T < D (O i)) (e1 : ∀ i, 0 ≤ i → i < k → O' i = O i) (e2 : O' k = T) (e3 : ∀ i, k < i → i ≤ n → O' i = O (i - 1)) : zEnum P D (T + 1) (n + 1) O' := by
  obtain ⟨a1, a2, a3, a4⟩ := h
  refine ⟨by omega, fun i i1 i2 => ?_, fun i j i1 i2 i3 => ?_, fun t t1 t2 hP => ?_⟩
  · by_cases q : i < k
    · rw [e1 i i1 q]; have := a2 i i1 (by omega); exact ⟨by omega, this.2⟩
    · by_cases q2 : i = k
      · rw [q2, e2]; exact ⟨by omega, hP⟩
      · rw [e3 i (by omega) (by omega)]; have := a2 (i - 1) (by omega) (by omega); exact ⟨by omega, this.2⟩
  · by_cases q : j < k
    · rw [e1 i i1 (by omega), e1 j (by omega) q]; exact a3 i j i1 i2 (by omega)
    · by_cases q2 : j = k
      · subst q2
        rw [e1 i i1 i2, e2]
        have := h1 i i1 i2
        have := (a2 i i1 (by omega)).1
        omega
      · rw [e3 j (by omega) (by omega)]
        by_cases q3 : i < k
        · rw [e1 i i1 q3]; exact a3 i (j - 1) i1 (by omega) (by omega)
        · by_cases q4 : i = k
          · rw [q4, e2]; exact Or.inl (h2 (j - 1) (by omega) (by omega))
          · rw [e3 i (by omega) (by omega)]; exact a3 (i - 1) (j - 1) (by omega) (by omega) (by omega)
  · by_cases q : t = T
    · exact ⟨k, by omega, by rw [e2, q]⟩
    · obtain ⟨i, hi, ei⟩ := a4 t t1 (by omega) hP
      by_cases q2 : i < k
      · exact ⟨i, by omega, by rw [e1 i hi.1 q2, ei]⟩
      · exact ⟨i + 1, by omega, by rw [e3 (i + 1) (by omega) (by omega), Int.add_sub_cancel, ei]⟩
theorem zEnum_lt {P : Int → Prop} {D O : Int → Int} {T n i j : Int} (h : zEnum P D T n O) (hi : 0 ≤ i ∧ i < n) (hj : 0 ≤ j ∧ j < n) : i < j ↔ zBf D (O i) (O j) := by
  constructor
  · intro q; exact h.2.2.1 i j hi.1 q hj.2
  · intro q
    by_cases q2 : i < j
    · exact q2
    · exfalso
      by_cases q3 : i = j
      · subst q3; omega
      · have := h.2.2.1 j i hj.1 (by omega) hi.2
        omega
theorem zEnum_inj {P : Int → Prop} {D O : Int → Int} {T n i j : Int} (h : zEnum P D T n O) (hi : 0 ≤ i ∧ i < n) (hj : 0 ≤ j ∧ j < n) (q : O i = O j) : i = j := by
  have h1 := zEnum_lt h hi hj
  have h2 := zEnum_lt h hj hi
  rw [q] at h1 h2
  by_cases z : i < j
  · have := h1.mp z; omega
  · by_cases z2 : j < i
    · have := h2.mp z2; omega
    · omega
/-- a choice that no program makes -/
noncomputable def zIf {α : Type} (c : Prop) (a b : α) : α := @ite _ c (Classical.propDecidable c) a b
theorem zIf_pos {α : Type} {c : Prop} {a b : α} (h : c) : zIf c a b = a := by unfold zIf; exact if_pos h
theorem zIf_neg {α : Type} {c : Prop} {a b : α} (h : ¬ c) : zIf c a b = b := by unfold zIf; exact if_neg h
theorem zEnum_sum {P : Int → Prop} {D O : Int → Int} {T n : Int} (h : zEnum P D T n O) (w : Int → Int) (j : Int) (hj : 0 ≤ j ∧ j ≤ n) : zS (fun i => w (O i)) j = zS (fun t => zIf (∃ i, (0 ≤ i ∧ i < j) ∧ O i = t) (w t) 0) T := by
  refine zloopI (i := 0) (I := fun j => zS (fun i => w (O i)) j = zS (fun t => zIf (∃ i, (0 ≤ i ∧ i < j) ∧ O i = t) (w t) 0) T) (P := fun _ => zS (fun i => w (O i)) j = zS (fun t => zIf (∃ i, (0 ≤ i ∧ i < j) ∧ O i = t) (w t) 0) T) j hj.1 ?_ ?_ (fun q => q) (fun j h1 h2 hi q => q)
  · have e : zS (fun t => zIf (∃ i, (0 ≤ i ∧ i < (0 : Int)) ∧ O i = t) (w t) 0) T = zS (fun _ => 0) T := zS_eq T (by have := h.1; omega) (fun i _ _ => zIf_neg (by rintro ⟨k, hk, _⟩; omega))
    rw [e, zS_0]
    have := zS_b (f := fun _ => 0) (c := 0) T (fun i _ _ => ⟨Int.le_refl _, Int.le_refl _⟩) (by have := h.1; omega) (Int.le_refl _)
    omega
  · intro k h1 h2 ih
    have hk := h.2.1 k h1 (by omega)
    rw [zS_s h1, ih]
    have := zS_at (f := fun t => zIf (∃ i, (0 ≤ i ∧ i < k + 1) ∧ O i = t) (w t) 0) (g := fun t => zIf (∃ i, (0 ≤ i ∧ i < k) ∧ O i = t) (w t) 0) (n := T) (j := O k) hk.1 (fun t _ _ q => by
      show (zIf (∃ i, (0 ≤ i ∧ i < k + 1) ∧ O i = t) (w t) 0) = zIf (∃ i, (0 ≤ i ∧ i < k) ∧ O i = t) (w t) 0
      have : (∃ i, (0 ≤ i ∧ i < k + 1) ∧ O i = t) ↔ (∃ i, (0 ≤ i ∧ i < k) ∧ O i = t) := by
        constructor
        · rintro ⟨i, hi, ei⟩
          by_cases z : i = k
          · subst z; exact absurd ei.symm q
          · exact ⟨i, by omega, ei⟩
        · rintro ⟨i, hi, ei⟩; exact ⟨i, by omega, ei⟩
      simp only [this])
    rw [this]
    have f1 : (zIf (∃ i, (0 ≤ i ∧ i < k + 1) ∧ O i = O k) (w (O k)) 0) = w (O k) := zIf_pos ⟨k, by omega, rfl⟩
    have f2 : (zIf (∃ i, (0 ≤ i ∧ i < k) ∧ O i = O k) (w (O k)) 0) = 0 := zIf_neg (by
      rintro ⟨i, hi, ei⟩
      have := zEnum_inj h ⟨hi.1, by omega⟩ ⟨h1, by omega⟩ ei
      omega)
    simp only [f1, f2]
    omega
theorem zEnum_pre {P : Int → Prop} [DecidablePred P] {D O : Int → Int} {T n : Int} (h : zEnum P D T n O) (w : Int → Int) {j : Int} (hj : 0 ≤ j ∧ j < n) : zS (fun i => w (O i)) j = zS (fun t => if P t ∧ zBf D t (O j) then w t else 0) T := by
  rw [zEnum_sum h w j ⟨hj.1, by omega⟩]
  refine zS_eq T (by have := h.1; omega) (fun t h1 h2 => ?_)
  have : (∃ i, (0 ≤ i ∧ i < j) ∧ O i = t) ↔ (P t ∧ zBf D t (O j)) := by
    constructor
    · rintro ⟨i, hi, ei⟩
      subst ei
      exact ⟨(h.2.1 i hi.1 (by omega)).2, (zEnum_lt h ⟨hi.1, by omega⟩ hj).mp hi.2⟩
    · rintro ⟨hP, hb⟩
      obtain ⟨i, hi, ei⟩ := h.2.2.2 t h1 h2 hP
      subst ei
      exact ⟨i, ⟨hi.1, (zEnum_lt h hi hj).mpr hb⟩, rfl⟩
  by_cases q : P t ∧ zBf D t (O j)
  · rw [if_pos q]; exact zIf_pos (this.mpr q)
  · rw [if_neg q]; exact zIf_neg (fun z => q (this.mp z))
theorem zEnum_all {P : Int → Prop} [DecidablePred P] {D O : Int → Int} {T n : Int} (h : zEnum P D T n O) (w : Int → Int) : zS (fun i => w (O i)) n = zS (fun t => if P t then w t else 0) T := by
  rw [zEnum_sum h w n ⟨h.1.1, Int.le_refl _⟩]
  refine zS_eq T (by have := h.1; omega) (fun t h1 h2 => ?_)
  have : (∃ i, (0 ≤ i ∧ i < n) ∧ O i = t) ↔ P t := by
    constructor
    · rintro ⟨i, hi, ei⟩
      subst ei
      exact (h.2.1 i hi.1 hi.2).2
    · intro hP
      exact h.2.2.2 t h1 h2 hP
  by_cases q : P t
  · rw [if_pos q]; exact zIf_pos (this.mpr q)
  · rw [if_neg q]; exact zIf_neg (fun z => q (this.mp z))
