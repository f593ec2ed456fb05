/-! THE INVARIANT of the spec: N bounds the numbers -/
abbrev zI0 (N : Int) (A : zA) : Prop := (zB N A) ∧ (zIr A) ∧ (zHd A) ∧ (zPl A) ∧ (zWv A) ∧ (zFt A) ∧ (zShw A) ∧ (∀ s, A 18 s = 2 → 0 ≤ A 21 s) ∧ (∀ k, 0 ≤ k → k < A 794 0 → A 35 k < A 785 0) ∧ (∀ k, A 17 k < A 785 0) ∧ (∀ t, A 785 0 ≤ t → A 12 t = 0 ∧ A 13 t = 0) ∧ (∀ p, A 787 0 ≤ p → A 26 p = 0 ∧ A 27 p = 0) ∧ (∀ k, A 786 0 ≤ k → A 16 k = 0 ∧ A 17 k = -1) ∧ (zDr A) ∧ (zWf A) ∧ (zTeam A) ∧ (A 788 0 ≠ 2 → zS2 A) ∧ (A 788 0 = 1 → zFn 1 A ∧ A 789 0 < A 790 0) ∧ (A 788 0 = 0 → A 789 0 = 0 ∧ ∀ k, A 17 k = -1)
theorem zI0.b {N : Int} {A : zA} (h : zI0 N A) : zB N A := by
  have w : (zB N A) ∧ (zIr A) ∧ (zHd A) ∧ (zPl A) ∧ (zWv A) ∧ (zFt A) ∧ (zShw A) ∧ (∀ s, A 18 s = 2 → 0 ≤ A 21 s) ∧ (∀ k, 0 ≤ k → k < A 794 0 → A 35 k < A 785 0) ∧ (∀ k, A 17 k < A 785 0) ∧ (∀ t, A 785 0 ≤ t → A 12 t = 0 ∧ A 13 t = 0) ∧ (∀ p, A 787 0 ≤ p → A 26 p = 0 ∧ A 27 p = 0) ∧ (∀ k, A 786 0 ≤ k → A 16 k = 0 ∧ A 17 k = -1) ∧ (zDr A) ∧ (zWf A) ∧ (zTeam A) ∧ (A 788 0 ≠ 2 → zS2 A) ∧ (A 788 0 = 1 → zFn 1 A ∧ A 789 0 < A 790 0) ∧ (A 788 0 = 0 → A 789 0 = 0 ∧ ∀ k, A 17 k = -1) := h
  exact w.1
theorem zI0.ir {N : Int} {A : zA} (h : zI0 N A) : zIr A := by
  have w : (zB N A) ∧ (zIr A) ∧ (zHd A) ∧ (zPl A) ∧ (zWv A) ∧ (zFt A) ∧ (zShw A) ∧ (∀ s, A 18 s = 2 → 0 ≤ A 21 s) ∧ (∀ k, 0 ≤ k → k < A 794 0 → A 35 k < A 785 0) ∧ (∀ k, A 17 k < A 785 0) ∧ (∀ t, A 785 0 ≤ t → A 12 t = 0 ∧ A 13 t = 0) ∧ (∀ p, A 787 0 ≤ p → A 26 p = 0 ∧ A 27 p = 0) ∧ (∀ k, A 786 0 ≤ k → A 16 k = 0 ∧ A 17 k = -1) ∧ (zDr A) ∧ (zWf A) ∧ (zTeam A) ∧ (A 788 0 ≠ 2 → zS2 A) ∧ (A 788 0 = 1 → zFn 1 A ∧ A 789 0 < A 790 0) ∧ (A 788 0 = 0 → A 789 0 = 0 ∧ ∀ k, A 17 k = -1) := h
  exact w.2.1
theorem zI0.hd {N : Int} {A : zA} (h : zI0 N A) : zHd A := by
  have w : (zB N A) ∧ (zIr A) ∧ (zHd A) ∧ (zPl A) ∧ (zWv A) ∧ (zFt A) ∧ (zShw A) ∧ (∀ s, A 18 s = 2 → 0 ≤ A 21 s) ∧ (∀ k, 0 ≤ k → k < A 794 0 → A 35 k < A 785 0) ∧ (∀ k, A 17 k < A 785 0) ∧ (∀ t, A 785 0 ≤ t → A 12 t = 0 ∧ A 13 t = 0) ∧ (∀ p, A 787 0 ≤ p → A 26 p = 0 ∧ A 27 p = 0) ∧ (∀ k, A 786 0 ≤ k → A 16 k = 0 ∧ A 17 k = -1) ∧ (zDr A) ∧ (zWf A) ∧ (zTeam A) ∧ (A 788 0 ≠ 2 → zS2 A) ∧ (A 788 0 = 1 → zFn 1 A ∧ A 789 0 < A 790 0) ∧ (A 788 0 = 0 → A 789 0 = 0 ∧ ∀ k, A 17 k = -1) := h
  exact w.2.2.1
theorem zI0.pl {N : Int} {A : zA} (h : zI0 N A) : zPl A := by
  have w : (zB N A) ∧ (zIr A) ∧ (zHd A) ∧ (zPl A) ∧ (zWv A) ∧ (zFt A) ∧ (zShw A) ∧ (∀ s, A 18 s = 2 → 0 ≤ A 21 s) ∧ (∀ k, 0 ≤ k → k < A 794 0 → A 35 k < A 785 0) ∧ (∀ k, A 17 k < A 785 0) ∧ (∀ t, A 785 0 ≤ t → A 12 t = 0 ∧ A 13 t = 0) ∧ (∀ p, A 787 0 ≤ p → A 26 p = 0 ∧ A 27 p = 0) ∧ (∀ k, A 786 0 ≤ k → A 16 k = 0 ∧ A 17 k = -1) ∧ (zDr A) ∧ (zWf A) ∧ (zTeam A) ∧ (A 788 0 ≠ 2 → zS2 A) ∧ (A 788 0 = 1 → zFn 1 A ∧ A 789 0 < A 790 0) ∧ (A 788 0 = 0 → A 789 0 = 0 ∧ ∀ k, A 17 k = -1) := h
  exact w.2.2.2.1
theorem zI0.wv {N : Int} {A : zA} (h : zI0 N A) : zWv A := by
  have w : (zB N A) ∧ (zIr A) ∧ (zHd A) ∧ (zPl A) ∧ (zWv A) ∧ (zFt A) ∧ (zShw A) ∧ (∀ s, A 18 s = 2 → 0 ≤ A 21 s) ∧ (∀ k, 0 ≤ k → k < A 794 0 → A 35 k < A 785 0) ∧ (∀ k, A 17 k < A 785 0) ∧ (∀ t, A 785 0 ≤ t → A 12 t = 0 ∧ A 13 t = 0) ∧ (∀ p, A 787 0 ≤ p → A 26 p = 0 ∧ A 27 p = 0) ∧ (∀ k, A 786 0 ≤ k → A 16 k = 0 ∧ A 17 k = -1) ∧ (zDr A) ∧ (zWf A) ∧ (zTeam A) ∧ (A 788 0 ≠ 2 → zS2 A) ∧ (A 788 0 = 1 → zFn 1 A ∧ A 789 0 < A 790 0) ∧ (A 788 0 = 0 → A 789 0 = 0 ∧ ∀ k, A 17 k = -1) := h
  exact w.2.2.2.2.1
theorem zI0.ft {N : Int} {A : zA} (h : zI0 N A) : zFt A := by
  have w : (zB N A) ∧ (zIr A) ∧ (zHd A) ∧ (zPl A) ∧ (zWv A) ∧ (zFt A) ∧ (zShw A) ∧ (∀ s, A 18 s = 2 → 0 ≤ A 21 s) ∧ (∀ k, 0 ≤ k → k < A 794 0 → A 35 k < A 785 0) ∧ (∀ k, A 17 k < A 785 0) ∧ (∀ t, A 785 0 ≤ t → A 12 t = 0 ∧ A 13 t = 0) ∧ (∀ p, A 787 0 ≤ p → A 26 p = 0 ∧ A 27 p = 0) ∧ (∀ k, A 786 0 ≤ k → A 16 k = 0 ∧ A 17 k = -1) ∧ (zDr A) ∧ (zWf A) ∧ (zTeam A) ∧ (A 788 0 ≠ 2 → zS2 A) ∧ (A 788 0 = 1 → zFn 1 A ∧ A 789 0 < A 790 0) ∧ (A 788 0 = 0 → A 789 0 = 0 ∧ ∀ k, A 17 k = -1) := h
  exact w.2.2.2.2.2.1
theorem zI0.shw {N : Int} {A : zA} (h : zI0 N A) : zShw A := by
  have w : (zB N A) ∧ (zIr A) ∧ (zHd A) ∧ (zPl A) ∧ (zWv A) ∧ (zFt A) ∧ (zShw A) ∧ (∀ s, A 18 s = 2 → 0 ≤ A 21 s) ∧ (∀ k, 0 ≤ k → k < A 794 0 → A 35 k < A 785 0) ∧ (∀ k, A 17 k < A 785 0) ∧ (∀ t, A 785 0 ≤ t → A 12 t = 0 ∧ A 13 t = 0) ∧ (∀ p, A 787 0 ≤ p → A 26 p = 0 ∧ A 27 p = 0) ∧ (∀ k, A 786 0 ≤ k → A 16 k = 0 ∧ A 17 k = -1) ∧ (zDr A) ∧ (zWf A) ∧ (zTeam A) ∧ (A 788 0 ≠ 2 → zS2 A) ∧ (A 788 0 = 1 → zFn 1 A ∧ A 789 0 < A 790 0) ∧ (A 788 0 = 0 → A 789 0 = 0 ∧ ∀ k, A 17 k = -1) := h
  exact w.2.2.2.2.2.2.1
theorem zI0.hs {N : Int} {A : zA} (h : zI0 N A) : ∀ s, A 18 s = 2 → 0 ≤ A 21 s := by
  have w : (zB N A) ∧ (zIr A) ∧ (zHd A) ∧ (zPl A) ∧ (zWv A) ∧ (zFt A) ∧ (zShw A) ∧ (∀ s, A 18 s = 2 → 0 ≤ A 21 s) ∧ (∀ k, 0 ≤ k → k < A 794 0 → A 35 k < A 785 0) ∧ (∀ k, A 17 k < A 785 0) ∧ (∀ t, A 785 0 ≤ t → A 12 t = 0 ∧ A 13 t = 0) ∧ (∀ p, A 787 0 ≤ p → A 26 p = 0 ∧ A 27 p = 0) ∧ (∀ k, A 786 0 ≤ k → A 16 k = 0 ∧ A 17 k = -1) ∧ (zDr A) ∧ (zWf A) ∧ (zTeam A) ∧ (A 788 0 ≠ 2 → zS2 A) ∧ (A 788 0 = 1 → zFn 1 A ∧ A 789 0 < A 790 0) ∧ (A 788 0 = 0 → A 789 0 = 0 ∧ ∀ k, A 17 k = -1) := h
  exact w.2.2.2.2.2.2.2.1
theorem zI0.sl {N : Int} {A : zA} (h : zI0 N A) : ∀ k, 0 ≤ k → k < A 794 0 → A 35 k < A 785 0 := by
  have w : (zB N A) ∧ (zIr A) ∧ (zHd A) ∧ (zPl A) ∧ (zWv A) ∧ (zFt A) ∧ (zShw A) ∧ (∀ s, A 18 s = 2 → 0 ≤ A 21 s) ∧ (∀ k, 0 ≤ k → k < A 794 0 → A 35 k < A 785 0) ∧ (∀ k, A 17 k < A 785 0) ∧ (∀ t, A 785 0 ≤ t → A 12 t = 0 ∧ A 13 t = 0) ∧ (∀ p, A 787 0 ≤ p → A 26 p = 0 ∧ A 27 p = 0) ∧ (∀ k, A 786 0 ≤ k → A 16 k = 0 ∧ A 17 k = -1) ∧ (zDr A) ∧ (zWf A) ∧ (zTeam A) ∧ (A 788 0 ≠ 2 → zS2 A) ∧ (A 788 0 = 1 → zFn 1 A ∧ A 789 0 < A 790 0) ∧ (A 788 0 = 0 → A 789 0 = 0 ∧ ∀ k, A 17 k = -1) := h
  exact w.2.2.2.2.2.2.2.2.1
theorem zI0.ih {N : Int} {A : zA} (h : zI0 N A) : ∀ k, A 17 k < A 785 0 := by
  have w : (zB N A) ∧ (zIr A) ∧ (zHd A) ∧ (zPl A) ∧ (zWv A) ∧ (zFt A) ∧ (zShw A) ∧ (∀ s, A 18 s = 2 → 0 ≤ A 21 s) ∧ (∀ k, 0 ≤ k → k < A 794 0 → A 35 k < A 785 0) ∧ (∀ k, A 17 k < A 785 0) ∧ (∀ t, A 785 0 ≤ t → A 12 t = 0 ∧ A 13 t = 0) ∧ (∀ p, A 787 0 ≤ p → A 26 p = 0 ∧ A 27 p = 0) ∧ (∀ k, A 786 0 ≤ k → A 16 k = 0 ∧ A 17 k = -1) ∧ (zDr A) ∧ (zWf A) ∧ (zTeam A) ∧ (A 788 0 ≠ 2 → zS2 A) ∧ (A 788 0 = 1 → zFn 1 A ∧ A 789 0 < A 790 0) ∧ (A 788 0 = 0 → A 789 0 = 0 ∧ ∀ k, A 17 k = -1) := h
  exact w.2.2.2.2.2.2.2.2.2.1
theorem zI0.nt {N : Int} {A : zA} (h : zI0 N A) : ∀ t, A 785 0 ≤ t → A 12 t = 0 ∧ A 13 t = 0 := by
  have w : (zB N A) ∧ (zIr A) ∧ (zHd A) ∧ (zPl A) ∧ (zWv A) ∧ (zFt A) ∧ (zShw A) ∧ (∀ s, A 18 s = 2 → 0 ≤ A 21 s) ∧ (∀ k, 0 ≤ k → k < A 794 0 → A 35 k < A 785 0) ∧ (∀ k, A 17 k < A 785 0) ∧ (∀ t, A 785 0 ≤ t → A 12 t = 0 ∧ A 13 t = 0) ∧ (∀ p, A 787 0 ≤ p → A 26 p = 0 ∧ A 27 p = 0) ∧ (∀ k, A 786 0 ≤ k → A 16 k = 0 ∧ A 17 k = -1) ∧ (zDr A) ∧ (zWf A) ∧ (zTeam A) ∧ (A 788 0 ≠ 2 → zS2 A) ∧ (A 788 0 = 1 → zFn 1 A ∧ A 789 0 < A 790 0) ∧ (A 788 0 = 0 → A 789 0 = 0 ∧ ∀ k, A 17 k = -1) := h
  exact w.2.2.2.2.2.2.2.2.2.2.1
theorem zI0.np {N : Int} {A : zA} (h : zI0 N A) : ∀ p, A 787 0 ≤ p → A 26 p = 0 ∧ A 27 p = 0 := by
  have w : (zB N A) ∧ (zIr A) ∧ (zHd A) ∧ (zPl A) ∧ (zWv A) ∧ (zFt A) ∧ (zShw A) ∧ (∀ s, A 18 s = 2 → 0 ≤ A 21 s) ∧ (∀ k, 0 ≤ k → k < A 794 0 → A 35 k < A 785 0) ∧ (∀ k, A 17 k < A 785 0) ∧ (∀ t, A 785 0 ≤ t → A 12 t = 0 ∧ A 13 t = 0) ∧ (∀ p, A 787 0 ≤ p → A 26 p = 0 ∧ A 27 p = 0) ∧ (∀ k, A 786 0 ≤ k → A 16 k = 0 ∧ A 17 k = -1) ∧ (zDr A) ∧ (zWf A) ∧ (zTeam A) ∧ (A 788 0 ≠ 2 → zS2 A) ∧ (A 788 0 = 1 → zFn 1 A ∧ A 789 0 < A 790 0) ∧ (A 788 0 = 0 → A 789 0 = 0 ∧ ∀ k, A 17 k = -1) := h
  exact w.2.2.2.2.2.2.2.2.2.2.2.1
theorem zI0.nm {N : Int} {A : zA} (h : zI0 N A) : ∀ k, A 786 0 ≤ k → A 16 k = 0 ∧ A 17 k = -1 := by
  have w : (zB N A) ∧ (zIr A) ∧ (zHd A) ∧ (zPl A) ∧ (zWv A) ∧ (zFt A) ∧ (zShw A) ∧ (∀ s, A 18 s = 2 → 0 ≤ A 21 s) ∧ (∀ k, 0 ≤ k → k < A 794 0 → A 35 k < A 785 0) ∧ (∀ k, A 17 k < A 785 0) ∧ (∀ t, A 785 0 ≤ t → A 12 t = 0 ∧ A 13 t = 0) ∧ (∀ p, A 787 0 ≤ p → A 26 p = 0 ∧ A 27 p = 0) ∧ (∀ k, A 786 0 ≤ k → A 16 k = 0 ∧ A 17 k = -1) ∧ (zDr A) ∧ (zWf A) ∧ (zTeam A) ∧ (A 788 0 ≠ 2 → zS2 A) ∧ (A 788 0 = 1 → zFn 1 A ∧ A 789 0 < A 790 0) ∧ (A 788 0 = 0 → A 789 0 = 0 ∧ ∀ k, A 17 k = -1) := h
  exact w.2.2.2.2.2.2.2.2.2.2.2.2.1
theorem zI0.dr {N : Int} {A : zA} (h : zI0 N A) : zDr A := by
  have w : (zB N A) ∧ (zIr A) ∧ (zHd A) ∧ (zPl A) ∧ (zWv A) ∧ (zFt A) ∧ (zShw A) ∧ (∀ s, A 18 s = 2 → 0 ≤ A 21 s) ∧ (∀ k, 0 ≤ k → k < A 794 0 → A 35 k < A 785 0) ∧ (∀ k, A 17 k < A 785 0) ∧ (∀ t, A 785 0 ≤ t → A 12 t = 0 ∧ A 13 t = 0) ∧ (∀ p, A 787 0 ≤ p → A 26 p = 0 ∧ A 27 p = 0) ∧ (∀ k, A 786 0 ≤ k → A 16 k = 0 ∧ A 17 k = -1) ∧ (zDr A) ∧ (zWf A) ∧ (zTeam A) ∧ (A 788 0 ≠ 2 → zS2 A) ∧ (A 788 0 = 1 → zFn 1 A ∧ A 789 0 < A 790 0) ∧ (A 788 0 = 0 → A 789 0 = 0 ∧ ∀ k, A 17 k = -1) := h
  exact w.2.2.2.2.2.2.2.2.2.2.2.2.2.1
theorem zI0.wf {N : Int} {A : zA} (h : zI0 N A) : zWf A := by
  have w : (zB N A) ∧ (zIr A) ∧ (zHd A) ∧ (zPl A) ∧ (zWv A) ∧ (zFt A) ∧ (zShw A) ∧ (∀ s, A 18 s = 2 → 0 ≤ A 21 s) ∧ (∀ k, 0 ≤ k → k < A 794 0 → A 35 k < A 785 0) ∧ (∀ k, A 17 k < A 785 0) ∧ (∀ t, A 785 0 ≤ t → A 12 t = 0 ∧ A 13 t = 0) ∧ (∀ p, A 787 0 ≤ p → A 26 p = 0 ∧ A 27 p = 0) ∧ (∀ k, A 786 0 ≤ k → A 16 k = 0 ∧ A 17 k = -1) ∧ (zDr A) ∧ (zWf A) ∧ (zTeam A) ∧ (A 788 0 ≠ 2 → zS2 A) ∧ (A 788 0 = 1 → zFn 1 A ∧ A 789 0 < A 790 0) ∧ (A 788 0 = 0 → A 789 0 = 0 ∧ ∀ k, A 17 k = -1) := h
  exact w.2.2.2.2.2.2.2.2.2.2.2.2.2.2.1
theorem zI0.tm {N : Int} {A : zA} (h : zI0 N A) : zTeam A := by
  have w : (zB N A) ∧ (zIr A) ∧ (zHd A) ∧ (zPl A) ∧ (zWv A) ∧ (zFt A) ∧ (zShw A) ∧ (∀ s, A 18 s = 2 → 0 ≤ A 21 s) ∧ (∀ k, 0 ≤ k → k < A 794 0 → A 35 k < A 785 0) ∧ (∀ k, A 17 k < A 785 0) ∧ (∀ t, A 785 0 ≤ t → A 12 t = 0 ∧ A 13 t = 0) ∧ (∀ p, A 787 0 ≤ p → A 26 p = 0 ∧ A 27 p = 0) ∧ (∀ k, A 786 0 ≤ k → A 16 k = 0 ∧ A 17 k = -1) ∧ (zDr A) ∧ (zWf A) ∧ (zTeam A) ∧ (A 788 0 ≠ 2 → zS2 A) ∧ (A 788 0 = 1 → zFn 1 A ∧ A 789 0 < A 790 0) ∧ (A 788 0 = 0 → A 789 0 = 0 ∧ ∀ k, A 17 k = -1) := h
  exact w.2.2.2.2.2.2.2.2.2.2.2.2.2.2.2.1
theorem zI0.s2 {N : Int} {A : zA} (h : zI0 N A) : A 788 0 ≠ 2 → zS2 A := by
  have w : (zB N A) ∧ (zIr A) ∧ (zHd A) ∧ (zPl A) ∧ (zWv A) ∧ (zFt A) ∧ (zShw A) ∧ (∀ s, A 18 s = 2 → 0 ≤ A 21 s) ∧ (∀ k, 0 ≤ k → k < A 794 0 → A 35 k < A 785 0) ∧ (∀ k, A 17 k < A 785 0) ∧ (∀ t, A 785 0 ≤ t → A 12 t = 0 ∧ A 13 t = 0) ∧ (∀ p, A 787 0 ≤ p → A 26 p = 0 ∧ A 27 p = 0) ∧ (∀ k, A 786 0 ≤ k → A 16 k = 0 ∧ A 17 k = -1) ∧ (zDr A) ∧ (zWf A) ∧ (zTeam A) ∧ (A 788 0 ≠ 2 → zS2 A) ∧ (A 788 0 = 1 → zFn 1 A ∧ A 789 0 < A 790 0) ∧ (A 788 0 = 0 → A 789 0 = 0 ∧ ∀ k, A 17 k = -1) := h
  exact w.2.2.2.2.2.2.2.2.2.2.2.2.2.2.2.2.1
theorem zI0.p1 {N : Int} {A : zA} (h : zI0 N A) : A 788 0 = 1 → zFn 1 A ∧ A 789 0 < A 790 0 := by
  have w : (zB N A) ∧ (zIr A) ∧ (zHd A) ∧ (zPl A) ∧ (zWv A) ∧ (zFt A) ∧ (zShw A) ∧ (∀ s, A 18 s = 2 → 0 ≤ A 21 s) ∧ (∀ k, 0 ≤ k → k < A 794 0 → A 35 k < A 785 0) ∧ (∀ k, A 17 k < A 785 0) ∧ (∀ t, A 785 0 ≤ t → A 12 t = 0 ∧ A 13 t = 0) ∧ (∀ p, A 787 0 ≤ p → A 26 p = 0 ∧ A 27 p = 0) ∧ (∀ k, A 786 0 ≤ k → A 16 k = 0 ∧ A 17 k = -1) ∧ (zDr A) ∧ (zWf A) ∧ (zTeam A) ∧ (A 788 0 ≠ 2 → zS2 A) ∧ (A 788 0 = 1 → zFn 1 A ∧ A 789 0 < A 790 0) ∧ (A 788 0 = 0 → A 789 0 = 0 ∧ ∀ k, A 17 k = -1) := h
  exact w.2.2.2.2.2.2.2.2.2.2.2.2.2.2.2.2.2.1
theorem zI0.p0 {N : Int} {A : zA} (h : zI0 N A) : A 788 0 = 0 → A 789 0 = 0 ∧ ∀ k, A 17 k = -1 := by
  have w : (zB N A) ∧ (zIr A) ∧ (zHd A) ∧ (zPl A) ∧ (zWv A) ∧ (zFt A) ∧ (zShw A) ∧ (∀ s, A 18 s = 2 → 0 ≤ A 21 s) ∧ (∀ k, 0 ≤ k → k < A 794 0 → A 35 k < A 785 0) ∧ (∀ k, A 17 k < A 785 0) ∧ (∀ t, A 785 0 ≤ t → A 12 t = 0 ∧ A 13 t = 0) ∧ (∀ p, A 787 0 ≤ p → A 26 p = 0 ∧ A 27 p = 0) ∧ (∀ k, A 786 0 ≤ k → A 16 k = 0 ∧ A 17 k = -1) ∧ (zDr A) ∧ (zWf A) ∧ (zTeam A) ∧ (A 788 0 ≠ 2 → zS2 A) ∧ (A 788 0 = 1 → zFn 1 A ∧ A 789 0 < A 790 0) ∧ (A 788 0 = 0 → A 789 0 = 0 ∧ ∀ k, A 17 k = -1) := h
  exact w.2.2.2.2.2.2.2.2.2.2.2.2.2.2.2.2.2.2
theorem zCh_e {A B : zA} {ks : List Nat} (q : zCh ks A B) {l : List Nat} (h : ∀ k ∈ l, k ∉ ks) {k : Nat} (hk : k ∈ l) (i : Int) : B k i = A k i := congrFun (q k (h k hk)) i
theorem zI0_c {N : Int} {A B : zA} {ks : List Nat} (h : zI0 N A) (q : zCh ks A B) (b : zB N B)
    (ir : ¬ (∀ k ∈ [11], k ∉ ks) → zIr B := by exact fun z => absurd (by decide) z)
    (hd : ¬ (∀ k ∈ [11, 17, 785], k ∉ ks) → zHd B := by exact fun z => absurd (by decide) z)
    (pl : ¬ (∀ k ∈ [11, 787], k ∉ ks) → zPl B := by exact fun z => absurd (by decide) z)
    (wv : ¬ (∀ k ∈ [11, 785], k ∉ ks) → zWv B := by exact fun z => absurd (by decide) z)
    (ft : ¬ (∀ k ∈ [29, 30], k ∉ ks) → zFt B := by exact fun z => absurd (by decide) z)
    (shw : ¬ (∀ k ∈ [18, 21, 785], k ∉ ks) → zShw B := by exact fun z => absurd (by decide) z)
    (hs : ¬ (∀ k ∈ [18, 21], k ∉ ks) → ∀ s, B 18 s = 2 → 0 ≤ B 21 s := by exact fun z => absurd (by decide) z)
    (sl : ¬ (∀ k ∈ [35, 794, 785], k ∉ ks) → ∀ k, 0 ≤ k → k < B 794 0 → B 35 k < B 785 0 := by exact fun z => absurd (by decide) z)
    (ih : ¬ (∀ k ∈ [17, 785], k ∉ ks) → ∀ k, B 17 k < B 785 0 := by exact fun z => absurd (by decide) z)
    (nt : ¬ (∀ k ∈ [12, 13, 785], k ∉ ks) → ∀ t, B 785 0 ≤ t → B 12 t = 0 ∧ B 13 t = 0 := by exact fun z => absurd (by decide) z)
    (np : ¬ (∀ k ∈ [26, 27, 787], k ∉ ks) → ∀ p, B 787 0 ≤ p → B 26 p = 0 ∧ B 27 p = 0 := by exact fun z => absurd (by decide) z)
    (nm : ¬ (∀ k ∈ [16, 17, 786], k ∉ ks) → ∀ k, B 786 0 ≤ k → B 16 k = 0 ∧ B 17 k = -1 := by exact fun z => absurd (by decide) z)
    (dr : ¬ (∀ k ∈ [3, 784], k ∉ ks) → zDr B := by exact fun z => absurd (by decide) z)
    (wf : ¬ (∀ k ∈ [1, 2, 3, 4, 784, 6, 788], k ∉ ks) → zWf B := by exact fun z => absurd (by decide) z)
    (tm : ¬ (∀ k ∈ [785, 11, 14, 788, 786, 6], k ∉ ks) → zTeam B := by exact fun z => absurd (by decide) z)
    (s2 : ¬ (∀ k ∈ [785, 11, 35, 794, 788], k ∉ ks) → B 788 0 ≠ 2 → zS2 B := by exact fun z => absurd (by decide) z)
    (p1 : ¬ (∀ k ∈ [788, 786, 17, 16, 789, 790], k ∉ ks) → B 788 0 = 1 → zFn 1 B ∧ B 789 0 < B 790 0 := by exact fun z => absurd (by decide) z)
    (p0 : ¬ (∀ k ∈ [788, 789, 17], k ∉ ks) → B 788 0 = 0 → B 789 0 = 0 ∧ ∀ k, B 17 k = -1 := by exact fun z => absurd (by decide) z) : zI0 N B := by
  refine ⟨b, ?_, ?_, ?_, ?_, ?_, ?_, ?_, ?_, ?_, ?_, ?_, ?_, ?_, ?_, ?_, ?_, ?_, ?_⟩
  · refine (Classical.em _).elim (fun z => ?_) ir
    have e := q 11 (z _ (by decide))
    have := h.ir; unfold zIr zIn at *; rw [e]; exact this
  · refine (Classical.em _).elim (fun z => ?_) hd
    have e := q 11 (z _ (by decide)); have e2 := q 17 (z _ (by decide)); have e3 := q 785 (z _ (by decide))
    have := h.hd; unfold zHd at *; rw [e, e2, e3]; exact this
  · refine (Classical.em _).elim (fun z => ?_) pl
    have e := q 11 (z _ (by decide)); have e2 := q 787 (z _ (by decide))
    have := h.pl; unfold zPl zAt at *; rw [e, e2]; exact this
  · refine (Classical.em _).elim (fun z => ?_) wv
    have e := q 11 (z _ (by decide)); have e2 := q 785 (z _ (by decide))
    have := h.wv; unfold zWv zTh at *; rw [e, e2]; exact this
  · refine (Classical.em _).elim (fun z => ?_) ft
    have e := q 29 (z _ (by decide)); have e2 := q 30 (z _ (by decide))
    have := h.ft; unfold zFt at *; rw [e, e2]; exact this
  · refine (Classical.em _).elim (fun z => ?_) shw
    have e := q 18 (z _ (by decide)); have e2 := q 21 (z _ (by decide)); have e3 := q 785 (z _ (by decide))
    have := h.shw; unfold zShw zTh at *; rw [e, e2, e3]; exact this
  · refine (Classical.em _).elim (fun z => ?_) hs
    have e := q 18 (z _ (by decide)); have e2 := q 21 (z _ (by decide))
    rw [e, e2]; exact h.hs
  · refine (Classical.em _).elim (fun z => ?_) sl
    have e := q 35 (z _ (by decide)); have e2 := q 794 (z _ (by decide)); have e3 := q 785 (z _ (by decide))
    rw [e, e2, e3]; exact h.sl
  · refine (Classical.em _).elim (fun z => ?_) ih
    have e := q 17 (z _ (by decide)); have e3 := q 785 (z _ (by decide))
    rw [e, e3]; exact h.ih
  · refine (Classical.em _).elim (fun z => ?_) nt
    have e := q 12 (z _ (by decide)); have e2 := q 13 (z _ (by decide)); have e3 := q 785 (z _ (by decide))
    rw [e, e2, e3]; exact h.nt
  · refine (Classical.em _).elim (fun z => ?_) np
    have e := q 26 (z _ (by decide)); have e2 := q 27 (z _ (by decide)); have e3 := q 787 (z _ (by decide))
    rw [e, e2, e3]; exact h.np
  · refine (Classical.em _).elim (fun z => ?_) nm
    have e := q 16 (z _ (by decide)); have e2 := q 17 (z _ (by decide)); have e3 := q 786 (z _ (by decide))
    rw [e, e2, e3]; exact h.nm
  · refine (Classical.em _).elim (fun z => ?_) dr
    have e := q 3 (z _ (by decide)); have e2 := q 784 (z _ (by decide))
    have := h.dr; unfold zDr at *; rw [e, e2]; exact this
  · refine (Classical.em _).elim (fun z => ?_) wf
    have ew : zWay B = zWay A := zWay_c (fun k y => q k (by rcases y with y | y | y | y | y <;> rw [y] <;> exact z _ (by decide)))
    have e := q 6 (z _ (by decide)); have e2 := q 784 (z _ (by decide)); have e3 := q 788 (z _ (by decide))
    have := h.wf; unfold zWf at *; rw [ew, e, e2, e3]; exact this
  · refine (Classical.em _).elim (fun z => ?_) tm
    have e := q 11 (z _ (by decide)); have e2 := q 785 (z _ (by decide)); have e3 := q 14 (z _ (by decide)); have e4 := q 788 (z _ (by decide)); have e5 := q 786 (z _ (by decide)); have e6 := q 6 (z _ (by decide))
    have := h.tm; unfold zTeam zTh zIn zFar at *; rw [e, e2, e3, e4, e5, e6]; exact this
  · refine (Classical.em _).elim (fun z => ?_) s2
    have e4 := q 788 (z _ (by decide))
    rw [e4]
    exact fun y => zS2_c (h.s2 y) (q 35 (z _ (by decide))) (q 794 (z _ (by decide))) (q 11 (z _ (by decide))) (q 785 (z _ (by decide)))
  · refine (Classical.em _).elim (fun z => ?_) p1
    have e := q 788 (z _ (by decide)); have e2 := q 786 (z _ (by decide)); have e3 := q 17 (z _ (by decide)); have e4 := q 16 (z _ (by decide)); have e5 := q 789 (z _ (by decide)); have e6 := q 790 (z _ (by decide))
    have := h.p1; unfold zFn at *; rw [e, e2, e3, e4, e5, e6]; exact this
  · refine (Classical.em _).elim (fun z => ?_) p0
    have e := q 788 (z _ (by decide)); have e3 := q 17 (z _ (by decide)); have e5 := q 789 (z _ (by decide))
    rw [e, e3, e5]; exact h.p0
theorem zI0_m {N M : Int} {A : zA} (h : zI0 N A) (q : N ≤ M) : zI0 M A := ⟨zB_mono h.b q, h.ir, h.hd, h.pl, h.wv, h.ft, h.shw, h.hs, h.sl, h.ih, h.nt, h.np, h.nm, h.dr, h.wf, h.tm, h.s2, h.p1, h.p0⟩
/-- THE INVARIANT after n calls -/
abbrev zInv (N : Int) (A : zA) : Prop := (zI0 N A) ∧ (zPt N A) ∧ (∀ t, zTh A t → zSeals A t ≤ N + 2)
theorem zInv.i {N : Int} {A : zA} (h : zInv N A) : zI0 N A := by
  have w : (zI0 N A) ∧ (zPt N A) ∧ (∀ t, zTh A t → zSeals A t ≤ N + 2) := h
  exact w.1
theorem zInv.pt {N : Int} {A : zA} (h : zInv N A) : zPt N A := by
  have w : (zI0 N A) ∧ (zPt N A) ∧ (∀ t, zTh A t → zSeals A t ≤ N + 2) := h
  exact w.2.1
theorem zInv.sc {N : Int} {A : zA} (h : zInv N A) : ∀ t, zTh A t → zSeals A t ≤ N + 2 := by
  have w : (zI0 N A) ∧ (zPt N A) ∧ (∀ t, zTh A t → zSeals A t ≤ N + 2) := h
  exact w.2.2
theorem zInv_c {n : Int} {A B : zA} {ks : List Nat} (h : zInv n A) (q : zCh ks A B) (hk : ∀ k ∈ [11, 35, 785, 794], k ∉ ks) (b : zI0 (n + 1) B) : zInv (n + 1) B := by
  have e1 := q 11 (hk _ (by decide)); have e2 := q 35 (hk _ (by decide)); have e3 := q 785 (hk _ (by decide)); have e4 := q 794 (hk _ (by decide))
  refine ⟨b, ?_, fun t ht => ?_⟩
  · have := h.pt
    unfold zPt at *
    rw [e1, e3, e4]
    omega
  · rw [zSeals_c e2 e4]
    unfold zTh at ht
    rw [e3] at ht
    have := h.sc t ht
    omega
theorem zInv_1 {n : Int} {A : zA} (h : zInv n A) : zInv (n + 1) A := zInv_c h zCh_r (by decide) (zI0_m h.i (by omega))
theorem v_no {n k : Int} {A : zA} (h : zInv n A) : zInv (n + 1) (zNo A k).2 := by
  have h1 := (zInv_1 h).i
  have b1 : 0 ≤ A 39 (-k) ∧ A 39 (-k) ≤ n := h.i.b 39 (-k)
  exact zInv_c h zCh_u (by decide) (zI0_c h1 zCh_u (zB_u h1.b ⟨by show (0 : Int) ≤ A 39 (-k) + 1; omega, by show A 39 (-k) + 1 ≤ n + 1; omega⟩))
theorem v_band {n k f t : Int} {A : zA} (h : zInv n A) : zInv (n + 1) (zfBand A k f t).2 := by
  have h1 := (zInv_1 h).i
  unfold zfBand
  split
  · exact v_no h
  split
  · exact v_no h
  have qc : zCh ([29] ++ [30]) A (zU (zU A 29 k f) 30 k t) := zCh_t zCh_u zCh_u
  dsimp only
  refine zInv_c h qc (by decide) (zI0_c h1 qc (zB_u (zB_u h1.b ⟨by show (0 : Int) ≤ f; omega, by show f ≤ 100; omega⟩) ⟨by show (0 : Int) ≤ t; omega, by show t ≤ 100; omega⟩) (ft := fun _ j j1 j2 => ?_))
  have := h1.ft j j1 j2
  by_cases z : j = k
  · rw [z, zU_eq, zU_k (by decide), zU_eq]; omega
  · rw [show zU (zU A 29 k f) 30 k t 29 j = A 29 j from by rw [zU_i z, zU_i z], show zU (zU A 29 k f) 30 k t 30 j = A 30 j from by rw [zU_i z, zU_i z]]; exact this
theorem v_keep {n k f : Int} {A : zA} (h : zInv n A) : zInv (n + 1) (zfKeep A k f).2 := by
  have h1 := (zInv_1 h).i
  unfold zfKeep
  split
  · exact v_no h
  split
  · exact v_no h
  exact zInv_c h zCh_u (by decide) (zI0_c h1 zCh_u (zB_u h1.b ⟨by show (0 : Int) ≤ f; omega, by show f ≤ 9; omega⟩))
theorem v_fuel {n f : Int} {A : zA} (h : zInv n A) : zInv (n + 1) (zfFuel A f).2 := by
  have h1 := (zInv_1 h).i
  have b1 : 0 ≤ A 792 0 ∧ A 792 0 ≤ 1000000 := h.i.b 792 0
  unfold zfFuel
  split
  · exact v_no h
  dsimp only
  refine zInv_c h zCh_u (by decide) (zI0_c h1 zCh_u (zB_u h1.b ?_))
  show 0 ≤ (if 1000000 < A 792 0 + f then 1000000 else A 792 0 + f) ∧ (if 1000000 < A 792 0 + f then 1000000 else A 792 0 + f) ≤ 1000000
  split <;> omega
theorem v_place {n p g mi : Int} {A : zA} (h : zInv n A) : zInv (n + 1) (zfPlace A p g mi).2 := by
  have h1 := (zInv_1 h).i
  have b1 : 0 ≤ A 787 0 ∧ A 787 0 ≤ 5 := h.i.b 787 0
  unfold zfPlace
  split
  · exact v_no h
  split
  · exact v_no h
  split
  · exact v_no h
  have qc : zCh ((([23] ++ [24]) ++ [25]) ++ [787]) A (zU (zU (zU (zU A 23 (A 787 0) p) 24 (A 787 0) g) 25 (A 787 0) mi) 787 0 (A 787 0 + 1)) := zCh_t (zCh_t (zCh_t zCh_u zCh_u) zCh_u) zCh_u
  have en : zU (zU (zU (zU A 23 (A 787 0) p) 24 (A 787 0) g) 25 (A 787 0) mi) 787 0 (A 787 0 + 1) 787 0 = A 787 0 + 1 := zU_eq
  dsimp only
  refine zInv_c h qc (by decide) (zI0_c h1 qc (zB_u (zB_u (zB_u (zB_u h1.b ⟨by show (0 : Int) ≤ p; omega, by show p ≤ 40; omega⟩) ⟨by show (0 : Int) ≤ g; omega, by show g ≤ 3; omega⟩) ⟨by show (0 : Int) ≤ mi; omega, by show mi ≤ 9; omega⟩) ⟨by show (0 : Int) ≤ A 787 0 + 1; omega, by show A 787 0 + 1 ≤ 5; omega⟩) (pl := fun _ t ht => ?_) (np := fun _ j hj => ?_))
  · rw [en]
    show A 11 t - 400 < _
    have := h1.pl t ht
    omega
  · rw [en] at hj
    exact h1.np j (by omega)
theorem v_paper {n t w f u : Int} {A : zA} (h : zInv n A) : zInv (n + 1) (zfPaper A t w f u).2 := by
  have h1 := (zInv_1 h).i
  have b1 : 0 ≤ A 13 t ∧ A 13 t ≤ 6 := h.i.b 13 t
  unfold zfPaper
  split
  · exact v_no h
  split
  · exact v_no h
  split
  · exact v_no h
  rename_i q1 q2 q3
  have ht : zTh A t := Classical.not_not.mp q1
  have qc : zCh ((([32] ++ [33]) ++ [34]) ++ [13]) A (zU (zU (zU (zU A 32 (6 * t + A 13 t) w) 33 (6 * t + A 13 t) f) 34 (6 * t + A 13 t) u) 13 t (A 13 t + 1)) := zCh_t (zCh_t (zCh_t zCh_u zCh_u) zCh_u) zCh_u
  dsimp only
  refine zInv_c h qc (by decide) (zI0_c h1 qc (zB_u (zB_u (zB_u (zB_u h1.b ⟨by show (0 : Int) ≤ w; omega, by show w ≤ 9; omega⟩) ⟨by show (0 : Int) ≤ f; omega, by show f ≤ 200; omega⟩) ⟨by show (0 : Int) ≤ u; omega, by show u ≤ 200; omega⟩) ⟨by show (0 : Int) ≤ A 13 t + 1; omega, by show A 13 t + 1 ≤ 6; omega⟩) (nt := fun _ j hj => ?_))
  have hj2 : A 785 0 ≤ j := hj
  refine ⟨(h1.nt j hj2).1, ?_⟩
  rw [zU_i (by unfold zTh at ht; omega)]
  exact (h1.nt j hj2).2
theorem v_show {n s t : Int} {A : zA} (h : zInv n A) : zInv (n + 1) (zfShow A s t).2 := by
  have h1 := (zInv_1 h).i
  have b0 : 0 ≤ A 785 0 ∧ A 785 0 ≤ 16 := h.i.b 785 0
  unfold zfShow
  split
  · exact v_no h
  rename_i q
  have qc : zCh ([18] ++ [21]) A (zU (zU A 18 s (if t = -1 then 0 else 2)) 21 s t) := zCh_t zCh_u zCh_u
  have ht : t = -1 ∨ zTh A t := (Classical.em (t = -1)).imp id (fun z => Classical.byContradiction fun y => q (Or.inr ⟨z, y⟩))
  dsimp only
  refine zInv_c h qc (by decide) (zI0_c h1 qc (zB_u (zB_u h1.b ?_) ⟨by show (-1 : Int) ≤ t; unfold zTh at ht; omega, by show t ≤ 15; unfold zTh at ht; omega⟩) (shw := fun _ j hj hh => ?_) (hs := fun _ j hh => ?_))
  · show 0 ≤ (if t = -1 then (0 : Int) else 2) ∧ (if t = -1 then (0 : Int) else 2) ≤ 2
    split <;> omega
  · by_cases z : j = s
    · rw [z, zU_k (by decide), zU_eq] at hh
      rw [z, zU_eq]
      by_cases y : t = -1
      · rw [if_pos y] at hh; omega
      · exact ht.resolve_left y
    · rw [zU_k (by decide), zU_i z] at hh
      rw [zU_i z, zU_k (by decide)]
      exact h1.shw j hj hh
  · by_cases z : j = s
    · rw [z, zU_k (by decide), zU_eq] at hh
      rw [z, zU_eq]
      by_cases y : t = -1
      · rw [if_pos y] at hh; omega
      · exact (ht.resolve_left y).1
    · rw [zU_k (by decide), zU_i z] at hh
      rw [zU_i z, zU_k (by decide)]
      exact h1.hs j hh
