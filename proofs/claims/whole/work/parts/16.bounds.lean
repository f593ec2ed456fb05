/-! BOUNDS of the state: n calls were made -/
def zlo (k : Nat) : Int := if k = 5 ∨ k = 6 ∨ k = 14 ∨ k = 17 ∨ k = 21 ∨ k = 793 then -1 else if k = 22 ∨ k = 28 then -9223372036854775808 else 0
def zhi (n : Int) (k : Nat) : Int := if k = 1 ∨ k = 2 then 11 else if k = 3 ∨ k = 25 ∨ k = 31 ∨ k = 32 then 9 else if k = 4 ∨ k = 795 then 1 else if k = 5 ∨ k = 789 ∨ k = 790 then 240 else if k = 6 then 99 else if k = 7 ∨ k = 19 ∨ k = 24 ∨ k = 27 ∨ k = 786 then 3 else if k = 8 ∨ k = 29 ∨ k = 30 then 100 else if k = 9 ∨ k = 15 then 4 else if k = 10 ∨ k = 784 then 20 else if k = 11 ∨ k = 37 ∨ k = 38 then 609 else if k = 12 then 6000 * n else if k = 13 then 6 else if k = 14 ∨ k = 18 ∨ k = 788 then 2 else if k = 16 then 500 + 60 * n else if k = 17 ∨ k = 21 ∨ k = 35 then 15 else if k = 20 ∨ k = 26 ∨ k = 793 then 60 else if k = 22 ∨ k = 28 then 9223372036854775807 else if k = 23 then 40 else if k = 33 ∨ k = 34 then 200 else if k = 36 then 2000 else if k = 39 then n else if k = 785 then 16 else if k = 787 then 5 else if k = 791 then 1000 else if k = 792 then 1000000 else if k = 794 then 16 * n + 32 else 0
def zB (n : Int) (A : zA) : Prop := ∀ (k : Nat) (i : Int), zlo k ≤ A k i ∧ A k i ≤ zhi n k
theorem zB_u {n : Int} {A : zA} {k : Nat} {j v : Int} (h : zB n A) (hv : zlo k ≤ v ∧ v ≤ zhi n k) : zB n (zU A k j v) := by
  intro k' i
  unfold zU
  split
  · rename_i q; rw [q.1]; exact hv
  · exact h k' i
theorem zhi_mono {n n2 : Int} (h : n ≤ n2) (k : Nat) : zhi n k ≤ zhi n2 k := by
  unfold zhi
  (repeat' split) <;> omega
theorem zB_mono {n n2 : Int} {A : zA} (h : zB n A) (q : n ≤ n2) : zB n2 A := fun k i => ⟨(h k i).1, Int.le_trans (h k i).2 (zhi_mono q k)⟩
theorem zmul_b {a b c d : Int} (h : 0 ≤ a ∧ a ≤ c) (h2 : 0 ≤ b ∧ b ≤ d) : 0 ≤ a * b ∧ a * b ≤ c * d := ⟨Int.mul_nonneg h.1 h2.1, Int.mul_le_mul h.2 h2.2 h2.1 (Int.le_trans h.1 h.2)⟩
