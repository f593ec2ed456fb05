/-! SUMS AND LOOPS -/
def zSN (f : Int → Int) : Nat → Int
  | 0 => 0
  | n + 1 => zSN f n + f n
/-- the sum of f over 0 ≤ i < n -/
def zS (f : Int → Int) (n : Int) : Int := zSN f n.toNat
theorem zS_0 {f : Int → Int} : zS f 0 = 0 := rfl
theorem zS_s {f : Int → Int} {n : Int} (h : 0 ≤ n) : zS f (n + 1) = zS f n + f n := by
  unfold zS
  rw [show (n + 1).toNat = n.toNat + 1 from by omega, zSN, show (n.toNat : Int) = n from by omega]
theorem zS_z {f : Int → Int} {n : Int} (h : 0 ≤ n) (q : f n = 0) : zS f (n + 1) = zS f n := by rw [zS_s h, q, Int.add_zero]
theorem zS_v {f : Int → Int} {n : Int} (v : Int) (h : 0 ≤ n) (q : f n = v) : zS f (n + 1) = zS f n + v := by rw [zS_s h, q]
theorem z01 {c : Prop} [Decidable c] : 0 ≤ (if c then (1 : Int) else 0) ∧ (if c then (1 : Int) else 0) ≤ 1 := by split <;> omega
theorem zloop {P : Int → Prop} {i : Int} (n : Int) (h : i ≤ n) (hend : P n) (step : ∀ j, i ≤ j → j < n → P (j + 1) → P j) : P i := by
  have e : ∀ (r : Nat) (j : Int), i ≤ j → j + r = n → P j := by
    intro r
    induction r with
    | zero => intro j _ hj; rw [show j = n from by omega]; exact hend
    | succ r ih => intro j h1 hj; exact step j h1 (by omega) (ih (j + 1) (by omega) (by omega))
  exact e (n - i).toNat i (by omega) (by omega)
/-- with what is known so far -/
theorem zloopI {P : Int → Prop} {I : Int → Prop} {i : Int} (n : Int) (h : i ≤ n) (h0 : I i) (hI : ∀ j, i ≤ j → j < n → I j → I (j + 1)) (hend : I n → P n) (step : ∀ j, i ≤ j → j < n → I j → P (j + 1) → P j) : P i := by
  have e : ∀ (r : Nat) (j : Int), i ≤ j → j + r = n → I j → P j := by
    intro r
    induction r with
    | zero => intro j _ hj hi; rw [show j = n from by omega]; exact hend (by rw [show n = j from by omega]; exact hi)
    | succ r ih => intro j h1 hj hi; exact step j h1 (by omega) hi (ih (j + 1) (by omega) (by omega) (hI j h1 (by omega) hi))
  exact e (n - i).toNat i (by omega) (by omega) h0
theorem zS_b {f : Int → Int} {c : Int} (n : Int) (h : ∀ i, 0 ≤ i → i < n → 0 ≤ f i ∧ f i ≤ c) (hn : 0 ≤ n) (hc : 0 ≤ c) : 0 ≤ zS f n ∧ zS f n ≤ c * n := by
  refine zloopI (I := fun i => 0 ≤ zS f i ∧ zS f i ≤ c * i) (P := fun _ => 0 ≤ zS f n ∧ zS f n ≤ c * n) n hn ⟨by simp [zS_0], by simp [zS_0]⟩ ?_ (fun q => q) (fun j h1 h2 hi q => q)
  intro j h1 h2 hi
  have := h j h1 h2
  rw [zS_s h1, Int.mul_add]
  omega
theorem zS_eq {f g : Int → Int} (n : Int) (hn : 0 ≤ n) (h : ∀ i, 0 ≤ i → i < n → f i = g i) : zS f n = zS g n := by
  refine zloopI (I := fun i => zS f i = zS g i) (P := fun _ => zS f n = zS g n) n hn rfl ?_ (fun q => q) (fun j h1 h2 hi q => q)
  intro j h1 h2 hi
  rw [zS_s h1, zS_s h1, hi, h j h1 h2]
