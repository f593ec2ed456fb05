/-! THE SPREAD: the least of all, by the places of the things that are moved -/
def zP8 (t : Int) : Int := (8 : Int) ^ (15 - t).toNat
theorem zP8_0 (t : Int) : 0 < zP8 t := Int.pow_pos (by decide)
theorem zP8_s {t : Int} (h : t < 15) : zP8 t = 8 * zP8 (t + 1) := by
  unfold zP8
  rw [show (15 - t).toNat = (15 - (t + 1)).toNat + 1 from by omega, Int.pow_succ]
  omega
theorem zP8_lt {t : Int} : ∀ (r : Nat) (u : Int), u = t + 1 + r → u ≤ 15 → 8 * zP8 u ≤ zP8 t := by
  intro r
  induction r with
  | zero =>
    intro u hu h
    have := zP8_s (t := t) (by omega)
    rw [show t + 1 = u from by omega] at this
    omega
  | succ r ih =>
    intro u hu h
    have h1 := ih (u - 1) (by omega) (by omega)
    have h2 := zP8_s (t := u - 1) (by omega)
    rw [Int.sub_add_cancel] at h2
    have := zP8_0 u
    omega
/-- what a place could take, and what it is to take -/
def zLf (A : zA) (p : Int) : Int := A 23 p - zUsed A p + zS (fun t => if zMv A t ∧ A 11 t = 400 + p then A 9 t else 0) (A 785 0)
def zLd (A : zA) (L f : Int → Int) (n p : Int) : Int := zS (fun k => if f k = p then A 9 (L k) else 0) n
def zEf (n : Int) (L f : Int → Int) : Int → Int := fun t => zS (fun k => if L k = t then f k else 0) n
def zSv (A : zA) (n : Int) (L f : Int → Int) : Prop := (∀ k, 0 ≤ k → k < n → ((0 ≤ f k ∧ f k < A 787 0) ∧ zGood A (f k) (A 7 (L k))) ∧ zLd A L f n (f k) ≤ zLf A (f k)) ∧ zKp A (zEf n L f)
def zCo (A : zA) (n : Int) (L f : Int → Int) : Int := zS (fun k => zPrice A (L k) (f k)) n
def zSt (n : Int) (L f : Int → Int) : Int := zS (fun k => f k * zP8 (L k)) n
def zIsS (A : zA) (n : Int) (L f : Int → Int) : Prop := zSv A n L f ∧ ∀ g, zSv A n L g → zCo A n L f < zCo A n L g ∨ (zCo A n L f = zCo A n L g ∧ zSt n L f ≤ zSt n L g)
theorem zEf_L {A : zA} {P : Int → Prop} {n T k : Int} {L f : Int → Int} (hE : zEnum P (fun _ => 0) T n L) (hk : 0 ≤ k ∧ k < n) : zEf n L f (L k) = f k := by
  unfold zEf
  have := zS_at (f := fun j => if L j = L k then f j else 0) (g := fun _ => 0) hk (fun i i1 i2 q => by
    show (if L i = L k then f i else 0) = 0
    rw [if_neg (fun w => q (zEnum_inj hE ⟨i1, i2⟩ hk w))])
  have z := zS_b (f := fun _ => 0) (c := 0) n (fun i _ _ => ⟨Int.le_refl _, Int.le_refl _⟩) (by omega) (Int.le_refl _)
  rw [this, if_pos rfl]
  omega
theorem zEf_c {n : Int} {L f g : Int → Int} (hn : 0 ≤ n) (h : ∀ k, 0 ≤ k → k < n → f k = g k) : zEf n L f = zEf n L g := by
  funext t
  exact zS_eq n hn (fun k k1 k2 => by show (if L k = t then f k else 0) = if L k = t then g k else 0; rw [h k k1 k2])
theorem zSv_c {A : zA} {n : Int} {L f g : Int → Int} (hn : 0 ≤ n) (h : ∀ k, 0 ≤ k → k < n → f k = g k) (q : zSv A n L f) : zSv A n L g := by
  have e : ∀ p, zLd A L g n p = zLd A L f n p := fun p => zS_eq n hn (fun k k1 k2 => by show (if g k = p then A 9 (L k) else 0) = if f k = p then A 9 (L k) else 0; rw [h k k1 k2])
  refine ⟨fun k k1 k2 => ?_, by rw [← zEf_c hn h]; exact q.2⟩
  rw [e, ← h k k1 k2]
  exact q.1 k k1 k2
theorem zCo_c {A : zA} {n : Int} {L f g : Int → Int} (hn : 0 ≤ n) (h : ∀ k, 0 ≤ k → k < n → f k = g k) : zCo A n L f = zCo A n L g :=
  zS_eq n hn (fun k k1 k2 => by show zPrice A (L k) (f k) = zPrice A (L k) (g k); rw [h k k1 k2])
theorem zSt_c {n : Int} {L f g : Int → Int} (hn : 0 ≤ n) (h : ∀ k, 0 ≤ k → k < n → f k = g k) : zSt n L f = zSt n L g :=
  zS_eq n hn (fun k k1 k2 => by show f k * zP8 (L k) = g k * zP8 (L k); rw [h k k1 k2])
theorem zSt_lt {A : zA} {P : Int → Prop} {n T k0 : Int} {L f g : Int → Int} (hE : zEnum P (fun _ => 0) T n L) (hT : T ≤ 16) (hf : ∀ k, 0 ≤ k → k < n → 0 ≤ f k ∧ f k ≤ 7) (hg : ∀ k, 0 ≤ k → k < n → 0 ≤ g k ∧ g k ≤ 7) (h0 : 0 ≤ k0 ∧ k0 < n) (he : ∀ k, 0 ≤ k → k < k0 → f k = g k) (hl : f k0 < g k0) : zSt n L f < zSt n L g := by
  have key : zS (fun k => f k * zP8 (L k)) n + zP8 (L (n - 1)) ≤ zS (fun k => g k * zP8 (L k)) n := by
    refine zloopI (i := k0 + 1) (I := fun n => zS (fun k => f k * zP8 (L k)) n + zP8 (L (n - 1)) ≤ zS (fun k => g k * zP8 (L k)) n) (P := fun _ => zS (fun k => f k * zP8 (L k)) n + zP8 (L (n - 1)) ≤ zS (fun k => g k * zP8 (L k)) n) n (by omega) ?_ ?_ (fun q => q) (fun j h1 h2 hi q => q)
    · rw [zS_s h0.1, zS_s h0.1, zS_eq (f := fun k => f k * zP8 (L k)) (g := fun k => g k * zP8 (L k)) k0 h0.1 (fun i i1 i2 => by show f i * zP8 (L i) = g i * zP8 (L i); rw [he i i1 i2]), Int.add_sub_cancel]
      have h1 : (f k0 + 1) * zP8 (L k0) ≤ g k0 * zP8 (L k0) := Int.mul_le_mul_of_nonneg_right (by omega) (by have := zP8_0 (L k0); omega)
      rw [Int.add_mul] at h1
      omega
    · intro j n1 n2 hi
      rw [zS_s (by omega), zS_s (by omega), Int.add_sub_cancel]
      have o1 := (hE.2.1 j (by omega) n2).1
      have o2 := (hE.2.1 (j - 1) (by omega) (by omega)).1
      have o3 : (0 : Int) < 0 ∨ ((0 : Int) = 0 ∧ L (j - 1) < L j) := hE.2.2.1 (j - 1) j (by omega) (by omega) n2
      have e1 := zP8_lt (t := L (j - 1)) (L j - L (j - 1) - 1).toNat (L j) (by omega) (by omega)
      have f1 := hf j (by omega) n2
      have g1 := hg j (by omega) n2
      have p1 := zP8_0 (L j)
      have h1 : f j * zP8 (L j) ≤ 7 * zP8 (L j) := Int.mul_le_mul_of_nonneg_right f1.2 (by omega)
      have h2 : 0 ≤ g j * zP8 (L j) := Int.mul_nonneg g1.1 (by omega)
      omega
  have := zP8_0 (L (n - 1))
  unfold zSt
  omega
/-- there is one spread alone -/
theorem zIsS_u {A : zA} {P : Int → Prop} {n T : Int} {L f g : Int → Int} (hE : zEnum P (fun _ => 0) T n L) (hT : T ≤ 16) (hp : A 787 0 ≤ 5) (hf : zIsS A n L f) (hg : zIsS A n L g) : (∀ k, 0 ≤ k → k < n → f k = g k) ∧ zCo A n L f = zCo A n L g := by
  have h1 := hf.2 g hg.1
  have h2 := hg.2 f hf.1
  refine ⟨?_, by omega⟩
  have rf : ∀ k, 0 ≤ k → k < n → 0 ≤ f k ∧ f k ≤ 7 := fun k k1 k2 => by have := (hf.1.1 k k1 k2).1.1; omega
  have rg : ∀ k, 0 ≤ k → k < n → 0 ≤ g k ∧ g k ≤ 7 := fun k k1 k2 => by have := (hg.1.1 k k1 k2).1.1; omega
  have all : ∀ (r : Nat) (k : Int), 0 ≤ k → k < r → k < n → f k = g k := by
    intro r
    induction r with
    | zero => intro k k1 k2; omega
    | succ r ih =>
      intro k k1 k2 k3
      by_cases q : f k < g k
      · have := zSt_lt (A := A) hE hT rf rg ⟨k1, k3⟩ (fun i i1 i2 => ih i i1 (by omega) (by omega)) q
        omega
      · by_cases q2 : g k < f k
        · have := zSt_lt (A := A) hE hT rg rf ⟨k1, k3⟩ (fun i i1 i2 => (ih i i1 (by omega) (by omega)).symm) q2
          omega
        · omega
  exact fun k k1 k2 => all (k.toNat + 1) k k1 (by omega) k2
def zMt (X : (Int → Int) → Prop) (C T : (Int → Int) → Int) (M : Int) (F : Int → Int) (M' : Int) (F' : Int → Int) : Prop := (∀ f, X f → M' ≠ -1 ∧ M' ≤ C f) ∧ ((M' = M ∧ F' = F) ∨ (M' ≠ -1 ∧ (M = -1 ∨ M' < M) ∧ X F' ∧ C F' = M' ∧ ∀ f, X f → C f = M' → T F' ≤ T f))
theorem zMt_no {X : (Int → Int) → Prop} {C T : (Int → Int) → Int} {M : Int} {F : Int → Int} (h : ∀ f, X f → M ≠ -1 ∧ M ≤ C f) : zMt X C T M F M F := ⟨h, Or.inl ⟨rfl, rfl⟩⟩
theorem zMt_t {X Y V : (Int → Int) → Prop} {C T : (Int → Int) → Int} {M M1 M2 : Int} {F F1 F2 : Int → Int} (h1 : zMt X C T M F M1 F1) (h2 : zMt Y C T M1 F1 M2 F2) (hl : ∀ f g, X f → Y g → T f < T g) (hV : ∀ f, V f ↔ (X f ∨ Y f)) : zMt V C T M F M2 F2 := by
  obtain ⟨a1, a2⟩ := h1
  obtain ⟨b1, b2⟩ := h2
  refine ⟨fun f hf => ?_, ?_⟩
  · rcases (hV f).mp hf with q | q
    · have := a1 f q; omega
    · exact b1 f q
  · rcases b2 with ⟨b2, b3⟩ | ⟨b2, b3, b4, b5, b6⟩
    · subst b2
      subst b3
      rcases a2 with a2 | ⟨a2, a3, a4, a5, a6⟩
      · exact Or.inl a2
      · refine Or.inr ⟨a2, a3, (hV _).mpr (Or.inl a4), a5, fun f hf w => ?_⟩
        rcases (hV f).mp hf with q | q
        · exact a6 f q w
        · have := hl _ f a4 q; omega
    · refine Or.inr ⟨b2, by omega, (hV _).mpr (Or.inr b4), b5, fun f hf w => ?_⟩
      rcases (hV f).mp hf with q | q
      · have := a1 f q; omega
      · exact b6 f q w
/-- spreads that agree with a beginning -/
def zXs (A : zA) (n : Int) (L : Int → Int) (i : Int) (R : Int → Int) : (Int → Int) → Prop := fun f => zSv A n L f ∧ ∀ k, 0 ≤ k → k < i → f k = R k
def zXsc (A : zA) (n : Int) (L : Int → Int) (i : Int) (R : Int → Int) (c : Int) : (Int → Int) → Prop := fun f => zXs A n L i R f ∧ f i < c
def zXse (A : zA) (n : Int) (L : Int → Int) (i : Int) (R : Int → Int) (c : Int) : (Int → Int) → Prop := fun f => zXs A n L i R f ∧ f i = c
theorem zXs_t {A : zA} {n i c M M1 M2 : Int} {L R F F1 F2 : Int → Int} (hE : zEnum (zMv A) (fun _ => 0) (A 785 0) n L) (hT : A 785 0 ≤ 16) (hp : A 787 0 ≤ 5) (hi : 0 ≤ i ∧ i < n) (h1 : zMt (zXsc A n L i R c) (zCo A n L) (zSt n L) M F M1 F1) (h2 : zMt (zXse A n L i R c) (zCo A n L) (zSt n L) M1 F1 M2 F2) : zMt (zXsc A n L i R (c + 1)) (zCo A n L) (zSt n L) M F M2 F2 := by
  refine zMt_t h1 h2 (fun f g q1 q2 => ?_) (fun f => ?_)
  · have r : ∀ f, zSv A n L f → ∀ k, 0 ≤ k → k < n → 0 ≤ f k ∧ f k ≤ 7 := fun f hf k k1 k2 => by have := (hf.1 k k1 k2).1.1; omega
    refine zSt_lt (A := A) hE hT (r f q1.1.1) (r g q2.1.1) hi (fun k k1 k2 => by rw [q1.1.2 k k1 k2, q2.1.2 k k1 k2]) ?_
    have := q1.2
    have := q2.2
    omega
  · unfold zXsc zXse
    constructor
    · rintro ⟨q1, q2⟩
      by_cases z : f i < c
      · exact Or.inl ⟨q1, z⟩
      · exact Or.inr ⟨q1, by omega⟩
    · rintro (⟨q1, q2⟩ | ⟨q1, q2⟩)
      · exact ⟨q1, by omega⟩
      · exact ⟨q1, by omega⟩
