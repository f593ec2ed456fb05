/-! SETS as numbers: members and parts -/
theorem zand2 {a b c d : Nat} (hb : b < 2) (hd : d < 2) : (2 * a + b) &&& (2 * c + d) = 2 * (a &&& c) + b * d := by
  have hb' : b = 0 ∨ b = 1 := by omega
  have hd' : d = 0 ∨ d = 1 := by omega
  have e1 : (2 * a + b) % 2 = b ∧ (2 * a + b) / 2 = a := by omega
  have e2 : (2 * c + d) % 2 = d ∧ (2 * c + d) / 2 = c := by omega
  have e3 : ∀ w : Nat, (2 * w + b * d) % 2 = b * d ∧ (2 * w + b * d) / 2 = w := by
    intro w
    rcases hb' with z | z <;> rcases hd' with y | y <;> rw [z, y] <;> omega
  apply Nat.eq_of_testBit_eq
  intro i
  rw [Nat.testBit_and]
  cases i with
  | zero =>
    rw [Nat.testBit_zero, Nat.testBit_zero, Nat.testBit_zero, e1.1, e2.1, (e3 _).1]
    rcases hb' with z | z <;> rcases hd' with y | y <;> rw [z, y] <;> decide
  | succ i => rw [Nat.testBit_succ, Nat.testBit_succ, Nat.testBit_succ, e1.2, e2.2, (e3 _).2, Nat.testBit_and]
theorem zsubm (k : Nat) : ∀ s p q : Nat, p < k → p &&& s = p → q &&& s = q → q < p → q ≤ (p - 1) &&& s := by
  induction k with
  | zero => intro s p q h; omega
  | succ k ih =>
    intro s p q hk hp hq hl
    obtain ⟨s', c, hc, rfl⟩ : ∃ s' c, c < 2 ∧ s = 2 * s' + c := ⟨s / 2, s % 2, Nat.mod_lt _ (by decide), by omega⟩
    obtain ⟨p', a, ha, rfl⟩ : ∃ s' c, c < 2 ∧ p = 2 * s' + c := ⟨p / 2, p % 2, Nat.mod_lt _ (by decide), by omega⟩
    obtain ⟨q', d, hd, rfl⟩ : ∃ s' c, c < 2 ∧ q = 2 * s' + c := ⟨q / 2, q % 2, Nat.mod_lt _ (by decide), by omega⟩
    rw [zand2 ha hc] at hp
    rw [zand2 hd hc] at hq
    have hc' : c = 0 ∨ c = 1 := by omega
    have ha' : a = 0 ∨ a = 1 := by omega
    have hd' : d = 0 ∨ d = 1 := by omega
    have kp : p' &&& s' = p' ∧ a ≤ c := by
      generalize p' &&& s' = w at hp ⊢
      rcases ha' with z | z <;> rcases hc' with y | y <;> subst z <;> subst y <;> omega
    have kq : q' &&& s' = q' ∧ d ≤ c := by
      generalize q' &&& s' = w at hq ⊢
      rcases hd' with z | z <;> rcases hc' with y | y <;> subst z <;> subst y <;> omega
    rcases ha' with z | z
    · subst z
      rw [show 2 * p' + 0 - 1 = 2 * (p' - 1) + 1 from by omega, zand2 (by decide) hc]
      have w := ih s' p' q' (by omega) kp.1 kq.1 (by omega)
      generalize (p' - 1) &&& s' = v at w ⊢
      omega
    · subst z
      rw [show 2 * p' + 1 - 1 = 2 * p' + 0 from by omega, zand2 (by decide) hc, kp.1]
      omega
theorem zgand {x y : Nat} (hx : x < 65536) : gand (x : Int) (y : Int) = ((x &&& y : Nat) : Int) := by
  have e : Int32.ofInt (x : Int) &&& Int32.ofInt (y : Int) = Int32.ofInt ((x &&& y : Nat) : Int) := by
    rw [Int32.ofInt_eq_ofNat, Int32.ofInt_eq_ofNat, Int32.ofInt_eq_ofNat]
    apply Int32.toBitVec_inj.1
    show BitVec.ofNat 32 x &&& BitVec.ofNat 32 y = BitVec.ofNat 32 (x &&& y)
    apply BitVec.eq_of_getLsbD_eq
    intro i hi
    simp [hi]
  have h : x &&& y ≤ x := Nat.and_le_left
  unfold gand
  rw [e, w32_of, w32_id ⟨by omega, by omega⟩]
theorem zgxor {x y : Nat} (hx : x < 2 ^ 16) (hy : y < 2 ^ 16) : gxor (x : Int) (y : Int) = ((x ^^^ y : Nat) : Int) := by
  have e : Int32.ofInt (x : Int) ^^^ Int32.ofInt (y : Int) = Int32.ofInt ((x ^^^ y : Nat) : Int) := by
    rw [Int32.ofInt_eq_ofNat, Int32.ofInt_eq_ofNat, Int32.ofInt_eq_ofNat]
    apply Int32.toBitVec_inj.1
    show BitVec.ofNat 32 x ^^^ BitVec.ofNat 32 y = BitVec.ofNat 32 (x ^^^ y)
    apply BitVec.eq_of_getLsbD_eq
    intro i hi
    simp [hi]
  have h : x ^^^ y < 2 ^ 16 := Nat.xor_lt_two_pow hx hy
  have h2 : x ^^^ y < 65536 := h
  unfold gxor
  rw [e, w32_of, w32_id ⟨by omega, by omega⟩]
/-- a member -/
abbrev zb (s j : Int) : Prop := Nat.testBit s.toNat j.toNat = true
/-- all sets of so many -/
def zp2 (n : Int) : Int := ((2 ^ n.toNat : Nat) : Int)
theorem zp2_s {n : Int} (h : 0 ≤ n) : zp2 (n + 1) = 2 * zp2 n := by
  unfold zp2
  rw [show (n + 1).toNat = n.toNat + 1 from by omega, Nat.pow_succ]
  omega
theorem zp2_1 {n : Int} : 1 ≤ zp2 n := by
  have : 0 < 2 ^ n.toNat := Nat.pow_pos (by decide)
  unfold zp2
  omega
theorem zp2_m {a b : Int} (h : a ≤ b) : zp2 a ≤ zp2 b := by
  have : 2 ^ a.toNat ≤ 2 ^ b.toNat := Nat.pow_le_pow_right (by decide) (by omega)
  unfold zp2
  omega
theorem zp2_8 : zp2 8 = 256 := by decide
theorem zp2_b {n : Int} (h : n ≤ 8) : 1 ≤ zp2 n ∧ zp2 n ≤ 256 := ⟨zp2_1, by have := zp2_m h; rw [zp2_8] at this; exact this⟩
theorem zb_hi {n x j : Int} (hx : 0 ≤ x ∧ x < zp2 n) (hj : n ≤ j) : ¬ zb x j := by
  have h : x.toNat < 2 ^ j.toNat := Nat.lt_of_lt_of_le (show x.toNat < 2 ^ n.toNat by unfold zp2 at hx; omega) (Nat.pow_le_pow_right (by decide) (by omega))
  intro z
  rw [zb, Nat.testBit_lt_two_pow h] at z
  exact absurd z (by decide)
theorem zb_ext {n x y : Int} (hx : 0 ≤ x ∧ x < zp2 n) (hy : 0 ≤ y ∧ y < zp2 n) (h : ∀ j, 0 ≤ j → j < n → (zb x j ↔ zb y j)) : x = y := by
  have e : x.toNat = y.toNat := by
    apply Nat.eq_of_testBit_eq
    intro i
    have k : zb x (i : Int) ↔ zb y (i : Int) := by
      by_cases q : (i : Int) < n
      · exact h i (by omega) q
      · exact ⟨fun z => absurd z (zb_hi hx (by omega)), fun z => absurd z (zb_hi hy (by omega))⟩
    rw [zb, zb, Int.toNat_natCast] at k
    exact Bool.eq_iff_iff.mpr k
  omega
theorem zb_0 (j : Int) : ¬ zb 0 j := by
  intro z
  rw [zb, show (0 : Int).toNat = 0 from rfl, Nat.zero_testBit] at z
  exact absurd z (by decide)
theorem zb_add {x j i : Int} (hj : 0 ≤ j) (hi : 0 ≤ i) (hx : 0 ≤ x ∧ x < zp2 j) : zb (x + zp2 j) i ↔ (zb x i ∨ i = j) := by
  have e : (x + zp2 j).toNat = 2 ^ j.toNat + x.toNat := by
    unfold zp2
    generalize 2 ^ j.toNat = w
    omega
  rcases Int.lt_trichotomy i j with h | h | h
  · rw [zb, e, Nat.testBit_two_pow_add_gt (show i.toNat < j.toNat by omega)]
    exact ⟨Or.inl, fun z => z.elim id (fun y => by omega)⟩
  · rw [h]
    have n := zb_hi hx (Int.le_refl j)
    have nf : Nat.testBit x.toNat j.toNat = false := by
      cases q : Nat.testBit x.toNat j.toNat
      · rfl
      · exact absurd q n
    rw [zb, e, Nat.testBit_two_pow_add_eq, nf]
    exact ⟨fun _ => Or.inr rfl, fun _ => rfl⟩
  · have n1 : ¬ zb (x + zp2 j) i := zb_hi (n := j + 1) ⟨by have := zp2_1 (n := j); omega, by rw [zp2_s hj]; omega⟩ (by omega)
    have n2 : ¬ zb x i := zb_hi hx (by omega)
    exact ⟨fun z => absurd z n1, fun z => z.elim (fun y => absurd y n2) (fun y => by omega)⟩
theorem zb_and {x y j : Int} (hx : 0 ≤ x ∧ x < 256) (hy : 0 ≤ y ∧ y < 256) : zb (gand x y) j ↔ (zb x j ∧ zb y j) := by
  obtain ⟨x, rfl⟩ : ∃ k : Nat, x = k := ⟨x.toNat, by omega⟩
  obtain ⟨y, rfl⟩ : ∃ k : Nat, y = k := ⟨y.toNat, by omega⟩
  rw [zgand (by omega), zb, zb, zb, Int.toNat_natCast, Int.toNat_natCast, Int.toNat_natCast, Nat.testBit_and]
  cases Nat.testBit x j.toNat <;> cases Nat.testBit y j.toNat <;> decide
theorem zb_xor {x y j : Int} (hx : 0 ≤ x ∧ x < 256) (hy : 0 ≤ y ∧ y < 256) : zb (gxor x y) j ↔ ((zb x j ∧ ¬ zb y j) ∨ (¬ zb x j ∧ zb y j)) := by
  obtain ⟨x, rfl⟩ : ∃ k : Nat, x = k := ⟨x.toNat, by omega⟩
  obtain ⟨y, rfl⟩ : ∃ k : Nat, y = k := ⟨y.toNat, by omega⟩
  rw [zgxor (by omega) (by omega), zb, zb, zb, Int.toNat_natCast, Int.toNat_natCast, Int.toNat_natCast, Nat.testBit_xor]
  cases Nat.testBit x j.toNat <;> cases Nat.testBit y j.toNat <;> decide
theorem zgand_b {x y : Int} (hx : 0 ≤ x ∧ x < 256) (hy : 0 ≤ y ∧ y < 256) : 0 ≤ gand x y ∧ gand x y ≤ x ∧ gand x y ≤ y := by
  obtain ⟨x, rfl⟩ : ∃ k : Nat, x = k := ⟨x.toNat, by omega⟩
  obtain ⟨y, rfl⟩ : ∃ k : Nat, y = k := ⟨y.toNat, by omega⟩
  rw [zgand (by omega)]
  have h1 : x &&& y ≤ x := Nat.and_le_left
  have h2 : x &&& y ≤ y := Nat.and_le_right
  omega
theorem zgxor_b {x y : Int} (hx : 0 ≤ x ∧ x < 256) (hy : 0 ≤ y ∧ y < 256) : 0 ≤ gxor x y ∧ gxor x y < 256 := by
  obtain ⟨x, rfl⟩ : ∃ k : Nat, x = k := ⟨x.toNat, by omega⟩
  obtain ⟨y, rfl⟩ : ∃ k : Nat, y = k := ⟨y.toNat, by omega⟩
  rw [zgxor (by omega) (by omega)]
  have h : x ^^^ y < 2 ^ 8 := Nat.xor_lt_two_pow (by omega) (by omega)
  omega
/-- a part of a set -/
def zPr (q s : Int) : Prop := (0 ≤ q ∧ q ≤ s) ∧ ∀ j, 0 ≤ j → j < 8 → zb q j → zb s j
theorem zPr_and {q s : Int} (hs : 0 ≤ s ∧ s < 256) (h : zPr q s) : gand q s = q := by
  have hq : 0 ≤ q ∧ q < 256 := ⟨h.1.1, by have := h.1.2; omega⟩
  have b := zgand_b hq hs
  refine zb_ext (n := 8) ⟨b.1, by rw [zp2_8]; omega⟩ ⟨hq.1, by rw [zp2_8]; omega⟩ (fun j j1 j2 => ?_)
  rw [zb_and hq hs]
  exact ⟨fun z => z.1, fun z => ⟨z, h.2 j j1 j2 z⟩⟩
theorem zPr_of {q s : Int} (hq : 0 ≤ q ∧ q < 256) (hs : 0 ≤ s ∧ s < 256) (h : ∀ j, 0 ≤ j → j < 8 → zb q j → zb s j) : zPr q s := by
  have b := zgand_b hq hs
  have e : gand q s = q := by
    refine zb_ext (n := 8) ⟨b.1, by rw [zp2_8]; omega⟩ ⟨hq.1, by rw [zp2_8]; omega⟩ (fun j j1 j2 => ?_)
    rw [zb_and hq hs]
    exact ⟨fun z => z.1, fun z => ⟨z, h j j1 j2 z⟩⟩
  exact ⟨⟨hq.1, by omega⟩, h⟩
theorem zPr_0 {s : Int} (hs : 0 ≤ s) : zPr 0 s := ⟨⟨Int.le_refl 0, hs⟩, fun j _ _ z => absurd z (zb_0 j)⟩
theorem zPr_r {s : Int} (hs : 0 ≤ s) : zPr s s := ⟨⟨hs, Int.le_refl s⟩, fun _ _ _ z => z⟩
/-- the next lesser part -/
theorem zPr_next {s p : Int} (hs : 0 ≤ s ∧ s < 256) (hp : zPr p s) (h0 : 0 < p) : zPr (gand (p - 1) s) s ∧ gand (p - 1) s < p ∧ ∀ q, zPr q s → q < p → q ≤ gand (p - 1) s := by
  have hp1 : 0 ≤ p - 1 ∧ p - 1 < 256 := by have := hp.1; omega
  have b := zgand_b hp1 hs
  refine ⟨⟨⟨b.1, b.2.2⟩, fun j j1 j2 z => ((zb_and hp1 hs).1 z).2⟩, by omega, fun q hq hl => ?_⟩
  have ep := zPr_and hs hp
  have eq := zPr_and hs hq
  obtain ⟨s, rfl⟩ : ∃ k : Nat, s = k := ⟨s.toNat, by omega⟩
  obtain ⟨p, rfl⟩ : ∃ k : Nat, p = k := ⟨p.toNat, by omega⟩
  obtain ⟨q, rfl⟩ : ∃ k : Nat, q = k := ⟨q.toNat, by have := hq.1; omega⟩
  rw [zgand (by omega)] at ep eq
  rw [show (p : Int) - 1 = ((p - 1 : Nat) : Int) from by omega, zgand (by omega)]
  have w := zsubm (p + 1) s p q (by omega) (by omega) (by omega) (by omega)
  omega
/-- the rest of a set -/
theorem zPr_xor {q s : Int} (hs : 0 ≤ s ∧ s < 256) (h : zPr q s) : zPr (gxor s q) s ∧ ∀ j, 0 ≤ j → j < 8 → (zb (gxor s q) j ↔ (zb s j ∧ ¬ zb q j)) := by
  have hq : 0 ≤ q ∧ q < 256 := ⟨h.1.1, by have := h.1.2; omega⟩
  have k : ∀ j, 0 ≤ j → j < 8 → (zb (gxor s q) j ↔ (zb s j ∧ ¬ zb q j)) := fun j j1 j2 => by
    rw [zb_xor hs hq]
    exact ⟨fun z => z.elim id (fun y => absurd (h.2 j j1 j2 y.2) y.1), Or.inl⟩
  exact ⟨zPr_of (zgxor_b hs hq) hs (fun j j1 j2 z => ((k j j1 j2).1 z).1), k⟩
/-- the set of those with a mark -/
theorem zmk (R : Int → Prop) (n : Nat) : ∃ s, (0 ≤ s ∧ s < zp2 n) ∧ ∀ j : Int, 0 ≤ j → j < n → (zb s j ↔ R j) := by
  induction n with
  | zero => exact ⟨0, ⟨Int.le_refl 0, zp2_1⟩, fun j j1 j2 => by omega⟩
  | succ n ih =>
    obtain ⟨s, h1, h2⟩ := ih
    have e : zp2 ((n + 1 : Nat) : Int) = 2 * zp2 n := by rw [← zp2_s (by omega)]; rfl
    by_cases q : R n
    · refine ⟨s + zp2 n, ⟨by omega, by omega⟩, fun j j1 j2 => ?_⟩
      rw [zb_add (by omega) j1 h1]
      by_cases z : j = n
      · rw [z]; exact ⟨fun _ => q, fun _ => Or.inr rfl⟩
      · rw [h2 j j1 (by omega)]; exact ⟨fun y => y.elim id (fun x => absurd x z), Or.inl⟩
    · refine ⟨s, ⟨h1.1, by omega⟩, fun j j1 j2 => ?_⟩
      by_cases z : j = n
      · rw [z]; exact ⟨fun y => absurd y (zb_hi h1 (Int.le_refl _)), fun y => absurd y q⟩
      · exact h2 j j1 (by omega)
/-- the sum of w over a set -/
def zMS (w : Int → Int) (s : Int) : Int := zS (fun j => if zb s j then w j else 0) 8
theorem zMS_0 {w : Int → Int} : zMS w 0 = 0 := by
  unfold zMS
  rw [zS_eq (g := fun _ => 0) 8 (by decide) (fun i _ _ => if_neg (zb_0 i))]
  decide
theorem zMS_add {w : Int → Int} {r j : Int} (hj : 0 ≤ j ∧ j < 8) (hr : 0 ≤ r ∧ r < zp2 j) : zMS w (r + zp2 j) = zMS w r + w j := by
  unfold zMS
  have h := zS_at (f := fun i => if zb (r + zp2 j) i then w i else 0) (g := fun i => if zb r i then w i else 0) (n := 8) hj (fun i i1 i2 i3 => by
    show (if zb (r + zp2 j) i then w i else 0) = if zb r i then w i else 0
    by_cases z : zb r i
    · rw [if_pos z, if_pos ((zb_add hj.1 i1 hr).2 (Or.inl z))]
    · rw [if_neg z, if_neg (fun y => ((zb_add hj.1 i1 hr).1 y).elim z i3)])
  rw [h]
  show _ + ((if zb (r + zp2 j) j then w j else 0) - (if zb r j then w j else 0)) = _
  rw [if_pos ((zb_add hj.1 hj.1 hr).2 (Or.inr rfl)), if_neg (zb_hi hr (Int.le_refl j)), Int.sub_zero]
theorem zMS_c {w w' : Int → Int} {s : Int} (h : ∀ j, 0 ≤ j → j < 8 → zb s j → w j = w' j) : zMS w s = zMS w' s :=
  zS_eq 8 (by decide) (fun i i1 i2 => by
    show (if zb s i then w i else 0) = if zb s i then w' i else 0
    by_cases z : zb s i
    · rw [if_pos z, if_pos z]; exact h i i1 i2 z
    · rw [if_neg z, if_neg z])
theorem zS_add {f g : Int → Int} (n : Int) (hn : 0 ≤ n) : zS (fun i => f i + g i) n = zS f n + zS g n := by
  refine zloopI (i := 0) (I := fun n => zS (fun i => f i + g i) n = zS f n + zS g n) (P := fun _ => zS (fun i => f i + g i) n = zS f n + zS g n) n hn rfl ?_ (fun q => q) (fun _ _ _ _ q => q)
  intro j h1 h2 hi
  rw [zS_s h1, zS_s h1, zS_s h1, hi]
  omega
theorem zMS_xor {w : Int → Int} {q s : Int} (hs : 0 ≤ s ∧ s < 256) (h : zPr q s) : zMS w s = zMS w q + zMS w (gxor s q) := by
  unfold zMS
  rw [← zS_add 8 (by decide)]
  refine zS_eq 8 (by decide) (fun i i1 i2 => ?_)
  have k := (zPr_xor hs h).2 i i1 i2
  show (if zb s i then w i else 0) = (if zb q i then w i else 0) + if zb (gxor s q) i then w i else 0
  by_cases y : zb q i
  · rw [if_pos y, if_pos (h.2 i i1 i2 y), if_neg (fun z => (k.1 z).2 y), Int.add_zero]
  · by_cases z : zb s i
    · rw [if_pos z, if_neg y, if_pos (k.2 ⟨z, y⟩), Int.zero_add]
    · rw [if_neg z, if_neg y, if_neg (fun x => z (k.1 x).1)]; rfl
theorem zMS_b {w : Int → Int} {s c d : Int} (h : ∀ j, 0 ≤ j → j < 8 → zb s j → -d ≤ w j ∧ w j ≤ c) (hc : 0 ≤ c) (hd : 0 ≤ d) : -(d * 8) ≤ zMS w s ∧ zMS w s ≤ c * 8 := by
  have k : ∀ i, 0 ≤ i → i < 8 → -d ≤ (if zb s i then w i else 0) ∧ (if zb s i then w i else 0) ≤ c := fun i i1 i2 => by
    by_cases z : zb s i
    · rw [if_pos z]; exact h i i1 i2 z
    · rw [if_neg z]; omega
  have w1 := zS_b (f := fun i => (if zb s i then w i else 0) + d) (c := c + d) 8 (fun i i1 i2 => by have := k i i1 i2; show 0 ≤ (if zb s i then w i else 0) + d ∧ (if zb s i then w i else 0) + d ≤ c + d; omega) (by decide) (by omega)
  have w2 := zS_add (f := fun i => if zb s i then w i else 0) (g := fun _ => d) 8 (by decide)
  have w3 : zS (fun _ => d) 8 = d * 8 := by
    have e : zS (fun _ => d) 8 = 0 + d + d + d + d + d + d + d + d := rfl
    rw [e]; omega
  have w4 : zS (fun i => (if zb s i then w i else 0) + d) 8 = zMS w s + d * 8 := by rw [w2, w3]; rfl
  rw [w4] at w1
  omega
