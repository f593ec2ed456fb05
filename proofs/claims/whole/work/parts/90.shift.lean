/-! SHIFTS and masks of numbers -/
theorem zlsh {x y : Nat} (hy : y < 64) (h : x * 2 ^ y < 2 ^ 63) : glshl (x : Int) (y : Int) = ((x * 2 ^ y : Nat) : Int) := by
  have hc : ((Int32.ofInt ((y : Nat) : Int)).toInt64 &&& 63) = Int64.ofNat y := (by decide +kernel : ∀ k : Nat, k < 64 → ((Int32.ofInt (k : Int)).toInt64 &&& 63) = Int64.ofNat k) y hy
  unfold glshl
  rw [hc, Int64.ofInt_eq_ofNat]
  have e : Int64.ofNat x <<< Int64.ofNat y = Int64.ofNat (x * 2 ^ y) := by
    apply Int64.toBitVec_inj.mp
    rw [Int64.toBitVec_shiftLeft]
    show BitVec.ofNat 64 x <<< (BitVec.ofNat 64 y).smod 64 = BitVec.ofNat 64 (x * 2 ^ y)
    rw [(by decide +kernel : ∀ k : Nat, k < 64 → (BitVec.ofNat 64 k).smod 64 = BitVec.ofNat 64 k) y hy]
    apply BitVec.eq_of_toNat_eq
    rw [BitVec.shiftLeft_eq', BitVec.toNat_shiftLeft, BitVec.toNat_ofNat, BitVec.toNat_ofNat, BitVec.toNat_ofNat, Nat.mod_eq_of_lt (show y < 2 ^ 64 by omega), Nat.shiftLeft_eq, Nat.mul_mod, Nat.mod_mod, ← Nat.mul_mod]
  rw [e]
  exact lg_ofNat_toInt h
theorem zlshr {x y : Nat} (hy : y < 64) (h : x < 2 ^ 62) : glshr (x : Int) (y : Int) = ((x / 2 ^ y : Nat) : Int) := by
  have hc : ((Int32.ofInt ((y : Nat) : Int)).toInt64 &&& 63) = Int64.ofNat y := (by decide +kernel : ∀ k : Nat, k < 64 → ((Int32.ofInt (k : Int)).toInt64 &&& 63) = Int64.ofNat k) y hy
  have hD : ((Int64.ofNat y).toBitVec.smod 64).toNat = y := (by decide +kernel : ∀ k : Nat, k < 64 → ((Int64.ofNat k).toBitVec.smod 64).toNat = k) y hy
  unfold glshr
  rw [hc, Int64.ofInt_eq_ofNat]
  have e : (Int64.ofNat x >>> Int64.ofNat y).toInt = (Int64.ofNat x).toInt >>> y := by
    have k : (Int64.ofNat x >>> Int64.ofNat y).toInt = (Int64.ofNat x).toInt >>> ((Int64.ofNat y).toBitVec.smod 64).toNat := BitVec.toInt_sshiftRight ..
    rw [k, hD]
  have ex : (Int64.ofNat x).toInt = (x : Int) := lg_ofNat_toInt (by omega)
  rw [e, ex, Int.shiftRight_eq_div_pow]
  rfl
theorem zgmask {x : Int} {p : Nat} (hp : p = 2 ∨ p = 3) : gand (w32 x) (((2 ^ p - 1 : Nat) : Int)) = x % ((2 ^ p : Nat) : Int) := by
  have ew : Int32.ofInt (w32 x) = Int32.ofInt x := (ofI_eq (w32_in x) (w32_of x)).symm
  have hb : (Int32.ofInt x).toBitVec.toNat = (x % ((2 ^ 32 : Nat) : Int)).toNat := BitVec.toNat_ofInt ..
  unfold gand
  rw [ew]
  rcases hp with q | q <;> subst q
  · rw [pk_and (Int32.ofInt x) 2 (by decide)]
    show (Int32.ofNat ((Int32.ofInt x).toBitVec.toNat % 2 ^ 2)).toInt = _
    rw [hb, ← Int32.ofInt_eq_ofNat, w32_of, w32_id ⟨by omega, by omega⟩]
    omega
  · rw [pk_and (Int32.ofInt x) 3 (by decide)]
    show (Int32.ofNat ((Int32.ofInt x).toBitVec.toNat % 2 ^ 3)).toInt = _
    rw [hb, ← Int32.ofInt_eq_ofNat, w32_of, w32_id ⟨by omega, by omega⟩]
    omega
theorem zg3 {x : Int} : gand (w32 x) 3 = x % 4 := zgmask (p := 2) (Or.inl rfl)
theorem zg7 {x : Int} : gand (w32 x) 7 = x % 8 := zgmask (p := 3) (Or.inr rfl)
theorem zshl1 {j : Int} (h : 0 ≤ j ∧ j ≤ 8) : gshl 1 j = zp2 j := by
  have k : ∀ i : Fin 9, gshl 1 (i.val : Int) = zp2 (i.val : Int) := by decide +kernel
  have := k ⟨j.toNat, by omega⟩
  rw [show ((j.toNat : Nat) : Int) = j from by omega] at this
  exact this
theorem zP4_2 {t : Int} (h : 0 ≤ t ∧ t ≤ 15) : zP4 t = ((2 ^ (2 * (15 - t)).toNat : Nat) : Int) := by
  have k : ∀ i : Fin 16, zP4 (i.val : Int) = ((2 ^ (2 * (15 - (i.val : Int))).toNat : Nat) : Int) := by decide +kernel
  have := k ⟨t.toNat, by omega⟩
  rw [show ((t.toNat : Nat) : Int) = t from by omega] at this
  exact this
theorem zP8_2 {t : Int} (h : 0 ≤ t ∧ t ≤ 15) : zP8 t = ((2 ^ (3 * (15 - t)).toNat : Nat) : Int) := by
  have k : ∀ i : Fin 16, zP8 (i.val : Int) = ((2 ^ (3 * (15 - (i.val : Int))).toNat : Nat) : Int) := by decide +kernel
  have := k ⟨t.toNat, by omega⟩
  rw [show ((t.toNat : Nat) : Int) = t from by omega] at this
  exact this
theorem zP4_b {t : Int} (h : 0 ≤ t ∧ t ≤ 15) : 1 ≤ zP4 t ∧ zP4 t ≤ 1073741824 := by
  have k : ∀ i : Fin 16, 1 ≤ zP4 (i.val : Int) ∧ zP4 (i.val : Int) ≤ 1073741824 := by decide +kernel
  have := k ⟨t.toNat, by omega⟩
  rw [show ((t.toNat : Nat) : Int) = t from by omega] at this
  exact this
theorem zP8_b {t : Int} (h : 0 ≤ t ∧ t ≤ 15) : 1 ≤ zP8 t ∧ zP8 t ≤ 35184372088832 := by
  have k : ∀ i : Fin 16, 1 ≤ zP8 (i.val : Int) ∧ zP8 (i.val : Int) ≤ 35184372088832 := by decide +kernel
  have := k ⟨t.toNat, by omega⟩
  rw [show ((t.toNat : Nat) : Int) = t from by omega] at this
  exact this
/-- shifted left, as ints -/
theorem zlshI {x s P : Int} (hx : 0 ≤ x) (hs : 0 ≤ s ∧ s < 64) (hP : P = ((2 ^ s.toNat : Nat) : Int)) (h : x * P < 9223372036854775808) : glshl x s = x * P := by
  obtain ⟨x, rfl⟩ : ∃ k : Nat, x = k := ⟨x.toNat, by omega⟩
  obtain ⟨s, rfl⟩ : ∃ k : Nat, s = k := ⟨s.toNat, by omega⟩
  rw [Int.toNat_natCast] at hP
  have e : (x : Int) * P = ((x * 2 ^ s : Nat) : Int) := by rw [hP, Int.natCast_mul]
  rw [e] at h ⊢
  exact zlsh (by omega) (by omega)
theorem zlshrI {x s P : Int} (hx : 0 ≤ x ∧ x < 4611686018427387904) (hs : 0 ≤ s ∧ s < 64) (hP : P = ((2 ^ s.toNat : Nat) : Int)) : glshr x s = x / P := by
  obtain ⟨x, rfl⟩ : ∃ k : Nat, x = k := ⟨x.toNat, by omega⟩
  obtain ⟨s, rfl⟩ : ∃ k : Nat, s = k := ⟨s.toNat, by omega⟩
  rw [Int.toNat_natCast] at hP
  rw [zlshr (by omega) (by omega), hP, Int.natCast_ediv]
