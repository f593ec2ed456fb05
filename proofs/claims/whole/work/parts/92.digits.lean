/-! DIGITS -/
theorem zpre4 {d : Int → Int} (t : Int) (h0 : 0 ≤ t) (h : t ≤ 15) : ∃ c, zS (fun i => d i * zP4 i) t = 4 * (zP4 t * c) := by
  refine zloopI (i := 0) (I := fun t => ∃ c, zS (fun i => d i * zP4 i) t = 4 * (zP4 t * c)) (P := fun _ => ∃ c, zS (fun i => d i * zP4 i) t = 4 * (zP4 t * c)) t h0 ⟨0, by rw [zS_0, Int.mul_zero]; rfl⟩ ?_ (fun q => q) (fun _ _ _ _ q => q)
  rintro j h1 h2 ⟨c, hc⟩
  refine ⟨4 * c + d j, ?_⟩
  rw [zS_s h1, hc, zP4_s (by omega)]
  have e1 : zP4 (j + 1) * (4 * c + d j) = 4 * (zP4 (j + 1) * c) + d j * zP4 (j + 1) := by rw [Int.mul_add, Int.mul_comm _ (d j), Int.mul_left_comm]
  have e2 : 4 * zP4 (j + 1) * c = 4 * (zP4 (j + 1) * c) := Int.mul_assoc _ _ _
  have e3 : d j * (4 * zP4 (j + 1)) = 4 * (d j * zP4 (j + 1)) := Int.mul_left_comm _ _ _
  rw [e1, e2, e3]
  omega
theorem zdig4 {d : Int → Int} {t T : Int} (hd : ∀ i, 0 ≤ i → i < T → 0 ≤ d i ∧ d i ≤ 3) (hT : T ≤ 16) (h0 : 0 ≤ t ∧ t < T) : ∃ c R, zS (fun i => d i * zP4 i) T = zP4 t * (4 * c + d t) + R ∧ 0 ≤ R ∧ R < zP4 t := by
  obtain ⟨c, hc⟩ := zpre4 (d := d) t h0.1 (by omega)
  have key : ∃ R, zS (fun i => d i * zP4 i) T = zP4 t * (4 * c + d t) + R ∧ 0 ≤ R ∧ R + zP4 (T - 1) ≤ zP4 t := by
    refine zloopI (i := t + 1) (I := fun m => ∃ R, zS (fun i => d i * zP4 i) m = zP4 t * (4 * c + d t) + R ∧ 0 ≤ R ∧ R + zP4 (m - 1) ≤ zP4 t) (P := fun _ => ∃ R, zS (fun i => d i * zP4 i) T = zP4 t * (4 * c + d t) + R ∧ 0 ≤ R ∧ R + zP4 (T - 1) ≤ zP4 t) T (by omega) ⟨0, ?_, by decide, ?_⟩ ?_ (fun q => q) (fun _ _ _ _ q => q)
    · rw [zS_s h0.1, hc, Int.add_zero, Int.mul_add, Int.mul_comm _ (d t), Int.mul_left_comm (zP4 t)]
    · rw [show t + 1 - 1 = t from by omega]; omega
    · rintro j h1 h2 ⟨R, r1, r2, r3⟩
      have w := hd j (by omega) h2
      have p := zP4_0 j
      have e := zP4_s (t := j - 1) (by omega)
      rw [show j - 1 + 1 = j from by omega] at e
      have m1 : d j * zP4 j ≤ 3 * zP4 j := Int.mul_le_mul_of_nonneg_right w.2 (by omega)
      have m0 : 0 ≤ d j * zP4 j := Int.mul_nonneg w.1 (by omega)
      refine ⟨R + d j * zP4 j, ?_, by omega, ?_⟩
      · rw [zS_s (by omega), r1]; omega
      · rw [show j + 1 - 1 = j from by omega]; omega
  obtain ⟨R, r1, r2, r3⟩ := key
  have p := zP4_0 (T - 1)
  exact ⟨c, R, r1, r2, by omega⟩
theorem zpw4 {t : Int} (h : 0 ≤ t ∧ t ≤ 15) : ∃ c, (4294967296 : Int) = zP4 t * (4 * c) := by
  have k : ∀ i : Fin 16, (4294967296 : Int) = zP4 (i.val : Int) * (4 * (4 : Int) ^ i.val) := by decide +kernel
  have := k ⟨t.toNat, by omega⟩
  rw [show ((t.toNat : Nat) : Int) = t from by omega] at this
  exact ⟨_, this⟩
theorem zdigd4 {d : Int → Int} {t T W : Int} (hd : ∀ i, 0 ≤ i → i < T → 0 ≤ d i ∧ d i ≤ 3) (hT : T ≤ 16) (h0 : 0 ≤ t ∧ t < T) : (W * 4294967296 + zS (fun i => d i * zP4 i) T) / zP4 t % 4 = d t := by
  obtain ⟨c, R, r1, r2, r3⟩ := zdig4 hd hT h0
  obtain ⟨q, hq⟩ := zpw4 (t := t) (by omega)
  have p := zP4_0 t
  have w := hd t h0.1 h0.2
  have e : W * 4294967296 + zS (fun i => d i * zP4 i) T = R + zP4 t * (4 * (W * q + c) + d t) := by
    rw [r1, hq]
    have e1 : W * (zP4 t * (4 * q)) = zP4 t * (4 * (W * q)) := by rw [Int.mul_left_comm, Int.mul_left_comm W]
    have e2 : zP4 t * (4 * (W * q + c) + d t) = zP4 t * (4 * (W * q)) + zP4 t * (4 * c + d t) := by rw [← Int.mul_add]; congr 1; rw [Int.mul_add]; omega
    rw [e1, e2]
    omega
  rw [e, Int.add_mul_ediv_left _ _ (by omega), Int.ediv_eq_zero_of_lt r2 r3]
  omega
theorem zsum4 {d : Int → Int} {T : Int} (hd : ∀ i, 0 ≤ i → i < T → 0 ≤ d i ∧ d i ≤ 3) (hT : 0 ≤ T ∧ T ≤ 16) : 0 ≤ zS (fun i => d i * zP4 i) T ∧ zS (fun i => d i * zP4 i) T < 4294967296 := by
  have key : 0 ≤ zS (fun i => d i * zP4 i) T ∧ (0 < T → zS (fun i => d i * zP4 i) T + zP4 (T - 1) ≤ 4294967296) := by
    refine zloopI (i := 0) (I := fun T => 0 ≤ zS (fun i => d i * zP4 i) T ∧ (0 < T → zS (fun i => d i * zP4 i) T + zP4 (T - 1) ≤ 4294967296)) (P := fun _ => 0 ≤ zS (fun i => d i * zP4 i) T ∧ (0 < T → zS (fun i => d i * zP4 i) T + zP4 (T - 1) ≤ 4294967296)) T hT.1 ⟨by rw [zS_0]; decide, fun z => by omega⟩ ?_ (fun q => q) (fun _ _ _ _ q => q)
    rintro j h1 h2 ⟨r1, r2⟩
    have w := hd j h1 h2
    have p := zP4_0 j
    have m1 : d j * zP4 j ≤ 3 * zP4 j := Int.mul_le_mul_of_nonneg_right w.2 (by omega)
    have m0 : 0 ≤ d j * zP4 j := Int.mul_nonneg w.1 (by omega)
    rw [zS_s h1]
    refine ⟨by omega, fun _ => ?_⟩
    rw [show j + 1 - 1 = j from by omega]
    by_cases z : j = 0
    · subst z
      have e0 : zP4 0 * 4 = 4294967296 := by decide +kernel
      rw [zS_0]
      omega
    · have e := zP4_s (t := j - 1) (by omega)
      rw [show j - 1 + 1 = j from by omega] at e
      have := r2 (by omega)
      omega
  refine ⟨key.1, ?_⟩
  by_cases z : 0 < T
  · have := key.2 z
    have p := zP4_0 (T - 1)
    omega
  · rw [show T = 0 from by omega, zS_0]
    decide
theorem zpre8 {d : Int → Int} (t : Int) (h0 : 0 ≤ t) (h : t ≤ 15) : ∃ c, zS (fun i => d i * zP8 i) t = 8 * (zP8 t * c) := by
  refine zloopI (i := 0) (I := fun t => ∃ c, zS (fun i => d i * zP8 i) t = 8 * (zP8 t * c)) (P := fun _ => ∃ c, zS (fun i => d i * zP8 i) t = 8 * (zP8 t * c)) t h0 ⟨0, by rw [zS_0, Int.mul_zero]; rfl⟩ ?_ (fun q => q) (fun _ _ _ _ q => q)
  rintro j h1 h2 ⟨c, hc⟩
  refine ⟨8 * c + d j, ?_⟩
  rw [zS_s h1, hc, zP8_s (by omega)]
  have e1 : zP8 (j + 1) * (8 * c + d j) = 8 * (zP8 (j + 1) * c) + d j * zP8 (j + 1) := by rw [Int.mul_add, Int.mul_comm _ (d j), Int.mul_left_comm]
  have e2 : 8 * zP8 (j + 1) * c = 8 * (zP8 (j + 1) * c) := Int.mul_assoc _ _ _
  have e3 : d j * (8 * zP8 (j + 1)) = 8 * (d j * zP8 (j + 1)) := Int.mul_left_comm _ _ _
  rw [e1, e2, e3]
  omega
theorem zdig8 {d : Int → Int} {t T : Int} (hd : ∀ i, 0 ≤ i → i < T → 0 ≤ d i ∧ d i ≤ 7) (hT : T ≤ 16) (h0 : 0 ≤ t ∧ t < T) : ∃ c R, zS (fun i => d i * zP8 i) T = zP8 t * (8 * c + d t) + R ∧ 0 ≤ R ∧ R < zP8 t := by
  obtain ⟨c, hc⟩ := zpre8 (d := d) t h0.1 (by omega)
  have key : ∃ R, zS (fun i => d i * zP8 i) T = zP8 t * (8 * c + d t) + R ∧ 0 ≤ R ∧ R + zP8 (T - 1) ≤ zP8 t := by
    refine zloopI (i := t + 1) (I := fun m => ∃ R, zS (fun i => d i * zP8 i) m = zP8 t * (8 * c + d t) + R ∧ 0 ≤ R ∧ R + zP8 (m - 1) ≤ zP8 t) (P := fun _ => ∃ R, zS (fun i => d i * zP8 i) T = zP8 t * (8 * c + d t) + R ∧ 0 ≤ R ∧ R + zP8 (T - 1) ≤ zP8 t) T (by omega) ⟨0, ?_, by decide, ?_⟩ ?_ (fun q => q) (fun _ _ _ _ q => q)
    · rw [zS_s h0.1, hc, Int.add_zero, Int.mul_add, Int.mul_comm _ (d t), Int.mul_left_comm (zP8 t)]
    · rw [show t + 1 - 1 = t from by omega]; omega
    · rintro j h1 h2 ⟨R, r1, r2, r3⟩
      have w := hd j (by omega) h2
      have p := zP8_0 j
      have e := zP8_s (t := j - 1) (by omega)
      rw [show j - 1 + 1 = j from by omega] at e
      have m1 : d j * zP8 j ≤ 7 * zP8 j := Int.mul_le_mul_of_nonneg_right w.2 (by omega)
      have m0 : 0 ≤ d j * zP8 j := Int.mul_nonneg w.1 (by omega)
      refine ⟨R + d j * zP8 j, ?_, by omega, ?_⟩
      · rw [zS_s (by omega), r1]; omega
      · rw [show j + 1 - 1 = j from by omega]; omega
  obtain ⟨R, r1, r2, r3⟩ := key
  have p := zP8_0 (T - 1)
  exact ⟨c, R, r1, r2, by omega⟩
theorem zpw8 {t : Int} (h : 0 ≤ t ∧ t ≤ 15) : ∃ c, (281474976710656 : Int) = zP8 t * (8 * c) := by
  have k : ∀ i : Fin 16, (281474976710656 : Int) = zP8 (i.val : Int) * (8 * (8 : Int) ^ i.val) := by decide +kernel
  have := k ⟨t.toNat, by omega⟩
  rw [show ((t.toNat : Nat) : Int) = t from by omega] at this
  exact ⟨_, this⟩
theorem zdigd8 {d : Int → Int} {t T W : Int} (hd : ∀ i, 0 ≤ i → i < T → 0 ≤ d i ∧ d i ≤ 7) (hT : T ≤ 16) (h0 : 0 ≤ t ∧ t < T) : (W * 281474976710656 + zS (fun i => d i * zP8 i) T) / zP8 t % 8 = d t := by
  obtain ⟨c, R, r1, r2, r3⟩ := zdig8 hd hT h0
  obtain ⟨q, hq⟩ := zpw8 (t := t) (by omega)
  have p := zP8_0 t
  have w := hd t h0.1 h0.2
  have e : W * 281474976710656 + zS (fun i => d i * zP8 i) T = R + zP8 t * (8 * (W * q + c) + d t) := by
    rw [r1, hq]
    have e1 : W * (zP8 t * (8 * q)) = zP8 t * (8 * (W * q)) := by rw [Int.mul_left_comm, Int.mul_left_comm W]
    have e2 : zP8 t * (8 * (W * q + c) + d t) = zP8 t * (8 * (W * q)) + zP8 t * (8 * c + d t) := by rw [← Int.mul_add]; congr 1; rw [Int.mul_add]; omega
    rw [e1, e2]
    omega
  rw [e, Int.add_mul_ediv_left _ _ (by omega), Int.ediv_eq_zero_of_lt r2 r3]
  omega
theorem zsum8 {d : Int → Int} {T : Int} (hd : ∀ i, 0 ≤ i → i < T → 0 ≤ d i ∧ d i ≤ 7) (hT : 0 ≤ T ∧ T ≤ 16) : 0 ≤ zS (fun i => d i * zP8 i) T ∧ zS (fun i => d i * zP8 i) T < 281474976710656 := by
  have key : 0 ≤ zS (fun i => d i * zP8 i) T ∧ (0 < T → zS (fun i => d i * zP8 i) T + zP8 (T - 1) ≤ 281474976710656) := by
    refine zloopI (i := 0) (I := fun T => 0 ≤ zS (fun i => d i * zP8 i) T ∧ (0 < T → zS (fun i => d i * zP8 i) T + zP8 (T - 1) ≤ 281474976710656)) (P := fun _ => 0 ≤ zS (fun i => d i * zP8 i) T ∧ (0 < T → zS (fun i => d i * zP8 i) T + zP8 (T - 1) ≤ 281474976710656)) T hT.1 ⟨by rw [zS_0]; decide, fun z => by omega⟩ ?_ (fun q => q) (fun _ _ _ _ q => q)
    rintro j h1 h2 ⟨r1, r2⟩
    have w := hd j h1 h2
    have p := zP8_0 j
    have m1 : d j * zP8 j ≤ 7 * zP8 j := Int.mul_le_mul_of_nonneg_right w.2 (by omega)
    have m0 : 0 ≤ d j * zP8 j := Int.mul_nonneg w.1 (by omega)
    rw [zS_s h1]
    refine ⟨by omega, fun _ => ?_⟩
    rw [show j + 1 - 1 = j from by omega]
    by_cases z : j = 0
    · subst z
      have e0 : zP8 0 * 8 = 281474976710656 := by decide +kernel
      rw [zS_0]
      omega
    · have e := zP8_s (t := j - 1) (by omega)
      rw [show j - 1 + 1 = j from by omega] at e
      have := r2 (by omega)
      omega
  refine ⟨key.1, ?_⟩
  by_cases z : 0 < T
  · have := key.2 z
    have p := zP8_0 (T - 1)
    omega
  · rw [show T = 0 from by omega, zS_0]
    decide
