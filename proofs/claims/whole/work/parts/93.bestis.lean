/-! THE PLAN BY BEST as the class finds it is BEST -/
theorem zS_lin {f g : Int → Int} {c : Int} (n : Int) (hn : 0 ≤ n) : zS (fun i => f i * c + g i) n = zS f n * c + zS g n := by
  refine zloopI (i := 0) (I := fun n => zS (fun i => f i * c + g i) n = zS f n * c + zS g n) (P := fun _ => zS (fun i => f i * c + g i) n = zS f n * c + zS g n) n hn (by rw [zS_0, zS_0, zS_0, Int.zero_mul]; rfl) ?_ (fun q => q) (fun _ _ _ _ q => q)
  intro j h1 h2 hi
  rw [zS_s h1, zS_s h1, zS_s h1, hi, Int.add_mul]
  omega
theorem zDo_s {A : zA} {F O : Int → Int} {k n q : Int} (hE : zEnum (zJb A) (zDue A) (A 785 0) n O) (hg : ∀ u, 0 ≤ u → u < A 785 0 → zGv A F k u → zJb A u) (hq : ∀ j, 0 ≤ j → j < n → (zb q j ↔ F (O j) = k)) : zDo A F k ↔ zDs A O n k q := by
  rw [zDo_O hE hg]
  have e : ∀ i, 0 ≤ i → i < n → zS (zWl A F k O) i = zS (fun j => if zb q j then zLen A (O j) else 0) i := fun i i1 i2 => zS_eq i i1 (fun j j1 j2 => by
    show (if F (O j) = k then zLen A (O j) else 0) = if zb q j then zLen A (O j) else 0
    have w := hq j j1 (by omega)
    by_cases z : zb q j
    · rw [if_pos z, if_pos (w.1 z)]
    · rw [if_neg z, if_neg (fun y => z (w.2 y))])
  constructor
  · intro h i i1 i2 i3
    have w := h i i1 i2 ((hq i i1 i2).1 i3)
    rw [e i i1 i2] at w
    exact w
  · intro h i i1 i2 i3
    have w := h i i1 i2 ((hq i i1 i2).2 i3)
    rw [e i i1 i2]
    exact w
/-- worth and digits of a giving that gives jobs alone -/
theorem zW_O {A : zA} {F O : Int → Int} {n : Int} (hE : zEnum (zJb A) (zDue A) (A 785 0) n O) (hF : ∀ t, 0 ≤ t → t < A 785 0 → F t ≠ -1 → zJb A t) : zW A F * 4294967296 + zTt A F = zS (fun j => if F (O j) = -1 then 0 else zSc A O (F (O j)) j) n := by
  have h0 : 0 ≤ A 785 0 := by have := hE.1; omega
  unfold zW zTt
  rw [← zS_lin _ h0]
  have e : zS (fun j => if F (O j) = -1 then 0 else zSc A O (F (O j)) j) n = zS (fun t => if zJb A t then (if F t = -1 then 0 else A 8 t * 4294967296 + (3 - F t) * zP4 t) else 0) (A 785 0) := zEnum_all hE (fun t => if F t = -1 then 0 else A 8 t * 4294967296 + (3 - F t) * zP4 t)
  rw [e]
  refine zS_eq _ h0 (fun t t1 t2 => ?_)
  show (if F t = -1 then 0 else A 8 t) * 4294967296 + zDg (F t) * zP4 t = if zJb A t then (if F t = -1 then 0 else A 8 t * 4294967296 + (3 - F t) * zP4 t) else 0
  unfold zDg
  by_cases z : F t = -1
  · rw [if_pos z, if_pos z, if_pos z, Int.zero_mul, Int.zero_mul]
    split <;> rfl
  · rw [if_neg z, if_neg z, if_neg z, if_pos (hF t t1 t2 z)]
theorem zVk_of {A : zA} {F O : Int → Int} {n : Int} (hB : zB 512 A) (hE : zEnum (zJb A) (zDue A) (A 785 0) n O) (hn : n ≤ 8) (h : zVd A F) : ∃ s, (0 ≤ s ∧ s < zp2 n) ∧ zVk A O n (A 786 0) s (zW A F * 4294967296 + zTt A F) := by
  have n0 := hE.1.1
  have bt : 0 ≤ A 786 0 ∧ A 786 0 ≤ 3 := hB 786 0
  have hJ : ∀ k, 0 ≤ k → k < A 786 0 → ∀ u, 0 ≤ u → u < A 785 0 → zGv A F k u → zJb A u := fun k k1 k2 u u1 u2 z => ⟨z.2, (h.2 k k1 k2 u u1 u2 z).1.1⟩
  have hF : ∀ t, 0 ≤ t → t < A 785 0 → F t ≠ -1 → zJb A t := fun t t1 t2 z => by
    rcases h.1 t t1 t2 with w | w
    · exact absurd w z
    · exact hJ (F t) w.2.1 w.2.2 t t1 t2 ⟨rfl, w.1⟩
  obtain ⟨s, hs, hb⟩ := zmk (fun j => F (O j) ≠ -1) n.toNat
  rw [show ((n.toNat : Nat) : Int) = n from by omega] at hs hb
  have gj : ∀ j, n ≤ j → ¬ zb s j := fun j j1 => zb_hi hs j1
  refine ⟨s, hs, fun j => if j < n then F (O j) else -1, fun j j1 j2 => ⟨fun z => ?_, fun z => ?_⟩, fun i i1 i2 q q1 q2 hq => ?_, ?_⟩
  · have jn : j < n := by
      by_cases y : j < n
      · exact y
      · exact absurd z (gj j (by omega))
    show 0 ≤ (if j < n then F (O j) else -1) ∧ (if j < n then F (O j) else -1) < A 786 0
    rw [if_pos jn]
    have o := (hE.2.1 j j1 jn).1
    rcases h.1 (O j) o.1 o.2 with w | w
    · exact absurd w ((hb j j1 jn).1 z)
    · exact w.2
  · show (if j < n then F (O j) else -1) = -1
    by_cases y : j < n
    · rw [if_pos y]
      by_cases x : F (O j) = -1
      · exact x
      · exact absurd ((hb j j1 y).2 x) z
    · rw [if_neg y]
  · refine (zDo_s hE (hJ i i1 i2) (fun j j1 j2 => ?_)).1 (h.2 i i1 i2)
    rw [hq j j1 (by omega)]
    show (if j < n then F (O j) else -1) = i ↔ F (O j) = i
    rw [if_pos j2]
  · rw [zW_O hE hF, zMS_n ⟨n0, hn⟩ hs]
    refine zS_eq n n0 (fun j j1 j2 => ?_)
    show (if F (O j) = -1 then 0 else zSc A O (F (O j)) j) = if zb s j then zSc A O (if j < n then F (O j) else -1) j else 0
    rw [if_pos j2]
    have w := hb j j1 j2
    by_cases z : F (O j) = -1
    · rw [if_pos z, if_neg (fun y => (w.1 y) z)]
    · rw [if_neg z, if_pos (w.2 z)]
/-- a giving by things out of one by places in an order -/
theorem zFo {P : Int → Prop} {D O : Int → Int} {T n : Int} (hE : zEnum P D T n O) (g : Int → Int) : ∃ F : Int → Int, (∀ j, 0 ≤ j → j < n → F (O j) = g j) ∧ ∀ t, (∀ j, 0 ≤ j → j < n → O j ≠ t) → F t = -1 := by
  have n0 := hE.1.1
  have z0 : zS (fun _ => (0 : Int)) n = 0 := by
    have := zS_b (f := fun _ => (0 : Int)) (c := 0) n (fun i _ _ => ⟨Int.le_refl 0, Int.le_refl 0⟩) n0 (by decide)
    omega
  refine ⟨fun t => zS (fun j => if O j = t then g j + 1 else 0) n - 1, fun j j1 j2 => ?_, fun t ht => ?_⟩
  · show zS (fun i => if O i = O j then g i + 1 else 0) n - 1 = g j
    rw [zS_at (f := fun i => if O i = O j then g i + 1 else 0) (g := fun _ => 0) ⟨j1, j2⟩ (fun i i1 i2 i3 => if_neg (fun z => i3 (zEnum_inj hE ⟨i1, i2⟩ ⟨j1, j2⟩ z))), z0]
    show 0 + ((if O j = O j then g j + 1 else 0) - 0) - 1 = g j
    rw [if_pos rfl]
    omega
  · show zS (fun j => if O j = t then g j + 1 else 0) n - 1 = -1
    rw [zS_eq (g := fun _ => 0) n n0 (fun i i1 i2 => if_neg (ht i i1 i2)), z0]
    rfl
theorem zVk_is {A : zA} {O : Int → Int} {n s v : Int} (hB : zB 512 A) (hE : zEnum (zJb A) (zDue A) (A 785 0) n O) (hn : n ≤ 8) (hs : 0 ≤ s ∧ s < zp2 n) (h : zVk A O n (A 786 0) s v) : ∃ F, zVd A F ∧ v = zW A F * 4294967296 + zTt A F ∧ ∀ u, zTh A u → ¬ zJb A u → F u = -1 := by
  have n0 := hE.1.1
  have bt : 0 ≤ A 786 0 ∧ A 786 0 ≤ 3 := hB 786 0
  obtain ⟨g, h1, h2, h3⟩ := h
  obtain ⟨F, f1, f2⟩ := zFo hE g
  have hN : ∀ u, zTh A u → ¬ zJb A u → F u = -1 := fun u u1 u2 => f2 u (fun j j1 j2 z => u2 (by rw [← z]; exact (hE.2.1 j j1 j2).2))
  have hF : ∀ t, 0 ≤ t → t < A 785 0 → F t ≠ -1 → zJb A t := fun t t1 t2 z => by
    by_cases y : zJb A t
    · exact y
    · exact absurd (hN t ⟨t1, t2⟩ y) z
  have hJ : ∀ k, 0 ≤ k → ∀ u, 0 ≤ u → u < A 785 0 → zGv A F k u → zJb A u := fun k k1 u u1 u2 z => hF u u1 u2 (by have := z.1; omega)
  have gs : ∀ j, 0 ≤ j → j < n → (zb s j ↔ g j ≠ -1) := fun j j1 j2 => by
    have w := h1 j j1 (by omega)
    constructor
    · intro z; have := w.1 z; omega
    · intro z
      by_cases y : zb s j
      · exact y
      · exact absurd (w.2 y) z
  refine ⟨F, ⟨fun t t1 t2 => ?_, fun k k1 k2 => ?_⟩, ?_, hN⟩
  · by_cases z : zJb A t
    · obtain ⟨j, ⟨j1, j2⟩, rfl⟩ := hE.2.2.2 t t1 t2 z
      rw [f1 j j1 j2]
      by_cases y : zb s j
      · exact Or.inr ⟨z.1, (h1 j j1 (by omega)).1 y⟩
      · exact Or.inl ((h1 j j1 (by omega)).2 y)
    · exact Or.inl (hN t ⟨t1, t2⟩ z)
  · obtain ⟨q, hq, hb⟩ := zmk (fun j => g j = k) n.toNat
    rw [show ((n.toNat : Nat) : Int) = n from by omega] at hq hb
    refine (zDo_s hE (hJ k k1) (fun j j1 j2 => ?_)).2 (h2 k k1 k2 q hq.1 hq.2 (fun j j1 j2 => ?_))
    · rw [hb j j1 j2, f1 j j1 j2]
    · by_cases y : j < n
      · exact hb j j1 y
      · refine ⟨fun z => absurd z (zb_hi hq (by omega)), fun z => ?_⟩
        have := (h1 j j1 j2).2 (zb_hi hs (by omega))
        omega
  · rw [h3, zW_O hE hF, zMS_n ⟨n0, hn⟩ hs]
    refine zS_eq n n0 (fun j j1 j2 => ?_)
    show (if zb s j then zSc A O (g j) j else 0) = if F (O j) = -1 then 0 else zSc A O (F (O j)) j
    rw [f1 j j1 j2]
    have w := gs j j1 j2
    by_cases z : zb s j
    · rw [if_pos z, if_neg (w.1 z)]
    · rw [if_neg z]
      by_cases y : g j = -1
      · rw [if_pos y]
      · exact absurd (w.2 y) z
theorem zTt_b {A : zA} {F : Int → Int} (hB : zB 512 A) (h : zVd A F) : 0 ≤ zTt A F ∧ zTt A F < 4294967296 := by
  have bt : 0 ≤ A 786 0 ∧ A 786 0 ≤ 3 := hB 786 0
  exact zsum4 (d := fun t => zDg (F t)) (zVd_dg bt.2 h) (hB 785 0)
/-- the greatest number is BEST's -/
theorem zBest_is {A : zA} {O : Int → Int} {n v : Int} (hB : zB 512 A) (hE : zEnum (zJb A) (zDue A) (A 785 0) n O) (hn : n ≤ 8) (h1 : ∃ s, (0 ≤ s ∧ s < zp2 n) ∧ zVk A O n (A 786 0) s v) (h2 : ∀ s x, 0 ≤ s → s < zp2 n → zVk A O n (A 786 0) s x → x ≤ v) : (∀ t, zTh A t → v / zP4 t % 4 = zDg ((zBest A).1 t)) ∧ v / 4294967296 = (zBest A).2 ∧ (∀ u, zTh A u → ¬ zJb A u → (zBest A).1 u = -1) ∧ (∀ t, zTh A t → (zBest A).1 t = -1 ∨ (0 ≤ (zBest A).1 t ∧ (zBest A).1 t < 3)) ∧ 0 ≤ v ∧ v < 8796093022208 := by
  have b0 : 0 ≤ A 785 0 ∧ A 785 0 ≤ 16 := hB 785 0
  have bt : 0 ≤ A 786 0 ∧ A 786 0 ≤ 3 := hB 786 0
  obtain ⟨s, hs, hv⟩ := h1
  obtain ⟨F, f1, f2, f3⟩ := zVk_is hB hE hn hs hv
  have bF := zTt_b hB f1
  have iB : zIsB A F := ⟨f1, fun E hE2 => by
    obtain ⟨s', hs', hv'⟩ := zVk_of hB hE hn hE2
    have w := h2 s' _ hs'.1 hs'.2 hv'
    have bE := zTt_b hB hE2
    omega⟩
  have u := zBest_u b0.2 bt.2 iB
  have bW := zW_b (F := F) hB
  have dg := zVd_dg bt.2 f1
  refine ⟨fun t ht => ?_, ?_, fun t t1 t2 => ?_, fun t ht => ?_, by omega, by omega⟩
  · rw [f2, ← u.1 t ht.1 ht.2]
    exact zdigd4 (d := fun t => zDg (F t)) dg b0.2 ht
  · rw [← u.2]
    omega
  · rw [← u.1 t t1.1 t1.2]; exact f3 t t1 t2
  · rw [← u.1 t ht.1 ht.2]
    rcases f1.1 t ht.1 ht.2 with w | w
    · exact Or.inl w
    · exact Or.inr (by omega)
