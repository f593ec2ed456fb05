/-! THE SPREAD as the class finds it is THE SPREAD -/
theorem zRm_e {A : zA} {p : Int} (hB : zB 512 A) (hp : 0 ≤ p ∧ p < 100) : zRm A p = zLf A p := by
  have b0 : 0 ≤ A 785 0 ∧ A 785 0 ≤ 16 := hB 785 0
  have e : zUsed A p = zTak A p (A 785 0) + zS (fun t => if zMv A t ∧ A 11 t = 400 + p then A 9 t else 0) (A 785 0) := by
    unfold zUsed zTak
    rw [← zS_add _ b0.1]
    refine zS_eq _ b0.1 (fun t t1 t2 => ?_)
    show (if A 11 t = 400 + p then A 9 t else 0) = (if zSy A t ∧ A 11 t = 400 + p then A 9 t else 0) + if zMv A t ∧ A 11 t = 400 + p then A 9 t else 0
    by_cases w : A 11 t = 400 + p
    · rw [if_pos w]
      by_cases g : zAt A t ∧ zGood A (A 11 t - 400) (A 7 t)
      · rw [if_pos ⟨g, w⟩, if_neg (fun z => z.1.elim (fun y => by have := g.1.1; omega) (fun y => y.2 g.2)), Int.add_zero]
      · rw [if_neg (fun z => g z.1)]
        by_cases a : zMv A t
        · rw [if_pos ⟨a, w⟩, Int.zero_add]
        · have at1 : zAt A t := ⟨by omega, by omega⟩
          exact absurd (Or.inr ⟨at1, fun y => g ⟨at1, y⟩⟩) a
    · rw [if_neg w, if_neg (fun z => w z.2), if_neg (fun z => w z.2)]
      rfl
  unfold zRm zLf
  rw [e]
  omega
theorem zS_neg {f : Int → Int} (n : Int) (hn : 0 ≤ n) : zS (fun i => -f i) n = -zS f n := by
  refine zloopI (i := 0) (I := fun n => zS (fun i => -f i) n = -zS f n) (P := fun _ => zS (fun i => -f i) n = -zS f n) n hn rfl ?_ (fun q => q) (fun _ _ _ _ q => q)
  intro j h1 h2 hi
  rw [zS_s h1, zS_s h1, hi]
  omega
theorem zS_sub {f g : Int → Int} (n : Int) (hn : 0 ≤ n) : zS (fun i => f i - g i) n = zS f n - zS g n := by
  refine zloopI (i := 0) (I := fun n => zS (fun i => f i - g i) n = zS f n - zS g n) (P := fun _ => zS (fun i => f i - g i) n = zS f n - zS g n) n hn rfl ?_ (fun q => q) (fun _ _ _ _ q => q)
  intro j h1 h2 hi
  rw [zS_s h1, zS_s h1, zS_s h1, hi]
  omega
theorem zFul {n j : Int} (hn : 0 ≤ n ∧ n ≤ 8) (hj : 0 ≤ j ∧ j < 8) : zb (zp2 n - 1) j ↔ j < n := by
  have k : ∀ a : Fin 9, ∀ c : Fin 8, zb (zp2 (a.val : Int) - 1) (c.val : Int) ↔ (c.val : Int) < (a.val : Int) := by decide +kernel
  have := k ⟨n.toNat, by omega⟩ ⟨j.toNat, by omega⟩
  rw [show ((n.toNat : Nat) : Int) = n from by omega, show ((j.toNat : Nat) : Int) = j from by omega] at this
  exact this
/-- how many of a kind are kept outside a group -/
theorem zOut_e {A : zA} {L f : Int → Int} {n g k : Int} (hB : zB 512 A) (hWv : zWv A) (hE : zEnum (zMv A) (fun _ => 0) (A 785 0) n L) (hf : ∀ j, 0 ≤ j → j < n → 0 ≤ f j ∧ f j < A 787 0) : zOut A (zEf n L f) g k = zTot A k (A 785 0) - zSta A g k (A 785 0) - zCt A L f n g k := by
  have b0 : 0 ≤ A 785 0 ∧ A 785 0 ≤ 16 := hB 785 0
  have dM : DecidablePred (zMv A) := fun _ => Classical.propDecidable _
  have e1 : zCt A L f n g k = zS (fun j => (fun u => if A 24 (zEf n L f u) = g ∧ A 7 u = k then (1 : Int) else 0) (L j)) n := zS_eq n hE.1.1 (fun j j1 j2 => by
    show (if 0 ≤ f j ∧ A 24 (f j) = g ∧ A 7 (L j) = k then (1 : Int) else 0) = if A 24 (zEf n L f (L j)) = g ∧ A 7 (L j) = k then 1 else 0
    rw [zEf_L (A := A) hE ⟨j1, j2⟩]
    by_cases z : A 24 (f j) = g ∧ A 7 (L j) = k
    · rw [if_pos ⟨(hf j j1 j2).1, z⟩, if_pos z]
    · rw [if_neg (fun y => z y.2), if_neg z])
  rw [e1.trans (@zEnum_all _ dM _ _ _ _ hE (fun u => if A 24 (zEf n L f u) = g ∧ A 7 u = k then (1 : Int) else 0))]
  unfold zOut zTot zSta
  rw [← zS_sub _ b0.1, ← zS_sub _ b0.1]
  refine zS_eq _ b0.1 (fun t t1 t2 => ?_)
  have hv := hWv t ⟨t1, t2⟩
  show (if A 7 t = k ∧ zPo A (zEf n L f) t ≠ -1 ∧ A 24 (zPo A (zEf n L f) t) ≠ g then (1 : Int) else 0) = (if zKe A t ∧ A 7 t = k then (1 : Int) else 0) - (if zSy A t ∧ A 24 (A 11 t - 400) = g ∧ A 7 t = k then 1 else 0) - @ite Int (zMv A t) (dM t) (if A 24 (zEf n L f t) = g ∧ A 7 t = k then 1 else 0) 0
  by_cases m : zMv A t
  · have ke : zKe A t := m.elim (fun z => ⟨by omega, by omega⟩) (fun z => ⟨by have := z.1.1; omega, z.1.2⟩)
    have ns : ¬ zSy A t := fun y => m.elim (fun z => by have := y.1.1; omega) (fun z => z.2 y.2)
    have ep : zPo A (zEf n L f) t = zEf n L f t := if_pos m
    obtain ⟨j, ⟨j1, j2⟩, rfl⟩ := hE.2.2.2 t t1 t2 m
    have ef := zEf_L (A := A) (f := f) hE ⟨j1, j2⟩
    have bf := hf j j1 j2
    rw [ep, ef, if_pos m, if_neg (show ¬ (zSy A (L j) ∧ A 24 (A 11 (L j) - 400) = g ∧ A 7 (L j) = k) from fun y => ns y.1)]
    by_cases z : A 7 (L j) = k
    · rw [if_pos (show zKe A (L j) ∧ A 7 (L j) = k from ⟨ke, z⟩)]
      by_cases y : A 24 (f j) = g
      · rw [if_neg (show ¬ (A 7 (L j) = k ∧ f j ≠ -1 ∧ A 24 (f j) ≠ g) from fun x => x.2.2 y), if_pos (show A 24 (f j) = g ∧ A 7 (L j) = k from ⟨y, z⟩)]; rfl
      · rw [if_pos (show A 7 (L j) = k ∧ f j ≠ -1 ∧ A 24 (f j) ≠ g from ⟨z, by omega, y⟩), if_neg (show ¬ (A 24 (f j) = g ∧ A 7 (L j) = k) from fun x => y x.1)]; rfl
    · rw [if_neg (show ¬ (A 7 (L j) = k ∧ f j ≠ -1 ∧ A 24 (f j) ≠ g) from fun x => z x.1), if_neg (show ¬ (zKe A (L j) ∧ A 7 (L j) = k) from fun x => z x.2), if_neg (show ¬ (A 24 (f j) = g ∧ A 7 (L j) = k) from fun x => z x.2)]; rfl
  · rw [if_neg m]
    by_cases a : zAt A t
    · have gd : zGood A (A 11 t - 400) (A 7 t) := by
        by_cases y : zGood A (A 11 t - 400) (A 7 t)
        · exact y
        · exact absurd (Or.inr ⟨a, y⟩) m
      have ke : zKe A t := ⟨by have := a.1; omega, a.2⟩
      have ep : zPo A (zEf n L f) t = A 11 t - 400 := by unfold zPo; rw [if_neg m, if_pos a]
      rw [ep]
      have a1 := a.1
      by_cases z : A 7 t = k
      · rw [if_pos (show zKe A t ∧ A 7 t = k from ⟨ke, z⟩)]
        by_cases y : A 24 (A 11 t - 400) = g
        · rw [if_neg (show ¬ (A 7 t = k ∧ A 11 t - 400 ≠ -1 ∧ A 24 (A 11 t - 400) ≠ g) from fun x => x.2.2 y), if_pos (show zSy A t ∧ A 24 (A 11 t - 400) = g ∧ A 7 t = k from ⟨⟨a, gd⟩, y, z⟩)]; rfl
        · rw [if_pos (show A 7 t = k ∧ A 11 t - 400 ≠ -1 ∧ A 24 (A 11 t - 400) ≠ g from ⟨z, by omega, y⟩), if_neg (show ¬ (zSy A t ∧ A 24 (A 11 t - 400) = g ∧ A 7 t = k) from fun x => y x.2.1)]; rfl
      · rw [if_neg (show ¬ (A 7 t = k ∧ A 11 t - 400 ≠ -1 ∧ A 24 (A 11 t - 400) ≠ g) from fun x => z x.1), if_neg (show ¬ (zKe A t ∧ A 7 t = k) from fun x => z x.2), if_neg (show ¬ (zSy A t ∧ A 24 (A 11 t - 400) = g ∧ A 7 t = k) from fun x => z x.2.2)]; rfl
    · have nk : ¬ zKe A t := fun y => m (Or.inl (hv.2.1 y.1 (by
        by_cases z : A 11 t < 400
        · exact z
        · exact absurd ⟨by omega, y.2⟩ a)))
      have ep : zPo A (zEf n L f) t = -1 := by unfold zPo; rw [if_neg m, if_neg a]
      rw [ep, if_neg (show ¬ (A 7 t = k ∧ (-1 : Int) ≠ -1 ∧ A 24 (-1) ≠ g) from fun x => x.2.1 rfl), if_neg (show ¬ (zKe A t ∧ A 7 t = k) from fun x => nk x.1), if_neg (show ¬ (zSy A t ∧ A 24 (A 11 t - 400) = g ∧ A 7 t = k) from fun x => a x.1.1)]
      rfl
theorem zKp_e {A : zA} {L f : Int → Int} {n : Int} (hB : zB 512 A) (hWv : zWv A) (hE : zEnum (zMv A) (fun _ => 0) (A 785 0) n L) (hf : ∀ j, 0 ≤ j → j < n → 0 ≤ f j ∧ f j < A 787 0) : zKp A (zEf n L f) ↔ ∀ g k, 0 ≤ g → g < 4 → 0 ≤ k → k < 4 → zCt A L f n g k ≤ zMo A g k := by
  unfold zKp zMo
  constructor
  · intro h g k g1 g2 k1 k2
    have := h g k g1 g2 k1 k2
    rw [zOut_e hB hWv hE hf] at this
    omega
  · intro h g k g1 g2 k1 k2
    have := h g k g1 g2 k1 k2
    rw [zOut_e hB hWv hE hf]
    omega
/-- the value of a giving of all movers -/
theorem zVl_e {A : zA} {L f : Int → Int} {n : Int} (hn : 0 ≤ n ∧ n ≤ 8) : zMS (fun j => zSq1 A L (f j) j) (zp2 n - 1) = -(zCo A n L f * 281474976710656 + zSt n L f) := by
  have hs : 0 ≤ zp2 n - 1 ∧ zp2 n - 1 < zp2 n := by have := zp2_1 (n := n); omega
  rw [zMS_n hn hs]
  unfold zCo zSt
  rw [← zS_lin n hn.1, ← zS_neg n hn.1]
  refine zS_eq n hn.1 (fun j j1 j2 => ?_)
  show (if zb (zp2 n - 1) j then zSq1 A L (f j) j else 0) = -(zPrice A (L j) (f j) * 281474976710656 + f j * zP8 (L j))
  rw [if_pos ((zFul hn ⟨j1, by omega⟩).2 j2)]
  rfl
theorem zLd_e {A : zA} {L f : Int → Int} {n p q : Int} (hn : 0 ≤ n ∧ n ≤ 8) (hq : 0 ≤ q ∧ q < zp2 n) (h : ∀ j, 0 ≤ j → j < n → (zb q j ↔ f j = p)) : zMS (fun j => A 9 (L j)) q = zLd A L f n p := by
  rw [zMS_n hn hq]
  refine zS_eq n hn.1 (fun j j1 j2 => ?_)
  show (if zb q j then A 9 (L j) else 0) = if f j = p then A 9 (L j) else 0
  by_cases z : f j = p
  · rw [if_pos z, if_pos ((h j j1 j2).2 z)]
  · rw [if_neg z, if_neg (fun y => z ((h j j1 j2).1 y))]
theorem zAx_of {A : zA} {L f : Int → Int} {n : Int} (hB : zB 512 A) (hWv : zWv A) (hE : zEnum (zMv A) (fun _ => 0) (A 785 0) n L) (hn : n ≤ 8) (h : zSv A n L f) : zAx A L n (fun _ => True) (fun _ => True) (zp2 n - 1) (-(zCo A n L f * 281474976710656 + zSt n L f)) := by
  have n0 := hE.1.1
  have hs : 0 ≤ zp2 n - 1 ∧ zp2 n - 1 < zp2 n := by have := zp2_1 (n := n); omega
  have hf : ∀ j, 0 ≤ j → j < n → 0 ≤ f j ∧ f j < A 787 0 := fun j j1 j2 => (h.1 j j1 j2).1.1
  refine ⟨fun j => if j < n then f j else -1, fun j j1 j2 => ⟨fun z => ?_, fun z => ?_⟩, fun p p1 p2 _ q q1 q2 hq => ⟨fun j j1 j2 j3 => ?_, fun q0 => ?_⟩, fun g k g1 g2 _ k1 k2 => ?_, ?_⟩
  · have jn := (zFul ⟨n0, hn⟩ ⟨j1, j2⟩).1 z
    show (0 ≤ (if j < n then f j else -1) ∧ (if j < n then f j else -1) < A 787 0) ∧ True
    rw [if_pos jn]
    exact ⟨hf j j1 jn, trivial⟩
  · have jn : ¬ j < n := fun y => z ((zFul ⟨n0, hn⟩ ⟨j1, j2⟩).2 y)
    show (if j < n then f j else -1) = -1
    rw [if_neg jn]
  · have e := (hq j j1 (by omega)).1 j3
    have e2 : (if j < n then f j else -1) = p := e
    rw [if_pos j2] at e2
    rw [← e2]
    exact (h.1 j j1 j2).1.2
  · have hq2 : ∀ j, 0 ≤ j → j < n → (zb q j ↔ f j = p) := fun j j1 j2 => by
      rw [hq j j1 (by omega)]
      show (if j < n then f j else -1) = p ↔ f j = p
      rw [if_pos j2]
    have ex : ∃ j, (0 ≤ j ∧ j < n) ∧ f j = p := by
      apply Classical.byContradiction
      intro no
      refine q0 (zb_ext (n := n) ⟨q1, q2⟩ ⟨by decide, by omega⟩ (fun j j1 j2 => ⟨fun z => absurd ⟨j, ⟨j1, j2⟩, (hq2 j j1 j2).1 z⟩ no, fun z => absurd z (zb_0 j)⟩))
    obtain ⟨j, ⟨j1, j2⟩, e⟩ := ex
    rw [zLd_e ⟨n0, hn⟩ ⟨q1, q2⟩ hq2, zRm_e hB ⟨p1, by have : 0 ≤ A 787 0 ∧ A 787 0 ≤ 5 := hB 787 0; omega⟩, ← e]
    exact (h.1 j j1 j2).2
  · have w := (zKp_e hB hWv hE hf).1 h.2 g k g1 g2 k1 k2
    have e : zCt A L (fun j => if j < n then f j else -1) n g k = zCt A L f n g k := zS_eq n n0 (fun j j1 j2 => by
      show (if 0 ≤ (if j < n then f j else -1) ∧ A 24 (if j < n then f j else -1) = g ∧ A 7 (L j) = k then (1 : Int) else 0) = _
      rw [if_pos j2])
    rw [e]
    exact w
  · rw [← zVl_e ⟨n0, hn⟩]
    refine zMS_c (fun j j1 j2 z => ?_)
    show zSq1 A L (f j) j = zSq1 A L (if j < n then f j else -1) j
    rw [if_pos ((zFul ⟨n0, hn⟩ ⟨j1, j2⟩).1 z)]
theorem zAx_is {A : zA} {L : Int → Int} {n v : Int} (hB : zB 512 A) (hWv : zWv A) (hE : zEnum (zMv A) (fun _ => 0) (A 785 0) n L) (hn : n ≤ 8) (h : zAx A L n (fun _ => True) (fun _ => True) (zp2 n - 1) v) : ∃ f, zSv A n L f ∧ v = -(zCo A n L f * 281474976710656 + zSt n L f) := by
  have n0 := hE.1.1
  obtain ⟨f, a1, a2, a3, a4⟩ := h
  have hf : ∀ j, 0 ≤ j → j < n → 0 ≤ f j ∧ f j < A 787 0 := fun j j1 j2 => ((a1 j j1 (by omega)).1 ((zFul ⟨n0, hn⟩ ⟨j1, by omega⟩).2 j2)).1
  refine ⟨f, ⟨fun k k1 k2 => ?_, (zKp_e hB hWv hE hf).2 (fun g k g1 g2 k1 k2 => a3 g k g1 g2 trivial k1 k2)⟩, by rw [a4]; exact zVl_e ⟨n0, hn⟩⟩
  have w := hf k k1 k2
  obtain ⟨q, hq, hb⟩ := zmk (fun j => f j = f k) n.toNat
  rw [show ((n.toNat : Nat) : Int) = n from by omega] at hq hb
  have hb8 : ∀ j, 0 ≤ j → j < 8 → (zb q j ↔ f j = f k) := fun j j1 j2 => by
    by_cases y : j < n
    · exact hb j j1 y
    · have := (a1 j j1 j2).2 (fun z => y ((zFul ⟨n0, hn⟩ ⟨j1, j2⟩).1 z))
      exact ⟨fun z => absurd z (zb_hi hq (by omega)), fun z => by omega⟩
  have ok := a2 (f k) w.1 w.2 trivial q hq.1 hq.2 hb8
  have bk := (hb k k1 k2).2 rfl
  have q0 : q ≠ 0 := fun z => by
    rw [z] at bk
    exact zb_0 k bk
  refine ⟨⟨w, ok.1 k k1 k2 bk⟩, ?_⟩
  rw [← zRm_e hB ⟨w.1, by have : 0 ≤ A 787 0 ∧ A 787 0 ≤ 5 := hB 787 0; omega⟩, ← zLd_e ⟨n0, hn⟩ hq hb]
  exact ok.2 q0
theorem zSt_8 {A : zA} {L f : Int → Int} {n : Int} (hB : zB 512 A) (hE : zEnum (zMv A) (fun _ => 0) (A 785 0) n L) (hf : ∀ j, 0 ≤ j → j < n → 0 ≤ f j ∧ f j < A 787 0) : ∃ d : Int → Int, (∀ i, 0 ≤ i → i < A 785 0 → 0 ≤ d i ∧ d i ≤ 7) ∧ zSt n L f = zS (fun i => d i * zP8 i) (A 785 0) ∧ ∀ j, 0 ≤ j → j < n → d (L j) = f j := by
  have b0 : 0 ≤ A 785 0 ∧ A 785 0 ≤ 16 := hB 785 0
  have bpl : 0 ≤ A 787 0 ∧ A 787 0 ≤ 5 := hB 787 0
  have dM : DecidablePred (zMv A) := fun _ => Classical.propDecidable _
  refine ⟨fun t => @ite Int (zMv A t) (dM t) (zEf n L f t) 0, fun i i1 i2 => ?_, ?_, fun j j1 j2 => ?_⟩
  · show 0 ≤ @ite Int (zMv A i) (dM i) (zEf n L f i) 0 ∧ @ite Int (zMv A i) (dM i) (zEf n L f i) 0 ≤ 7
    by_cases m : zMv A i
    · rw [if_pos m]
      obtain ⟨j, ⟨j1, j2⟩, rfl⟩ := hE.2.2.2 i i1 i2 m
      rw [zEf_L (A := A) hE ⟨j1, j2⟩]
      have := hf j j1 j2
      omega
    · rw [if_neg m]
      decide
  · have e1 : zSt n L f = zS (fun j => (fun u => zEf n L f u * zP8 u) (L j)) n := zS_eq n hE.1.1 (fun j j1 j2 => by
      show f j * zP8 (L j) = zEf n L f (L j) * zP8 (L j)
      rw [zEf_L (A := A) hE ⟨j1, j2⟩])
    rw [e1.trans (@zEnum_all _ dM _ _ _ _ hE (fun u => zEf n L f u * zP8 u))]
    refine zS_eq _ b0.1 (fun t t1 t2 => ?_)
    show @ite Int (zMv A t) (dM t) (zEf n L f t * zP8 t) 0 = @ite Int (zMv A t) (dM t) (zEf n L f t) 0 * zP8 t
    by_cases m : zMv A t
    · rw [if_pos m, if_pos m]
    · rw [if_neg m, if_neg m, Int.zero_mul]
  · show @ite Int (zMv A (L j)) (dM (L j)) (zEf n L f (L j)) 0 = f j
    rw [if_pos (hE.2.1 j j1 j2).2]
    exact zEf_L (A := A) hE ⟨j1, j2⟩
theorem zSpread_is {A : zA} {n v : Int} {L : Int → Int} (eL : (zMn A).2 = L) (en : (zMn A).1 = n) (hB : zB 512 A) (hWv : zWv A) (hE : zEnum (zMv A) (fun _ => 0) (A 785 0) n L) (hn : n ≤ 8) (h1 : zAx A L n (fun _ => True) (fun _ => True) (zp2 n - 1) v) (h2 : ∀ x, zAx A L n (fun _ => True) (fun _ => True) (zp2 n - 1) x → x ≤ v) : (-v) / 281474976710656 = (zSp A).2 ∧ (∀ k, 0 ≤ k → k < n → (-v) / zP8 (L k) % 8 = (zSp A).1 k ∧ 0 ≤ (zSp A).1 k ∧ (zSp A).1 k < A 787 0) ∧ (0 ≤ (zSp A).2 ∧ (zSp A).2 ≤ 1152) ∧ 0 ≤ -v ∧ -v < 4611686018427387904 := by
  have b0 : 0 ≤ A 785 0 ∧ A 785 0 ≤ 16 := hB 785 0
  have bpl : 0 ≤ A 787 0 ∧ A 787 0 ≤ 5 := hB 787 0
  have n0 := hE.1.1
  obtain ⟨f, f1, f2⟩ := zAx_is hB hWv hE hn h1
  have hf : ∀ j, 0 ≤ j → j < n → 0 ≤ f j ∧ f j < A 787 0 := fun j j1 j2 => (f1.1 j j1 j2).1.1
  obtain ⟨d, d1, d2, d3⟩ := zSt_8 hB hE hf
  have bS := zsum8 d1 b0
  rw [← d2] at bS
  have bC := zCo_b (L := L) (f := f) (n := n) hB ⟨n0, by omega⟩
  have iS : zIsS A n L f := ⟨f1, fun g hg => by
    have w := h2 _ (zAx_of hB hWv hE hn hg)
    have hfg : ∀ j, 0 ≤ j → j < n → 0 ≤ g j ∧ g j < A 787 0 := fun j j1 j2 => (hg.1 j j1 j2).1.1
    obtain ⟨d', e1, e2, e3⟩ := zSt_8 hB hE hfg
    have bG := zsum8 e1 b0
    rw [← e2] at bG
    omega⟩
  subst eL
  subst en
  have u := zSp_u hE b0.2 bpl.2 iS
  refine ⟨?_, fun k k1 k2 => ?_, by rw [u.1]; omega, by omega, by omega⟩
  · rw [u.1, f2]
    omega
  · rw [u.2 k k1 k2]
    refine ⟨?_, hf k k1 k2⟩
    have o := (hE.2.1 k k1 k2).1
    rw [f2, Int.neg_neg, d2, zdigd8 d1 b0.2 o]
    exact d3 k k1 k2
theorem zSpread_no {A : zA} {n : Int} {L : Int → Int} (eL : (zMn A).2 = L) (en : (zMn A).1 = n) (hB : zB 512 A) (hWv : zWv A) (hE : zEnum (zMv A) (fun _ => 0) (A 785 0) n L) (hn : n ≤ 8) (h : ∀ x, ¬ zAx A L n (fun _ => True) (fun _ => True) (zp2 n - 1) x) : (zSp A).2 = -1 := by
  subst eL
  subst en
  have no : ¬ ∃ f, zIsS A (zMn A).1 (zMn A).2 f := fun ⟨f, hf⟩ => h _ (zAx_of hB hWv hE hn hf.1)
  have e : zSp A = (fun _ => -1, -1) := dif_neg no
  rw [e]
