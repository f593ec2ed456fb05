/-! THE CLASS, 30: what a label says -/
theorem zDig_p {L : Int → Int} {n lo hi : Int} (f : Nat) : ∀ p v d : Int, 0 < d → 0 ≤ v → 0 ≤ (zDig L n lo hi f p v d).1 ∧ p ≤ (zDig L n lo hi f p v d).2 := by
  induction f with
  | zero =>
    intro p v d hd hv
    unfold zDig
    rw [if_neg (show ¬ d = 0 by omega)]
    exact ⟨hv, Int.le_refl _⟩
  | succ f ih =>
    intro p v d hd hv
    unfold zDig
    split
    · rename_i q
      have := ih (p + 1) (10 * v + L p - 48) (d + 1) (by omega) (by omega)
      exact ⟨this.1, by omega⟩
    · rw [if_neg (show ¬ d = 0 by omega)]
      exact ⟨hv, Int.le_refl _⟩
theorem zDig_1 {L : Int → Int} {n lo hi p : Int} : ((zDig L n lo hi 3 p 0 0).1 = -1 ↔ (zDig L n lo hi 3 p 0 0).2 = p) ∧ p ≤ (zDig L n lo hi 3 p 0 0).2 := by
  have e : zDig L n lo hi 3 p 0 0 = if (p < n ∧ 48 ≤ L p ∧ L p ≤ 57) ∧ ((0 : Int) ≤ 0 ∨ (0 : Int) ≠ 0) ∧ 10 * 0 + L p - 48 ≤ hi ∧ ¬ ((0 : Int) = 0 ∧ 10 * 0 + L p - 48 = 0 ∧ 0 < lo) then zDig L n lo hi 2 (p + 1) (10 * 0 + L p - 48) (0 + 1) else (if (0 : Int) = 0 then -1 else 0, p) := rfl
  rw [e]
  split
  · rename_i q
    have := zDig_p (L := L) (n := n) (lo := lo) (hi := hi) 2 (p + 1) (10 * 0 + L p - 48) (0 + 1) (by omega) (by omega)
    exact ⟨⟨fun z => by omega, fun z => by omega⟩, by omega⟩
  · exact ⟨⟨fun _ => rfl, fun _ => rfl⟩, Int.le_refl _⟩
theorem gt_12 {k : Int} : 0 ≤ gt12 k ∧ gt12 k ≤ 1 := by
  unfold gt12
  (repeat' split) <;> decide
theorem gt_13 {k : Int} : 3 ≤ gt13 k ∧ gt13 k ≤ 100 := by
  unfold gt13
  (repeat' split) <;> decide
theorem w48 {x : Int} (h : inI x) : (0 ≤ w32 (x - 48) ∧ w32 (x - 48) ≤ 9 ↔ 48 ≤ x ∧ x ≤ 57) ∧ (48 ≤ x → x ≤ 57 → w32 (x - 48) = x - 48) := by
  obtain ⟨h1, h2⟩ := h
  unfold w32
  omega
/-- only this number of the label has changed -/
def zNu (b : Nat) (k : Int) (G G1 : gH) : Prop := ∀ (c : Nat) (i j : Int), ¬ (c = 1 ∧ i = (b : Int) + 52 ∧ j = k) → G1 c i j = G c i j
/-- a row as the state has it -/
def zRw (G : gH) (A : zA) (s a : Int) : Prop := (G 0 a 0 = 7 ∧ zEl G a) ∧ G 402 a 0 = A 20 s ∧ ∀ i, 0 ≤ i → i < A 20 s → G 2 (G 400 a 0) i = A 22 (60 * s + i)
theorem zRw_nu {b : Nat} {k : Int} {G G1 : gH} {A : zA} {s a : Int} (h : zNu b k G G1) (q : zRw G A s a) : zRw G1 A s a := by
  unfold zRw zEl at *
  rw [h 0 _ _ (by omega), h 402 _ _ (by omega), h 400 _ _ (by omega), h 0 _ _ (by omega), h 0 _ _ (by omega)]
  exact ⟨q.1, q.2.1, fun i i1 i2 => by rw [h 2 _ _ (by omega)]; exact q.2.2 i i1 i2⟩
theorem zRw_at {G : gH} {A : zA} {s a p : Int} (q : zRw G A s a) (hp : 0 ≤ p) : (zHs G a p ↔ p < A 20 s) ∧ (p < A 20 s → w32 (if zHs G a p then G 2 (G 400 a 0) p else 0) = zLet A s p) := by
  have e : zHs G a p ↔ p < A 20 s := by unfold zHs; rw [q.2.1]; exact ⟨fun z => z.2, fun z => ⟨hp, z⟩⟩
  refine ⟨e, fun z => ?_⟩
  rw [if_pos (e.mpr z), q.2.2 p hp z]
  unfold zLet
  rw [if_pos z]
theorem l_readNumber {e : gE} {b : Nat} {m : Int} {Z : Int → gH → Prop} {kc ks : Nat} {G0 : gH} {A : zA} {s a k : Int} (hk : 0 ≤ k ∧ k < 5) (hn : A 20 s ≤ 60) (hrw : zRw G0 A s a) (f : Nat) : ∀ (p v d : Int) (G : gH), d + f = 3 → ((d = 0 ∧ v = 0) ∨ (0 < d ∧ 0 ≤ v ∧ v ≤ 100)) → 0 ≤ p → p + f ≤ 64 → zNu b k G0 G → G 1 ((b : Int) + 52) k = (if d = 0 then -1 else v) → (∀ G1, zNu b k G0 G1 → G1 1 ((b : Int) + 52) k = (zDig (zLet A s) (A 20 s) (gt12 k) (gt13 k) f p v d).1 → Z (zDig (zLet A s) (A 20 s) (gt12 k) (gt13 k) f p v d).2 G1) → EX e b m m_Label_readNumber Z kc ks 13 [(2, ((b : Int) + 51)), (2, a), (9, 0), (0, k), (0, p), (0, d), (9, 0)] [] G := by
  induction f with
  | zero =>
    intro p v d G hd hv hp hp2 hG hN hZ
    refine sg_Label_readNumber_13 ⟨fun _ => ?_, fun z => by omega⟩
    exact hZ G hG hN
  | succ f ih =>
    intro p v d G hd hv hp hp2 hG hN hZ
    have g12 := gt_12 (k := k)
    have g13 := gt_13 (k := k)
    have hr := zRw_nu hG hrw
    have ha := zRw_at hr hp
    have hl := w48 (w32_in (if zHs G a p then G 2 (G 400 a 0) p else 0))
    refine sg_Label_readNumber_13 ⟨fun z => by omega, fun _ => ⟨hr.1.1, hr.1.1, fun q => ⟨hk.1, hk.2, fun z => by omega, fun _ => ?_⟩, fun q => ⟨hk, hr.1.2, ?_, hk.1, hk.2, ?_⟩⟩⟩
    · have nc : ¬ (p < A 20 s) := fun z => q (ha.1.mpr z)
      have w := hZ G hG
      unfold zDig at w
      rw [if_neg (fun z => nc z.1.1)] at w
      exact w hN
    · rw [hN]; split <;> omega
    · have hlt := ha.1.mp q
      have el := ha.2 hlt
      rw [el] at hl ⊢
      have hw : (gt12 k ≤ zWD (G 1 ((b : Int) + 52) k) (w32 (zLet A s p - 48)) ∧ zWD (G 1 ((b : Int) + 52) k) (w32 (zLet A s p - 48)) ≤ gt13 k) ↔ ((p < A 20 s ∧ 48 ≤ zLet A s p ∧ zLet A s p ≤ 57) ∧ (d ≤ 0 ∨ v ≠ 0) ∧ 10 * v + zLet A s p - 48 ≤ gt13 k ∧ ¬ (d = 0 ∧ 10 * v + zLet A s p - 48 = 0 ∧ 0 < gt12 k)) := by
        rw [hN]
        unfold zWD
        by_cases z : 48 ≤ zLet A s p ∧ zLet A s p ≤ 57
        · rw [hl.2 z.1 z.2]
          (repeat' split) <;> omega
        · have : ¬ (0 ≤ w32 (zLet A s p - 48) ∧ w32 (zLet A s p - 48) ≤ 9) := fun y => z (hl.1.mp y)
          rw [if_pos (Or.inl this)]
          omega
      refine ⟨fun z => ?_, fun z => ?_⟩
      · have zz := hw.mp z
        have ev : zWD (G 1 ((b : Int) + 52) k) (w32 (zLet A s p - 48)) = 10 * v + zLet A s p - 48 := by
          rw [hN, hl.2 zz.1.2.1 zz.1.2.2]
          unfold zWD
          (repeat' split) <;> omega
        rintro _ rfl
        refine ⟨by omega, by omega, ih (p + 1) (10 * v + zLet A s p - 48) (d + 1) _ (by omega) (by omega) (by omega) (by omega) (fun c i j y => ?_) ?_ (fun G1 g1 g2 => ?_)⟩
        · rw [gU_ne y]; exact hG c i j y
        · rw [gU_eq, ev, if_neg (show ¬ d + 1 = 0 by omega)]
        · have := hZ G1 g1
          unfold zDig at this
          rw [if_pos zz] at this
          exact this g2
      · have nz := fun y => z (hw.mpr y)
        have w := hZ G hG
        unfold zDig at w
        rw [if_neg nz] at w
        exact w hN
