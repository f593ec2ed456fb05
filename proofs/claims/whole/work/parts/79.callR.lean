/-! THE CLASS, 30: what a label says -/
theorem zDig_p {L : Int → Int} {n lo hi : Int} (f : Nat) : ∀ p v d : Int, 0 < d → 0 ≤ v → 0 ≤ (zDig L n lo hi f p v d).1 ∧ p ≤ (zDig L n lo hi f p v d).2 := by
  induction f with
  | zero =>
    intro p v d hd hv
    unfold zDig
    rw [if_neg (show ¬ d = 0 by omega)]
    exact ⟨hv, Int.le_refl _⟩
  | succ f ih =>
    intro p v d hd hv
    unfold zDig
    split
    · rename_i q
      have := ih (p + 1) (10 * v + L p - 48) (d + 1) (by omega) (by omega)
      exact ⟨this.1, by omega⟩
    · rw [if_neg (show ¬ d = 0 by omega)]
      exact ⟨hv, Int.le_refl _⟩
theorem zDig_1 {L : Int → Int} {n lo hi p : Int} : ((zDig L n lo hi 3 p 0 0).1 = -1 ↔ (zDig L n lo hi 3 p 0 0).2 = p) ∧ p ≤ (zDig L n lo hi 3 p 0 0).2 := by
  have e : zDig L n lo hi 3 p 0 0 = if (p < n ∧ 48 ≤ L p ∧ L p ≤ 57) ∧ ((0 : Int) ≤ 0 ∨ (0 : Int) ≠ 0) ∧ 10 * 0 + L p - 48 ≤ hi ∧ ¬ ((0 : Int) = 0 ∧ 10 * 0 + L p - 48 = 0 ∧ 0 < lo) then zDig L n lo hi 2 (p + 1) (10 * 0 + L p - 48) (0 + 1) else (if (0 : Int) = 0 then -1 else 0, p) := rfl
  rw [e]
  split
  · rename_i q
    have := zDig_p (L := L) (n := n) (lo := lo) (hi := hi) 2 (p + 1) (10 * 0 + L p - 48) (0 + 1) (by omega) (by omega)
    exact ⟨⟨fun z => by omega, fun z => by omega⟩, by omega⟩
  · exact ⟨⟨fun _ => rfl, fun _ => rfl⟩, Int.le_refl _⟩
theorem gt_12 {k : Int} : 0 ≤ gt12 k ∧ gt12 k ≤ 1 := by
  unfold gt12
  (repeat' split) <;> decide
theorem gt_13 {k : Int} : 3 ≤ gt13 k ∧ gt13 k ≤ 100 := by
  unfold gt13
  (repeat' split) <;> decide
theorem w48 {x : Int} (h : inI x) : (0 ≤ w32 (x - 48) ∧ w32 (x - 48) ≤ 9 ↔ 48 ≤ x ∧ x ≤ 57) ∧ (48 ≤ x → x ≤ 57 → w32 (x - 48) = x - 48) := by
  obtain ⟨h1, h2⟩ := h
  unfold w32
  omega
/-- only this number of the label has changed -/
def zNu (b : Nat) (k : Int) (G G1 : gH) : Prop := ∀ (c : Nat) (i j : Int), ¬ (c = 1 ∧ i = (b : Int) + 52 ∧ j = k) → G1 c i j = G c i j
/-- a row as the state has it -/
def zRw (G : gH) (A : zA) (s a : Int) : Prop := (G 0 a 0 = 7 ∧ zEl G a) ∧ G 402 a 0 = A 20 s ∧ ∀ i, 0 ≤ i → i < A 20 s → G 2 (G 400 a 0) i = A 22 (60 * s + i)
theorem zRw_nu {b : Nat} {k : Int} {G G1 : gH} {A : zA} {s a : Int} (h : zNu b k G G1) (q : zRw G A s a) : zRw G1 A s a := by
  unfold zRw zEl at *
  rw [h 0 _ _ (by omega), h 402 _ _ (by omega), h 400 _ _ (by omega), h 0 _ _ (by omega), h 0 _ _ (by omega)]
  exact ⟨q.1, q.2.1, fun i i1 i2 => by rw [h 2 _ _ (by omega)]; exact q.2.2 i i1 i2⟩
theorem zRw_at {G : gH} {A : zA} {s a p : Int} (q : zRw G A s a) (hp : 0 ≤ p) : (zHs G a p ↔ p < A 20 s) ∧ (p < A 20 s → w32 (if zHs G a p then G 2 (G 400 a 0) p else 0) = zLet A s p) := by
  have e : zHs G a p ↔ p < A 20 s := by unfold zHs; rw [q.2.1]; exact ⟨fun z => z.2, fun z => ⟨hp, z⟩⟩
  refine ⟨e, fun z => ?_⟩
  rw [if_pos (e.mpr z), q.2.2 p hp z]
  unfold zLet
  rw [if_pos z]
theorem l_readNumber {e : gE} {b : Nat} {m : Int} {Z : Int → gH → Prop} {kc ks : Nat} {G0 : gH} {A : zA} {s a k : Int} (hk : 0 ≤ k ∧ k < 5) (hn : A 20 s ≤ 60) (hrw : zRw G0 A s a) (f : Nat) : ∀ (p v d : Int) (G : gH), d + f = 3 → ((d = 0 ∧ v = 0) ∨ (0 < d ∧ 0 ≤ v ∧ v ≤ 100)) → 0 ≤ p → p + f ≤ 64 → zNu b k G0 G → G 1 ((b : Int) + 52) k = (if d = 0 then -1 else v) → (∀ G1, zNu b k G0 G1 → G1 1 ((b : Int) + 52) k = (zDig (zLet A s) (A 20 s) (gt12 k) (gt13 k) f p v d).1 → Z (zDig (zLet A s) (A 20 s) (gt12 k) (gt13 k) f p v d).2 G1) → EX e b m m_Label_readNumber Z kc ks 13 [(2, ((b : Int) + 51)), (2, a), (9, 0), (0, k), (0, p), (0, d), (9, 0)] [] G := by
  induction f with
  | zero =>
    intro p v d G hd hv hp hp2 hG hN hZ
    refine sg_Label_readNumber_13 ⟨fun _ => ?_, fun z => by omega⟩
    exact hZ G hG hN
  | succ f ih =>
    intro p v d G hd hv hp hp2 hG hN hZ
    have g12 := gt_12 (k := k)
    have g13 := gt_13 (k := k)
    have hr := zRw_nu hG hrw
    have ha := zRw_at hr hp
    have hl := w48 (w32_in (if zHs G a p then G 2 (G 400 a 0) p else 0))
    refine sg_Label_readNumber_13 ⟨fun z => by omega, fun _ => ⟨hr.1.1, hr.1.1, fun q => ⟨hk.1, hk.2, fun z => by omega, fun _ => ?_⟩, fun q => ⟨hk, hr.1.2, ?_, hk.1, hk.2, ?_⟩⟩⟩
    · have nc : ¬ (p < A 20 s) := fun z => q (ha.1.mpr z)
      have w := hZ G hG
      unfold zDig at w
      rw [if_neg (fun z => nc z.1.1)] at w
      exact w hN
    · rw [hN]; split <;> omega
    · have hlt := ha.1.mp q
      have el := ha.2 hlt
      rw [el] at hl ⊢
      have hw : (gt12 k ≤ zWD (G 1 ((b : Int) + 52) k) (w32 (zLet A s p - 48)) ∧ zWD (G 1 ((b : Int) + 52) k) (w32 (zLet A s p - 48)) ≤ gt13 k) ↔ ((p < A 20 s ∧ 48 ≤ zLet A s p ∧ zLet A s p ≤ 57) ∧ (d ≤ 0 ∨ v ≠ 0) ∧ 10 * v + zLet A s p - 48 ≤ gt13 k ∧ ¬ (d = 0 ∧ 10 * v + zLet A s p - 48 = 0 ∧ 0 < gt12 k)) := by
        rw [hN]
        unfold zWD
        by_cases z : 48 ≤ zLet A s p ∧ zLet A s p ≤ 57
        · rw [hl.2 z.1 z.2]
          (repeat' split) <;> omega
        · have : ¬ (0 ≤ w32 (zLet A s p - 48) ∧ w32 (zLet A s p - 48) ≤ 9) := fun y => z (hl.1.mp y)
          rw [if_pos (Or.inl this)]
          omega
      refine ⟨fun z => ?_, fun z => ?_⟩
      · have zz := hw.mp z
        have ev : zWD (G 1 ((b : Int) + 52) k) (w32 (zLet A s p - 48)) = 10 * v + zLet A s p - 48 := by
          rw [hN, hl.2 zz.1.2.1 zz.1.2.2]
          unfold zWD
          (repeat' split) <;> omega
        rintro _ rfl
        refine ⟨by omega, by omega, ih (p + 1) (10 * v + zLet A s p - 48) (d + 1) _ (by omega) (by omega) (by omega) (by omega) (fun c i j y => ?_) ?_ (fun G1 g1 g2 => ?_)⟩
        · rw [gU_ne y]; exact hG c i j y
        · rw [gU_eq, ev, if_neg (show ¬ d + 1 = 0 by omega)]
        · have := hZ G1 g1
          unfold zDig at this
          rw [if_pos zz] at this
          exact this g2
      · have nz := fun y => z (hw.mpr y)
        have w := hZ G hG
        unfold zDig at w
        rw [if_neg nz] at w
        exact w hN
theorem c_readNumber {e : gE} {b : Nat} {m : Int} {G : gH} {A : zA} {s a k p : Int} (hk : 0 ≤ k ∧ k < 5) (hn : A 20 s ≤ 60) (hrw : zRw G A s a) (hp : 0 ≤ p ∧ p ≤ 61) : GX e b m m_Label_readNumber [(2, ((b : Int) + 51)), (2, a), (0, p), (0, k)] G 0 0 (fun v G1 => v = (zDig (zLet A s) (A 20 s) (gt12 k) (gt13 k) 3 p 0 0).2 ∧ zNu b k G G1 ∧ G1 1 ((b : Int) + 52) k = (zDig (zLet A s) (A 20 s) (gt12 k) (gt13 k) 3 p 0 0).1) := by
  refine GM.ofEV (by decide) (Nat.le_of_ble_eq_true rfl) (sg_Label_readNumber_0 ⟨hk, ?_⟩)
  rintro _ rfl
  exact l_readNumber hk hn hrw 3 p 0 0 _ (by decide) (Or.inl ⟨rfl, rfl⟩) hp.1 (by omega) (fun c i j z => gU_ne z) (by rw [gU_eq, if_pos rfl]) (fun G1 g1 g2 => ⟨rfl, g1, g2⟩)
/-- only numbers of the label have changed -/
def zNa (b : Nat) (G G1 : gH) : Prop := ∀ (c : Nat) (i j : Int), ¬ (c = 1 ∧ i = (b : Int) + 52) → G1 c i j = G c i j
theorem zRw_na {b : Nat} {G G1 : gH} {A : zA} {s a : Int} (h : zNa b G G1) (q : zRw G A s a) : zRw G1 A s a := by
  unfold zRw zEl at *
  rw [h 0 _ _ (by omega), h 402 _ _ (by omega), h 400 _ _ (by omega), h 0 _ _ (by omega), h 0 _ _ (by omega)]
  exact ⟨q.1, q.2.1, fun i i1 i2 => by rw [h 2 _ _ (by omega)]; exact q.2.2 i i1 i2⟩
theorem zNum_2 {A : zA} {s sg lo hi p : Int} (hp : 0 ≤ p) (hn : A 20 s ≤ 60) (h60 : p ≤ 60) (hl : lo ≤ 1) : 0 ≤ (zNum A s sg lo hi p).2 ∧ (zNum A s sg lo hi p).2 ≤ 60 := (zNum_b hl hn ⟨hp, h60⟩).1
/-- one part of a label -/
theorem l_read {e : gE} {b : Nat} {m : Int} {Z : Int → gH → Prop} {kc ks : Nat} {G0 G : gH} {A : zA} {s a k p : Int} (hk : 0 ≤ k ∧ k < 5) (hn : A 20 s ≤ 60) (hrw : zRw G0 A s a) (hG : zNa b G0 G) (hp : 0 ≤ p ∧ p ≤ 60) (h1 : (zNum A s (gt15 k) (gt12 k) (gt13 k) p).1 = -1 → ∀ G1, zNa b G0 G1 → Z (zNum A s (gt15 k) (gt12 k) (gt13 k) p).2 G1) (h2 : (zNum A s (gt15 k) (gt12 k) (gt13 k) p).1 ≠ -1 → ∀ G1, zNa b G0 G1 → (∀ j, j ≠ k → G1 1 ((b : Int) + 52) j = G 1 ((b : Int) + 52) j) → G1 1 ((b : Int) + 52) k = (zNum A s (gt15 k) (gt12 k) (gt13 k) p).1 → EX e b m m_Label_read Z kc ks 4 [(2, ((b : Int) + 51)), (2, a), (0, (zNum A s (gt15 k) (gt12 k) (gt13 k) p).2), (0, (k + 1)), (9, 0)] [] G1) : EX e b m m_Label_read Z kc ks 4 [(2, ((b : Int) + 51)), (2, a), (0, p), (0, k), (9, 0)] [] G := by
  have hr := zRw_na hG hrw
  have ha := zRw_at hr hp.1
  refine sg_Label_read_4 ⟨⟨fun z => by omega, fun _ => ⟨hr.1.1, hr.1.1, fun q => ⟨hr.1.2, hk, fun q2 => ⟨by omega, ?_⟩⟩⟩⟩, fun q => ?_⟩
  · have hlt := ha.1.mp q
    rw [ha.2 hlt] at q2
    have en : zNum A s (gt15 k) (gt12 k) (gt13 k) p = zDig (zLet A s) (A 20 s) (gt12 k) (gt13 k) 3 (p + 1) 0 0 := by unfold zNum; rw [if_pos ⟨hlt, q2⟩]
    rw [en] at h1 h2
    have hd := zDig_1 (L := zLet A s) (n := A 20 s) (lo := gt12 k) (hi := gt13 k) (p := p + 1)
    refine GM.mono (c_readNumber hk hn hr ⟨by omega, by omega⟩) ?_
    rintro v G1 ⟨rfl, g1, g2⟩
    have hG1 : zNa b G0 G1 := fun c i j z => by rw [g1 c i j (fun y => z ⟨y.1, y.2.1⟩), hG c i j z]
    refine ⟨fun z => ⟨by omega, h2 (fun y => z (hd.1.mp y)) G1 hG1 (fun j hj => g1 _ _ _ (fun y => hj y.2.2)) g2⟩, fun z => h1 (hd.1.mpr z) G1 hG1⟩
  · have nc : ¬ (p < A 20 s ∧ zLet A s p = gt15 k) := by
      rintro ⟨z1, z2⟩
      rcases q with q | q
      · exact q.2 (ha.1.mpr z1)
      · exact q.2.2 (by rw [ha.2 z1]; exact z2)
    have en : zNum A s (gt15 k) (gt12 k) (gt13 k) p = (-1, p) := by unfold zNum; rw [if_neg nc]
    rw [en] at h1
    exact h1 rfl G hG
theorem c_Label_read {e : gE} {b : Nat} {m : Int} {G : gH} {A : zA} {s a : Int} (hn : A 20 s ≤ 60) (hrw : zRw G A s a) : GX e b m m_Label_read [(2, ((b : Int) + 51)), (2, a)] G 0 0 (fun v G1 => v = zLF A s ∧ zNa b G G1 ∧ (zLF A s = -1 → G1 1 ((b : Int) + 52) 0 = (zL1 A s).1 ∧ G1 1 ((b : Int) + 52) 1 = (zL2 A s).1 ∧ G1 1 ((b : Int) + 52) 2 = (zL3 A s).1 ∧ G1 1 ((b : Int) + 52) 3 = (zL4 A s).1 ∧ G1 1 ((b : Int) + 52) 4 = (zL5 A s).1)) := by
  have hb := (zL_b hn).1
  refine GM.ofEV (by decide) (Nat.le_of_ble_eq_true rfl) (sg_Label_read_0 ?_)
  have stop : ∀ {x : Int × Int}, x.1 = -1 → x.2 ≥ 0 → zL5 A s = x → ∀ G1, zNa b G G1 → (x.2 = zLF A s ∧ zNa b G G1 ∧ (zLF A s = -1 → G1 1 ((b : Int) + 52) 0 = (zL1 A s).1 ∧ G1 1 ((b : Int) + 52) 1 = (zL2 A s).1 ∧ G1 1 ((b : Int) + 52) 2 = (zL3 A s).1 ∧ G1 1 ((b : Int) + 52) 3 = (zL4 A s).1 ∧ G1 1 ((b : Int) + 52) 4 = (zL5 A s).1)) := by
    intro x x1 x2 x3 G1 g1
    have : zLF A s = x.2 := by unfold zLF; rw [x3, if_pos (Or.inl x1)]
    exact ⟨this.symm, g1, fun z => by omega⟩
  refine l_read (k := 0) (p := 0) (by decide) hn hrw (fun _ _ _ _ => rfl) (by decide) ?_ ?_
  · intro z
    have z1 : (zL1 A s).1 = -1 := z
    exact stop z1 hb.1.1 (by unfold zL5 zL4 zL3 zL2 zNm; simp only [z1, if_true]; rfl)
  intro z G1 g1 _ v1
  have z1 : (zL1 A s).1 ≠ -1 := z
  have e2 : zL2 A s = zNum A s (gt15 1) (gt12 1) (gt13 1) (zL1 A s).2 := by unfold zL2 zNm; rw [if_neg z1]; rfl
  refine l_read (k := 1) (p := (zL1 A s).2) (by decide) hn hrw g1 hb.1 ?_ ?_
  · rw [← e2]
    intro z2
    exact stop z2 hb.2.1.1 (by unfold zL5 zL4 zL3 zNm; simp only [z2, if_true])
  rw [← e2]
  intro z2 G2 g2 o2 v2
  have e3 : zL3 A s = zNum A s (gt15 2) (gt12 2) (gt13 2) (zL2 A s).2 := by unfold zL3 zNm; rw [if_neg z2]; rfl
  refine l_read (k := 2) (p := (zL2 A s).2) (by decide) hn hrw g2 hb.2.1 ?_ ?_
  · rw [← e3]
    intro z3
    exact stop z3 hb.2.2.1.1 (by unfold zL5 zL4 zNm; simp only [z3, if_true])
  rw [← e3]
  intro z3 G3 g3 o3 v3
  have e4 : zL4 A s = zNum A s (gt15 3) (gt12 3) (gt13 3) (zL3 A s).2 := by unfold zL4 zNm; rw [if_neg z3]; rfl
  refine l_read (k := 3) (p := (zL3 A s).2) (by decide) hn hrw g3 hb.2.2.1 ?_ ?_
  · rw [← e4]
    intro z4
    exact stop z4 hb.2.2.2.1.1 (by unfold zL5 zNm; simp only [z4, if_true])
  rw [← e4]
  intro z4 G4 g4 o4 v4
  have e5 : zL5 A s = zNum A s (gt15 4) (gt12 4) (gt13 4) (zL4 A s).2 := by unfold zL5 zNm; rw [if_neg z4]; rfl
  refine l_read (k := 4) (p := (zL4 A s).2) (by decide) hn hrw g4 hb.2.2.2.1 ?_ ?_
  · rw [← e5]
    intro z5
    exact stop z5 hb.2.2.2.2.1 rfl
  rw [← e5]
  intro z5 G5 g5 o5 v5
  have hr := zRw_na g5 hrw
  have ha := zRw_at hr hb.2.2.2.2.1
  have vs : G5 1 ((b : Int) + 52) 0 = (zL1 A s).1 ∧ G5 1 ((b : Int) + 52) 1 = (zL2 A s).1 ∧ G5 1 ((b : Int) + 52) 2 = (zL3 A s).1 ∧ G5 1 ((b : Int) + 52) 3 = (zL4 A s).1 ∧ G5 1 ((b : Int) + 52) 4 = (zL5 A s).1 := by
    refine ⟨?_, ?_, ?_, ?_, v5⟩
    · rw [o5 0 (by decide), o4 0 (by decide), o3 0 (by decide), o2 0 (by decide)]; exact v1
    · rw [o5 1 (by decide), o4 1 (by decide), o3 1 (by decide)]; exact v2
    · rw [o5 2 (by decide), o4 2 (by decide)]; exact v3
    · rw [o5 3 (by decide)]; exact v4
  refine sg_Label_read_4 ⟨⟨fun _ => ⟨hr.1.1, hr.1.1, fun q => ?_, fun q => ?_⟩, fun z => absurd z (by decide)⟩, fun z => ?_⟩
  · have : zLF A s = -1 := by unfold zLF; rw [if_neg (fun y => y.elim z5 (fun y => q (ha.1.mpr y)))]
    exact ⟨this.symm, g5, fun _ => vs⟩
  · have : zLF A s = (zL5 A s).2 := by unfold zLF; rw [if_pos (Or.inr (ha.1.mp q))]
    exact ⟨this.symm, g5, fun _ => vs⟩
  · rcases z with z | z
    · exact absurd z.1 (by decide)
    · exact absurd z.1 (by decide)
