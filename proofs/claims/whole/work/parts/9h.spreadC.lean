/-! THE SPREAD as the class finds it: movers given to places, group by group -/
def zSq1 (A : zA) (L : Int → Int) (p j : Int) : Int := -(zPrice A (L j) p * 281474976710656 + p * zP8 (L j))
def zRm (A : zA) (p : Int) : Int := A 23 p - zTak A p (A 785 0)
def zMo (A : zA) (g k : Int) : Int := zTot A k (A 785 0) - A 31 k - zSta A g k (A 785 0)
def zOk (A : zA) (L : Int → Int) (n p q : Int) : Prop := (∀ j, 0 ≤ j → j < n → zb q j → zGood A p (A 7 (L j))) ∧ (q ≠ 0 → zMS (fun j => A 9 (L j)) q ≤ zRm A p)
def zCt (A : zA) (L f : Int → Int) (n g k : Int) : Int := zS (fun j => if 0 ≤ f j ∧ A 24 (f j) = g ∧ A 7 (L j) = k then 1 else 0) n
def zAx (A : zA) (L : Int → Int) (n : Int) (R Gs : Int → Prop) (s v : Int) : Prop := ∃ f : Int → Int, (∀ j, 0 ≤ j → j < 8 → (zb s j → (0 ≤ f j ∧ f j < A 787 0) ∧ R (f j)) ∧ (¬ zb s j → f j = -1)) ∧ (∀ p, 0 ≤ p → p < A 787 0 → R p → ∀ q, 0 ≤ q → q < zp2 n → (∀ j, 0 ≤ j → j < 8 → (zb q j ↔ f j = p)) → zOk A L n p q) ∧ (∀ g k, 0 ≤ g → g < 4 → Gs g → 0 ≤ k → k < 4 → zCt A L f n g k ≤ zMo A g k) ∧ v = zMS (fun j => zSq1 A L (f j) j) s
theorem zAx_c {A : zA} {L : Int → Int} {n s v : Int} {R Gs R' Gs' : Int → Prop} (h1 : ∀ p, 0 ≤ p → p < A 787 0 → (R p ↔ R' p)) (h2 : ∀ g, 0 ≤ g → g < 4 → (Gs g ↔ Gs' g)) : zAx A L n R Gs s v ↔ zAx A L n R' Gs' s v := by
  constructor
  · rintro ⟨f, a1, a2, a3, a4⟩
    exact ⟨f, fun j j1 j2 => ⟨fun z => ⟨((a1 j j1 j2).1 z).1, (h1 _ ((a1 j j1 j2).1 z).1.1 ((a1 j j1 j2).1 z).1.2).1 ((a1 j j1 j2).1 z).2⟩, (a1 j j1 j2).2⟩, fun p p1 p2 p3 => a2 p p1 p2 ((h1 p p1 p2).2 p3), fun g k g1 g2 g3 => a3 g k g1 g2 ((h2 g g1 g2).2 g3), a4⟩
  · rintro ⟨f, a1, a2, a3, a4⟩
    exact ⟨f, fun j j1 j2 => ⟨fun z => ⟨((a1 j j1 j2).1 z).1, (h1 _ ((a1 j j1 j2).1 z).1.1 ((a1 j j1 j2).1 z).1.2).2 ((a1 j j1 j2).1 z).2⟩, (a1 j j1 j2).2⟩, fun p p1 p2 p3 => a2 p p1 p2 ((h1 p p1 p2).1 p3), fun g k g1 g2 g3 => a3 g k g1 g2 ((h2 g g1 g2).1 g3), a4⟩
theorem zAx_0 {A : zA} {L : Int → Int} {n s v : Int} (hn : n ≤ 8) (hs : 0 ≤ s ∧ s < zp2 n) : zAx A L n (fun _ => False) (fun _ => False) s v ↔ (s = 0 ∧ v = 0) := by
  constructor
  · rintro ⟨f, a1, a2, a3, a4⟩
    have e : s = 0 := zb_ext (n := n) hs ⟨by decide, by have := zp2_1 (n := n); omega⟩ (fun j j1 j2 => ⟨fun z => ((a1 j j1 (by omega)).1 z).2.elim, fun z => absurd z (zb_0 j)⟩)
    rw [e, zMS_0] at a4
    exact ⟨e, a4⟩
  · rintro ⟨rfl, rfl⟩
    exact ⟨fun _ => -1, fun j j1 j2 => ⟨fun z => absurd z (zb_0 j), fun _ => rfl⟩, fun p p1 p2 p3 => p3.elim, fun g k g1 g2 g3 => g3.elim, zMS_0.symm⟩
theorem zAx_1 {A : zA} {L : Int → Int} {n s v p0 : Int} (hn : n ≤ 8) (hs : 0 ≤ s ∧ s < zp2 n) (hp : 0 ≤ p0 ∧ p0 < A 787 0) : zAx A L n (fun p => p = p0) (fun _ => False) s v ↔ (zOk A L n p0 s ∧ v = zMS (zSq1 A L p0) s) := by
  constructor
  · rintro ⟨f, a1, a2, a3, a4⟩
    have fb : ∀ j, 0 ≤ j → j < 8 → (zb s j ↔ f j = p0) := fun j j1 j2 => ⟨fun z => ((a1 j j1 j2).1 z).2, fun z => by
      by_cases y : zb s j
      · exact y
      · have := (a1 j j1 j2).2 y
        omega⟩
    refine ⟨a2 p0 hp.1 hp.2 rfl s hs.1 hs.2 fb, ?_⟩
    rw [a4]
    exact zMS_c (fun j j1 j2 z => by
      show zSq1 A L (f j) j = zSq1 A L p0 j
      rw [(fb j j1 j2).1 z])
  · rintro ⟨h1, h2⟩
    refine ⟨fun j => if zb s j then p0 else -1, fun j j1 j2 => ⟨fun z => ?_, fun z => ?_⟩, fun p p1 p2 p3 q q1 q2 hq => ?_, fun g k g1 g2 g3 => g3.elim, ?_⟩
    · show (0 ≤ (if zb s j then p0 else -1) ∧ (if zb s j then p0 else -1) < A 787 0) ∧ (if zb s j then p0 else -1) = p0
      rw [if_pos z]
      exact ⟨hp, rfl⟩
    · show (if zb s j then p0 else -1) = -1
      rw [if_neg z]
    · have e : q = s := zb_ext (n := n) ⟨q1, q2⟩ hs (fun j j1 j2 => by
        rw [hq j j1 (by omega)]
        show (if zb s j then p0 else -1) = p ↔ zb s j
        by_cases z : zb s j
        · rw [if_pos z]; exact ⟨fun _ => z, fun _ => p3.symm⟩
        · rw [if_neg z]; exact ⟨fun y => by omega, fun y => absurd y z⟩)
      rw [e, p3]
      exact h1
    · rw [h2]
      exact zMS_c (fun j j1 j2 z => by
        show zSq1 A L p0 j = zSq1 A L (if zb s j then p0 else -1) j
        rw [if_pos z])
/-- how many of a kind a set has -/
def zCs (A : zA) (L : Int → Int) (n s k : Int) : Int := zS (fun j => if zb s j ∧ A 7 (L j) = k then 1 else 0) n
theorem zAx_g {A : zA} {L : Int → Int} {n s v g : Int} (hn : 0 ≤ n ∧ n ≤ 8) (hg : 0 ≤ g ∧ g < 4) : zAx A L n (fun p => A 24 p = g) (fun x => x = g) s v ↔ (zAx A L n (fun p => A 24 p = g) (fun _ => False) s v ∧ ∀ k, 0 ≤ k → k < 4 → zCs A L n s k ≤ zMo A g k) := by
  have ec : ∀ f : Int → Int, (∀ j, 0 ≤ j → j < 8 → (zb s j → (0 ≤ f j ∧ f j < A 787 0) ∧ A 24 (f j) = g) ∧ (¬ zb s j → f j = -1)) → ∀ k, zCt A L f n g k = zCs A L n s k := fun f a1 k => zS_eq n hn.1 (fun j j1 j2 => by
    show (if 0 ≤ f j ∧ A 24 (f j) = g ∧ A 7 (L j) = k then (1 : Int) else 0) = if zb s j ∧ A 7 (L j) = k then 1 else 0
    have w := a1 j j1 (by omega)
    by_cases z : zb s j
    · have x := w.1 z
      by_cases y : A 7 (L j) = k
      · rw [if_pos ⟨x.1.1, x.2, y⟩, if_pos ⟨z, y⟩]
      · rw [if_neg (fun q => y q.2.2), if_neg (fun q => y q.2)]
    · have x := w.2 z
      rw [if_neg (fun q => by omega), if_neg (fun q => z q.1)])
  constructor
  · rintro ⟨f, a1, a2, a3, a4⟩
    exact ⟨⟨f, a1, a2, fun g k g1 g2 g3 => g3.elim, a4⟩, fun k k1 k2 => by rw [← ec f a1]; exact a3 g k hg.1 hg.2 rfl k1 k2⟩
  · rintro ⟨⟨f, a1, a2, a3, a4⟩, h⟩
    exact ⟨f, a1, a2, fun g' k g1 g2 g3 k1 k2 => by rw [g3, ec f a1]; exact h k k1 k2, a4⟩
theorem zAx_j {A : zA} {L : Int → Int} {n s v : Int} {R1 R2 H1 H2 : Int → Prop} (hn : 0 ≤ n ∧ n ≤ 8) (hs : 0 ≤ s ∧ s < zp2 n) (hd : ∀ p, R1 p → R2 p → False) (h12 : ∀ g p, H1 g → R2 p → A 24 p ≠ g) (h21 : ∀ g p, H2 g → R1 p → A 24 p ≠ g) : zAx A L n (fun p => R1 p ∨ R2 p) (fun g => H1 g ∨ H2 g) s v ↔ zCu (zAx A L n R1 H1) (zAx A L n R2 H2) s v := by
  have b8 := zp2_b hn.2
  have hs2 : 0 ≤ s ∧ s < 256 := ⟨hs.1, by omega⟩
  have e8 : zp2 ((8 : Nat) : Int) = 256 := zp2_8
  constructor
  · rintro ⟨f, a1, a2, a3, a4⟩
    obtain ⟨q, hq, hb⟩ := zmk (fun j => zb s j ∧ R1 (f j)) 8
    rw [e8] at hq
    have hp : zPr q s := zPr_of hq hs2 (fun j j1 j2 z => ((hb j j1 j2).1 z).1)
    have hx := zPr_xor hs2 hp
    have bx : ∀ j, 0 ≤ j → j < 8 → (zb (gxor s q) j ↔ (zb s j ∧ ¬ R1 (f j))) := fun j j1 j2 => by
      rw [hx.2 j j1 j2, hb j j1 j2]
      exact ⟨fun z => ⟨z.1, fun y => z.2 ⟨z.1, y⟩⟩, fun z => ⟨z.1, fun y => z.2 y.2⟩⟩
    have le : ∀ (c : Int → Int) g k, (∀ j, 0 ≤ j → j < 8 → c j = f j ∨ c j = -1) → zCt A L c n g k ≤ zCt A L f n g k := fun c g k hc => zS_le n hn.1 (fun j j1 j2 => by
      show (if 0 ≤ c j ∧ A 24 (c j) = g ∧ A 7 (L j) = k then (1 : Int) else 0) ≤ if 0 ≤ f j ∧ A 24 (f j) = g ∧ A 7 (L j) = k then 1 else 0
      rcases hc j j1 (by omega) with z | z
      · rw [z]; exact Int.le_refl _
      · rw [if_neg (fun y => by omega)]; exact z01.1)
    refine ⟨q, hp, _, _, ⟨fun j => if zb q j then f j else -1, fun j j1 j2 => ⟨fun z => ?_, fun z => ?_⟩, fun p p1 p2 p3 r r1 r2 hr => a2 p p1 p2 (Or.inl p3) r r1 r2 (fun j j1 j2 => ?_), fun g k g1 g2 g3 k1 k2 => Int.le_trans (le _ g k (fun j _ _ => ?_)) (a3 g k g1 g2 (Or.inl g3) k1 k2), rfl⟩, ⟨fun j => if zb (gxor s q) j then f j else -1, fun j j1 j2 => ⟨fun z => ?_, fun z => ?_⟩, fun p p1 p2 p3 r r1 r2 hr => a2 p p1 p2 (Or.inr p3) r r1 r2 (fun j j1 j2 => ?_), fun g k g1 g2 g3 k1 k2 => Int.le_trans (le _ g k (fun j _ _ => ?_)) (a3 g k g1 g2 (Or.inr g3) k1 k2), rfl⟩, ?_⟩
    · show (0 ≤ (if zb q j then f j else -1) ∧ (if zb q j then f j else -1) < A 787 0) ∧ R1 (if zb q j then f j else -1)
      rw [if_pos z]
      have w := (hb j j1 j2).1 z
      exact ⟨((a1 j j1 j2).1 w.1).1, w.2⟩
    · show (if zb q j then f j else -1) = -1
      rw [if_neg z]
    · rw [hr j j1 j2]
      show (if zb q j then f j else -1) = p ↔ f j = p
      by_cases z : zb q j
      · rw [if_pos z]
      · rw [if_neg z]
        refine ⟨fun y => by omega, fun y => absurd ((hb j j1 j2).2 ⟨?_, by rw [y]; exact p3⟩) z⟩
        by_cases x : zb s j
        · exact x
        · have := (a1 j j1 j2).2 x
          omega
    · show (if zb q j then f j else -1) = f j ∨ (if zb q j then f j else -1) = -1
      split
      · exact Or.inl rfl
      · exact Or.inr rfl
    · show (0 ≤ (if zb (gxor s q) j then f j else -1) ∧ (if zb (gxor s q) j then f j else -1) < A 787 0) ∧ R2 (if zb (gxor s q) j then f j else -1)
      rw [if_pos z]
      have w := (bx j j1 j2).1 z
      have x := (a1 j j1 j2).1 w.1
      exact ⟨x.1, x.2.elim (fun y => absurd y w.2) id⟩
    · show (if zb (gxor s q) j then f j else -1) = -1
      rw [if_neg z]
    · rw [hr j j1 j2]
      show (if zb (gxor s q) j then f j else -1) = p ↔ f j = p
      by_cases z : zb (gxor s q) j
      · rw [if_pos z]
      · rw [if_neg z]
        refine ⟨fun y => by omega, fun y => absurd ((bx j j1 j2).2 ⟨?_, fun x => hd p (by rw [← y]; exact x) p3⟩) z⟩
        by_cases x : zb s j
        · exact x
        · have := (a1 j j1 j2).2 x
          omega
    · show (if zb (gxor s q) j then f j else -1) = f j ∨ (if zb (gxor s q) j then f j else -1) = -1
      split
      · exact Or.inl rfl
      · exact Or.inr rfl
    · rw [a4, zMS_xor hs2 hp]
      rw [zMS_c (s := q) (w := fun j => zSq1 A L (f j) j) (w' := fun j => zSq1 A L (if zb q j then f j else -1) j) (fun j j1 j2 z => by
        show zSq1 A L (f j) j = zSq1 A L (if zb q j then f j else -1) j
        rw [if_pos z])]
      rw [zMS_c (s := gxor s q) (w := fun j => zSq1 A L (f j) j) (w' := fun j => zSq1 A L (if zb (gxor s q) j then f j else -1) j) (fun j j1 j2 z => by
        show zSq1 A L (f j) j = zSq1 A L (if zb (gxor s q) j then f j else -1) j
        rw [if_pos z])]
  · rintro ⟨q, hp, x, y, ⟨f1, a1, a2, a3, a4⟩, ⟨f2, c1, c2, c3, c4⟩, rfl⟩
    have hx := zPr_xor hs2 hp
    have bx : ∀ j, 0 ≤ j → j < 8 → (zb (gxor s q) j ↔ (zb s j ∧ ¬ zb q j)) := hx.2
    refine ⟨fun j => if zb q j then f1 j else f2 j, fun j j1 j2 => ⟨fun z => ?_, fun z => ?_⟩, fun p p1 p2 p3 r r1 r2 hr => ?_, fun g k g1 g2 g3 k1 k2 => ?_, ?_⟩
    · show (0 ≤ (if zb q j then f1 j else f2 j) ∧ (if zb q j then f1 j else f2 j) < A 787 0) ∧ (R1 (if zb q j then f1 j else f2 j) ∨ R2 (if zb q j then f1 j else f2 j))
      by_cases w : zb q j
      · rw [if_pos w]
        have u := (a1 j j1 j2).1 w
        exact ⟨u.1, Or.inl u.2⟩
      · rw [if_neg w]
        have u := (c1 j j1 j2).1 ((bx j j1 j2).2 ⟨z, w⟩)
        exact ⟨u.1, Or.inr u.2⟩
    · show (if zb q j then f1 j else f2 j) = -1
      rw [if_neg (fun w => z (hp.2 j j1 j2 w))]
      exact (c1 j j1 j2).2 (fun w => z ((bx j j1 j2).1 w).1)
    · rcases p3 with p3 | p3
      · refine a2 p p1 p2 p3 r r1 r2 (fun j j1 j2 => ?_)
        rw [hr j j1 j2]
        show (if zb q j then f1 j else f2 j) = p ↔ f1 j = p
        by_cases w : zb q j
        · rw [if_pos w]
        · rw [if_neg w, (a1 j j1 j2).2 w]
          refine ⟨fun u => ?_, fun u => by omega⟩
          by_cases w2 : zb (gxor s q) j
          · have v := (c1 j j1 j2).1 w2
            exact absurd (by rw [← u]; exact v.2) (fun y => hd p p3 y)
          · have := (c1 j j1 j2).2 w2
            omega
      · refine c2 p p1 p2 p3 r r1 r2 (fun j j1 j2 => ?_)
        rw [hr j j1 j2]
        show (if zb q j then f1 j else f2 j) = p ↔ f2 j = p
        by_cases w : zb q j
        · rw [if_pos w, (c1 j j1 j2).2 (fun u => ((bx j j1 j2).1 u).2 w)]
          refine ⟨fun u => ?_, fun u => by omega⟩
          have v := (a1 j j1 j2).1 w
          exact absurd (by rw [← u]; exact v.2) (fun y => hd p y p3)
        · rw [if_neg w]
    · rcases g3 with g3 | g3
      · have e : zCt A L (fun j => if zb q j then f1 j else f2 j) n g k = zCt A L f1 n g k := zS_eq n hn.1 (fun j j1 j2 => by
          show (if 0 ≤ (if zb q j then f1 j else f2 j) ∧ A 24 (if zb q j then f1 j else f2 j) = g ∧ A 7 (L j) = k then (1 : Int) else 0) = if 0 ≤ f1 j ∧ A 24 (f1 j) = g ∧ A 7 (L j) = k then 1 else 0
          by_cases w : zb q j
          · rw [if_pos w]
          · rw [if_neg w, if_neg (fun u : 0 ≤ f1 j ∧ A 24 (f1 j) = g ∧ A 7 (L j) = k => by have := (a1 j j1 (by omega)).2 w; omega)]
            refine if_neg (fun u => ?_)
            by_cases w2 : zb (gxor s q) j
            · exact h12 g _ g3 ((c1 j j1 (by omega)).1 w2).2 u.2.1
            · have := (c1 j j1 (by omega)).2 w2
              omega)
        rw [e]
        exact a3 g k g1 g2 g3 k1 k2
      · have e : zCt A L (fun j => if zb q j then f1 j else f2 j) n g k = zCt A L f2 n g k := zS_eq n hn.1 (fun j j1 j2 => by
          show (if 0 ≤ (if zb q j then f1 j else f2 j) ∧ A 24 (if zb q j then f1 j else f2 j) = g ∧ A 7 (L j) = k then (1 : Int) else 0) = if 0 ≤ f2 j ∧ A 24 (f2 j) = g ∧ A 7 (L j) = k then 1 else 0
          by_cases w : zb q j
          · rw [if_pos w, if_neg (fun u : 0 ≤ f2 j ∧ A 24 (f2 j) = g ∧ A 7 (L j) = k => by have := (c1 j j1 (by omega)).2 (fun u => ((bx j j1 (by omega)).1 u).2 w); omega)]
            exact if_neg (fun u => h21 g _ g3 ((a1 j j1 (by omega)).1 w).2 u.2.1)
          · rw [if_neg w])
        rw [e]
        exact c3 g k g1 g2 g3 k1 k2
    · rw [zMS_xor hs2 hp, a4, c4]
      rw [zMS_c (s := q) (w' := fun j => zSq1 A L (f1 j) j) (w := fun j => zSq1 A L (if zb q j then f1 j else f2 j) j) (fun j j1 j2 z => by
        show zSq1 A L (if zb q j then f1 j else f2 j) j = zSq1 A L (f1 j) j
        rw [if_pos z])]
      rw [zMS_c (s := gxor s q) (w' := fun j => zSq1 A L (f2 j) j) (w := fun j => zSq1 A L (if zb q j then f1 j else f2 j) j) (fun j j1 j2 z => by
        show zSq1 A L (if zb q j then f1 j else f2 j) j = zSq1 A L (f2 j) j
        rw [if_neg ((bx j j1 j2).1 z).2])]
theorem zSq1_b {A : zA} {L : Int → Int} {P : Int → Prop} {D : Int → Int} {n p j : Int} (hB : zB 512 A) (hE : zEnum P D (A 785 0) n L) (hp : 0 ≤ p ∧ p < A 787 0) (hj : 0 ≤ j ∧ j < n) : -20547673299877888 ≤ zSq1 A L p j ∧ zSq1 A L p j ≤ 0 := by
  have b0 : 0 ≤ A 785 0 ∧ A 785 0 ≤ 16 := hB 785 0
  have bpl : 0 ≤ A 787 0 ∧ A 787 0 ≤ 5 := hB 787 0
  have o := (hE.2.1 j hj.1 hj.2).1
  have pr := zPrice_b (t := L j) (p := p) hB
  have bp := zP8_b (t := L j) (by omega)
  have m1 : 0 ≤ p * zP8 (L j) ∧ p * zP8 (L j) ≤ 4 * 35184372088832 := zmul_b ⟨hp.1, by omega⟩ ⟨by omega, bp.2⟩
  unfold zSq1
  omega
theorem zAx_b {A : zA} {L : Int → Int} {P : Int → Prop} {D : Int → Int} {n : Int} {R Gs : Int → Prop} (hB : zB 512 A) (hE : zEnum P D (A 785 0) n L) : zVb n 164381386399023104 (zAx A L n R Gs) := fun s v s1 s2 h => by
  obtain ⟨f, a1, -, -, a4⟩ := h
  have k := zMS_b (w := fun j => zSq1 A L (f j) j) (s := s) (c := 0) (d := 20547673299877888) (fun i i1 i2 z => by
    have jn : i < n := by
      by_cases y : i < n
      · exact y
      · exact absurd z (zb_hi ⟨s1, s2⟩ (by omega))
    exact zSq1_b hB hE ((a1 i i1 i2).1 z).1 ⟨i1, jn⟩) (by decide) (by decide)
  rw [a4]
  omega
