/-! THE PLANS: what they rest on -/
theorem zEnum_u {P : Int → Prop} [DecidablePred P] {D O O' : Int → Int} {T n n' : Int} (h : zEnum P D T n O) (h' : zEnum P D T n' O') : n = n' ∧ ∀ i, 0 ≤ i → i < n → O i = O' i := by
  have one : ∀ {O : Int → Int} (j : Int), 0 ≤ j → zS (fun _ => (1 : Int)) j = j := fun {O} j hj => by
    refine zloopI (i := 0) (I := fun i => zS (fun _ => (1 : Int)) i = i) (P := fun _ => zS (fun _ => (1 : Int)) j = j) j hj rfl ?_ (fun q => q) (fun j h1 h2 hi q => q)
    intro i i1 i2 hi
    rw [zS_s i1, hi]
  have hn : n = n' := by
    have e1 := zEnum_all h (fun _ => 1)
    have e2 := zEnum_all h' (fun _ => 1)
    rw [← e2, one (O := O) n h.1.1, one (O := O) n' h'.1.1] at e1
    exact e1
  subst hn
  refine ⟨rfl, fun i i1 i2 => ?_⟩
  have hm := h.2.1 i i1 i2
  obtain ⟨k, hk, ek⟩ := h'.2.2.2 (O i) hm.1.1 hm.1.2 hm.2
  have e1 := zEnum_pre h (fun _ => 1) ⟨i1, i2⟩
  have e2 := zEnum_pre h' (fun _ => 1) hk
  rw [ek, ← e1, one (O := O) i i1, one (O := O) k hk.1] at e2
  rw [← ek, e2]
theorem zS_le {f g : Int → Int} (n : Int) (hn : 0 ≤ n) (h : ∀ i, 0 ≤ i → i < n → f i ≤ g i) : zS f n ≤ zS g n := by
  refine zloopI (i := 0) (I := fun i => zS f i ≤ zS g i) (P := fun _ => zS f n ≤ zS g n) n hn (Int.le_refl _) ?_ (fun q => q) (fun j h1 h2 hi q => q)
  intro j h1 h2 hi
  rw [zS_s h1, zS_s h1]
  have := h j h1 h2
  omega
/-- a giving, changed at one thing -/
def zSet (F : Int → Int) (t v : Int) : Int → Int := fun i => if i = t then v else F i
theorem zSet_eq {F : Int → Int} {t v : Int} : zSet F t v t = v := if_pos rfl
theorem zSet_ne {F : Int → Int} {t v i : Int} (h : i ≠ t) : zSet F t v i = F i := if_neg h
theorem zBeg_mono {A : zA} {g g' : Int → Int} {k t : Int} (hT : 0 ≤ A 785 0) (hL : ∀ i, 0 ≤ i → i < A 785 0 → zIn A i → 0 ≤ zLen A i) (h : ∀ i, 0 ≤ i → i < A 785 0 → zGv A g k i → zGv A g' k i) : zBeg A g k t ≤ zBeg A g' k t := by
  unfold zBeg
  have := zS_le (f := fun i => if zGv A g k i ∧ zBf (zDue A) i t then zLen A i else 0) (g := fun i => if zGv A g' k i ∧ zBf (zDue A) i t then zLen A i else 0) (A 785 0) hT (fun i h1 h2 => by
    show (if zGv A g k i ∧ zBf (zDue A) i t then zLen A i else 0) ≤ if zGv A g' k i ∧ zBf (zDue A) i t then zLen A i else 0
    by_cases q : zGv A g k i ∧ zBf (zDue A) i t
    · rw [if_pos q, if_pos ⟨h i h1 h2 q.1, q.2⟩]; exact Int.le_refl _
    · rw [if_neg q]
      split
      · rename_i w; exact hL i h1 h2 w.1.2
      · exact Int.le_refl _)
  omega
/-- a team that can do a set can do its parts -/
theorem zDo_mono {A : zA} {g g' : Int → Int} {k : Int} (hT : 0 ≤ A 785 0) (hL : ∀ i, 0 ≤ i → i < A 785 0 → zIn A i → 0 ≤ zLen A i) (h : ∀ i, 0 ≤ i → i < A 785 0 → zGv A g k i → zGv A g' k i) (q : zDo A g' k) : zDo A g k := by
  intro t t1 t2 ht
  have w := q t t1 t2 (h t t1 t2 ht)
  exact ⟨w.1, Int.le_trans (zBeg_mono hT hL h) w.2⟩
theorem zDo_c {A : zA} {g g' : Int → Int} {k : Int} (hT : 0 ≤ A 785 0) (hL : ∀ i, 0 ≤ i → i < A 785 0 → zIn A i → 0 ≤ zLen A i) (h : ∀ i, 0 ≤ i → i < A 785 0 → (zGv A g k i ↔ zGv A g' k i)) : zDo A g k ↔ zDo A g' k :=
  ⟨zDo_mono hT hL (fun i h1 h2 => (h i h1 h2).mpr), zDo_mono hT hL (fun i h1 h2 => (h i h1 h2).mp)⟩
theorem zEnds_c {A : zA} {g g' : Int → Int} {k : Int} (hT : 0 ≤ A 785 0) (h : ∀ i, 0 ≤ i → i < A 785 0 → (zGv A g k i ↔ zGv A g' k i)) : zEnds A g k = zEnds A g' k := by
  unfold zEnds
  rw [zS_eq (f := fun i => if zGv A g k i then zLen A i else 0) (g := fun i => if zGv A g' k i then zLen A i else 0) (A 785 0) hT (fun i h1 h2 => by
    show (if zGv A g k i then zLen A i else 0) = if zGv A g' k i then zLen A i else 0
    by_cases q : zGv A g k i
    · rw [if_pos q, if_pos ((h i h1 h2).mp q)]
    · rw [if_neg q, if_neg (fun z => q ((h i h1 h2).mpr z))])]
theorem zLen_0 {A : zA} (h : zB 512 A) (hI : zIr A) : ∀ i, 0 ≤ i → i < A 785 0 → zIn A i → 0 ≤ zLen A i := fun i h1 h2 q => by
  have b0 : 0 ≤ A 785 0 ∧ A 785 0 ≤ 16 := h 785 0
  have := zLen_b (zR_of h hI (t := i) (by omega) q)
  omega
/-! THE PLAN BY RULE -/
abbrev zJb (A : zA) : Int → Prop := fun t => zIn A t ∧ zFar A t ≠ -1
def zRt (A : zA) (t : Int) : Int := A 8 t * 1000 / zLen A t
/-- the team that is through first with a thing more -/
noncomputable def zTmN (A : zA) (F : Int → Int) (t : Int) : Nat → Int × Int
  | 0 => (-1, 0)
  | k + 1 => zIf (zDo A (zSet F t k) k ∧ ((zTmN A F t k).1 = -1 ∨ zEnds A (zSet F t k) k < (zTmN A F t k).2)) ((k : Int), zEnds A (zSet F t k) k) (zTmN A F t k)
noncomputable def zTm (A : zA) (F : Int → Int) (t k : Int) : Int × Int := zTmN A F t k.toNat
theorem zTm_s {A : zA} {F : Int → Int} {t k : Int} (h : 0 ≤ k) : zTm A F t (k + 1) = zIf (zDo A (zSet F t k) k ∧ ((zTm A F t k).1 = -1 ∨ zEnds A (zSet F t k) k < (zTm A F t k).2)) (k, zEnds A (zSet F t k) k) (zTm A F t k) := by
  unfold zTm
  rw [show (k + 1).toNat = k.toNat + 1 from by omega, zTmN, show (k.toNat : Int) = k from by omega]
theorem zTm_b {A : zA} {F : Int → Int} {t : Int} (k : Int) (h : 0 ≤ k) : (zTm A F t k).1 = -1 ∨ (0 ≤ (zTm A F t k).1 ∧ (zTm A F t k).1 < k) := by
  refine zloopI (i := 0) (I := fun k => (zTm A F t k).1 = -1 ∨ (0 ≤ (zTm A F t k).1 ∧ (zTm A F t k).1 < k)) (P := fun _ => (zTm A F t k).1 = -1 ∨ (0 ≤ (zTm A F t k).1 ∧ (zTm A F t k).1 < k)) k h (Or.inl rfl) ?_ (fun q => q) (fun j h1 h2 hi q => q)
  intro j h1 h2 hi
  show (zTm A F t (j + 1)).1 = -1 ∨ (0 ≤ (zTm A F t (j + 1)).1 ∧ (zTm A F t (j + 1)).1 < j + 1)
  rw [zTm_s h1]
  by_cases q : zDo A (zSet F t j) j ∧ ((zTm A F t j).1 = -1 ∨ zEnds A (zSet F t j) j < (zTm A F t j).2)
  · rw [zIf_pos q]; exact Or.inr ⟨h1, by show j < j + 1; omega⟩
  · rw [zIf_neg q]; omega
/-- the giving and its worth when the first things of an order have been given -/
noncomputable def zRuN (A : zA) (O : Int → Int) : Nat → (Int → Int) × Int
  | 0 => (fun _ => -1, 0)
  | i + 1 => (zSet (zRuN A O i).1 (O i) (zTm A (zRuN A O i).1 (O i) (A 786 0)).1, (zRuN A O i).2 + if (zTm A (zRuN A O i).1 (O i) (A 786 0)).1 = -1 then 0 else A 8 (O i))
noncomputable def zRu (A : zA) (O : Int → Int) (i : Int) : (Int → Int) × Int := zRuN A O i.toNat
theorem zRu_s {A : zA} {O : Int → Int} {i : Int} (h : 0 ≤ i) : zRu A O (i + 1) = (zSet (zRu A O i).1 (O i) (zTm A (zRu A O i).1 (O i) (A 786 0)).1, (zRu A O i).2 + if (zTm A (zRu A O i).1 (O i) (A 786 0)).1 = -1 then 0 else A 8 (O i)) := by
  unfold zRu
  rw [show (i + 1).toNat = i.toNat + 1 from by omega, zRuN, show (i.toNat : Int) = i from by omega]
theorem zRu_c {A : zA} {O O' : Int → Int} (n : Int) (hn : 0 ≤ n) (h : ∀ i, 0 ≤ i → i < n → O i = O' i) : zRu A O n = zRu A O' n := by
  refine zloopI (i := 0) (I := fun i => zRu A O i = zRu A O' i) (P := fun _ => zRu A O n = zRu A O' n) n hn rfl ?_ (fun q => q) (fun j h1 h2 hi q => q)
  intro j h1 h2 hi
  rw [zRu_s h1, zRu_s h1, hi, h j h1 h2]
/-- the plan by rule and its worth -/
noncomputable def zRule (A : zA) : (Int → Int) × Int := @dite _ (∃ p : Int × (Int → Int), zEnum (zJb A) (fun t => -zRt A t) (A 785 0) p.1 p.2) (Classical.propDecidable _) (fun h => zRu A (Classical.choose h).2 (Classical.choose h).1) (fun _ => (fun _ => -1, 0))
theorem zRule_u {A : zA} {n : Int} {O : Int → Int} (h : zEnum (zJb A) (fun t => -zRt A t) (A 785 0) n O) : zRule A = zRu A O n := by
  have hx : ∃ p : Int × (Int → Int), zEnum (zJb A) (fun t => -zRt A t) (A 785 0) p.1 p.2 := ⟨(n, O), h⟩
  have e : zRule A = zRu A (Classical.choose hx).2 (Classical.choose hx).1 := dif_pos hx
  have w := zEnum_u h (Classical.choose_spec hx)
  rw [e, ← w.1]
  exact (zRu_c n h.1.1 w.2).symm
