/-! THE PLAN BY BEST: the greatest of all -/
def zDg (v : Int) : Int := if v = -1 then 0 else 3 - v
def zP4 (t : Int) : Int := (4 : Int) ^ (15 - t).toNat
def zW (A : zA) (F : Int → Int) : Int := zS (fun t => if F t = -1 then 0 else A 8 t) (A 785 0)
def zTt (A : zA) (F : Int → Int) : Int := zS (fun t => zDg (F t) * zP4 t) (A 785 0)
/-- a giving of jobs that teams can do -/
def zVd (A : zA) (F : Int → Int) : Prop := (∀ t, 0 ≤ t → t < A 785 0 → F t = -1 ∨ (zIn A t ∧ 0 ≤ F t ∧ F t < A 786 0)) ∧ ∀ k, 0 ≤ k → k < A 786 0 → zDo A F k
def zIsB (A : zA) (F : Int → Int) : Prop := zVd A F ∧ ∀ E, zVd A E → zW A E < zW A F ∨ (zW A E = zW A F ∧ zTt A E ≤ zTt A F)
theorem zP4_0 (t : Int) : 0 < zP4 t := Int.pow_pos (by decide)
theorem zP4_s {t : Int} (h : t < 15) : zP4 t = 4 * zP4 (t + 1) := by
  unfold zP4
  rw [show (15 - t).toNat = (15 - (t + 1)).toNat + 1 from by omega, Int.pow_succ]
  omega
theorem zTt_lt {A : zA} {F E : Int → Int} {t0 : Int} (hT : A 785 0 ≤ 16) (hF : ∀ t, 0 ≤ t → t < A 785 0 → 0 ≤ zDg (F t) ∧ zDg (F t) ≤ 3) (hE : ∀ t, 0 ≤ t → t < A 785 0 → 0 ≤ zDg (E t) ∧ zDg (E t) ≤ 3) (h0 : 0 ≤ t0 ∧ t0 < A 785 0) (he : ∀ t, 0 ≤ t → t < t0 → E t = F t) (hl : zDg (E t0) < zDg (F t0)) : zTt A E < zTt A F := by
  have key : zS (fun t => zDg (E t) * zP4 t) (A 785 0) + zP4 (A 785 0 - 1) ≤ zS (fun t => zDg (F t) * zP4 t) (A 785 0) := by
    refine zloopI (i := t0 + 1) (I := fun n => zS (fun t => zDg (E t) * zP4 t) n + zP4 (n - 1) ≤ zS (fun t => zDg (F t) * zP4 t) n) (P := fun _ => zS (fun t => zDg (E t) * zP4 t) (A 785 0) + zP4 (A 785 0 - 1) ≤ zS (fun t => zDg (F t) * zP4 t) (A 785 0)) (A 785 0) (by omega) ?_ ?_ (fun q => q) (fun j h1 h2 hi q => q)
    · rw [zS_s h0.1, zS_s h0.1, zS_eq (f := fun t => zDg (E t) * zP4 t) (g := fun t => zDg (F t) * zP4 t) t0 h0.1 (fun i i1 i2 => by show zDg (E i) * zP4 i = zDg (F i) * zP4 i; rw [he i i1 i2]), Int.add_sub_cancel]
      have h1 : (zDg (E t0) + 1) * zP4 t0 ≤ zDg (F t0) * zP4 t0 := Int.mul_le_mul_of_nonneg_right (by omega) (by have := zP4_0 t0; omega)
      rw [Int.add_mul] at h1
      omega
    · intro n n1 n2 hi
      rw [zS_s (by omega), zS_s (by omega), Int.add_sub_cancel]
      have e1 := zP4_s (t := n - 1) (by omega)
      rw [Int.sub_add_cancel] at e1
      have f1 := hF n (by omega) n2
      have g1 := hE n (by omega) n2
      have p1 := zP4_0 n
      have h1 : zDg (E n) * zP4 n ≤ 3 * zP4 n := Int.mul_le_mul_of_nonneg_right g1.2 (by omega)
      have h2 : 0 ≤ zDg (F n) * zP4 n := Int.mul_nonneg f1.1 (by omega)
      omega
  have := zP4_0 (A 785 0 - 1)
  unfold zTt
  omega
theorem zVd_dg {A : zA} {F : Int → Int} (hT : A 786 0 ≤ 3) (h : zVd A F) : ∀ t, 0 ≤ t → t < A 785 0 → 0 ≤ zDg (F t) ∧ zDg (F t) ≤ 3 := fun t t1 t2 => by
  have := h.1 t t1 t2
  unfold zDg
  split <;> omega
theorem zVd_c {A : zA} {F E : Int → Int} (h0 : 0 ≤ A 785 0) (hL : ∀ i, 0 ≤ i → i < A 785 0 → zIn A i → 0 ≤ zLen A i) (e : ∀ t, 0 ≤ t → t < A 785 0 → E t = F t) (h : zVd A F) : zVd A E := by
  refine ⟨fun t t1 t2 => by rw [e t t1 t2]; exact h.1 t t1 t2, fun k k1 k2 => (zDo_c h0 hL (fun i i1 i2 => ?_)).mpr (h.2 k k1 k2)⟩
  unfold zGv
  rw [e i i1 i2]
theorem zW_c {A : zA} {F E : Int → Int} (h0 : 0 ≤ A 785 0) (e : ∀ t, 0 ≤ t → t < A 785 0 → E t = F t) : zW A E = zW A F :=
  zS_eq (A 785 0) h0 (fun i i1 i2 => by show (if E i = -1 then 0 else A 8 i) = if F i = -1 then 0 else A 8 i; rw [e i i1 i2])
theorem zTt_c {A : zA} {F E : Int → Int} (h0 : 0 ≤ A 785 0) (e : ∀ t, 0 ≤ t → t < A 785 0 → E t = F t) : zTt A E = zTt A F :=
  zS_eq (A 785 0) h0 (fun i i1 i2 => by show zDg (E i) * zP4 i = zDg (F i) * zP4 i; rw [e i i1 i2])
theorem zDg_i {v w : Int} (hv : v = -1 ∨ (0 ≤ v ∧ v < 3)) (hw : w = -1 ∨ (0 ≤ w ∧ w < 3)) (h : zDg v = zDg w) : v = w := by
  unfold zDg at h
  split at h <;> split at h <;> omega
/-- there is one best plan alone -/
theorem zIsB_u {A : zA} {F E : Int → Int} (hT : A 785 0 ≤ 16) (hM : A 786 0 ≤ 3) (hF : zIsB A F) (hE : zIsB A E) : (∀ t, 0 ≤ t → t < A 785 0 → E t = F t) ∧ zW A E = zW A F := by
  have h1 := hF.2 E hE.1
  have h2 := hE.2 F hF.1
  refine ⟨?_, by omega⟩
  have key : ∀ (r : Nat) (t : Int), t = r → t < A 785 0 → (∀ i, 0 ≤ i → i < t → E i = F i) → E t = F t := by
    intro r t hr t2 ih
    refine zDg_i ?_ ?_ ?_
    · have := hE.1.1 t (by omega) t2; omega
    · have := hF.1.1 t (by omega) t2; omega
    · by_cases q : zDg (E t) < zDg (F t)
      · have := zTt_lt hT (zVd_dg hM hF.1) (zVd_dg hM hE.1) ⟨by omega, t2⟩ ih q
        omega
      · by_cases q2 : zDg (F t) < zDg (E t)
        · have := zTt_lt hT (zVd_dg hM hE.1) (zVd_dg hM hF.1) ⟨by omega, t2⟩ (fun i i1 i2 => (ih i i1 i2).symm) q2
          omega
        · omega
  have all : ∀ (r : Nat) (t : Int), 0 ≤ t → t < r → t < A 785 0 → E t = F t := by
    intro r
    induction r with
    | zero => intro t t1 t2; omega
    | succ r ih =>
      intro t t1 t2 t3
      exact key t.toNat t (by omega) t3 (fun i i1 i2 => ih i i1 (by omega) (by omega))
  exact fun t t1 t2 => all (t.toNat + 1) t t1 (by omega) t2
/-- the best plan and its worth -/
noncomputable def zBest (A : zA) : (Int → Int) × Int := @dite _ (∃ F, zIsB A F) (Classical.propDecidable _) (fun h => (Classical.choose h, zW A (Classical.choose h))) (fun _ => (fun _ => -1, 0))
theorem zBest_u {A : zA} {F : Int → Int} (hT : A 785 0 ≤ 16) (hM : A 786 0 ≤ 3) (h : zIsB A F) : (∀ t, 0 ≤ t → t < A 785 0 → F t = (zBest A).1 t) ∧ zW A F = (zBest A).2 := by
  have hx : ∃ F, zIsB A F := ⟨F, h⟩
  have e : zBest A = (Classical.choose hx, zW A (Classical.choose hx)) := dif_pos hx
  rw [e]
  exact zIsB_u hT hM (Classical.choose_spec hx) h
/-- of X, and of what was found ahead of it, the best -/
def zBt (A : zA) (X : (Int → Int) → Prop) (M : Int) (F : Int → Int) (M' : Int) (F' : Int → Int) : Prop := (∀ E, X E → zW A E ≤ M') ∧ ((M' = M ∧ F' = F) ∨ (M < M' ∧ X F' ∧ zW A F' = M' ∧ ∀ E, X E → zW A E = M' → zTt A E ≤ zTt A F'))
theorem zBt_skip {A : zA} {X : (Int → Int) → Prop} {M : Int} {F : Int → Int} (h : ∀ E, X E → zW A E ≤ M) : zBt A X M F M F := ⟨h, Or.inl ⟨rfl, rfl⟩⟩
theorem zBt_t {A : zA} {X Y V : (Int → Int) → Prop} {M M1 M2 : Int} {F F1 F2 : Int → Int} (h1 : zBt A X M F M1 F1) (h2 : zBt A Y M1 F1 M2 F2) (hl : ∀ E E', X E → Y E' → zTt A E' < zTt A E) (hV : ∀ E, V E ↔ (X E ∨ Y E)) : zBt A V M F M2 F2 := by
  obtain ⟨a1, a2⟩ := h1
  obtain ⟨b1, b2⟩ := h2
  refine ⟨fun E hE => ?_, ?_⟩
  · rcases (hV E).mp hE with q | q
    · have := a1 E q; omega
    · exact b1 E q
  · rcases b2 with ⟨b2, b3⟩ | ⟨b2, b3, b4, b5⟩
    · subst b2
      subst b3
      rcases a2 with a2 | ⟨a2, a3, a4, a5⟩
      · exact Or.inl a2
      · refine Or.inr ⟨a2, (hV _).mpr (Or.inl a3), a4, fun E hE w => ?_⟩
        rcases (hV E).mp hE with q | q
        · exact a5 E q w
        · have := hl _ E a3 q; omega
    · refine Or.inr ⟨by omega, (hV _).mpr (Or.inr b3), b4, fun E hE w => ?_⟩
      rcases (hV E).mp hE with q | q
      · have := a1 E q; omega
      · exact b5 E q w
