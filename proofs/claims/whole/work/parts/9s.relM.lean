/-! THE LAW, 1: a call of the reference leaves the class' relation; Psi -/
def zEq (m : Int) (G G1 : gH) : Prop := zC m G G1 ∧ ∀ i, G1 0 i 0 = G 0 i 0 ∧ G1 0 i 1 = G 0 i 1
theorem fxMT_all : ∀ k : Nat, k < 46 → ∃ x ∈ fxMT, x.1 = (k : Int) := by decide
theorem zEq_mk {b : Nat} {m : Int} {G G1 : gH} (hF : gFix b m G) (hF1 : gFix b m G1) (h : zC m G G1) : zEq m G G1 := ⟨h, fun i => by
  by_cases q : i < m ∨ m + 45 < i
  · exact ⟨h 0 i 0 q, h 0 i 1 q⟩
  · obtain ⟨x, hx, ex⟩ := fxMT_all (i - m).toNat (by omega)
    have e : i = m + x.1 := by omega
    have w := hF.1.2 x hx
    have w1 := hF1.1.2 x hx
    rw [e]
    exact ⟨w1.1.trans w.1.symm, w1.2.trans w.2.symm⟩⟩
theorem zAL_M {e : gE} {b : Nat} {m : Int} {G G1 : gH} {a tg n : Int} {f : Int → Int} (q : zEq m G G1) (ha : a < m) (h : zAL e b m G a tg n f) : zAL e b m G1 a tg n f := by
  obtain ⟨h1, h2, h3, h4⟩ := h
  have ed : G1 17 a 0 = G 17 a 0 := q.1 _ _ _ (Or.inl ha)
  refine ⟨by rw [(q.2 _).1]; exact h1, by rw [q.1 _ _ _ (Or.inl ha)]; exact h2, fun i i1 i2 => by rw [(q.2 _).1]; exact h3 i i1 i2, ?_⟩
  rw [ed, (q.2 _).1, (q.2 _).2]
  rcases h4 with h4 | ⟨l, e2, e3, e4⟩
  · exact Or.inl h4
  · exact Or.inr ⟨l, e2, e3, fun i i1 i2 => by rw [q.1 3 _ _ (Or.inr l)]; exact e4 i i1 i2⟩
theorem zRkT_M {e : gE} {b : Nat} {m : Int} {G G1 : gH} {A : zA} {T τ : Int → Int} (hlo : (b : Int) + 53 < m) (q : zEq m G G1) (h : zRkT e b m G A T τ) : zRkT e b m G1 A T τ := by
  obtain ⟨h1, h2, h3⟩ := h
  have eT : ∀ t, 0 ≤ t → t < A 785 0 → ∀ c j, G1 c (T t) j = G c (T t) j := fun t t1 t2 c j => q.1 c _ j (Or.inr (h2 t t1 t2).1.1.2)
  refine ⟨zAL_M q (by omega) h1, fun t t1 t2 => ?_, fun s t s1 s2 t1 t2 => ?_⟩
  · obtain ⟨a1, a2, a3⟩ := h2 t t1 t2
    have et := eT t t1 t2
    have es : ∀ c j, G1 c (G 604 (T t) 0) j = G c (G 604 (T t) 0) j := fun c j => q.1 c _ j (Or.inr a2.1.2)
    have ep : ∀ c j, G1 c (G 606 (T t) 0) j = G c (G 606 (T t) 0) j := fun c j => q.1 c _ j (Or.inr a3.1.2)
    unfold zThR zSlR zPpR at *
    simp only [et, es, ep]
    exact ⟨a1, a2, a3⟩
  · rw [eT s s1 s2, eT t t1 t2, eT s s1 s2, eT t t1 t2]
    exact h3 s t s1 s2 t1 t2
theorem zRkQ_M {e : gE} {b : Nat} {m : Int} {G G1 : gH} {A : zA} {T Q : Int → Int} (hlo : (b : Int) + 53 < m) (q : zEq m G G1) (h : zRkQ e b m G A T Q) : zRkQ e b m G1 A T Q := by
  obtain ⟨h1, h2, h3⟩ := h
  refine ⟨zAL_M q (by omega) h1, fun k k1 k2 => ?_, h3⟩
  have w := h2 k k1 k2
  have et : ∀ c j, G1 c (Q k) j = G c (Q k) j := fun c j => q.1 c _ j (Or.inr w.1)
  simp only [et]
  exact w
theorem zRkP_M {e : gE} {b : Nat} {m : Int} {G G1 : gH} {A : zA} {P : Int → Int} (hlo : (b : Int) + 53 < m) (q : zEq m G G1) (h : zRkP e b m G A P) : zRkP e b m G1 A P := by
  obtain ⟨h1, h2, h3⟩ := h
  have f : ∀ p, 0 ≤ p → p < A 787 0 → (∀ c j, G1 c (P p) j = G c (P p) j) ∧ (∀ c j, G1 c (G 275 (P p) 0) j = G c (G 275 (P p) 0) j) ∧ ∀ c j, G1 c (G 400 (G 275 (P p) 0) 0) j = G c (G 400 (G 275 (P p) 0) 0) j := fun p p1 p2 => by
    obtain ⟨w1, w2, w3, w4⟩ := h2 p p1 p2
    exact ⟨fun c j => q.1 c _ j (Or.inr w1.1), fun c j => q.1 c _ j (Or.inr w2.1), fun c j => q.1 c _ j (Or.inr w3.1)⟩
  refine ⟨zAL_M q (by omega) h1, fun p p1 p2 => ?_, fun j k j1 j2 k1 k2 => ?_⟩
  · obtain ⟨f1, f2, f3⟩ := f p p1 p2
    simp only [f1, f2, f3]
    exact h2 p p1 p2
  · obtain ⟨f1, f2, f3⟩ := f j j1 j2
    obtain ⟨g1, g2, g3⟩ := f k k1 k2
    simp only [f1, f2, f3, g1, g2, g3]
    exact h3 j k j1 j2 k1 k2
theorem zRkJ_M {e : gE} {b : Nat} {m : Int} {G G1 : gH} {A : zA} {T τ : Int → Int} (hlo : (b : Int) + 53 < m) (q : zEq m G G1) (hT : zRkT e b m G A T τ) (h : zRkJ e b m G A T) : zRkJ e b m G1 A T := by
  obtain ⟨⟨n, f, a1, a2⟩, ⟨n2, f2, a3⟩, ⟨n3, f3, a4⟩⟩ := h
  have eT : ∀ t, 0 ≤ t → t < A 785 0 → ∀ c j, G1 c (T t) j = G c (T t) j := fun t t1 t2 c j => q.1 c _ j (Or.inr (hT.2.1 t t1 t2).1.1.2)
  refine ⟨⟨n, f, zAL_M q (by omega) a1, fun p => ?_⟩, ⟨n2, f2, zAL_M q (by omega) a3⟩, ⟨n3, f3, zAL_M q (by omega) a4⟩⟩
  obtain ⟨J, O, b1, b2, b3⟩ := a2 p
  refine ⟨J, O, zEnum_congr b1 (fun t _ _ => Iff.rfl) (fun t t1 t2 _ => by rw [eT t t1 t2, eT t t1 t2]), b2, fun t t1 t2 hi => ?_⟩
  rw [eT t t1 t2, eT t t1 t2]
  exact b3 t t1 t2 hi
theorem zRel_M {e : gE} {b : Nat} {m : Int} {G G1 : gH} {A : zA} (hlo : (b : Int) + 53 < m) (q : zEq m G G1) (h : zRel e b m G A) : zRel e b m G1 A := by
  obtain ⟨T, Q, P, ⟨r1, r2, r3, r4⟩, hT, hQ, hP, hJ, hD⟩ := h
  have eb : ∀ (k : Int), k ≤ 53 → ∀ c j, G1 c ((b : Int) + k) j = G c ((b : Int) + k) j := fun k hk c j => q.1 c _ j (Or.inl (by omega))
  refine ⟨T, Q, P, ⟨?_, ?_, ?_, ?_⟩, zRkT_M hlo q hT, zRkQ_M hlo q hQ, zRkP_M hlo q hP, zRkJ_M hlo q hT hJ, ?_⟩
  · unfold zR1 at *
    simp only [eb 4 (by decide), eb 5 (by decide), eb 6 (by decide), eb 7 (by decide), eb 8 (by decide), eb 9 (by decide), eb 3 (by decide)]
    exact r1
  · unfold zR2 at *
    rw [eb 10 (by decide), eb 10 (by decide), eb 10 (by decide), eb 1 (by decide), eb 1 (by decide)]
    exact r2
  · refine ⟨fun s hs => ?_, fun i i1 i2 => ?_⟩
    · unfold zSh at hs
      rw [eb (34 + 2 * s) (by omega), eb (34 + 2 * s) (by omega), eb 50 (by decide)]
      refine ⟨(r3.1 s hs).1, (r3.1 s hs).2.1, (r3.1 s hs).2.2.1, fun i i1 i2 => ?_⟩
      rw [eb (35 + 2 * s) (by omega)]
      exact (r3.1 s hs).2.2.2 i i1 i2
    · rw [eb 53 (by decide)]
      exact r3.2 i i1 i2
  · unfold zR4 at *
    simp only [eb 20 (by decide), eb 21 (by decide), eb 22 (by decide), eb 18 (by decide)]
    exact r4
  · intro j k hj hk n
    rw [eb j (by omega), eb k (by omega), (q.2 _).1]
    exact hD j k hj hk n
theorem zSLm {a b : Int} (h : a ≤ b) : zSL a ≤ zSL b := by
  unfold zSL
  (repeat' split) <;> omega
theorem zSLb {a : Int} : 12 ≤ zSL a ∧ zSL a ≤ 3072 := by
  unfold zSL
  (repeat' split) <;> omega
theorem zPsib {n : Int} {A : zA} (h : zB n A) : 0 ≤ zPsi A ∧ zPsi A ≤ 98304 := by
  have b0 : 0 ≤ A 785 0 ∧ A 785 0 ≤ 16 := h 785 0
  have := zS_b (f := fun t => 2 * zSL (zSeals A t)) (c := 6144) (A 785 0) (fun i _ _ => by have := zSLb (a := zSeals A i); show 0 ≤ 2 * zSL (zSeals A i) ∧ 2 * zSL (zSeals A i) ≤ 6144; omega) b0.1 (by decide)
  unfold zPsi
  omega
/-- no thing is lost, no seal -/
def zGw (A B : zA) : Prop := A 785 0 ≤ B 785 0 ∧ ∀ t, zTh A t → zSeals A t ≤ zSeals B t
theorem zPsi_gw {n : Int} {A B : zA} (hB : zB n A) (h : zGw A B) : zPsi A ≤ zPsi B := by
  have b0 : 0 ≤ A 785 0 ∧ A 785 0 ≤ 16 := hB 785 0
  have h1 := zS_le (f := fun t => 2 * zSL (zSeals A t)) (g := fun t => 2 * zSL (zSeals B t)) (A 785 0) b0.1 (fun i i1 i2 => by have := zSLm (h.2 i ⟨i1, i2⟩); show 2 * zSL (zSeals A i) ≤ 2 * zSL (zSeals B i); omega)
  have h2 := zS_up (f := fun t => 2 * zSL (zSeals B t)) (i := A 785 0) (n := B 785 0) ⟨b0.1, h.1⟩ (fun k _ _ => by have := zSLb (a := zSeals B k); show 0 ≤ 2 * zSL (zSeals B k); omega)
  unfold zPsi
  omega
theorem zGw_r {A : zA} : zGw A A := ⟨Int.le_refl _, fun _ _ => Int.le_refl _⟩
theorem zGw_t {A B C : zA} (h : zGw A B) (h2 : zGw B C) : zGw A C := ⟨Int.le_trans h.1 h2.1, fun t ht => Int.le_trans (h.2 t ht) (h2.2 t ⟨ht.1, by have := ht.2; have := h.1; omega⟩)⟩
theorem zGw_c {A B : zA} {ks : List Nat} (q : zCh ks A B) (hk : ∀ k ∈ [35, 785, 794], k ∉ ks) : zGw A B := ⟨by rw [q 785 (hk _ (by decide))]; exact Int.le_refl _, fun t _ => by rw [zSeals_c (q 35 (hk _ (by decide))) (q 794 (hk _ (by decide)))]; exact Int.le_refl _⟩
theorem zGw_go {A : zA} {t w : Int} (h : 0 ≤ A 794 0) : zGw A (zGo A t w) := ⟨by rw [zGo_k (by decide)]; exact Int.le_refl _, fun u _ => by rw [zGo_seals h]; split <;> omega⟩
theorem zGw_no {A : zA} {k : Int} : zGw A (zNo A k).2 := zGw_c zCh_u (by decide)
theorem zGw_puts {A : zA} {k w u r p : Int} : zGw A (zPuts A k w u r p) := by
  have qc := zPuts_ch (A := A) (k := k) (w := w) (h := u) (r := r) (p := p)
  exact ⟨by rw [zPuts_n]; omega, fun t _ => by rw [zSeals_c (qc 35 (by decide)) (qc 794 (by decide))]; exact Int.le_refl _⟩
