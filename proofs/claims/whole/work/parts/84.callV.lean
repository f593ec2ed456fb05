/-! THE CLASS, 35: what the planner changes -/
def zPF (b : Nat) (m : Int) (G G1 : gH) : Prop := G 9 0 0 ≤ G1 9 0 0 ∧ (∀ k : Int, k = 13 ∨ k = 14 → (G1 17 ((b : Int) + k) 0 = G 17 ((b : Int) + k) 0 ∨ G 9 0 0 ≤ G1 17 ((b : Int) + k) 0)) ∧ ∀ (c : Nat) (i j : Int), c ≠ 9 → i < G 9 0 0 → ¬ (m + 45 < i ∧ (601 ≤ c ∧ c ≤ 603)) → ¬ ((i = (b : Int) + 13 ∨ i = (b : Int) + 14) ∧ (16 ≤ c ∧ c ≤ 18)) → ¬ (c = 3 ∧ (i = G 17 ((b : Int) + 13) 0 ∨ i = G 17 ((b : Int) + 14) 0)) → ¬ ((c = 1 ∨ c = 2) ∧ ((b : Int) + 15 ≤ i ∧ i ≤ (b : Int) + 17)) → G1 c i j = G c i j
theorem zPF_r {b : Nat} {m : Int} {G : gH} : zPF b m G G := ⟨Int.le_refl _, fun _ _ => Or.inl rfl, fun _ _ _ _ _ _ _ _ _ => rfl⟩
theorem zPF_t {b : Nat} {m : Int} {G G1 G2 : gH} (h : zPF b m G G1) (h2 : zPF b m G1 G2) : zPF b m G G2 := by
  have e13 := h.2.1 13 (Or.inl rfl)
  have e14 := h.2.1 14 (Or.inr rfl)
  have h1 := h.1
  refine ⟨Int.le_trans h.1 h2.1, fun k hk => ?_, fun c i j c9 i1 a1 a2 a3 a4 => ?_⟩
  · have w1 := h.2.1 k hk
    have w2 := h2.2.1 k hk
    omega
  · rw [h2.2.2 c i j c9 (by omega) a1 a2 (by omega) a4, h.2.2 c i j c9 i1 a1 a2 a3 a4]
theorem zPF_af {b : Nat} {m : Int} {G G1 : gH} {k : Int} (hlo : (b : Int) + 53 < m ∧ m + 45 < G 9 0 0) (hk : k = 13 ∨ k = 14) (h : zAF ((b : Int) + k) G G1) : zPF b m G G1 := by
  refine ⟨h.1, fun k' hk' => ?_, fun c i j c9 i1 a1 a2 a3 a4 => h.2.2 c i j c9 i1 (fun z => ?_) (fun z => ?_)⟩
  · by_cases z : k' = k
    · rw [z]; exact h.2.1
    · exact Or.inl (h.2.2 _ _ _ (by decide) (by omega) (by omega) (fun z => absurd z.1 (by decide)))
  · rcases hk with y | y <;> subst y
    · exact a2 ⟨Or.inl z.1, by omega⟩
    · exact a2 ⟨Or.inr z.1, by omega⟩
  · rcases hk with y | y <;> subst y
    · exact a3 ⟨z.1, Or.inl z.2⟩
    · exact a3 ⟨z.1, Or.inr z.2⟩
theorem zPF_ms {b : Nat} {m : Int} {G G1 : gH} {a : Int} (hlo : (b : Int) + 53 < m) (ha : m + 45 < a) (h : zMs a G G1) : zPF b m G G1 := ⟨by rw [h 9 _ _ (by omega)]; exact Int.le_refl _, fun k hk => Or.inl (h _ _ _ (by omega)), fun c i j c9 i1 a1 a2 a3 a4 => h c i j (fun z => a1 ⟨by omega, by omega⟩)⟩
theorem zPF_T {e : gE} {b : Nat} {m : Int} {G G1 : gH} {A : zA} {T τ : Int → Int} (hT : ∀ a : Int, G 0 a 0 ≠ 0 → 0 < a ∧ a < G 9 0 0) (hlo : (b : Int) + 53 < m ∧ m + 45 < G 9 0 0) (hD : zDst b G) (w : zPF b m G G1) (h : zRkT e b m G A T τ) : zRkT e b m G1 A T τ := by
  refine zRkT_fr h ⟨fun i j z => w.2.2 0 i j (by decide) (hT i z).2 (by omega) (by omega) (by omega) (by omega), ⟨w.2.2 _ _ _ (by decide) (by omega) (by omega) (by omega) (fun z => absurd z.1 (by decide)) (by omega), w.2.2 _ _ _ (by decide) (by omega) (by omega) (by omega) (fun z => absurd z.1 (by decide)) (by omega)⟩, fun z j => ?_, fun t t1 t2 => ?_⟩
  · rcases h.1.2.2.2 with y | y
    · omega
    · refine w.2.2 3 _ j (by decide) (hT _ (by omega)).2 (by omega) (by omega) (fun y => ?_) (by omega)
      rcases y.2 with x | x
      · exact hD 2 13 (by decide) (by decide) (by decide) z x
      · exact hD 2 14 (by decide) (by decide) (by decide) z x
  · obtain ⟨h1, h2, h3⟩ := h.2.1 t t1 t2
    have a1 := (hT (T t) (by have := h1.1.1; omega)).2
    have a2 := (hT _ (by have := h2.2.1.1; omega : G 0 (G 604 (T t) 0) 0 ≠ 0)).2
    have a3 := (hT _ (by have := h3.2.1.1; omega : G 0 (G 606 (T t) 0) 0 ≠ 0)).2
    have m1 := h1.1.2
    have m2 := h2.1.2
    have m3 := h3.1.2
    exact ⟨fun c hc => w.2.2 c _ _ (by omega) a1 (by omega) (by omega) (by omega) (by omega), fun j => w.2.2 1 _ j (by decide) a2 (by omega) (by omega) (by omega) (by omega), fun j => w.2.2 1 _ j (by decide) a3 (by omega) (by omega) (by omega) (by omega)⟩
theorem zPF_L {e : gE} {b : Nat} {m : Int} {G G1 : gH} {k tg n : Int} {f : Int → Int} (hT : ∀ a : Int, G 0 a 0 ≠ 0 → 0 < a ∧ a < G 9 0 0) (hlo : (b : Int) + 53 < m ∧ m + 45 < G 9 0 0) (hD : zDst b G) (w : zPF b m G G1) (hk : zLs k) (q : k ≠ 13 ∧ k ≠ 14) (ht : tg ≠ 0) (h : zAL e b m G ((b : Int) + k) tg n f) : zAL e b m G1 ((b : Int) + k) tg n f := by
  refine zAL_fr ht h (fun i j z => w.2.2 0 i j (by decide) (hT i z).2 (by omega) (by omega) (by omega) (by omega)) (w.2.2 _ _ _ (by decide) (by omega) (by omega) (by omega) (fun z => absurd z.1 (by decide)) (by omega)) (w.2.2 _ _ _ (by decide) (by omega) (by omega) (by omega) (fun z => absurd z.1 (by decide)) (by omega)) (fun z j => ?_)
  rcases h.2.2.2 with y | y
  · omega
  · refine w.2.2 3 _ j (by decide) (hT _ (by omega)).2 (by omega) (by omega) (fun y => ?_) (by omega)
    rcases y.2 with x | x
    · exact hD k 13 hk (by decide) q.1 z x
    · exact hD k 14 hk (by decide) q.2 z x
theorem zPF_Q {e : gE} {b : Nat} {m : Int} {G G1 : gH} {A : zA} {T Q : Int → Int} (hT : ∀ a : Int, G 0 a 0 ≠ 0 → 0 < a ∧ a < G 9 0 0) (hlo : (b : Int) + 53 < m ∧ m + 45 < G 9 0 0) (hD : zDst b G) (w : zPF b m G G1) (h : zRkQ e b m G A T Q) : zRkQ e b m G1 A T Q := by
  refine ⟨zPF_L hT hlo hD w (by decide) (by decide) (by decide) h.1, fun k k1 k2 => ?_, h.2.2⟩
  have q := h.2.1 k k1 k2
  have hk := (hT (Q k) (by have := h.1.2.2.1 k k1 k2; omega)).2
  rw [w.2.2 528 _ _ (by decide) hk (by omega) (by omega) (by omega) (by omega), w.2.2 529 _ _ (by decide) hk (by omega) (by omega) (by omega) (by omega), w.2.2 530 _ _ (by decide) hk (by omega) (by omega) (by omega) (by omega)]
  exact q
theorem zPF_P {e : gE} {b : Nat} {m : Int} {G G1 : gH} {A : zA} {P : Int → Int} (hT : ∀ a : Int, G 0 a 0 ≠ 0 → 0 < a ∧ a < G 9 0 0) (hlo : (b : Int) + 53 < m ∧ m + 45 < G 9 0 0) (hD : zDst b G) (w : zPF b m G G1) (h : zRkP e b m G A P) : zRkP e b m G1 A P := by
  have hl : ∀ c ∈ [0, 2, 272, 273, 274, 275, 400, 401, 402], c ≠ 9 ∧ c ≠ 3 ∧ ¬ (601 ≤ c ∧ c ≤ 603) := by decide
  have o : ∀ (c : Nat) (i j : Int), c ∈ [0, 2, 272, 273, 274, 275, 400, 401, 402] → m + 45 < i → i < G 9 0 0 → G1 c i j = G c i j := fun c i j hc hm hi => w.2.2 c i j (hl c hc).1 hi (fun z => (hl c hc).2.2 z.2) (fun z => by have := z.1; omega) (fun z => (hl c hc).2.1 z.1) (fun z => by have := z.2; omega)
  have a1 : ∀ p, 0 ≤ p → p < A 787 0 → P p < G 9 0 0 := fun p p1 p2 => (hT _ (by have := h.1.2.2.1 p p1 p2; omega)).2
  have a2 : ∀ p, 0 ≤ p → p < A 787 0 → G 275 (P p) 0 < G 9 0 0 := fun p p1 p2 => (hT _ (by have := (h.2.1 p p1 p2).2.1.2.1; omega)).2
  have a3 : ∀ p, 0 ≤ p → p < A 787 0 → G 400 (G 275 (P p) 0) 0 < G 9 0 0 := fun p p1 p2 => (hT _ (by have := (h.2.1 p p1 p2).2.2.1.2.1; omega)).2
  refine ⟨zPF_L hT hlo hD w (by decide) (by decide) (by decide) h.1, fun p p1 p2 => ?_, fun j k j1 j2 k1 k2 => ?_⟩
  · have q := h.2.1 p p1 p2
    have m1 := q.1.1
    have m2 := q.2.1.1
    have m3 := q.2.2.1.1
    rw [o 275 _ _ (by decide) m1 (a1 p p1 p2), o 400 _ _ (by decide) m2 (a2 p p1 p2), o 272 _ _ (by decide) m1 (a1 p p1 p2), o 273 _ _ (by decide) m1 (a1 p p1 p2), o 274 _ _ (by decide) m1 (a1 p p1 p2), o 0 _ _ (by decide) m2 (a2 p p1 p2), o 0 _ _ (by decide) m3 (a3 p p1 p2), o 0 _ _ (by decide) m3 (a3 p p1 p2), o 401 _ _ (by decide) m2 (a2 p p1 p2), o 402 _ _ (by decide) m2 (a2 p p1 p2)]
    exact ⟨q.1, q.2.1, q.2.2.1, fun i i1 i2 => by rw [o 2 _ _ (by decide) m3 (a3 p p1 p2)]; exact q.2.2.2 i i1 i2⟩
  · have m1 := (h.2.1 j j1 j2).1.1
    have m2 := (h.2.1 j j1 j2).2.1.1
    have m3 := (h.2.1 k k1 k2).1.1
    have m4 := (h.2.1 k k1 k2).2.1.1
    rw [o 275 _ _ (by decide) m1 (a1 j j1 j2), o 275 _ _ (by decide) m3 (a1 k k1 k2), o 400 _ _ (by decide) m2 (a2 j j1 j2), o 400 _ _ (by decide) m4 (a2 k k1 k2)]
    exact h.2.2 j k j1 j2 k1 k2
/-- the class's cells that the planner may reach -/
def zLp : List (Nat × Int) := [(16, 13), (17, 13), (18, 13), (16, 14), (17, 14), (18, 14), (1, 15), (2, 15), (1, 16), (2, 16), (1, 17), (2, 17)] ++ (List.range 54).map (fun i : Nat => ((3 : Nat), (i : Int)))
theorem zPF_x {b : Nat} {m : Int} {G G1 : gH} (hlo : (b : Int) + 53 < m ∧ m + 45 < G 9 0 0) (w : zPF b m G G1) : zSx b zLp G G1 := fun c k j c9 k0 k1 q => by
  have q2 : c ≠ 3 := fun z => q (List.mem_append_right _ (List.mem_map.mpr ⟨k.toNat, List.mem_range.mpr (show k.toNat < 54 by omega), by rw [z, show ((k.toNat : Nat) : Int) = k from by omega]⟩))
  refine w.2.2 c _ j c9 (by omega) (fun z => by have := z.1; omega) (fun z => ?_) (fun z => q2 z.1) (fun z => ?_)
  · have hk : k = 13 ∨ k = 14 := by have := z.1; omega
    have hc : c = 16 ∨ c = 17 ∨ c = 18 := by have := z.2; omega
    refine q (List.mem_append_left _ ?_)
    rcases hk with hk | hk <;> rcases hc with hc | hc | hc <;> subst hk <;> subst hc <;> decide
  · have hk : k = 15 ∨ k = 16 ∨ k = 17 := by have := z.2; omega
    have hc := z.1
    refine q (List.mem_append_left _ ?_)
    rcases hk with hk | hk | hk <;> rcases hc with hc | hc <;> subst hk <;> subst hc <;> decide
theorem zPF_f {b : Nat} {m : Int} {G G1 : gH} (hF : gFix b m G) (h5 : ∀ k, zLs k → G 0 (G 17 ((b : Int) + k) 0) 0 = 103 ∨ G 0 (G 17 ((b : Int) + k) 0) 0 = 105) (w : zPF b m G G1) : zRf m G G1 := fun c i j c9 i1 i2 => by
  have hlo := fx_lo hF
  refine w.2.2 c i j c9 (by omega) (by omega) (by omega) (fun z => ?_) (by omega)
  have := fx_mt5 hF i1 i2
  have h13 := h5 13 (by decide)
  have h14 := h5 14 (by decide)
  rcases z.2 with y | y
  · rw [← y] at h13; omega
  · rw [← y] at h14; omega
