/-! THE CLASS, 25: what a list's change leaves of the rest; places -/
theorem zAF_fw {b : Nat} {m : Int} {G G1 : gH} {k : Int} (hlo : (b : Int) + 53 < m ∧ m + 45 < G 9 0 0) (hk : k ≤ 53) (w : zFW m [] G G1) : zAF ((b : Int) + k) G G1 := ⟨w.1, Or.inl (w.2 _ _ _ (by decide) (by omega) (by simp)), fun c i j c1 c2 _ _ => w.2 c i j c1 c2 (by simp)⟩
/-- the class's cells that a list's change may reach -/
def zLl (k : Int) : List (Nat × Int) := (16, k) :: (17, k) :: (18, k) :: (List.range 54).map (fun i : Nat => ((3 : Nat), (i : Int)))
theorem zSx_af {b : Nat} {m : Int} {G G1 : gH} {k : Int} (hlo : (b : Int) + 53 < m ∧ m + 45 < G 9 0 0) (w : zAF ((b : Int) + k) G G1) : zSx b (zLl k) G G1 := fun c k' j c9 k0 k1 q => by
  refine w.2.2 c _ j c9 (by omega) (fun z => q ?_) (fun z => q ?_)
  · have e : k' = k := by omega
    unfold zLl
    rcases z.2 with y | y | y <;> rw [y, e]
    · exact List.mem_cons_self
    · exact List.mem_cons_of_mem _ List.mem_cons_self
    · exact List.mem_cons_of_mem _ (List.mem_cons_of_mem _ List.mem_cons_self)
  · unfold zLl
    refine List.mem_cons_of_mem _ (List.mem_cons_of_mem _ (List.mem_cons_of_mem _ (List.mem_map.mpr ⟨k'.toNat, List.mem_range.mpr (show k'.toNat < 54 by omega), ?_⟩)))
    rw [z.1, show ((k'.toNat : Nat) : Int) = k' from by omega]
theorem zAL_af {e : gE} {b : Nat} {m : Int} {G G1 : gH} {k j tg n : Int} {f : Int → Int} (hT : ∀ a : Int, G 0 a 0 ≠ 0 → 0 < a ∧ a < G 9 0 0) (hlo : (b : Int) + 53 < m ∧ m + 45 < G 9 0 0) (hD : zDst b G) (hk : zLs k) (hj : zLs j) (q : j ≠ k) (w : zAF ((b : Int) + k) G G1) (ht : tg ≠ 0) (h : zAL e b m G ((b : Int) + j) tg n f) : zAL e b m G1 ((b : Int) + j) tg n f := by
  have j1 : 0 ≤ j ∧ j ≤ 53 := by omega
  refine zAL_fr ht h (fun i l z => w.2.2 0 i l (by decide) (hT i z).2 (by omega) (by omega)) (w.2.2 _ _ _ (by decide) (by omega) (by omega) (fun z => absurd z.1 (by decide))) (w.2.2 _ _ _ (by decide) (by omega) (by omega) (fun z => absurd z.1 (by decide))) (fun z l => w.2.2 3 _ l (by decide) (hT _ (by omega)).2 (by omega) (fun y => hD j k hj hk q z y.2))
theorem zDst_af {b : Nat} {m : Int} {G G1 : gH} {k : Int} (hT : ∀ a : Int, G 0 a 0 ≠ 0 → 0 < a ∧ a < G 9 0 0) (hlo : (b : Int) + 53 < m ∧ m + 45 < G 9 0 0) (hL : ∀ k, zLs k → G 0 (G 17 ((b : Int) + k) 0) 0 ≠ 0) (hk : zLs k) (w : zAF ((b : Int) + k) G G1) (hD : zDst b G) : zDst b G1 := by
  have ed : ∀ j, zLs j → j ≠ k → G1 17 ((b : Int) + j) 0 = G 17 ((b : Int) + j) 0 := fun j hj q => w.2.2 _ _ _ (by decide) (by omega) (by omega) (fun z => absurd z.1 (by decide))
  have tg : ∀ j, zLs j → G1 0 (G 17 ((b : Int) + j) 0) 0 = G 0 (G 17 ((b : Int) + j) 0) 0 := fun j hj => w.2.2 0 _ _ (by decide) (hT _ (hL j hj)).2 (by omega) (by omega)
  intro i j hi hj q z
  by_cases i1 : i = k
  · subst i1
    rw [ed j hj (fun y => q y.symm)]
    rcases w.2.1 with y | y
    · rw [y] at z ⊢
      rw [tg i hi] at z
      exact hD i j hi hj q z
    · have := (hT _ (hL j hj)).2
      omega
  · rw [ed i hi i1] at z ⊢
    rw [tg i hi] at z
    by_cases j1 : j = k
    · subst j1
      rcases w.2.1 with y | y
      · rw [y]
        exact hD i j hi hj q z
      · have := (hT _ (hL i hi)).2
        omega
    · rw [ed j hj j1]
      exact hD i j hi hj q z
theorem zRkT_af {e : gE} {b : Nat} {m : Int} {G G1 : gH} {k : Int} {A : zA} {T τ : Int → Int} (hT : ∀ a : Int, G 0 a 0 ≠ 0 → 0 < a ∧ a < G 9 0 0) (hlo : (b : Int) + 53 < m ∧ m + 45 < G 9 0 0) (hD : zDst b G) (hk : zLs k) (q : k ≠ 2) (w : zAF ((b : Int) + k) G G1) (h : zRkT e b m G A T τ) : zRkT e b m G1 A T τ := by
  have o : ∀ (c : Nat) (i j : Int), c ≠ 9 → c ≠ 3 → c ≠ 16 → c ≠ 17 → c ≠ 18 → i < G 9 0 0 → G1 c i j = G c i j := fun c i j c1 c2 c3 c4 c5 hi => w.2.2 c i j c1 hi (by omega) (by omega)
  refine zRkT_fr h ⟨fun i j z => o 0 i j (by decide) (by decide) (by decide) (by decide) (by decide) (hT i z).2, ⟨w.2.2 _ _ _ (by decide) (by omega) (by omega) (fun z => absurd z.1 (by decide)), w.2.2 _ _ _ (by decide) (by omega) (by omega) (fun z => absurd z.1 (by decide))⟩, fun z j => w.2.2 3 _ j (by decide) (hT _ (by omega)).2 (by omega) (fun y => hD 2 k (by decide) hk (fun x => q x.symm) z y.2), fun t t1 t2 => ?_⟩
  obtain ⟨h1, h2, h3⟩ := h.2.1 t t1 t2
  have a1 := (hT (T t) (by have := h1.1.1; omega)).2
  have a2 := (hT _ (by have := h2.2.1.1; omega : G 0 (G 604 (T t) 0) 0 ≠ 0)).2
  have a3 := (hT _ (by have := h3.2.1.1; omega : G 0 (G 606 (T t) 0) 0 ≠ 0)).2
  refine ⟨fun c hc => o c _ _ (by omega) (by omega) (by omega) (by omega) (by omega) a1, fun j => o 1 _ j (by decide) (by decide) (by decide) (by decide) (by decide) a2, fun j => o 1 _ j (by decide) (by decide) (by decide) (by decide) (by decide) a3⟩
theorem zRkQ_af {e : gE} {b : Nat} {m : Int} {G G1 : gH} {k : Int} {A : zA} {T Q : Int → Int} (hT : ∀ a : Int, G 0 a 0 ≠ 0 → 0 < a ∧ a < G 9 0 0) (hlo : (b : Int) + 53 < m ∧ m + 45 < G 9 0 0) (hD : zDst b G) (hk : zLs k) (q : k ≠ 11) (w : zAF ((b : Int) + k) G G1) (h : zRkQ e b m G A T Q) : zRkQ e b m G1 A T Q := by
  refine ⟨zAL_af hT hlo hD hk (by decide) (fun z => q z.symm) w (by decide) h.1, fun p k1 k2 => ?_, h.2.2⟩
  have z := h.2.1 p k1 k2
  have hp := (hT (Q p) (by have := h.1.2.2.1 p k1 k2; omega)).2
  rw [w.2.2 528 _ _ (by decide) hp (by omega) (by omega), w.2.2 529 _ _ (by decide) hp (by omega) (by omega), w.2.2 530 _ _ (by decide) hp (by omega) (by omega)]
  exact z
theorem zRkP_af {e : gE} {b : Nat} {m : Int} {G G1 : gH} {k : Int} {A : zA} {P : Int → Int} (hT : ∀ a : Int, G 0 a 0 ≠ 0 → 0 < a ∧ a < G 9 0 0) (hlo : (b : Int) + 53 < m ∧ m + 45 < G 9 0 0) (hD : zDst b G) (hk : zLs k) (q : k ≠ 19) (w : zAF ((b : Int) + k) G G1) (h : zRkP e b m G A P) : zRkP e b m G1 A P := by
  have o : ∀ (c : Nat) (i j : Int), c ≠ 9 → c ≠ 3 → c ≠ 16 → c ≠ 17 → c ≠ 18 → i < G 9 0 0 → G1 c i j = G c i j := fun c i j c1 c2 c3 c4 c5 hi => w.2.2 c i j c1 hi (by omega) (by omega)
  have a1 : ∀ p, 0 ≤ p → p < A 787 0 → P p < G 9 0 0 := fun p p1 p2 => (hT _ (by have := h.1.2.2.1 p p1 p2; omega)).2
  have a2 : ∀ p, 0 ≤ p → p < A 787 0 → G 275 (P p) 0 < G 9 0 0 := fun p p1 p2 => (hT _ (by have := (h.2.1 p p1 p2).2.1.2.1; omega)).2
  have a3 : ∀ p, 0 ≤ p → p < A 787 0 → G 400 (G 275 (P p) 0) 0 < G 9 0 0 := fun p p1 p2 => (hT _ (by have := (h.2.1 p p1 p2).2.2.1.2.1; omega)).2
  have o5 : ∀ (c : Nat) (i j : Int), c ∈ [0, 2, 272, 273, 274, 275, 400, 401, 402] → i < G 9 0 0 → G1 c i j = G c i j := fun c i j hc hi => o c i j (by rintro rfl; exact absurd hc (by decide)) (by rintro rfl; exact absurd hc (by decide)) (by rintro rfl; exact absurd hc (by decide)) (by rintro rfl; exact absurd hc (by decide)) (by rintro rfl; exact absurd hc (by decide)) hi
  refine ⟨zAL_af hT hlo hD hk (by decide) (fun z => q z.symm) w (by decide) h.1, fun p p1 p2 => ?_, fun j k j1 j2 k1 k2 => ?_⟩
  · have q := h.2.1 p p1 p2
    rw [o5 275 _ _ (by decide) (a1 p p1 p2), o5 400 _ _ (by decide) (a2 p p1 p2), o5 272 _ _ (by decide) (a1 p p1 p2), o5 273 _ _ (by decide) (a1 p p1 p2), o5 274 _ _ (by decide) (a1 p p1 p2), o5 0 _ _ (by decide) (a2 p p1 p2), o5 0 _ _ (by decide) (a3 p p1 p2), o5 0 _ _ (by decide) (a3 p p1 p2), o5 401 _ _ (by decide) (a2 p p1 p2), o5 402 _ _ (by decide) (a2 p p1 p2)]
    exact ⟨q.1, q.2.1, q.2.2.1, fun i i1 i2 => by rw [o5 2 _ _ (by decide) (a3 p p1 p2)]; exact q.2.2.2 i i1 i2⟩
  · rw [o5 275 _ _ (by decide) (a1 j j1 j2), o5 275 _ _ (by decide) (a1 k k1 k2), o5 400 _ _ (by decide) (a2 j j1 j2), o5 400 _ _ (by decide) (a2 k k1 k2)]
    exact h.2.2 j k j1 j2 k1 k2
theorem zRkJ_af {e : gE} {b : Nat} {m : Int} {G G1 : gH} {k : Int} {A : zA} {T τ : Int → Int} (hT : ∀ a : Int, G 0 a 0 ≠ 0 → 0 < a ∧ a < G 9 0 0) (hlo : (b : Int) + 53 < m ∧ m + 45 < G 9 0 0) (hD : zDst b G) (hk : zLs k) (q : k ≠ 13 ∧ k ≠ 14 ∧ k ≠ 24) (w : zAF ((b : Int) + k) G G1) (hR : zRkT e b m G A T τ) (h : zRkJ e b m G A T) : zRkJ e b m G1 A T := by
  obtain ⟨⟨n, f, h1, h2⟩, ⟨n2, f2, h3⟩, ⟨n3, f3, h4⟩⟩ := h
  refine ⟨⟨n, f, zAL_af hT hlo hD hk (by decide) (fun z => q.1 z.symm) w (by decide) h1, fun q => ?_⟩, ⟨n2, f2, zAL_af hT hlo hD hk (by decide) (fun z => q.2.1 z.symm) w (by decide) h3⟩, ⟨n3, f3, zAL_af hT hlo hD hk (by decide) (fun z => q.2.2 z.symm) w (by decide) h4⟩⟩
  obtain ⟨J, O, w1, w2, w3⟩ := h2 q
  have eT : ∀ t, 0 ≤ t → t < A 785 0 → G1 603 (T t) 0 = G 603 (T t) 0 ∧ G1 602 (T t) 0 = G 602 (T t) 0 := fun t t1 t2 => by
    have := (hT _ (by have := (hR.2.1 t t1 t2).1.1.1; omega : G 0 (T t) 0 ≠ 0)).2
    exact ⟨w.2.2 603 _ _ (by decide) this (by omega) (by omega), w.2.2 602 _ _ (by decide) this (by omega) (by omega)⟩
  refine ⟨J, O, zEnum_congr w1 (fun _ _ _ => Iff.rfl) (fun t t1 t2 _ => by rw [(eT t t1 t2).1, (eT t t1 t2).2]), w2, fun t t1 t2 q2 => ?_⟩
  rw [(eT t t1 t2).1, (eT t t1 t2).2]
  exact w3 t t1 t2 q2
theorem fx_mt5 {b : Nat} {m : Int} {G : gH} (h : gFix b m G) {i : Int} (i1 : m ≤ i) (i2 : i ≤ m + 45) : G 0 i 0 ≠ 103 ∧ G 0 i 0 ≠ 105 := by
  have k : ∀ q : Fin 46, ∃ t ∈ fxMT, t.1 = (q.val : Int) ∧ t.2.1 ≠ 103 ∧ t.2.1 ≠ 105 := by decide +kernel
  obtain ⟨t, t1, t2, t3⟩ := k ⟨(i - m).toNat, by omega⟩
  have w := (h.1.2 t t1).1
  rw [t2, show m + (((i - m).toNat : Nat) : Int) = i from by omega] at w
  rw [w]
  exact t3
theorem zAL_5 {e : gE} {b : Nat} {m : Int} {G : gH} {a tg n : Int} {f : Int → Int} (h : zAL e b m G a tg n f) : G 0 (G 17 a 0) 0 = 103 ∨ G 0 (G 17 a 0) 0 = 105 := by
  rcases h.2.2.2 with w | w
  · exact Or.inr w.2.2.1
  · exact Or.inl w.2.1
theorem zRf_af {b : Nat} {m : Int} {G G1 : gH} {k : Int} (hF : gFix b m G) (hk : k ≤ 53) (h : G 0 (G 17 ((b : Int) + k) 0) 0 = 103 ∨ G 0 (G 17 ((b : Int) + k) 0) 0 = 105) (w : zAF ((b : Int) + k) G G1) : zRf m G G1 := fun c i j c9 i1 i2 => by
  have hlo := fx_lo hF
  refine w.2.2 c i j c9 (by omega) (by omega) (fun z => ?_)
  have := fx_mt5 hF i1 i2
  rw [z.2] at this
  rcases h with h | h
  · exact this.1 h
  · exact this.2 h
theorem zLs_5 {e : gE} {b : Nat} {m : Int} {G : gH} {A : zA} {T Q P τ : Int → Int} (hT : zRkT e b m G A T τ) (hQ : zRkQ e b m G A T Q) (hP : zRkP e b m G A P) (hJ : zRkJ e b m G A T) : ∀ k, zLs k → G 0 (G 17 ((b : Int) + k) 0) 0 = 103 ∨ G 0 (G 17 ((b : Int) + k) 0) 0 = 105 := by
  obtain ⟨⟨n, f, h1, -⟩, ⟨n2, f2, h3⟩, ⟨n3, f3, h4⟩⟩ := hJ
  rintro k (z | z | z | z | z | z) <;> subst z
  · exact zAL_5 hT.1
  · exact zAL_5 hQ.1
  · exact zAL_5 h1
  · exact zAL_5 h3
  · exact zAL_5 hP.1
  · exact zAL_5 h4
theorem gr_Place {e : gE} {b : Nat} {m : Int} (G : gH) (v : Int) (h : G 0 v 0 = 5) : gRv (gX e b m) G "java/lang/Object" v := Or.inr ⟨4, _, _, q_Place _, by rw [h]; rfl, Or.inl w_1897⟩
theorem gr_Team {e : gE} {b : Nat} {m : Int} (G : gH) (v : Int) (h : G 0 v 0 = 9) : gRv (gX e b m) G "java/lang/Object" v := Or.inr ⟨8, _, _, q_Team _, by rw [h]; rfl, Or.inl w_1895⟩
theorem gr_Thing {e : gE} {b : Nat} {m : Int} (G : gH) (v : Int) (h : G 0 v 0 = 10) : gRv (gX e b m) G "java/lang/Object" v := Or.inr ⟨9, _, _, q_Thing _, by rw [h]; rfl, Or.inl w_1896⟩
