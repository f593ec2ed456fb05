/-! THE CLASS, 6: its things as the state has them -/
theorem zGo_35 {A : zA} {t w i : Int} : zGo A t w 35 i = if i = A 794 0 then t else A 35 i := by
  unfold zGo
  rw [zU_k (by decide), zU_k (by decide), zU_k (by decide), zU_k (by decide), zU_k (by decide)]
  by_cases q : i = A 794 0
  · rw [q, zU_eq, if_pos rfl]
  · rw [zU_i q, if_neg q]
theorem zGo_36 {A : zA} {t w i : Int} : zGo A t w 36 i = if i = A 794 0 then zTime A else A 36 i := by
  unfold zGo
  rw [zU_k (by decide), zU_k (by decide), zU_k (by decide), zU_k (by decide)]
  by_cases q : i = A 794 0
  · rw [q, zU_eq, if_pos rfl]
  · rw [zU_i q, if_neg q, zU_k (by decide)]
theorem zGo_37 {A : zA} {t w i : Int} : zGo A t w 37 i = if i = A 794 0 then A 11 t else A 37 i := by
  unfold zGo
  rw [zU_k (by decide), zU_k (by decide), zU_k (by decide)]
  by_cases q : i = A 794 0
  · rw [q, zU_eq, if_pos rfl]
  · rw [zU_i q, if_neg q, zU_k (by decide), zU_k (by decide)]
theorem zGo_38 {A : zA} {t w i : Int} : zGo A t w 38 i = if i = A 794 0 then w else A 38 i := by
  unfold zGo
  rw [zU_k (by decide)]
  by_cases q : i = A 794 0
  · rw [q, zU_eq, if_pos rfl]
  · rw [zU_i q, if_neg q, zU_k (by decide), zU_k (by decide), zU_k (by decide), zU_k (by decide)]
theorem zGo_rank {A : zA} {t w u k : Int} (h0 : 0 ≤ k) (h : k ≤ A 794 0) : zRank (zGo A t w) u k = zRank A u k :=
  zS_eq k h0 (fun i i1 i2 => by show (if zGo A t w 35 i = u then (1 : Int) else 0) = if A 35 i = u then 1 else 0; rw [zGo_35, if_neg (show ¬ i = A 794 0 by omega)])
theorem zGo_seals {A : zA} {t w u : Int} (h0 : 0 ≤ A 794 0) : zSeals (zGo A t w) u = zSeals A u + if t = u then 1 else 0 := by
  unfold zSeals
  rw [zGo_n, zS_s h0, zGo_35, if_pos rfl]
  have : zS (fun k => if zGo A t w 35 k = u then (1 : Int) else 0) (A 794 0) = zS (fun k => if A 35 k = u then (1 : Int) else 0) (A 794 0) := zGo_rank h0 (Int.le_refl _)
  rw [this]
theorem zRkB {A : zA} {t k : Int} (h0 : 0 ≤ k) : 0 ≤ zRank A t k ∧ zRank A t k ≤ k := by
  have := zS_b (f := fun k => if A 35 k = t then (1 : Int) else 0) (c := 1) k (fun i _ _ => z01) h0 (by decide)
  unfold zRank
  omega
theorem zRkM {A : zA} {t k : Int} (h0 : 0 ≤ k) (h : k < A 794 0) (q : A 35 k = t) : zRank A t k < zSeals A t := by
  have : zS (fun k => if A 35 k = t then (1 : Int) else 0) (k + 1) ≤ zS (fun k => if A 35 k = t then (1 : Int) else 0) (A 794 0) := zS_up ⟨by omega, by omega⟩ (fun k _ _ => z01.1)
  rw [zS_s h0, if_pos q] at this
  unfold zRank zSeals
  omega
def zThR (m : Int) (G : gH) (A : zA) (t a τ : Int) : Prop := (G 0 a 0 = 10 ∧ m + 45 < a) ∧ G 592 a 0 = t ∧ G 593 a 0 = A 7 t ∧ G 594 a 0 = A 8 t ∧ G 595 a 0 = A 9 t ∧ G 597 a 0 = A 10 t ∧ G 598 a 0 = A 11 t ∧ G 599 a 0 = A 12 t ∧ G 600 a 0 = τ ∧ (zIn A t → G 596 a 0 = A 11 t - 100)
def zSlR (m : Int) (G : gH) (A : zA) (t a : Int) : Prop := (G 605 a 0 = zSeals A t ∧ m + 45 < G 604 a 0) ∧ (G 0 (G 604 a 0) 0 = 100 ∧ G 0 (G 604 a 0) 1 = zSL (zSeals A t)) ∧ ∀ k, 0 ≤ k → k < A 794 0 → A 35 k = t → G 1 (G 604 a 0) (3 * zRank A t k) = A 36 k ∧ G 1 (G 604 a 0) (3 * zRank A t k + 1) = A 37 k ∧ G 1 (G 604 a 0) (3 * zRank A t k + 2) = A 38 k
def zPpR (m : Int) (G : gH) (A : zA) (t a : Int) : Prop := (G 607 a 0 = A 13 t ∧ m + 45 < G 606 a 0) ∧ (G 0 (G 606 a 0) 0 = 100 ∧ G 0 (G 606 a 0) 1 = 18) ∧ ∀ i, 0 ≤ i → i < A 13 t → G 1 (G 606 a 0) (3 * i) = A 32 (6 * t + i) ∧ G 1 (G 606 a 0) (3 * i + 1) = A 33 (6 * t + i) ∧ G 1 (G 606 a 0) (3 * i + 2) = A 34 (6 * t + i)
def zRkT (e : gE) (b : Nat) (m : Int) (G : gH) (A : zA) (T τ : Int → Int) : Prop := zAL e b m G ((b : Int) + 2) 10 (A 785 0) T ∧ (∀ t, 0 ≤ t → t < A 785 0 → zThR m G A t (T t) (τ t) ∧ zSlR m G A t (T t) ∧ zPpR m G A t (T t)) ∧ (∀ s t, 0 ≤ s → s < A 785 0 → 0 ≤ t → t < A 785 0 → (G 604 (T s) 0 = G 604 (T t) 0 → s = t) ∧ (G 606 (T s) 0 = G 606 (T t) 0 → s = t) ∧ G 604 (T s) 0 ≠ G 606 (T t) 0)
theorem zRkT_i {e : gE} {b : Nat} {m : Int} {G : gH} {A : zA} {T τ : Int → Int} (h : zRkT e b m G A T τ) {s t : Int} (hs : 0 ≤ s ∧ s < A 785 0) (ht : 0 ≤ t ∧ t < A 785 0) (q : T s = T t) : s = t := by
  have h1 := (h.2.1 s hs.1 hs.2).1.2.1
  have h2 := (h.2.1 t ht.1 ht.2).1.2.1
  rw [q] at h1
  omega
/-- the heap is the same where things are kept -/
def zFT (b : Nat) (G : gH) (A : zA) (T : Int → Int) (G1 : gH) : Prop := (∀ i j, G 0 i 0 ≠ 0 → G1 0 i j = G 0 i j) ∧ (G1 17 ((b : Int) + 2) 0 = G 17 ((b : Int) + 2) 0 ∧ G1 18 ((b : Int) + 2) 0 = G 18 ((b : Int) + 2) 0) ∧ (G 0 (G 17 ((b : Int) + 2) 0) 0 = 103 → ∀ j, G1 3 (G 17 ((b : Int) + 2) 0) j = G 3 (G 17 ((b : Int) + 2) 0) j) ∧ ∀ t, 0 ≤ t → t < A 785 0 → (∀ c : Nat, ((592 ≤ c ∧ c ≤ 600) ∨ (604 ≤ c ∧ c ≤ 607)) → G1 c (T t) 0 = G c (T t) 0) ∧ (∀ j, G1 1 (G 604 (T t) 0) j = G 1 (G 604 (T t) 0) j) ∧ (∀ j, G1 1 (G 606 (T t) 0) j = G 1 (G 606 (T t) 0) j)
theorem zThR_fr {m : Int} {G G1 : gH} {A : zA} {t a τ : Int} (h : zThR m G A t a τ) (e0 : ∀ i j, G 0 i 0 ≠ 0 → G1 0 i j = G 0 i j) (ec : ∀ c : Nat, (592 ≤ c ∧ c ≤ 600) → G1 c a 0 = G c a 0) : zThR m G1 A t a τ := by
  obtain ⟨⟨a1, a2⟩, a3, a4, a5, a6, a7, a8, a9, a10, a11⟩ := h
  refine ⟨⟨by rw [e0 _ _ (by omega)]; exact a1, a2⟩, ?_⟩
  rw [ec _ (by decide), ec _ (by decide), ec _ (by decide), ec _ (by decide), ec _ (by decide), ec _ (by decide), ec _ (by decide), ec _ (by decide), ec _ (by decide)]
  exact ⟨a3, a4, a5, a6, a7, a8, a9, a10, a11⟩
theorem zSlR_fr {m : Int} {G G1 : gH} {A : zA} {t a : Int} (h : zSlR m G A t a) (e0 : ∀ i j, G 0 i 0 ≠ 0 → G1 0 i j = G 0 i j) (e1 : G1 604 a 0 = G 604 a 0) (e2 : G1 605 a 0 = G 605 a 0) (e3 : ∀ j, G1 1 (G 604 a 0) j = G 1 (G 604 a 0) j) : zSlR m G1 A t a := by
  obtain ⟨a1, ⟨a2, a3⟩, a4⟩ := h
  unfold zSlR
  rw [e1, e2, e0 _ _ (by omega), e0 _ _ (by omega)]
  refine ⟨a1, ⟨a2, a3⟩, fun k k1 k2 k3 => ?_⟩
  rw [e3, e3, e3]
  exact a4 k k1 k2 k3
theorem zPpR_fr {m : Int} {G G1 : gH} {A : zA} {t a : Int} (h : zPpR m G A t a) (e0 : ∀ i j, G 0 i 0 ≠ 0 → G1 0 i j = G 0 i j) (e1 : G1 606 a 0 = G 606 a 0) (e2 : G1 607 a 0 = G 607 a 0) (e3 : ∀ j, G1 1 (G 606 a 0) j = G 1 (G 606 a 0) j) : zPpR m G1 A t a := by
  obtain ⟨a1, ⟨a2, a3⟩, a4⟩ := h
  unfold zPpR
  rw [e1, e2, e0 _ _ (by omega), e0 _ _ (by omega)]
  refine ⟨a1, ⟨a2, a3⟩, fun k k1 k2 => ?_⟩
  rw [e3, e3, e3]
  exact a4 k k1 k2
theorem zRkT_fr {e : gE} {b : Nat} {m : Int} {G G1 : gH} {A : zA} {T τ : Int → Int} (h : zRkT e b m G A T τ) (f : zFT b G A T G1) : zRkT e b m G1 A T τ := by
  obtain ⟨h1, h2, h3⟩ := h
  obtain ⟨f0, ⟨f1, f2⟩, f3, f4⟩ := f
  refine ⟨zAL_fr (by decide) h1 f0 f1 f2 f3, fun t t1 t2 => ?_, fun s t s1 s2 t1 t2 => ?_⟩
  · have q := h2 t t1 t2
    have w := f4 t t1 t2
    exact ⟨zThR_fr q.1 f0 (fun c hc => w.1 c (Or.inl hc)), zSlR_fr q.2.1 f0 (w.1 _ (by decide)) (w.1 _ (by decide)) w.2.1, zPpR_fr q.2.2 f0 (w.1 _ (by decide)) (w.1 _ (by decide)) w.2.2⟩
  · rw [(f4 s s1 s2).1 604 (by decide), (f4 s s1 s2).1 606 (by decide), (f4 t t1 t2).1 604 (by decide), (f4 t t1 t2).1 606 (by decide)]
    exact h3 s t s1 s2 t1 t2
/-- the state is the same in what things show -/
def zKT (A B : zA) : Prop := B 785 0 = A 785 0 ∧ B 794 0 = A 794 0 ∧ ∀ (k : Nat) (i : Int), (7 ≤ k ∧ k ≤ 13) ∨ (32 ≤ k ∧ k ≤ 38) → B k i = A k i
theorem zRkT_A {e : gE} {b : Nat} {m : Int} {G : gH} {A B : zA} {T τ : Int → Int} (h : zRkT e b m G A T τ) (q : zKT A B) : zRkT e b m G B T τ := by
  obtain ⟨q1, q2, q3⟩ := q
  have e7 : B 7 = A 7 := funext fun i => q3 _ i (by decide)
  have e8 : B 8 = A 8 := funext fun i => q3 _ i (by decide)
  have e9 : B 9 = A 9 := funext fun i => q3 _ i (by decide)
  have e10 : B 10 = A 10 := funext fun i => q3 _ i (by decide)
  have e11 : B 11 = A 11 := funext fun i => q3 _ i (by decide)
  have e12 : B 12 = A 12 := funext fun i => q3 _ i (by decide)
  have e13 : B 13 = A 13 := funext fun i => q3 _ i (by decide)
  have e32 : B 32 = A 32 := funext fun i => q3 _ i (by decide)
  have e33 : B 33 = A 33 := funext fun i => q3 _ i (by decide)
  have e34 : B 34 = A 34 := funext fun i => q3 _ i (by decide)
  have e35 : B 35 = A 35 := funext fun i => q3 _ i (by decide)
  have e36 : B 36 = A 36 := funext fun i => q3 _ i (by decide)
  have e37 : B 37 = A 37 := funext fun i => q3 _ i (by decide)
  have e38 : B 38 = A 38 := funext fun i => q3 _ i (by decide)
  unfold zRkT zThR zSlR zPpR zSeals zRank zIn at *
  rw [q1, q2, e7, e8, e9, e10, e11, e12, e13, e32, e33, e34, e35, e36, e37, e38]
  exact h
