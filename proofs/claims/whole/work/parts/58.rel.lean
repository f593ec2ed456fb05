/-! THE CLASS, 9: its state -/
theorem c_C_thingAt {e : gE} {b : Nat} {m : Int} {G : gH} {p1 : Int} (h1 : 0 ≤ G 18 ((b : Int) + 2) 0 ∧ G 18 ((b : Int) + 2) 0 ≤ 16) (h2 : G 0 ((b : Int) + 2) 0 = 1) (h3 : 0 ≤ p1 ∧ p1 < G 18 ((b : Int) + 2) 0 → G 0 (G 17 ((b : Int) + 2) 0) 0 = 103 ∧ G 18 ((b : Int) + 2) 0 ≤ G 0 (G 17 ((b : Int) + 2) 0) 1 ∧ G 0 (G 3 (G 17 ((b : Int) + 2) 0) p1) 0 = 10) : GX e b m m_C_thingAt [(2, ((b : Int) + 1)), (0, p1)] G 0 0 (fun v9 G9 => v9 = (if 0 ≤ p1 ∧ p1 < G 18 ((b : Int) + 2) 0 then G 3 (G 17 ((b : Int) + 2) 0) p1 else 0 : Int) ∧ G9 = G) := by
  refine GM.ofEV (by decide) (Nat.le_of_ble_eq_true rfl) (sg_C_thingAt_0 ?_)
  exact ⟨h2, by omega, fun q => ⟨(if_neg (by omega)).symm, rfl⟩, fun q => ⟨(h3 (by omega)).1, by omega, (h3 (by omega)).2.1, (h3 (by omega)).2.2, (if_pos (by omega)).symm, rfl⟩⟩
def zR1 (b : Nat) (G : gH) (A : zA) : Prop := (∀ i, 0 ≤ i → i < 20 → G 1 ((b : Int) + 4) i = A 1 i ∧ G 1 ((b : Int) + 5) i = A 2 i ∧ G 1 ((b : Int) + 6) i = A 3 i ∧ G 1 ((b : Int) + 7) i = A 4 i) ∧ (∀ r, 0 ≤ r → r < 12 → G 1 ((b : Int) + 8) r = zWay A r ∧ G 1 ((b : Int) + 9) r = A 5 r) ∧ G 150 ((b : Int) + 3) 0 = A 784 0
def zR2 (b : Nat) (G : gH) (A : zA) : Prop := G 83 ((b : Int) + 10) 0 = A 789 0 ∧ G 84 ((b : Int) + 10) 0 = A 790 0 ∧ G 85 ((b : Int) + 10) 0 = A 795 0 ∧ G 730 ((b : Int) + 1) 0 = A 788 0 ∧ G 729 ((b : Int) + 1) 0 = A 793 0
def zR3 (b : Nat) (G : gH) (A : zA) : Prop := (∀ s, zSh s → G 401 ((b : Int) + (34 + 2 * s)) 0 = A 19 s ∧ G 402 ((b : Int) + (34 + 2 * s)) 0 = A 20 s ∧ G 1 ((b : Int) + 50) s = zfHolds A s ∧ ∀ i, 0 ≤ i → i < 60 → G 2 ((b : Int) + (35 + 2 * s)) i = A 22 (60 * s + i)) ∧ ∀ i, 1 ≤ i → i ≤ 7 → G 1 ((b : Int) + 53) i = A 39 i
def zR4 (b : Nat) (G : gH) (A : zA) : Prop := (∀ k, 0 ≤ k → k < 4 → G 1 ((b : Int) + 20) k = A 29 k ∧ G 1 ((b : Int) + 21) k = A 30 k ∧ G 1 ((b : Int) + 22) k = A 31 k) ∧ G 661 ((b : Int) + 18) 0 = A 791 0 ∧ G 662 ((b : Int) + 18) 0 = A 792 0
/-- the team that a thing's job is given to, or in whose hands it is -/
def zTau (A : zA) (t : Int) : Int := if 200 ≤ A 11 t ∧ A 11 t < 300 then A 11 t - 200 else if zIn A t then A 14 t else -1
def zRkQ (e : gE) (b : Nat) (m : Int) (G : gH) (A : zA) (T Q : Int → Int) : Prop := zAL e b m G ((b : Int) + 11) 9 (A 786 0) Q ∧ (∀ k, 0 ≤ k → k < A 786 0 → m + 45 < Q k ∧ G 528 (Q k) 0 = A 15 k ∧ G 529 (Q k) 0 = A 16 k ∧ G 530 (Q k) 0 = if A 17 k = -1 then 0 else T (A 17 k)) ∧ ∀ j k, 0 ≤ j → j < A 786 0 → 0 ≤ k → k < A 786 0 → Q j = Q k → j = k
def zRkP (e : gE) (b : Nat) (m : Int) (G : gH) (A : zA) (P : Int → Int) : Prop := zAL e b m G ((b : Int) + 19) 5 (A 787 0) P ∧ (∀ p, 0 ≤ p → p < A 787 0 → (m + 45 < P p ∧ G 272 (P p) 0 = A 23 p ∧ G 273 (P p) 0 = A 24 p ∧ G 274 (P p) 0 = A 25 p) ∧ (m + 45 < G 275 (P p) 0 ∧ G 0 (G 275 (P p) 0) 0 = 7 ∧ G 401 (G 275 (P p) 0) 0 = A 27 p ∧ G 402 (G 275 (P p) 0) 0 = A 26 p) ∧ (m + 45 < G 400 (G 275 (P p) 0) 0 ∧ G 0 (G 400 (G 275 (P p) 0) 0) 0 = 101 ∧ G 0 (G 400 (G 275 (P p) 0) 0) 1 = 60) ∧ ∀ i, 0 ≤ i → i < A 26 p → G 2 (G 400 (G 275 (P p) 0) 0) i = A 28 (60 * p + i)) ∧ ∀ j k, 0 ≤ j → j < A 787 0 → 0 ≤ k → k < A 787 0 → (P j = P k → j = k) ∧ (G 275 (P j) 0 = G 275 (P k) 0 → j = k) ∧ (G 400 (G 275 (P j) 0) 0 = G 400 (G 275 (P k) 0) 0 → j = k)
/-- the jobs, as they stood when a plan was made last -/
def zRkJ (e : gE) (b : Nat) (m : Int) (G : gH) (A : zA) (T : Int → Int) : Prop := (∃ (n : Int) (f : Int → Int), zAL e b m G ((b : Int) + 13) 10 n f ∧ (A 788 0 = 1 → ∃ (J : Int → Prop) (O : Int → Int), zEnum J (fun t => G 603 (T t) 0 + G 602 (T t) 0) (A 785 0) n O ∧ (∀ i, 0 ≤ i → i < n → f i = T (O i)) ∧ ∀ t, 0 ≤ t → t < A 785 0 → zIn A t → (J t ↔ zFar A t ≠ -1) ∧ (J t → G 602 (T t) 0 = zLen A t ∧ G 603 (T t) 0 = zLat A t))) ∧ (∃ (n : Int) (f : Int → Int), zAL e b m G ((b : Int) + 14) 10 n f) ∧ ∃ (n : Int) (f : Int → Int), zAL e b m G ((b : Int) + 24) 10 n f
abbrev zLs (k : Int) : Prop := k = 2 ∨ k = 11 ∨ k = 13 ∨ k = 14 ∨ k = 19 ∨ k = 24
def zDst (b : Nat) (G : gH) : Prop := ∀ j k, zLs j → zLs k → j ≠ k → G 0 (G 17 ((b : Int) + j) 0) 0 = 103 → G 17 ((b : Int) + j) 0 ≠ G 17 ((b : Int) + k) 0
def zRel (e : gE) (b : Nat) (m : Int) (G : gH) (A : zA) : Prop := ∃ T Q P : Int → Int, (zR1 b G A ∧ zR2 b G A ∧ zR3 b G A ∧ zR4 b G A) ∧ zRkT e b m G A T (zTau A) ∧ zRkQ e b m G A T Q ∧ zRkP e b m G A P ∧ zRkJ e b m G A T ∧ zDst b G
/-- behind the reference's cells nothing has changed, nor what lists are -/
def zDyn (m : Int) (G G1 : gH) : Prop := (∀ (c : Nat) (i j : Int), m + 45 < i → G1 c i j = G c i j) ∧ ∀ (c : Nat) (i j : Int), (c = 0 ∨ c = 9 ∨ c = 16 ∨ c = 17 ∨ c = 18) → G1 c i j = G c i j
theorem zDyn_r {m : Int} {G : gH} : zDyn m G G := ⟨fun _ _ _ _ => rfl, fun _ _ _ _ => rfl⟩
theorem zDyn_t {m : Int} {G G1 G2 : gH} (h : zDyn m G G1) (h2 : zDyn m G1 G2) : zDyn m G G2 := ⟨fun c i j q => (h2.1 c i j q).trans (h.1 c i j q), fun c i j q => (h2.2 c i j q).trans (h.2 c i j q)⟩
theorem zDyn_u {m : Int} {G : gH} {c : Nat} {i j v : Int} (hi : i ≤ m + 45) (hc : ¬ (c = 0 ∨ c = 9 ∨ c = 16 ∨ c = 17 ∨ c = 18)) : zDyn m G (gU G c i j v) := ⟨fun c' i' j' q => gU_ne (by omega), fun c' i' j' q => gU_ne (fun z => hc (by rw [← z.1]; exact q))⟩
theorem zAL_dyn {e : gE} {b : Nat} {m : Int} {G G1 : gH} {a tg n : Int} {f : Int → Int} (d : zDyn m G G1) (ht : tg ≠ 0) (h : zAL e b m G a tg n f) : zAL e b m G1 a tg n f := by
  refine zAL_fr ht h (fun i j _ => d.2 _ _ _ (Or.inl rfl)) (d.2 _ _ _ (by decide)) (d.2 _ _ _ (by decide)) (fun q j => ?_)
  rcases h.2.2.2 with w | w
  · omega
  · exact d.1 _ _ _ w.1
theorem zRkT_dyn {e : gE} {b : Nat} {m : Int} {G G1 : gH} {A : zA} {T τ : Int → Int} (d : zDyn m G G1) (h : zRkT e b m G A T τ) : zRkT e b m G1 A T τ := by
  refine zRkT_fr h ⟨fun i j _ => d.2 _ _ _ (Or.inl rfl), ⟨d.2 _ _ _ (by decide), d.2 _ _ _ (by decide)⟩, fun q j => ?_, fun t t1 t2 => ?_⟩
  · rcases h.1.2.2.2 with w | w
    · omega
    · exact d.1 _ _ _ w.1
  · have w := h.2.1 t t1 t2
    exact ⟨fun c _ => d.1 _ _ _ w.1.1.2, fun j => d.1 _ _ _ w.2.1.1.2, fun j => d.1 _ _ _ w.2.2.1.2⟩
theorem zRkQ_dyn {e : gE} {b : Nat} {m : Int} {G G1 : gH} {A : zA} {T Q : Int → Int} (d : zDyn m G G1) (h : zRkQ e b m G A T Q) : zRkQ e b m G1 A T Q := by
  refine ⟨zAL_dyn d (by decide) h.1, fun k k1 k2 => ?_, h.2.2⟩
  have w := h.2.1 k k1 k2
  rw [d.1 _ _ _ w.1, d.1 _ _ _ w.1, d.1 _ _ _ w.1]
  exact w
theorem zRkP_dyn {e : gE} {b : Nat} {m : Int} {G G1 : gH} {A : zA} {P : Int → Int} (d : zDyn m G G1) (h : zRkP e b m G A P) : zRkP e b m G1 A P := by
  have ea : ∀ p, 0 ≤ p → p < A 787 0 → G1 275 (P p) 0 = G 275 (P p) 0 := fun p p1 p2 => d.1 _ _ _ (h.2.1 p p1 p2).1.1
  have ee : ∀ p, 0 ≤ p → p < A 787 0 → G1 400 (G 275 (P p) 0) 0 = G 400 (G 275 (P p) 0) 0 := fun p p1 p2 => d.1 _ _ _ (h.2.1 p p1 p2).2.1.1
  refine ⟨zAL_dyn d (by decide) h.1, fun p p1 p2 => ?_, fun j k j1 j2 k1 k2 => ?_⟩
  · have w := h.2.1 p p1 p2
    rw [ea p p1 p2, ee p p1 p2, d.1 _ _ _ w.1.1, d.1 _ _ _ w.1.1, d.1 _ _ _ w.1.1, d.2 0 _ _ (Or.inl rfl), d.2 0 _ _ (Or.inl rfl), d.2 0 _ _ (Or.inl rfl), d.1 _ _ _ w.2.1.1, d.1 _ _ _ w.2.1.1]
    exact ⟨w.1, w.2.1, w.2.2.1, fun i i1 i2 => by rw [d.1 _ _ _ w.2.2.1.1]; exact w.2.2.2 i i1 i2⟩
  · rw [ea j j1 j2, ea k k1 k2, ee j j1 j2, ee k k1 k2]
    exact h.2.2 j k j1 j2 k1 k2
theorem zRkJ_dyn {e : gE} {b : Nat} {m : Int} {G G1 : gH} {A : zA} {T τ : Int → Int} (d : zDyn m G G1) (hT : zRkT e b m G A T τ) (h : zRkJ e b m G A T) : zRkJ e b m G1 A T := by
  obtain ⟨⟨n, f, h1, h2⟩, ⟨n2, f2, h3⟩, ⟨n3, f3, h4⟩⟩ := h
  refine ⟨⟨n, f, zAL_dyn d (by decide) h1, fun q => ?_⟩, ⟨n2, f2, zAL_dyn d (by decide) h3⟩, ⟨n3, f3, zAL_dyn d (by decide) h4⟩⟩
  obtain ⟨J, O, w1, w2, w3⟩ := h2 q
  have eT : ∀ t, 0 ≤ t → t < A 785 0 → G1 603 (T t) 0 = G 603 (T t) 0 ∧ G1 602 (T t) 0 = G 602 (T t) 0 := fun t t1 t2 => by
    have := (hT.2.1 t t1 t2).1.1.2
    exact ⟨d.1 _ _ _ this, d.1 _ _ _ this⟩
  refine ⟨J, O, zEnum_congr w1 (fun _ _ _ => Iff.rfl) (fun t t1 t2 _ => by rw [(eT t t1 t2).1, (eT t t1 t2).2]), w2, fun t t1 t2 q2 => ?_⟩
  rw [(eT t t1 t2).1, (eT t t1 t2).2]
  exact w3 t t1 t2 q2
theorem zDst_dyn {b : Nat} {m : Int} {G G1 : gH} (d : zDyn m G G1) (h : zDst b G) : zDst b G1 := fun j k j1 k1 q w => by
  rw [d.2 17 _ _ (by decide), d.2 17 _ _ (by decide)]
  refine h j k j1 k1 q ?_
  rw [d.2 0 _ _ (by decide), d.2 17 _ _ (by decide)] at w
  exact w
