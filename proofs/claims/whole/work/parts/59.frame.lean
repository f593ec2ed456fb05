/-! THE CLASS, 10: what changes of heap and state leave of its state -/
def zCh (ks : List Nat) (A B : zA) : Prop := ∀ k, k ∉ ks → B k = A k
theorem zCh_u {A : zA} {k : Nat} {j v : Int} : zCh [k] A (zU A k j v) := fun k' h => funext fun i => zU_k (fun z => h (by rw [z]; exact List.mem_cons_self))
theorem zCh_t {ks ks' : List Nat} {A B C : zA} (h : zCh ks A B) (h2 : zCh ks' B C) : zCh (ks ++ ks') A C := fun k q => (h2 k (fun z => q (List.mem_append_right _ z))).trans (h k (fun z => q (List.mem_append_left _ z)))
theorem zCh_r {A : zA} : zCh [] A A := fun _ _ => rfl
theorem zCh_m {ks ks' : List Nat} {A B : zA} (h : zCh ks A B) (q : ∀ k ∈ ks, k ∈ ks') : zCh ks' A B := fun k z => h k (fun w => z (q k w))
theorem zWlk_c {A B : zA} (q : zEdge B = zEdge A) : ∀ k, zWlk B k = zWlk A k := by
  intro k
  induction k with
  | zero => rfl
  | succ k ih => funext r l; simp only [zWlk, ih, q]
theorem zWay_c {A B : zA} (h : ∀ k, k = 1 ∨ k = 2 ∨ k = 3 ∨ k = 4 ∨ k = 784 → B k = A k) : zWay B = zWay A := by
  have e1 : zEdge B = zEdge A := by
    funext a r w
    unfold zEdge
    rw [h 1 (by decide), h 2 (by decide), h 3 (by decide), h 4 (by decide), h 784 (by decide)]
  have e2 : zIsW B = zIsW A := by
    funext f
    unfold zIsW
    rw [e1]
    simp only [zWlk_c e1]
  unfold zWay
  rw [e2]
theorem zR1_A {b : Nat} {G : gH} {A B : zA} {ks : List Nat} (q : zCh ks A B) (hk : ∀ k ∈ [1, 2, 3, 4, 5, 784], k ∉ ks) (h : zR1 b G A) : zR1 b G B := by
  have w : zWay B = zWay A := zWay_c (fun k z => q k (hk k (by rcases z with z | z | z | z | z <;> rw [z] <;> decide)))
  unfold zR1 at *
  rw [w, q 1 (hk 1 (by decide)), q 2 (hk 2 (by decide)), q 3 (hk 3 (by decide)), q 4 (hk 4 (by decide)), q 5 (hk 5 (by decide)), q 784 (hk 784 (by decide))]
  exact h
theorem zR2_A {b : Nat} {G : gH} {A B : zA} {ks : List Nat} (q : zCh ks A B) (hk : ∀ k ∈ [788, 789, 790, 793, 795], k ∉ ks) (h : zR2 b G A) : zR2 b G B := by
  unfold zR2 at *
  rw [q 788 (hk 788 (by decide)), q 789 (hk 789 (by decide)), q 790 (hk 790 (by decide)), q 793 (hk 793 (by decide)), q 795 (hk 795 (by decide))]
  exact h
theorem zR3_A {b : Nat} {G : gH} {A B : zA} {ks : List Nat} (q : zCh ks A B) (hk : ∀ k ∈ [18, 19, 20, 21, 22, 39], k ∉ ks) (h : zR3 b G A) : zR3 b G B := by
  unfold zR3 zfHolds at *
  rw [q 18 (hk 18 (by decide)), q 19 (hk 19 (by decide)), q 20 (hk 20 (by decide)), q 21 (hk 21 (by decide)), q 22 (hk 22 (by decide)), q 39 (hk 39 (by decide))]
  exact h
theorem zR4_A {b : Nat} {G : gH} {A B : zA} {ks : List Nat} (q : zCh ks A B) (hk : ∀ k ∈ [29, 30, 31, 791, 792], k ∉ ks) (h : zR4 b G A) : zR4 b G B := by
  unfold zR4 at *
  rw [q 29 (hk 29 (by decide)), q 30 (hk 30 (by decide)), q 31 (hk 31 (by decide)), q 791 (hk 791 (by decide)), q 792 (hk 792 (by decide))]
  exact h
theorem zRkT_B {e : gE} {b : Nat} {m : Int} {G : gH} {A B : zA} {T τ : Int → Int} {ks : List Nat} (q : zCh ks A B) (hk : ∀ k ∈ [785, 794, 7, 8, 9, 10, 11, 12, 13, 32, 33, 34, 35, 36, 37, 38], k ∉ ks) (h : zRkT e b m G A T τ) : zRkT e b m G B T τ := by
  refine zRkT_A h ⟨by rw [q 785 (hk 785 (by decide))], by rw [q 794 (hk 794 (by decide))], fun k i z => ?_⟩
  have : k ∈ [785, 794, 7, 8, 9, 10, 11, 12, 13, 32, 33, 34, 35, 36, 37, 38] := by
    simp only [List.mem_cons, List.mem_nil_iff]
    omega
  rw [q k (hk k this)]
theorem zTau_c {A B : zA} {ks : List Nat} (q : zCh ks A B) (hk : ∀ k ∈ [11, 14], k ∉ ks) : zTau B = zTau A := by
  funext t
  unfold zTau zIn
  rw [q 11 (hk 11 (by decide)), q 14 (hk 14 (by decide))]
theorem zRkQ_A {e : gE} {b : Nat} {m : Int} {G : gH} {A B : zA} {T Q : Int → Int} {ks : List Nat} (q : zCh ks A B) (hk : ∀ k ∈ [786, 15, 16, 17], k ∉ ks) (h : zRkQ e b m G A T Q) : zRkQ e b m G B T Q := by
  unfold zRkQ at *
  rw [q 786 (hk 786 (by decide)), q 15 (hk 15 (by decide)), q 16 (hk 16 (by decide)), q 17 (hk 17 (by decide))]
  exact h
theorem zRkP_A {e : gE} {b : Nat} {m : Int} {G : gH} {A B : zA} {P : Int → Int} {ks : List Nat} (q : zCh ks A B) (hk : ∀ k ∈ [787, 23, 24, 25, 26, 27, 28], k ∉ ks) (h : zRkP e b m G A P) : zRkP e b m G B P := by
  unfold zRkP at *
  rw [q 787 (hk 787 (by decide)), q 23 (hk 23 (by decide)), q 24 (hk 24 (by decide)), q 25 (hk 25 (by decide)), q 26 (hk 26 (by decide)), q 27 (hk 27 (by decide)), q 28 (hk 28 (by decide))]
  exact h
theorem zRkJ_A {e : gE} {b : Nat} {m : Int} {G : gH} {A B : zA} {T : Int → Int} {ks : List Nat} (q : zCh ks A B) (hk : ∀ k ∈ [785, 788, 5, 6, 10, 11, 790], k ∉ ks) (h : zRkJ e b m G A T) : zRkJ e b m G B T := by
  unfold zRkJ zLat zLen zFar zDng zIn at *
  rw [q 785 (hk 785 (by decide)), q 788 (hk 788 (by decide)), q 5 (hk 5 (by decide)), q 6 (hk 6 (by decide)), q 10 (hk 10 (by decide)), q 11 (hk 11 (by decide)), q 790 (hk 790 (by decide))]
  exact h
/-- of the class's own cells changed are only these -/
def zSx (b : Nat) (l : List (Nat × Int)) (G G1 : gH) : Prop := ∀ (c : Nat) (k j : Int), c ≠ 9 → 0 ≤ k → k ≤ 53 → (c, k) ∉ l → G1 c ((b : Int) + k) j = G c ((b : Int) + k) j
theorem zSx_r {b : Nat} {l : List (Nat × Int)} {G : gH} : zSx b l G G := fun _ _ _ _ _ _ _ => rfl
theorem zSx_t {b : Nat} {l l' : List (Nat × Int)} {G G1 G2 : gH} (h : zSx b l G G1) (h2 : zSx b l' G1 G2) : zSx b (l ++ l') G G2 := fun c k j c9 k0 k1 q => (h2 c k j c9 k0 k1 (fun z => q (List.mem_append_right _ z))).trans (h c k j c9 k0 k1 (fun z => q (List.mem_append_left _ z)))
theorem zSx_m {b : Nat} {l l' : List (Nat × Int)} {G G1 : gH} (h : zSx b l G G1) (q : ∀ p ∈ l, p ∈ l') : zSx b l' G G1 := fun c k j c9 k0 k1 z => h c k j c9 k0 k1 (fun w => z (q _ w))
theorem zSx_u {b : Nat} {G : gH} {c : Nat} {k j v : Int} : zSx b [(c, k)] G (gU G c ((b : Int) + k) j v) := fun c' k' j' c9 k0 k1 q => gU_ne (fun z => q (by rw [z.1, show k' = k from by omega]; exact List.mem_cons_self))
theorem zSx_fw {b : Nat} {m : Int} {S : List Nat} {G G1 : gH} (hF : (b : Int) + 53 < m ∧ m + 45 < G 9 0 0) (h : zFW m S G G1) : zSx b [] G G1 := fun c k j c9 k0 k1 q => h.2 c _ j c9 (by omega) (by omega)
theorem zR1_G {b : Nat} {G G1 : gH} {A : zA} {l : List (Nat × Int)} (q : zSx b l G G1) (hx : ∀ p ∈ ([(1, 4), (1, 5), (1, 6), (1, 7), (1, 8), (1, 9), (150, 3)] : List (Nat × Int)), p ∉ l) (h : zR1 b G A) : zR1 b G1 A := by
  obtain ⟨h1, h2, h3⟩ := h
  refine ⟨fun i i1 i2 => ?_, fun r r1 r2 => ?_, ?_⟩
  · rw [q 1 4 i (by decide) (by decide) (by decide) (hx _ (by decide)), q 1 5 i (by decide) (by decide) (by decide) (hx _ (by decide)), q 1 6 i (by decide) (by decide) (by decide) (hx _ (by decide)), q 1 7 i (by decide) (by decide) (by decide) (hx _ (by decide))]
    exact h1 i i1 i2
  · rw [q 1 8 r (by decide) (by decide) (by decide) (hx _ (by decide)), q 1 9 r (by decide) (by decide) (by decide) (hx _ (by decide))]
    exact h2 r r1 r2
  · rw [q 150 3 0 (by decide) (by decide) (by decide) (hx _ (by decide))]
    exact h3
theorem zR2_G {b : Nat} {G G1 : gH} {A : zA} {l : List (Nat × Int)} (q : zSx b l G G1) (hx : ∀ p ∈ ([(83, 10), (84, 10), (85, 10), (730, 1), (729, 1)] : List (Nat × Int)), p ∉ l) (h : zR2 b G A) : zR2 b G1 A := by
  unfold zR2 at *
  rw [q 83 10 0 (by decide) (by decide) (by decide) (hx _ (by decide)), q 84 10 0 (by decide) (by decide) (by decide) (hx _ (by decide)), q 85 10 0 (by decide) (by decide) (by decide) (hx _ (by decide)), q 730 1 0 (by decide) (by decide) (by decide) (hx _ (by decide)), q 729 1 0 (by decide) (by decide) (by decide) (hx _ (by decide))]
  exact h
theorem zR3_G {b : Nat} {G G1 : gH} {A : zA} {l : List (Nat × Int)} (q : zSx b l G G1) (hx : (∀ p ∈ l, ¬ ((p.1 = 401 ∨ p.1 = 402 ∨ p.1 = 2) ∧ 34 ≤ p.2 ∧ p.2 ≤ 49)) ∧ (1, 50) ∉ l ∧ (1, 53) ∉ l) (h : zR3 b G A) : zR3 b G1 A := by
  obtain ⟨h1, h2⟩ := h
  refine ⟨fun s hs => ?_, fun i i1 i2 => ?_⟩
  · have w := h1 s hs
    rw [q 401 (34 + 2 * s) 0 (by decide) (by omega) (by omega) (fun z => hx.1 _ z ⟨Or.inl rfl, by show 34 ≤ 34 + 2 * s ∧ 34 + 2 * s ≤ 49; omega⟩), q 402 (34 + 2 * s) 0 (by decide) (by omega) (by omega) (fun z => hx.1 _ z ⟨Or.inr (Or.inl rfl), by show 34 ≤ 34 + 2 * s ∧ 34 + 2 * s ≤ 49; omega⟩), q 1 50 s (by decide) (by decide) (by decide) hx.2.1]
    refine ⟨w.1, w.2.1, w.2.2.1, fun i i1 i2 => ?_⟩
    rw [q 2 (35 + 2 * s) i (by decide) (by omega) (by omega) (fun z => hx.1 _ z ⟨Or.inr (Or.inr rfl), by show 34 ≤ 35 + 2 * s ∧ 35 + 2 * s ≤ 49; omega⟩)]
    exact w.2.2.2 i i1 i2
  · rw [q 1 53 i (by decide) (by decide) (by decide) hx.2.2]
    exact h2 i i1 i2
theorem zR4_G {b : Nat} {G G1 : gH} {A : zA} {l : List (Nat × Int)} (q : zSx b l G G1) (hx : ∀ p ∈ ([(1, 20), (1, 21), (1, 22), (661, 18), (662, 18)] : List (Nat × Int)), p ∉ l) (h : zR4 b G A) : zR4 b G1 A := by
  obtain ⟨h1, h2⟩ := h
  refine ⟨fun k k1 k2 => ?_, ?_⟩
  · rw [q 1 20 k (by decide) (by decide) (by decide) (hx _ (by decide)), q 1 21 k (by decide) (by decide) (by decide) (hx _ (by decide)), q 1 22 k (by decide) (by decide) (by decide) (hx _ (by decide))]
    exact h1 k k1 k2
  · rw [q 661 18 0 (by decide) (by decide) (by decide) (hx _ (by decide)), q 662 18 0 (by decide) (by decide) (by decide) (hx _ (by decide))]
    exact h2
/-- the reference's cells stay -/
def zRf (m : Int) (G G1 : gH) : Prop := ∀ (c : Nat) (i j : Int), c ≠ 9 → m ≤ i → i ≤ m + 45 → G1 c i j = G c i j
theorem zRf_r {m : Int} {G : gH} : zRf m G G := fun _ _ _ _ _ _ => rfl
theorem zRf_t {m : Int} {G G1 G2 : gH} (h : zRf m G G1) (h2 : zRf m G1 G2) : zRf m G G2 := fun c i j c9 q q2 => (h2 c i j c9 q q2).trans (h c i j c9 q q2)
theorem zRf_u {m : Int} {G : gH} {c : Nat} {i j v : Int} (h : i < m ∨ m + 45 < i) : zRf m G (gU G c i j v) := fun c' i' j' _ q q2 => gU_ne (fun z => by omega)
theorem zRf_M {m : Int} {G G1 : gH} (h : zRf m G G1) : zM m G1 = zM m G := by
  funext k i
  unfold zM
  by_cases h1 : k < 40
  · simp only [h1, if_true]
    rw [h 2 (m + k) i (by decide) (by omega) (by omega), h 1 (m + k) i (by decide) (by omega) (by omega)]
  · simp only [h1, if_false]
    by_cases z : k = 9
    · rw [if_neg (by omega), if_neg (by omega)]
    · rw [h k (m + 0) 0 z (by omega) (by omega)]
/-- a call of the class answers r and comes to its state -/
def zCQ (e : gE) (b : Nat) (m : Int) (G : gH) (r : Int × zA) (v : Int) (G1 : gH) : Prop := v = r.1 ∧ zRel e b m G1 r.2 ∧ zRf m G G1
theorem zCQ_t {e : gE} {b : Nat} {m : Int} {G G1 G2 : gH} {r : Int × zA} {v : Int} (h : zRf m G G1) (q : zCQ e b m G1 r v G2) : zCQ e b m G r v G2 := ⟨q.1, q.2.1, zRf_t h q.2.2⟩
/-- a call that changes only cells of the class itself -/
theorem zRel_st {e : gE} {b : Nat} {m : Int} {G G1 : gH} {A B : zA} {ks : List Nat} (hR : zRel e b m G A) (d : zDyn m G G1) (q : zCh ks A B) (hk : ∀ k ∈ [785, 794, 7, 8, 9, 10, 11, 12, 13, 32, 33, 34, 35, 36, 37, 38, 14, 786, 15, 16, 17, 787, 23, 24, 25, 26, 27, 28, 788, 5, 6, 790], k ∉ ks) (K : zR1 b G A → zR2 b G A → zR3 b G A → zR4 b G A → zR1 b G1 B ∧ zR2 b G1 B ∧ zR3 b G1 B ∧ zR4 b G1 B) : zRel e b m G1 B := by
  obtain ⟨T, Q, P, ⟨r1, r2, r3, r4⟩, hT, hQ, hP, hJ, hD⟩ := hR
  have sub : ∀ l : List Nat, (∀ k ∈ l, k ∈ [785, 794, 7, 8, 9, 10, 11, 12, 13, 32, 33, 34, 35, 36, 37, 38, 14, 786, 15, 16, 17, 787, 23, 24, 25, 26, 27, 28, 788, 5, 6, 790]) → ∀ k ∈ l, k ∉ ks := fun l w k z => hk k (w k z)
  refine ⟨T, Q, P, K r1 r2 r3 r4, ?_, zRkQ_A q (sub _ (by decide)) (zRkQ_dyn d hQ), zRkP_A q (sub _ (by decide)) (zRkP_dyn d hP), zRkJ_A q (sub _ (by decide)) (zRkJ_dyn d hT hJ), zDst_dyn d hD⟩
  rw [zTau_c q (sub _ (by decide))]
  exact zRkT_B q (sub _ (by decide)) (zRkT_dyn d hT)
theorem c_C_refuse {e : gE} {b : Nat} {m : Int} {G : gH} {A : zA} {k : Int} (hR : zRel e b m G A) (hB : zB 512 A) (hk : -7 ≤ k ∧ k ≤ -1) : GX e b m m_C_refuse [(2, ((b : Int) + 1)), (0, k)] G 0 0 (zCQ e b m G (zNo A k)) := by
  refine GM.inv fun hF => ?_
  have hlo := fx_lo hF
  have b1 : 0 ≤ A 39 (-k) ∧ A 39 (-k) ≤ 512 := hB 39 (-k)
  have hr := hR
  obtain ⟨T, Q, P, ⟨r1, r2, r3, r4⟩, -⟩ := hr
  have er := r3.2 (-k) (by omega) (by omega)
  refine GM.ofEV (by decide) (Nat.le_of_ble_eq_true rfl) (sg_C_refuse_0 ⟨by omega, fun q => absurd q (by omega), fun _ => ⟨by omega, by omega, ?_⟩⟩)
  rintro _ rfl
  rw [er]
  refine ⟨rfl, ?_, zRf_u (Or.inl (by omega))⟩
  show zRel e b m _ (zU A 39 (-k) (A 39 (-k) + 1))
  refine zRel_st hR (zDyn_u (by omega) (by decide)) zCh_u (by decide) (fun r1 r2 r3 r4 => ⟨zR1_A zCh_u (by decide) (zR1_G zSx_u (by decide) r1), zR2_A zCh_u (by decide) (zR2_G zSx_u (by decide) r2), ⟨fun s hs => ?_, fun i i1 i2 => ?_⟩, zR4_A zCh_u (by decide) (zR4_G zSx_u (by decide) r4)⟩)
  · have w := r3.1 s hs
    have ef : zfHolds (zU A 39 (-k) (A 39 (-k) + 1)) s = zfHolds A s := by unfold zfHolds; rw [zU_k (by decide), zU_k (by decide), zU_k (by decide)]
    rw [ef, gU_c _ (by decide), gU_c _ (by decide), gU_k (by decide), zU_k (by decide), zU_k (by decide)]
    refine ⟨w.1, w.2.1, w.2.2.1, fun i i1 i2 => ?_⟩
    rw [gU_c _ (by decide), zU_k (by decide)]
    exact w.2.2.2 i i1 i2
  · by_cases z : i = -k
    · rw [z, gU_eq, zU_eq]
    · rw [gU_j z, zU_i z]; exact r3.2 i i1 i2
