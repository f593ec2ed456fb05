/-! THE STATE as the reference keeps it: numbers by key (arrays 1 to 39, the fields' own numbers for the rest) and place -/
abbrev zA : Type := Nat → Int → Int
def zM (m : Int) (G : gH) : zA := fun k i => if k < 40 then (if k = 22 ∨ k = 28 then G 2 (m + (k : Int)) i else G 1 (m + (k : Int)) i) else if 784 ≤ k ∧ k < 796 ∧ i = 0 then G k (m + 0) 0 else 0
/-- one place -/
def zU (A : zA) (k : Nat) (j v : Int) : zA := fun k' i => if k' = k ∧ i = j then v else A k' i
theorem zU_eq {A : zA} {k : Nat} {j v : Int} : zU A k j v k j = v := if_pos ⟨rfl, rfl⟩
theorem zU_k {A : zA} {k k' : Nat} {j v i : Int} (h : k' ≠ k) : zU A k j v k' i = A k' i := if_neg (fun q => h q.1)
theorem zU_i {A : zA} {k k' : Nat} {j v i : Int} (h : i ≠ j) : zU A k j v k' i = A k' i := if_neg (fun q => h q.2)
theorem gU_c {G : gH} {c : Nat} {i j v : Int} (c' : Nat) {i' j' : Int} (h : c' ≠ c) : gU G c i j v c' i' j' = G c' i' j' := if_neg (fun q => h q.1)
theorem gU_k {G : gH} {c : Nat} {m : Int} {j v : Int} {c' : Nat} {k k' j' : Int} (h : k' ≠ k) : gU G c (m + k) j v c' (m + k') j' = G c' (m + k') j' := if_neg (fun q => h (by have := q.2.1; omega))
theorem gU_j {G : gH} {c : Nat} {i j v : Int} {c' : Nat} {i' j' : Int} (h : j' ≠ j) : gU G c i j v c' i' j' = G c' i' j' := if_neg (fun q => h q.2.2)
theorem zM_i {m : Int} {G : gH} {j v : Int} (k : Nat) (hk : k < 40 ∧ k ≠ 22 ∧ k ≠ 28) : zM m (gU G 1 (m + (k : Int)) j v) = zU (zM m G) k j v := by
  funext k' i
  unfold zM zU gU
  by_cases h1 : k' < 40
  · simp only [h1, if_true]
    by_cases h2 : k' = 22 ∨ k' = 28
    · rw [if_pos h2, if_pos h2, if_neg (by simp), if_neg (by omega)]
    · rw [if_neg h2, if_neg h2]
      by_cases h3 : k' = k ∧ i = j
      · rw [if_pos ⟨by trivial, by rw [h3.1], h3.2⟩, if_pos h3]
      · rw [if_neg (fun q => h3 ⟨by omega, q.2.2⟩), if_neg h3]
  · simp only [h1, if_false]
    rw [if_neg (fun q : k' = k ∧ i = j => by omega)]
    split
    · exact if_neg (fun q => by omega)
    · rfl
theorem zM_l {m : Int} {G : gH} {j v : Int} (k : Nat) (hk : k = 22 ∨ k = 28) : zM m (gU G 2 (m + (k : Int)) j v) = zU (zM m G) k j v := by
  funext k' i
  unfold zM zU gU
  by_cases h1 : k' < 40
  · simp only [h1, if_true]
    by_cases h2 : k' = 22 ∨ k' = 28
    · rw [if_pos h2, if_pos h2]
      by_cases h3 : k' = k ∧ i = j
      · rw [if_pos ⟨by trivial, by rw [h3.1], h3.2⟩, if_pos h3]
      · rw [if_neg (fun q => h3 ⟨by omega, q.2.2⟩), if_neg h3]
    · rw [if_neg h2, if_neg h2, if_neg (by simp), if_neg (by omega)]
  · simp only [h1, if_false]
    rw [if_neg (fun q : k' = k ∧ i = j => by omega)]
    split
    · exact if_neg (fun q => by omega)
    · rfl
theorem zM_s {m : Int} {G : gH} {v : Int} (k : Nat) (hk : 784 ≤ k ∧ k < 796) : zM m (gU G k (m + 0) 0 v) = zU (zM m G) k 0 v := by
  funext k' i
  unfold zM zU gU
  by_cases h1 : k' < 40
  · simp only [h1, if_true]
    rw [if_neg (fun q : k' = k ∧ i = 0 => by omega)]
    split
    · rw [if_neg (fun q => by omega)]
    · rw [if_neg (fun q => by omega)]
  · simp only [h1, if_false]
    by_cases h2 : 784 ≤ k' ∧ k' < 796 ∧ i = 0
    · rw [if_pos h2, if_pos h2]
      by_cases h3 : k' = k
      · rw [if_pos ⟨h3, by simp⟩, if_pos ⟨h3, h2.2.2⟩]
      · rw [if_neg (fun q => h3 q.1), if_neg (fun q => h3 q.1)]
    · rw [if_neg h2, if_neg h2, if_neg (fun q => by omega)]
/-- scratch -/
theorem zM_n {m : Int} {G : gH} {c : Nat} {k j v : Int} (hk : (c < 784 ∧ 40 ≤ k) ∨ 796 ≤ c) : zM m (gU G c (m + k) j v) = zM m G := by
  funext k' i
  unfold zM gU
  by_cases h1 : k' < 40
  · simp only [h1, if_true]
    split
    · exact if_neg (fun q => by omega)
    · exact if_neg (fun q => by omega)
  · simp only [h1, if_false]
    split
    · exact if_neg (fun q => by omega)
    · rfl
/-- what a call of the reference leaves alone -/
def zC (m : Int) (G G1 : gH) : Prop := ∀ (c : Nat) (i j : Int), (i < m ∨ m + 45 < i) → G1 c i j = G c i j
theorem zC_r {m : Int} {G : gH} : zC m G G := fun _ _ _ _ => rfl
theorem zC_t {m : Int} {G G1 G2 : gH} (h : zC m G G1) (h2 : zC m G1 G2) : zC m G G2 := fun c i j q => (h2 c i j q).trans (h c i j q)
theorem zC_u {m : Int} {G G1 : gH} {c : Nat} {k j v : Int} (h : zC m G G1) (hk : 0 ≤ k ∧ k ≤ 45) : zC m G (gU G1 c (m + k) j v) := fun c' i j q => (gU_ne (fun z => by have := z.2.1; omega)).trans (h c' i j q)
/-- nothing but one array of numbers -/
def zO (a : Int) (G G1 : gH) : Prop := ∀ (c : Nat) (i j : Int), (c = 1 → i ≠ a) → G1 c i j = G c i j
theorem zO_r {a : Int} {G : gH} : zO a G G := fun _ _ _ _ => rfl
theorem zO_t {a : Int} {G G1 G2 : gH} (h : zO a G G1) (h2 : zO a G1 G2) : zO a G G2 := fun c i j q => (h2 c i j q).trans (h c i j q)
theorem zO_u {a : Int} {G G1 : gH} {j v : Int} (h : zO a G G1) : zO a G (gU G1 1 a j v) := fun c' i j q => (gU_ne (fun z => q z.1 z.2.1)).trans (h c' i j q)
theorem zO_C {m k : Int} {G G1 : gH} (h : zO (m + k) G G1) (hk : 0 ≤ k ∧ k ≤ 45) : zC m G G1 := fun c i j q => h c i j (fun _ z => by omega)
theorem zO_M {m k : Int} {G G1 : gH} (h : zO (m + k) G G1) (hk : 40 ≤ k) : zM m G1 = zM m G := by
  funext k' i
  unfold zM
  by_cases h1 : k' < 40
  · simp only [h1, if_true]
    rw [h 1 _ i (fun _ z => by omega), h 2 _ i (fun z => by simp at z)]
  · simp only [h1, if_false]
    split
    · exact h _ _ _ (fun z => by omega)
    · rfl
theorem GM.inv {l : Launch} {B : gB} {M : gM} {args : List gV} {G : gH} {mc ms : Nat} {Z : Int → gH → Prop} (k : ginv B G → GM l B M args G mc ms Z) : GM l B M args G mc ms Z := by
  intro p e ha hc hk s m a below hf happ hp hq
  exact k hp.2.2.1.2.2.2.2.2.2.2.2 p e ha hc hk s m a below hf happ hp hq
theorem GM.rg {l : Launch} {B : gB} {M : gM} {args : List gV} {G : gH} {mc ms : Nat} {Z : Int → gH → Prop} (k : (∀ (c : Nat) (i j : Int), okK (gck B c) (G c i j)) → GM l B M args G mc ms Z) : GM l B M args G mc ms Z := by
  intro p e ha hc hk s m a below hf happ hp hq
  exact k hp.2.2.1.2.2.2.2.1 p e ha hc hk s m a below hf happ hp hq
theorem GM.ar {l : Launch} {B : gB} {M : gM} {args : List gV} {G : gH} {mc ms : Nat} {Z : Int → gH → Prop} (k : (∀ x ∈ args, okV x) → GM l B M args G mc ms Z) : GM l B M args G mc ms Z := by
  intro p e ha hc hk s m a below hf happ hp hq
  exact k hp.2.1 p e ha hc hk s m a below hf happ hp hq
theorem zM_u1 {m : Int} {G : gH} {j v : Int} : zM m (gU G 1 (m + 1) j v) = zU (zM m G) 1 j v := zM_i 1 (by decide)
theorem zM_u2 {m : Int} {G : gH} {j v : Int} : zM m (gU G 1 (m + 2) j v) = zU (zM m G) 2 j v := zM_i 2 (by decide)
theorem zM_u3 {m : Int} {G : gH} {j v : Int} : zM m (gU G 1 (m + 3) j v) = zU (zM m G) 3 j v := zM_i 3 (by decide)
theorem zM_u4 {m : Int} {G : gH} {j v : Int} : zM m (gU G 1 (m + 4) j v) = zU (zM m G) 4 j v := zM_i 4 (by decide)
theorem zM_u5 {m : Int} {G : gH} {j v : Int} : zM m (gU G 1 (m + 5) j v) = zU (zM m G) 5 j v := zM_i 5 (by decide)
theorem zM_u6 {m : Int} {G : gH} {j v : Int} : zM m (gU G 1 (m + 6) j v) = zU (zM m G) 6 j v := zM_i 6 (by decide)
theorem zM_u7 {m : Int} {G : gH} {j v : Int} : zM m (gU G 1 (m + 7) j v) = zU (zM m G) 7 j v := zM_i 7 (by decide)
theorem zM_u8 {m : Int} {G : gH} {j v : Int} : zM m (gU G 1 (m + 8) j v) = zU (zM m G) 8 j v := zM_i 8 (by decide)
theorem zM_u9 {m : Int} {G : gH} {j v : Int} : zM m (gU G 1 (m + 9) j v) = zU (zM m G) 9 j v := zM_i 9 (by decide)
theorem zM_u10 {m : Int} {G : gH} {j v : Int} : zM m (gU G 1 (m + 10) j v) = zU (zM m G) 10 j v := zM_i 10 (by decide)
theorem zM_u11 {m : Int} {G : gH} {j v : Int} : zM m (gU G 1 (m + 11) j v) = zU (zM m G) 11 j v := zM_i 11 (by decide)
theorem zM_u12 {m : Int} {G : gH} {j v : Int} : zM m (gU G 1 (m + 12) j v) = zU (zM m G) 12 j v := zM_i 12 (by decide)
theorem zM_u13 {m : Int} {G : gH} {j v : Int} : zM m (gU G 1 (m + 13) j v) = zU (zM m G) 13 j v := zM_i 13 (by decide)
theorem zM_u14 {m : Int} {G : gH} {j v : Int} : zM m (gU G 1 (m + 14) j v) = zU (zM m G) 14 j v := zM_i 14 (by decide)
theorem zM_u15 {m : Int} {G : gH} {j v : Int} : zM m (gU G 1 (m + 15) j v) = zU (zM m G) 15 j v := zM_i 15 (by decide)
theorem zM_u16 {m : Int} {G : gH} {j v : Int} : zM m (gU G 1 (m + 16) j v) = zU (zM m G) 16 j v := zM_i 16 (by decide)
theorem zM_u17 {m : Int} {G : gH} {j v : Int} : zM m (gU G 1 (m + 17) j v) = zU (zM m G) 17 j v := zM_i 17 (by decide)
theorem zM_u18 {m : Int} {G : gH} {j v : Int} : zM m (gU G 1 (m + 18) j v) = zU (zM m G) 18 j v := zM_i 18 (by decide)
theorem zM_u19 {m : Int} {G : gH} {j v : Int} : zM m (gU G 1 (m + 19) j v) = zU (zM m G) 19 j v := zM_i 19 (by decide)
theorem zM_u20 {m : Int} {G : gH} {j v : Int} : zM m (gU G 1 (m + 20) j v) = zU (zM m G) 20 j v := zM_i 20 (by decide)
theorem zM_u21 {m : Int} {G : gH} {j v : Int} : zM m (gU G 1 (m + 21) j v) = zU (zM m G) 21 j v := zM_i 21 (by decide)
theorem zM_u22 {m : Int} {G : gH} {j v : Int} : zM m (gU G 2 (m + 22) j v) = zU (zM m G) 22 j v := zM_l 22 (by decide)
theorem zM_u23 {m : Int} {G : gH} {j v : Int} : zM m (gU G 1 (m + 23) j v) = zU (zM m G) 23 j v := zM_i 23 (by decide)
theorem zM_u24 {m : Int} {G : gH} {j v : Int} : zM m (gU G 1 (m + 24) j v) = zU (zM m G) 24 j v := zM_i 24 (by decide)
theorem zM_u25 {m : Int} {G : gH} {j v : Int} : zM m (gU G 1 (m + 25) j v) = zU (zM m G) 25 j v := zM_i 25 (by decide)
theorem zM_u26 {m : Int} {G : gH} {j v : Int} : zM m (gU G 1 (m + 26) j v) = zU (zM m G) 26 j v := zM_i 26 (by decide)
theorem zM_u27 {m : Int} {G : gH} {j v : Int} : zM m (gU G 1 (m + 27) j v) = zU (zM m G) 27 j v := zM_i 27 (by decide)
theorem zM_u28 {m : Int} {G : gH} {j v : Int} : zM m (gU G 2 (m + 28) j v) = zU (zM m G) 28 j v := zM_l 28 (by decide)
theorem zM_u29 {m : Int} {G : gH} {j v : Int} : zM m (gU G 1 (m + 29) j v) = zU (zM m G) 29 j v := zM_i 29 (by decide)
theorem zM_u30 {m : Int} {G : gH} {j v : Int} : zM m (gU G 1 (m + 30) j v) = zU (zM m G) 30 j v := zM_i 30 (by decide)
theorem zM_u31 {m : Int} {G : gH} {j v : Int} : zM m (gU G 1 (m + 31) j v) = zU (zM m G) 31 j v := zM_i 31 (by decide)
theorem zM_u32 {m : Int} {G : gH} {j v : Int} : zM m (gU G 1 (m + 32) j v) = zU (zM m G) 32 j v := zM_i 32 (by decide)
theorem zM_u33 {m : Int} {G : gH} {j v : Int} : zM m (gU G 1 (m + 33) j v) = zU (zM m G) 33 j v := zM_i 33 (by decide)
theorem zM_u34 {m : Int} {G : gH} {j v : Int} : zM m (gU G 1 (m + 34) j v) = zU (zM m G) 34 j v := zM_i 34 (by decide)
theorem zM_u35 {m : Int} {G : gH} {j v : Int} : zM m (gU G 1 (m + 35) j v) = zU (zM m G) 35 j v := zM_i 35 (by decide)
theorem zM_u36 {m : Int} {G : gH} {j v : Int} : zM m (gU G 1 (m + 36) j v) = zU (zM m G) 36 j v := zM_i 36 (by decide)
theorem zM_u37 {m : Int} {G : gH} {j v : Int} : zM m (gU G 1 (m + 37) j v) = zU (zM m G) 37 j v := zM_i 37 (by decide)
theorem zM_u38 {m : Int} {G : gH} {j v : Int} : zM m (gU G 1 (m + 38) j v) = zU (zM m G) 38 j v := zM_i 38 (by decide)
theorem zM_u39 {m : Int} {G : gH} {j v : Int} : zM m (gU G 1 (m + 39) j v) = zU (zM m G) 39 j v := zM_i 39 (by decide)
theorem zM_u784 {m : Int} {G : gH} {v : Int} : zM m (gU G 784 (m + 0) 0 v) = zU (zM m G) 784 0 v := zM_s 784 (by decide)
theorem zM_u785 {m : Int} {G : gH} {v : Int} : zM m (gU G 785 (m + 0) 0 v) = zU (zM m G) 785 0 v := zM_s 785 (by decide)
theorem zM_u786 {m : Int} {G : gH} {v : Int} : zM m (gU G 786 (m + 0) 0 v) = zU (zM m G) 786 0 v := zM_s 786 (by decide)
theorem zM_u787 {m : Int} {G : gH} {v : Int} : zM m (gU G 787 (m + 0) 0 v) = zU (zM m G) 787 0 v := zM_s 787 (by decide)
theorem zM_u788 {m : Int} {G : gH} {v : Int} : zM m (gU G 788 (m + 0) 0 v) = zU (zM m G) 788 0 v := zM_s 788 (by decide)
theorem zM_u789 {m : Int} {G : gH} {v : Int} : zM m (gU G 789 (m + 0) 0 v) = zU (zM m G) 789 0 v := zM_s 789 (by decide)
theorem zM_u790 {m : Int} {G : gH} {v : Int} : zM m (gU G 790 (m + 0) 0 v) = zU (zM m G) 790 0 v := zM_s 790 (by decide)
theorem zM_u791 {m : Int} {G : gH} {v : Int} : zM m (gU G 791 (m + 0) 0 v) = zU (zM m G) 791 0 v := zM_s 791 (by decide)
theorem zM_u792 {m : Int} {G : gH} {v : Int} : zM m (gU G 792 (m + 0) 0 v) = zU (zM m G) 792 0 v := zM_s 792 (by decide)
theorem zM_u793 {m : Int} {G : gH} {v : Int} : zM m (gU G 793 (m + 0) 0 v) = zU (zM m G) 793 0 v := zM_s 793 (by decide)
theorem zM_u794 {m : Int} {G : gH} {v : Int} : zM m (gU G 794 (m + 0) 0 v) = zU (zM m G) 794 0 v := zM_s 794 (by decide)
theorem zM_u795 {m : Int} {G : gH} {v : Int} : zM m (gU G 795 (m + 0) 0 v) = zU (zM m G) 795 0 v := zM_s 795 (by decide)
theorem zM_u40 {m : Int} {G : gH} {j v : Int} : zM m (gU G 1 (m + 40) j v) = zM m G := zM_n (Or.inl ⟨by decide, by decide⟩)
theorem zM_u41 {m : Int} {G : gH} {j v : Int} : zM m (gU G 1 (m + 41) j v) = zM m G := zM_n (Or.inl ⟨by decide, by decide⟩)
theorem zM_u42 {m : Int} {G : gH} {j v : Int} : zM m (gU G 1 (m + 42) j v) = zM m G := zM_n (Or.inl ⟨by decide, by decide⟩)
theorem zM_u43 {m : Int} {G : gH} {j v : Int} : zM m (gU G 1 (m + 43) j v) = zM m G := zM_n (Or.inl ⟨by decide, by decide⟩)
theorem zM_u44 {m : Int} {G : gH} {j v : Int} : zM m (gU G 1 (m + 44) j v) = zM m G := zM_n (Or.inl ⟨by decide, by decide⟩)
theorem zM_u45 {m : Int} {G : gH} {j v : Int} : zM m (gU G 2 (m + 45) j v) = zM m G := zM_n (Or.inl ⟨by decide, by decide⟩)
