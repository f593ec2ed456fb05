/-! THE CONSTRUCTORS, 2: the state behind them -/
def zA0 : zA := fun k i => if k = 5 ∨ k = 17 then -1 else if k = 30 then 100 else if k = 793 ∧ i = 0 then -1 else 0
theorem zA0_0 {k : Nat} {i : Int} (h : k ≠ 5 ∧ k ≠ 17 ∧ k ≠ 30 ∧ k ≠ 793) : zA0 k i = 0 := by
  unfold zA0
  rw [if_neg (by omega), if_neg (by omega), if_neg (by omega)]
/-- beyond an array's end anything may stand -/
def zGf (b : Nat) (z : Int) : gH := fun c i j => if c = 1 ∧ (i = (b : Int) + 59 ∨ i = (b : Int) + 71) then -1 else if c = 1 ∧ i = (b : Int) + 84 then 100 else zH b z zo57 c i j
theorem zGf_c {b : Nat} {z : Int} {c : Nat} {i j : Int} (h : c ≠ 1) : zGf b z c i j = zH b z zo57 c i j := by
  unfold zGf
  rw [if_neg (fun q => h q.1), if_neg (fun q => h q.1)]
theorem zGf_1 {b : Nat} {z : Int} {p j : Int} (h : p ≠ 59 ∧ p ≠ 71 ∧ p ≠ 84) : zGf b z 1 ((b : Int) + p) j = zH b z zo57 1 ((b : Int) + p) j := by
  unfold zGf
  rw [if_neg (by omega), if_neg (by omega)]
theorem zGf_k {b : Nat} {z : Int} {c k : Nat} {i j v : Int} (hc : c ≠ 1 ∧ c ≠ 9) (h : zLk zo57 c i j = some (k, v)) : zGf b z c ((b : Int) + i) j = zVl b z k v := (zGf_c hc.1).trans (zLk_s hc.2 h)
theorem zGf_n {b : Nat} {z : Int} {c : Nat} {i j : Int} (hc : c ≠ 1 ∧ c ≠ 9 ∧ c ≠ 0) (h : zNs zo57 c i = true) : zGf b z c ((b : Int) + i) j = 0 := (zGf_c hc.1).trans (zH_0 hc.2 h j)
theorem zGf_m {b : Nat} {z : Int} {i j : Int} (hi : i ≠ 59 ∧ i ≠ 71 ∧ i ≠ 84) (h : zNs zo57 1 i = true) : zGf b z 1 ((b : Int) + i) j = 0 := (zGf_1 hi).trans (zH_0 (by decide) h j)
/-- a row of places -/
theorem zH_r {b : Nat} {z : Int} {l : List zOp} {c : Nat} {i : Int} (f : Nat → Int) (n : Nat) (hc : c ≠ 9) (h : (List.range n).all (fun j => zLk l c i (j : Int) == some (0, f j)) = true) {j : Int} (h0 : 0 ≤ j) (h1 : j < n) : zH b z l c ((b : Int) + i) j = f j.toNat := by
  have w := List.all_eq_true.mp h j.toNat (List.mem_range.mpr (by omega))
  rw [beq_iff_eq, show ((j.toNat : Nat) : Int) = j from by omega] at w
  exact zLk_s hc w
theorem zH_z {b : Nat} {z : Int} {l : List zOp} (h : l.all (fun o => !(Nat.beq o.1 0)) = true) (hz : z < (b : Int) + 1) (j : Int) : zH b z l 0 z j = zG0 b z 0 z j := by
  have nx : ∀ l : List zOp, 1 ≤ zNx l := by
    intro l
    induction l with
    | nil => exact Int.le_refl _
    | cons o l ih =>
      unfold zNx
      cases Nat.beq o.1 9 <;> dsimp only [cond] <;> omega
  induction l with
  | nil => rfl
  | cons o l ih =>
    rw [List.all_cons, Bool.and_eq_true] at h
    obtain ⟨h1, h2⟩ := h
    unfold zH
    cases h9 : Nat.beq o.1 9 with
    | true =>
      dsimp only [cond]
      unfold gN
      rw [if_neg (by decide), if_neg (by rw [zH_9]; have := nx l; omega)]
      exact ih h2
    | false =>
      dsimp only [cond]
      rw [gU_ne (fun q => by rw [← q.1] at h1; exact absurd h1 (by decide))]
      exact ih h2
theorem zo_nx : zNx zo57 = 100 := by decide +kernel
theorem zo_CT : ∀ e ∈ fxCT, zLk zo57 0 e.1 0 = some (0, e.2.1) ∧ zLk zo57 0 e.1 1 = some (0, e.2.2) := by decide +kernel
theorem zo_MT : ∀ e ∈ fxMT, zLk zo57 0 (54 + e.1) 0 = some (0, e.2.1) ∧ zLk zo57 0 (54 + e.1) 1 = some (0, e.2.2) := by decide +kernel
theorem zo_CR : ∀ e ∈ fxCR, (e.1 ≠ 1 ∧ e.1 ≠ 9) ∧ zLk zo57 e.1 e.2.1 0 = some (1, e.2.2) := by decide +kernel
theorem zo_MR : ∀ e ∈ fxMR, (e.1 ≠ 1 ∧ e.1 ≠ 9) ∧ zLk zo57 e.1 (54 + e.2.1) 0 = some (1, 54 + e.2.2) := by decide +kernel
theorem zo_Row : ∀ e ∈ fxRow, zLk zo57 3 33 e.1 = some (1, e.2) := by decide +kernel
theorem zGf_9 {b : Nat} {z : Int} : zGf b z 9 0 0 = (b : Int) + 100 := by rw [zGf_c (by decide), zH_9, zo_nx]
theorem zGf_fix {b : Nat} {z : Int} : gFix b ((b : Int) + 54) (zGf b z) := by
  refine ⟨⟨fun e he => ?_, fun e he => ?_⟩, ⟨fun e he => ?_, fun e he => ?_⟩, fun e he => ?_, by omega, by rw [zGf_9]; omega⟩
  · obtain ⟨h1, h2⟩ := zo_CT e he
    exact ⟨zGf_k (by decide) h1, zGf_k (by decide) h2⟩
  · obtain ⟨h1, h2⟩ := zo_MT e he
    rw [Int.add_assoc]
    exact ⟨zGf_k (by decide) h1, zGf_k (by decide) h2⟩
  · obtain ⟨h1, h2⟩ := zo_CR e he
    exact zGf_k h1 h2
  · obtain ⟨h1, h2⟩ := zo_MR e he
    rw [Int.add_assoc, Int.add_assoc]
    exact zGf_k h1 h2
  · exact zGf_k (by decide) (zo_Row e he)
theorem zo_n1 : ∀ k : Nat, k < 40 → k ≠ 5 → k ≠ 17 → k ≠ 30 → zNs zo57 1 (54 + (k : Int)) = true := by decide +kernel
theorem zo_n2 : zNs zo57 2 76 = true ∧ zNs zo57 2 82 = true := by decide +kernel
theorem zo_n3 : ∀ k : Nat, k < 12 → k ≠ 9 → zNs zo57 (784 + k) 54 = true := by decide +kernel
theorem zo_n4 : zLk zo57 793 54 0 = some (0, -1) := by decide +kernel
theorem zGf_M {b : Nat} {z : Int} : zM ((b : Int) + 54) (zGf b z) = zA0 := by
  funext k i
  unfold zM
  by_cases h1 : k < 40
  · rw [if_pos h1]
    by_cases h2 : k = 22 ∨ k = 28
    · rw [if_pos h2, Int.add_assoc, zA0_0 (by omega)]
      rcases h2 with h2 | h2 <;> subst h2
      · exact zGf_n (by decide) zo_n2.1
      · exact zGf_n (by decide) zo_n2.2
    · rw [if_neg h2, Int.add_assoc]
      by_cases h5 : k = 5
      · subst h5; unfold zGf zA0; rw [if_pos ⟨rfl, by omega⟩, if_pos (by omega)]
      by_cases h17 : k = 17
      · subst h17; unfold zGf zA0; rw [if_pos ⟨rfl, by omega⟩, if_pos (by omega)]
      by_cases h30 : k = 30
      · subst h30; unfold zGf zA0; rw [if_neg (by omega), if_pos ⟨rfl, by omega⟩, if_neg (by omega), if_pos rfl]
      · rw [zA0_0 (by omega)]
        exact zGf_m (by omega) (zo_n1 k h1 h5 h17 h30)
  · rw [if_neg h1]
    by_cases h2 : 784 ≤ k ∧ k < 796 ∧ i = 0
    · rw [if_pos h2, Int.add_zero]
      by_cases h3 : k = 793
      · subst h3
        rw [zGf_k (by decide) zo_n4]
        unfold zA0
        rw [if_neg (by omega), if_neg (by omega), if_pos ⟨rfl, h2.2.2⟩]
        rfl
      · rw [zA0_0 (by omega)]
        have w := zo_n3 (k - 784) (by omega) (by omega)
        rw [show 784 + (k - 784) = k from by omega] at w
        exact zGf_n (by omega) w
    · rw [if_neg h2]
      unfold zA0
      rw [if_neg (by omega), if_neg (by omega), if_neg (by omega)]
theorem zo_s0 : zo57.all (fun o => !(Nat.beq o.1 0)) = true := by decide +kernel
theorem zGf_L {e : gE} {b : Nat} (hz : gn (gX0 e b) 10 < b) (k : Int) (hk : k ∈ [(2 : Int), 11, 13, 14, 19, 24]) (tg : Int) (f : Int → Int) : zAL e b ((b : Int) + 54) (zGf b ((gn (gX0 e b) 10 : Int) + 1)) ((b : Int) + k) tg 0 f := by
  have d1 : ∀ k ∈ [(2 : Int), 11, 13, 14, 19, 24], zLk zo57 0 k 0 = some (0, 1) ∧ zNs zo57 18 k = true ∧ zLk zo57 17 k 0 = some (2, 0) := by decide +kernel
  obtain ⟨h1, h2, h3⟩ := d1 k hk
  have e3 : zGf b ((gn (gX0 e b) 10 : Int) + 1) 17 ((b : Int) + k) 0 = (gn (gX0 e b) 10 : Int) + 1 := zGf_k (by decide) h3
  refine ⟨zGf_k (by decide) h1, zGf_n (by decide) h2, fun i i1 i2 => by omega, Or.inl ⟨rfl, e3, ?_, ?_⟩⟩
  · rw [e3, zGf_c (by decide), zH_z zo_s0 (by omega)]
    unfold zG0
    rw [if_neg (by decide), if_pos ⟨rfl, rfl, rfl⟩]
  · rw [e3, zGf_c (by decide), zH_z zo_s0 (by omega)]
    unfold zG0
    rw [if_neg (by decide), if_neg (by omega)]
theorem zGf_rel {e : gE} {b : Nat} (hz : gn (gX0 e b) 10 < b) : zRel e b ((b : Int) + 54) (zGf b ((gn (gX0 e b) 10 : Int) + 1)) zA0 := by
  have t0 : zA0 785 0 = 0 := zA0_0 (by decide)
  have t1 : zA0 786 0 = 0 := zA0_0 (by decide)
  have t2 : zA0 787 0 = 0 := zA0_0 (by decide)
  have L := zGf_L hz
  refine ⟨fun _ => 0, fun _ => 0, fun _ => 0, ⟨⟨fun i i1 i2 => ⟨?_, ?_, ?_, ?_⟩, fun r r1 r2 => ⟨?_, ?_⟩, ?_⟩, ⟨?_, ?_, ?_, ?_, ?_⟩, ⟨fun s hs => ⟨?_, ?_, ?_, fun i i1 i2 => ?_⟩, fun i i1 i2 => ?_⟩, ⟨fun k k1 k2 => ⟨?_, ?_, ?_⟩, ?_, ?_⟩⟩, ⟨by rw [t0]; exact L 2 (by decide) _ _, fun t t1 t2 => by omega, fun s t s1 s2 => by omega⟩, ⟨by rw [t1]; exact L 11 (by decide) _ _, fun k k1 k2 => by omega, fun j k j1 j2 => by omega⟩, ⟨by rw [t2]; exact L 19 (by decide) _ _, fun p p1 p2 => by omega, fun j k j1 j2 => by omega⟩, ⟨⟨0, fun _ => 0, L 13 (by decide) _ _, fun q => ?_⟩, ⟨0, fun _ => 0, L 14 (by decide) _ _⟩, ⟨0, fun _ => 0, L 24 (by decide) _ _⟩⟩, fun j k hj hk n w => ?_⟩
  · rw [zA0_0 (by decide)]; exact zGf_m (by decide) (by decide +kernel)
  · rw [zA0_0 (by decide)]; exact zGf_m (by decide) (by decide +kernel)
  · rw [zA0_0 (by decide)]; exact zGf_m (by decide) (by decide +kernel)
  · rw [zA0_0 (by decide)]; exact zGf_m (by decide) (by decide +kernel)
  · rw [zWay_0 (zA0_0 (by decide)) ⟨r1, r2⟩, zGf_1 (by decide), zH_r (fun j => if j = 0 then 0 else -1) 12 (by decide) (by decide +kernel) r1 (by omega)]
    by_cases q : r = 0
    · rw [if_pos q, if_pos (by omega)]
    · rw [if_neg q, if_neg (by omega)]
  · rw [zGf_1 (by decide), zH_r (fun _ => -1) 12 (by decide) (by decide +kernel) r1 (by omega)]
    rfl
  · rw [zA0_0 (by decide)]; exact zGf_n (by decide) (by decide +kernel)
  · rw [zA0_0 (by decide)]; exact zGf_n (by decide) (by decide +kernel)
  · rw [zA0_0 (by decide)]; exact zGf_n (by decide) (by decide +kernel)
  · rw [zA0_0 (by decide)]; exact zGf_n (by decide) (by decide +kernel)
  · rw [zA0_0 (by decide)]; exact zGf_k (k := 0) (v := 0) (by decide) (by decide +kernel)
  · exact zGf_k (k := 0) (v := -1) (by decide) (by decide +kernel)
  · unfold zSh at hs
    have d : ∀ n : Nat, n < 8 → zNs zo57 401 (34 + 2 * (n : Int)) = true := by decide +kernel
    have w := d s.toNat (by omega)
    rw [show ((s.toNat : Nat) : Int) = s from by omega] at w
    rw [zA0_0 (by decide)]
    exact zGf_n (by decide) w
  · unfold zSh at hs
    have d : ∀ n : Nat, n < 8 → zNs zo57 402 (34 + 2 * (n : Int)) = true := by decide +kernel
    have w := d s.toNat (by omega)
    rw [show ((s.toNat : Nat) : Int) = s from by omega] at w
    rw [zA0_0 (by decide)]
    exact zGf_n (by decide) w
  · have h8 := hs
    unfold zSh at h8
    unfold zfHolds
    rw [if_pos hs, if_pos (zA0_0 (by decide)), zGf_1 (by decide), zH_r (fun _ => -1) 8 (by decide) (by decide +kernel) h8.1 (by omega)]
  · unfold zSh at hs
    have d : ∀ n : Nat, n < 8 → zNs zo57 2 (35 + 2 * (n : Int)) = true := by decide +kernel
    have w := d s.toNat (by omega)
    rw [show ((s.toNat : Nat) : Int) = s from by omega] at w
    rw [zA0_0 (by decide)]
    exact zGf_n (by decide) w
  · rw [zA0_0 (by decide)]; exact zGf_m (by decide) (by decide +kernel)
  · rw [zA0_0 (by decide)]; exact zGf_m (by decide) (by decide +kernel)
  · rw [zGf_1 (by decide), zH_r (fun _ => 100) 4 (by decide) (by decide +kernel) k1 (by omega)]
    rfl
  · rw [zA0_0 (by decide)]; exact zGf_m (by decide) (by decide +kernel)
  · rw [zA0_0 (by decide)]; exact zGf_n (by decide) (by decide +kernel)
  · rw [zA0_0 (by decide)]; exact zGf_n (by decide) (by decide +kernel)
  · rw [zA0_0 (by decide)] at q; omega
  · have w2 : ∀ k, zLs k → zGf b ((gn (gX0 e b) 10 : Int) + 1) 0 (zGf b ((gn (gX0 e b) 10 : Int) + 1) 17 ((b : Int) + k) 0) 0 = 105 := fun k hk => by
      have h := L k (by simp only [List.mem_cons, List.mem_nil_iff]; unfold zLs at hk; omega) 1 (fun _ => 0)
      rcases h.2.2.2 with h | h
      · exact h.2.2.1
      · exact absurd h.2.1 (by
          have h2 := L k (by simp only [List.mem_cons, List.mem_nil_iff]; unfold zLs at hk; omega) 1 (fun _ => 0)
          have d1 : ∀ k ∈ [(2 : Int), 11, 13, 14, 19, 24], zLk zo57 17 k 0 = some (2, 0) := by decide +kernel
          have e3 : zGf b ((gn (gX0 e b) 10 : Int) + 1) 17 ((b : Int) + k) 0 = (gn (gX0 e b) 10 : Int) + 1 := zGf_k (by decide) (d1 k (by simp only [List.mem_cons, List.mem_nil_iff]; unfold zLs at hk; omega))
          rw [e3, zGf_c (by decide), zH_z zo_s0 (by omega)]
          unfold zG0
          rw [if_neg (by decide), if_pos ⟨rfl, rfl, rfl⟩]
          decide)
    rw [w2 j hj] at w
    omega
theorem zA0_inv : zInv 0 zA0 := by
  have z : ∀ {k : Nat} {i : Int}, (k ≠ 5 ∧ k ≠ 17 ∧ k ≠ 30 ∧ k ≠ 793) → zA0 k i = 0 := fun h => zA0_0 h
  have t0 : zA0 785 0 = 0 := z (by decide)
  have s0 : zA0 794 0 = 0 := z (by decide)
  have p0 : zA0 788 0 = 0 := z (by decide)
  have hb : zB 0 zA0 := by
    intro k i
    have h0 : zlo k ≤ 0 ∧ 0 ≤ zhi 0 k := by
      unfold zlo zhi
      constructor <;> ((repeat' split) <;> omega)
    unfold zA0
    split
    · rename_i q
      unfold zlo zhi
      rcases q with q | q <;> subst q <;> decide
    split
    · rename_i q
      subst q
      unfold zlo zhi
      decide
    split
    · rename_i q
      obtain ⟨q, -⟩ := q
      subst q
      unfold zlo zhi
      decide
    · exact h0
  refine ⟨⟨hb, fun t _ _ h => ?_, fun k _ _ h => absurd rfl h, fun t h => ?_, fun t h => ?_, fun k _ _ => ?_, fun s _ h => ?_, fun s h => ?_, fun k k1 k2 => by omega, fun k => ?_, fun t _ => ⟨z (by decide), z (by decide)⟩, fun p _ => ⟨z (by decide), z (by decide)⟩, fun k _ => ⟨z (by decide), rfl⟩, fun d d1 d2 => ?_, ⟨?_, fun h => ?_⟩, fun t h => ?_, fun _ t h => ?_, fun h => by omega, fun _ => ⟨z (by decide), fun _ => rfl⟩⟩, ?_, fun t h => ?_⟩
  · unfold zIn at h; rw [z (by decide)] at h; omega
  · unfold zAt at h; rw [z (by decide)] at h; omega
  · unfold zTh at h; omega
  · show zA0 29 k ≤ zA0 30 k
    rw [z (k := 29) (by decide)]
    show (0 : Int) ≤ 100
    decide
  · rw [z (by decide)] at h; omega
  · rw [z (by decide)] at h; omega
  · rw [t0]
    show (-1 : Int) < 0
    decide
  · rw [z (k := 784) (by decide)] at d2; omega
  · rw [zWay_0 (z (by decide)) (by decide)]; rfl
  · rw [z (k := 784) (by decide), p0] at h; omega
  · unfold zTh at h; omega
  · unfold zTh at h; omega
  · unfold zPt
    rw [s0, t0]
    show (0 : Int) + 0 ≤ _
    decide
  · unfold zTh at h; omega
theorem zA0_psi : zPsi zA0 = 0 := by
  unfold zPsi
  rw [zA0_0 (k := 785) (by decide)]
  rfl
/-- a cell's numbers, but beyond its end -/
theorem gCell_adj {B : gB} {G G' : gH} {H : Heap} {q : Nat} {x : Int} (h : gCell B G H q x) (e0 : ∀ (c : Nat) (j : Int), c ≠ 1 → G' c x j = G c x j) (e1 : ∀ i : Int, 0 ≤ i → i < G 0 x 1 → G' 1 x i = G 1 x i) : gCell B G' H q x := by
  obtain ⟨h1, h2, h3, h4, h5, h6, h7⟩ := h
  have k0 := fun j => e0 0 j (by decide)
  have k2 := fun j => e0 2 j (by decide)
  have k3 := fun j => e0 3 j (by decide)
  have key : ∀ cA : ClassId, vp_cell cA ((G 0 x 1).toNat, .inl fun i : Nat => Int32.ofInt (G' 1 x i)) = vp_cell cA ((G 0 x 1).toNat, .inl fun i : Nat => Int32.ofInt (G 1 x i)) := by
    intro cA
    rw [vp_cell_i, vp_cell_i]
    unfold arrV
    congr 2
    funext j
    have := j.isLt
    dsimp only
    rw [e1 ((j : Nat) : Int) (by omega) (by omega)]
  refine ⟨fun ci r h64 hr ht => ?_, fun ht => ?_, fun ht => ?_, fun ht => ?_, fun ht => ?_, fun ht => ?_, fun ht => ?_⟩
  · rw [k0] at ht
    have hf : gF B ci r.2.2 G' x = gF B ci r.2.2 G x := by
      unfold gF
      apply List.map_congr_left
      intro j _
      rw [e0 (gfid ci j) 0 (by unfold gfid; omega)]
    rw [hf]
    exact h1 ci r h64 hr ht
  all_goals rw [k0] at ht
  · have w := h2 ht
    unfold va_at at w ⊢
    dsimp only at w ⊢
    rw [k0, key]
    exact w
  · simp only [k0, k2]; exact h3 ht
  · have w := h4 ht
    unfold va_at at w ⊢
    dsimp only at w ⊢
    rw [k0, key]
    exact w
  · simp only [k0, k3]; exact h5 ht
  · simp only [k0, k3]; exact h6 ht
  · rw [k0]; exact h7 ht
theorem zGf_gC {e : gE} {b : Nat} {z : Int} {H : Heap} (h : gC (gX0 e b) (zH b z zo57) H) : gC (gX e b ((b : Int) + 54)) (zGf b z) H := by
  obtain ⟨c1, c2, c3, c4, c5, c6, c7, c8, -⟩ := h
  refine ⟨by rw [zGf_c (by decide)]; exact c1, c2, c3, c4, fun c i j => ?_, fun a => ?_, fun a ha => ?_, fun a => ?_, zGf_fix⟩
  · have w := c5 c i j
    unfold zGf
    split
    · rename_i q
      rw [q.1]
      exact ⟨fun _ => by decide, fun q => absurd q (by show ¬ (0 = 1); decide), fun q => absurd q (by show ¬ (0 = 2); decide), fun q => absurd q (by show ¬ (0 = 3); decide)⟩
    split
    · rename_i q
      rw [q.1]
      exact ⟨fun _ => by decide, fun q => absurd q (by show ¬ (0 = 1); decide), fun q => absurd q (by show ¬ (0 = 2); decide), fun q => absurd q (by show ¬ (0 = 3); decide)⟩
    · exact w
  · have w : gCell (gX e b ((b : Int) + 54)) (zH b z zo57) H a (a + 1) := c6 a
    refine gCell_adj w (fun c j hc => zGf_c hc) (fun i i0 i1 => ?_)
    unfold zGf
    by_cases q1 : ((a : Int) + 1 = (b : Int) + 59 ∨ (a : Int) + 1 = (b : Int) + 71)
    · rw [if_pos ⟨rfl, q1⟩]
      rcases q1 with q1 | q1
      · rw [q1] at i1 ⊢
        rw [zTg (v := 12) (by decide +kernel)] at i1
        exact (zH_r (fun _ => -1) 12 (by decide) (by decide +kernel) i0 i1).symm
      · rw [q1] at i1 ⊢
        rw [zTg (v := 3) (by decide +kernel)] at i1
        exact (zH_r (fun _ => -1) 3 (by decide) (by decide +kernel) i0 i1).symm
    · rw [if_neg (fun y => q1 y.2)]
      by_cases q2 : (a : Int) + 1 = (b : Int) + 84
      · rw [if_pos ⟨rfl, q2⟩]
        rw [q2] at i1 ⊢
        rw [zTg (v := 4) (by decide +kernel)] at i1
        exact (zH_r (fun _ => 100) 4 (by decide) (by decide +kernel) i0 i1).symm
      · rw [if_neg (fun y => q2 y.2)]
  · rw [zGf_c (by decide)] at ha ⊢
    exact c7 a ha
  · rw [zGf_c (by decide)]
    exact c8 a
theorem gC_drop {e : gE} {b : Nat} {m : Int} {G : gH} {H : Heap} (h : gC (gX e b m) G H) : gC (gX0 e b) G H := ⟨h.1, h.2.1, h.2.2.1, h.2.2.2.1, h.2.2.2.2.1, h.2.2.2.2.2.1, h.2.2.2.2.2.2.1, h.2.2.2.2.2.2.2.1, trivial⟩
/-- from here on the fixed cells stand -/
theorem EV.sw {e : gE} {b : Nat} {z : Int} {M : gM} {Z : Int → gH → Prop} {kc ks pc : Nat} {ls st : List gV} (h : EX e b ((b : Int) + 54) M Z kc ks pc ls st (zGf b z)) : EV e.1 (gX0 e b) M Z kc ks pc ls st (zH b z zo57) := by
  intro p e' R s m args below meth c H locs cells slots lsr hX h1 h2 hC hL hS hO T hT X
  obtain ⟨t, a, o, b1, b2, ⟨v, G', b3, b4, b7, b5⟩, b6⟩ := h p e' R s m args below meth c H locs cells slots lsr hX h1 h2 (zGf_gC hC) hL hS hO T hT X
  exact ⟨t, a, o, b1, b2, ⟨v, G', b3, gC_drop b4, b7, b5⟩, b6⟩
/-- THE LAW from its entry, on the ghost -/
theorem z_law {e : gE} {b : Nat} (hz : gn (gX0 e b) 10 < b) (hL : (gn (gX0 e b) 19 : Int) ≤ 3072) : EV e.1 (gX0 e b) m_L_law (fun v _ => v = 1) 600000 7302250 0 [(2, ((gn (gX0 e b) 18 : Int) + 1)), (9, 0), (9, 0), (9, 0)] [] (zH b ((gn (gX0 e b) 10 : Int) + 1) []) := by
  refine k0_law (EV.sw ?_)
  have k := z_loop (e := e) (b := b) (m := (b : Int) + 54) hL 512 0 0 599901 7250127 (zGf b ((gn (gX0 e b) 10 : Int) + 1)) zA0 (by decide) (by decide) (by decide) zGf_M (zGf_rel hz) zA0_inv (by decide) (by rw [zA0_psi]; decide)
  rw [Int.add_zero] at k
  exact k
