/-! THE REFERENCE, 1: small reads -/
/-- minutes from the gate; the length of a job; the latest minute of its begin -/
def zFar (A : zA) (t : Int) : Int := A 6 (A 11 t - 100)
def zLen (A : zA) (t : Int) : Int := if 2 * zFar A t + A 10 t < 1 then 1 else 2 * zFar A t + A 10 t
def zDng (A : zA) (t : Int) : Int := A 5 (A 11 t - 100)
def zLat (A : zA) (t : Int) : Int := if zDng A t ≠ -1 ∧ zDng A t - zFar A t - 1 < A 790 0 - zLen A t then zDng A t - zFar A t - 1 else A 790 0 - zLen A t
def zDue (A : zA) (t : Int) : Int := zLat A t + zLen A t
abbrev zIn (A : zA) (t : Int) : Prop := 100 ≤ A 11 t ∧ A 11 t < 200
def zFree (A : zA) (k : Int) : Int := if A 789 0 < A 16 k then A 16 k else A 789 0
/-- a thing in a room, with all numbers in their bounds -/
def zR (A : zA) (t : Int) : Prop := (0 ≤ t ∧ t < 16) ∧ (100 ≤ A 11 t ∧ A 11 t < 112) ∧ (-1 ≤ zFar A t ∧ zFar A t ≤ 99) ∧ (0 ≤ A 10 t ∧ A 10 t ≤ 20) ∧ (-1 ≤ zDng A t ∧ zDng A t ≤ 240) ∧ 0 ≤ A 790 0 ∧ A 790 0 ≤ 240
theorem zLen_b {A : zA} {t : Int} (h : zR A t) : 1 ≤ zLen A t ∧ zLen A t ≤ 218 := by
  obtain ⟨-, -, h1, h2, -⟩ := h
  unfold zLen
  split <;> omega
theorem zLat_b {A : zA} {t : Int} (h : zR A t) : -218 ≤ zLat A t ∧ zLat A t ≤ 240 := by
  have := zLen_b h
  obtain ⟨-, -, h1, h2, h3, h4⟩ := h
  unfold zLat
  split <;> omega
set_option maxRecDepth 20000 in
set_option maxHeartbeats 4000000 in
theorem sg_M_isThing_0 {e : gE} {b : Nat} {m : Int} {Z : Int → gH → Prop} {kc ks : Nat} {G : gH} {p1 : Int} (h : (0 ≤ p1 → (p1 < (zM m G 785 0) → Z 1 G)) ∧ ((p1 < 0 ∨ (0 ≤ p1 ∧ (zM m G 785 0) ≤ p1)) → Z 0 G)) : EX e b m m_M_isThing Z kc ks 0 [(2, (m + 0)), (0, p1)] [] G := by
  obtain ⟨h, hJ5⟩ := h
  have kJ5 : (p1 < 0 ∨ (0 ≤ p1 ∧ (zM m G 785 0) ≤ p1)) → EX e b m m_M_isThing Z kc ks 16 [(2, (m + 0)), (0, p1)] [] G := by
    intro rJ5
    have h := hJ5 rJ5
    refine e_iconst d_M_isThing_16 (by decide) ?_
    exact e_zret .boolean d_M_isThing_17 rfl (by decide) h
  refine e_iload_n d_M_isThing_0 rfl ?_
  refine e_if_lt (tgt := 16) d_M_isThing_1 (by decide) (fun q1 => ?_) (fun q2 => ?_)
  · exact kJ5 (Or.inl q1)
  · have h := h q2
    refine e_iload_n d_M_isThing_4 rfl ?_
    refine e_aload_n d_M_isThing_5 rfl ?_
    refine gx_M_151 d_M_isThing_6 rfl ?_
    refine e_icmp_ge (tgt := 16) d_M_isThing_9 (by decide) (fun q3 => ?_) (fun q4 => ?_)
    · exact kJ5 (Or.inr ⟨q2, q3⟩)
    · have h := h q4
      refine e_iconst d_M_isThing_12 (by decide) ?_
      refine e_goto (tgt := 17) d_M_isThing_13 (by decide) ?_
      exact e_zret .boolean d_M_isThing_17 rfl (by decide) h
set_option maxRecDepth 20000 in
set_option maxHeartbeats 4000000 in
theorem sg_M_isShelf_0 {e : gE} {b : Nat} {m : Int} {Z : Int → gH → Prop} {kc ks : Nat} {G : gH} {p0 : Int} (h : (0 ≤ p0 → (p0 < 8 → Z 1 G)) ∧ ((p0 < 0 ∨ (0 ≤ p0 ∧ 8 ≤ p0)) → Z 0 G)) : EX e b m m_M_isShelf Z kc ks 0 [(0, p0)] [] G := by
  obtain ⟨h, hJ5⟩ := h
  have kJ5 : (p0 < 0 ∨ (0 ≤ p0 ∧ 8 ≤ p0)) → EX e b m m_M_isShelf Z kc ks 14 [(0, p0)] [] G := by
    intro rJ5
    have h := hJ5 rJ5
    refine e_iconst d_M_isShelf_14 (by decide) ?_
    exact e_zret .boolean d_M_isShelf_15 rfl (by decide) h
  refine e_iload_n d_M_isShelf_0 rfl ?_
  refine e_if_lt (tgt := 14) d_M_isShelf_1 (by decide) (fun q1 => ?_) (fun q2 => ?_)
  · exact kJ5 (Or.inl q1)
  · have h := h q2
    refine e_iload_n d_M_isShelf_4 rfl ?_
    refine e_bipush d_M_isShelf_5 (by decide) (by decide) ?_
    refine e_icmp_ge (tgt := 14) d_M_isShelf_7 (by decide) (fun q3 => ?_) (fun q4 => ?_)
    · exact kJ5 (Or.inr ⟨q2, q3⟩)
    · have h := h q4
      refine e_iconst d_M_isShelf_10 (by decide) ?_
      refine e_goto (tgt := 15) d_M_isShelf_11 (by decide) ?_
      exact e_zret .boolean d_M_isShelf_15 rfl (by decide) h
set_option maxRecDepth 20000 in
set_option maxHeartbeats 4000000 in
theorem sg_M_isRoom_0 {e : gE} {b : Nat} {m : Int} {Z : Int → gH → Prop} {kc ks : Nat} {G : gH} {p0 : Int} (h : (0 ≤ p0 → (p0 < 12 → Z 1 G)) ∧ ((p0 < 0 ∨ (0 ≤ p0 ∧ 12 ≤ p0)) → Z 0 G)) : EX e b m m_M_isRoom Z kc ks 0 [(0, p0)] [] G := by
  obtain ⟨h, hJ5⟩ := h
  have kJ5 : (p0 < 0 ∨ (0 ≤ p0 ∧ 12 ≤ p0)) → EX e b m m_M_isRoom Z kc ks 14 [(0, p0)] [] G := by
    intro rJ5
    have h := hJ5 rJ5
    refine e_iconst d_M_isRoom_14 (by decide) ?_
    exact e_zret .boolean d_M_isRoom_15 rfl (by decide) h
  refine e_iload_n d_M_isRoom_0 rfl ?_
  refine e_if_lt (tgt := 14) d_M_isRoom_1 (by decide) (fun q1 => ?_) (fun q2 => ?_)
  · exact kJ5 (Or.inl q1)
  · have h := h q2
    refine e_iload_n d_M_isRoom_4 rfl ?_
    refine e_bipush d_M_isRoom_5 (by decide) (by decide) ?_
    refine e_icmp_ge (tgt := 14) d_M_isRoom_7 (by decide) (fun q3 => ?_) (fun q4 => ?_)
    · exact kJ5 (Or.inr ⟨q2, q3⟩)
    · have h := h q4
      refine e_iconst d_M_isRoom_10 (by decide) ?_
      refine e_goto (tgt := 15) d_M_isRoom_11 (by decide) ?_
      exact e_zret .boolean d_M_isRoom_15 rfl (by decide) h
set_option maxRecDepth 20000 in
set_option maxHeartbeats 4000000 in
theorem sg_M_isPlace_0 {e : gE} {b : Nat} {m : Int} {Z : Int → gH → Prop} {kc ks : Nat} {G : gH} {p1 : Int} (h : (0 ≤ p1 → (p1 < (zM m G 787 0) → Z 1 G)) ∧ ((p1 < 0 ∨ (0 ≤ p1 ∧ (zM m G 787 0) ≤ p1)) → Z 0 G)) : EX e b m m_M_isPlace Z kc ks 0 [(2, (m + 0)), (0, p1)] [] G := by
  obtain ⟨h, hJ5⟩ := h
  have kJ5 : (p1 < 0 ∨ (0 ≤ p1 ∧ (zM m G 787 0) ≤ p1)) → EX e b m m_M_isPlace Z kc ks 16 [(2, (m + 0)), (0, p1)] [] G := by
    intro rJ5
    have h := hJ5 rJ5
    refine e_iconst d_M_isPlace_16 (by decide) ?_
    exact e_zret .boolean d_M_isPlace_17 rfl (by decide) h
  refine e_iload_n d_M_isPlace_0 rfl ?_
  refine e_if_lt (tgt := 16) d_M_isPlace_1 (by decide) (fun q1 => ?_) (fun q2 => ?_)
  · exact kJ5 (Or.inl q1)
  · have h := h q2
    refine e_iload_n d_M_isPlace_4 rfl ?_
    refine e_aload_n d_M_isPlace_5 rfl ?_
    refine gx_M_154 d_M_isPlace_6 rfl ?_
    refine e_icmp_ge (tgt := 16) d_M_isPlace_9 (by decide) (fun q3 => ?_) (fun q4 => ?_)
    · exact kJ5 (Or.inr ⟨q2, q3⟩)
    · have h := h q4
      refine e_iconst d_M_isPlace_12 (by decide) ?_
      refine e_goto (tgt := 17) d_M_isPlace_13 (by decide) ?_
      exact e_zret .boolean d_M_isPlace_17 rfl (by decide) h
set_option maxRecDepth 20000 in
set_option maxHeartbeats 4000000 in
theorem sg_M_isInRoom_0 {e : gE} {b : Nat} {m : Int} {Z : Int → gH → Prop} {kc ks : Nat} {G : gH} {p1 : Int} (h : ((0 ≤ p1 ∧ p1 < 16) ∧ (100 ≤ (zM m G 11 p1) → ((zM m G 11 p1) < 200 → Z 1 G))) ∧ (((zM m G 11 p1) < 100 ∨ (100 ≤ (zM m G 11 p1) ∧ 200 ≤ (zM m G 11 p1))) → Z 0 G)) : EX e b m m_M_isInRoom Z kc ks 0 [(2, (m + 0)), (0, p1)] [] G := by
  obtain ⟨h, hJ6⟩ := h
  have kJ6 : ((zM m G 11 p1) < 100 ∨ (100 ≤ (zM m G 11 p1) ∧ 200 ≤ (zM m G 11 p1))) → EX e b m m_M_isInRoom Z kc ks 27 [(2, (m + 0)), (0, p1)] [] G := by
    intro rJ6
    have h := hJ6 rJ6
    refine e_iconst d_M_isInRoom_27 (by decide) ?_
    exact e_zret .boolean d_M_isInRoom_28 rfl (by decide) h
  refine e_aload_n d_M_isInRoom_0 rfl ?_
  refine gx_M_45 d_M_isInRoom_1 rfl ?_
  refine e_iload_n d_M_isInRoom_4 rfl ?_
  obtain ⟨o1, h⟩ := h
  refine xM_iald 11 rfl d_M_isInRoom_5 o1 ?_
  refine e_bipush d_M_isInRoom_6 (by decide) (by decide) ?_
  refine e_icmp_lt (tgt := 27) d_M_isInRoom_8 (by decide) (fun q2 => ?_) (fun q3 => ?_)
  · exact kJ6 (Or.inl q2)
  · have h := h q3
    refine e_aload_n d_M_isInRoom_11 rfl ?_
    refine gx_M_45 d_M_isInRoom_12 rfl ?_
    refine e_iload_n d_M_isInRoom_15 rfl ?_
    refine xM_iald 11 rfl d_M_isInRoom_16 o1 ?_
    refine e_sipush d_M_isInRoom_17 (by decide) (by decide) ?_
    refine e_icmp_ge (tgt := 27) d_M_isInRoom_20 (by decide) (fun q4 => ?_) (fun q5 => ?_)
    · exact kJ6 (Or.inr ⟨q3, q4⟩)
    · have h := h q5
      refine e_iconst d_M_isInRoom_23 (by decide) ?_
      refine e_goto (tgt := 28) d_M_isInRoom_24 (by decide) ?_
      exact e_zret .boolean d_M_isInRoom_28 rfl (by decide) h
set_option maxRecDepth 20000 in
set_option maxHeartbeats 4000000 in
theorem sg_M_farOf_0 {e : gE} {b : Nat} {m : Int} {Z : Int → gH → Prop} {kc ks : Nat} {G : gH} {p1 : Int} (h : (0 ≤ p1 ∧ p1 < 16) ∧ (inI ((zM m G 11 p1) - 100)) ∧ (0 ≤ ((zM m G 11 p1) - 100) ∧ ((zM m G 11 p1) - 100) < 12) ∧ Z (zM m G 6 ((zM m G 11 p1) - 100)) G) : EX e b m m_M_farOf Z kc ks 0 [(2, (m + 0)), (0, p1)] [] G := by
  refine e_aload_n d_M_farOf_0 rfl ?_
  refine gx_M_30 d_M_farOf_1 rfl ?_
  refine e_aload_n d_M_farOf_4 rfl ?_
  refine gx_M_45 d_M_farOf_5 rfl ?_
  refine e_iload_n d_M_farOf_8 rfl ?_
  obtain ⟨o1, h⟩ := h
  refine xM_iald 11 rfl d_M_farOf_9 o1 ?_
  refine e_bipush d_M_farOf_10 (by decide) (by decide) ?_
  obtain ⟨o2, h⟩ := h
  refine e_isub d_M_farOf_12 o2 ?_
  obtain ⟨o3, h⟩ := h
  refine xM_iald 6 rfl d_M_farOf_13 o3 ?_
  exact e_iret d_M_farOf_14 rfl h
theorem c_M_isThing {e : gE} {b : Nat} {m : Int} {G : gH} {p1 : Int} : GX e b m m_M_isThing [(2, (m + 0)), (0, p1)] G 0 0 (fun v9 G9 => v9 = ((if 0 ≤ p1 ∧ p1 < zM m G 785 0 then 1 else 0) : Int) ∧ G9 = G) := by
  refine GM.ofEV (by decide) (Nat.le_of_ble_eq_true rfl) (sg_M_isThing_0 ?_)
  repeat' (first | apply And.intro | intro _)
  all_goals first | assumption | rfl | omega | (rw [if_pos (by omega)]) | (rw [if_neg (by omega)])
theorem c_M_isShelf {e : gE} {b : Nat} {m : Int} {G : gH} {p0 : Int} : GX e b m m_M_isShelf [(0, p0)] G 0 0 (fun v9 G9 => v9 = ((if 0 ≤ p0 ∧ p0 < 8 then 1 else 0) : Int) ∧ G9 = G) := by
  refine GM.ofEV (by decide) (Nat.le_of_ble_eq_true rfl) (sg_M_isShelf_0 ?_)
  repeat' (first | apply And.intro | intro _)
  all_goals first | assumption | rfl | omega | (rw [if_pos (by omega)]) | (rw [if_neg (by omega)])
theorem c_M_isRoom {e : gE} {b : Nat} {m : Int} {G : gH} {p0 : Int} : GX e b m m_M_isRoom [(0, p0)] G 0 0 (fun v9 G9 => v9 = ((if 0 ≤ p0 ∧ p0 < 12 then 1 else 0) : Int) ∧ G9 = G) := by
  refine GM.ofEV (by decide) (Nat.le_of_ble_eq_true rfl) (sg_M_isRoom_0 ?_)
  repeat' (first | apply And.intro | intro _)
  all_goals first | assumption | rfl | omega | (rw [if_pos (by omega)]) | (rw [if_neg (by omega)])
theorem c_M_isPlace {e : gE} {b : Nat} {m : Int} {G : gH} {p1 : Int} : GX e b m m_M_isPlace [(2, (m + 0)), (0, p1)] G 0 0 (fun v9 G9 => v9 = ((if 0 ≤ p1 ∧ p1 < zM m G 787 0 then 1 else 0) : Int) ∧ G9 = G) := by
  refine GM.ofEV (by decide) (Nat.le_of_ble_eq_true rfl) (sg_M_isPlace_0 ?_)
  repeat' (first | apply And.intro | intro _)
  all_goals first | assumption | rfl | omega | (rw [if_pos (by omega)]) | (rw [if_neg (by omega)])
theorem c_M_isInRoom {e : gE} {b : Nat} {m : Int} {G : gH} {p1 : Int} (h1 : 0 ≤ p1 ∧ p1 < 16) : GX e b m m_M_isInRoom [(2, (m + 0)), (0, p1)] G 0 0 (fun v9 G9 => v9 = ((if zIn (zM m G) p1 then 1 else 0) : Int) ∧ G9 = G) := by
  refine GM.ofEV (by decide) (Nat.le_of_ble_eq_true rfl) (sg_M_isInRoom_0 ?_)
  repeat' (first | apply And.intro | intro _)
  all_goals first | assumption | rfl | omega | (rw [if_pos (by omega)]) | (rw [if_neg (by omega)])
theorem c_M_farOf {e : gE} {b : Nat} {m : Int} {G : gH} {p1 : Int} (h1 : zR (zM m G) p1) : GX e b m m_M_farOf [(2, (m + 0)), (0, p1)] G 0 0 (fun v9 G9 => v9 = (zFar (zM m G) p1 : Int) ∧ G9 = G) := by
  refine GM.ofEV (by decide) (Nat.le_of_ble_eq_true rfl) (sg_M_farOf_0 ?_)
  obtain ⟨a1, a2, a3⟩ := h1
  exact ⟨a1, by omega, by omega, rfl, rfl⟩
set_option maxRecDepth 20000 in
set_option maxHeartbeats 4000000 in
theorem sg_M_length_0 {e : gE} {b : Nat} {m : Int} {Z : Int → gH → Prop} {kc ks : Nat} {G : gH} {p1 : Int} (h : (zR (zM m G) p1) ∧ ((inI (2 * (zFar (zM m G) p1))) ∧ ((0 ≤ p1 ∧ p1 < 16) ∧ ((inI ((2 * (zFar (zM m G) p1)) + (zM m G 10 p1))) ∧ ((1 ≤ ((2 * (zFar (zM m G) p1)) + (zM m G 10 p1)) → Z ((2 * (zFar (zM m G) p1)) + (zM m G 10 p1)) G) ∧ (((2 * (zFar (zM m G) p1)) + (zM m G 10 p1)) < 1 → Z 1 G)))))) : EX e b m m_M_length Z kc ks 0 [(2, (m + 0)), (0, p1), (9, 0)] [] G := by
  refine e_iconst d_M_length_0 (by decide) ?_
  refine e_aload_n d_M_length_1 rfl ?_
  refine e_iload_n d_M_length_2 rfl ?_
  refine EV.inv fun hFf1 => ?_
  have f1 := (fx_mt 0 rfl hFf1).1
  obtain ⟨o2, h⟩ := h
  refine e_callV m_M_farOf 12 lw_good d_M_length_3 (k_M_farOf _) ⟨Nat.le_of_ble_eq_true rfl, Nat.le_of_ble_eq_true rfl⟩ w_1640 w_1642 w_s54 (q_M _) rfl f1 (args := [(0, p1)]) rfl rfl (Nat.le_of_ble_eq_true rfl) (kc' := kc) (ks' := ks) (mc := 0) (ms := 0) rfl rfl (c_M_farOf o2) (pureK ?_)
  obtain ⟨o3, h⟩ := h
  refine e_imul d_M_length_6 o3 ?_
  refine e_aload_n d_M_length_7 rfl ?_
  refine gx_M_42 d_M_length_8 rfl ?_
  refine e_iload_n d_M_length_11 rfl ?_
  obtain ⟨o4, h⟩ := h
  refine xM_iald 10 rfl d_M_length_12 o4 ?_
  obtain ⟨o5, h⟩ := h
  refine e_iadd d_M_length_13 o5 ?_
  refine e_istore_n (ls' := [(2, (m + 0)), (0, p1), (0, ((2 * (zFar (zM m G) p1)) + (zM m G 10 p1)))]) d_M_length_14 (by decide) rfl ?_
  refine e_iload_n d_M_length_15 rfl ?_
  refine e_iconst d_M_length_16 (by decide) ?_
  refine e_icmp_ge (tgt := 24) d_M_length_17 (by decide) (fun q6 => ?_) (fun q7 => ?_)
  · have h := h.1 q6
    refine e_iload_n d_M_length_24 rfl ?_
    exact e_iret d_M_length_25 rfl h
  · have h := h.2 q7
    refine e_iconst d_M_length_20 (by decide) ?_
    refine e_goto (tgt := 25) d_M_length_21 (by decide) ?_
    exact e_iret d_M_length_25 rfl h
theorem c_M_length {e : gE} {b : Nat} {m : Int} {G : gH} {p1 : Int} (h1 : zR (zM m G) p1) : GX e b m m_M_length [(2, (m + 0)), (0, p1)] G 0 0 (fun v9 G9 => v9 = (zLen (zM m G) p1 : Int) ∧ G9 = G) := by
  refine GM.ofEV (by decide) (Nat.le_of_ble_eq_true rfl) (sg_M_length_0 ?_)
  have h9 := h1
  obtain ⟨a1, a2, a3, a4, a5⟩ := h9
  refine ⟨h1, by omega, a1, by omega, fun q => ⟨?_, rfl⟩, fun q => ⟨?_, rfl⟩⟩
  · unfold zLen; rw [if_neg (by omega)]
  · unfold zLen; rw [if_pos (by omega)]
set_option maxRecDepth 20000 in
set_option maxHeartbeats 4000000 in
theorem sg_M_latest_0 {e : gE} {b : Nat} {m : Int} {Z : Int → gH → Prop} {kc ks : Nat} {G : gH} {p1 : Int} (h : ((zR (zM m G) p1) ∧ ((inI ((zM m G 790 0) - (zLen (zM m G) p1))) ∧ ((0 ≤ p1 ∧ p1 < 16) ∧ ((inI ((zM m G 11 p1) - 100)) ∧ ((0 ≤ ((zM m G 11 p1) - 100) ∧ ((zM m G 11 p1) - 100) < 12) ∧ ((zM m G 5 ((zM m G 11 p1) - 100)) ≠ (-1) → (inI ((zM m G 5 ((zM m G 11 p1) - 100)) - (zFar (zM m G) p1))) ∧ ((inI (((zM m G 5 ((zM m G 11 p1) - 100)) - (zFar (zM m G) p1)) - 1)) ∧ ((((zM m G 5 ((zM m G 11 p1) - 100)) - (zFar (zM m G) p1)) - 1) < ((zM m G 790 0) - (zLen (zM m G) p1)) → Z (((zM m G 5 ((zM m G 11 p1) - 100)) - (zFar (zM m G) p1)) - 1) G)))))))) ∧ (((zM m G 5 ((zM m G 11 p1) - 100)) = (-1) ∨ ((zM m G 5 ((zM m G 11 p1) - 100)) ≠ (-1) ∧ ((zM m G 790 0) - (zLen (zM m G) p1)) ≤ (((zM m G 5 ((zM m G 11 p1) - 100)) - (zFar (zM m G) p1)) - 1))) → Z ((zM m G 790 0) - (zLen (zM m G) p1)) G)) : EX e b m m_M_latest Z kc ks 0 [(2, (m + 0)), (0, p1), (9, 0), (9, 0)] [] G := by
  obtain ⟨h, hJ15⟩ := h
  have kJ15 : ((zM m G 5 ((zM m G 11 p1) - 100)) = (-1) ∨ ((zM m G 5 ((zM m G 11 p1) - 100)) ≠ (-1) ∧ ((zM m G 790 0) - (zLen (zM m G) p1)) ≤ (((zM m G 5 ((zM m G 11 p1) - 100)) - (zFar (zM m G) p1)) - 1))) → EX e b m m_M_latest Z kc ks 54 [(2, (m + 0)), (0, p1), (0, ((zM m G 790 0) - (zLen (zM m G) p1))), (0, (zM m G 5 ((zM m G 11 p1) - 100)))] [] G := by
    intro rJ15
    have h := hJ15 rJ15
    refine e_iload_n d_M_latest_54 rfl ?_
    exact e_iret d_M_latest_55 rfl h
  refine e_aload_n d_M_latest_0 rfl ?_
  refine gx_M_210 d_M_latest_1 rfl ?_
  refine e_aload_n d_M_latest_4 rfl ?_
  refine e_iload_n d_M_latest_5 rfl ?_
  refine EV.inv fun hFf1 => ?_
  have f1 := (fx_mt 0 rfl hFf1).1
  obtain ⟨o2, h⟩ := h
  refine e_callV m_M_length 12 lw_good d_M_latest_6 (k_M_length _) ⟨Nat.le_of_ble_eq_true rfl, Nat.le_of_ble_eq_true rfl⟩ w_1656 w_1658 w_s58 (q_M _) rfl f1 (args := [(0, p1)]) rfl rfl (Nat.le_of_ble_eq_true rfl) (kc' := kc) (ks' := ks) (mc := 0) (ms := 0) rfl rfl (c_M_length o2) (pureK ?_)
  obtain ⟨o3, h⟩ := h
  refine e_isub d_M_latest_9 o3 ?_
  refine e_istore_n (ls' := [(2, (m + 0)), (0, p1), (0, ((zM m G 790 0) - (zLen (zM m G) p1))), (9, 0)]) d_M_latest_10 (by decide) rfl ?_
  refine e_aload_n d_M_latest_11 rfl ?_
  refine gx_M_27 d_M_latest_12 rfl ?_
  refine e_aload_n d_M_latest_15 rfl ?_
  refine gx_M_45 d_M_latest_16 rfl ?_
  refine e_iload_n d_M_latest_19 rfl ?_
  obtain ⟨o4, h⟩ := h
  refine xM_iald 11 rfl d_M_latest_20 o4 ?_
  refine e_bipush d_M_latest_21 (by decide) (by decide) ?_
  obtain ⟨o5, h⟩ := h
  refine e_isub d_M_latest_23 o5 ?_
  obtain ⟨o6, h⟩ := h
  refine xM_iald 5 rfl d_M_latest_24 o6 ?_
  refine e_istore_n (ls' := [(2, (m + 0)), (0, p1), (0, ((zM m G 790 0) - (zLen (zM m G) p1))), (0, (zM m G 5 ((zM m G 11 p1) - 100)))]) d_M_latest_25 (by decide) rfl ?_
  refine e_iload_n d_M_latest_26 rfl ?_
  refine e_iconst d_M_latest_27 (by decide) ?_
  refine e_icmp_eq (tgt := 54) d_M_latest_28 (by decide) (fun q7 => ?_) (fun q8 => ?_)
  · exact kJ15 (Or.inl q7)
  · have h := h q8
    refine e_iload_n d_M_latest_31 rfl ?_
    refine e_aload_n d_M_latest_32 rfl ?_
    refine e_iload_n d_M_latest_33 rfl ?_
    refine EV.inv fun hFf9 => ?_
    have f9 := (fx_mt 0 rfl hFf9).1
    refine e_callV m_M_farOf 12 lw_good d_M_latest_34 (k_M_farOf _) ⟨Nat.le_of_ble_eq_true rfl, Nat.le_of_ble_eq_true rfl⟩ w_1640 w_1642 w_s54 (q_M _) rfl f9 (args := [(0, p1)]) rfl rfl (Nat.le_of_ble_eq_true rfl) (kc' := kc) (ks' := ks) (mc := 0) (ms := 0) rfl rfl (c_M_farOf o2) (pureK ?_)
    obtain ⟨o10, h⟩ := h
    refine e_isub d_M_latest_37 o10 ?_
    refine e_iconst d_M_latest_38 (by decide) ?_
    obtain ⟨o11, h⟩ := h
    refine e_isub d_M_latest_39 o11 ?_
    refine e_iload_n d_M_latest_40 rfl ?_
    refine e_icmp_ge (tgt := 54) d_M_latest_41 (by decide) (fun q12 => ?_) (fun q13 => ?_)
    · exact kJ15 (Or.inr ⟨q8, q12⟩)
    · have h := h q13
      refine e_iload_n d_M_latest_44 rfl ?_
      refine e_aload_n d_M_latest_45 rfl ?_
      refine e_iload_n d_M_latest_46 rfl ?_
      refine EV.inv fun hFf14 => ?_
      have f14 := (fx_mt 0 rfl hFf14).1
      refine e_callV m_M_farOf 12 lw_good d_M_latest_47 (k_M_farOf _) ⟨Nat.le_of_ble_eq_true rfl, Nat.le_of_ble_eq_true rfl⟩ w_1640 w_1642 w_s54 (q_M _) rfl f14 (args := [(0, p1)]) rfl rfl (Nat.le_of_ble_eq_true rfl) (kc' := kc) (ks' := ks) (mc := 0) (ms := 0) rfl rfl (c_M_farOf o2) (pureK ?_)
      refine e_isub d_M_latest_50 o10 ?_
      refine e_iconst d_M_latest_51 (by decide) ?_
      refine e_isub d_M_latest_52 o11 ?_
      refine e_istore_n (ls' := [(2, (m + 0)), (0, p1), (0, (((zM m G 5 ((zM m G 11 p1) - 100)) - (zFar (zM m G) p1)) - 1)), (0, (zM m G 5 ((zM m G 11 p1) - 100)))]) d_M_latest_53 (by decide) rfl ?_
      refine e_iload_n d_M_latest_54 rfl ?_
      exact e_iret d_M_latest_55 rfl h
theorem c_M_latest {e : gE} {b : Nat} {m : Int} {G : gH} {p1 : Int} (h1 : zR (zM m G) p1) : GX e b m m_M_latest [(2, (m + 0)), (0, p1)] G 0 0 (fun v9 G9 => v9 = (zLat (zM m G) p1 : Int) ∧ G9 = G) := by
  refine GM.ofEV (by decide) (Nat.le_of_ble_eq_true rfl) (sg_M_latest_0 ?_)
  have h9 := h1
  have b := zLen_b h1
  obtain ⟨a1, a2, a3, a4, a5, a6⟩ := h9
  unfold zDng at a5
  refine ⟨⟨h1, by omega, a1, by omega, by omega, fun q => ⟨by omega, by omega, fun q2 => ⟨?_, rfl⟩⟩⟩, fun q => ⟨?_, rfl⟩⟩
  · unfold zLat zDng; rw [if_pos ⟨q, q2⟩]
  · unfold zLat zDng; rw [if_neg (by omega)]
set_option maxRecDepth 20000 in
set_option maxHeartbeats 4000000 in
theorem sg_M_due_0 {e : gE} {b : Nat} {m : Int} {Z : Int → gH → Prop} {kc ks : Nat} {G : gH} {p1 : Int} (h : (zR (zM m G) p1) ∧ (inI ((zLat (zM m G) p1) + (zLen (zM m G) p1))) ∧ Z ((zLat (zM m G) p1) + (zLen (zM m G) p1)) G) : EX e b m m_M_due Z kc ks 0 [(2, (m + 0)), (0, p1)] [] G := by
  refine e_aload_n d_M_due_0 rfl ?_
  refine e_iload_n d_M_due_1 rfl ?_
  refine EV.inv fun hFf1 => ?_
  have f1 := (fx_mt 0 rfl hFf1).1
  obtain ⟨o2, h⟩ := h
  refine e_callV m_M_latest 12 lw_good d_M_due_2 (k_M_latest _) ⟨Nat.le_of_ble_eq_true rfl, Nat.le_of_ble_eq_true rfl⟩ w_1652 w_1654 w_s57 (q_M _) rfl f1 (args := [(0, p1)]) rfl rfl (Nat.le_of_ble_eq_true rfl) (kc' := kc) (ks' := ks) (mc := 0) (ms := 0) rfl rfl (c_M_latest o2) (pureK ?_)
  refine e_aload_n d_M_due_5 rfl ?_
  refine e_iload_n d_M_due_6 rfl ?_
  refine EV.inv fun hFf3 => ?_
  have f3 := (fx_mt 0 rfl hFf3).1
  refine e_callV m_M_length 12 lw_good d_M_due_7 (k_M_length _) ⟨Nat.le_of_ble_eq_true rfl, Nat.le_of_ble_eq_true rfl⟩ w_1656 w_1658 w_s58 (q_M _) rfl f3 (args := [(0, p1)]) rfl rfl (Nat.le_of_ble_eq_true rfl) (kc' := kc) (ks' := ks) (mc := 0) (ms := 0) rfl rfl (c_M_length o2) (pureK ?_)
  obtain ⟨o4, h⟩ := h
  refine e_iadd d_M_due_10 o4 ?_
  exact e_iret d_M_due_11 rfl h
theorem c_M_due {e : gE} {b : Nat} {m : Int} {G : gH} {p1 : Int} (h1 : zR (zM m G) p1) : GX e b m m_M_due [(2, (m + 0)), (0, p1)] G 0 0 (fun v9 G9 => v9 = (zDue (zM m G) p1 : Int) ∧ G9 = G) := by
  refine GM.ofEV (by decide) (Nat.le_of_ble_eq_true rfl) (sg_M_due_0 ?_)
  have h2 := zLen_b h1
  have h3 := zLat_b h1
  exact ⟨h1, by omega, rfl, rfl⟩
set_option maxRecDepth 20000 in
set_option maxHeartbeats 4000000 in
theorem sg_M_isJob_0 {e : gE} {b : Nat} {m : Int} {Z : Int → gH → Prop} {kc ks : Nat} {G : gH} {p1 p2 : Int} (h : ((0 ≤ p1 ∧ p1 < 16) ∧ (zIn (zM m G) p1 → (zR (zM m G) p1) ∧ ((zFar (zM m G) p1) ≠ (-1) → (0 ≤ p2 ∧ p2 < 3) ∧ ((zM m G 9 p1) ≤ (zM m G 15 p2) → Z 1 G)))) ∧ (((¬ (zIn (zM m G) p1)) ∨ (zIn (zM m G) p1 ∧ (zFar (zM m G) p1) = (-1)) ∨ (zIn (zM m G) p1 ∧ (zFar (zM m G) p1) ≠ (-1) ∧ (zM m G 15 p2) < (zM m G 9 p1))) → Z 0 G)) : EX e b m m_M_isJob Z kc ks 0 [(2, (m + 0)), (0, p1), (0, p2)] [] G := by
  obtain ⟨h, hJ12⟩ := h
  have kJ12 : ((¬ (zIn (zM m G) p1)) ∨ (zIn (zM m G) p1 ∧ (zFar (zM m G) p1) = (-1)) ∨ (zIn (zM m G) p1 ∧ (zFar (zM m G) p1) ≠ (-1) ∧ (zM m G 15 p2) < (zM m G 9 p1))) → EX e b m m_M_isJob Z kc ks 36 [(2, (m + 0)), (0, p1), (0, p2)] [] G := by
    intro rJ12
    have h := hJ12 rJ12
    refine e_iconst d_M_isJob_36 (by decide) ?_
    exact e_zret .boolean d_M_isJob_37 rfl (by decide) h
  refine e_aload_n d_M_isJob_0 rfl ?_
  refine e_iload_n d_M_isJob_1 rfl ?_
  refine EV.inv fun hFf1 => ?_
  have f1 := (fx_mt 0 rfl hFf1).1
  obtain ⟨o2, h⟩ := h
  refine e_callV m_M_isInRoom 12 lw_good d_M_isJob_2 (k_M_isInRoom _) ⟨Nat.le_of_ble_eq_true rfl, Nat.le_of_ble_eq_true rfl⟩ w_1624 w_1626 w_s50 (q_M _) rfl f1 (args := [(0, p1)]) rfl rfl (Nat.le_of_ble_eq_true rfl) (kc' := kc) (ks' := ks) (mc := 0) (ms := 0) rfl rfl (c_M_isInRoom o2) (pureK ?_)
  refine e_if_eq (tgt := 36) d_M_isJob_5 (by decide) (fun q3 => ?_) (fun q4 => ?_)
  · replace q3 := gb0.mp q3
    exact kJ12 (Or.inl q3)
  · replace q4 := gb1.mp q4
    have h := h q4
    refine e_aload_n d_M_isJob_8 rfl ?_
    refine e_iload_n d_M_isJob_9 rfl ?_
    refine EV.inv fun hFf5 => ?_
    have f5 := (fx_mt 0 rfl hFf5).1
    obtain ⟨o6, h⟩ := h
    refine e_callV m_M_farOf 12 lw_good d_M_isJob_10 (k_M_farOf _) ⟨Nat.le_of_ble_eq_true rfl, Nat.le_of_ble_eq_true rfl⟩ w_1640 w_1642 w_s54 (q_M _) rfl f5 (args := [(0, p1)]) rfl rfl (Nat.le_of_ble_eq_true rfl) (kc' := kc) (ks' := ks) (mc := 0) (ms := 0) rfl rfl (c_M_farOf o6) (pureK ?_)
    refine e_iconst d_M_isJob_13 (by decide) ?_
    refine e_icmp_eq (tgt := 36) d_M_isJob_14 (by decide) (fun q7 => ?_) (fun q8 => ?_)
    · exact kJ12 (Or.inr (Or.inl ⟨q4, q7⟩))
    · have h := h q8
      refine e_aload_n d_M_isJob_17 rfl ?_
      refine gx_M_39 d_M_isJob_18 rfl ?_
      refine e_iload_n d_M_isJob_21 rfl ?_
      refine xM_iald 9 rfl d_M_isJob_22 o2 ?_
      refine e_aload_n d_M_isJob_23 rfl ?_
      refine gx_M_57 d_M_isJob_24 rfl ?_
      refine e_iload_n d_M_isJob_27 rfl ?_
      obtain ⟨o9, h⟩ := h
      refine xM_iald 15 rfl d_M_isJob_28 o9 ?_
      refine e_icmp_gt (tgt := 36) d_M_isJob_29 (by decide) (fun q10 => ?_) (fun q11 => ?_)
      · exact kJ12 (Or.inr (Or.inr ⟨q4, q8, q10⟩))
      · have h := h q11
        refine e_iconst d_M_isJob_32 (by decide) ?_
        refine e_goto (tgt := 37) d_M_isJob_33 (by decide) ?_
        exact e_zret .boolean d_M_isJob_37 rfl (by decide) h
set_option maxRecDepth 20000 in
set_option maxHeartbeats 4000000 in
theorem sg_M_freeOf_0 {e : gE} {b : Nat} {m : Int} {Z : Int → gH → Prop} {kc ks : Nat} {G : gH} {p1 : Int} (h : (0 ≤ p1 ∧ p1 < 3) ∧ (((zM m G 16 p1) ≤ (zM m G 789 0) → Z (zM m G 789 0) G) ∧ ((zM m G 789 0) < (zM m G 16 p1) → Z (zM m G 16 p1) G))) : EX e b m m_M_freeOf Z kc ks 0 [(2, (m + 0)), (0, p1)] [] G := by
  refine e_aload_n d_M_freeOf_0 rfl ?_
  refine gx_M_60 d_M_freeOf_1 rfl ?_
  refine e_iload_n d_M_freeOf_4 rfl ?_
  obtain ⟨o1, h⟩ := h
  refine xM_iald 16 rfl d_M_freeOf_5 o1 ?_
  refine e_aload_n d_M_freeOf_6 rfl ?_
  refine gx_M_197 d_M_freeOf_7 rfl ?_
  refine e_icmp_le (tgt := 22) d_M_freeOf_10 (by decide) (fun q2 => ?_) (fun q3 => ?_)
  · have h := h.1 q2
    refine e_aload_n d_M_freeOf_22 rfl ?_
    refine gx_M_197 d_M_freeOf_23 rfl ?_
    exact e_iret d_M_freeOf_26 rfl h
  · have h := h.2 q3
    refine e_aload_n d_M_freeOf_13 rfl ?_
    refine gx_M_60 d_M_freeOf_14 rfl ?_
    refine e_iload_n d_M_freeOf_17 rfl ?_
    refine xM_iald 16 rfl d_M_freeOf_18 o1 ?_
    refine e_goto (tgt := 26) d_M_freeOf_19 (by decide) ?_
    exact e_iret d_M_freeOf_26 rfl h
theorem c_M_isJob {e : gE} {b : Nat} {m : Int} {G : gH} {p1 p2 : Int} (h1 : (0 ≤ p1 ∧ p1 < 16) ∧ (zIn (zM m G) p1 → zR (zM m G) p1)) (h2 : 0 ≤ p2 ∧ p2 < 3) : GX e b m m_M_isJob [(2, (m + 0)), (0, p1), (0, p2)] G 0 0 (fun v9 G9 => v9 = ((if zIn (zM m G) p1 ∧ zFar (zM m G) p1 ≠ -1 ∧ zM m G 9 p1 ≤ zM m G 15 p2 then 1 else 0) : Int) ∧ G9 = G) := by
  refine GM.ofEV (by decide) (Nat.le_of_ble_eq_true rfl) (sg_M_isJob_0 ?_)
  exact ⟨⟨h1.1, fun q => ⟨h1.2 q, fun q2 => ⟨h2, fun q3 => ⟨(if_pos ⟨q, q2, q3⟩).symm, rfl⟩⟩⟩⟩, fun q => ⟨(if_neg (by omega)).symm, rfl⟩⟩
theorem c_M_freeOf {e : gE} {b : Nat} {m : Int} {G : gH} {p1 : Int} (h1 : 0 ≤ p1 ∧ p1 < 3) : GX e b m m_M_freeOf [(2, (m + 0)), (0, p1)] G 0 0 (fun v9 G9 => v9 = (zFree (zM m G) p1 : Int) ∧ G9 = G) := by
  refine GM.ofEV (by decide) (Nat.le_of_ble_eq_true rfl) (sg_M_freeOf_0 ?_)
  exact ⟨h1, fun q => ⟨(if_neg (by omega)).symm, rfl⟩, fun q => ⟨(if_pos q).symm, rfl⟩⟩
