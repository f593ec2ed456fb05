/-! THE REFERENCE, 1: small reads -/
/-- minutes from the gate; the length of a job; the latest minute of its begin -/
def mFar (m : Int) (G : gH) (t : Int) : Int := G 1 (m + 6) (G 1 (m + 11) t - 100)
def mLen (m : Int) (G : gH) (t : Int) : Int := if 2 * mFar m G t + G 1 (m + 10) t < 1 then 1 else 2 * mFar m G t + G 1 (m + 10) t
def mDng (m : Int) (G : gH) (t : Int) : Int := G 1 (m + 5) (G 1 (m + 11) t - 100)
def mLat (m : Int) (G : gH) (t : Int) : Int := if mDng m G t ≠ -1 ∧ mDng m G t - mFar m G t - 1 < G 790 (m + 0) 0 - mLen m G t then mDng m G t - mFar m G t - 1 else G 790 (m + 0) 0 - mLen m G t
def mDue (m : Int) (G : gH) (t : Int) : Int := mLat m G t + mLen m G t
abbrev mIn (m : Int) (G : gH) (t : Int) : Prop := 100 ≤ G 1 (m + 11) t ∧ G 1 (m + 11) t < 200
/-- a thing in a room, with all numbers in their bounds -/
def mR (m : Int) (G : gH) (t : Int) : Prop := (0 ≤ t ∧ t < 16) ∧ (100 ≤ G 1 (m + 11) t ∧ G 1 (m + 11) t < 112) ∧ (-1 ≤ mFar m G t ∧ mFar m G t ≤ 99) ∧ (0 ≤ G 1 (m + 10) t ∧ G 1 (m + 10) t ≤ 20) ∧ (-1 ≤ mDng m G t ∧ mDng m G t ≤ 240) ∧ 0 ≤ G 790 (m + 0) 0 ∧ G 790 (m + 0) 0 ≤ 240
theorem mLen_b {m : Int} {G : gH} {t : Int} (h : mR m G t) : 1 ≤ mLen m G t ∧ mLen m G t ≤ 218 := by
  obtain ⟨-, -, h1, h2, -⟩ := h
  unfold mLen
  split <;> omega
theorem mLat_b {m : Int} {G : gH} {t : Int} (h : mR m G t) : -218 ≤ mLat m G t ∧ mLat m G t ≤ 240 := by
  have := mLen_b h
  obtain ⟨-, -, h1, h2, h3, h4⟩ := h
  unfold mLat
  split <;> omega
set_option maxRecDepth 20000 in
set_option maxHeartbeats 4000000 in
theorem sg_M_isThing_0 {e : gE} {b : Nat} {m : Int} {Z : Int → gH → Prop} {kc ks : Nat} {G : gH} {p1 : Int} (h : (0 ≤ p1 → (p1 < (G 785 (m + 0) 0) → Z 1 G)) ∧ ((p1 < 0 ∨ (0 ≤ p1 ∧ (G 785 (m + 0) 0) ≤ p1)) → Z 0 G)) : EX e b m m_M_isThing Z kc ks 0 [(2, (m + 0)), (0, p1)] [] G := by
  obtain ⟨h, hJ5⟩ := h
  have kJ5 : (p1 < 0 ∨ (0 ≤ p1 ∧ (G 785 (m + 0) 0) ≤ p1)) → EX e b m m_M_isThing Z kc ks 16 [(2, (m + 0)), (0, p1)] [] G := by
    intro rJ5
    have h := hJ5 rJ5
    refine e_iconst d_M_isThing_16 (by decide) ?_
    exact e_zret .boolean d_M_isThing_17 rfl (by decide) h
  refine e_iload_n d_M_isThing_0 rfl ?_
  refine e_if_lt (tgt := 16) d_M_isThing_1 (by decide) (fun q1 => ?_) (fun q2 => ?_)
  · exact kJ5 (Or.inl q1)
  · have h := h q2
    refine e_iload_n d_M_isThing_4 rfl ?_
    refine e_aload_n d_M_isThing_5 rfl ?_
    refine gx_M_151 d_M_isThing_6 rfl ?_
    refine e_icmp_ge (tgt := 16) d_M_isThing_9 (by decide) (fun q3 => ?_) (fun q4 => ?_)
    · exact kJ5 (Or.inr ⟨q2, q3⟩)
    · have h := h q4
      refine e_iconst d_M_isThing_12 (by decide) ?_
      refine e_goto (tgt := 17) d_M_isThing_13 (by decide) ?_
      exact e_zret .boolean d_M_isThing_17 rfl (by decide) h
set_option maxRecDepth 20000 in
set_option maxHeartbeats 4000000 in
theorem sg_M_isShelf_0 {e : gE} {b : Nat} {m : Int} {Z : Int → gH → Prop} {kc ks : Nat} {G : gH} {p0 : Int} (h : (0 ≤ p0 → (p0 < 8 → Z 1 G)) ∧ ((p0 < 0 ∨ (0 ≤ p0 ∧ 8 ≤ p0)) → Z 0 G)) : EX e b m m_M_isShelf Z kc ks 0 [(0, p0)] [] G := by
  obtain ⟨h, hJ5⟩ := h
  have kJ5 : (p0 < 0 ∨ (0 ≤ p0 ∧ 8 ≤ p0)) → EX e b m m_M_isShelf Z kc ks 14 [(0, p0)] [] G := by
    intro rJ5
    have h := hJ5 rJ5
    refine e_iconst d_M_isShelf_14 (by decide) ?_
    exact e_zret .boolean d_M_isShelf_15 rfl (by decide) h
  refine e_iload_n d_M_isShelf_0 rfl ?_
  refine e_if_lt (tgt := 14) d_M_isShelf_1 (by decide) (fun q1 => ?_) (fun q2 => ?_)
  · exact kJ5 (Or.inl q1)
  · have h := h q2
    refine e_iload_n d_M_isShelf_4 rfl ?_
    refine e_bipush d_M_isShelf_5 (by decide) (by decide) ?_
    refine e_icmp_ge (tgt := 14) d_M_isShelf_7 (by decide) (fun q3 => ?_) (fun q4 => ?_)
    · exact kJ5 (Or.inr ⟨q2, q3⟩)
    · have h := h q4
      refine e_iconst d_M_isShelf_10 (by decide) ?_
      refine e_goto (tgt := 15) d_M_isShelf_11 (by decide) ?_
      exact e_zret .boolean d_M_isShelf_15 rfl (by decide) h
set_option maxRecDepth 20000 in
set_option maxHeartbeats 4000000 in
theorem sg_M_isRoom_0 {e : gE} {b : Nat} {m : Int} {Z : Int → gH → Prop} {kc ks : Nat} {G : gH} {p0 : Int} (h : (0 ≤ p0 → (p0 < 12 → Z 1 G)) ∧ ((p0 < 0 ∨ (0 ≤ p0 ∧ 12 ≤ p0)) → Z 0 G)) : EX e b m m_M_isRoom Z kc ks 0 [(0, p0)] [] G := by
  obtain ⟨h, hJ5⟩ := h
  have kJ5 : (p0 < 0 ∨ (0 ≤ p0 ∧ 12 ≤ p0)) → EX e b m m_M_isRoom Z kc ks 14 [(0, p0)] [] G := by
    intro rJ5
    have h := hJ5 rJ5
    refine e_iconst d_M_isRoom_14 (by decide) ?_
    exact e_zret .boolean d_M_isRoom_15 rfl (by decide) h
  refine e_iload_n d_M_isRoom_0 rfl ?_
  refine e_if_lt (tgt := 14) d_M_isRoom_1 (by decide) (fun q1 => ?_) (fun q2 => ?_)
  · exact kJ5 (Or.inl q1)
  · have h := h q2
    refine e_iload_n d_M_isRoom_4 rfl ?_
    refine e_bipush d_M_isRoom_5 (by decide) (by decide) ?_
    refine e_icmp_ge (tgt := 14) d_M_isRoom_7 (by decide) (fun q3 => ?_) (fun q4 => ?_)
    · exact kJ5 (Or.inr ⟨q2, q3⟩)
    · have h := h q4
      refine e_iconst d_M_isRoom_10 (by decide) ?_
      refine e_goto (tgt := 15) d_M_isRoom_11 (by decide) ?_
      exact e_zret .boolean d_M_isRoom_15 rfl (by decide) h
set_option maxRecDepth 20000 in
set_option maxHeartbeats 4000000 in
theorem sg_M_isPlace_0 {e : gE} {b : Nat} {m : Int} {Z : Int → gH → Prop} {kc ks : Nat} {G : gH} {p1 : Int} (h : (0 ≤ p1 → (p1 < (G 787 (m + 0) 0) → Z 1 G)) ∧ ((p1 < 0 ∨ (0 ≤ p1 ∧ (G 787 (m + 0) 0) ≤ p1)) → Z 0 G)) : EX e b m m_M_isPlace Z kc ks 0 [(2, (m + 0)), (0, p1)] [] G := by
  obtain ⟨h, hJ5⟩ := h
  have kJ5 : (p1 < 0 ∨ (0 ≤ p1 ∧ (G 787 (m + 0) 0) ≤ p1)) → EX e b m m_M_isPlace Z kc ks 16 [(2, (m + 0)), (0, p1)] [] G := by
    intro rJ5
    have h := hJ5 rJ5
    refine e_iconst d_M_isPlace_16 (by decide) ?_
    exact e_zret .boolean d_M_isPlace_17 rfl (by decide) h
  refine e_iload_n d_M_isPlace_0 rfl ?_
  refine e_if_lt (tgt := 16) d_M_isPlace_1 (by decide) (fun q1 => ?_) (fun q2 => ?_)
  · exact kJ5 (Or.inl q1)
  · have h := h q2
    refine e_iload_n d_M_isPlace_4 rfl ?_
    refine e_aload_n d_M_isPlace_5 rfl ?_
    refine gx_M_154 d_M_isPlace_6 rfl ?_
    refine e_icmp_ge (tgt := 16) d_M_isPlace_9 (by decide) (fun q3 => ?_) (fun q4 => ?_)
    · exact kJ5 (Or.inr ⟨q2, q3⟩)
    · have h := h q4
      refine e_iconst d_M_isPlace_12 (by decide) ?_
      refine e_goto (tgt := 17) d_M_isPlace_13 (by decide) ?_
      exact e_zret .boolean d_M_isPlace_17 rfl (by decide) h
set_option maxRecDepth 20000 in
set_option maxHeartbeats 4000000 in
theorem sg_M_isInRoom_0 {e : gE} {b : Nat} {m : Int} {Z : Int → gH → Prop} {kc ks : Nat} {G : gH} {p1 : Int} (h : ((0 ≤ p1 ∧ p1 < 16) ∧ (100 ≤ (G 1 (m + 11) p1) → ((G 1 (m + 11) p1) < 200 → Z 1 G))) ∧ (((G 1 (m + 11) p1) < 100 ∨ (100 ≤ (G 1 (m + 11) p1) ∧ 200 ≤ (G 1 (m + 11) p1))) → Z 0 G)) : EX e b m m_M_isInRoom Z kc ks 0 [(2, (m + 0)), (0, p1)] [] G := by
  obtain ⟨h, hJ6⟩ := h
  have kJ6 : ((G 1 (m + 11) p1) < 100 ∨ (100 ≤ (G 1 (m + 11) p1) ∧ 200 ≤ (G 1 (m + 11) p1))) → EX e b m m_M_isInRoom Z kc ks 27 [(2, (m + 0)), (0, p1)] [] G := by
    intro rJ6
    have h := hJ6 rJ6
    refine e_iconst d_M_isInRoom_27 (by decide) ?_
    exact e_zret .boolean d_M_isInRoom_28 rfl (by decide) h
  refine e_aload_n d_M_isInRoom_0 rfl ?_
  refine gx_M_45 d_M_isInRoom_1 rfl ?_
  refine e_iload_n d_M_isInRoom_4 rfl ?_
  obtain ⟨o1, h⟩ := h
  refine xM_iald 11 rfl d_M_isInRoom_5 o1 ?_
  refine e_bipush d_M_isInRoom_6 (by decide) (by decide) ?_
  refine e_icmp_lt (tgt := 27) d_M_isInRoom_8 (by decide) (fun q2 => ?_) (fun q3 => ?_)
  · exact kJ6 (Or.inl q2)
  · have h := h q3
    refine e_aload_n d_M_isInRoom_11 rfl ?_
    refine gx_M_45 d_M_isInRoom_12 rfl ?_
    refine e_iload_n d_M_isInRoom_15 rfl ?_
    refine xM_iald 11 rfl d_M_isInRoom_16 o1 ?_
    refine e_sipush d_M_isInRoom_17 (by decide) (by decide) ?_
    refine e_icmp_ge (tgt := 27) d_M_isInRoom_20 (by decide) (fun q4 => ?_) (fun q5 => ?_)
    · exact kJ6 (Or.inr ⟨q3, q4⟩)
    · have h := h q5
      refine e_iconst d_M_isInRoom_23 (by decide) ?_
      refine e_goto (tgt := 28) d_M_isInRoom_24 (by decide) ?_
      exact e_zret .boolean d_M_isInRoom_28 rfl (by decide) h
set_option maxRecDepth 20000 in
set_option maxHeartbeats 4000000 in
theorem sg_M_farOf_0 {e : gE} {b : Nat} {m : Int} {Z : Int → gH → Prop} {kc ks : Nat} {G : gH} {p1 : Int} (h : (0 ≤ p1 ∧ p1 < 16) ∧ (inI ((G 1 (m + 11) p1) - 100)) ∧ (0 ≤ ((G 1 (m + 11) p1) - 100) ∧ ((G 1 (m + 11) p1) - 100) < 12) ∧ Z (G 1 (m + 6) ((G 1 (m + 11) p1) - 100)) G) : EX e b m m_M_farOf Z kc ks 0 [(2, (m + 0)), (0, p1)] [] G := by
  refine e_aload_n d_M_farOf_0 rfl ?_
  refine gx_M_30 d_M_farOf_1 rfl ?_
  refine e_aload_n d_M_farOf_4 rfl ?_
  refine gx_M_45 d_M_farOf_5 rfl ?_
  refine e_iload_n d_M_farOf_8 rfl ?_
  obtain ⟨o1, h⟩ := h
  refine xM_iald 11 rfl d_M_farOf_9 o1 ?_
  refine e_bipush d_M_farOf_10 (by decide) (by decide) ?_
  obtain ⟨o2, h⟩ := h
  refine e_isub d_M_farOf_12 o2 ?_
  obtain ⟨o3, h⟩ := h
  refine xM_iald 6 rfl d_M_farOf_13 o3 ?_
  exact e_iret d_M_farOf_14 rfl h
theorem c_M_isThing {e : gE} {b : Nat} {m : Int} {G : gH} {p1 : Int} : GX e b m m_M_isThing [(2, (m + 0)), (0, p1)] G 0 0 (fun v9 G9 => v9 = (if 0 ≤ p1 ∧ p1 < G 785 (m + 0) 0 then 1 else 0) ∧ G9 = G) := by
  refine GM.ofEV (by decide) (Nat.le_of_ble_eq_true rfl) (sg_M_isThing_0 ?_)
  repeat' (first | apply And.intro | intro _)
  all_goals first | assumption | rfl | omega | (rw [if_pos (by omega)]) | (rw [if_neg (by omega)])
theorem c_M_isShelf {e : gE} {b : Nat} {m : Int} {G : gH} {p0 : Int} : GX e b m m_M_isShelf [(0, p0)] G 0 0 (fun v9 G9 => v9 = (if 0 ≤ p0 ∧ p0 < 8 then 1 else 0) ∧ G9 = G) := by
  refine GM.ofEV (by decide) (Nat.le_of_ble_eq_true rfl) (sg_M_isShelf_0 ?_)
  repeat' (first | apply And.intro | intro _)
  all_goals first | assumption | rfl | omega | (rw [if_pos (by omega)]) | (rw [if_neg (by omega)])
theorem c_M_isRoom {e : gE} {b : Nat} {m : Int} {G : gH} {p0 : Int} : GX e b m m_M_isRoom [(0, p0)] G 0 0 (fun v9 G9 => v9 = (if 0 ≤ p0 ∧ p0 < 12 then 1 else 0) ∧ G9 = G) := by
  refine GM.ofEV (by decide) (Nat.le_of_ble_eq_true rfl) (sg_M_isRoom_0 ?_)
  repeat' (first | apply And.intro | intro _)
  all_goals first | assumption | rfl | omega | (rw [if_pos (by omega)]) | (rw [if_neg (by omega)])
theorem c_M_isPlace {e : gE} {b : Nat} {m : Int} {G : gH} {p1 : Int} : GX e b m m_M_isPlace [(2, (m + 0)), (0, p1)] G 0 0 (fun v9 G9 => v9 = (if 0 ≤ p1 ∧ p1 < G 787 (m + 0) 0 then 1 else 0) ∧ G9 = G) := by
  refine GM.ofEV (by decide) (Nat.le_of_ble_eq_true rfl) (sg_M_isPlace_0 ?_)
  repeat' (first | apply And.intro | intro _)
  all_goals first | assumption | rfl | omega | (rw [if_pos (by omega)]) | (rw [if_neg (by omega)])
theorem c_M_isInRoom {e : gE} {b : Nat} {m : Int} {G : gH} {p1 : Int} (h1 : 0 ≤ p1 ∧ p1 < 16) : GX e b m m_M_isInRoom [(2, (m + 0)), (0, p1)] G 0 0 (fun v9 G9 => v9 = (if mIn m G p1 then 1 else 0) ∧ G9 = G) := by
  refine GM.ofEV (by decide) (Nat.le_of_ble_eq_true rfl) (sg_M_isInRoom_0 ?_)
  repeat' (first | apply And.intro | intro _)
  all_goals first | assumption | rfl | omega | (rw [if_pos (by omega)]) | (rw [if_neg (by omega)])
theorem c_M_farOf {e : gE} {b : Nat} {m : Int} {G : gH} {p1 : Int} (h1 : mR m G p1) : GX e b m m_M_farOf [(2, (m + 0)), (0, p1)] G 0 0 (fun v9 G9 => v9 = mFar m G p1 ∧ G9 = G) := by
  refine GM.ofEV (by decide) (Nat.le_of_ble_eq_true rfl) (sg_M_farOf_0 ?_)
  obtain ⟨a1, a2, a3⟩ := h1
  exact ⟨a1, by omega, by omega, rfl, rfl⟩
set_option maxRecDepth 20000 in
set_option maxHeartbeats 4000000 in
theorem sg_M_length_0 {e : gE} {b : Nat} {m : Int} {Z : Int → gH → Prop} {kc ks : Nat} {G : gH} {p1 : Int} (h : (mR m G p1) ∧ ((inI (2 * (mFar m G p1))) ∧ ((0 ≤ p1 ∧ p1 < 16) ∧ ((inI ((2 * (mFar m G p1)) + (G 1 (m + 10) p1))) ∧ ((1 ≤ ((2 * (mFar m G p1)) + (G 1 (m + 10) p1)) → Z ((2 * (mFar m G p1)) + (G 1 (m + 10) p1)) G) ∧ (((2 * (mFar m G p1)) + (G 1 (m + 10) p1)) < 1 → Z 1 G)))))) : EX e b m m_M_length Z kc ks 0 [(2, (m + 0)), (0, p1), (9, 0)] [] G := by
  refine e_iconst d_M_length_0 (by decide) ?_
  refine e_aload_n d_M_length_1 rfl ?_
  refine e_iload_n d_M_length_2 rfl ?_
  refine EV.inv fun hFf1 => ?_
  have f1 := (fx_mt 0 rfl hFf1).1
  obtain ⟨o2, h⟩ := h
  refine e_callV m_M_farOf 12 lw_good d_M_length_3 (k_M_farOf _) ⟨Nat.le_of_ble_eq_true rfl, Nat.le_of_ble_eq_true rfl⟩ w_1640 w_1642 w_s54 (q_M _) rfl f1 (args := [(0, p1)]) rfl rfl (Nat.le_of_ble_eq_true rfl) (kc' := kc) (ks' := ks) (mc := 0) (ms := 0) rfl rfl (c_M_farOf o2) (pureK ?_)
  obtain ⟨o3, h⟩ := h
  refine e_imul d_M_length_6 o3 ?_
  refine e_aload_n d_M_length_7 rfl ?_
  refine gx_M_42 d_M_length_8 rfl ?_
  refine e_iload_n d_M_length_11 rfl ?_
  obtain ⟨o4, h⟩ := h
  refine xM_iald 10 rfl d_M_length_12 o4 ?_
  obtain ⟨o5, h⟩ := h
  refine e_iadd d_M_length_13 o5 ?_
  refine e_istore_n (ls' := [(2, (m + 0)), (0, p1), (0, ((2 * (mFar m G p1)) + (G 1 (m + 10) p1)))]) d_M_length_14 (by decide) rfl ?_
  refine e_iload_n d_M_length_15 rfl ?_
  refine e_iconst d_M_length_16 (by decide) ?_
  refine e_icmp_ge (tgt := 24) d_M_length_17 (by decide) (fun q6 => ?_) (fun q7 => ?_)
  · have h := h.1 q6
    refine e_iload_n d_M_length_24 rfl ?_
    exact e_iret d_M_length_25 rfl h
  · have h := h.2 q7
    refine e_iconst d_M_length_20 (by decide) ?_
    refine e_goto (tgt := 25) d_M_length_21 (by decide) ?_
    exact e_iret d_M_length_25 rfl h
theorem c_M_length {e : gE} {b : Nat} {m : Int} {G : gH} {p1 : Int} (h1 : mR m G p1) : GX e b m m_M_length [(2, (m + 0)), (0, p1)] G 0 0 (fun v9 G9 => v9 = mLen m G p1 ∧ G9 = G) := by
  refine GM.ofEV (by decide) (Nat.le_of_ble_eq_true rfl) (sg_M_length_0 ?_)
  have h9 := h1
  obtain ⟨a1, a2, a3, a4, a5⟩ := h9
  refine ⟨h1, by omega, a1, by omega, fun q => ⟨?_, rfl⟩, fun q => ⟨?_, rfl⟩⟩
  · unfold mLen; rw [if_neg (by omega)]
  · unfold mLen; rw [if_pos (by omega)]
set_option maxRecDepth 20000 in
set_option maxHeartbeats 4000000 in
theorem sg_M_latest_0 {e : gE} {b : Nat} {m : Int} {Z : Int → gH → Prop} {kc ks : Nat} {G : gH} {p1 : Int} (h : ((mR m G p1) ∧ ((inI ((G 790 (m + 0) 0) - (mLen m G p1))) ∧ ((0 ≤ p1 ∧ p1 < 16) ∧ ((inI ((G 1 (m + 11) p1) - 100)) ∧ ((0 ≤ ((G 1 (m + 11) p1) - 100) ∧ ((G 1 (m + 11) p1) - 100) < 12) ∧ ((G 1 (m + 5) ((G 1 (m + 11) p1) - 100)) ≠ (-1) → (inI ((G 1 (m + 5) ((G 1 (m + 11) p1) - 100)) - (mFar m G p1))) ∧ ((inI (((G 1 (m + 5) ((G 1 (m + 11) p1) - 100)) - (mFar m G p1)) - 1)) ∧ ((((G 1 (m + 5) ((G 1 (m + 11) p1) - 100)) - (mFar m G p1)) - 1) < ((G 790 (m + 0) 0) - (mLen m G p1)) → Z (((G 1 (m + 5) ((G 1 (m + 11) p1) - 100)) - (mFar m G p1)) - 1) G)))))))) ∧ (((G 1 (m + 5) ((G 1 (m + 11) p1) - 100)) = (-1) ∨ ((G 1 (m + 5) ((G 1 (m + 11) p1) - 100)) ≠ (-1) ∧ ((G 790 (m + 0) 0) - (mLen m G p1)) ≤ (((G 1 (m + 5) ((G 1 (m + 11) p1) - 100)) - (mFar m G p1)) - 1))) → Z ((G 790 (m + 0) 0) - (mLen m G p1)) G)) : EX e b m m_M_latest Z kc ks 0 [(2, (m + 0)), (0, p1), (9, 0), (9, 0)] [] G := by
  obtain ⟨h, hJ15⟩ := h
  have kJ15 : ((G 1 (m + 5) ((G 1 (m + 11) p1) - 100)) = (-1) ∨ ((G 1 (m + 5) ((G 1 (m + 11) p1) - 100)) ≠ (-1) ∧ ((G 790 (m + 0) 0) - (mLen m G p1)) ≤ (((G 1 (m + 5) ((G 1 (m + 11) p1) - 100)) - (mFar m G p1)) - 1))) → EX e b m m_M_latest Z kc ks 54 [(2, (m + 0)), (0, p1), (0, ((G 790 (m + 0) 0) - (mLen m G p1))), (0, (G 1 (m + 5) ((G 1 (m + 11) p1) - 100)))] [] G := by
    intro rJ15
    have h := hJ15 rJ15
    refine e_iload_n d_M_latest_54 rfl ?_
    exact e_iret d_M_latest_55 rfl h
  refine e_aload_n d_M_latest_0 rfl ?_
  refine gx_M_210 d_M_latest_1 rfl ?_
  refine e_aload_n d_M_latest_4 rfl ?_
  refine e_iload_n d_M_latest_5 rfl ?_
  refine EV.inv fun hFf1 => ?_
  have f1 := (fx_mt 0 rfl hFf1).1
  obtain ⟨o2, h⟩ := h
  refine e_callV m_M_length 12 lw_good d_M_latest_6 (k_M_length _) ⟨Nat.le_of_ble_eq_true rfl, Nat.le_of_ble_eq_true rfl⟩ w_1656 w_1658 w_s58 (q_M _) rfl f1 (args := [(0, p1)]) rfl rfl (Nat.le_of_ble_eq_true rfl) (kc' := kc) (ks' := ks) (mc := 0) (ms := 0) rfl rfl (c_M_length o2) (pureK ?_)
  obtain ⟨o3, h⟩ := h
  refine e_isub d_M_latest_9 o3 ?_
  refine e_istore_n (ls' := [(2, (m + 0)), (0, p1), (0, ((G 790 (m + 0) 0) - (mLen m G p1))), (9, 0)]) d_M_latest_10 (by decide) rfl ?_
  refine e_aload_n d_M_latest_11 rfl ?_
  refine gx_M_27 d_M_latest_12 rfl ?_
  refine e_aload_n d_M_latest_15 rfl ?_
  refine gx_M_45 d_M_latest_16 rfl ?_
  refine e_iload_n d_M_latest_19 rfl ?_
  obtain ⟨o4, h⟩ := h
  refine xM_iald 11 rfl d_M_latest_20 o4 ?_
  refine e_bipush d_M_latest_21 (by decide) (by decide) ?_
  obtain ⟨o5, h⟩ := h
  refine e_isub d_M_latest_23 o5 ?_
  obtain ⟨o6, h⟩ := h
  refine xM_iald 5 rfl d_M_latest_24 o6 ?_
  refine e_istore_n (ls' := [(2, (m + 0)), (0, p1), (0, ((G 790 (m + 0) 0) - (mLen m G p1))), (0, (G 1 (m + 5) ((G 1 (m + 11) p1) - 100)))]) d_M_latest_25 (by decide) rfl ?_
  refine e_iload_n d_M_latest_26 rfl ?_
  refine e_iconst d_M_latest_27 (by decide) ?_
  refine e_icmp_eq (tgt := 54) d_M_latest_28 (by decide) (fun q7 => ?_) (fun q8 => ?_)
  · exact kJ15 (Or.inl q7)
  · have h := h q8
    refine e_iload_n d_M_latest_31 rfl ?_
    refine e_aload_n d_M_latest_32 rfl ?_
    refine e_iload_n d_M_latest_33 rfl ?_
    refine EV.inv fun hFf9 => ?_
    have f9 := (fx_mt 0 rfl hFf9).1
    refine e_callV m_M_farOf 12 lw_good d_M_latest_34 (k_M_farOf _) ⟨Nat.le_of_ble_eq_true rfl, Nat.le_of_ble_eq_true rfl⟩ w_1640 w_1642 w_s54 (q_M _) rfl f9 (args := [(0, p1)]) rfl rfl (Nat.le_of_ble_eq_true rfl) (kc' := kc) (ks' := ks) (mc := 0) (ms := 0) rfl rfl (c_M_farOf o2) (pureK ?_)
    obtain ⟨o10, h⟩ := h
    refine e_isub d_M_latest_37 o10 ?_
    refine e_iconst d_M_latest_38 (by decide) ?_
    obtain ⟨o11, h⟩ := h
    refine e_isub d_M_latest_39 o11 ?_
    refine e_iload_n d_M_latest_40 rfl ?_
    refine e_icmp_ge (tgt := 54) d_M_latest_41 (by decide) (fun q12 => ?_) (fun q13 => ?_)
    · exact kJ15 (Or.inr ⟨q8, q12⟩)
    · have h := h q13
      refine e_iload_n d_M_latest_44 rfl ?_
      refine e_aload_n d_M_latest_45 rfl ?_
      refine e_iload_n d_M_latest_46 rfl ?_
      refine EV.inv fun hFf14 => ?_
      have f14 := (fx_mt 0 rfl hFf14).1
      refine e_callV m_M_farOf 12 lw_good d_M_latest_47 (k_M_farOf _) ⟨Nat.le_of_ble_eq_true rfl, Nat.le_of_ble_eq_true rfl⟩ w_1640 w_1642 w_s54 (q_M _) rfl f14 (args := [(0, p1)]) rfl rfl (Nat.le_of_ble_eq_true rfl) (kc' := kc) (ks' := ks) (mc := 0) (ms := 0) rfl rfl (c_M_farOf o2) (pureK ?_)
      refine e_isub d_M_latest_50 o10 ?_
      refine e_iconst d_M_latest_51 (by decide) ?_
      refine e_isub d_M_latest_52 o11 ?_
      refine e_istore_n (ls' := [(2, (m + 0)), (0, p1), (0, (((G 1 (m + 5) ((G 1 (m + 11) p1) - 100)) - (mFar m G p1)) - 1)), (0, (G 1 (m + 5) ((G 1 (m + 11) p1) - 100)))]) d_M_latest_53 (by decide) rfl ?_
      refine e_iload_n d_M_latest_54 rfl ?_
      exact e_iret d_M_latest_55 rfl h
theorem c_M_latest {e : gE} {b : Nat} {m : Int} {G : gH} {p1 : Int} (h1 : mR m G p1) : GX e b m m_M_latest [(2, (m + 0)), (0, p1)] G 0 0 (fun v9 G9 => v9 = mLat m G p1 ∧ G9 = G) := by
  refine GM.ofEV (by decide) (Nat.le_of_ble_eq_true rfl) (sg_M_latest_0 ?_)
  have h9 := h1
  have b := mLen_b h1
  obtain ⟨a1, a2, a3, a4, a5, a6⟩ := h9
  unfold mDng at a5
  refine ⟨⟨h1, by omega, a1, by omega, by omega, fun q => ⟨by omega, by omega, fun q2 => ⟨?_, rfl⟩⟩⟩, fun q => ⟨?_, rfl⟩⟩
  · unfold mLat mDng; rw [if_pos ⟨q, q2⟩]
  · unfold mLat mDng; rw [if_neg (by omega)]
set_option maxRecDepth 20000 in
set_option maxHeartbeats 4000000 in
theorem sg_M_due_0 {e : gE} {b : Nat} {m : Int} {Z : Int → gH → Prop} {kc ks : Nat} {G : gH} {p1 : Int} (h : (mR m G p1) ∧ (inI ((mLat m G p1) + (mLen m G p1))) ∧ Z ((mLat m G p1) + (mLen m G p1)) G) : EX e b m m_M_due Z kc ks 0 [(2, (m + 0)), (0, p1)] [] G := by
  refine e_aload_n d_M_due_0 rfl ?_
  refine e_iload_n d_M_due_1 rfl ?_
  refine EV.inv fun hFf1 => ?_
  have f1 := (fx_mt 0 rfl hFf1).1
  obtain ⟨o2, h⟩ := h
  refine e_callV m_M_latest 12 lw_good d_M_due_2 (k_M_latest _) ⟨Nat.le_of_ble_eq_true rfl, Nat.le_of_ble_eq_true rfl⟩ w_1652 w_1654 w_s57 (q_M _) rfl f1 (args := [(0, p1)]) rfl rfl (Nat.le_of_ble_eq_true rfl) (kc' := kc) (ks' := ks) (mc := 0) (ms := 0) rfl rfl (c_M_latest o2) (pureK ?_)
  refine e_aload_n d_M_due_5 rfl ?_
  refine e_iload_n d_M_due_6 rfl ?_
  refine EV.inv fun hFf3 => ?_
  have f3 := (fx_mt 0 rfl hFf3).1
  refine e_callV m_M_length 12 lw_good d_M_due_7 (k_M_length _) ⟨Nat.le_of_ble_eq_true rfl, Nat.le_of_ble_eq_true rfl⟩ w_1656 w_1658 w_s58 (q_M _) rfl f3 (args := [(0, p1)]) rfl rfl (Nat.le_of_ble_eq_true rfl) (kc' := kc) (ks' := ks) (mc := 0) (ms := 0) rfl rfl (c_M_length o2) (pureK ?_)
  obtain ⟨o4, h⟩ := h
  refine e_iadd d_M_due_10 o4 ?_
  exact e_iret d_M_due_11 rfl h
theorem c_M_due {e : gE} {b : Nat} {m : Int} {G : gH} {p1 : Int} (h1 : mR m G p1) : GX e b m m_M_due [(2, (m + 0)), (0, p1)] G 0 0 (fun v9 G9 => v9 = mDue m G p1 ∧ G9 = G) := by
  refine GM.ofEV (by decide) (Nat.le_of_ble_eq_true rfl) (sg_M_due_0 ?_)
  have h2 := mLen_b h1
  have h3 := mLat_b h1
  exact ⟨h1, by omega, rfl, rfl⟩
set_option maxRecDepth 20000 in
set_option maxHeartbeats 4000000 in
theorem sg_M_isJob_0 {e : gE} {b : Nat} {m : Int} {Z : Int → gH → Prop} {kc ks : Nat} {G : gH} {p1 p2 : Int} (h : ((0 ≤ p1 ∧ p1 < 16) ∧ (mIn m G p1 → (mR m G p1) ∧ ((mFar m G p1) ≠ (-1) → (0 ≤ p2 ∧ p2 < 3) ∧ ((G 1 (m + 9) p1) ≤ (G 1 (m + 15) p2) → Z 1 G)))) ∧ (((¬ (mIn m G p1)) ∨ (mIn m G p1 ∧ (mFar m G p1) = (-1)) ∨ (mIn m G p1 ∧ (mFar m G p1) ≠ (-1) ∧ (G 1 (m + 15) p2) < (G 1 (m + 9) p1))) → Z 0 G)) : EX e b m m_M_isJob Z kc ks 0 [(2, (m + 0)), (0, p1), (0, p2)] [] G := by
  obtain ⟨h, hJ12⟩ := h
  have kJ12 : ((¬ (mIn m G p1)) ∨ (mIn m G p1 ∧ (mFar m G p1) = (-1)) ∨ (mIn m G p1 ∧ (mFar m G p1) ≠ (-1) ∧ (G 1 (m + 15) p2) < (G 1 (m + 9) p1))) → EX e b m m_M_isJob Z kc ks 36 [(2, (m + 0)), (0, p1), (0, p2)] [] G := by
    intro rJ12
    have h := hJ12 rJ12
    refine e_iconst d_M_isJob_36 (by decide) ?_
    exact e_zret .boolean d_M_isJob_37 rfl (by decide) h
  refine e_aload_n d_M_isJob_0 rfl ?_
  refine e_iload_n d_M_isJob_1 rfl ?_
  refine EV.inv fun hFf1 => ?_
  have f1 := (fx_mt 0 rfl hFf1).1
  obtain ⟨o2, h⟩ := h
  refine e_callV m_M_isInRoom 12 lw_good d_M_isJob_2 (k_M_isInRoom _) ⟨Nat.le_of_ble_eq_true rfl, Nat.le_of_ble_eq_true rfl⟩ w_1624 w_1626 w_s50 (q_M _) rfl f1 (args := [(0, p1)]) rfl rfl (Nat.le_of_ble_eq_true rfl) (kc' := kc) (ks' := ks) (mc := 0) (ms := 0) rfl rfl (c_M_isInRoom o2) (pureK ?_)
  refine e_if_eq (tgt := 36) d_M_isJob_5 (by decide) (fun q3 => ?_) (fun q4 => ?_)
  · replace q3 := gb0.mp q3
    exact kJ12 (Or.inl q3)
  · replace q4 := gb1.mp q4
    have h := h q4
    refine e_aload_n d_M_isJob_8 rfl ?_
    refine e_iload_n d_M_isJob_9 rfl ?_
    refine EV.inv fun hFf5 => ?_
    have f5 := (fx_mt 0 rfl hFf5).1
    obtain ⟨o6, h⟩ := h
    refine e_callV m_M_farOf 12 lw_good d_M_isJob_10 (k_M_farOf _) ⟨Nat.le_of_ble_eq_true rfl, Nat.le_of_ble_eq_true rfl⟩ w_1640 w_1642 w_s54 (q_M _) rfl f5 (args := [(0, p1)]) rfl rfl (Nat.le_of_ble_eq_true rfl) (kc' := kc) (ks' := ks) (mc := 0) (ms := 0) rfl rfl (c_M_farOf o6) (pureK ?_)
    refine e_iconst d_M_isJob_13 (by decide) ?_
    refine e_icmp_eq (tgt := 36) d_M_isJob_14 (by decide) (fun q7 => ?_) (fun q8 => ?_)
    · exact kJ12 (Or.inr (Or.inl ⟨q4, q7⟩))
    · have h := h q8
      refine e_aload_n d_M_isJob_17 rfl ?_
      refine gx_M_39 d_M_isJob_18 rfl ?_
      refine e_iload_n d_M_isJob_21 rfl ?_
      refine xM_iald 9 rfl d_M_isJob_22 o2 ?_
      refine e_aload_n d_M_isJob_23 rfl ?_
      refine gx_M_57 d_M_isJob_24 rfl ?_
      refine e_iload_n d_M_isJob_27 rfl ?_
      obtain ⟨o9, h⟩ := h
      refine xM_iald 15 rfl d_M_isJob_28 o9 ?_
      refine e_icmp_gt (tgt := 36) d_M_isJob_29 (by decide) (fun q10 => ?_) (fun q11 => ?_)
      · exact kJ12 (Or.inr (Or.inr ⟨q4, q8, q10⟩))
      · have h := h q11
        refine e_iconst d_M_isJob_32 (by decide) ?_
        refine e_goto (tgt := 37) d_M_isJob_33 (by decide) ?_
        exact e_zret .boolean d_M_isJob_37 rfl (by decide) h
set_option maxRecDepth 20000 in
set_option maxHeartbeats 4000000 in
theorem sg_M_freeOf_0 {e : gE} {b : Nat} {m : Int} {Z : Int → gH → Prop} {kc ks : Nat} {G : gH} {p1 : Int} (h : (0 ≤ p1 ∧ p1 < 3) ∧ (((G 1 (m + 16) p1) ≤ (G 789 (m + 0) 0) → Z (G 789 (m + 0) 0) G) ∧ ((G 789 (m + 0) 0) < (G 1 (m + 16) p1) → Z (G 1 (m + 16) p1) G))) : EX e b m m_M_freeOf Z kc ks 0 [(2, (m + 0)), (0, p1)] [] G := by
  refine e_aload_n d_M_freeOf_0 rfl ?_
  refine gx_M_60 d_M_freeOf_1 rfl ?_
  refine e_iload_n d_M_freeOf_4 rfl ?_
  obtain ⟨o1, h⟩ := h
  refine xM_iald 16 rfl d_M_freeOf_5 o1 ?_
  refine e_aload_n d_M_freeOf_6 rfl ?_
  refine gx_M_197 d_M_freeOf_7 rfl ?_
  refine e_icmp_le (tgt := 22) d_M_freeOf_10 (by decide) (fun q2 => ?_) (fun q3 => ?_)
  · have h := h.1 q2
    refine e_aload_n d_M_freeOf_22 rfl ?_
    refine gx_M_197 d_M_freeOf_23 rfl ?_
    exact e_iret d_M_freeOf_26 rfl h
  · have h := h.2 q3
    refine e_aload_n d_M_freeOf_13 rfl ?_
    refine gx_M_60 d_M_freeOf_14 rfl ?_
    refine e_iload_n d_M_freeOf_17 rfl ?_
    refine xM_iald 16 rfl d_M_freeOf_18 o1 ?_
    refine e_goto (tgt := 26) d_M_freeOf_19 (by decide) ?_
    exact e_iret d_M_freeOf_26 rfl h
theorem c_M_isJob {e : gE} {b : Nat} {m : Int} {G : gH} {p1 p2 : Int} (h1 : (0 ≤ p1 ∧ p1 < 16) ∧ (mIn m G p1 → mR m G p1)) (h2 : 0 ≤ p2 ∧ p2 < 3) : GX e b m m_M_isJob [(2, (m + 0)), (0, p1), (0, p2)] G 0 0 (fun v9 G9 => v9 = (if mIn m G p1 ∧ mFar m G p1 ≠ -1 ∧ G 1 (m + 9) p1 ≤ G 1 (m + 15) p2 then 1 else 0) ∧ G9 = G) := by
  refine GM.ofEV (by decide) (Nat.le_of_ble_eq_true rfl) (sg_M_isJob_0 ?_)
  exact ⟨⟨h1.1, fun q => ⟨h1.2 q, fun q2 => ⟨h2, fun q3 => ⟨(if_pos ⟨q, q2, q3⟩).symm, rfl⟩⟩⟩⟩, fun q => ⟨(if_neg (by omega)).symm, rfl⟩⟩
theorem c_M_freeOf {e : gE} {b : Nat} {m : Int} {G : gH} {p1 : Int} (h1 : 0 ≤ p1 ∧ p1 < 3) : GX e b m m_M_freeOf [(2, (m + 0)), (0, p1)] G 0 0 (fun v9 G9 => v9 = (if G 789 (m + 0) 0 < G 1 (m + 16) p1 then G 1 (m + 16) p1 else G 789 (m + 0) 0) ∧ G9 = G) := by
  refine GM.ofEV (by decide) (Nat.le_of_ble_eq_true rfl) (sg_M_freeOf_0 ?_)
  exact ⟨h1, fun q => ⟨(if_neg (by omega)).symm, rfl⟩, fun q => ⟨(if_pos q).symm, rfl⟩⟩
set_option maxRecDepth 20000 in
set_option maxHeartbeats 4000000 in
theorem sg_M_no_0 {e : gE} {b : Nat} {m : Int} {Z : Int → gH → Prop} {kc ks : Nat} {G : gH} {p1 : Int} (h : (inI (-p1)) ∧ ((0 ≤ (-p1) ∧ (-p1) < 8) ∧ ((inI ((G 1 (m + 39) (-p1)) + 1)) ∧ (∀ G4 : gH, G4 = gU G 1 (m + 39) (-p1) ((G 1 (m + 39) (-p1)) + 1) → Z p1 G4)))) : EX e b m m_M_no Z kc ks 0 [(2, (m + 0)), (0, p1)] [] G := by
  refine e_aload_n d_M_no_0 rfl ?_
  refine gx_M_130 d_M_no_1 rfl ?_
  refine e_iload_n d_M_no_4 rfl ?_
  obtain ⟨o1, h⟩ := h
  refine e_ineg d_M_no_5 o1 ?_
  refine e_dup2 d_M_no_6 (by simp) (by simp) ?_
  obtain ⟨o2, h⟩ := h
  refine xM_iald 39 rfl d_M_no_7 o2 ?_
  refine e_iconst d_M_no_8 (by decide) ?_
  obtain ⟨o3, h⟩ := h
  refine e_iadd d_M_no_9 o3 ?_
  refine xM_iast 39 rfl d_M_no_10 o2 ?_
  have h := h _ rfl
  refine e_iload_n d_M_no_11 rfl ?_
  exact e_iret d_M_no_12 rfl h
set_option maxRecDepth 20000 in
set_option maxHeartbeats 4000000 in
theorem sg_M_ways_0 {e : gE} {b : Nat} {m : Int} {Z : Int → gH → Prop} {kc ks : Nat} {G : gH} (h : EX e b m m_M_ways Z kc ks 2 [(2, (m + 0)), (0, 0), (9, 0), (9, 0), (9, 0), (9, 0)] [] G) : EX e b m m_M_ways Z kc ks 0 [(2, (m + 0)), (9, 0), (9, 0), (9, 0), (9, 0), (9, 0)] [] G := by
  refine e_iconst d_M_ways_0 (by decide) ?_
  refine e_istore_n (ls' := [(2, (m + 0)), (0, 0), (9, 0), (9, 0), (9, 0), (9, 0)]) d_M_ways_1 (by decide) rfl ?_
  exact e_forget (ls' := [(2, (m + 0)), (0, 0), (9, 0), (9, 0), (9, 0), (9, 0)]) ⟨Or.inr rfl, Or.inr rfl, Or.inl rfl, Or.inl rfl, Or.inl rfl, Or.inl rfl, trivial⟩ h
set_option maxRecDepth 20000 in
set_option maxHeartbeats 4000000 in
theorem sg_M_ways_2 {e : gE} {b : Nat} {m : Int} {Z : Int → gH → Prop} {kc ks : Nat} {G : gH} {x1 : Int} (h : (12 ≤ x1 → EX e b m m_M_ways Z kc ks 31 [(2, (m + 0)), (0, 1), (9, 0), (9, 0), (9, 0), (9, 0)] [] G) ∧ (x1 < 12 → (x1 ≠ 0 → (0 ≤ x1 ∧ x1 < 12) ∧ (∀ G6 : gH, G6 = gU G 1 (m + 6) x1 (-1) → (inI (x1 + 1)) ∧ EX e b m m_M_ways Z kc ks 2 [(2, (m + 0)), (0, (x1 + 1)), (9, 0), (9, 0), (9, 0), (9, 0)] [] G6)) ∧ (x1 = 0 → (0 ≤ x1 ∧ x1 < 12) ∧ (∀ G9 : gH, G9 = gU G 1 (m + 6) x1 0 → (inI (x1 + 1)) ∧ EX e b m m_M_ways Z kc ks 2 [(2, (m + 0)), (0, (x1 + 1)), (9, 0), (9, 0), (9, 0), (9, 0)] [] G9)))) : EX e b m m_M_ways Z kc ks 2 [(2, (m + 0)), (0, x1), (9, 0), (9, 0), (9, 0), (9, 0)] [] G := by
  refine e_iload_n d_M_ways_2 rfl ?_
  refine e_bipush d_M_ways_3 (by decide) (by decide) ?_
  refine e_icmp_ge (tgt := 29) d_M_ways_5 (by decide) (fun q1 => ?_) (fun q2 => ?_)
  · have h := h.1 q1
    refine e_iconst d_M_ways_29 (by decide) ?_
    refine e_istore_n (ls' := [(2, (m + 0)), (0, 1), (9, 0), (9, 0), (9, 0), (9, 0)]) d_M_ways_30 (by decide) rfl ?_
    exact e_forget (ls' := [(2, (m + 0)), (0, 1), (9, 0), (9, 0), (9, 0), (9, 0)]) ⟨Or.inr rfl, Or.inr rfl, Or.inl rfl, Or.inl rfl, Or.inl rfl, Or.inl rfl, trivial⟩ h
  · have h := h.2 q2
    refine e_aload_n d_M_ways_8 rfl ?_
    refine gx_M_30 d_M_ways_9 rfl ?_
    refine e_iload_n d_M_ways_12 rfl ?_
    refine e_iload_n d_M_ways_13 rfl ?_
    refine e_if_ne (tgt := 21) d_M_ways_14 (by decide) (fun q3 => ?_) (fun q4 => ?_)
    · have h := h.1 q3
      refine e_iconst d_M_ways_21 (by decide) ?_
      obtain ⟨o5, h⟩ := h
      refine xM_iast 6 rfl d_M_ways_22 o5 ?_
      have h := h _ rfl
      obtain ⟨o7, h⟩ := h
      refine e_iinc (ls' := [(2, (m + 0)), (0, (x1 + 1)), (9, 0), (9, 0), (9, 0), (9, 0)]) d_M_ways_23 rfl (by decide) o7 rfl ?_
      refine e_goto (tgt := 2) d_M_ways_26 (by decide) ?_
      exact e_forget (ls' := [(2, (m + 0)), (0, (x1 + 1)), (9, 0), (9, 0), (9, 0), (9, 0)]) ⟨Or.inr rfl, Or.inr rfl, Or.inl rfl, Or.inl rfl, Or.inl rfl, Or.inl rfl, trivial⟩ h
    · have h := h.2 q4
      refine e_iconst d_M_ways_17 (by decide) ?_
      refine e_goto (tgt := 22) d_M_ways_18 (by decide) ?_
      obtain ⟨o8, h⟩ := h
      refine xM_iast 6 rfl d_M_ways_22 o8 ?_
      have h := h _ rfl
      obtain ⟨o10, h⟩ := h
      refine e_iinc (ls' := [(2, (m + 0)), (0, (x1 + 1)), (9, 0), (9, 0), (9, 0), (9, 0)]) d_M_ways_23 rfl (by decide) o10 rfl ?_
      refine e_goto (tgt := 2) d_M_ways_26 (by decide) ?_
      exact e_forget (ls' := [(2, (m + 0)), (0, (x1 + 1)), (9, 0), (9, 0), (9, 0), (9, 0)]) ⟨Or.inr rfl, Or.inr rfl, Or.inl rfl, Or.inl rfl, Or.inl rfl, Or.inl rfl, trivial⟩ h
set_option maxRecDepth 20000 in
set_option maxHeartbeats 4000000 in
theorem sg_M_ways_31 {e : gE} {b : Nat} {m : Int} {Z : Int → gH → Prop} {kc ks : Nat} {G : gH} {x1 : Int} (h : (x1 = 0 → Z 0 G) ∧ (x1 ≠ 0 → EX e b m m_M_ways Z kc ks 39 [(2, (m + 0)), (0, 0), (0, 0), (9, 0), (9, 0), (9, 0)] [] G)) : EX e b m m_M_ways Z kc ks 31 [(2, (m + 0)), (0, x1), (9, 0), (9, 0), (9, 0), (9, 0)] [] G := by
  refine e_iload_n d_M_ways_31 rfl ?_
  refine e_if_eq (tgt := 189) d_M_ways_32 (by decide) (fun q1 => ?_) (fun q2 => ?_)
  · have h := h.1 q1
    exact e_vret d_M_ways_189 rfl h
  · have h := h.2 q2
    refine e_iconst d_M_ways_35 (by decide) ?_
    refine e_istore_n (ls' := [(2, (m + 0)), (0, 0), (9, 0), (9, 0), (9, 0), (9, 0)]) d_M_ways_36 (by decide) rfl ?_
    refine e_iconst d_M_ways_37 (by decide) ?_
    refine e_istore_n (ls' := [(2, (m + 0)), (0, 0), (0, 0), (9, 0), (9, 0), (9, 0)]) d_M_ways_38 (by decide) rfl ?_
    exact e_forget (ls' := [(2, (m + 0)), (0, 0), (0, 0), (9, 0), (9, 0), (9, 0)]) ⟨Or.inr rfl, Or.inr rfl, Or.inr rfl, Or.inl rfl, Or.inl rfl, Or.inl rfl, trivial⟩ h
set_option maxRecDepth 20000 in
set_option maxHeartbeats 4000000 in
theorem sg_M_ways_39 {e : gE} {b : Nat} {m : Int} {Z : Int → gH → Prop} {kc ks : Nat} {G : gH} {x1 x2 : Int} (h : ((inI (2 * (G 784 (m + 0) 0))) ∧ (((2 * (G 784 (m + 0) 0)) ≤ x2 → EX e b m m_M_ways Z kc ks 31 [(2, (m + 0)), (0, x1), (9, 0), (9, 0), (9, 0), (9, 0)] [] G) ∧ (x2 < (2 * (G 784 (m + 0) 0)) → (0 ≤ x2) ∧ (((x2 % 2) ≠ 0 → (0 ≤ (x2 / 2) ∧ (x2 / 2) < 20) ∧ ((G 1 (m + 4) (x2 / 2)) = 0 → (0 ≤ (G 1 (m + 2) (x2 / 2)) ∧ (G 1 (m + 2) (x2 / 2)) < 12) ∧ ((G 1 (m + 6) (G 1 (m + 2) (x2 / 2))) ≠ (-1) → (0 ≤ (G 1 (m + 1) (x2 / 2)) ∧ (G 1 (m + 1) (x2 / 2)) < 12) ∧ ((G 1 (m + 6) (G 1 (m + 1) (x2 / 2))) ≠ (-1) → (inI ((G 1 (m + 6) (G 1 (m + 2) (x2 / 2))) + (G 1 (m + 3) (x2 / 2)))))))) ∧ ((x2 % 2) = 0 → (0 ≤ (x2 / 2) ∧ (x2 / 2) < 20) ∧ ((G 1 (m + 4) (x2 / 2)) = 0 → (0 ≤ (G 1 (m + 1) (x2 / 2)) ∧ (G 1 (m + 1) (x2 / 2)) < 12) ∧ ((G 1 (m + 6) (G 1 (m + 1) (x2 / 2))) ≠ (-1) → (0 ≤ (G 1 (m + 2) (x2 / 2)) ∧ (G 1 (m + 2) (x2 / 2)) < 12) ∧ ((G 1 (m + 6) (G 1 (m + 2) (x2 / 2))) ≠ (-1) → (inI ((G 1 (m + 6) (G 1 (m + 1) (x2 / 2))) + (G 1 (m + 3) (x2 / 2)))))))))))) ∧ (((x2 < (2 * (G 784 (m + 0) 0)) ∧ (x2 % 2) ≠ 0 ∧ (G 1 (m + 4) (x2 / 2)) = 0 ∧ (G 1 (m + 6) (G 1 (m + 2) (x2 / 2))) ≠ (-1) ∧ (G 1 (m + 6) (G 1 (m + 1) (x2 / 2))) = (-1)) ∨ (x2 < (2 * (G 784 (m + 0) 0)) ∧ (x2 % 2) ≠ 0 ∧ (G 1 (m + 4) (x2 / 2)) = 0 ∧ (G 1 (m + 6) (G 1 (m + 2) (x2 / 2))) ≠ (-1) ∧ (G 1 (m + 6) (G 1 (m + 1) (x2 / 2))) ≠ (-1) ∧ ((G 1 (m + 6) (G 1 (m + 2) (x2 / 2))) + (G 1 (m + 3) (x2 / 2))) < (G 1 (m + 6) (G 1 (m + 1) (x2 / 2))))) → (0 ≤ (G 1 (m + 2) (x2 / 2)) ∧ (G 1 (m + 2) (x2 / 2)) < 12) ∧ ((0 ≤ (x2 / 2) ∧ (x2 / 2) < 20) ∧ ((inI ((G 1 (m + 6) (G 1 (m + 2) (x2 / 2))) + (G 1 (m + 3) (x2 / 2)))) ∧ ((0 ≤ (G 1 (m + 1) (x2 / 2)) ∧ (G 1 (m + 1) (x2 / 2)) < 12) ∧ (∀ G40 : gH, G40 = gU G 1 (m + 6) (G 1 (m + 1) (x2 / 2)) ((G 1 (m + 6) (G 1 (m + 2) (x2 / 2))) + (G 1 (m + 3) (x2 / 2))) → (inI (x2 + 1)) ∧ EX e b m m_M_ways Z kc ks 39 [(2, (m + 0)), (0, 1), (0, (x2 + 1)), (9, 0), (9, 0), (9, 0)] [] G40))))) ∧ (((x2 < (2 * (G 784 (m + 0) 0)) ∧ (x2 % 2) = 0 ∧ (G 1 (m + 4) (x2 / 2)) = 0 ∧ (G 1 (m + 6) (G 1 (m + 1) (x2 / 2))) ≠ (-1) ∧ (G 1 (m + 6) (G 1 (m + 2) (x2 / 2))) = (-1)) ∨ (x2 < (2 * (G 784 (m + 0) 0)) ∧ (x2 % 2) = 0 ∧ (G 1 (m + 4) (x2 / 2)) = 0 ∧ (G 1 (m + 6) (G 1 (m + 1) (x2 / 2))) ≠ (-1) ∧ (G 1 (m + 6) (G 1 (m + 2) (x2 / 2))) ≠ (-1) ∧ ((G 1 (m + 6) (G 1 (m + 1) (x2 / 2))) + (G 1 (m + 3) (x2 / 2))) < (G 1 (m + 6) (G 1 (m + 2) (x2 / 2))))) → (0 ≤ (G 1 (m + 1) (x2 / 2)) ∧ (G 1 (m + 1) (x2 / 2)) < 12) ∧ ((0 ≤ (x2 / 2) ∧ (x2 / 2) < 20) ∧ ((inI ((G 1 (m + 6) (G 1 (m + 1) (x2 / 2))) + (G 1 (m + 3) (x2 / 2)))) ∧ ((0 ≤ (G 1 (m + 2) (x2 / 2)) ∧ (G 1 (m + 2) (x2 / 2)) < 12) ∧ (∀ G47 : gH, G47 = gU G 1 (m + 6) (G 1 (m + 2) (x2 / 2)) ((G 1 (m + 6) (G 1 (m + 1) (x2 / 2))) + (G 1 (m + 3) (x2 / 2))) → (inI (x2 + 1)) ∧ EX e b m m_M_ways Z kc ks 39 [(2, (m + 0)), (0, 1), (0, (x2 + 1)), (9, 0), (9, 0), (9, 0)] [] G47))))) ∧ (((x2 < (2 * (G 784 (m + 0) 0)) ∧ (x2 % 2) ≠ 0 ∧ (G 1 (m + 4) (x2 / 2)) ≠ 0) ∨ (x2 < (2 * (G 784 (m + 0) 0)) ∧ (x2 % 2) ≠ 0 ∧ (G 1 (m + 4) (x2 / 2)) = 0 ∧ (G 1 (m + 6) (G 1 (m + 2) (x2 / 2))) ≠ (-1) ∧ (G 1 (m + 6) (G 1 (m + 1) (x2 / 2))) ≠ (-1) ∧ (G 1 (m + 6) (G 1 (m + 1) (x2 / 2))) ≤ ((G 1 (m + 6) (G 1 (m + 2) (x2 / 2))) + (G 1 (m + 3) (x2 / 2)))) ∨ (x2 < (2 * (G 784 (m + 0) 0)) ∧ (x2 % 2) ≠ 0 ∧ (G 1 (m + 4) (x2 / 2)) = 0 ∧ (G 1 (m + 6) (G 1 (m + 2) (x2 / 2))) = (-1))) → (inI (x2 + 1)) ∧ EX e b m m_M_ways Z kc ks 39 [(2, (m + 0)), (0, x1), (0, (x2 + 1)), (9, 0), (9, 0), (9, 0)] [] G) ∧ (((x2 < (2 * (G 784 (m + 0) 0)) ∧ (x2 % 2) = 0 ∧ (G 1 (m + 4) (x2 / 2)) ≠ 0) ∨ (x2 < (2 * (G 784 (m + 0) 0)) ∧ (x2 % 2) = 0 ∧ (G 1 (m + 4) (x2 / 2)) = 0 ∧ (G 1 (m + 6) (G 1 (m + 1) (x2 / 2))) ≠ (-1) ∧ (G 1 (m + 6) (G 1 (m + 2) (x2 / 2))) ≠ (-1) ∧ (G 1 (m + 6) (G 1 (m + 2) (x2 / 2))) ≤ ((G 1 (m + 6) (G 1 (m + 1) (x2 / 2))) + (G 1 (m + 3) (x2 / 2)))) ∨ (x2 < (2 * (G 784 (m + 0) 0)) ∧ (x2 % 2) = 0 ∧ (G 1 (m + 4) (x2 / 2)) = 0 ∧ (G 1 (m + 6) (G 1 (m + 1) (x2 / 2))) = (-1))) → (inI (x2 + 1)) ∧ EX e b m m_M_ways Z kc ks 39 [(2, (m + 0)), (0, x1), (0, (x2 + 1)), (9, 0), (9, 0), (9, 0)] [] G)) : EX e b m m_M_ways Z kc ks 39 [(2, (m + 0)), (0, x1), (0, x2), (9, 0), (9, 0), (9, 0)] [] G := by
  obtain ⟨h, hJ35, hJ42, hJ49, hJ51⟩ := h
  have kJ51 : ((x2 < (2 * (G 784 (m + 0) 0)) ∧ (x2 % 2) = 0 ∧ (G 1 (m + 4) (x2 / 2)) ≠ 0) ∨ (x2 < (2 * (G 784 (m + 0) 0)) ∧ (x2 % 2) = 0 ∧ (G 1 (m + 4) (x2 / 2)) = 0 ∧ (G 1 (m + 6) (G 1 (m + 1) (x2 / 2))) ≠ (-1) ∧ (G 1 (m + 6) (G 1 (m + 2) (x2 / 2))) ≠ (-1) ∧ (G 1 (m + 6) (G 1 (m + 2) (x2 / 2))) ≤ ((G 1 (m + 6) (G 1 (m + 1) (x2 / 2))) + (G 1 (m + 3) (x2 / 2)))) ∨ (x2 < (2 * (G 784 (m + 0) 0)) ∧ (x2 % 2) = 0 ∧ (G 1 (m + 4) (x2 / 2)) = 0 ∧ (G 1 (m + 6) (G 1 (m + 1) (x2 / 2))) = (-1))) → EX e b m m_M_ways Z kc ks 180 [(2, (m + 0)), (0, x1), (0, x2), (0, (x2 / 2)), (0, (G 1 (m + 1) (x2 / 2))), (0, (G 1 (m + 2) (x2 / 2)))] [] G := by
    intro rJ51
    have h := hJ51 rJ51
    obtain ⟨o52, h⟩ := h
    refine e_iinc (ls' := [(2, (m + 0)), (0, x1), (0, (x2 + 1)), (0, (x2 / 2)), (0, (G 1 (m + 1) (x2 / 2))), (0, (G 1 (m + 2) (x2 / 2)))]) d_M_ways_180 rfl (by decide) o52 rfl ?_
    refine e_goto (tgt := 39) d_M_ways_183 (by decide) ?_
    exact e_forget (ls' := [(2, (m + 0)), (0, x1), (0, (x2 + 1)), (9, 0), (9, 0), (9, 0)]) ⟨Or.inr rfl, Or.inr rfl, Or.inr rfl, Or.inl rfl, Or.inl rfl, Or.inl rfl, trivial⟩ h
  have kJ49 : ((x2 < (2 * (G 784 (m + 0) 0)) ∧ (x2 % 2) ≠ 0 ∧ (G 1 (m + 4) (x2 / 2)) ≠ 0) ∨ (x2 < (2 * (G 784 (m + 0) 0)) ∧ (x2 % 2) ≠ 0 ∧ (G 1 (m + 4) (x2 / 2)) = 0 ∧ (G 1 (m + 6) (G 1 (m + 2) (x2 / 2))) ≠ (-1) ∧ (G 1 (m + 6) (G 1 (m + 1) (x2 / 2))) ≠ (-1) ∧ (G 1 (m + 6) (G 1 (m + 1) (x2 / 2))) ≤ ((G 1 (m + 6) (G 1 (m + 2) (x2 / 2))) + (G 1 (m + 3) (x2 / 2)))) ∨ (x2 < (2 * (G 784 (m + 0) 0)) ∧ (x2 % 2) ≠ 0 ∧ (G 1 (m + 4) (x2 / 2)) = 0 ∧ (G 1 (m + 6) (G 1 (m + 2) (x2 / 2))) = (-1))) → EX e b m m_M_ways Z kc ks 180 [(2, (m + 0)), (0, x1), (0, x2), (0, (x2 / 2)), (0, (G 1 (m + 2) (x2 / 2))), (0, (G 1 (m + 1) (x2 / 2)))] [] G := by
    intro rJ49
    have h := hJ49 rJ49
    obtain ⟨o50, h⟩ := h
    refine e_iinc (ls' := [(2, (m + 0)), (0, x1), (0, (x2 + 1)), (0, (x2 / 2)), (0, (G 1 (m + 2) (x2 / 2))), (0, (G 1 (m + 1) (x2 / 2)))]) d_M_ways_180 rfl (by decide) o50 rfl ?_
    refine e_goto (tgt := 39) d_M_ways_183 (by decide) ?_
    exact e_forget (ls' := [(2, (m + 0)), (0, x1), (0, (x2 + 1)), (9, 0), (9, 0), (9, 0)]) ⟨Or.inr rfl, Or.inr rfl, Or.inr rfl, Or.inl rfl, Or.inl rfl, Or.inl rfl, trivial⟩ h
  have kJ42 : ((x2 < (2 * (G 784 (m + 0) 0)) ∧ (x2 % 2) = 0 ∧ (G 1 (m + 4) (x2 / 2)) = 0 ∧ (G 1 (m + 6) (G 1 (m + 1) (x2 / 2))) ≠ (-1) ∧ (G 1 (m + 6) (G 1 (m + 2) (x2 / 2))) = (-1)) ∨ (x2 < (2 * (G 784 (m + 0) 0)) ∧ (x2 % 2) = 0 ∧ (G 1 (m + 4) (x2 / 2)) = 0 ∧ (G 1 (m + 6) (G 1 (m + 1) (x2 / 2))) ≠ (-1) ∧ (G 1 (m + 6) (G 1 (m + 2) (x2 / 2))) ≠ (-1) ∧ ((G 1 (m + 6) (G 1 (m + 1) (x2 / 2))) + (G 1 (m + 3) (x2 / 2))) < (G 1 (m + 6) (G 1 (m + 2) (x2 / 2))))) → EX e b m m_M_ways Z kc ks 157 [(2, (m + 0)), (0, x1), (0, x2), (0, (x2 / 2)), (0, (G 1 (m + 1) (x2 / 2))), (0, (G 1 (m + 2) (x2 / 2)))] [] G := by
    intro rJ42
    have h := hJ42 rJ42
    refine e_aload_n d_M_ways_157 rfl ?_
    refine gx_M_30 d_M_ways_158 rfl ?_
    refine e_iload d_M_ways_161 rfl ?_
    refine e_aload_n d_M_ways_163 rfl ?_
    refine gx_M_30 d_M_ways_164 rfl ?_
    refine e_iload d_M_ways_167 rfl ?_
    obtain ⟨o43, h⟩ := h
    refine xM_iald 6 rfl d_M_ways_169 o43 ?_
    refine e_aload_n d_M_ways_170 rfl ?_
    refine gx_M_20 d_M_ways_171 rfl ?_
    refine e_iload_n d_M_ways_174 rfl ?_
    obtain ⟨o44, h⟩ := h
    refine xM_iald 3 rfl d_M_ways_175 o44 ?_
    obtain ⟨o45, h⟩ := h
    refine e_iadd d_M_ways_176 o45 ?_
    obtain ⟨o46, h⟩ := h
    refine xM_iast 6 rfl d_M_ways_177 o46 ?_
    have h := h _ rfl
    refine e_iconst d_M_ways_178 (by decide) ?_
    refine e_istore_n (ls' := [(2, (m + 0)), (0, 1), (0, x2), (0, (x2 / 2)), (0, (G 1 (m + 1) (x2 / 2))), (0, (G 1 (m + 2) (x2 / 2)))]) d_M_ways_179 (by decide) rfl ?_
    obtain ⟨o48, h⟩ := h
    refine e_iinc (ls' := [(2, (m + 0)), (0, 1), (0, (x2 + 1)), (0, (x2 / 2)), (0, (G 1 (m + 1) (x2 / 2))), (0, (G 1 (m + 2) (x2 / 2)))]) d_M_ways_180 rfl (by decide) o48 rfl ?_
    refine e_goto (tgt := 39) d_M_ways_183 (by decide) ?_
    exact e_forget (ls' := [(2, (m + 0)), (0, 1), (0, (x2 + 1)), (9, 0), (9, 0), (9, 0)]) ⟨Or.inr rfl, Or.inr rfl, Or.inr rfl, Or.inl rfl, Or.inl rfl, Or.inl rfl, trivial⟩ h
  have kJ35 : ((x2 < (2 * (G 784 (m + 0) 0)) ∧ (x2 % 2) ≠ 0 ∧ (G 1 (m + 4) (x2 / 2)) = 0 ∧ (G 1 (m + 6) (G 1 (m + 2) (x2 / 2))) ≠ (-1) ∧ (G 1 (m + 6) (G 1 (m + 1) (x2 / 2))) = (-1)) ∨ (x2 < (2 * (G 784 (m + 0) 0)) ∧ (x2 % 2) ≠ 0 ∧ (G 1 (m + 4) (x2 / 2)) = 0 ∧ (G 1 (m + 6) (G 1 (m + 2) (x2 / 2))) ≠ (-1) ∧ (G 1 (m + 6) (G 1 (m + 1) (x2 / 2))) ≠ (-1) ∧ ((G 1 (m + 6) (G 1 (m + 2) (x2 / 2))) + (G 1 (m + 3) (x2 / 2))) < (G 1 (m + 6) (G 1 (m + 1) (x2 / 2))))) → EX e b m m_M_ways Z kc ks 157 [(2, (m + 0)), (0, x1), (0, x2), (0, (x2 / 2)), (0, (G 1 (m + 2) (x2 / 2))), (0, (G 1 (m + 1) (x2 / 2)))] [] G := by
    intro rJ35
    have h := hJ35 rJ35
    refine e_aload_n d_M_ways_157 rfl ?_
    refine gx_M_30 d_M_ways_158 rfl ?_
    refine e_iload d_M_ways_161 rfl ?_
    refine e_aload_n d_M_ways_163 rfl ?_
    refine gx_M_30 d_M_ways_164 rfl ?_
    refine e_iload d_M_ways_167 rfl ?_
    obtain ⟨o36, h⟩ := h
    refine xM_iald 6 rfl d_M_ways_169 o36 ?_
    refine e_aload_n d_M_ways_170 rfl ?_
    refine gx_M_20 d_M_ways_171 rfl ?_
    refine e_iload_n d_M_ways_174 rfl ?_
    obtain ⟨o37, h⟩ := h
    refine xM_iald 3 rfl d_M_ways_175 o37 ?_
    obtain ⟨o38, h⟩ := h
    refine e_iadd d_M_ways_176 o38 ?_
    obtain ⟨o39, h⟩ := h
    refine xM_iast 6 rfl d_M_ways_177 o39 ?_
    have h := h _ rfl
    refine e_iconst d_M_ways_178 (by decide) ?_
    refine e_istore_n (ls' := [(2, (m + 0)), (0, 1), (0, x2), (0, (x2 / 2)), (0, (G 1 (m + 2) (x2 / 2))), (0, (G 1 (m + 1) (x2 / 2)))]) d_M_ways_179 (by decide) rfl ?_
    obtain ⟨o41, h⟩ := h
    refine e_iinc (ls' := [(2, (m + 0)), (0, 1), (0, (x2 + 1)), (0, (x2 / 2)), (0, (G 1 (m + 2) (x2 / 2))), (0, (G 1 (m + 1) (x2 / 2)))]) d_M_ways_180 rfl (by decide) o41 rfl ?_
    refine e_goto (tgt := 39) d_M_ways_183 (by decide) ?_
    exact e_forget (ls' := [(2, (m + 0)), (0, 1), (0, (x2 + 1)), (9, 0), (9, 0), (9, 0)]) ⟨Or.inr rfl, Or.inr rfl, Or.inr rfl, Or.inl rfl, Or.inl rfl, Or.inl rfl, trivial⟩ h
  refine e_iload_n d_M_ways_39 rfl ?_
  refine e_iconst d_M_ways_40 (by decide) ?_
  refine e_aload_n d_M_ways_41 rfl ?_
  refine gx_M_168 d_M_ways_42 rfl ?_
  obtain ⟨o1, h⟩ := h
  refine e_imul d_M_ways_45 o1 ?_
  refine e_icmp_ge (tgt := 186) d_M_ways_46 (by decide) (fun q2 => ?_) (fun q3 => ?_)
  · have h := h.1 q2
    refine e_goto (tgt := 31) d_M_ways_186 (by decide) ?_
    exact e_forget (ls' := [(2, (m + 0)), (0, x1), (9, 0), (9, 0), (9, 0), (9, 0)]) ⟨Or.inr rfl, Or.inr rfl, Or.inl rfl, Or.inl rfl, Or.inl rfl, Or.inl rfl, trivial⟩ h
  · have h := h.2 q3
    refine e_iload_n d_M_ways_49 rfl ?_
    refine e_iconst d_M_ways_50 (by decide) ?_
    obtain ⟨o4, h⟩ := h
    refine e_idiv d_M_ways_51 o4 (by decide) ?_
    refine e_istore_n (ls' := [(2, (m + 0)), (0, x1), (0, x2), (0, (x2 / 2)), (9, 0), (9, 0)]) d_M_ways_52 (by decide) rfl ?_
    refine e_iload_n d_M_ways_53 rfl ?_
    refine e_iconst d_M_ways_54 (by decide) ?_
    refine e_irem d_M_ways_55 o4 (by decide) ?_
    refine e_if_ne (tgt := 68) d_M_ways_56 (by decide) (fun q5 => ?_) (fun q6 => ?_)
    · have h := h.1 q5
      refine e_aload_n d_M_ways_68 rfl ?_
      refine gx_M_17 d_M_ways_69 rfl ?_
      refine e_iload_n d_M_ways_72 rfl ?_
      obtain ⟨o7, h⟩ := h
      refine xM_iald 2 rfl d_M_ways_73 o7 ?_
      refine e_istore (ls' := [(2, (m + 0)), (0, x1), (0, x2), (0, (x2 / 2)), (0, (G 1 (m + 2) (x2 / 2))), (9, 0)]) d_M_ways_74 (by decide) rfl ?_
      refine e_iload_n d_M_ways_76 rfl ?_
      refine e_iconst d_M_ways_77 (by decide) ?_
      refine e_irem d_M_ways_78 o4 (by decide) ?_
      refine e_if_ne (tgt := 91) d_M_ways_79 (by decide) (fun q9 => ?_) (fun q10 => ?_)
      · refine e_aload_n d_M_ways_91 rfl ?_
        refine gx_M_13 d_M_ways_92 rfl ?_
        refine e_iload_n d_M_ways_95 rfl ?_
        refine xM_iald 1 rfl d_M_ways_96 o7 ?_
        refine e_istore (ls' := [(2, (m + 0)), (0, x1), (0, x2), (0, (x2 / 2)), (0, (G 1 (m + 2) (x2 / 2))), (0, (G 1 (m + 1) (x2 / 2)))]) d_M_ways_97 (by decide) rfl ?_
        refine e_aload_n d_M_ways_99 rfl ?_
        refine gx_M_23 d_M_ways_100 rfl ?_
        refine e_iload_n d_M_ways_103 rfl ?_
        refine xM_zald 4 rfl d_M_ways_104 o7 ?_
        refine e_if_ne (tgt := 180) d_M_ways_105 (by decide) (fun q13 => ?_) (fun q14 => ?_)
        · exact kJ49 (Or.inl ⟨q3, q5, q13⟩)
        · have h := h q14
          refine e_aload_n d_M_ways_108 rfl ?_
          refine gx_M_30 d_M_ways_109 rfl ?_
          refine e_iload d_M_ways_112 rfl ?_
          obtain ⟨o15, h⟩ := h
          refine xM_iald 6 rfl d_M_ways_114 o15 ?_
          refine e_iconst d_M_ways_115 (by decide) ?_
          refine e_icmp_ne (tgt := 122) d_M_ways_116 (by decide) (fun q16 => ?_) (fun q17 => ?_)
          · have h := h q16
            refine e_aload_n d_M_ways_122 rfl ?_
            refine gx_M_30 d_M_ways_123 rfl ?_
            refine e_iload d_M_ways_126 rfl ?_
            obtain ⟨o18, h⟩ := h
            refine xM_iald 6 rfl d_M_ways_128 o18 ?_
            refine e_iconst d_M_ways_129 (by decide) ?_
            refine e_icmp_eq (tgt := 157) d_M_ways_130 (by decide) (fun q19 => ?_) (fun q20 => ?_)
            · exact kJ35 (Or.inl ⟨q3, q5, q14, q16, q19⟩)
            · have h := h q20
              refine e_aload_n d_M_ways_133 rfl ?_
              refine gx_M_30 d_M_ways_134 rfl ?_
              refine e_iload d_M_ways_137 rfl ?_
              refine xM_iald 6 rfl d_M_ways_139 o18 ?_
              refine e_aload_n d_M_ways_140 rfl ?_
              refine gx_M_30 d_M_ways_141 rfl ?_
              refine e_iload d_M_ways_144 rfl ?_
              refine xM_iald 6 rfl d_M_ways_146 o15 ?_
              refine e_aload_n d_M_ways_147 rfl ?_
              refine gx_M_20 d_M_ways_148 rfl ?_
              refine e_iload_n d_M_ways_151 rfl ?_
              refine xM_iald 3 rfl d_M_ways_152 o7 ?_
              have o21 := h
              refine e_iadd d_M_ways_153 o21 ?_
              refine e_icmp_le (tgt := 180) d_M_ways_154 (by decide) (fun q22 => ?_) (fun q23 => ?_)
              · exact kJ49 (Or.inr (Or.inl ⟨q3, q5, q14, q16, q20, q22⟩))
              · exact kJ35 (Or.inr ⟨q3, q5, q14, q16, q20, q23⟩)
          · refine e_goto (tgt := 180) d_M_ways_119 (by decide) ?_
            exact kJ49 (Or.inr (Or.inr ⟨q3, q5, q14, q17⟩))
      · exact absurd q5 (by omega)
    · have h := h.2 q6
      refine e_aload_n d_M_ways_59 rfl ?_
      refine gx_M_13 d_M_ways_60 rfl ?_
      refine e_iload_n d_M_ways_63 rfl ?_
      obtain ⟨o8, h⟩ := h
      refine xM_iald 1 rfl d_M_ways_64 o8 ?_
      refine e_goto (tgt := 74) d_M_ways_65 (by decide) ?_
      refine e_istore (ls' := [(2, (m + 0)), (0, x1), (0, x2), (0, (x2 / 2)), (0, (G 1 (m + 1) (x2 / 2))), (9, 0)]) d_M_ways_74 (by decide) rfl ?_
      refine e_iload_n d_M_ways_76 rfl ?_
      refine e_iconst d_M_ways_77 (by decide) ?_
      refine e_irem d_M_ways_78 o4 (by decide) ?_
      refine e_if_ne (tgt := 91) d_M_ways_79 (by decide) (fun q11 => ?_) (fun q12 => ?_)
      · exact absurd q6 (by omega)
      · refine e_aload_n d_M_ways_82 rfl ?_
        refine gx_M_17 d_M_ways_83 rfl ?_
        refine e_iload_n d_M_ways_86 rfl ?_
        refine xM_iald 2 rfl d_M_ways_87 o8 ?_
        refine e_goto (tgt := 97) d_M_ways_88 (by decide) ?_
        refine e_istore (ls' := [(2, (m + 0)), (0, x1), (0, x2), (0, (x2 / 2)), (0, (G 1 (m + 1) (x2 / 2))), (0, (G 1 (m + 2) (x2 / 2)))]) d_M_ways_97 (by decide) rfl ?_
        refine e_aload_n d_M_ways_99 rfl ?_
        refine gx_M_23 d_M_ways_100 rfl ?_
        refine e_iload_n d_M_ways_103 rfl ?_
        refine xM_zald 4 rfl d_M_ways_104 o8 ?_
        refine e_if_ne (tgt := 180) d_M_ways_105 (by decide) (fun q24 => ?_) (fun q25 => ?_)
        · exact kJ51 (Or.inl ⟨q3, q6, q24⟩)
        · have h := h q25
          refine e_aload_n d_M_ways_108 rfl ?_
          refine gx_M_30 d_M_ways_109 rfl ?_
          refine e_iload d_M_ways_112 rfl ?_
          obtain ⟨o26, h⟩ := h
          refine xM_iald 6 rfl d_M_ways_114 o26 ?_
          refine e_iconst d_M_ways_115 (by decide) ?_
          refine e_icmp_ne (tgt := 122) d_M_ways_116 (by decide) (fun q27 => ?_) (fun q28 => ?_)
          · have h := h q27
            refine e_aload_n d_M_ways_122 rfl ?_
            refine gx_M_30 d_M_ways_123 rfl ?_
            refine e_iload d_M_ways_126 rfl ?_
            obtain ⟨o29, h⟩ := h
            refine xM_iald 6 rfl d_M_ways_128 o29 ?_
            refine e_iconst d_M_ways_129 (by decide) ?_
            refine e_icmp_eq (tgt := 157) d_M_ways_130 (by decide) (fun q30 => ?_) (fun q31 => ?_)
            · exact kJ42 (Or.inl ⟨q3, q6, q25, q27, q30⟩)
            · have h := h q31
              refine e_aload_n d_M_ways_133 rfl ?_
              refine gx_M_30 d_M_ways_134 rfl ?_
              refine e_iload d_M_ways_137 rfl ?_
              refine xM_iald 6 rfl d_M_ways_139 o29 ?_
              refine e_aload_n d_M_ways_140 rfl ?_
              refine gx_M_30 d_M_ways_141 rfl ?_
              refine e_iload d_M_ways_144 rfl ?_
              refine xM_iald 6 rfl d_M_ways_146 o26 ?_
              refine e_aload_n d_M_ways_147 rfl ?_
              refine gx_M_20 d_M_ways_148 rfl ?_
              refine e_iload_n d_M_ways_151 rfl ?_
              refine xM_iald 3 rfl d_M_ways_152 o8 ?_
              have o32 := h
              refine e_iadd d_M_ways_153 o32 ?_
              refine e_icmp_le (tgt := 180) d_M_ways_154 (by decide) (fun q33 => ?_) (fun q34 => ?_)
              · exact kJ51 (Or.inr (Or.inl ⟨q3, q6, q25, q27, q31, q33⟩))
              · exact kJ42 (Or.inr ⟨q3, q6, q25, q27, q31, q34⟩)
          · refine e_goto (tgt := 180) d_M_ways_119 (by decide) ?_
            exact kJ51 (Or.inr (Or.inr ⟨q3, q6, q25, q28⟩))
set_option maxRecDepth 20000 in
set_option maxHeartbeats 4000000 in
theorem sg_M_puts_0 {e : gE} {b : Nat} {m : Int} {Z : Int → gH → Prop} {kc ks : Nat} {G : gH} {p1 p2 p3 p4 p5 : Int} (h : (0 ≤ (G 785 (m + 0) 0) ∧ (G 785 (m + 0) 0) < 16) ∧ (∀ G2 : gH, G2 = gU G 1 (m + 7) (G 785 (m + 0) 0) p1 → (0 ≤ (G2 785 (m + 0) 0) ∧ (G2 785 (m + 0) 0) < 16) ∧ (∀ G4 : gH, G4 = gU G2 1 (m + 8) (G2 785 (m + 0) 0) p2 → (0 ≤ (G4 785 (m + 0) 0) ∧ (G4 785 (m + 0) 0) < 16) ∧ (∀ G6 : gH, G6 = gU G4 1 (m + 9) (G4 785 (m + 0) 0) p3 → (0 ≤ (G6 785 (m + 0) 0) ∧ (G6 785 (m + 0) 0) < 16) ∧ (∀ G8 : gH, G8 = gU G6 1 (m + 10) (G6 785 (m + 0) 0) p5 → (inI (100 + p4)) ∧ ((0 ≤ (G8 785 (m + 0) 0) ∧ (G8 785 (m + 0) 0) < 16) ∧ (∀ G11 : gH, G11 = gU G8 1 (m + 11) (G8 785 (m + 0) 0) (100 + p4) → (0 ≤ (G11 785 (m + 0) 0) ∧ (G11 785 (m + 0) 0) < 16) ∧ (∀ G13 : gH, G13 = gU G11 1 (m + 14) (G11 785 (m + 0) 0) (-1) → (inI ((G13 785 (m + 0) 0) + 1)) ∧ (∀ G15 : gH, G15 = gU G13 785 (m + 0) 0 ((G13 785 (m + 0) 0) + 1) → Z (G13 785 (m + 0) 0) G15))))))))) : EX e b m m_M_puts Z kc ks 0 [(2, (m + 0)), (0, p1), (0, p2), (0, p3), (0, p4), (0, p5)] [] G := by
  refine e_aload_n d_M_puts_0 rfl ?_
  refine gx_M_33 d_M_puts_1 rfl ?_
  refine e_aload_n d_M_puts_4 rfl ?_
  refine gx_M_151 d_M_puts_5 rfl ?_
  refine e_iload_n d_M_puts_8 rfl ?_
  obtain ⟨o1, h⟩ := h
  refine xM_iast 7 rfl d_M_puts_9 o1 ?_
  have h := h _ rfl
  refine e_aload_n d_M_puts_10 rfl ?_
  refine gx_M_36 d_M_puts_11 rfl ?_
  refine e_aload_n d_M_puts_14 rfl ?_
  refine gx_M_151 d_M_puts_15 rfl ?_
  refine e_iload_n d_M_puts_18 rfl ?_
  obtain ⟨o3, h⟩ := h
  refine xM_iast 8 rfl d_M_puts_19 o3 ?_
  have h := h _ rfl
  refine e_aload_n d_M_puts_20 rfl ?_
  refine gx_M_39 d_M_puts_21 rfl ?_
  refine e_aload_n d_M_puts_24 rfl ?_
  refine gx_M_151 d_M_puts_25 rfl ?_
  refine e_iload_n d_M_puts_28 rfl ?_
  obtain ⟨o5, h⟩ := h
  refine xM_iast 9 rfl d_M_puts_29 o5 ?_
  have h := h _ rfl
  refine e_aload_n d_M_puts_30 rfl ?_
  refine gx_M_42 d_M_puts_31 rfl ?_
  refine e_aload_n d_M_puts_34 rfl ?_
  refine gx_M_151 d_M_puts_35 rfl ?_
  refine e_iload d_M_puts_38 rfl ?_
  obtain ⟨o7, h⟩ := h
  refine xM_iast 10 rfl d_M_puts_40 o7 ?_
  have h := h _ rfl
  refine e_aload_n d_M_puts_41 rfl ?_
  refine gx_M_45 d_M_puts_42 rfl ?_
  refine e_aload_n d_M_puts_45 rfl ?_
  refine gx_M_151 d_M_puts_46 rfl ?_
  refine e_bipush d_M_puts_49 (by decide) (by decide) ?_
  refine e_iload d_M_puts_51 rfl ?_
  obtain ⟨o9, h⟩ := h
  refine e_iadd d_M_puts_53 o9 ?_
  obtain ⟨o10, h⟩ := h
  refine xM_iast 11 rfl d_M_puts_54 o10 ?_
  have h := h _ rfl
  refine e_aload_n d_M_puts_55 rfl ?_
  refine gx_M_54 d_M_puts_56 rfl ?_
  refine e_aload_n d_M_puts_59 rfl ?_
  refine gx_M_151 d_M_puts_60 rfl ?_
  refine e_iconst d_M_puts_63 (by decide) ?_
  obtain ⟨o12, h⟩ := h
  refine xM_iast 14 rfl d_M_puts_64 o12 ?_
  have h := h _ rfl
  refine e_aload_n d_M_puts_65 rfl ?_
  refine e_dup d_M_puts_66 (by simp) ?_
  refine gx_M_151 d_M_puts_67 rfl ?_
  refine e_dup_x1 d_M_puts_70 (by simp) (by simp) ?_
  refine e_iconst d_M_puts_71 (by decide) ?_
  obtain ⟨o14, h⟩ := h
  refine e_iadd d_M_puts_72 o14 ?_
  refine px_M_151 d_M_puts_73 rfl ?_
  have h := h _ rfl
  exact e_iret d_M_puts_76 rfl h
set_option maxRecDepth 20000 in
set_option maxHeartbeats 4000000 in
theorem sg_M_inRooms_0 {e : gE} {b : Nat} {m : Int} {Z : Int → gH → Prop} {kc ks : Nat} {G : gH} (h : EX e b m m_M_inRooms Z kc ks 4 [(2, (m + 0)), (0, 0), (0, 0)] [] G) : EX e b m m_M_inRooms Z kc ks 0 [(2, (m + 0)), (9, 0), (9, 0)] [] G := by
  refine e_iconst d_M_inRooms_0 (by decide) ?_
  refine e_istore_n (ls' := [(2, (m + 0)), (0, 0), (9, 0)]) d_M_inRooms_1 (by decide) rfl ?_
  refine e_iconst d_M_inRooms_2 (by decide) ?_
  refine e_istore_n (ls' := [(2, (m + 0)), (0, 0), (0, 0)]) d_M_inRooms_3 (by decide) rfl ?_
  exact e_forget (ls' := [(2, (m + 0)), (0, 0), (0, 0)]) ⟨Or.inr rfl, Or.inr rfl, Or.inr rfl, trivial⟩ h
set_option maxRecDepth 20000 in
set_option maxHeartbeats 4000000 in
theorem sg_M_inRooms_4 {e : gE} {b : Nat} {m : Int} {Z : Int → gH → Prop} {kc ks : Nat} {G : gH} {x1 x2 : Int} (h : ((G 785 (m + 0) 0) ≤ x2 → Z x1 G) ∧ (x2 < (G 785 (m + 0) 0) → (0 ≤ x2 ∧ x2 < 16) ∧ (((¬ (mIn m G x2)) → (inI (x2 + 1)) ∧ EX e b m m_M_inRooms Z kc ks 4 [(2, (m + 0)), (0, x1), (0, (x2 + 1))] [] G) ∧ (mIn m G x2 → (inI (x1 + 1)) ∧ (inI (x2 + 1)) ∧ EX e b m m_M_inRooms Z kc ks 4 [(2, (m + 0)), (0, (x1 + 1)), (0, (x2 + 1))] [] G)))) : EX e b m m_M_inRooms Z kc ks 4 [(2, (m + 0)), (0, x1), (0, x2)] [] G := by
  refine e_iload_n d_M_inRooms_4 rfl ?_
  refine e_aload_n d_M_inRooms_5 rfl ?_
  refine gx_M_151 d_M_inRooms_6 rfl ?_
  refine e_icmp_ge (tgt := 29) d_M_inRooms_9 (by decide) (fun q1 => ?_) (fun q2 => ?_)
  · have h := h.1 q1
    refine e_iload_n d_M_inRooms_29 rfl ?_
    exact e_iret d_M_inRooms_30 rfl h
  · have h := h.2 q2
    refine e_aload_n d_M_inRooms_12 rfl ?_
    refine e_iload_n d_M_inRooms_13 rfl ?_
    refine EV.inv fun hFf3 => ?_
    have f3 := (fx_mt 0 rfl hFf3).1
    obtain ⟨o4, h⟩ := h
    refine e_callV m_M_isInRoom 12 lw_good d_M_inRooms_14 (k_M_isInRoom _) ⟨Nat.le_of_ble_eq_true rfl, Nat.le_of_ble_eq_true rfl⟩ w_1624 w_1626 w_s50 (q_M _) rfl f3 (args := [(0, x2)]) rfl rfl (Nat.le_of_ble_eq_true rfl) (kc' := kc) (ks' := ks) (mc := 0) (ms := 0) rfl rfl (c_M_isInRoom o4) (pureK ?_)
    refine e_if_eq (tgt := 23) d_M_inRooms_17 (by decide) (fun q5 => ?_) (fun q6 => ?_)
    · replace q5 := gb0.mp q5
      have h := h.1 q5
      obtain ⟨o8, h⟩ := h
      refine e_iinc (ls' := [(2, (m + 0)), (0, x1), (0, (x2 + 1))]) d_M_inRooms_23 rfl (by decide) o8 rfl ?_
      refine e_goto (tgt := 4) d_M_inRooms_26 (by decide) ?_
      exact e_forget (ls' := [(2, (m + 0)), (0, x1), (0, (x2 + 1))]) ⟨Or.inr rfl, Or.inr rfl, Or.inr rfl, trivial⟩ h
    · replace q6 := gb1.mp q6
      have h := h.2 q6
      obtain ⟨o7, h⟩ := h
      refine e_iinc (ls' := [(2, (m + 0)), (0, (x1 + 1)), (0, x2)]) d_M_inRooms_20 rfl (by decide) o7 rfl ?_
      obtain ⟨o9, h⟩ := h
      refine e_iinc (ls' := [(2, (m + 0)), (0, (x1 + 1)), (0, (x2 + 1))]) d_M_inRooms_23 rfl (by decide) o9 rfl ?_
      refine e_goto (tgt := 4) d_M_inRooms_26 (by decide) ?_
      exact e_forget (ls' := [(2, (m + 0)), (0, (x1 + 1)), (0, (x2 + 1))]) ⟨Or.inr rfl, Or.inr rfl, Or.inr rfl, trivial⟩ h
