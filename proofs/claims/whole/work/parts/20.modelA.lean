/-! THE REFERENCE, 1: small reads -/
set_option maxRecDepth 20000 in
set_option maxHeartbeats 4000000 in
theorem sg_M_isThing_0 {e : gE} {b : Nat} {m : Int} {Z : Int → gH → Prop} {kc ks : Nat} {G : gH} {p1 : Int} (h : (0 ≤ p1 → (p1 < (G 785 (m + 0) 0) → Z 1 G)) ∧ ((p1 < 0 ∨ (0 ≤ p1 ∧ (G 785 (m + 0) 0) ≤ p1)) → Z 0 G)) : EX e b m m_M_isThing Z kc ks 0 [(2, (m + 0)), (0, p1)] [] G := by
  obtain ⟨h, hJ5⟩ := h
  have kJ5 : (p1 < 0 ∨ (0 ≤ p1 ∧ (G 785 (m + 0) 0) ≤ p1)) → EX e b m m_M_isThing Z kc ks 16 [(2, (m + 0)), (0, p1)] [] G := by
    intro rJ5
    have h := hJ5 rJ5
    refine e_iconst d_M_isThing_16 (by decide) ?_
    exact e_zret .boolean d_M_isThing_17 rfl (by decide) h
  refine e_iload_n d_M_isThing_0 rfl ?_
  refine e_if_lt (tgt := 16) d_M_isThing_1 (by decide) (fun q1 => ?_) (fun q2 => ?_)
  · exact kJ5 (Or.inl q1)
  · have h := h q2
    refine e_iload_n d_M_isThing_4 rfl ?_
    refine e_aload_n d_M_isThing_5 rfl ?_
    refine gx_M_151 d_M_isThing_6 rfl ?_
    refine e_icmp_ge (tgt := 16) d_M_isThing_9 (by decide) (fun q3 => ?_) (fun q4 => ?_)
    · exact kJ5 (Or.inr ⟨q2, q3⟩)
    · have h := h q4
      refine e_iconst d_M_isThing_12 (by decide) ?_
      refine e_goto (tgt := 17) d_M_isThing_13 (by decide) ?_
      exact e_zret .boolean d_M_isThing_17 rfl (by decide) h
set_option maxRecDepth 20000 in
set_option maxHeartbeats 4000000 in
theorem sg_M_isShelf_0 {e : gE} {b : Nat} {m : Int} {Z : Int → gH → Prop} {kc ks : Nat} {G : gH} {p0 : Int} (h : (0 ≤ p0 → (p0 < 8 → Z 1 G)) ∧ ((p0 < 0 ∨ (0 ≤ p0 ∧ 8 ≤ p0)) → Z 0 G)) : EX e b m m_M_isShelf Z kc ks 0 [(0, p0)] [] G := by
  obtain ⟨h, hJ5⟩ := h
  have kJ5 : (p0 < 0 ∨ (0 ≤ p0 ∧ 8 ≤ p0)) → EX e b m m_M_isShelf Z kc ks 14 [(0, p0)] [] G := by
    intro rJ5
    have h := hJ5 rJ5
    refine e_iconst d_M_isShelf_14 (by decide) ?_
    exact e_zret .boolean d_M_isShelf_15 rfl (by decide) h
  refine e_iload_n d_M_isShelf_0 rfl ?_
  refine e_if_lt (tgt := 14) d_M_isShelf_1 (by decide) (fun q1 => ?_) (fun q2 => ?_)
  · exact kJ5 (Or.inl q1)
  · have h := h q2
    refine e_iload_n d_M_isShelf_4 rfl ?_
    refine e_bipush d_M_isShelf_5 (by decide) (by decide) ?_
    refine e_icmp_ge (tgt := 14) d_M_isShelf_7 (by decide) (fun q3 => ?_) (fun q4 => ?_)
    · exact kJ5 (Or.inr ⟨q2, q3⟩)
    · have h := h q4
      refine e_iconst d_M_isShelf_10 (by decide) ?_
      refine e_goto (tgt := 15) d_M_isShelf_11 (by decide) ?_
      exact e_zret .boolean d_M_isShelf_15 rfl (by decide) h
set_option maxRecDepth 20000 in
set_option maxHeartbeats 4000000 in
theorem sg_M_isRoom_0 {e : gE} {b : Nat} {m : Int} {Z : Int → gH → Prop} {kc ks : Nat} {G : gH} {p0 : Int} (h : (0 ≤ p0 → (p0 < 12 → Z 1 G)) ∧ ((p0 < 0 ∨ (0 ≤ p0 ∧ 12 ≤ p0)) → Z 0 G)) : EX e b m m_M_isRoom Z kc ks 0 [(0, p0)] [] G := by
  obtain ⟨h, hJ5⟩ := h
  have kJ5 : (p0 < 0 ∨ (0 ≤ p0 ∧ 12 ≤ p0)) → EX e b m m_M_isRoom Z kc ks 14 [(0, p0)] [] G := by
    intro rJ5
    have h := hJ5 rJ5
    refine e_iconst d_M_isRoom_14 (by decide) ?_
    exact e_zret .boolean d_M_isRoom_15 rfl (by decide) h
  refine e_iload_n d_M_isRoom_0 rfl ?_
  refine e_if_lt (tgt := 14) d_M_isRoom_1 (by decide) (fun q1 => ?_) (fun q2 => ?_)
  · exact kJ5 (Or.inl q1)
  · have h := h q2
    refine e_iload_n d_M_isRoom_4 rfl ?_
    refine e_bipush d_M_isRoom_5 (by decide) (by decide) ?_
    refine e_icmp_ge (tgt := 14) d_M_isRoom_7 (by decide) (fun q3 => ?_) (fun q4 => ?_)
    · exact kJ5 (Or.inr ⟨q2, q3⟩)
    · have h := h q4
      refine e_iconst d_M_isRoom_10 (by decide) ?_
      refine e_goto (tgt := 15) d_M_isRoom_11 (by decide) ?_
      exact e_zret .boolean d_M_isRoom_15 rfl (by decide) h
set_option maxRecDepth 20000 in
set_option maxHeartbeats 4000000 in
theorem sg_M_isPlace_0 {e : gE} {b : Nat} {m : Int} {Z : Int → gH → Prop} {kc ks : Nat} {G : gH} {p1 : Int} (h : (0 ≤ p1 → (p1 < (G 787 (m + 0) 0) → Z 1 G)) ∧ ((p1 < 0 ∨ (0 ≤ p1 ∧ (G 787 (m + 0) 0) ≤ p1)) → Z 0 G)) : EX e b m m_M_isPlace Z kc ks 0 [(2, (m + 0)), (0, p1)] [] G := by
  obtain ⟨h, hJ5⟩ := h
  have kJ5 : (p1 < 0 ∨ (0 ≤ p1 ∧ (G 787 (m + 0) 0) ≤ p1)) → EX e b m m_M_isPlace Z kc ks 16 [(2, (m + 0)), (0, p1)] [] G := by
    intro rJ5
    have h := hJ5 rJ5
    refine e_iconst d_M_isPlace_16 (by decide) ?_
    exact e_zret .boolean d_M_isPlace_17 rfl (by decide) h
  refine e_iload_n d_M_isPlace_0 rfl ?_
  refine e_if_lt (tgt := 16) d_M_isPlace_1 (by decide) (fun q1 => ?_) (fun q2 => ?_)
  · exact kJ5 (Or.inl q1)
  · have h := h q2
    refine e_iload_n d_M_isPlace_4 rfl ?_
    refine e_aload_n d_M_isPlace_5 rfl ?_
    refine gx_M_154 d_M_isPlace_6 rfl ?_
    refine e_icmp_ge (tgt := 16) d_M_isPlace_9 (by decide) (fun q3 => ?_) (fun q4 => ?_)
    · exact kJ5 (Or.inr ⟨q2, q3⟩)
    · have h := h q4
      refine e_iconst d_M_isPlace_12 (by decide) ?_
      refine e_goto (tgt := 17) d_M_isPlace_13 (by decide) ?_
      exact e_zret .boolean d_M_isPlace_17 rfl (by decide) h
set_option maxRecDepth 20000 in
set_option maxHeartbeats 4000000 in
theorem sg_M_isInRoom_0 {e : gE} {b : Nat} {m : Int} {Z : Int → gH → Prop} {kc ks : Nat} {G : gH} {p1 : Int} (h : ((0 ≤ p1 ∧ p1 < 16) ∧ (100 ≤ (G 1 (m + 11) p1) → ((G 1 (m + 11) p1) < 200 → Z 1 G))) ∧ (((G 1 (m + 11) p1) < 100 ∨ (100 ≤ (G 1 (m + 11) p1) ∧ 200 ≤ (G 1 (m + 11) p1))) → Z 0 G)) : EX e b m m_M_isInRoom Z kc ks 0 [(2, (m + 0)), (0, p1)] [] G := by
  obtain ⟨h, hJ6⟩ := h
  have kJ6 : ((G 1 (m + 11) p1) < 100 ∨ (100 ≤ (G 1 (m + 11) p1) ∧ 200 ≤ (G 1 (m + 11) p1))) → EX e b m m_M_isInRoom Z kc ks 27 [(2, (m + 0)), (0, p1)] [] G := by
    intro rJ6
    have h := hJ6 rJ6
    refine e_iconst d_M_isInRoom_27 (by decide) ?_
    exact e_zret .boolean d_M_isInRoom_28 rfl (by decide) h
  refine e_aload_n d_M_isInRoom_0 rfl ?_
  refine gx_M_45 d_M_isInRoom_1 rfl ?_
  refine e_iload_n d_M_isInRoom_4 rfl ?_
  obtain ⟨o1, h⟩ := h
  refine xM_iald 11 rfl d_M_isInRoom_5 o1 ?_
  refine e_bipush d_M_isInRoom_6 (by decide) (by decide) ?_
  refine e_icmp_lt (tgt := 27) d_M_isInRoom_8 (by decide) (fun q2 => ?_) (fun q3 => ?_)
  · exact kJ6 (Or.inl q2)
  · have h := h q3
    refine e_aload_n d_M_isInRoom_11 rfl ?_
    refine gx_M_45 d_M_isInRoom_12 rfl ?_
    refine e_iload_n d_M_isInRoom_15 rfl ?_
    refine xM_iald 11 rfl d_M_isInRoom_16 o1 ?_
    refine e_sipush d_M_isInRoom_17 (by decide) (by decide) ?_
    refine e_icmp_ge (tgt := 27) d_M_isInRoom_20 (by decide) (fun q4 => ?_) (fun q5 => ?_)
    · exact kJ6 (Or.inr ⟨q3, q4⟩)
    · have h := h q5
      refine e_iconst d_M_isInRoom_23 (by decide) ?_
      refine e_goto (tgt := 28) d_M_isInRoom_24 (by decide) ?_
      exact e_zret .boolean d_M_isInRoom_28 rfl (by decide) h
set_option maxRecDepth 20000 in
set_option maxHeartbeats 4000000 in
theorem sg_M_farOf_0 {e : gE} {b : Nat} {m : Int} {Z : Int → gH → Prop} {kc ks : Nat} {G : gH} {p1 : Int} (h : (0 ≤ p1 ∧ p1 < 16) ∧ (inI ((G 1 (m + 11) p1) - 100)) ∧ (0 ≤ ((G 1 (m + 11) p1) - 100) ∧ ((G 1 (m + 11) p1) - 100) < 12) ∧ Z (G 1 (m + 6) ((G 1 (m + 11) p1) - 100)) G) : EX e b m m_M_farOf Z kc ks 0 [(2, (m + 0)), (0, p1)] [] G := by
  refine e_aload_n d_M_farOf_0 rfl ?_
  refine gx_M_30 d_M_farOf_1 rfl ?_
  refine e_aload_n d_M_farOf_4 rfl ?_
  refine gx_M_45 d_M_farOf_5 rfl ?_
  refine e_iload_n d_M_farOf_8 rfl ?_
  obtain ⟨o1, h⟩ := h
  refine xM_iald 11 rfl d_M_farOf_9 o1 ?_
  refine e_bipush d_M_farOf_10 (by decide) (by decide) ?_
  obtain ⟨o2, h⟩ := h
  refine e_isub d_M_farOf_12 o2 ?_
  obtain ⟨o3, h⟩ := h
  refine xM_iald 6 rfl d_M_farOf_13 o3 ?_
  exact e_iret d_M_farOf_14 rfl h
