/-! THE REFERENCE, 3: more reads -/
set_option maxRecDepth 20000 in
set_option maxHeartbeats 4000000 in
theorem sg_M_inside_0 {e : gE} {b : Nat} {m : Int} {Z : Int → gH → Prop} {kc ks : Nat} {G : gH} {p1 p2 : Int} (h : EX e b m m_M_inside Z kc ks 5 [(2, (m + 0)), (0, p1), (0, p2), (0, 0), (0, 0)] [] G) : EX e b m m_M_inside Z kc ks 0 [(2, (m + 0)), (0, p1), (0, p2), (9, 0), (9, 0)] [] G := by
  refine e_iconst d_M_inside_0 (by decide) ?_
  refine e_istore_n (ls' := [(2, (m + 0)), (0, p1), (0, p2), (0, 0), (9, 0)]) d_M_inside_1 (by decide) rfl ?_
  refine e_iconst d_M_inside_2 (by decide) ?_
  refine e_istore (ls' := [(2, (m + 0)), (0, p1), (0, p2), (0, 0), (0, 0)]) d_M_inside_3 (by decide) rfl ?_
  exact e_forget (ls' := [(2, (m + 0)), (0, p1), (0, p2), (0, 0), (0, 0)]) ⟨Or.inr rfl, Or.inr rfl, Or.inr rfl, Or.inr rfl, Or.inr rfl, trivial⟩ h
set_option maxRecDepth 20000 in
set_option maxHeartbeats 4000000 in
theorem sg_M_inside_5 {e : gE} {b : Nat} {m : Int} {Z : Int → gH → Prop} {kc ks : Nat} {G : gH} {p1 p2 x3 x4 : Int} (h : (((zM m G 785 0) ≤ x4 → Z x3 G) ∧ (x4 < (zM m G 785 0) → (0 ≤ x4 ∧ x4 < 16) ∧ (p1 ≤ (zM m G 11 x4) → ((zM m G 11 x4) < p2 → (inI (x3 + 1)) ∧ (inI (x4 + 1)) ∧ EX e b m m_M_inside Z kc ks 5 [(2, (m + 0)), (0, p1), (0, p2), (0, (x3 + 1)), (0, (x4 + 1))] [] G)))) ∧ (((x4 < (zM m G 785 0) ∧ (zM m G 11 x4) < p1) ∨ (x4 < (zM m G 785 0) ∧ p1 ≤ (zM m G 11 x4) ∧ p2 ≤ (zM m G 11 x4))) → (inI (x4 + 1)) ∧ EX e b m m_M_inside Z kc ks 5 [(2, (m + 0)), (0, p1), (0, p2), (0, x3), (0, (x4 + 1))] [] G)) : EX e b m m_M_inside Z kc ks 5 [(2, (m + 0)), (0, p1), (0, p2), (0, x3), (0, x4)] [] G := by
  obtain ⟨h, hJ9⟩ := h
  have kJ9 : ((x4 < (zM m G 785 0) ∧ (zM m G 11 x4) < p1) ∨ (x4 < (zM m G 785 0) ∧ p1 ≤ (zM m G 11 x4) ∧ p2 ≤ (zM m G 11 x4))) → EX e b m m_M_inside Z kc ks 39 [(2, (m + 0)), (0, p1), (0, p2), (0, x3), (0, x4)] [] G := by
    intro rJ9
    have h := hJ9 rJ9
    obtain ⟨o10, h⟩ := h
    refine e_iinc (ls' := [(2, (m + 0)), (0, p1), (0, p2), (0, x3), (0, (x4 + 1))]) d_M_inside_39 rfl (by decide) o10 rfl ?_
    refine e_goto (tgt := 5) d_M_inside_42 (by decide) ?_
    exact e_forget (ls' := [(2, (m + 0)), (0, p1), (0, p2), (0, x3), (0, (x4 + 1))]) ⟨Or.inr rfl, Or.inr rfl, Or.inr rfl, Or.inr rfl, Or.inr rfl, trivial⟩ h
  refine e_iload d_M_inside_5 rfl ?_
  refine e_aload_n d_M_inside_7 rfl ?_
  refine gx_M_151 d_M_inside_8 rfl ?_
  refine e_icmp_ge (tgt := 45) d_M_inside_11 (by decide) (fun q1 => ?_) (fun q2 => ?_)
  · have h := h.1 q1
    refine e_iload_n d_M_inside_45 rfl ?_
    exact e_iret d_M_inside_46 rfl h
  · have h := h.2 q2
    refine e_aload_n d_M_inside_14 rfl ?_
    refine gx_M_45 d_M_inside_15 rfl ?_
    refine e_iload d_M_inside_18 rfl ?_
    obtain ⟨o3, h⟩ := h
    refine xM_iald 11 rfl d_M_inside_20 o3 ?_
    refine e_iload_n d_M_inside_21 rfl ?_
    refine e_icmp_lt (tgt := 39) d_M_inside_22 (by decide) (fun q4 => ?_) (fun q5 => ?_)
    · exact kJ9 (Or.inl ⟨q2, q4⟩)
    · have h := h q5
      refine e_aload_n d_M_inside_25 rfl ?_
      refine gx_M_45 d_M_inside_26 rfl ?_
      refine e_iload d_M_inside_29 rfl ?_
      refine xM_iald 11 rfl d_M_inside_31 o3 ?_
      refine e_iload_n d_M_inside_32 rfl ?_
      refine e_icmp_ge (tgt := 39) d_M_inside_33 (by decide) (fun q6 => ?_) (fun q7 => ?_)
      · exact kJ9 (Or.inr ⟨q2, q5, q6⟩)
      · have h := h q7
        obtain ⟨o8, h⟩ := h
        refine e_iinc (ls' := [(2, (m + 0)), (0, p1), (0, p2), (0, (x3 + 1)), (0, x4)]) d_M_inside_36 rfl (by decide) o8 rfl ?_
        obtain ⟨o11, h⟩ := h
        refine e_iinc (ls' := [(2, (m + 0)), (0, p1), (0, p2), (0, (x3 + 1)), (0, (x4 + 1))]) d_M_inside_39 rfl (by decide) o11 rfl ?_
        refine e_goto (tgt := 5) d_M_inside_42 (by decide) ?_
        exact e_forget (ls' := [(2, (m + 0)), (0, p1), (0, p2), (0, (x3 + 1)), (0, (x4 + 1))]) ⟨Or.inr rfl, Or.inr rfl, Or.inr rfl, Or.inr rfl, Or.inr rfl, trivial⟩ h
set_option maxRecDepth 20000 in
set_option maxHeartbeats 4000000 in
theorem sg_M_sealsOf_0 {e : gE} {b : Nat} {m : Int} {Z : Int → gH → Prop} {kc ks : Nat} {G : gH} {p1 : Int} (h : EX e b m m_M_sealsOf Z kc ks 4 [(2, (m + 0)), (0, p1), (0, 0), (0, 0)] [] G) : EX e b m m_M_sealsOf Z kc ks 0 [(2, (m + 0)), (0, p1), (9, 0), (9, 0)] [] G := by
  refine e_iconst d_M_sealsOf_0 (by decide) ?_
  refine e_istore_n (ls' := [(2, (m + 0)), (0, p1), (0, 0), (9, 0)]) d_M_sealsOf_1 (by decide) rfl ?_
  refine e_iconst d_M_sealsOf_2 (by decide) ?_
  refine e_istore_n (ls' := [(2, (m + 0)), (0, p1), (0, 0), (0, 0)]) d_M_sealsOf_3 (by decide) rfl ?_
  exact e_forget (ls' := [(2, (m + 0)), (0, p1), (0, 0), (0, 0)]) ⟨Or.inr rfl, Or.inr rfl, Or.inr rfl, Or.inr rfl, trivial⟩ h
set_option maxRecDepth 20000 in
set_option maxHeartbeats 4000000 in
theorem sg_M_sealsOf_4 {e : gE} {b : Nat} {m : Int} {Z : Int → gH → Prop} {kc ks : Nat} {G : gH} {p1 x2 x3 : Int} (h : ((zM m G 794 0) ≤ x3 → Z x2 G) ∧ (x3 < (zM m G 794 0) → (0 ≤ x3 ∧ x3 < 12000) ∧ (((zM m G 35 x3) ≠ p1 → (inI (x3 + 1)) ∧ EX e b m m_M_sealsOf Z kc ks 4 [(2, (m + 0)), (0, p1), (0, x2), (0, (x3 + 1))] [] G) ∧ ((zM m G 35 x3) = p1 → (inI (x2 + 1)) ∧ (inI (x3 + 1)) ∧ EX e b m m_M_sealsOf Z kc ks 4 [(2, (m + 0)), (0, p1), (0, (x2 + 1)), (0, (x3 + 1))] [] G)))) : EX e b m m_M_sealsOf Z kc ks 4 [(2, (m + 0)), (0, p1), (0, x2), (0, x3)] [] G := by
  refine e_iload_n d_M_sealsOf_4 rfl ?_
  refine e_aload_n d_M_sealsOf_5 rfl ?_
  refine gx_M_256 d_M_sealsOf_6 rfl ?_
  refine e_icmp_ge (tgt := 31) d_M_sealsOf_9 (by decide) (fun q1 => ?_) (fun q2 => ?_)
  · have h := h.1 q1
    refine e_iload_n d_M_sealsOf_31 rfl ?_
    exact e_iret d_M_sealsOf_32 rfl h
  · have h := h.2 q2
    refine e_aload_n d_M_sealsOf_12 rfl ?_
    refine gx_M_118 d_M_sealsOf_13 rfl ?_
    refine e_iload_n d_M_sealsOf_16 rfl ?_
    obtain ⟨o3, h⟩ := h
    refine xM_iald 35 rfl d_M_sealsOf_17 o3 ?_
    refine e_iload_n d_M_sealsOf_18 rfl ?_
    refine e_icmp_ne (tgt := 25) d_M_sealsOf_19 (by decide) (fun q4 => ?_) (fun q5 => ?_)
    · have h := h.1 q4
      obtain ⟨o7, h⟩ := h
      refine e_iinc (ls' := [(2, (m + 0)), (0, p1), (0, x2), (0, (x3 + 1))]) d_M_sealsOf_25 rfl (by decide) o7 rfl ?_
      refine e_goto (tgt := 4) d_M_sealsOf_28 (by decide) ?_
      exact e_forget (ls' := [(2, (m + 0)), (0, p1), (0, x2), (0, (x3 + 1))]) ⟨Or.inr rfl, Or.inr rfl, Or.inr rfl, Or.inr rfl, trivial⟩ h
    · have h := h.2 q5
      obtain ⟨o6, h⟩ := h
      refine e_iinc (ls' := [(2, (m + 0)), (0, p1), (0, (x2 + 1)), (0, x3)]) d_M_sealsOf_22 rfl (by decide) o6 rfl ?_
      obtain ⟨o8, h⟩ := h
      refine e_iinc (ls' := [(2, (m + 0)), (0, p1), (0, (x2 + 1)), (0, (x3 + 1))]) d_M_sealsOf_25 rfl (by decide) o8 rfl ?_
      refine e_goto (tgt := 4) d_M_sealsOf_28 (by decide) ?_
      exact e_forget (ls' := [(2, (m + 0)), (0, p1), (0, (x2 + 1)), (0, (x3 + 1))]) ⟨Or.inr rfl, Or.inr rfl, Or.inr rfl, Or.inr rfl, trivial⟩ h
set_option maxRecDepth 20000 in
set_option maxHeartbeats 4000000 in
theorem sg_M_used_0 {e : gE} {b : Nat} {m : Int} {Z : Int → gH → Prop} {kc ks : Nat} {G : gH} {p1 : Int} (h : EX e b m m_M_used Z kc ks 4 [(2, (m + 0)), (0, p1), (0, 0), (0, 0)] [] G) : EX e b m m_M_used Z kc ks 0 [(2, (m + 0)), (0, p1), (9, 0), (9, 0)] [] G := by
  refine e_iconst d_M_used_0 (by decide) ?_
  refine e_istore_n (ls' := [(2, (m + 0)), (0, p1), (0, 0), (9, 0)]) d_M_used_1 (by decide) rfl ?_
  refine e_iconst d_M_used_2 (by decide) ?_
  refine e_istore_n (ls' := [(2, (m + 0)), (0, p1), (0, 0), (0, 0)]) d_M_used_3 (by decide) rfl ?_
  exact e_forget (ls' := [(2, (m + 0)), (0, p1), (0, 0), (0, 0)]) ⟨Or.inr rfl, Or.inr rfl, Or.inr rfl, Or.inr rfl, trivial⟩ h
set_option maxRecDepth 20000 in
set_option maxHeartbeats 4000000 in
theorem sg_M_used_4 {e : gE} {b : Nat} {m : Int} {Z : Int → gH → Prop} {kc ks : Nat} {G : gH} {p1 x2 x3 : Int} (h : ((zM m G 785 0) ≤ x3 → Z x2 G) ∧ (x3 < (zM m G 785 0) → (0 ≤ x3 ∧ x3 < 16) ∧ ((inI (400 + p1)) ∧ (((zM m G 11 x3) ≠ (400 + p1) → (inI (x3 + 1)) ∧ EX e b m m_M_used Z kc ks 4 [(2, (m + 0)), (0, p1), (0, x2), (0, (x3 + 1))] [] G) ∧ ((zM m G 11 x3) = (400 + p1) → (inI (x2 + (zM m G 9 x3))) ∧ (inI (x3 + 1)) ∧ EX e b m m_M_used Z kc ks 4 [(2, (m + 0)), (0, p1), (0, (x2 + (zM m G 9 x3))), (0, (x3 + 1))] [] G))))) : EX e b m m_M_used Z kc ks 4 [(2, (m + 0)), (0, p1), (0, x2), (0, x3)] [] G := by
  refine e_iload_n d_M_used_4 rfl ?_
  refine e_aload_n d_M_used_5 rfl ?_
  refine gx_M_151 d_M_used_6 rfl ?_
  refine e_icmp_ge (tgt := 41) d_M_used_9 (by decide) (fun q1 => ?_) (fun q2 => ?_)
  · have h := h.1 q1
    refine e_iload_n d_M_used_41 rfl ?_
    exact e_iret d_M_used_42 rfl h
  · have h := h.2 q2
    refine e_aload_n d_M_used_12 rfl ?_
    refine gx_M_45 d_M_used_13 rfl ?_
    refine e_iload_n d_M_used_16 rfl ?_
    obtain ⟨o3, h⟩ := h
    refine xM_iald 11 rfl d_M_used_17 o3 ?_
    refine e_sipush d_M_used_18 (by decide) (by decide) ?_
    refine e_iload_n d_M_used_21 rfl ?_
    obtain ⟨o4, h⟩ := h
    refine e_iadd d_M_used_22 o4 ?_
    refine e_icmp_ne (tgt := 35) d_M_used_23 (by decide) (fun q5 => ?_) (fun q6 => ?_)
    · have h := h.1 q5
      obtain ⟨o8, h⟩ := h
      refine e_iinc (ls' := [(2, (m + 0)), (0, p1), (0, x2), (0, (x3 + 1))]) d_M_used_35 rfl (by decide) o8 rfl ?_
      refine e_goto (tgt := 4) d_M_used_38 (by decide) ?_
      exact e_forget (ls' := [(2, (m + 0)), (0, p1), (0, x2), (0, (x3 + 1))]) ⟨Or.inr rfl, Or.inr rfl, Or.inr rfl, Or.inr rfl, trivial⟩ h
    · have h := h.2 q6
      refine e_iload_n d_M_used_26 rfl ?_
      refine e_aload_n d_M_used_27 rfl ?_
      refine gx_M_39 d_M_used_28 rfl ?_
      refine e_iload_n d_M_used_31 rfl ?_
      refine xM_iald 9 rfl d_M_used_32 o3 ?_
      obtain ⟨o7, h⟩ := h
      refine e_iadd d_M_used_33 o7 ?_
      refine e_istore_n (ls' := [(2, (m + 0)), (0, p1), (0, (x2 + (zM m G 9 x3))), (0, x3)]) d_M_used_34 (by decide) rfl ?_
      obtain ⟨o9, h⟩ := h
      refine e_iinc (ls' := [(2, (m + 0)), (0, p1), (0, (x2 + (zM m G 9 x3))), (0, (x3 + 1))]) d_M_used_35 rfl (by decide) o9 rfl ?_
      refine e_goto (tgt := 4) d_M_used_38 (by decide) ?_
      exact e_forget (ls' := [(2, (m + 0)), (0, p1), (0, (x2 + (zM m G 9 x3))), (0, (x3 + 1))]) ⟨Or.inr rfl, Or.inr rfl, Or.inr rfl, Or.inr rfl, trivial⟩ h
set_option maxRecDepth 20000 in
set_option maxHeartbeats 4000000 in
theorem sg_M_isInPlace_0 {e : gE} {b : Nat} {m : Int} {Z : Int → gH → Prop} {kc ks : Nat} {G : gH} {p1 : Int} (h : ((0 ≤ p1 ∧ p1 < 16) ∧ (400 ≤ (zM m G 11 p1) → ((zM m G 11 p1) < 500 → Z 1 G))) ∧ (((zM m G 11 p1) < 400 ∨ (400 ≤ (zM m G 11 p1) ∧ 500 ≤ (zM m G 11 p1))) → Z 0 G)) : EX e b m m_M_isInPlace Z kc ks 0 [(2, (m + 0)), (0, p1)] [] G := by
  obtain ⟨h, hJ6⟩ := h
  have kJ6 : ((zM m G 11 p1) < 400 ∨ (400 ≤ (zM m G 11 p1) ∧ 500 ≤ (zM m G 11 p1))) → EX e b m m_M_isInPlace Z kc ks 28 [(2, (m + 0)), (0, p1)] [] G := by
    intro rJ6
    have h := hJ6 rJ6
    refine e_iconst d_M_isInPlace_28 (by decide) ?_
    exact e_zret .boolean d_M_isInPlace_29 rfl (by decide) h
  refine e_aload_n d_M_isInPlace_0 rfl ?_
  refine gx_M_45 d_M_isInPlace_1 rfl ?_
  refine e_iload_n d_M_isInPlace_4 rfl ?_
  obtain ⟨o1, h⟩ := h
  refine xM_iald 11 rfl d_M_isInPlace_5 o1 ?_
  refine e_sipush d_M_isInPlace_6 (by decide) (by decide) ?_
  refine e_icmp_lt (tgt := 28) d_M_isInPlace_9 (by decide) (fun q2 => ?_) (fun q3 => ?_)
  · exact kJ6 (Or.inl q2)
  · have h := h q3
    refine e_aload_n d_M_isInPlace_12 rfl ?_
    refine gx_M_45 d_M_isInPlace_13 rfl ?_
    refine e_iload_n d_M_isInPlace_16 rfl ?_
    refine xM_iald 11 rfl d_M_isInPlace_17 o1 ?_
    refine e_sipush d_M_isInPlace_18 (by decide) (by decide) ?_
    refine e_icmp_ge (tgt := 28) d_M_isInPlace_21 (by decide) (fun q4 => ?_) (fun q5 => ?_)
    · exact kJ6 (Or.inr ⟨q3, q4⟩)
    · have h := h q5
      refine e_iconst d_M_isInPlace_24 (by decide) ?_
      refine e_goto (tgt := 29) d_M_isInPlace_25 (by decide) ?_
      exact e_zret .boolean d_M_isInPlace_29 rfl (by decide) h
set_option maxRecDepth 20000 in
set_option maxHeartbeats 4000000 in
theorem sg_M_airAt_0 {e : gE} {b : Nat} {m : Int} {Z : Int → gH → Prop} {kc ks : Nat} {G : gH} {p1 p2 : Int} (h : (inI (60 * p1)) ∧ (0 ≤ p1 ∧ p1 < 5) ∧ (0 ≤ p2) ∧ (0 < (zM m G 26 p1)) ∧ (inI ((60 * p1) + (p2 % (zM m G 26 p1)))) ∧ (0 ≤ ((60 * p1) + (p2 % (zM m G 26 p1))) ∧ ((60 * p1) + (p2 % (zM m G 26 p1))) < 300) ∧ Z (w32 (zM m G 28 ((60 * p1) + (p2 % (zM m G 26 p1))))) G) : EX e b m m_M_airAt Z kc ks 0 [(2, (m + 0)), (0, p1), (0, p2)] [] G := by
  refine e_aload_n d_M_airAt_0 rfl ?_
  refine gx_M_97 d_M_airAt_1 rfl ?_
  refine e_bipush d_M_airAt_4 (by decide) (by decide) ?_
  refine e_iload_n d_M_airAt_6 rfl ?_
  obtain ⟨o1, h⟩ := h
  refine e_imul d_M_airAt_7 o1 ?_
  refine e_iload_n d_M_airAt_8 rfl ?_
  refine e_aload_n d_M_airAt_9 rfl ?_
  refine gx_M_91 d_M_airAt_10 rfl ?_
  refine e_iload_n d_M_airAt_13 rfl ?_
  obtain ⟨o2, h⟩ := h
  refine xM_iald 26 rfl d_M_airAt_14 o2 ?_
  obtain ⟨o3, o4, h⟩ := h
  refine e_irem d_M_airAt_15 o3 o4 ?_
  obtain ⟨o5, h⟩ := h
  refine e_iadd d_M_airAt_16 o5 ?_
  obtain ⟨o6, h⟩ := h
  refine xM_lald 28 rfl d_M_airAt_17 o6 ?_
  refine e_l2i d_M_airAt_18 ?_
  exact e_iret d_M_airAt_19 rfl h
set_option maxRecDepth 20000 in
set_option maxHeartbeats 4000000 in
theorem sg_M_isMissing_0 {e : gE} {b : Nat} {m : Int} {Z : Int → gH → Prop} {kc ks : Nat} {G : gH} {p1 p2 : Int} (h : ((0 ≤ p1 ∧ p1 < 5) ∧ (((zM m G 26 p1) ≠ 0 → (inI (60 * p1)) ∧ (0 ≤ p2) ∧ (0 < (zM m G 26 p1)) ∧ (inI ((60 * p1) + (p2 % (zM m G 26 p1)))) ∧ (0 ≤ ((60 * p1) + (p2 % (zM m G 26 p1))) ∧ ((60 * p1) + (p2 % (zM m G 26 p1))) < 300)) ∧ ((zM m G 26 p1) = 0 → Z 1 G))) ∧ ((((zM m G 26 p1) ≠ 0 ∧ (zM m G 27 p1) ≠ 0 ∧ (zM m G 27 p1) ≠ 1 ∧ (zM m G 27 p1) ≠ 2 ∧ (zM m G 28 ((60 * p1) + (p2 % (zM m G 26 p1)))) ≠ (-9223372036854775808)) ∨ ((zM m G 26 p1) ≠ 0 ∧ (zM m G 27 p1) ≠ 0 ∧ (zM m G 27 p1) ≠ 1 ∧ (zM m G 27 p1) = 2 ∧ (zM m G 28 ((60 * p1) + (p2 % (zM m G 26 p1)))) ≠ (-2147483648)) ∨ ((zM m G 26 p1) ≠ 0 ∧ (zM m G 27 p1) ≠ 0 ∧ (zM m G 27 p1) = 1 ∧ (zM m G 28 ((60 * p1) + (p2 % (zM m G 26 p1)))) ≠ (-32768)) ∨ ((zM m G 26 p1) ≠ 0 ∧ (zM m G 27 p1) = 0 ∧ (zM m G 28 ((60 * p1) + (p2 % (zM m G 26 p1)))) ≠ (-128))) → Z 0 G) ∧ ((((zM m G 26 p1) ≠ 0 ∧ (zM m G 27 p1) ≠ 0 ∧ (zM m G 27 p1) ≠ 1 ∧ (zM m G 27 p1) ≠ 2 ∧ (zM m G 28 ((60 * p1) + (p2 % (zM m G 26 p1)))) = (-9223372036854775808)) ∨ ((zM m G 26 p1) ≠ 0 ∧ (zM m G 27 p1) ≠ 0 ∧ (zM m G 27 p1) ≠ 1 ∧ (zM m G 27 p1) = 2 ∧ (zM m G 28 ((60 * p1) + (p2 % (zM m G 26 p1)))) = (-2147483648)) ∨ ((zM m G 26 p1) ≠ 0 ∧ (zM m G 27 p1) ≠ 0 ∧ (zM m G 27 p1) = 1 ∧ (zM m G 28 ((60 * p1) + (p2 % (zM m G 26 p1)))) = (-32768)) ∨ ((zM m G 26 p1) ≠ 0 ∧ (zM m G 27 p1) = 0 ∧ (zM m G 28 ((60 * p1) + (p2 % (zM m G 26 p1)))) = (-128))) → Z 1 G)) : EX e b m m_M_isMissing Z kc ks 0 [(2, (m + 0)), (0, p1), (0, p2), (9, 0), (9, 0)] [] G := by
  obtain ⟨h, hJ23, hJ24⟩ := h
  have kJ24 : (((zM m G 26 p1) ≠ 0 ∧ (zM m G 27 p1) ≠ 0 ∧ (zM m G 27 p1) ≠ 1 ∧ (zM m G 27 p1) ≠ 2 ∧ (zM m G 28 ((60 * p1) + (p2 % (zM m G 26 p1)))) = (-9223372036854775808)) ∨ ((zM m G 26 p1) ≠ 0 ∧ (zM m G 27 p1) ≠ 0 ∧ (zM m G 27 p1) ≠ 1 ∧ (zM m G 27 p1) = 2 ∧ (zM m G 28 ((60 * p1) + (p2 % (zM m G 26 p1)))) = (-2147483648)) ∨ ((zM m G 26 p1) ≠ 0 ∧ (zM m G 27 p1) ≠ 0 ∧ (zM m G 27 p1) = 1 ∧ (zM m G 28 ((60 * p1) + (p2 % (zM m G 26 p1)))) = (-32768)) ∨ ((zM m G 26 p1) ≠ 0 ∧ (zM m G 27 p1) = 0 ∧ (zM m G 28 ((60 * p1) + (p2 % (zM m G 26 p1)))) = (-128))) → EX e b m m_M_isMissing Z kc ks 90 [(2, (m + 0)), (0, p1), (0, p2), (1, (zM m G 28 ((60 * p1) + (p2 % (zM m G 26 p1))))), (9, 0)] [(0, 1)] G := by
    intro rJ24
    have h := hJ24 rJ24
    exact e_zret .boolean d_M_isMissing_90 rfl (by decide) h
  have kJ23 : (((zM m G 26 p1) ≠ 0 ∧ (zM m G 27 p1) ≠ 0 ∧ (zM m G 27 p1) ≠ 1 ∧ (zM m G 27 p1) ≠ 2 ∧ (zM m G 28 ((60 * p1) + (p2 % (zM m G 26 p1)))) ≠ (-9223372036854775808)) ∨ ((zM m G 26 p1) ≠ 0 ∧ (zM m G 27 p1) ≠ 0 ∧ (zM m G 27 p1) ≠ 1 ∧ (zM m G 27 p1) = 2 ∧ (zM m G 28 ((60 * p1) + (p2 % (zM m G 26 p1)))) ≠ (-2147483648)) ∨ ((zM m G 26 p1) ≠ 0 ∧ (zM m G 27 p1) ≠ 0 ∧ (zM m G 27 p1) = 1 ∧ (zM m G 28 ((60 * p1) + (p2 % (zM m G 26 p1)))) ≠ (-32768)) ∨ ((zM m G 26 p1) ≠ 0 ∧ (zM m G 27 p1) = 0 ∧ (zM m G 28 ((60 * p1) + (p2 % (zM m G 26 p1)))) ≠ (-128))) → EX e b m m_M_isMissing Z kc ks 90 [(2, (m + 0)), (0, p1), (0, p2), (1, (zM m G 28 ((60 * p1) + (p2 % (zM m G 26 p1))))), (9, 0)] [(0, 0)] G := by
    intro rJ23
    have h := hJ23 rJ23
    exact e_zret .boolean d_M_isMissing_90 rfl (by decide) h
  refine e_aload_n d_M_isMissing_0 rfl ?_
  refine gx_M_91 d_M_isMissing_1 rfl ?_
  refine e_iload_n d_M_isMissing_4 rfl ?_
  obtain ⟨o1, h⟩ := h
  refine xM_iald 26 rfl d_M_isMissing_5 o1 ?_
  refine e_if_ne (tgt := 11) d_M_isMissing_6 (by decide) (fun q2 => ?_) (fun q3 => ?_)
  · have h := h.1 q2
    refine e_aload_n d_M_isMissing_11 rfl ?_
    refine gx_M_97 d_M_isMissing_12 rfl ?_
    refine e_bipush d_M_isMissing_15 (by decide) (by decide) ?_
    refine e_iload_n d_M_isMissing_17 rfl ?_
    obtain ⟨o4, h⟩ := h
    refine e_imul d_M_isMissing_18 o4 ?_
    refine e_iload_n d_M_isMissing_19 rfl ?_
    refine e_aload_n d_M_isMissing_20 rfl ?_
    refine gx_M_91 d_M_isMissing_21 rfl ?_
    refine e_iload_n d_M_isMissing_24 rfl ?_
    refine xM_iald 26 rfl d_M_isMissing_25 o1 ?_
    obtain ⟨o5, o6, h⟩ := h
    refine e_irem d_M_isMissing_26 o5 o6 ?_
    obtain ⟨o7, h⟩ := h
    refine e_iadd d_M_isMissing_27 o7 ?_
    have o8 := h
    refine xM_lald 28 rfl d_M_isMissing_28 o8 ?_
    refine e_lstore_n (ls' := [(2, (m + 0)), (0, p1), (0, p2), (1, (zM m G 28 ((60 * p1) + (p2 % (zM m G 26 p1))))), (9, 0)]) d_M_isMissing_29 (by decide) rfl ?_
    refine e_lload_n d_M_isMissing_30 rfl ?_
    refine e_aload_n d_M_isMissing_31 rfl ?_
    refine gx_M_94 d_M_isMissing_32 rfl ?_
    refine e_iload_n d_M_isMissing_35 rfl ?_
    refine xM_iald 27 rfl d_M_isMissing_36 o1 ?_
    refine e_if_ne (tgt := 46) d_M_isMissing_37 (by decide) (fun q9 => ?_) (fun q10 => ?_)
    · refine e_aload_n d_M_isMissing_46 rfl ?_
      refine gx_M_94 d_M_isMissing_47 rfl ?_
      refine e_iload_n d_M_isMissing_50 rfl ?_
      refine xM_iald 27 rfl d_M_isMissing_51 o1 ?_
      refine e_iconst d_M_isMissing_52 (by decide) ?_
      refine e_icmp_ne (tgt := 62) d_M_isMissing_53 (by decide) (fun q11 => ?_) (fun q12 => ?_)
      · refine e_aload_n d_M_isMissing_62 rfl ?_
        refine gx_M_94 d_M_isMissing_63 rfl ?_
        refine e_iload_n d_M_isMissing_66 rfl ?_
        refine xM_iald 27 rfl d_M_isMissing_67 o1 ?_
        refine e_iconst d_M_isMissing_68 (by decide) ?_
        refine e_icmp_ne (tgt := 78) d_M_isMissing_69 (by decide) (fun q13 => ?_) (fun q14 => ?_)
        · refine e_ldc2 (-9223372036854775808) d_M_isMissing_78 (by decide) (by have h9 := w_1775; rw [show (-9223372036854775808 : Int64) = Int64.ofInt (-9223372036854775808) from by decide] at h9; exact h9) ?_
          refine e_lcmp_ne (tgt := 89) d_M_isMissing_81 d_M_isMissing_82 (by decide) (fun q15 => ?_) (fun q16 => ?_)
          · refine e_iconst d_M_isMissing_89 (by decide) ?_
            exact kJ23 (Or.inl ⟨q2, q9, q11, q13, q15⟩)
          · refine e_iconst d_M_isMissing_85 (by decide) ?_
            refine e_goto (tgt := 90) d_M_isMissing_86 (by decide) ?_
            exact kJ24 (Or.inl ⟨q2, q9, q11, q13, q16⟩)
        · refine e_ldc2 (-2147483648) d_M_isMissing_72 (by decide) (by have h9 := w_1774; rw [show (-2147483648 : Int64) = Int64.ofInt (-2147483648) from by decide] at h9; exact h9) ?_
          refine e_goto (tgt := 81) d_M_isMissing_75 (by decide) ?_
          refine e_lcmp_ne (tgt := 89) d_M_isMissing_81 d_M_isMissing_82 (by decide) (fun q17 => ?_) (fun q18 => ?_)
          · refine e_iconst d_M_isMissing_89 (by decide) ?_
            exact kJ23 (Or.inr (Or.inl ⟨q2, q9, q11, q14, q17⟩))
          · refine e_iconst d_M_isMissing_85 (by decide) ?_
            refine e_goto (tgt := 90) d_M_isMissing_86 (by decide) ?_
            exact kJ24 (Or.inr (Or.inl ⟨q2, q9, q11, q14, q18⟩))
      · refine e_ldc2 (-32768) d_M_isMissing_56 (by decide) (by have h9 := w_1773; rw [show (-32768 : Int64) = Int64.ofInt (-32768) from by decide] at h9; exact h9) ?_
        refine e_goto (tgt := 81) d_M_isMissing_59 (by decide) ?_
        refine e_lcmp_ne (tgt := 89) d_M_isMissing_81 d_M_isMissing_82 (by decide) (fun q19 => ?_) (fun q20 => ?_)
        · refine e_iconst d_M_isMissing_89 (by decide) ?_
          exact kJ23 (Or.inr (Or.inr (Or.inl ⟨q2, q9, q12, q19⟩)))
        · refine e_iconst d_M_isMissing_85 (by decide) ?_
          refine e_goto (tgt := 90) d_M_isMissing_86 (by decide) ?_
          exact kJ24 (Or.inr (Or.inr (Or.inl ⟨q2, q9, q12, q20⟩)))
    · refine e_ldc2 (-128) d_M_isMissing_40 (by decide) (by have h9 := w_1772; rw [show (-128 : Int64) = Int64.ofInt (-128) from by decide] at h9; exact h9) ?_
      refine e_goto (tgt := 81) d_M_isMissing_43 (by decide) ?_
      refine e_lcmp_ne (tgt := 89) d_M_isMissing_81 d_M_isMissing_82 (by decide) (fun q21 => ?_) (fun q22 => ?_)
      · refine e_iconst d_M_isMissing_89 (by decide) ?_
        exact kJ23 (Or.inr (Or.inr (Or.inr ⟨q2, q10, q21⟩)))
      · refine e_iconst d_M_isMissing_85 (by decide) ?_
        refine e_goto (tgt := 90) d_M_isMissing_86 (by decide) ?_
        exact kJ24 (Or.inr (Or.inr (Or.inr ⟨q2, q10, q22⟩)))
  · have h := h.2 q3
    refine e_iconst d_M_isMissing_9 (by decide) ?_
    exact e_zret .boolean d_M_isMissing_10 rfl (by decide) h
set_option maxRecDepth 20000 in
set_option maxHeartbeats 4000000 in
theorem sg_M_isAt_0 {e : gE} {b : Nat} {m : Int} {Z : Int → gH → Prop} {kc ks : Nat} {G : gH} {p1 p2 : Int} (h : (0 ≤ p1 ∧ p1 < 8) ∧ (((zM m G 20 p1) ≤ p2 → Z 0 G) ∧ (p2 < (zM m G 20 p1) → Z 1 G))) : EX e b m m_M_isAt Z kc ks 0 [(2, (m + 0)), (0, p1), (0, p2)] [] G := by
  refine e_iload_n d_M_isAt_0 rfl ?_
  refine e_aload_n d_M_isAt_1 rfl ?_
  refine gx_M_72 d_M_isAt_2 rfl ?_
  refine e_iload_n d_M_isAt_5 rfl ?_
  obtain ⟨o1, h⟩ := h
  refine xM_iald 20 rfl d_M_isAt_6 o1 ?_
  refine e_icmp_ge (tgt := 14) d_M_isAt_7 (by decide) (fun q2 => ?_) (fun q3 => ?_)
  · have h := h.1 q2
    refine e_iconst d_M_isAt_14 (by decide) ?_
    exact e_zret .boolean d_M_isAt_15 rfl (by decide) h
  · have h := h.2 q3
    refine e_iconst d_M_isAt_10 (by decide) ?_
    refine e_goto (tgt := 15) d_M_isAt_11 (by decide) ?_
    exact e_zret .boolean d_M_isAt_15 rfl (by decide) h
def zCount (A : zA) (lo hi : Int) : Int := zS (fun t => if lo ≤ A 11 t ∧ A 11 t < hi then 1 else 0) (A 785 0)
theorem l_M_inside {e : gE} {b : Nat} {m : Int} {Z : Int → gH → Prop} {kc ks : Nat} {G : gH} {p1 p2 : Int} (hT : zT (zM m G)) (hZ : Z (zCount (zM m G) p1 p2) G) : EX e b m m_M_inside Z kc ks 5 [(2, (m + 0)), (0, p1), (0, p2), (0, 0), (0, 0)] [] G := by
  refine zloop (P := fun i => EX e b m m_M_inside Z kc ks 5 [(2, (m + 0)), (0, p1), (0, p2), (0, zS (fun t => if p1 ≤ zM m G 11 t ∧ zM m G 11 t < p2 then 1 else 0) i), (0, i)] [] G) (zM m G 785 0) hT.1 ?_ ?_
  · exact sg_M_inside_5 ⟨⟨fun _ => hZ, fun q => absurd q (by omega)⟩, fun q => absurd q (by omega)⟩
  · intro j h1 h2 ih
    have b1 := zS_b (f := fun t => if p1 ≤ zM m G 11 t ∧ zM m G 11 t < p2 then 1 else 0) (c := 1) j (fun i _ _ => z01) h1 (by omega)
    refine sg_M_inside_5 ⟨⟨fun q => absurd q (by omega), fun _ => ⟨by omega, fun q q2 => ⟨by omega, by omega, ?_⟩⟩⟩, fun q => ⟨by omega, ?_⟩⟩
    · rw [zS_s h1, if_pos ⟨q, q2⟩] at ih; exact ih
    · rw [zS_z h1 (if_neg (by omega))] at ih; exact ih
theorem c_M_inside {e : gE} {b : Nat} {m : Int} {G : gH} {p1 p2 : Int} (h1 : zT (zM m G)) : GX e b m m_M_inside [(2, (m + 0)), (0, p1), (0, p2)] G 0 0 (fun v9 G9 => v9 = (zCount (zM m G) p1 p2 : Int) ∧ G9 = G) := by
  refine GM.ofEV (by decide) (Nat.le_of_ble_eq_true rfl) (sg_M_inside_0 ?_)
  exact l_M_inside h1 ⟨rfl, rfl⟩
def zSeals (A : zA) (t : Int) : Int := zS (fun k => if A 35 k = t then 1 else 0) (A 794 0)
theorem l_M_sealsOf {e : gE} {b : Nat} {m : Int} {Z : Int → gH → Prop} {kc ks : Nat} {G : gH} {p1 : Int} (hT : 0 ≤ zM m G 794 0 ∧ zM m G 794 0 ≤ 12000) (hZ : Z (zSeals (zM m G) p1) G) : EX e b m m_M_sealsOf Z kc ks 4 [(2, (m + 0)), (0, p1), (0, 0), (0, 0)] [] G := by
  refine zloop (P := fun i => EX e b m m_M_sealsOf Z kc ks 4 [(2, (m + 0)), (0, p1), (0, zS (fun k => if zM m G 35 k = p1 then 1 else 0) i), (0, i)] [] G) (zM m G 794 0) hT.1 ?_ ?_
  · exact sg_M_sealsOf_4 ⟨fun _ => hZ, fun q => absurd q (by omega)⟩
  · intro j h1 h2 ih
    have b1 := zS_b (f := fun k => if zM m G 35 k = p1 then 1 else 0) (c := 1) j (fun i _ _ => z01) h1 (by omega)
    refine sg_M_sealsOf_4 ⟨fun q => absurd q (by omega), fun _ => ⟨by omega, fun q => ⟨by omega, ?_⟩, fun q => ⟨by omega, by omega, ?_⟩⟩⟩
    · rw [zS_z h1 (if_neg q)] at ih; exact ih
    · rw [zS_s h1, if_pos q] at ih; exact ih
theorem c_M_sealsOf {e : gE} {b : Nat} {m : Int} {G : gH} {p1 : Int} (h1 : 0 ≤ zM m G 794 0 ∧ zM m G 794 0 ≤ 12000) : GX e b m m_M_sealsOf [(2, (m + 0)), (0, p1)] G 0 0 (fun v9 G9 => v9 = (zSeals (zM m G) p1 : Int) ∧ G9 = G) := by
  refine GM.ofEV (by decide) (Nat.le_of_ble_eq_true rfl) (sg_M_sealsOf_0 ?_)
  exact l_M_sealsOf h1 ⟨rfl, rfl⟩
def zUsed (A : zA) (p : Int) : Int := zS (fun t => if A 11 t = 400 + p then A 9 t else 0) (A 785 0)
theorem zUsed_b {A : zA} {p : Int} {j : Int} (hj : 0 ≤ j) (h : ∀ t, 0 ≤ A 9 t ∧ A 9 t ≤ 4) : 0 ≤ zS (fun t => if A 11 t = 400 + p then A 9 t else 0) j ∧ zS (fun t => if A 11 t = 400 + p then A 9 t else 0) j ≤ 4 * j := zS_b j (fun i _ _ => by have := h i; split <;> omega) hj (by omega)
theorem l_M_used {e : gE} {b : Nat} {m : Int} {Z : Int → gH → Prop} {kc ks : Nat} {G : gH} {p1 : Int} (hT : zT (zM m G)) (hH : ∀ t, 0 ≤ zM m G 9 t ∧ zM m G 9 t ≤ 4) (hp : 0 ≤ p1 ∧ p1 < 5) (hZ : Z (zUsed (zM m G) p1) G) : EX e b m m_M_used Z kc ks 4 [(2, (m + 0)), (0, p1), (0, 0), (0, 0)] [] G := by
  refine zloop (P := fun i => EX e b m m_M_used Z kc ks 4 [(2, (m + 0)), (0, p1), (0, zS (fun t => if zM m G 11 t = 400 + p1 then zM m G 9 t else 0) i), (0, i)] [] G) (zM m G 785 0) hT.1 ?_ ?_
  · exact sg_M_used_4 ⟨fun _ => hZ, fun q => absurd q (by omega)⟩
  · intro j h1 h2 ih
    have b1 := zUsed_b (p := p1) h1 hH
    have b2 := hH j
    refine sg_M_used_4 ⟨fun q => absurd q (by omega), fun _ => ⟨by omega, by omega, fun q => ⟨by omega, ?_⟩, fun q => ⟨by omega, by omega, ?_⟩⟩⟩
    · rw [zS_z h1 (if_neg q)] at ih; exact ih
    · rw [zS_s h1, if_pos q] at ih; exact ih
theorem c_M_used {e : gE} {b : Nat} {m : Int} {G : gH} {p1 : Int} (h1 : zT (zM m G) ∧ (∀ t, 0 ≤ zM m G 9 t ∧ zM m G 9 t ≤ 4)) (h2 : 0 ≤ p1 ∧ p1 < 5) : GX e b m m_M_used [(2, (m + 0)), (0, p1)] G 0 0 (fun v9 G9 => v9 = (zUsed (zM m G) p1 : Int) ∧ G9 = G) := by
  refine GM.ofEV (by decide) (Nat.le_of_ble_eq_true rfl) (sg_M_used_0 ?_)
  exact l_M_used h1.1 h1.2 h2 ⟨rfl, rfl⟩
abbrev zAt (A : zA) (t : Int) : Prop := 400 ≤ A 11 t ∧ A 11 t < 500
theorem c_M_isInPlace {e : gE} {b : Nat} {m : Int} {G : gH} {p1 : Int} (h1 : 0 ≤ p1 ∧ p1 < 16) : GX e b m m_M_isInPlace [(2, (m + 0)), (0, p1)] G 0 0 (fun v9 G9 => v9 = ((if zAt (zM m G) p1 then 1 else 0) : Int) ∧ G9 = G) := by
  refine GM.ofEV (by decide) (Nat.le_of_ble_eq_true rfl) (sg_M_isInPlace_0 ?_)
  repeat' (first | apply And.intro | intro _)
  all_goals first | assumption | rfl | omega | (rw [if_pos (by omega)]) | (rw [if_neg (by omega)])
def zLst (s : Int) : Int := if s = 0 then -128 else if s = 1 then -32768 else if s = 2 then -2147483648 else -9223372036854775808
def zCl (A : zA) (p w : Int) : Int := A 28 (60 * p + w % A 26 p)
abbrev zMiss (A : zA) (p w : Int) : Prop := A 26 p = 0 ∨ zCl A p w = zLst (A 27 p)
abbrev zP (A : zA) (p w : Int) : Prop := (0 ≤ p ∧ p < 5) ∧ 0 ≤ w ∧ (0 ≤ A 26 p ∧ A 26 p ≤ 60)
theorem c_M_isMissing {e : gE} {b : Nat} {m : Int} {G : gH} {p1 p2 : Int} (h1 : zP (zM m G) p1 p2) : GX e b m m_M_isMissing [(2, (m + 0)), (0, p1), (0, p2)] G 0 0 (fun v9 G9 => v9 = ((if zMiss (zM m G) p1 p2 then 1 else 0) : Int) ∧ G9 = G) := by
  refine GM.ofEV (by decide) (Nat.le_of_ble_eq_true rfl) (sg_M_isMissing_0 ?_)
  obtain ⟨a1, a2, a3⟩ := h1
  have a4 : zM m G 26 p1 ≠ 0 → 0 ≤ p2 % zM m G 26 p1 ∧ p2 % zM m G 26 p1 < zM m G 26 p1 := fun q => ⟨Int.emod_nonneg _ q, Int.emod_lt_of_pos _ (by omega)⟩
  refine ⟨⟨a1, fun q => ⟨by omega, a2, by omega, by have := a4 q; omega, by have := a4 q; omega⟩, fun q => ⟨?_, rfl⟩⟩, fun q => ⟨?_, rfl⟩, fun q => ⟨?_, rfl⟩⟩
  · rw [if_pos (Or.inl q)]
  · rw [if_neg]; unfold zMiss zCl zLst; rintro (h | h) <;> (repeat' split at h) <;> omega
  · rw [if_pos]; right; unfold zCl zLst; (repeat' split) <;> omega
def zAir (A : zA) (p w : Int) : Int := w32 (zCl A p w)
theorem c_M_airAt {e : gE} {b : Nat} {m : Int} {G : gH} {p1 p2 : Int} (h1 : zP (zM m G) p1 p2 ∧ zM m G 26 p1 ≠ 0) : GX e b m m_M_airAt [(2, (m + 0)), (0, p1), (0, p2)] G 0 0 (fun v9 G9 => v9 = (zAir (zM m G) p1 p2 : Int) ∧ G9 = G) := by
  refine GM.ofEV (by decide) (Nat.le_of_ble_eq_true rfl) (sg_M_airAt_0 ?_)
  obtain ⟨⟨a1, a2, a3⟩, a5⟩ := h1
  have a4 : 0 ≤ p2 % zM m G 26 p1 ∧ p2 % zM m G 26 p1 < zM m G 26 p1 := ⟨Int.emod_nonneg _ a5, Int.emod_lt_of_pos _ (by omega)⟩
  exact ⟨by omega, a1, a2, by omega, by omega, by omega, rfl, rfl⟩
theorem c_M_isAt {e : gE} {b : Nat} {m : Int} {G : gH} {p1 p2 : Int} (h1 : 0 ≤ p1 ∧ p1 < 8) : GX e b m m_M_isAt [(2, (m + 0)), (0, p1), (0, p2)] G 0 0 (fun v9 G9 => v9 = ((if p2 < zM m G 20 p1 then 1 else 0) : Int) ∧ G9 = G) := by
  refine GM.ofEV (by decide) (Nat.le_of_ble_eq_true rfl) (sg_M_isAt_0 ?_)
  repeat' (first | apply And.intro | intro _)
  all_goals first | assumption | rfl | omega | (rw [if_pos (by omega)]) | (rw [if_neg (by omega)])
set_option maxRecDepth 20000 in
set_option maxHeartbeats 4000000 in
theorem sg_M_airIn_0 {e : gE} {b : Nat} {m : Int} {Z : Int → gH → Prop} {kc ks : Nat} {G : gH} {p1 p2 : Int} (h : ((0 ≤ p1 ∧ p1 < zM m G 787 0) → (0 ≤ p2 → (zP (zM m G) p1 p2) ∧ (((¬ (zMiss (zM m G) p1 p2)) → (zP (zM m G) p1 p2 ∧ zM m G 26 p1 ≠ 0) ∧ Z (zAir (zM m G) p1 p2) G) ∧ (zMiss (zM m G) p1 p2 → Z (-2) G)))) ∧ ((((¬ (0 ≤ p1 ∧ p1 < zM m G 787 0))) ∨ ((0 ≤ p1 ∧ p1 < zM m G 787 0) ∧ p2 < 0)) → Z (-1) G)) : EX e b m m_M_airIn Z kc ks 0 [(2, (m + 0)), (0, p1), (0, p2)] [] G := by
  obtain ⟨h, hJ12⟩ := h
  have kJ12 : (((¬ (0 ≤ p1 ∧ p1 < zM m G 787 0))) ∨ ((0 ≤ p1 ∧ p1 < zM m G 787 0) ∧ p2 < 0)) → EX e b m m_M_airIn Z kc ks 12 [(2, (m + 0)), (0, p1), (0, p2)] [] G := by
    intro rJ12
    have h := hJ12 rJ12
    refine e_iconst d_M_airIn_12 (by decide) ?_
    exact e_iret d_M_airIn_13 rfl h
  refine e_aload_n d_M_airIn_0 rfl ?_
  refine e_iload_n d_M_airIn_1 rfl ?_
  refine EV.inv fun hFf1 => ?_
  have f1 := (fx_mt 0 rfl hFf1).1
  refine e_callV m_M_isPlace 12 lw_good d_M_airIn_2 (k_M_isPlace _) ⟨Nat.le_of_ble_eq_true rfl, Nat.le_of_ble_eq_true rfl⟩ w_1760 w_1762 w_s66 (q_M _) rfl f1 (args := [(0, p1)]) rfl rfl (Nat.le_of_ble_eq_true rfl) (kc' := kc) (ks' := ks) (mc := 0) (ms := 0) rfl rfl (c_M_isPlace) (pureK ?_)
  refine e_if_eq (tgt := 12) d_M_airIn_5 (by decide) (fun q2 => ?_) (fun q3 => ?_)
  · replace q2 := gb0.mp q2
    exact kJ12 (Or.inl q2)
  · replace q3 := gb1.mp q3
    have h := h q3
    refine e_iload_n d_M_airIn_8 rfl ?_
    refine e_if_ge (tgt := 14) d_M_airIn_9 (by decide) (fun q4 => ?_) (fun q5 => ?_)
    · have h := h q4
      refine e_aload_n d_M_airIn_14 rfl ?_
      refine e_iload_n d_M_airIn_15 rfl ?_
      refine e_iload_n d_M_airIn_16 rfl ?_
      refine EV.inv fun hFf6 => ?_
      have f6 := (fx_mt 0 rfl hFf6).1
      obtain ⟨o7, h⟩ := h
      refine e_callV m_M_isMissing 12 lw_good d_M_airIn_17 (k_M_isMissing _) ⟨Nat.le_of_ble_eq_true rfl, Nat.le_of_ble_eq_true rfl⟩ w_1768 w_1770 w_s67 (q_M _) rfl f6 (args := [(0, p1), (0, p2)]) rfl rfl (Nat.le_of_ble_eq_true rfl) (kc' := kc) (ks' := ks) (mc := 0) (ms := 0) rfl rfl (c_M_isMissing o7) (pureK ?_)
      refine e_if_eq (tgt := 28) d_M_airIn_20 (by decide) (fun q8 => ?_) (fun q9 => ?_)
      · replace q8 := gb0.mp q8
        have h := h.1 q8
        refine e_aload_n d_M_airIn_28 rfl ?_
        refine e_iload_n d_M_airIn_29 rfl ?_
        refine e_iload_n d_M_airIn_30 rfl ?_
        refine EV.inv fun hFf10 => ?_
        have f10 := (fx_mt 0 rfl hFf10).1
        obtain ⟨o11, h⟩ := h
        refine e_callV m_M_airAt 12 lw_good d_M_airIn_31 (k_M_airAt _) ⟨Nat.le_of_ble_eq_true rfl, Nat.le_of_ble_eq_true rfl⟩ w_1776 w_1778 w_s68 (q_M _) rfl f10 (args := [(0, p1), (0, p2)]) rfl rfl (Nat.le_of_ble_eq_true rfl) (kc' := kc) (ks' := ks) (mc := 0) (ms := 0) rfl rfl (c_M_airAt o11) (pureK ?_)
        exact e_iret d_M_airIn_34 rfl h
      · replace q9 := gb1.mp q9
        have h := h.2 q9
        refine e_bipush d_M_airIn_23 (by decide) (by decide) ?_
        refine e_goto (tgt := 34) d_M_airIn_25 (by decide) ?_
        exact e_iret d_M_airIn_34 rfl h
    · exact kJ12 (Or.inr ⟨q3, q5⟩)
set_option maxRecDepth 20000 in
set_option maxHeartbeats 4000000 in
theorem sg_M_isGood_0 {e : gE} {b : Nat} {m : Int} {Z : Int → gH → Prop} {kc ks : Nat} {G : gH} {p1 p2 : Int} (h : ((zP (zM m G) p1 (zM m G 791 0)) ∧ (((¬ (zMiss (zM m G) p1 (zM m G 791 0))) → (zP (zM m G) p1 (zM m G 791 0) ∧ zM m G 26 p1 ≠ 0) ∧ ((0 ≤ p2 ∧ p2 < 4) ∧ ((zM m G 29 p2) ≤ (zAir (zM m G) p1 (zM m G 791 0)) → ((zAir (zM m G) p1 (zM m G 791 0)) ≤ (zM m G 30 p2) → Z 1 G)))) ∧ (zMiss (zM m G) p1 (zM m G 791 0) → Z 0 G))) ∧ ((((¬ (zMiss (zM m G) p1 (zM m G 791 0))) ∧ (zAir (zM m G) p1 (zM m G 791 0)) < (zM m G 29 p2)) ∨ ((¬ (zMiss (zM m G) p1 (zM m G 791 0))) ∧ (zM m G 29 p2) ≤ (zAir (zM m G) p1 (zM m G 791 0)) ∧ (zM m G 30 p2) < (zAir (zM m G) p1 (zM m G 791 0)))) → Z 0 G)) : EX e b m m_M_isGood Z kc ks 0 [(2, (m + 0)), (0, p1), (0, p2), (9, 0)] [] G := by
  obtain ⟨h, hJ12⟩ := h
  have kJ12 : (((¬ (zMiss (zM m G) p1 (zM m G 791 0))) ∧ (zAir (zM m G) p1 (zM m G 791 0)) < (zM m G 29 p2)) ∨ ((¬ (zMiss (zM m G) p1 (zM m G 791 0))) ∧ (zM m G 29 p2) ≤ (zAir (zM m G) p1 (zM m G 791 0)) ∧ (zM m G 30 p2) < (zAir (zM m G) p1 (zM m G 791 0)))) → EX e b m m_M_isGood Z kc ks 48 [(2, (m + 0)), (0, p1), (0, p2), (0, (zAir (zM m G) p1 (zM m G 791 0)))] [] G := by
    intro rJ12
    have h := hJ12 rJ12
    refine e_iconst d_M_isGood_48 (by decide) ?_
    exact e_zret .boolean d_M_isGood_49 rfl (by decide) h
  refine e_aload_n d_M_isGood_0 rfl ?_
  refine e_iload_n d_M_isGood_1 rfl ?_
  refine e_aload_n d_M_isGood_2 rfl ?_
  refine gx_M_259 d_M_isGood_3 rfl ?_
  refine EV.inv fun hFf1 => ?_
  have f1 := (fx_mt 0 rfl hFf1).1
  obtain ⟨o2, h⟩ := h
  refine e_callV m_M_isMissing 12 lw_good d_M_isGood_6 (k_M_isMissing _) ⟨Nat.le_of_ble_eq_true rfl, Nat.le_of_ble_eq_true rfl⟩ w_1768 w_1770 w_s67 (q_M _) rfl f1 (args := [(0, p1), (0, (zM m G 791 0))]) rfl rfl (Nat.le_of_ble_eq_true rfl) (kc' := kc) (ks' := ks) (mc := 0) (ms := 0) rfl rfl (c_M_isMissing o2) (pureK ?_)
  refine e_if_eq (tgt := 14) d_M_isGood_9 (by decide) (fun q3 => ?_) (fun q4 => ?_)
  · replace q3 := gb0.mp q3
    have h := h.1 q3
    refine e_aload_n d_M_isGood_14 rfl ?_
    refine e_iload_n d_M_isGood_15 rfl ?_
    refine e_aload_n d_M_isGood_16 rfl ?_
    refine gx_M_259 d_M_isGood_17 rfl ?_
    refine EV.inv fun hFf5 => ?_
    have f5 := (fx_mt 0 rfl hFf5).1
    obtain ⟨o6, h⟩ := h
    refine e_callV m_M_airAt 12 lw_good d_M_isGood_20 (k_M_airAt _) ⟨Nat.le_of_ble_eq_true rfl, Nat.le_of_ble_eq_true rfl⟩ w_1776 w_1778 w_s68 (q_M _) rfl f5 (args := [(0, p1), (0, (zM m G 791 0))]) rfl rfl (Nat.le_of_ble_eq_true rfl) (kc' := kc) (ks' := ks) (mc := 0) (ms := 0) rfl rfl (c_M_airAt o6) (pureK ?_)
    refine e_istore_n (ls' := [(2, (m + 0)), (0, p1), (0, p2), (0, (zAir (zM m G) p1 (zM m G 791 0)))]) d_M_isGood_23 (by decide) rfl ?_
    refine e_iload_n d_M_isGood_24 rfl ?_
    refine e_aload_n d_M_isGood_25 rfl ?_
    refine gx_M_100 d_M_isGood_26 rfl ?_
    refine e_iload_n d_M_isGood_29 rfl ?_
    obtain ⟨o7, h⟩ := h
    refine xM_iald 29 rfl d_M_isGood_30 o7 ?_
    refine e_icmp_lt (tgt := 48) d_M_isGood_31 (by decide) (fun q8 => ?_) (fun q9 => ?_)
    · exact kJ12 (Or.inl ⟨q3, q8⟩)
    · have h := h q9
      refine e_iload_n d_M_isGood_34 rfl ?_
      refine e_aload_n d_M_isGood_35 rfl ?_
      refine gx_M_103 d_M_isGood_36 rfl ?_
      refine e_iload_n d_M_isGood_39 rfl ?_
      refine xM_iald 30 rfl d_M_isGood_40 o7 ?_
      refine e_icmp_gt (tgt := 48) d_M_isGood_41 (by decide) (fun q10 => ?_) (fun q11 => ?_)
      · exact kJ12 (Or.inr ⟨q3, q9, q10⟩)
      · have h := h q11
        refine e_iconst d_M_isGood_44 (by decide) ?_
        refine e_goto (tgt := 49) d_M_isGood_45 (by decide) ?_
        exact e_zret .boolean d_M_isGood_49 rfl (by decide) h
  · replace q4 := gb1.mp q4
    have h := h.2 q4
    refine e_iconst d_M_isGood_12 (by decide) ?_
    exact e_zret .boolean d_M_isGood_13 rfl (by decide) h
set_option maxRecDepth 20000 in
set_option maxHeartbeats 4000000 in
theorem sg_M_price_0 {e : gE} {b : Nat} {m : Int} {Z : Int → gH → Prop} {kc ks : Nat} {G : gH} {p1 p2 : Int} (h : (0 ≤ p1 ∧ p1 < 16) ∧ ((0 ≤ p2 ∧ p2 < 5) ∧ (((¬ (zAt (zM m G) p1)) → (inI ((zM m G 25 p2) + 0)) ∧ (inI ((zM m G 9 p1) * ((zM m G 25 p2) + 0))) ∧ Z ((zM m G 9 p1) * ((zM m G 25 p2) + 0)) G) ∧ (zAt (zM m G) p1 → (inI ((zM m G 11 p1) - 400)) ∧ (0 ≤ ((zM m G 11 p1) - 400) ∧ ((zM m G 11 p1) - 400) < 5) ∧ (inI ((zM m G 25 p2) + (zM m G 25 ((zM m G 11 p1) - 400)))) ∧ (inI ((zM m G 9 p1) * ((zM m G 25 p2) + (zM m G 25 ((zM m G 11 p1) - 400))))) ∧ Z ((zM m G 9 p1) * ((zM m G 25 p2) + (zM m G 25 ((zM m G 11 p1) - 400)))) G)))) : EX e b m m_M_price Z kc ks 0 [(2, (m + 0)), (0, p1), (0, p2)] [] G := by
  refine e_aload_n d_M_price_0 rfl ?_
  refine gx_M_39 d_M_price_1 rfl ?_
  refine e_iload_n d_M_price_4 rfl ?_
  obtain ⟨o1, h⟩ := h
  refine xM_iald 9 rfl d_M_price_5 o1 ?_
  refine e_aload_n d_M_price_6 rfl ?_
  refine gx_M_88 d_M_price_7 rfl ?_
  refine e_iload_n d_M_price_10 rfl ?_
  obtain ⟨o2, h⟩ := h
  refine xM_iald 25 rfl d_M_price_11 o2 ?_
  refine e_aload_n d_M_price_12 rfl ?_
  refine e_iload_n d_M_price_13 rfl ?_
  refine EV.inv fun hFf3 => ?_
  have f3 := (fx_mt 0 rfl hFf3).1
  refine e_callV m_M_isInPlace 12 lw_good d_M_price_14 (k_M_isInPlace _) ⟨Nat.le_of_ble_eq_true rfl, Nat.le_of_ble_eq_true rfl⟩ w_1797 w_1799 w_s69 (q_M _) rfl f3 (args := [(0, p1)]) rfl rfl (Nat.le_of_ble_eq_true rfl) (kc' := kc) (ks' := ks) (mc := 0) (ms := 0) rfl rfl (c_M_isInPlace o1) (pureK ?_)
  refine e_if_eq (tgt := 38) d_M_price_17 (by decide) (fun q4 => ?_) (fun q5 => ?_)
  · replace q4 := gb0.mp q4
    have h := h.1 q4
    refine e_iconst d_M_price_38 (by decide) ?_
    obtain ⟨o8, h⟩ := h
    refine e_iadd d_M_price_39 o8 ?_
    obtain ⟨o9, h⟩ := h
    refine e_imul d_M_price_40 o9 ?_
    exact e_iret d_M_price_41 rfl h
  · replace q5 := gb1.mp q5
    have h := h.2 q5
    refine e_aload_n d_M_price_20 rfl ?_
    refine gx_M_88 d_M_price_21 rfl ?_
    refine e_aload_n d_M_price_24 rfl ?_
    refine gx_M_45 d_M_price_25 rfl ?_
    refine e_iload_n d_M_price_28 rfl ?_
    refine xM_iald 11 rfl d_M_price_29 o1 ?_
    refine e_sipush d_M_price_30 (by decide) (by decide) ?_
    obtain ⟨o6, h⟩ := h
    refine e_isub d_M_price_33 o6 ?_
    obtain ⟨o7, h⟩ := h
    refine xM_iald 25 rfl d_M_price_34 o7 ?_
    refine e_goto (tgt := 39) d_M_price_35 (by decide) ?_
    obtain ⟨o10, h⟩ := h
    refine e_iadd d_M_price_39 o10 ?_
    obtain ⟨o11, h⟩ := h
    refine e_imul d_M_price_40 o11 ?_
    exact e_iret d_M_price_41 rfl h
set_option maxRecDepth 20000 in
set_option maxHeartbeats 4000000 in
theorem sg_M_areAlike_0 {e : gE} {b : Nat} {m : Int} {Z : Int → gH → Prop} {kc ks : Nat} {G : gH} {p1 p2 p3 : Int} (h : ((0 ≤ p1 ∧ p1 < 8) ∧ (p3 < zM m G 20 p1 → (0 ≤ p2 ∧ p2 < 8) ∧ (p3 < zM m G 20 p2 → (inI (60 * p1)) ∧ ((inI ((60 * p1) + p3)) ∧ ((0 ≤ ((60 * p1) + p3) ∧ ((60 * p1) + p3) < 480) ∧ ((inI (60 * p2)) ∧ ((inI ((60 * p2) + p3)) ∧ ((0 ≤ ((60 * p2) + p3) ∧ ((60 * p2) + p3) < 480) ∧ ((zM m G 22 ((60 * p1) + p3)) = (zM m G 22 ((60 * p2) + p3)) → Z 1 G))))))))) ∧ (((¬ (p3 < zM m G 20 p1)) ∨ (p3 < zM m G 20 p1 ∧ (¬ (p3 < zM m G 20 p2))) ∨ (p3 < zM m G 20 p1 ∧ p3 < zM m G 20 p2 ∧ (zM m G 22 ((60 * p1) + p3)) ≠ (zM m G 22 ((60 * p2) + p3)))) → Z 0 G)) : EX e b m m_M_areAlike Z kc ks 0 [(2, (m + 0)), (0, p1), (0, p2), (0, p3)] [] G := by
  obtain ⟨h, hJ17⟩ := h
  have kJ17 : ((¬ (p3 < zM m G 20 p1)) ∨ (p3 < zM m G 20 p1 ∧ (¬ (p3 < zM m G 20 p2))) ∨ (p3 < zM m G 20 p1 ∧ p3 < zM m G 20 p2 ∧ (zM m G 22 ((60 * p1) + p3)) ≠ (zM m G 22 ((60 * p2) + p3)))) → EX e b m m_M_areAlike Z kc ks 48 [(2, (m + 0)), (0, p1), (0, p2), (0, p3)] [] G := by
    intro rJ17
    have h := hJ17 rJ17
    refine e_iconst d_M_areAlike_48 (by decide) ?_
    exact e_zret .boolean d_M_areAlike_49 rfl (by decide) h
  refine e_aload_n d_M_areAlike_0 rfl ?_
  refine e_iload_n d_M_areAlike_1 rfl ?_
  refine e_iload_n d_M_areAlike_2 rfl ?_
  refine EV.inv fun hFf1 => ?_
  have f1 := (fx_mt 0 rfl hFf1).1
  obtain ⟨o2, h⟩ := h
  refine e_callV m_M_isAt 12 lw_good d_M_areAlike_3 (k_M_isAt _) ⟨Nat.le_of_ble_eq_true rfl, Nat.le_of_ble_eq_true rfl⟩ w_1867 w_1869 w_s76 (q_M _) rfl f1 (args := [(0, p1), (0, p3)]) rfl rfl (Nat.le_of_ble_eq_true rfl) (kc' := kc) (ks' := ks) (mc := 0) (ms := 0) rfl rfl (c_M_isAt o2) (pureK ?_)
  refine e_if_eq (tgt := 48) d_M_areAlike_6 (by decide) (fun q3 => ?_) (fun q4 => ?_)
  · replace q3 := gb0.mp q3
    exact kJ17 (Or.inl q3)
  · replace q4 := gb1.mp q4
    have h := h q4
    refine e_aload_n d_M_areAlike_9 rfl ?_
    refine e_iload_n d_M_areAlike_10 rfl ?_
    refine e_iload_n d_M_areAlike_11 rfl ?_
    refine EV.inv fun hFf5 => ?_
    have f5 := (fx_mt 0 rfl hFf5).1
    obtain ⟨o6, h⟩ := h
    refine e_callV m_M_isAt 12 lw_good d_M_areAlike_12 (k_M_isAt _) ⟨Nat.le_of_ble_eq_true rfl, Nat.le_of_ble_eq_true rfl⟩ w_1867 w_1869 w_s76 (q_M _) rfl f5 (args := [(0, p2), (0, p3)]) rfl rfl (Nat.le_of_ble_eq_true rfl) (kc' := kc) (ks' := ks) (mc := 0) (ms := 0) rfl rfl (c_M_isAt o6) (pureK ?_)
    refine e_if_eq (tgt := 48) d_M_areAlike_15 (by decide) (fun q7 => ?_) (fun q8 => ?_)
    · replace q7 := gb0.mp q7
      exact kJ17 (Or.inr (Or.inl ⟨q4, q7⟩))
    · replace q8 := gb1.mp q8
      have h := h q8
      refine e_aload_n d_M_areAlike_18 rfl ?_
      refine gx_M_78 d_M_areAlike_19 rfl ?_
      refine e_bipush d_M_areAlike_22 (by decide) (by decide) ?_
      refine e_iload_n d_M_areAlike_24 rfl ?_
      obtain ⟨o9, h⟩ := h
      refine e_imul d_M_areAlike_25 o9 ?_
      refine e_iload_n d_M_areAlike_26 rfl ?_
      obtain ⟨o10, h⟩ := h
      refine e_iadd d_M_areAlike_27 o10 ?_
      obtain ⟨o11, h⟩ := h
      refine xM_lald 22 rfl d_M_areAlike_28 o11 ?_
      refine e_aload_n d_M_areAlike_29 rfl ?_
      refine gx_M_78 d_M_areAlike_30 rfl ?_
      refine e_bipush d_M_areAlike_33 (by decide) (by decide) ?_
      refine e_iload_n d_M_areAlike_35 rfl ?_
      obtain ⟨o12, h⟩ := h
      refine e_imul d_M_areAlike_36 o12 ?_
      refine e_iload_n d_M_areAlike_37 rfl ?_
      obtain ⟨o13, h⟩ := h
      refine e_iadd d_M_areAlike_38 o13 ?_
      obtain ⟨o14, h⟩ := h
      refine xM_lald 22 rfl d_M_areAlike_39 o14 ?_
      refine e_lcmp_ne (tgt := 48) d_M_areAlike_40 d_M_areAlike_41 (by decide) (fun q15 => ?_) (fun q16 => ?_)
      · exact kJ17 (Or.inr (Or.inr ⟨q4, q8, q15⟩))
      · have h := h q16
        refine e_iconst d_M_areAlike_44 (by decide) ?_
        refine e_goto (tgt := 49) d_M_areAlike_45 (by decide) ?_
        exact e_zret .boolean d_M_areAlike_49 rfl (by decide) h
abbrev zHas (A : zA) (s i : Int) : Prop := 0 ≤ i ∧ i < A 20 s
abbrev zAlike (A : zA) (a b t : Int) : Prop := t < A 20 a ∧ t < A 20 b ∧ A 22 (60 * a + t) = A 22 (60 * b + t)
theorem c_M_areAlike {e : gE} {b : Nat} {m : Int} {G : gH} {p1 p2 p3 : Int} (h1 : (0 ≤ p1 ∧ p1 < 8) ∧ zM m G 20 p1 ≤ 60) (h2 : (0 ≤ p2 ∧ p2 < 8) ∧ zM m G 20 p2 ≤ 60) (h3 : 0 ≤ p3) : GX e b m m_M_areAlike [(2, (m + 0)), (0, p1), (0, p2), (0, p3)] G 0 0 (fun v9 G9 => v9 = ((if zAlike (zM m G) p1 p2 p3 then 1 else 0) : Int) ∧ G9 = G) := by
  refine GM.ofEV (by decide) (Nat.le_of_ble_eq_true rfl) (sg_M_areAlike_0 ?_)
  repeat' (first | apply And.intro | intro _)
  all_goals first | assumption | rfl | omega | (rw [if_pos (by omega)]) | (rw [if_neg (by omega)])
abbrev zGood (A : zA) (p k : Int) : Prop := ¬ zMiss A p (A 791 0) ∧ A 29 k ≤ zAir A p (A 791 0) ∧ zAir A p (A 791 0) ≤ A 30 k
theorem c_M_isGood {e : gE} {b : Nat} {m : Int} {G : gH} {p1 p2 : Int} (h1 : zP (zM m G) p1 (zM m G 791 0)) (h2 : 0 ≤ p2 ∧ p2 < 4) : GX e b m m_M_isGood [(2, (m + 0)), (0, p1), (0, p2)] G 0 0 (fun v9 G9 => v9 = ((if zGood (zM m G) p1 p2 then 1 else 0) : Int) ∧ G9 = G) := by
  refine GM.ofEV (by decide) (Nat.le_of_ble_eq_true rfl) (sg_M_isGood_0 ?_)
  repeat' (first | apply And.intro | intro _)
  all_goals first | assumption | rfl | omega | (rw [if_pos (by omega)]) | (rw [if_neg (by omega)])
def zPrice (A : zA) (t p : Int) : Int := A 9 t * (A 25 p + if zAt A t then A 25 (A 11 t - 400) else 0)
theorem c_M_price {e : gE} {b : Nat} {m : Int} {G : gH} {p1 p2 : Int} (h1 : zB 512 (zM m G)) (h2 : 0 ≤ p1 ∧ p1 < 16) (h3 : 0 ≤ p2 ∧ p2 < 5) (h4 : zAt (zM m G) p1 → zM m G 11 p1 < 405) : GX e b m m_M_price [(2, (m + 0)), (0, p1), (0, p2)] G 0 0 (fun v9 G9 => v9 = (zPrice (zM m G) p1 p2 : Int) ∧ G9 = G) := by
  refine GM.ofEV (by decide) (Nat.le_of_ble_eq_true rfl) (sg_M_price_0 ?_)
  have b1 : 0 ≤ zM m G 9 p1 ∧ zM m G 9 p1 ≤ 4 := h1 9 p1
  have b2 : 0 ≤ zM m G 25 p2 ∧ zM m G 25 p2 ≤ 9 := h1 25 p2
  have b3 : 0 ≤ zM m G 25 (zM m G 11 p1 - 400) ∧ zM m G 25 (zM m G 11 p1 - 400) ≤ 9 := h1 25 _
  have b4 := zmul_b b1 (show 0 ≤ zM m G 25 p2 + 0 ∧ zM m G 25 p2 + 0 ≤ 18 from by omega)
  have b5 := zmul_b b1 (show 0 ≤ zM m G 25 p2 + zM m G 25 (zM m G 11 p1 - 400) ∧ zM m G 25 p2 + zM m G 25 (zM m G 11 p1 - 400) ≤ 18 from by omega)
  have b6 : 0 ≤ zM m G 11 p1 ∧ zM m G 11 p1 ≤ 609 := h1 11 p1
  refine ⟨h2, h3, fun q => ⟨by omega, by omega, ?_, rfl⟩, fun q => ⟨by omega, by have := h4 q; have := q.1; omega, by omega, by omega, ?_, rfl⟩⟩
  · unfold zPrice; rw [if_neg q]
  · unfold zPrice; rw [if_pos q]
