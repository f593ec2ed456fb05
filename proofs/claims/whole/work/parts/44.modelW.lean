/-! THE REFERENCE, 22: whether kinds are kept -/
abbrev zMv (A : zA) : Int → Prop := fun t => A 11 t = 300 ∨ (zAt A t ∧ ¬ zGood A (A 11 t - 400) (A 7 t))
/-- the place of a thing when those that are moved are where E says -/
def zPo (A : zA) (E : Int → Int) (t : Int) : Int := if zMv A t then E t else if zAt A t then A 11 t - 400 else -1
def zOut (A : zA) (E : Int → Int) (g k : Int) : Int := zS (fun t => if A 7 t = k ∧ zPo A E t ≠ -1 ∧ A 24 (zPo A E t) ≠ g then 1 else 0) (A 785 0)
def zKp (A : zA) (E : Int → Int) : Prop := ∀ g k, 0 ≤ g → g < 4 → 0 ≤ k → k < 4 → A 31 k ≤ zOut A E g k
set_option maxRecDepth 20000 in
set_option maxHeartbeats 4000000 in
theorem sg_M_isKept_0 {e : gE} {b : Nat} {m : Int} {Z : Int → gH → Prop} {kc ks : Nat} {G : gH} {p1 : Int} (h : EX e b m m_M_isKept Z kc ks 2 [(2, (m + 0)), (0, p1), (0, 0), (9, 0), (9, 0), (9, 0), (9, 0), (9, 0)] [] G) : EX e b m m_M_isKept Z kc ks 0 [(2, (m + 0)), (0, p1), (9, 0), (9, 0), (9, 0), (9, 0), (9, 0), (9, 0)] [] G := by
  refine e_iconst d_M_isKept_0 (by decide) ?_
  refine e_istore_n (ls' := [(2, (m + 0)), (0, p1), (0, 0), (9, 0), (9, 0), (9, 0), (9, 0), (9, 0)]) d_M_isKept_1 (by decide) rfl ?_
  exact e_forget (ls' := [(2, (m + 0)), (0, p1), (0, 0), (9, 0), (9, 0), (9, 0), (9, 0), (9, 0)]) ⟨Or.inr rfl, Or.inr rfl, Or.inr rfl, Or.inl rfl, Or.inl rfl, Or.inl rfl, Or.inl rfl, Or.inl rfl, trivial⟩ h
set_option maxRecDepth 20000 in
set_option maxHeartbeats 4000000 in
theorem sg_M_isKept_2 {e : gE} {b : Nat} {m : Int} {Z : Int → gH → Prop} {kc ks : Nat} {G : gH} {p1 x2 : Int} (h : (4 ≤ x2 → Z 1 G) ∧ (x2 < 4 → EX e b m m_M_isKept Z kc ks 9 [(2, (m + 0)), (0, p1), (0, x2), (0, 0), (9, 0), (9, 0), (9, 0), (9, 0)] [] G)) : EX e b m m_M_isKept Z kc ks 2 [(2, (m + 0)), (0, p1), (0, x2), (9, 0), (9, 0), (9, 0), (9, 0), (9, 0)] [] G := by
  refine e_iload_n d_M_isKept_2 rfl ?_
  refine e_iconst d_M_isKept_3 (by decide) ?_
  refine e_icmp_ge (tgt := 153) d_M_isKept_4 (by decide) (fun q1 => ?_) (fun q2 => ?_)
  · have h := h.1 q1
    refine e_iconst d_M_isKept_153 (by decide) ?_
    exact e_zret .boolean d_M_isKept_154 rfl (by decide) h
  · have h := h.2 q2
    refine e_iconst d_M_isKept_7 (by decide) ?_
    refine e_istore_n (ls' := [(2, (m + 0)), (0, p1), (0, x2), (0, 0), (9, 0), (9, 0), (9, 0), (9, 0)]) d_M_isKept_8 (by decide) rfl ?_
    exact e_forget (ls' := [(2, (m + 0)), (0, p1), (0, x2), (0, 0), (9, 0), (9, 0), (9, 0), (9, 0)]) ⟨Or.inr rfl, Or.inr rfl, Or.inr rfl, Or.inr rfl, Or.inl rfl, Or.inl rfl, Or.inl rfl, Or.inl rfl, trivial⟩ h
set_option maxRecDepth 20000 in
set_option maxHeartbeats 4000000 in
theorem sg_M_isKept_9 {e : gE} {b : Nat} {m : Int} {Z : Int → gH → Prop} {kc ks : Nat} {G : gH} {p1 x2 x3 : Int} (h : (4 ≤ x3 → (inI (x2 + 1)) ∧ EX e b m m_M_isKept Z kc ks 2 [(2, (m + 0)), (0, p1), (0, (x2 + 1)), (9, 0), (9, 0), (9, 0), (9, 0), (9, 0)] [] G) ∧ (x3 < 4 → EX e b m m_M_isKept Z kc ks 20 [(2, (m + 0)), (0, p1), (0, x2), (0, x3), (0, 0), (0, 0), (9, 0), (9, 0)] [] G)) : EX e b m m_M_isKept Z kc ks 9 [(2, (m + 0)), (0, p1), (0, x2), (0, x3), (9, 0), (9, 0), (9, 0), (9, 0)] [] G := by
  refine e_iload_n d_M_isKept_9 rfl ?_
  refine e_iconst d_M_isKept_10 (by decide) ?_
  refine e_icmp_ge (tgt := 147) d_M_isKept_11 (by decide) (fun q1 => ?_) (fun q2 => ?_)
  · have h := h.1 q1
    obtain ⟨o3, h⟩ := h
    refine e_iinc (ls' := [(2, (m + 0)), (0, p1), (0, (x2 + 1)), (0, x3), (9, 0), (9, 0), (9, 0), (9, 0)]) d_M_isKept_147 rfl (by decide) o3 rfl ?_
    refine e_goto (tgt := 2) d_M_isKept_150 (by decide) ?_
    exact e_forget (ls' := [(2, (m + 0)), (0, p1), (0, (x2 + 1)), (9, 0), (9, 0), (9, 0), (9, 0), (9, 0)]) ⟨Or.inr rfl, Or.inr rfl, Or.inr rfl, Or.inl rfl, Or.inl rfl, Or.inl rfl, Or.inl rfl, Or.inl rfl, trivial⟩ h
  · have h := h.2 q2
    refine e_iconst d_M_isKept_14 (by decide) ?_
    refine e_istore (ls' := [(2, (m + 0)), (0, p1), (0, x2), (0, x3), (0, 0), (9, 0), (9, 0), (9, 0)]) d_M_isKept_15 (by decide) rfl ?_
    refine e_iconst d_M_isKept_17 (by decide) ?_
    refine e_istore (ls' := [(2, (m + 0)), (0, p1), (0, x2), (0, x3), (0, 0), (0, 0), (9, 0), (9, 0)]) d_M_isKept_18 (by decide) rfl ?_
    exact e_forget (ls' := [(2, (m + 0)), (0, p1), (0, x2), (0, x3), (0, 0), (0, 0), (9, 0), (9, 0)]) ⟨Or.inr rfl, Or.inr rfl, Or.inr rfl, Or.inr rfl, Or.inr rfl, Or.inr rfl, Or.inl rfl, Or.inl rfl, trivial⟩ h
set_option maxRecDepth 20000 in
set_option maxHeartbeats 4000000 in
theorem sg_M_isKept_20 {e : gE} {b : Nat} {m : Int} {Z : Int → gH → Prop} {kc ks : Nat} {G : gH} {p1 x2 x3 x4 x5 : Int} (h : ((zM m G 785 0) ≤ x5 → (0 ≤ x3 ∧ x3 < 4) ∧ (((zM m G 31 x3) ≤ x4 → (inI (x3 + 1)) ∧ EX e b m m_M_isKept Z kc ks 9 [(2, (m + 0)), (0, p1), (0, x2), (0, (x3 + 1)), (9, 0), (9, 0), (9, 0), (9, 0)] [] G) ∧ (x4 < (zM m G 31 x3) → Z 0 G))) ∧ (x5 < (zM m G 785 0) → (0 ≤ x5 ∧ x5 < 16) ∧ (((¬ (zAt (zM m G) x5)) → EX e b m m_M_isKept Z kc ks 58 [(2, (m + 0)), (0, p1), (0, x2), (0, x3), (0, x4), (0, x5), (0, (-1)), (0, 0)] [] G) ∧ (zAt (zM m G) x5 → (inI ((zM m G 11 x5) - 400)) ∧ EX e b m m_M_isKept Z kc ks 58 [(2, (m + 0)), (0, p1), (0, x2), (0, x3), (0, x4), (0, x5), (0, ((zM m G 11 x5) - 400)), (0, 0)] [] G)))) : EX e b m m_M_isKept Z kc ks 20 [(2, (m + 0)), (0, p1), (0, x2), (0, x3), (0, x4), (0, x5), (9, 0), (9, 0)] [] G := by
  refine e_iload d_M_isKept_20 rfl ?_
  refine e_aload_n d_M_isKept_22 rfl ?_
  refine gx_M_151 d_M_isKept_23 rfl ?_
  refine e_icmp_ge (tgt := 128) d_M_isKept_26 (by decide) (fun q1 => ?_) (fun q2 => ?_)
  · have h := h.1 q1
    refine e_iload d_M_isKept_128 rfl ?_
    refine e_aload_n d_M_isKept_130 rfl ?_
    refine gx_M_106 d_M_isKept_131 rfl ?_
    refine e_iload_n d_M_isKept_134 rfl ?_
    obtain ⟨o3, h⟩ := h
    refine xM_iald 31 rfl d_M_isKept_135 o3 ?_
    refine e_icmp_ge (tgt := 141) d_M_isKept_136 (by decide) (fun q4 => ?_) (fun q5 => ?_)
    · have h := h.1 q4
      obtain ⟨o6, h⟩ := h
      refine e_iinc (ls' := [(2, (m + 0)), (0, p1), (0, x2), (0, (x3 + 1)), (0, x4), (0, x5), (9, 0), (9, 0)]) d_M_isKept_141 rfl (by decide) o6 rfl ?_
      refine e_goto (tgt := 9) d_M_isKept_144 (by decide) ?_
      exact e_forget (ls' := [(2, (m + 0)), (0, p1), (0, x2), (0, (x3 + 1)), (9, 0), (9, 0), (9, 0), (9, 0)]) ⟨Or.inr rfl, Or.inr rfl, Or.inr rfl, Or.inr rfl, Or.inl rfl, Or.inl rfl, Or.inl rfl, Or.inl rfl, trivial⟩ h
    · have h := h.2 q5
      refine e_iconst d_M_isKept_139 (by decide) ?_
      exact e_zret .boolean d_M_isKept_140 rfl (by decide) h
  · have h := h.2 q2
    refine e_aload_n d_M_isKept_29 rfl ?_
    refine e_iload d_M_isKept_30 rfl ?_
    refine EV.inv fun hFf7 => ?_
    have f7 := (fx_mt 0 rfl hFf7).1
    obtain ⟨o8, h⟩ := h
    refine e_callV m_M_isInPlace 12 lw_good d_M_isKept_32 (k_M_isInPlace _) ⟨Nat.le_of_ble_eq_true rfl, Nat.le_of_ble_eq_true rfl⟩ w_1797 w_1799 w_s69 (q_M _) rfl f7 (args := [(0, x5)]) rfl rfl (Nat.le_of_ble_eq_true rfl) (kc' := kc) (ks' := ks) (mc := 0) (ms := 0) rfl rfl (c_M_isInPlace o8) (pureK ?_)
    refine e_if_eq (tgt := 52) d_M_isKept_35 (by decide) (fun q9 => ?_) (fun q10 => ?_)
    · replace q9 := gb0.mp q9
      have h := h.1 q9
      refine e_iconst d_M_isKept_52 (by decide) ?_
      refine e_istore (ls' := [(2, (m + 0)), (0, p1), (0, x2), (0, x3), (0, x4), (0, x5), (0, (-1)), (9, 0)]) d_M_isKept_53 (by decide) rfl ?_
      refine e_iconst d_M_isKept_55 (by decide) ?_
      refine e_istore (ls' := [(2, (m + 0)), (0, p1), (0, x2), (0, x3), (0, x4), (0, x5), (0, (-1)), (0, 0)]) d_M_isKept_56 (by decide) rfl ?_
      exact e_forget (ls' := [(2, (m + 0)), (0, p1), (0, x2), (0, x3), (0, x4), (0, x5), (0, (-1)), (0, 0)]) ⟨Or.inr rfl, Or.inr rfl, Or.inr rfl, Or.inr rfl, Or.inr rfl, Or.inr rfl, Or.inr rfl, Or.inr rfl, trivial⟩ h
    · replace q10 := gb1.mp q10
      have h := h.2 q10
      refine e_aload_n d_M_isKept_38 rfl ?_
      refine gx_M_45 d_M_isKept_39 rfl ?_
      refine e_iload d_M_isKept_42 rfl ?_
      refine xM_iald 11 rfl d_M_isKept_44 o8 ?_
      refine e_sipush d_M_isKept_45 (by decide) (by decide) ?_
      obtain ⟨o11, h⟩ := h
      refine e_isub d_M_isKept_48 o11 ?_
      refine e_goto (tgt := 53) d_M_isKept_49 (by decide) ?_
      refine e_istore (ls' := [(2, (m + 0)), (0, p1), (0, x2), (0, x3), (0, x4), (0, x5), (0, ((zM m G 11 x5) - 400)), (9, 0)]) d_M_isKept_53 (by decide) rfl ?_
      refine e_iconst d_M_isKept_55 (by decide) ?_
      refine e_istore (ls' := [(2, (m + 0)), (0, p1), (0, x2), (0, x3), (0, x4), (0, x5), (0, ((zM m G 11 x5) - 400)), (0, 0)]) d_M_isKept_56 (by decide) rfl ?_
      exact e_forget (ls' := [(2, (m + 0)), (0, p1), (0, x2), (0, x3), (0, x4), (0, x5), (0, ((zM m G 11 x5) - 400)), (0, 0)]) ⟨Or.inr rfl, Or.inr rfl, Or.inr rfl, Or.inr rfl, Or.inr rfl, Or.inr rfl, Or.inr rfl, Or.inr rfl, trivial⟩ h
set_option maxRecDepth 20000 in
set_option maxHeartbeats 4000000 in
theorem sg_M_isKept_58 {e : gE} {b : Nat} {m : Int} {Z : Int → gH → Prop} {kc ks : Nat} {G : gH} {p1 x2 x3 x4 x5 x6 x7 : Int} (h : ((p1 ≤ x7 → (0 ≤ x5 ∧ x5 < 16) ∧ ((zM m G 7 x5) = x3 → (x6 ≠ (-1) → (0 ≤ x6 ∧ x6 < 5) ∧ ((zM m G 24 x6) ≠ x2 → (inI (x4 + 1)) ∧ (inI (x5 + 1)) ∧ EX e b m m_M_isKept Z kc ks 20 [(2, (m + 0)), (0, p1), (0, x2), (0, x3), (0, (x4 + 1)), (0, (x5 + 1)), (9, 0), (9, 0)] [] G)))) ∧ (x7 < p1 → (0 ≤ x7 ∧ x7 < 16) ∧ (((G 1 (m + 43) x7) ≠ x5 → (inI (x7 + 1)) ∧ EX e b m m_M_isKept Z kc ks 58 [(2, (m + 0)), (0, p1), (0, x2), (0, x3), (0, x4), (0, x5), (0, x6), (0, (x7 + 1))] [] G) ∧ ((G 1 (m + 43) x7) = x5 → (inI (x7 + 1)) ∧ EX e b m m_M_isKept Z kc ks 58 [(2, (m + 0)), (0, p1), (0, x2), (0, x3), (0, x4), (0, x5), (0, (G 1 (m + 41) x7)), (0, (x7 + 1))] [] G)))) ∧ (((p1 ≤ x7 ∧ (zM m G 7 x5) ≠ x3) ∨ (p1 ≤ x7 ∧ (zM m G 7 x5) = x3 ∧ x6 = (-1)) ∨ (p1 ≤ x7 ∧ (zM m G 7 x5) = x3 ∧ x6 ≠ (-1) ∧ (zM m G 24 x6) = x2)) → (inI (x5 + 1)) ∧ EX e b m m_M_isKept Z kc ks 20 [(2, (m + 0)), (0, p1), (0, x2), (0, x3), (0, x4), (0, (x5 + 1)), (9, 0), (9, 0)] [] G)) : EX e b m m_M_isKept Z kc ks 58 [(2, (m + 0)), (0, p1), (0, x2), (0, x3), (0, x4), (0, x5), (0, x6), (0, x7)] [] G := by
  obtain ⟨h, hJ17⟩ := h
  have kJ17 : ((p1 ≤ x7 ∧ (zM m G 7 x5) ≠ x3) ∨ (p1 ≤ x7 ∧ (zM m G 7 x5) = x3 ∧ x6 = (-1)) ∨ (p1 ≤ x7 ∧ (zM m G 7 x5) = x3 ∧ x6 ≠ (-1) ∧ (zM m G 24 x6) = x2)) → EX e b m m_M_isKept Z kc ks 122 [(2, (m + 0)), (0, p1), (0, x2), (0, x3), (0, x4), (0, x5), (0, x6), (0, x7)] [] G := by
    intro rJ17
    have h := hJ17 rJ17
    obtain ⟨o18, h⟩ := h
    refine e_iinc (ls' := [(2, (m + 0)), (0, p1), (0, x2), (0, x3), (0, x4), (0, (x5 + 1)), (0, x6), (0, x7)]) d_M_isKept_122 rfl (by decide) o18 rfl ?_
    refine e_goto (tgt := 20) d_M_isKept_125 (by decide) ?_
    exact e_forget (ls' := [(2, (m + 0)), (0, p1), (0, x2), (0, x3), (0, x4), (0, (x5 + 1)), (9, 0), (9, 0)]) ⟨Or.inr rfl, Or.inr rfl, Or.inr rfl, Or.inr rfl, Or.inr rfl, Or.inr rfl, Or.inl rfl, Or.inl rfl, trivial⟩ h
  refine e_iload d_M_isKept_58 rfl ?_
  refine e_iload_n d_M_isKept_60 rfl ?_
  refine e_icmp_ge (tgt := 91) d_M_isKept_61 (by decide) (fun q1 => ?_) (fun q2 => ?_)
  · have h := h.1 q1
    refine e_aload_n d_M_isKept_91 rfl ?_
    refine gx_M_33 d_M_isKept_92 rfl ?_
    refine e_iload d_M_isKept_95 rfl ?_
    obtain ⟨o3, h⟩ := h
    refine xM_iald 7 rfl d_M_isKept_97 o3 ?_
    refine e_iload_n d_M_isKept_98 rfl ?_
    refine e_icmp_ne (tgt := 122) d_M_isKept_99 (by decide) (fun q4 => ?_) (fun q5 => ?_)
    · exact kJ17 (Or.inl ⟨q1, q4⟩)
    · have h := h q5
      refine e_iload d_M_isKept_102 rfl ?_
      refine e_iconst d_M_isKept_104 (by decide) ?_
      refine e_icmp_eq (tgt := 122) d_M_isKept_105 (by decide) (fun q6 => ?_) (fun q7 => ?_)
      · exact kJ17 (Or.inr (Or.inl ⟨q1, q5, q6⟩))
      · have h := h q7
        refine e_aload_n d_M_isKept_108 rfl ?_
        refine gx_M_85 d_M_isKept_109 rfl ?_
        refine e_iload d_M_isKept_112 rfl ?_
        obtain ⟨o8, h⟩ := h
        refine xM_iald 24 rfl d_M_isKept_114 o8 ?_
        refine e_iload_n d_M_isKept_115 rfl ?_
        refine e_icmp_eq (tgt := 122) d_M_isKept_116 (by decide) (fun q9 => ?_) (fun q10 => ?_)
        · exact kJ17 (Or.inr (Or.inr ⟨q1, q5, q7, q9⟩))
        · have h := h q10
          obtain ⟨o11, h⟩ := h
          refine e_iinc (ls' := [(2, (m + 0)), (0, p1), (0, x2), (0, x3), (0, (x4 + 1)), (0, x5), (0, x6), (0, x7)]) d_M_isKept_119 rfl (by decide) o11 rfl ?_
          obtain ⟨o19, h⟩ := h
          refine e_iinc (ls' := [(2, (m + 0)), (0, p1), (0, x2), (0, x3), (0, (x4 + 1)), (0, (x5 + 1)), (0, x6), (0, x7)]) d_M_isKept_122 rfl (by decide) o19 rfl ?_
          refine e_goto (tgt := 20) d_M_isKept_125 (by decide) ?_
          exact e_forget (ls' := [(2, (m + 0)), (0, p1), (0, x2), (0, x3), (0, (x4 + 1)), (0, (x5 + 1)), (9, 0), (9, 0)]) ⟨Or.inr rfl, Or.inr rfl, Or.inr rfl, Or.inr rfl, Or.inr rfl, Or.inr rfl, Or.inl rfl, Or.inl rfl, trivial⟩ h
  · have h := h.2 q2
    refine e_aload_n d_M_isKept_64 rfl ?_
    refine gx_M_142 d_M_isKept_65 rfl ?_
    refine e_iload d_M_isKept_68 rfl ?_
    obtain ⟨o12, h⟩ := h
    refine xM_iald 43 rfl d_M_isKept_70 o12 ?_
    refine e_iload d_M_isKept_71 rfl ?_
    refine e_icmp_ne (tgt := 85) d_M_isKept_73 (by decide) (fun q13 => ?_) (fun q14 => ?_)
    · have h := h.1 q13
      obtain ⟨o15, h⟩ := h
      refine e_iinc (ls' := [(2, (m + 0)), (0, p1), (0, x2), (0, x3), (0, x4), (0, x5), (0, x6), (0, (x7 + 1))]) d_M_isKept_85 rfl (by decide) o15 rfl ?_
      refine e_goto (tgt := 58) d_M_isKept_88 (by decide) ?_
      exact e_forget (ls' := [(2, (m + 0)), (0, p1), (0, x2), (0, x3), (0, x4), (0, x5), (0, x6), (0, (x7 + 1))]) ⟨Or.inr rfl, Or.inr rfl, Or.inr rfl, Or.inr rfl, Or.inr rfl, Or.inr rfl, Or.inr rfl, Or.inr rfl, trivial⟩ h
    · have h := h.2 q14
      refine e_aload_n d_M_isKept_76 rfl ?_
      refine gx_M_136 d_M_isKept_77 rfl ?_
      refine e_iload d_M_isKept_80 rfl ?_
      refine xM_iald 41 rfl d_M_isKept_82 o12 ?_
      refine e_istore (ls' := [(2, (m + 0)), (0, p1), (0, x2), (0, x3), (0, x4), (0, x5), (0, (G 1 (m + 41) x7)), (0, x7)]) d_M_isKept_83 (by decide) rfl ?_
      obtain ⟨o16, h⟩ := h
      refine e_iinc (ls' := [(2, (m + 0)), (0, p1), (0, x2), (0, x3), (0, x4), (0, x5), (0, (G 1 (m + 41) x7)), (0, (x7 + 1))]) d_M_isKept_85 rfl (by decide) o16 rfl ?_
      refine e_goto (tgt := 58) d_M_isKept_88 (by decide) ?_
      exact e_forget (ls' := [(2, (m + 0)), (0, p1), (0, x2), (0, x3), (0, x4), (0, x5), (0, (G 1 (m + 41) x7)), (0, (x7 + 1))]) ⟨Or.inr rfl, Or.inr rfl, Or.inr rfl, Or.inr rfl, Or.inr rfl, Or.inr rfl, Or.inr rfl, Or.inr rfl, trivial⟩ h
theorem zPo_b {A : zA} {E : Int → Int} {t : Int} (hP : zPl A) (hE : zMv A t → 0 ≤ E t ∧ E t < A 787 0) : zPo A E t = -1 ∨ (0 ≤ zPo A E t ∧ zPo A E t < A 787 0) := by
  unfold zPo
  split
  · rename_i q; exact Or.inr (hE q)
  · split
    · rename_i q; have := hP t q; omega
    · exact Or.inl rfl
theorem l_M_isKept_58 {e : gE} {b : Nat} {m : Int} {Z : Int → gH → Prop} {kc ks : Nat} {G : gH} {n g k out t : Int} {A : zA} {L E : Int → Int} (hA : zM m G = A) (h : zB 512 A) (hP : zPl A) (hE : zEnum (zMv A) (fun _ => 0) (A 785 0) n L) (hL : ∀ i, 0 ≤ i → i < n → G 1 (m + 43) i = L i) (hR : ∀ i, 0 ≤ i → i < n → G 1 (m + 41) i = E (L i)) (hv : ∀ i, 0 ≤ i → i < n → 0 ≤ E (L i) ∧ E (L i) < A 787 0) (ht : 0 ≤ t ∧ t < A 785 0) (ho : 0 ≤ out ∧ out < 100) (K : EX e b m m_M_isKept Z kc ks 20 [(2, (m + 0)), (0, n), (0, g), (0, k), (0, out + if A 7 t = k ∧ zPo A E t ≠ -1 ∧ A 24 (zPo A E t) ≠ g then 1 else 0), (0, (t + 1)), (9, 0), (9, 0)] [] G) : EX e b m m_M_isKept Z kc ks 58 [(2, (m + 0)), (0, n), (0, g), (0, k), (0, out), (0, t), (0, if zAt A t then A 11 t - 400 else -1), (0, 0)] [] G := by
  have b0 : 0 ≤ A 785 0 ∧ A 785 0 ≤ 16 := h 785 0
  have b1 : 0 ≤ A 787 0 ∧ A 787 0 ≤ 5 := h 787 0
  have hn := hE.1
  have inv : ∀ i, 0 ≤ i → i ≤ n → EX e b m m_M_isKept Z kc ks 58 [(2, (m + 0)), (0, n), (0, g), (0, k), (0, out), (0, t), (0, zIf (∃ j, (0 ≤ j ∧ j < i) ∧ L j = t) (E t) (if zAt A t then A 11 t - 400 else -1)), (0, i)] [] G := by
    intro i i1 i2
    refine zloop (P := fun i => EX e b m m_M_isKept Z kc ks 58 [(2, (m + 0)), (0, n), (0, g), (0, k), (0, out), (0, t), (0, zIf (∃ j, (0 ≤ j ∧ j < i) ∧ L j = t) (E t) (if zAt A t then A 11 t - 400 else -1)), (0, i)] [] G) (i := i) n i2 ?_ ?_
    · have e1 : zIf (∃ j, (0 ≤ j ∧ j < n) ∧ L j = t) (E t) (if zAt A t then A 11 t - 400 else -1) = zPo A E t := by
        unfold zPo
        by_cases q : zMv A t
        · rw [if_pos q, zIf_pos (hE.2.2.2 t ht.1 ht.2 q)]
        · rw [if_neg q, zIf_neg (by rintro ⟨j, hj, ej⟩; have := (hE.2.1 j hj.1 hj.2).2; rw [ej] at this; exact q this)]
      rw [e1]
      have pb := zPo_b (E := E) hP (fun q : zMv A t => by
        obtain ⟨j, hj, ej⟩ := hE.2.2.2 t ht.1 ht.2 q
        rw [← ej]; exact hv j hj.1 hj.2)
      refine sg_M_isKept_58 ?_
      rw [hA]
      refine ⟨⟨fun _ => ⟨by omega, fun q1 q2 => ⟨by omega, fun q3 => ⟨by omega, by omega, ?_⟩⟩⟩, fun q => absurd q (by omega)⟩, fun q => ⟨by omega, ?_⟩⟩
      · rw [if_pos ⟨q1, q2, q3⟩] at K; exact K
      · rw [if_neg (by omega), show out + 0 = out from by omega] at K; exact K
    · intro j j1 j2 st
      refine sg_M_isKept_58 ?_
      rw [hL j (by omega) j2]
      refine ⟨⟨fun q => absurd q (by omega), fun _ => ⟨by omega, fun q => ⟨by omega, ?_⟩, fun q => ⟨by omega, ?_⟩⟩⟩, fun q => absurd q (by omega)⟩
      · have e1 : (∃ i, (0 ≤ i ∧ i < j + 1) ∧ L i = t) ↔ (∃ i, (0 ≤ i ∧ i < j) ∧ L i = t) := by
          constructor
          · rintro ⟨i, hi, ei⟩
            by_cases z : i = j
            · subst z; exact absurd ei q
            · exact ⟨i, by omega, ei⟩
          · rintro ⟨i, hi, ei⟩; exact ⟨i, by omega, ei⟩
        rw [propext e1] at st
        exact st
      · rw [zIf_pos ⟨j, by omega, q⟩] at st
        rw [hR j (by omega) j2, q]
        exact st
  have := inv 0 (Int.le_refl _) hn.1
  rw [zIf_neg (by rintro ⟨j, hj, _⟩; omega)] at this
  exact this
theorem c_M_isKept {e : gE} {b : Nat} {m : Int} {G : gH} {n : Int} {L E : Int → Int} (h : zB 512 (zM m G)) (hP : zPl (zM m G)) (hE : zEnum (zMv (zM m G)) (fun _ => 0) (zM m G 785 0) n L) (hL : ∀ i, 0 ≤ i → i < n → G 1 (m + 43) i = L i) (hR : ∀ i, 0 ≤ i → i < n → G 1 (m + 41) i = E (L i)) (hv : ∀ i, 0 ≤ i → i < n → 0 ≤ E (L i) ∧ E (L i) < zM m G 787 0) : GX e b m m_M_isKept [(2, (m + 0)), (0, n)] G 0 0 (fun v G1 => ((v = 1 ∧ zKp (zM m G) E) ∨ (v = 0 ∧ ¬ zKp (zM m G) E)) ∧ G1 = G) := by
  generalize hA : zM m G = A at *
  have b0 : 0 ≤ A 785 0 ∧ A 785 0 ≤ 16 := h 785 0
  refine GM.ofEV (by decide) (Nat.le_of_ble_eq_true rfl) (sg_M_isKept_0 ?_)
  refine zloop (P := fun g => (∀ g' k, 0 ≤ g' → g' < g → 0 ≤ k → k < 4 → A 31 k ≤ zOut A E g' k) → EX e b m m_M_isKept _ _ _ 2 [(2, (m + 0)), (0, n), (0, g), (9, 0), (9, 0), (9, 0), (9, 0), (9, 0)] [] G) (i := 0) 4 (by decide) ?_ ?_ (fun g' k q1 q2 => by omega)
  · intro H
    exact sg_M_isKept_2 ⟨fun _ => ⟨Or.inl ⟨rfl, H⟩, rfl⟩, fun q => absurd q (by decide)⟩
  · intro g g1 g2 stg H
    refine sg_M_isKept_2 ⟨fun q => absurd q (by omega), fun _ => ?_⟩
    refine zloop (P := fun k => (∀ k', 0 ≤ k' → k' < k → A 31 k' ≤ zOut A E g k') → EX e b m m_M_isKept _ _ _ 9 [(2, (m + 0)), (0, n), (0, g), (0, k), (9, 0), (9, 0), (9, 0), (9, 0)] [] G) (i := 0) 4 (by decide) ?_ ?_ (fun k' q1 q2 => by omega)
    · intro H2
      refine sg_M_isKept_9 ⟨fun _ => ⟨by omega, stg (fun g' k q1 q2 q3 q4 => ?_)⟩, fun q => absurd q (by decide)⟩
      by_cases z : g' = g
      · rw [z]; exact H2 k q3 q4
      · exact H g' k q1 (by omega) q3 q4
    · intro k k1 k2 stk H2
      refine sg_M_isKept_9 ⟨fun q => absurd q (by omega), fun _ => ?_⟩
      refine zloop (P := fun t => EX e b m m_M_isKept _ _ _ 20 [(2, (m + 0)), (0, n), (0, g), (0, k), (0, zS (fun t => if A 7 t = k ∧ zPo A E t ≠ -1 ∧ A 24 (zPo A E t) ≠ g then 1 else 0) t), (0, t), (9, 0), (9, 0)] [] G) (i := 0) (A 785 0) b0.1 ?_ ?_
      · refine sg_M_isKept_20 ?_
        rw [hA]
        refine ⟨fun _ => ⟨by omega, fun q => ⟨by omega, stk (fun k' q1 q2 => ?_)⟩, fun q => ⟨Or.inr ⟨rfl, fun w => ?_⟩, rfl⟩⟩, fun q => absurd q (by omega)⟩
        · by_cases z : k' = k
          · rw [z]; exact q
          · exact H2 k' q1 (by omega)
        · have := w g k g1 g2 k1 k2
          unfold zOut at this
          omega
      · intro t t1 t2 st
        have bs := zS_b (f := fun t => if A 7 t = k ∧ zPo A E t ≠ -1 ∧ A 24 (zPo A E t) ≠ g then 1 else 0) (c := 1) t (fun i _ _ => z01) t1 (by decide)
        rw [zS_s t1] at st
        have go := l_M_isKept_58 hA h hP hE hL hR hv ⟨t1, t2⟩ (by omega) st
        refine sg_M_isKept_20 ?_
        rw [hA]
        have bw : 0 ≤ A 11 t ∧ A 11 t ≤ 609 := h 11 t
        refine ⟨fun q => absurd q (by omega), fun _ => ⟨by omega, fun q => ?_, fun q => ⟨by omega, ?_⟩⟩⟩
        · rw [if_neg q] at go; exact go
        · rw [if_pos q] at go; exact go
