/-! THE REFERENCE, 18: the plan by best -/
set_option maxRecDepth 20000 in
set_option maxHeartbeats 4000000 in
theorem sg_M_byAll_0 {e : gE} {b : Nat} {m : Int} {Z : Int → gH → Prop} {kc ks : Nat} {G : gH} (h : EX e b m m_M_byAll Z kc ks 6 [(2, (m + 0)), (0, 0), (0, 0), (0, 0), (9, 0), (9, 0), (9, 0), (9, 0)] [] G) : EX e b m m_M_byAll Z kc ks 0 [(2, (m + 0)), (9, 0), (9, 0), (9, 0), (9, 0), (9, 0), (9, 0), (9, 0)] [] G := by
  refine e_iconst d_M_byAll_0 (by decide) ?_
  refine e_istore_n (ls' := [(2, (m + 0)), (0, 0), (9, 0), (9, 0), (9, 0), (9, 0), (9, 0), (9, 0)]) d_M_byAll_1 (by decide) rfl ?_
  refine e_iconst d_M_byAll_2 (by decide) ?_
  refine e_istore_n (ls' := [(2, (m + 0)), (0, 0), (0, 0), (9, 0), (9, 0), (9, 0), (9, 0), (9, 0)]) d_M_byAll_3 (by decide) rfl ?_
  refine e_iconst d_M_byAll_4 (by decide) ?_
  refine e_istore_n (ls' := [(2, (m + 0)), (0, 0), (0, 0), (0, 0), (9, 0), (9, 0), (9, 0), (9, 0)]) d_M_byAll_5 (by decide) rfl ?_
  exact e_forget (ls' := [(2, (m + 0)), (0, 0), (0, 0), (0, 0), (9, 0), (9, 0), (9, 0), (9, 0)]) ⟨Or.inr rfl, Or.inr rfl, Or.inr rfl, Or.inr rfl, Or.inl rfl, Or.inl rfl, Or.inl rfl, Or.inl rfl, trivial⟩ h
set_option maxRecDepth 20000 in
set_option maxHeartbeats 4000000 in
theorem sg_M_byAll_6 {e : gE} {b : Nat} {m : Int} {Z : Int → gH → Prop} {kc ks : Nat} {G : gH} {x1 x2 x3 : Int} (h : ((zM m G 785 0) ≤ x3 → EX e b m m_M_byAll Z kc ks 72 [(2, (m + 0)), (0, x1), (0, x2), (0, (-1)), (0, 0), (0, 0), (0, 0), (9, 0)] [] G) ∧ (x3 < (zM m G 785 0) → (0 ≤ x3 ∧ x3 < 16) ∧ (∀ G4 : gH, G4 = gU G 1 (m + 42) x3 (-1) → ∀ G5 : gH, G5 = gU G4 1 (m + 41) x3 (-1) → ((¬ (zIn (zM m G5) x3)) → (inI (x3 + 1)) ∧ EX e b m m_M_byAll Z kc ks 6 [(2, (m + 0)), (0, x1), (0, x2), (0, (x3 + 1)), (9, 0), (9, 0), (9, 0), (9, 0)] [] G5) ∧ (zIn (zM m G5) x3 → (inI (x1 + 1)) ∧ ((0 ≤ x1 ∧ x1 < 16) ∧ (∀ G11 : gH, G11 = gU G5 1 (m + 43) x1 x3 → (inI (x2 + (zM m G11 8 x3))) ∧ (inI (x3 + 1)) ∧ EX e b m m_M_byAll Z kc ks 6 [(2, (m + 0)), (0, (x1 + 1)), (0, (x2 + (zM m G11 8 x3))), (0, (x3 + 1)), (9, 0), (9, 0), (9, 0), (9, 0)] [] G11)))))) : EX e b m m_M_byAll Z kc ks 6 [(2, (m + 0)), (0, x1), (0, x2), (0, x3), (9, 0), (9, 0), (9, 0), (9, 0)] [] G := by
  refine e_iload_n d_M_byAll_6 rfl ?_
  refine e_aload_n d_M_byAll_7 rfl ?_
  refine gx_M_151 d_M_byAll_8 rfl ?_
  refine e_icmp_ge (tgt := 61) d_M_byAll_11 (by decide) (fun q1 => ?_) (fun q2 => ?_)
  · have h := h.1 q1
    refine e_iconst d_M_byAll_61 (by decide) ?_
    refine e_istore_n (ls' := [(2, (m + 0)), (0, x1), (0, x2), (0, (-1)), (9, 0), (9, 0), (9, 0), (9, 0)]) d_M_byAll_62 (by decide) rfl ?_
    refine e_iconst d_M_byAll_63 (by decide) ?_
    refine e_istore (ls' := [(2, (m + 0)), (0, x1), (0, x2), (0, (-1)), (0, 0), (9, 0), (9, 0), (9, 0)]) d_M_byAll_64 (by decide) rfl ?_
    refine e_iconst d_M_byAll_66 (by decide) ?_
    refine e_istore (ls' := [(2, (m + 0)), (0, x1), (0, x2), (0, (-1)), (0, 0), (0, 0), (9, 0), (9, 0)]) d_M_byAll_67 (by decide) rfl ?_
    refine e_iconst d_M_byAll_69 (by decide) ?_
    refine e_istore (ls' := [(2, (m + 0)), (0, x1), (0, x2), (0, (-1)), (0, 0), (0, 0), (0, 0), (9, 0)]) d_M_byAll_70 (by decide) rfl ?_
    exact e_forget (ls' := [(2, (m + 0)), (0, x1), (0, x2), (0, (-1)), (0, 0), (0, 0), (0, 0), (9, 0)]) ⟨Or.inr rfl, Or.inr rfl, Or.inr rfl, Or.inr rfl, Or.inr rfl, Or.inr rfl, Or.inr rfl, Or.inl rfl, trivial⟩ h
  · have h := h.2 q2
    refine e_aload_n d_M_byAll_14 rfl ?_
    refine gx_M_139 d_M_byAll_15 rfl ?_
    refine e_iload_n d_M_byAll_18 rfl ?_
    refine e_iconst d_M_byAll_19 (by decide) ?_
    obtain ⟨o3, h⟩ := h
    refine xM_iast 42 rfl d_M_byAll_20 o3 ?_
    let G4 : gH := gU G 1 (m + 42) x3 (-1)
    have h := h G4 rfl
    refine e_aload_n d_M_byAll_21 rfl ?_
    refine gx_M_136 d_M_byAll_22 rfl ?_
    refine e_iload_n d_M_byAll_25 rfl ?_
    refine e_iconst d_M_byAll_26 (by decide) ?_
    refine xM_iast 41 rfl d_M_byAll_27 o3 ?_
    let G5 : gH := gU G4 1 (m + 41) x3 (-1)
    have h := h G5 rfl
    refine e_aload_n d_M_byAll_28 rfl ?_
    refine e_iload_n d_M_byAll_29 rfl ?_
    refine EV.inv fun hFf6 => ?_
    have f6 := (fx_mt 0 rfl hFf6).1
    refine e_callV m_M_isInRoom 12 lw_good d_M_byAll_30 (k_M_isInRoom _) ⟨Nat.le_of_ble_eq_true rfl, Nat.le_of_ble_eq_true rfl⟩ w_1624 w_1626 w_s50 (q_M _) rfl f6 (args := [(0, x3)]) rfl rfl (Nat.le_of_ble_eq_true rfl) (kc' := kc) (ks' := ks) (mc := 0) (ms := 0) rfl rfl (c_M_isInRoom o3) (pureK ?_)
    refine e_if_eq (tgt := 55) d_M_byAll_33 (by decide) (fun q7 => ?_) (fun q8 => ?_)
    · replace q7 := gb0.mp q7
      have h := h.1 q7
      obtain ⟨o14, h⟩ := h
      refine e_iinc (ls' := [(2, (m + 0)), (0, x1), (0, x2), (0, (x3 + 1)), (9, 0), (9, 0), (9, 0), (9, 0)]) d_M_byAll_55 rfl (by decide) o14 rfl ?_
      refine e_goto (tgt := 6) d_M_byAll_58 (by decide) ?_
      exact e_forget (ls' := [(2, (m + 0)), (0, x1), (0, x2), (0, (x3 + 1)), (9, 0), (9, 0), (9, 0), (9, 0)]) ⟨Or.inr rfl, Or.inr rfl, Or.inr rfl, Or.inr rfl, Or.inl rfl, Or.inl rfl, Or.inl rfl, Or.inl rfl, trivial⟩ h
    · replace q8 := gb1.mp q8
      have h := h.2 q8
      refine e_aload_n d_M_byAll_36 rfl ?_
      refine gx_M_142 d_M_byAll_37 rfl ?_
      refine e_iload_n d_M_byAll_40 rfl ?_
      obtain ⟨o9, h⟩ := h
      refine e_iinc (ls' := [(2, (m + 0)), (0, (x1 + 1)), (0, x2), (0, x3), (9, 0), (9, 0), (9, 0), (9, 0)]) d_M_byAll_41 rfl (by decide) o9 rfl ?_
      refine e_iload_n d_M_byAll_44 rfl ?_
      obtain ⟨o10, h⟩ := h
      refine xM_iast 43 rfl d_M_byAll_45 o10 ?_
      let G11 : gH := gU G5 1 (m + 43) x1 x3
      have h := h G11 rfl
      refine e_iload_n d_M_byAll_46 rfl ?_
      refine e_aload_n d_M_byAll_47 rfl ?_
      refine gx_M_36 d_M_byAll_48 rfl ?_
      refine e_iload_n d_M_byAll_51 rfl ?_
      refine xM_iald 8 rfl d_M_byAll_52 o3 ?_
      obtain ⟨o12, h⟩ := h
      refine e_iadd d_M_byAll_53 o12 ?_
      refine e_istore_n (ls' := [(2, (m + 0)), (0, (x1 + 1)), (0, (x2 + (zM m G11 8 x3))), (0, x3), (9, 0), (9, 0), (9, 0), (9, 0)]) d_M_byAll_54 (by decide) rfl ?_
      obtain ⟨o13, h⟩ := h
      refine e_iinc (ls' := [(2, (m + 0)), (0, (x1 + 1)), (0, (x2 + (zM m G11 8 x3))), (0, (x3 + 1)), (9, 0), (9, 0), (9, 0), (9, 0)]) d_M_byAll_55 rfl (by decide) o13 rfl ?_
      refine e_goto (tgt := 6) d_M_byAll_58 (by decide) ?_
      exact e_forget (ls' := [(2, (m + 0)), (0, (x1 + 1)), (0, (x2 + (zM m G11 8 x3))), (0, (x3 + 1)), (9, 0), (9, 0), (9, 0), (9, 0)]) ⟨Or.inr rfl, Or.inr rfl, Or.inr rfl, Or.inr rfl, Or.inl rfl, Or.inl rfl, Or.inl rfl, Or.inl rfl, trivial⟩ h
set_option maxRecDepth 20000 in
set_option maxHeartbeats 4000000 in
theorem sg_M_byAll_72 {e : gE} {b : Nat} {m : Int} {Z : Int → gH → Prop} {kc ks : Nat} {G : gH} {x1 x2 x3 x4 x5 x6 : Int} (h : (x1 ≤ x6 → EX e b m m_M_byAll Z kc ks 92 [(2, (m + 0)), (0, x1), (0, x2), (0, x3), (0, x4), (0, x5), (9, 0), (9, 0)] [] G) ∧ (x6 < x1 → (0 ≤ x6 ∧ x6 < 16) ∧ (∀ G4 : gH, G4 = gU G 1 (m + 44) x6 (-1) → (inI (x6 + 1)) ∧ EX e b m m_M_byAll Z kc ks 72 [(2, (m + 0)), (0, x1), (0, x2), (0, x3), (0, x4), (0, x5), (0, (x6 + 1)), (9, 0)] [] G4))) : EX e b m m_M_byAll Z kc ks 72 [(2, (m + 0)), (0, x1), (0, x2), (0, x3), (0, x4), (0, x5), (0, x6), (9, 0)] [] G := by
  refine e_iload d_M_byAll_72 rfl ?_
  refine e_iload_n d_M_byAll_74 rfl ?_
  refine e_icmp_ge (tgt := 92) d_M_byAll_75 (by decide) (fun q1 => ?_) (fun q2 => ?_)
  · have h := h.1 q1
    exact e_forget (ls' := [(2, (m + 0)), (0, x1), (0, x2), (0, x3), (0, x4), (0, x5), (9, 0), (9, 0)]) ⟨Or.inr rfl, Or.inr rfl, Or.inr rfl, Or.inr rfl, Or.inr rfl, Or.inr rfl, Or.inl rfl, Or.inl rfl, trivial⟩ h
  · have h := h.2 q2
    refine e_aload_n d_M_byAll_78 rfl ?_
    refine gx_M_145 d_M_byAll_79 rfl ?_
    refine e_iload d_M_byAll_82 rfl ?_
    refine e_iconst d_M_byAll_84 (by decide) ?_
    obtain ⟨o3, h⟩ := h
    refine xM_iast 44 rfl d_M_byAll_85 o3 ?_
    let G4 : gH := gU G 1 (m + 44) x6 (-1)
    have h := h G4 rfl
    obtain ⟨o5, h⟩ := h
    refine e_iinc (ls' := [(2, (m + 0)), (0, x1), (0, x2), (0, x3), (0, x4), (0, x5), (0, (x6 + 1)), (9, 0)]) d_M_byAll_86 rfl (by decide) o5 rfl ?_
    refine e_goto (tgt := 72) d_M_byAll_89 (by decide) ?_
    exact e_forget (ls' := [(2, (m + 0)), (0, x1), (0, x2), (0, x3), (0, x4), (0, x5), (0, (x6 + 1)), (9, 0)]) ⟨Or.inr rfl, Or.inr rfl, Or.inr rfl, Or.inr rfl, Or.inr rfl, Or.inr rfl, Or.inr rfl, Or.inl rfl, trivial⟩ h
set_option maxRecDepth 20000 in
set_option maxHeartbeats 4000000 in
theorem sg_M_byAll_92 {e : gE} {b : Nat} {m : Int} {Z : Int → gH → Prop} {kc ks : Nat} {G : gH} {x1 x2 x3 x4 x5 : Int} (h : (x5 < 0 → Z x3 G) ∧ (0 ≤ x5 → (x5 ≠ x1 → (0 ≤ x5 ∧ x5 < 16) ∧ (((G 1 (m + 44) x5) ≠ (-1) → (0 ≤ (G 1 (m + 43) x5) ∧ (G 1 (m + 43) x5) < 16) ∧ (((G 1 (m + 41) (G 1 (m + 43) x5)) = (-1) → EX e b m m_M_byAll Z kc ks 214 [(2, (m + 0)), (0, x1), (0, x2), (0, x3), (0, x4), (0, x5), (0, (G 1 (m + 43) x5)), (0, 0)] [] G) ∧ ((G 1 (m + 41) (G 1 (m + 43) x5)) ≠ (-1) → (inI (x4 - (zM m G 8 (G 1 (m + 43) x5)))) ∧ (∀ G17 : gH, G17 = gU G 1 (m + 41) (G 1 (m + 43) x5) (-1) → EX e b m m_M_byAll Z kc ks 214 [(2, (m + 0)), (0, x1), (0, x2), (0, x3), (0, (x4 - (zM m G 8 (G 1 (m + 43) x5)))), (0, x5), (0, (G 1 (m + 43) x5)), (0, 0)] [] G17)))) ∧ ((G 1 (m + 44) x5) = (-1) → (0 ≤ (G 1 (m + 43) x5) ∧ (G 1 (m + 43) x5) < 16) ∧ ((inI (x2 - (zM m G 8 (G 1 (m + 43) x5)))) ∧ (((G 1 (m + 41) (G 1 (m + 43) x5)) = (-1) → EX e b m m_M_byAll Z kc ks 214 [(2, (m + 0)), (0, x1), (0, (x2 - (zM m G 8 (G 1 (m + 43) x5)))), (0, x3), (0, x4), (0, x5), (0, (G 1 (m + 43) x5)), (0, 0)] [] G) ∧ ((G 1 (m + 41) (G 1 (m + 43) x5)) ≠ (-1) → (inI (x4 - (zM m G 8 (G 1 (m + 43) x5)))) ∧ (∀ G21 : gH, G21 = gU G 1 (m + 41) (G 1 (m + 43) x5) (-1) → EX e b m m_M_byAll Z kc ks 214 [(2, (m + 0)), (0, x1), (0, (x2 - (zM m G 8 (G 1 (m + 43) x5)))), (0, x3), (0, (x4 - (zM m G 8 (G 1 (m + 43) x5)))), (0, x5), (0, (G 1 (m + 43) x5)), (0, 0)] [] G21))))))) ∧ (x5 = x1 → (x4 ≤ x3 → (inI (x5 + (-1))) ∧ EX e b m m_M_byAll Z kc ks 92 [(2, (m + 0)), (0, x1), (0, x2), (0, x3), (0, x4), (0, (x5 + (-1))), (9, 0), (9, 0)] [] G) ∧ (x3 < x4 → EX e b m m_M_byAll Z kc ks 115 [(2, (m + 0)), (0, x1), (0, x2), (0, x4), (0, x4), (0, x5), (0, 0), (9, 0)] [] G)))) : EX e b m m_M_byAll Z kc ks 92 [(2, (m + 0)), (0, x1), (0, x2), (0, x3), (0, x4), (0, x5), (9, 0), (9, 0)] [] G := by
  refine e_iload d_M_byAll_92 rfl ?_
  refine e_if_lt (tgt := 396) d_M_byAll_94 (by decide) (fun q1 => ?_) (fun q2 => ?_)
  · have h := h.1 q1
    refine e_iload_n d_M_byAll_396 rfl ?_
    exact e_iret d_M_byAll_397 rfl h
  · have h := h.2 q2
    refine e_iload d_M_byAll_97 rfl ?_
    refine e_iload_n d_M_byAll_99 rfl ?_
    refine e_icmp_ne (tgt := 150) d_M_byAll_100 (by decide) (fun q3 => ?_) (fun q4 => ?_)
    · have h := h.1 q3
      refine e_aload_n d_M_byAll_150 rfl ?_
      refine gx_M_142 d_M_byAll_151 rfl ?_
      refine e_iload d_M_byAll_154 rfl ?_
      obtain ⟨o5, h⟩ := h
      refine xM_iald 43 rfl d_M_byAll_156 o5 ?_
      refine e_istore (ls' := [(2, (m + 0)), (0, x1), (0, x2), (0, x3), (0, x4), (0, x5), (0, (G 1 (m + 43) x5)), (9, 0)]) d_M_byAll_157 (by decide) rfl ?_
      refine e_aload_n d_M_byAll_159 rfl ?_
      refine gx_M_145 d_M_byAll_160 rfl ?_
      refine e_iload d_M_byAll_163 rfl ?_
      refine xM_iald 44 rfl d_M_byAll_165 o5 ?_
      refine e_iconst d_M_byAll_166 (by decide) ?_
      refine e_icmp_ne (tgt := 180) d_M_byAll_167 (by decide) (fun q6 => ?_) (fun q7 => ?_)
      · have h := h.1 q6
        refine e_aload_n d_M_byAll_180 rfl ?_
        refine gx_M_136 d_M_byAll_181 rfl ?_
        refine e_iload d_M_byAll_184 rfl ?_
        obtain ⟨o13, h⟩ := h
        refine xM_iald 41 rfl d_M_byAll_186 o13 ?_
        refine e_iconst d_M_byAll_187 (by decide) ?_
        refine e_icmp_eq (tgt := 211) d_M_byAll_188 (by decide) (fun q14 => ?_) (fun q15 => ?_)
        · have h := h.1 q14
          refine e_iconst d_M_byAll_211 (by decide) ?_
          refine e_istore (ls' := [(2, (m + 0)), (0, x1), (0, x2), (0, x3), (0, x4), (0, x5), (0, (G 1 (m + 43) x5)), (0, 0)]) d_M_byAll_212 (by decide) rfl ?_
          exact e_forget (ls' := [(2, (m + 0)), (0, x1), (0, x2), (0, x3), (0, x4), (0, x5), (0, (G 1 (m + 43) x5)), (0, 0)]) ⟨Or.inr rfl, Or.inr rfl, Or.inr rfl, Or.inr rfl, Or.inr rfl, Or.inr rfl, Or.inr rfl, Or.inr rfl, trivial⟩ h
        · have h := h.2 q15
          refine e_iload d_M_byAll_191 rfl ?_
          refine e_aload_n d_M_byAll_193 rfl ?_
          refine gx_M_36 d_M_byAll_194 rfl ?_
          refine e_iload d_M_byAll_197 rfl ?_
          refine xM_iald 8 rfl d_M_byAll_199 o13 ?_
          obtain ⟨o16, h⟩ := h
          refine e_isub d_M_byAll_200 o16 ?_
          refine e_istore (ls' := [(2, (m + 0)), (0, x1), (0, x2), (0, x3), (0, (x4 - (zM m G 8 (G 1 (m + 43) x5)))), (0, x5), (0, (G 1 (m + 43) x5)), (9, 0)]) d_M_byAll_201 (by decide) rfl ?_
          refine e_aload_n d_M_byAll_203 rfl ?_
          refine gx_M_136 d_M_byAll_204 rfl ?_
          refine e_iload d_M_byAll_207 rfl ?_
          refine e_iconst d_M_byAll_209 (by decide) ?_
          refine xM_iast 41 rfl d_M_byAll_210 o13 ?_
          let G17 : gH := gU G 1 (m + 41) (G 1 (m + 43) x5) (-1)
          have h := h G17 rfl
          refine e_iconst d_M_byAll_211 (by decide) ?_
          refine e_istore (ls' := [(2, (m + 0)), (0, x1), (0, x2), (0, x3), (0, (x4 - (zM m G 8 (G 1 (m + 43) x5)))), (0, x5), (0, (G 1 (m + 43) x5)), (0, 0)]) d_M_byAll_212 (by decide) rfl ?_
          exact e_forget (ls' := [(2, (m + 0)), (0, x1), (0, x2), (0, x3), (0, (x4 - (zM m G 8 (G 1 (m + 43) x5)))), (0, x5), (0, (G 1 (m + 43) x5)), (0, 0)]) ⟨Or.inr rfl, Or.inr rfl, Or.inr rfl, Or.inr rfl, Or.inr rfl, Or.inr rfl, Or.inr rfl, Or.inr rfl, trivial⟩ h
      · have h := h.2 q7
        refine e_iload_n d_M_byAll_170 rfl ?_
        refine e_aload_n d_M_byAll_171 rfl ?_
        refine gx_M_36 d_M_byAll_172 rfl ?_
        refine e_iload d_M_byAll_175 rfl ?_
        obtain ⟨o8, h⟩ := h
        refine xM_iald 8 rfl d_M_byAll_177 o8 ?_
        obtain ⟨o9, h⟩ := h
        refine e_isub d_M_byAll_178 o9 ?_
        refine e_istore_n (ls' := [(2, (m + 0)), (0, x1), (0, (x2 - (zM m G 8 (G 1 (m + 43) x5)))), (0, x3), (0, x4), (0, x5), (0, (G 1 (m + 43) x5)), (9, 0)]) d_M_byAll_179 (by decide) rfl ?_
        refine e_aload_n d_M_byAll_180 rfl ?_
        refine gx_M_136 d_M_byAll_181 rfl ?_
        refine e_iload d_M_byAll_184 rfl ?_
        refine xM_iald 41 rfl d_M_byAll_186 o8 ?_
        refine e_iconst d_M_byAll_187 (by decide) ?_
        refine e_icmp_eq (tgt := 211) d_M_byAll_188 (by decide) (fun q18 => ?_) (fun q19 => ?_)
        · have h := h.1 q18
          refine e_iconst d_M_byAll_211 (by decide) ?_
          refine e_istore (ls' := [(2, (m + 0)), (0, x1), (0, (x2 - (zM m G 8 (G 1 (m + 43) x5)))), (0, x3), (0, x4), (0, x5), (0, (G 1 (m + 43) x5)), (0, 0)]) d_M_byAll_212 (by decide) rfl ?_
          exact e_forget (ls' := [(2, (m + 0)), (0, x1), (0, (x2 - (zM m G 8 (G 1 (m + 43) x5)))), (0, x3), (0, x4), (0, x5), (0, (G 1 (m + 43) x5)), (0, 0)]) ⟨Or.inr rfl, Or.inr rfl, Or.inr rfl, Or.inr rfl, Or.inr rfl, Or.inr rfl, Or.inr rfl, Or.inr rfl, trivial⟩ h
        · have h := h.2 q19
          refine e_iload d_M_byAll_191 rfl ?_
          refine e_aload_n d_M_byAll_193 rfl ?_
          refine gx_M_36 d_M_byAll_194 rfl ?_
          refine e_iload d_M_byAll_197 rfl ?_
          refine xM_iald 8 rfl d_M_byAll_199 o8 ?_
          obtain ⟨o20, h⟩ := h
          refine e_isub d_M_byAll_200 o20 ?_
          refine e_istore (ls' := [(2, (m + 0)), (0, x1), (0, (x2 - (zM m G 8 (G 1 (m + 43) x5)))), (0, x3), (0, (x4 - (zM m G 8 (G 1 (m + 43) x5)))), (0, x5), (0, (G 1 (m + 43) x5)), (9, 0)]) d_M_byAll_201 (by decide) rfl ?_
          refine e_aload_n d_M_byAll_203 rfl ?_
          refine gx_M_136 d_M_byAll_204 rfl ?_
          refine e_iload d_M_byAll_207 rfl ?_
          refine e_iconst d_M_byAll_209 (by decide) ?_
          refine xM_iast 41 rfl d_M_byAll_210 o8 ?_
          let G21 : gH := gU G 1 (m + 41) (G 1 (m + 43) x5) (-1)
          have h := h G21 rfl
          refine e_iconst d_M_byAll_211 (by decide) ?_
          refine e_istore (ls' := [(2, (m + 0)), (0, x1), (0, (x2 - (zM m G 8 (G 1 (m + 43) x5)))), (0, x3), (0, (x4 - (zM m G 8 (G 1 (m + 43) x5)))), (0, x5), (0, (G 1 (m + 43) x5)), (0, 0)]) d_M_byAll_212 (by decide) rfl ?_
          exact e_forget (ls' := [(2, (m + 0)), (0, x1), (0, (x2 - (zM m G 8 (G 1 (m + 43) x5)))), (0, x3), (0, (x4 - (zM m G 8 (G 1 (m + 43) x5)))), (0, x5), (0, (G 1 (m + 43) x5)), (0, 0)]) ⟨Or.inr rfl, Or.inr rfl, Or.inr rfl, Or.inr rfl, Or.inr rfl, Or.inr rfl, Or.inr rfl, Or.inr rfl, trivial⟩ h
    · have h := h.2 q4
      refine e_iload d_M_byAll_103 rfl ?_
      refine e_iload_n d_M_byAll_105 rfl ?_
      refine e_icmp_le (tgt := 144) d_M_byAll_106 (by decide) (fun q10 => ?_) (fun q11 => ?_)
      · have h := h.1 q10
        obtain ⟨o12, h⟩ := h
        refine e_iinc (ls' := [(2, (m + 0)), (0, x1), (0, x2), (0, x3), (0, x4), (0, (x5 + (-1))), (9, 0), (9, 0)]) d_M_byAll_144 rfl (by decide) o12 rfl ?_
        refine e_goto (tgt := 92) d_M_byAll_147 (by decide) ?_
        exact e_forget (ls' := [(2, (m + 0)), (0, x1), (0, x2), (0, x3), (0, x4), (0, (x5 + (-1))), (9, 0), (9, 0)]) ⟨Or.inr rfl, Or.inr rfl, Or.inr rfl, Or.inr rfl, Or.inr rfl, Or.inr rfl, Or.inl rfl, Or.inl rfl, trivial⟩ h
      · have h := h.2 q11
        refine e_iload d_M_byAll_109 rfl ?_
        refine e_istore_n (ls' := [(2, (m + 0)), (0, x1), (0, x2), (0, x4), (0, x4), (0, x5), (9, 0), (9, 0)]) d_M_byAll_111 (by decide) rfl ?_
        refine e_iconst d_M_byAll_112 (by decide) ?_
        refine e_istore (ls' := [(2, (m + 0)), (0, x1), (0, x2), (0, x4), (0, x4), (0, x5), (0, 0), (9, 0)]) d_M_byAll_113 (by decide) rfl ?_
        exact e_forget (ls' := [(2, (m + 0)), (0, x1), (0, x2), (0, x4), (0, x4), (0, x5), (0, 0), (9, 0)]) ⟨Or.inr rfl, Or.inr rfl, Or.inr rfl, Or.inr rfl, Or.inr rfl, Or.inr rfl, Or.inr rfl, Or.inl rfl, trivial⟩ h
set_option maxRecDepth 20000 in
set_option maxHeartbeats 4000000 in
theorem sg_M_byAll_115 {e : gE} {b : Nat} {m : Int} {Z : Int → gH → Prop} {kc ks : Nat} {G : gH} {x1 x2 x3 x4 x5 x6 : Int} (h : ((zM m G 785 0) ≤ x6 → (inI (x5 + (-1))) ∧ EX e b m m_M_byAll Z kc ks 92 [(2, (m + 0)), (0, x1), (0, x2), (0, x3), (0, x4), (0, (x5 + (-1))), (9, 0), (9, 0)] [] G) ∧ (x6 < (zM m G 785 0) → (0 ≤ x6 ∧ x6 < 16) ∧ (∀ G4 : gH, G4 = gU G 1 (m + 42) x6 (G 1 (m + 41) x6) → (inI (x6 + 1)) ∧ EX e b m m_M_byAll Z kc ks 115 [(2, (m + 0)), (0, x1), (0, x2), (0, x3), (0, x4), (0, x5), (0, (x6 + 1)), (9, 0)] [] G4))) : EX e b m m_M_byAll Z kc ks 115 [(2, (m + 0)), (0, x1), (0, x2), (0, x3), (0, x4), (0, x5), (0, x6), (9, 0)] [] G := by
  refine e_iload d_M_byAll_115 rfl ?_
  refine e_aload_n d_M_byAll_117 rfl ?_
  refine gx_M_151 d_M_byAll_118 rfl ?_
  refine e_icmp_ge (tgt := 144) d_M_byAll_121 (by decide) (fun q1 => ?_) (fun q2 => ?_)
  · have h := h.1 q1
    obtain ⟨o6, h⟩ := h
    refine e_iinc (ls' := [(2, (m + 0)), (0, x1), (0, x2), (0, x3), (0, x4), (0, (x5 + (-1))), (0, x6), (9, 0)]) d_M_byAll_144 rfl (by decide) o6 rfl ?_
    refine e_goto (tgt := 92) d_M_byAll_147 (by decide) ?_
    exact e_forget (ls' := [(2, (m + 0)), (0, x1), (0, x2), (0, x3), (0, x4), (0, (x5 + (-1))), (9, 0), (9, 0)]) ⟨Or.inr rfl, Or.inr rfl, Or.inr rfl, Or.inr rfl, Or.inr rfl, Or.inr rfl, Or.inl rfl, Or.inl rfl, trivial⟩ h
  · have h := h.2 q2
    refine e_aload_n d_M_byAll_124 rfl ?_
    refine gx_M_139 d_M_byAll_125 rfl ?_
    refine e_iload d_M_byAll_128 rfl ?_
    refine e_aload_n d_M_byAll_130 rfl ?_
    refine gx_M_136 d_M_byAll_131 rfl ?_
    refine e_iload d_M_byAll_134 rfl ?_
    obtain ⟨o3, h⟩ := h
    refine xM_iald 41 rfl d_M_byAll_136 o3 ?_
    refine xM_iast 42 rfl d_M_byAll_137 o3 ?_
    let G4 : gH := gU G 1 (m + 42) x6 (G 1 (m + 41) x6)
    have h := h G4 rfl
    obtain ⟨o5, h⟩ := h
    refine e_iinc (ls' := [(2, (m + 0)), (0, x1), (0, x2), (0, x3), (0, x4), (0, x5), (0, (x6 + 1)), (9, 0)]) d_M_byAll_138 rfl (by decide) o5 rfl ?_
    refine e_goto (tgt := 115) d_M_byAll_141 (by decide) ?_
    exact e_forget (ls' := [(2, (m + 0)), (0, x1), (0, x2), (0, x3), (0, x4), (0, x5), (0, (x6 + 1)), (9, 0)]) ⟨Or.inr rfl, Or.inr rfl, Or.inr rfl, Or.inr rfl, Or.inr rfl, Or.inr rfl, Or.inr rfl, Or.inl rfl, trivial⟩ h
set_option maxRecDepth 20000 in
set_option maxHeartbeats 4000000 in
theorem sg_M_byAll_214 {e : gE} {b : Nat} {m : Int} {Z : Int → gH → Prop} {kc ks : Nat} {G : gH} {x1 x2 x3 x4 x5 x6 x7 : Int} (h : (x7 = 0 → (0 ≤ x5 ∧ x5 < 16) ∧ ((G 1 (m + 44) x5) < 3 → (inI ((G 1 (m + 44) x5) + 1)) ∧ (∀ G7 : gH, G7 = gU G 1 (m + 44) x5 ((G 1 (m + 44) x5) + 1) → ((G7 1 (m + 44) x5) ≠ 3 → ((zM m G 786 0) ≤ (G7 1 (m + 44) x5) → EX e b m m_M_byAll Z kc ks 214 [(2, (m + 0)), (0, x1), (0, x2), (0, x3), (0, x4), (0, x5), (0, x6), (0, x7)] [] G7) ∧ ((G7 1 (m + 44) x5) < (zM m G 786 0) → (0 ≤ x6 ∧ x6 < 16) ∧ ((inI (x4 + (zM m G7 8 x6))) ∧ ((inI ((x4 + (zM m G7 8 x6)) + x2)) ∧ ((((x4 + (zM m G7 8 x6)) + x2) ≤ x3 → EX e b m m_M_byAll Z kc ks 214 [(2, (m + 0)), (0, x1), (0, x2), (0, x3), (0, x4), (0, x5), (0, x6), (0, x7)] [] G7) ∧ (x3 < ((x4 + (zM m G7 8 x6)) + x2) → ∀ G17 : gH, G17 = gU G7 1 (m + 41) x6 (G7 1 (m + 44) x5) → GX e b m m_M_isDoing [(2, (m + 0)), (0, (G17 1 (m + 44) x5)), (2, (m + 41))] G17 0 0 (fun v19 G20 => (v19 = 0 → ∀ G23 : gH, G23 = gU G20 1 (m + 41) x6 (-1) → EX e b m m_M_byAll Z kc ks 214 [(2, (m + 0)), (0, x1), (0, x2), (0, x3), (0, x4), (0, x5), (0, x6), (0, x7)] [] G23) ∧ (v19 ≠ 0 → (inI (x4 + (zM m G20 8 x6))) ∧ EX e b m m_M_byAll Z kc ks 214 [(2, (m + 0)), (0, x1), (0, x2), (0, x3), (0, (x4 + (zM m G20 8 x6))), (0, x5), (0, x6), (0, 1)] [] G20)))))))) ∧ ((G7 1 (m + 44) x5) = 3 → (inI (x4 + x2)) ∧ (((x4 + x2) ≤ x3 → EX e b m m_M_byAll Z kc ks 214 [(2, (m + 0)), (0, x1), (0, x2), (0, x3), (0, x4), (0, x5), (0, x6), (0, 0)] [] G7) ∧ (x3 < (x4 + x2) → EX e b m m_M_byAll Z kc ks 214 [(2, (m + 0)), (0, x1), (0, x2), (0, x3), (0, x4), (0, x5), (0, x6), (0, 1)] [] G7)))))) ∧ ((x7 ≠ 0 ∨ (x7 = 0 ∧ 3 ≤ (G 1 (m + 44) x5))) → (x7 = 0 → (0 ≤ x5 ∧ x5 < 16) ∧ (∀ G32 : gH, G32 = gU G 1 (m + 44) x5 (-1) → (0 ≤ x6 ∧ x6 < 16) ∧ (inI (x2 + (zM m G32 8 x6))) ∧ (inI (x5 + (-1))) ∧ EX e b m m_M_byAll Z kc ks 92 [(2, (m + 0)), (0, x1), (0, (x2 + (zM m G32 8 x6))), (0, x3), (0, x4), (0, (x5 + (-1))), (9, 0), (9, 0)] [] G32)) ∧ (x7 ≠ 0 → (inI (x5 + 1)) ∧ EX e b m m_M_byAll Z kc ks 92 [(2, (m + 0)), (0, x1), (0, x2), (0, x3), (0, x4), (0, (x5 + 1)), (9, 0), (9, 0)] [] G))) : EX e b m m_M_byAll Z kc ks 214 [(2, (m + 0)), (0, x1), (0, x2), (0, x3), (0, x4), (0, x5), (0, x6), (0, x7)] [] G := by
  obtain ⟨h, hJ28⟩ := h
  have kJ28 : (x7 ≠ 0 ∨ (x7 = 0 ∧ 3 ≤ (G 1 (m + 44) x5))) → EX e b m m_M_byAll Z kc ks 361 [(2, (m + 0)), (0, x1), (0, x2), (0, x3), (0, x4), (0, x5), (0, x6), (0, x7)] [] G := by
    intro rJ28
    have h := hJ28 rJ28
    refine e_iload d_M_byAll_361 rfl ?_
    refine e_if_eq (tgt := 372) d_M_byAll_363 (by decide) (fun q29 => ?_) (fun q30 => ?_)
    · have h := h.1 q29
      refine e_aload_n d_M_byAll_372 rfl ?_
      refine gx_M_145 d_M_byAll_373 rfl ?_
      refine e_iload d_M_byAll_376 rfl ?_
      refine e_iconst d_M_byAll_378 (by decide) ?_
      obtain ⟨o31, h⟩ := h
      refine xM_iast 44 rfl d_M_byAll_379 o31 ?_
      let G32 : gH := gU G 1 (m + 44) x5 (-1)
      have h := h G32 rfl
      refine e_iload_n d_M_byAll_380 rfl ?_
      refine e_aload_n d_M_byAll_381 rfl ?_
      refine gx_M_36 d_M_byAll_382 rfl ?_
      refine e_iload d_M_byAll_385 rfl ?_
      obtain ⟨o33, h⟩ := h
      refine xM_iald 8 rfl d_M_byAll_387 o33 ?_
      obtain ⟨o34, h⟩ := h
      refine e_iadd d_M_byAll_388 o34 ?_
      refine e_istore_n (ls' := [(2, (m + 0)), (0, x1), (0, (x2 + (zM m G32 8 x6))), (0, x3), (0, x4), (0, x5), (0, x6), (0, x7)]) d_M_byAll_389 (by decide) rfl ?_
      obtain ⟨o35, h⟩ := h
      refine e_iinc (ls' := [(2, (m + 0)), (0, x1), (0, (x2 + (zM m G32 8 x6))), (0, x3), (0, x4), (0, (x5 + (-1))), (0, x6), (0, x7)]) d_M_byAll_390 rfl (by decide) o35 rfl ?_
      refine e_goto (tgt := 92) d_M_byAll_393 (by decide) ?_
      exact e_forget (ls' := [(2, (m + 0)), (0, x1), (0, (x2 + (zM m G32 8 x6))), (0, x3), (0, x4), (0, (x5 + (-1))), (9, 0), (9, 0)]) ⟨Or.inr rfl, Or.inr rfl, Or.inr rfl, Or.inr rfl, Or.inr rfl, Or.inr rfl, Or.inl rfl, Or.inl rfl, trivial⟩ h
    · have h := h.2 q30
      obtain ⟨o36, h⟩ := h
      refine e_iinc (ls' := [(2, (m + 0)), (0, x1), (0, x2), (0, x3), (0, x4), (0, (x5 + 1)), (0, x6), (0, x7)]) d_M_byAll_366 rfl (by decide) o36 rfl ?_
      refine e_goto (tgt := 393) d_M_byAll_369 (by decide) ?_
      refine e_goto (tgt := 92) d_M_byAll_393 (by decide) ?_
      exact e_forget (ls' := [(2, (m + 0)), (0, x1), (0, x2), (0, x3), (0, x4), (0, (x5 + 1)), (9, 0), (9, 0)]) ⟨Or.inr rfl, Or.inr rfl, Or.inr rfl, Or.inr rfl, Or.inr rfl, Or.inr rfl, Or.inl rfl, Or.inl rfl, trivial⟩ h
  refine e_iload d_M_byAll_214 rfl ?_
  refine e_if_ne (tgt := 361) d_M_byAll_216 (by decide) (fun q1 => ?_) (fun q2 => ?_)
  · exact kJ28 (Or.inl q1)
  · have h := h q2
    refine e_aload_n d_M_byAll_219 rfl ?_
    refine gx_M_145 d_M_byAll_220 rfl ?_
    refine e_iload d_M_byAll_223 rfl ?_
    obtain ⟨o3, h⟩ := h
    refine xM_iald 44 rfl d_M_byAll_225 o3 ?_
    refine e_iconst d_M_byAll_226 (by decide) ?_
    refine e_icmp_ge (tgt := 361) d_M_byAll_227 (by decide) (fun q4 => ?_) (fun q5 => ?_)
    · exact kJ28 (Or.inr ⟨q2, q4⟩)
    · have h := h q5
      refine e_aload_n d_M_byAll_230 rfl ?_
      refine gx_M_145 d_M_byAll_231 rfl ?_
      refine e_iload d_M_byAll_234 rfl ?_
      refine e_dup2 d_M_byAll_236 (by simp) (by simp) ?_
      refine xM_iald 44 rfl d_M_byAll_237 o3 ?_
      refine e_iconst d_M_byAll_238 (by decide) ?_
      obtain ⟨o6, h⟩ := h
      refine e_iadd d_M_byAll_239 o6 ?_
      refine xM_iast 44 rfl d_M_byAll_240 o3 ?_
      let G7 : gH := gU G 1 (m + 44) x5 ((G 1 (m + 44) x5) + 1)
      have h := h G7 rfl
      refine e_aload_n d_M_byAll_241 rfl ?_
      refine gx_M_145 d_M_byAll_242 rfl ?_
      refine e_iload d_M_byAll_245 rfl ?_
      refine xM_iald 44 rfl d_M_byAll_247 o3 ?_
      refine e_iconst d_M_byAll_248 (by decide) ?_
      refine e_icmp_ne (tgt := 270) d_M_byAll_249 (by decide) (fun q8 => ?_) (fun q9 => ?_)
      · have h := h.1 q8
        refine e_aload_n d_M_byAll_270 rfl ?_
        refine gx_M_145 d_M_byAll_271 rfl ?_
        refine e_iload d_M_byAll_274 rfl ?_
        refine xM_iald 44 rfl d_M_byAll_276 o3 ?_
        refine e_aload_n d_M_byAll_277 rfl ?_
        refine gx_M_174 d_M_byAll_278 rfl ?_
        refine e_icmp_ge (tgt := 214) d_M_byAll_281 (by decide) (fun q10 => ?_) (fun q11 => ?_)
        · have h := h.1 q10
          exact e_forget (ls' := [(2, (m + 0)), (0, x1), (0, x2), (0, x3), (0, x4), (0, x5), (0, x6), (0, x7)]) ⟨Or.inr rfl, Or.inr rfl, Or.inr rfl, Or.inr rfl, Or.inr rfl, Or.inr rfl, Or.inr rfl, Or.inr rfl, trivial⟩ h
        · have h := h.2 q11
          refine e_iload d_M_byAll_284 rfl ?_
          refine e_aload_n d_M_byAll_286 rfl ?_
          refine gx_M_36 d_M_byAll_287 rfl ?_
          refine e_iload d_M_byAll_290 rfl ?_
          obtain ⟨o12, h⟩ := h
          refine xM_iald 8 rfl d_M_byAll_292 o12 ?_
          obtain ⟨o13, h⟩ := h
          refine e_iadd d_M_byAll_293 o13 ?_
          refine e_iload_n d_M_byAll_294 rfl ?_
          obtain ⟨o14, h⟩ := h
          refine e_iadd d_M_byAll_295 o14 ?_
          refine e_iload_n d_M_byAll_296 rfl ?_
          refine e_icmp_le (tgt := 214) d_M_byAll_297 (by decide) (fun q15 => ?_) (fun q16 => ?_)
          · have h := h.1 q15
            exact e_forget (ls' := [(2, (m + 0)), (0, x1), (0, x2), (0, x3), (0, x4), (0, x5), (0, x6), (0, x7)]) ⟨Or.inr rfl, Or.inr rfl, Or.inr rfl, Or.inr rfl, Or.inr rfl, Or.inr rfl, Or.inr rfl, Or.inr rfl, trivial⟩ h
          · have h := h.2 q16
            refine e_aload_n d_M_byAll_300 rfl ?_
            refine gx_M_136 d_M_byAll_301 rfl ?_
            refine e_iload d_M_byAll_304 rfl ?_
            refine e_aload_n d_M_byAll_306 rfl ?_
            refine gx_M_145 d_M_byAll_307 rfl ?_
            refine e_iload d_M_byAll_310 rfl ?_
            refine xM_iald 44 rfl d_M_byAll_312 o3 ?_
            refine xM_iast 41 rfl d_M_byAll_313 o12 ?_
            let G17 : gH := gU G7 1 (m + 41) x6 (G7 1 (m + 44) x5)
            have h := h G17 rfl
            refine e_aload_n d_M_byAll_314 rfl ?_
            refine e_aload_n d_M_byAll_315 rfl ?_
            refine gx_M_145 d_M_byAll_316 rfl ?_
            refine e_iload d_M_byAll_319 rfl ?_
            refine xM_iald 44 rfl d_M_byAll_321 o3 ?_
            refine e_aload_n d_M_byAll_322 rfl ?_
            refine gx_M_136 d_M_byAll_323 rfl ?_
            refine EV.inv fun hFf18 => ?_
            have f18 := (fx_mt 0 rfl hFf18).1
            refine e_callV m_M_isDoing 12 lw_good d_M_byAll_326 (k_M_isDoing _) ⟨Nat.le_of_ble_eq_true rfl, Nat.le_of_ble_eq_true rfl⟩ w_1632 w_1634 w_s52 (q_M _) rfl f18 (args := [(0, (G17 1 (m + 44) x5)), (2, (m + 41))]) rfl rfl (Nat.le_of_ble_eq_true rfl) (kc' := kc) (ks' := ks) (mc := 0) (ms := 0) rfl rfl h ?_
            intro v19 G20 h
            refine e_if_eq (tgt := 350) d_M_byAll_329 (by decide) (fun q21 => ?_) (fun q22 => ?_)
            · have h := h.1 q21
              refine e_aload_n d_M_byAll_350 rfl ?_
              refine gx_M_136 d_M_byAll_351 rfl ?_
              refine e_iload d_M_byAll_354 rfl ?_
              refine e_iconst d_M_byAll_356 (by decide) ?_
              refine xM_iast 41 rfl d_M_byAll_357 o12 ?_
              let G23 : gH := gU G20 1 (m + 41) x6 (-1)
              have h := h G23 rfl
              refine e_goto (tgt := 214) d_M_byAll_358 (by decide) ?_
              exact e_forget (ls' := [(2, (m + 0)), (0, x1), (0, x2), (0, x3), (0, x4), (0, x5), (0, x6), (0, x7)]) ⟨Or.inr rfl, Or.inr rfl, Or.inr rfl, Or.inr rfl, Or.inr rfl, Or.inr rfl, Or.inr rfl, Or.inr rfl, trivial⟩ h
            · have h := h.2 q22
              refine e_iload d_M_byAll_332 rfl ?_
              refine e_aload_n d_M_byAll_334 rfl ?_
              refine gx_M_36 d_M_byAll_335 rfl ?_
              refine e_iload d_M_byAll_338 rfl ?_
              refine xM_iald 8 rfl d_M_byAll_340 o12 ?_
              obtain ⟨o24, h⟩ := h
              refine e_iadd d_M_byAll_341 o24 ?_
              refine e_istore (ls' := [(2, (m + 0)), (0, x1), (0, x2), (0, x3), (0, (x4 + (zM m G20 8 x6))), (0, x5), (0, x6), (0, x7)]) d_M_byAll_342 (by decide) rfl ?_
              refine e_iconst d_M_byAll_344 (by decide) ?_
              refine e_istore (ls' := [(2, (m + 0)), (0, x1), (0, x2), (0, x3), (0, (x4 + (zM m G20 8 x6))), (0, x5), (0, x6), (0, 1)]) d_M_byAll_345 (by decide) rfl ?_
              refine e_goto (tgt := 214) d_M_byAll_347 (by decide) ?_
              exact e_forget (ls' := [(2, (m + 0)), (0, x1), (0, x2), (0, x3), (0, (x4 + (zM m G20 8 x6))), (0, x5), (0, x6), (0, 1)]) ⟨Or.inr rfl, Or.inr rfl, Or.inr rfl, Or.inr rfl, Or.inr rfl, Or.inr rfl, Or.inr rfl, Or.inr rfl, trivial⟩ h
      · have h := h.2 q9
        refine e_iload d_M_byAll_252 rfl ?_
        refine e_iload_n d_M_byAll_254 rfl ?_
        obtain ⟨o25, h⟩ := h
        refine e_iadd d_M_byAll_255 o25 ?_
        refine e_iload_n d_M_byAll_256 rfl ?_
        refine e_icmp_le (tgt := 264) d_M_byAll_257 (by decide) (fun q26 => ?_) (fun q27 => ?_)
        · have h := h.1 q26
          refine e_iconst d_M_byAll_264 (by decide) ?_
          refine e_istore (ls' := [(2, (m + 0)), (0, x1), (0, x2), (0, x3), (0, x4), (0, x5), (0, x6), (0, 0)]) d_M_byAll_265 (by decide) rfl ?_
          refine e_goto (tgt := 214) d_M_byAll_267 (by decide) ?_
          exact e_forget (ls' := [(2, (m + 0)), (0, x1), (0, x2), (0, x3), (0, x4), (0, x5), (0, x6), (0, 0)]) ⟨Or.inr rfl, Or.inr rfl, Or.inr rfl, Or.inr rfl, Or.inr rfl, Or.inr rfl, Or.inr rfl, Or.inr rfl, trivial⟩ h
        · have h := h.2 q27
          refine e_iconst d_M_byAll_260 (by decide) ?_
          refine e_goto (tgt := 265) d_M_byAll_261 (by decide) ?_
          refine e_istore (ls' := [(2, (m + 0)), (0, x1), (0, x2), (0, x3), (0, x4), (0, x5), (0, x6), (0, 1)]) d_M_byAll_265 (by decide) rfl ?_
          refine e_goto (tgt := 214) d_M_byAll_267 (by decide) ?_
          exact e_forget (ls' := [(2, (m + 0)), (0, x1), (0, x2), (0, x3), (0, x4), (0, x5), (0, x6), (0, 1)]) ⟨Or.inr rfl, Or.inr rfl, Or.inr rfl, Or.inr rfl, Or.inr rfl, Or.inr rfl, Or.inr rfl, Or.inr rfl, trivial⟩ h
/-- plans that agree with a beginning -/
def zXi (A : zA) (L : Int → Int) (i : Int) (R : Int → Int) : (Int → Int) → Prop := fun E => zVd A E ∧ ∀ j, 0 ≤ j → j < i → E (L j) = R (L j)
def zCd (v : Int) : Int := if v = -1 then 3 else v
def zXc (A : zA) (L : Int → Int) (i : Int) (R : Int → Int) (c : Int) : (Int → Int) → Prop := fun E => zXi A L i R E ∧ zCd (E (L i)) < c
def zXe (A : zA) (L : Int → Int) (i : Int) (R : Int → Int) (c : Int) : (Int → Int) → Prop := fun E => zXi A L i R E ∧ zCd (E (L i)) = c
section BA
variable {A : zA} {n : Int} {L : Int → Int}
theorem zL_lt (hE : zEnum (zIn A) (fun _ => 0) (A 785 0) n L) {i j : Int} (hi : 0 ≤ i ∧ i < n) (hj : 0 ≤ j ∧ j < n) : i < j ↔ L i < L j := by
  rw [zEnum_lt hE hi hj]
  show ((0 : Int) < 0 ∨ ((0 : Int) = 0 ∧ L i < L j)) ↔ _
  omega
theorem zVd_off {E : Int → Int} (h : zVd A E) {t : Int} (ht : 0 ≤ t ∧ t < A 785 0) (q : ¬ zIn A t) : E t = -1 := (h.1 t ht.1 ht.2).elim id (fun z => absurd z.1 q)
theorem zXe_lt (hB : zB 512 A) (hE : zEnum (zIn A) (fun _ => 0) (A 785 0) n L) {i c : Int} {R E E' : Int → Int} (hi : 0 ≤ i ∧ i < n) (h : zXc A L i R c E) (h' : zXe A L i R c E') : zTt A E' < zTt A E := by
  have b0 : 0 ≤ A 785 0 ∧ A 785 0 ≤ 16 := hB 785 0
  have b1 : 0 ≤ A 786 0 ∧ A 786 0 ≤ 3 := hB 786 0
  have hm := hE.2.1 i hi.1 hi.2
  refine zTt_lt (t0 := L i) b0.2 (zVd_dg b1.2 h.1.1) (zVd_dg b1.2 h'.1.1) hm.1 (fun t t1 t2 => ?_) ?_
  · by_cases q : zIn A t
    · obtain ⟨k, hk, ek⟩ := hE.2.2.2 t t1 (by omega) q
      subst ek
      have := (zL_lt hE hk hi).mpr t2
      rw [h.1.2 k hk.1 this, h'.1.2 k hk.1 this]
    · rw [zVd_off h.1.1 ⟨t1, by omega⟩ q, zVd_off h'.1.1 ⟨t1, by omega⟩ q]
  · have e1 := h.2
    have e2 := h'.2
    have v1 := h.1.1.1 _ hm.1.1 hm.1.2
    have v2 := h'.1.1.1 _ hm.1.1 hm.1.2
    unfold zCd at e1 e2
    unfold zDg
    split at e1 <;> split at e2 <;> (repeat' split) <;> omega
theorem zW_L (hB : zB 512 A) (hE : zEnum (zIn A) (fun _ => 0) (A 785 0) n L) {E : Int → Int} (h : zVd A E) : zW A E = zS (fun k => if E (L k) = -1 then 0 else A 8 (L k)) n := by
  have b0 : 0 ≤ A 785 0 ∧ A 785 0 ≤ 16 := hB 785 0
  have := zEnum_all hE (fun t => if E t = -1 then 0 else A 8 t)
  rw [this]
  refine zS_eq (A 785 0) b0.1 (fun t t1 t2 => ?_)
  show (if E t = -1 then 0 else A 8 t) = if zIn A t then (if E t = -1 then 0 else A 8 t) else 0
  by_cases q : zIn A t
  · rw [if_pos q]
  · rw [if_neg q, if_pos (zVd_off h ⟨t1, t2⟩ q)]
theorem zS_tail {f g : Int → Int} {i : Int} (n : Int) (hi : 0 ≤ i ∧ i ≤ n) (h : ∀ k, i ≤ k → k < n → f k ≤ g k) : zS f n - zS f i ≤ zS g n - zS g i := by
  refine zloopI (i := i) (I := fun m => zS f m - zS f i ≤ zS g m - zS g i) (P := fun _ => zS f n - zS f i ≤ zS g n - zS g i) n hi.2 (by omega) ?_ (fun q => q) (fun j h1 h2 hi q => q)
  intro j h1 h2 hi2
  rw [zS_s (by omega), zS_s (by omega)]
  have := h j h1 h2
  omega
/-- what the first have and what the others may yet bring -/
def zSi (A : zA) (L R : Int → Int) (i : Int) : Int := zS (fun k => if R (L k) = -1 then 0 else A 8 (L k)) i
def zRi (A : zA) (L : Int → Int) (n i : Int) : Int := zS (fun k => A 8 (L k)) n - zS (fun k => A 8 (L k)) i
theorem zXi_W (hB : zB 512 A) (hE : zEnum (zIn A) (fun _ => 0) (A 785 0) n L) {i : Int} {R E : Int → Int} (hi : 0 ≤ i ∧ i ≤ n) (h : zXi A L i R E) : zW A E ≤ zSi A L R i + zRi A L n i := by
  rw [zW_L hB hE h.1]
  have e1 : zS (fun k => if E (L k) = -1 then 0 else A 8 (L k)) i = zSi A L R i := zS_eq i hi.1 (fun k k1 k2 => by
    show (if E (L k) = -1 then 0 else A 8 (L k)) = if R (L k) = -1 then 0 else A 8 (L k)
    rw [h.2 k k1 k2])
  have e2 := zS_tail (f := fun k => if E (L k) = -1 then 0 else A 8 (L k)) (g := fun k => A 8 (L k)) n hi (fun k k1 k2 => by
    have b2 : 0 ≤ A 8 (L k) ∧ A 8 (L k) ≤ 100 := hB 8 (L k)
    show (if E (L k) = -1 then 0 else A 8 (L k)) ≤ A 8 (L k)
    split <;> omega)
  unfold zRi
  omega
theorem zSR_b (hB : zB 512 A) (hE : zEnum (zIn A) (fun _ => 0) (A 785 0) n L) {i : Int} {R : Int → Int} (hi : 0 ≤ i ∧ i ≤ n) : (0 ≤ zSi A L R i ∧ zSi A L R i ≤ 1600) ∧ (0 ≤ zRi A L n i ∧ zRi A L n i ≤ 1600) := by
  have b0 : 0 ≤ A 785 0 ∧ A 785 0 ≤ 16 := hB 785 0
  have hn := hE.1
  have h1 := zS_b (f := fun k => if R (L k) = -1 then 0 else A 8 (L k)) (c := 100) i (fun k k1 k2 => by
    have b2 : 0 ≤ A 8 (L k) ∧ A 8 (L k) ≤ 100 := hB 8 (L k)
    show 0 ≤ (if R (L k) = -1 then 0 else A 8 (L k)) ∧ (if R (L k) = -1 then 0 else A 8 (L k)) ≤ 100
    split <;> omega) hi.1 (by decide)
  have h2 := zS_b (f := fun k => A 8 (L k)) (c := 100) n (fun k k1 k2 => hB 8 (L k)) hn.1 (by decide)
  have h3 := zS_b (f := fun k => A 8 (L k)) (c := 100) i (fun k k1 k2 => hB 8 (L k)) hi.1 (by decide)
  have h4 := zS_tail (f := fun k => 0) (g := fun k => A 8 (L k)) n hi (fun k k1 k2 => (hB 8 (L k)).1)
  have h5 : zS (fun _ => (0 : Int)) n = 0 := by have := zS_b (f := fun _ => 0) (c := 0) n (fun i _ _ => ⟨Int.le_refl _, Int.le_refl _⟩) hn.1 (Int.le_refl _); omega
  have h6 : zS (fun _ => (0 : Int)) i = 0 := by have := zS_b (f := fun _ => 0) (c := 0) i (fun i _ _ => ⟨Int.le_refl _, Int.le_refl _⟩) hi.1 (Int.le_refl _); omega
  unfold zSi zRi
  omega
theorem zRi_s {i : Int} (hi : 0 ≤ i) : zRi A L n i = A 8 (L i) + zRi A L n (i + 1) := by
  unfold zRi
  rw [zS_s hi]
  omega
/-- what a search below a place leaves as it was -/
def zDR (m n i : Int) (G G' : gH) : Prop := zM m G' = zM m G ∧ zC m G G' ∧ (∀ k, G' 1 (m + 43) k = G 1 (m + 43) k) ∧ (∀ k, 0 ≤ k → k < i → G' 1 (m + 44) k = G 1 (m + 44) k) ∧ (∀ k, i ≤ k → k < n → G' 1 (m + 44) k = -1) ∧ (∀ t, G' 1 (m + 41) t = G 1 (m + 41) t)
def zDS (A : zA) (m n : Int) (L : Int → Int) (i : Int) (G : gH) : Prop := zM m G = A ∧ (∀ k, 0 ≤ k → k < n → G 1 (m + 43) k = L k) ∧ (∀ k, i ≤ k → k < n → G 1 (m + 44) k = -1) ∧ zVd A (G 1 (m + 41)) ∧ (∀ k, i ≤ k → k < n → G 1 (m + 41) (L k) = -1)
theorem l_M_byAll_115 (hB : zB 512 A) {e : gE} {b : Nat} {m : Int} {Z : Int → gH → Prop} {kc ks : Nat} {G : gH} {rest M sum i : Int} (hi : 0 ≤ i ∧ i ≤ 16) (hA : zM m G = A) (K : ∀ G', zDR m n n G G' → (∀ t, 0 ≤ t → t < A 785 0 → G' 1 (m + 42) t = G 1 (m + 41) t) → EX e b m m_M_byAll Z kc ks 92 [(2, (m + 0)), (0, n), (0, rest), (0, M), (0, sum), (0, (i + (-1))), (9, 0), (9, 0)] [] G') : EX e b m m_M_byAll Z kc ks 115 [(2, (m + 0)), (0, n), (0, rest), (0, M), (0, sum), (0, i), (0, 0), (9, 0)] [] G := by
  have b0 : 0 ≤ A 785 0 ∧ A 785 0 ≤ 16 := hB 785 0
  refine zloop (P := fun t => ∀ G1, zO (m + 42) G G1 → (∀ t', 0 ≤ t' → t' < t → G1 1 (m + 42) t' = G 1 (m + 41) t') → EX e b m m_M_byAll Z kc ks 115 [(2, (m + 0)), (0, n), (0, rest), (0, M), (0, sum), (0, i), (0, t), (9, 0)] [] G1) (i := 0) (A 785 0) b0.1 ?_ ?_ G zO_r (fun t t1 t2 => by omega)
  · intro G1 h1 h2
    refine sg_M_byAll_115 ?_
    rw [zO_M h1 (by decide), hA]
    refine ⟨fun _ => ⟨by omega, K G1 ⟨zO_M h1 (by decide), zO_C h1 (by decide), fun k => h1 1 (m + 43) k (fun _ => by omega), fun k _ _ => h1 1 (m + 44) k (fun _ => by omega), fun k k1 k2 => absurd k2 (by omega), fun t => h1 1 (m + 41) t (fun _ => by omega)⟩ h2⟩, fun q => absurd q (by omega)⟩
  · intro j j1 j2 st G1 h1 h2
    refine sg_M_byAll_115 ?_
    rw [zO_M h1 (by decide), hA]
    refine ⟨fun q => absurd q (by omega), fun _ => ⟨by omega, ?_⟩⟩
    rintro _ rfl
    refine ⟨by omega, st _ (zO_u h1) (fun t t1 t2 => ?_)⟩
    by_cases z : t = j
    · rw [z, gU_eq]; exact h1 1 (m + 41) j (fun _ => by omega)
    · rw [gU_j z]; exact h2 t t1 (by omega)
end BA
