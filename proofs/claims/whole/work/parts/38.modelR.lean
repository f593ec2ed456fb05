/-! THE REFERENCE, 17: the plan by rule -/
set_option maxRecDepth 20000 in
set_option maxHeartbeats 4000000 in
theorem sg_M_byRule_0 {e : gE} {b : Nat} {m : Int} {Z : Int → gH → Prop} {kc ks : Nat} {G : gH} (h : EX e b m m_M_byRule Z kc ks 4 [(2, (m + 0)), (0, 0), (0, 0), (9, 0), (9, 0), (9, 0), (9, 0), (9, 0), (9, 0)] [] G) : EX e b m m_M_byRule Z kc ks 0 [(2, (m + 0)), (9, 0), (9, 0), (9, 0), (9, 0), (9, 0), (9, 0), (9, 0), (9, 0)] [] G := by
  refine e_iconst d_M_byRule_0 (by decide) ?_
  refine e_istore_n (ls' := [(2, (m + 0)), (0, 0), (9, 0), (9, 0), (9, 0), (9, 0), (9, 0), (9, 0), (9, 0)]) d_M_byRule_1 (by decide) rfl ?_
  refine e_iconst d_M_byRule_2 (by decide) ?_
  refine e_istore_n (ls' := [(2, (m + 0)), (0, 0), (0, 0), (9, 0), (9, 0), (9, 0), (9, 0), (9, 0), (9, 0)]) d_M_byRule_3 (by decide) rfl ?_
  exact e_forget (ls' := [(2, (m + 0)), (0, 0), (0, 0), (9, 0), (9, 0), (9, 0), (9, 0), (9, 0), (9, 0)]) ⟨Or.inr rfl, Or.inr rfl, Or.inr rfl, Or.inl rfl, Or.inl rfl, Or.inl rfl, Or.inl rfl, Or.inl rfl, Or.inl rfl, trivial⟩ h
set_option maxRecDepth 20000 in
set_option maxHeartbeats 4000000 in
theorem sg_M_byRule_4 {e : gE} {b : Nat} {m : Int} {Z : Int → gH → Prop} {kc ks : Nat} {G : gH} {x1 x2 : Int} (h : ((zM m G 785 0) ≤ x2 → EX e b m m_M_byRule Z kc ks 143 [(2, (m + 0)), (0, x1), (0, 0), (0, 0), (9, 0), (9, 0), (9, 0), (9, 0), (9, 0)] [] G) ∧ (x2 < (zM m G 785 0) → (0 ≤ x2 ∧ x2 < 16) ∧ (∀ G4 : gH, G4 = gU G 1 (m + 42) x2 (-1) → (zIn (zM m G4) x2 → (zR (zM m G4) x2) ∧ ((zFar (zM m G4) x2) ≠ (-1) → (inI ((zM m G4 8 x2) * 1000)) ∧ (0 ≤ ((zM m G4 8 x2) * 1000)) ∧ (0 < (zLen (zM m G4) x2)) ∧ (inI (x1 + 1)) ∧ EX e b m m_M_byRule Z kc ks 62 [(2, (m + 0)), (0, (x1 + 1)), (0, x2), (0, (((zM m G4 8 x2) * 1000) / (zLen (zM m G4) x2))), (0, x1), (9, 0), (9, 0), (9, 0), (9, 0)] [] G4)) ∧ (((¬ (zIn (zM m G4) x2)) ∨ (zIn (zM m G4) x2 ∧ (zFar (zM m G4) x2) = (-1))) → (inI (x2 + 1)) ∧ EX e b m m_M_byRule Z kc ks 4 [(2, (m + 0)), (0, x1), (0, (x2 + 1)), (9, 0), (9, 0), (9, 0), (9, 0), (9, 0), (9, 0)] [] G4)))) : EX e b m m_M_byRule Z kc ks 4 [(2, (m + 0)), (0, x1), (0, x2), (9, 0), (9, 0), (9, 0), (9, 0), (9, 0), (9, 0)] [] G := by
  refine e_iload_n d_M_byRule_4 rfl ?_
  refine e_aload_n d_M_byRule_5 rfl ?_
  refine gx_M_151 d_M_byRule_6 rfl ?_
  refine e_icmp_ge (tgt := 139) d_M_byRule_9 (by decide) (fun q1 => ?_) (fun q2 => ?_)
  · have h := h.1 q1
    refine e_iconst d_M_byRule_139 (by decide) ?_
    refine e_istore_n (ls' := [(2, (m + 0)), (0, x1), (0, 0), (9, 0), (9, 0), (9, 0), (9, 0), (9, 0), (9, 0)]) d_M_byRule_140 (by decide) rfl ?_
    refine e_iconst d_M_byRule_141 (by decide) ?_
    refine e_istore_n (ls' := [(2, (m + 0)), (0, x1), (0, 0), (0, 0), (9, 0), (9, 0), (9, 0), (9, 0), (9, 0)]) d_M_byRule_142 (by decide) rfl ?_
    exact e_forget (ls' := [(2, (m + 0)), (0, x1), (0, 0), (0, 0), (9, 0), (9, 0), (9, 0), (9, 0), (9, 0)]) ⟨Or.inr rfl, Or.inr rfl, Or.inr rfl, Or.inr rfl, Or.inl rfl, Or.inl rfl, Or.inl rfl, Or.inl rfl, Or.inl rfl, trivial⟩ h
  · have h := h.2 q2
    refine e_aload_n d_M_byRule_12 rfl ?_
    refine gx_M_139 d_M_byRule_13 rfl ?_
    refine e_iload_n d_M_byRule_16 rfl ?_
    refine e_iconst d_M_byRule_17 (by decide) ?_
    obtain ⟨o3, h⟩ := h
    refine xM_iast 42 rfl d_M_byRule_18 o3 ?_
    let G4 : gH := gU G 1 (m + 42) x2 (-1)
    have h := h G4 rfl
    obtain ⟨h, hJ17⟩ := h
    have kJ17 : ((¬ (zIn (zM m G4) x2)) ∨ (zIn (zM m G4) x2 ∧ (zFar (zM m G4) x2) = (-1))) → EX e b m m_M_byRule Z kc ks 133 [(2, (m + 0)), (0, x1), (0, x2), (9, 0), (9, 0), (9, 0), (9, 0), (9, 0), (9, 0)] [] G4 := by
      intro rJ17
      have h := hJ17 rJ17
      obtain ⟨o18, h⟩ := h
      refine e_iinc (ls' := [(2, (m + 0)), (0, x1), (0, (x2 + 1)), (9, 0), (9, 0), (9, 0), (9, 0), (9, 0), (9, 0)]) d_M_byRule_133 rfl (by decide) o18 rfl ?_
      refine e_goto (tgt := 4) d_M_byRule_136 (by decide) ?_
      exact e_forget (ls' := [(2, (m + 0)), (0, x1), (0, (x2 + 1)), (9, 0), (9, 0), (9, 0), (9, 0), (9, 0), (9, 0)]) ⟨Or.inr rfl, Or.inr rfl, Or.inr rfl, Or.inl rfl, Or.inl rfl, Or.inl rfl, Or.inl rfl, Or.inl rfl, Or.inl rfl, trivial⟩ h
    refine e_aload_n d_M_byRule_19 rfl ?_
    refine e_iload_n d_M_byRule_20 rfl ?_
    refine EV.inv fun hFf5 => ?_
    have f5 := (fx_mt 0 rfl hFf5).1
    refine e_callV m_M_isInRoom 12 lw_good d_M_byRule_21 (k_M_isInRoom _) ⟨Nat.le_of_ble_eq_true rfl, Nat.le_of_ble_eq_true rfl⟩ w_1624 w_1626 w_s50 (q_M _) rfl f5 (args := [(0, x2)]) rfl rfl (Nat.le_of_ble_eq_true rfl) (kc' := kc) (ks' := ks) (mc := 0) (ms := 0) rfl rfl (c_M_isInRoom o3) (pureK ?_)
    refine e_if_eq (tgt := 133) d_M_byRule_24 (by decide) (fun q6 => ?_) (fun q7 => ?_)
    · replace q6 := gb0.mp q6
      exact kJ17 (Or.inl q6)
    · replace q7 := gb1.mp q7
      have h := h q7
      refine e_aload_n d_M_byRule_27 rfl ?_
      refine e_iload_n d_M_byRule_28 rfl ?_
      refine EV.inv fun hFf8 => ?_
      have f8 := (fx_mt 0 rfl hFf8).1
      obtain ⟨o9, h⟩ := h
      refine e_callV m_M_farOf 12 lw_good d_M_byRule_29 (k_M_farOf _) ⟨Nat.le_of_ble_eq_true rfl, Nat.le_of_ble_eq_true rfl⟩ w_1640 w_1642 w_s54 (q_M _) rfl f8 (args := [(0, x2)]) rfl rfl (Nat.le_of_ble_eq_true rfl) (kc' := kc) (ks' := ks) (mc := 0) (ms := 0) rfl rfl (c_M_farOf o9) (pureK ?_)
      refine e_iconst d_M_byRule_32 (by decide) ?_
      refine e_icmp_ne (tgt := 39) d_M_byRule_33 (by decide) (fun q10 => ?_) (fun q11 => ?_)
      · have h := h q10
        refine e_aload_n d_M_byRule_39 rfl ?_
        refine gx_M_36 d_M_byRule_40 rfl ?_
        refine e_iload_n d_M_byRule_43 rfl ?_
        refine xM_iald 8 rfl d_M_byRule_44 o3 ?_
        refine e_sipush d_M_byRule_45 (by decide) (by decide) ?_
        obtain ⟨o12, h⟩ := h
        refine e_imul d_M_byRule_48 o12 ?_
        refine e_aload_n d_M_byRule_49 rfl ?_
        refine e_iload_n d_M_byRule_50 rfl ?_
        refine EV.inv fun hFf13 => ?_
        have f13 := (fx_mt 0 rfl hFf13).1
        refine e_callV m_M_length 12 lw_good d_M_byRule_51 (k_M_length _) ⟨Nat.le_of_ble_eq_true rfl, Nat.le_of_ble_eq_true rfl⟩ w_1656 w_1658 w_s58 (q_M _) rfl f13 (args := [(0, x2)]) rfl rfl (Nat.le_of_ble_eq_true rfl) (kc' := kc) (ks' := ks) (mc := 0) (ms := 0) rfl rfl (c_M_length o9) (pureK ?_)
        obtain ⟨o14, o15, h⟩ := h
        refine e_idiv d_M_byRule_54 o14 o15 ?_
        refine e_istore_n (ls' := [(2, (m + 0)), (0, x1), (0, x2), (0, (((zM m G4 8 x2) * 1000) / (zLen (zM m G4) x2))), (9, 0), (9, 0), (9, 0), (9, 0), (9, 0)]) d_M_byRule_55 (by decide) rfl ?_
        refine e_iload_n d_M_byRule_56 rfl ?_
        obtain ⟨o16, h⟩ := h
        refine e_iinc (ls' := [(2, (m + 0)), (0, (x1 + 1)), (0, x2), (0, (((zM m G4 8 x2) * 1000) / (zLen (zM m G4) x2))), (9, 0), (9, 0), (9, 0), (9, 0), (9, 0)]) d_M_byRule_57 rfl (by decide) o16 rfl ?_
        refine e_istore (ls' := [(2, (m + 0)), (0, (x1 + 1)), (0, x2), (0, (((zM m G4 8 x2) * 1000) / (zLen (zM m G4) x2))), (0, x1), (9, 0), (9, 0), (9, 0), (9, 0)]) d_M_byRule_60 (by decide) rfl ?_
        exact e_forget (ls' := [(2, (m + 0)), (0, (x1 + 1)), (0, x2), (0, (((zM m G4 8 x2) * 1000) / (zLen (zM m G4) x2))), (0, x1), (9, 0), (9, 0), (9, 0), (9, 0)]) ⟨Or.inr rfl, Or.inr rfl, Or.inr rfl, Or.inr rfl, Or.inr rfl, Or.inl rfl, Or.inl rfl, Or.inl rfl, Or.inl rfl, trivial⟩ h
      · refine e_goto (tgt := 133) d_M_byRule_36 (by decide) ?_
        exact kJ17 (Or.inr ⟨q7, q11⟩)
set_option maxRecDepth 20000 in
set_option maxHeartbeats 4000000 in
theorem sg_M_byRule_143 {e : gE} {b : Nat} {m : Int} {Z : Int → gH → Prop} {kc ks : Nat} {G : gH} {x1 x2 x3 : Int} (h : (x1 ≤ x3 → Z x2 G) ∧ (x3 < x1 → (0 ≤ x3 ∧ x3 < 16) ∧ EX e b m m_M_byRule Z kc ks 165 [(2, (m + 0)), (0, x1), (0, x2), (0, x3), (0, (G 1 (m + 43) x3)), (0, (-1)), (0, 0), (0, 0), (9, 0)] [] G)) : EX e b m m_M_byRule Z kc ks 143 [(2, (m + 0)), (0, x1), (0, x2), (0, x3), (9, 0), (9, 0), (9, 0), (9, 0), (9, 0)] [] G := by
  refine e_iload_n d_M_byRule_143 rfl ?_
  refine e_iload_n d_M_byRule_144 rfl ?_
  refine e_icmp_ge (tgt := 266) d_M_byRule_145 (by decide) (fun q1 => ?_) (fun q2 => ?_)
  · have h := h.1 q1
    refine e_iload_n d_M_byRule_266 rfl ?_
    exact e_iret d_M_byRule_267 rfl h
  · have h := h.2 q2
    refine e_aload_n d_M_byRule_148 rfl ?_
    refine gx_M_142 d_M_byRule_149 rfl ?_
    refine e_iload_n d_M_byRule_152 rfl ?_
    obtain ⟨o3, h⟩ := h
    refine xM_iald 43 rfl d_M_byRule_153 o3 ?_
    refine e_istore (ls' := [(2, (m + 0)), (0, x1), (0, x2), (0, x3), (0, (G 1 (m + 43) x3)), (9, 0), (9, 0), (9, 0), (9, 0)]) d_M_byRule_154 (by decide) rfl ?_
    refine e_iconst d_M_byRule_156 (by decide) ?_
    refine e_istore (ls' := [(2, (m + 0)), (0, x1), (0, x2), (0, x3), (0, (G 1 (m + 43) x3)), (0, (-1)), (9, 0), (9, 0), (9, 0)]) d_M_byRule_157 (by decide) rfl ?_
    refine e_iconst d_M_byRule_159 (by decide) ?_
    refine e_istore (ls' := [(2, (m + 0)), (0, x1), (0, x2), (0, x3), (0, (G 1 (m + 43) x3)), (0, (-1)), (0, 0), (9, 0), (9, 0)]) d_M_byRule_160 (by decide) rfl ?_
    refine e_iconst d_M_byRule_162 (by decide) ?_
    refine e_istore (ls' := [(2, (m + 0)), (0, x1), (0, x2), (0, x3), (0, (G 1 (m + 43) x3)), (0, (-1)), (0, 0), (0, 0), (9, 0)]) d_M_byRule_163 (by decide) rfl ?_
    exact e_forget (ls' := [(2, (m + 0)), (0, x1), (0, x2), (0, x3), (0, (G 1 (m + 43) x3)), (0, (-1)), (0, 0), (0, 0), (9, 0)]) ⟨Or.inr rfl, Or.inr rfl, Or.inr rfl, Or.inr rfl, Or.inr rfl, Or.inr rfl, Or.inr rfl, Or.inr rfl, Or.inl rfl, trivial⟩ h
set_option maxRecDepth 20000 in
set_option maxHeartbeats 4000000 in
theorem sg_M_byRule_62 {e : gE} {b : Nat} {m : Int} {Z : Int → gH → Prop} {kc ks : Nat} {G : gH} {x1 x2 x3 x4 : Int} (h : (0 < x4 → (inI (x4 - 1)) ∧ ((0 ≤ (x4 - 1) ∧ (x4 - 1) < 16) ∧ ((0 ≤ (G 1 (m + 43) (x4 - 1)) ∧ (G 1 (m + 43) (x4 - 1)) < 16) ∧ ((inI ((zM m G 8 (G 1 (m + 43) (x4 - 1))) * 1000)) ∧ ((zR (zM m G) (G 1 (m + 43) (x4 - 1))) ∧ ((0 ≤ ((zM m G 8 (G 1 (m + 43) (x4 - 1))) * 1000)) ∧ ((0 < (zLen (zM m G) (G 1 (m + 43) (x4 - 1)))) ∧ ((((zM m G 8 (G 1 (m + 43) (x4 - 1))) * 1000) / (zLen (zM m G) (G 1 (m + 43) (x4 - 1)))) < x3 → (0 ≤ x4 ∧ x4 < 16) ∧ (∀ G14 : gH, G14 = gU G 1 (m + 43) x4 (G 1 (m + 43) (x4 - 1)) → (inI (x4 + (-1))) ∧ EX e b m m_M_byRule Z kc ks 62 [(2, (m + 0)), (0, x1), (0, x2), (0, x3), (0, (x4 + (-1))), (9, 0), (9, 0), (9, 0), (9, 0)] [] G14))))))))) ∧ ((x4 ≤ 0 ∨ (0 < x4 ∧ x3 ≤ (((zM m G 8 (G 1 (m + 43) (x4 - 1))) * 1000) / (zLen (zM m G) (G 1 (m + 43) (x4 - 1)))))) → (0 ≤ x4 ∧ x4 < 16) ∧ (∀ G18 : gH, G18 = gU G 1 (m + 43) x4 x2 → (inI (x2 + 1)) ∧ EX e b m m_M_byRule Z kc ks 4 [(2, (m + 0)), (0, x1), (0, (x2 + 1)), (9, 0), (9, 0), (9, 0), (9, 0), (9, 0), (9, 0)] [] G18))) : EX e b m m_M_byRule Z kc ks 62 [(2, (m + 0)), (0, x1), (0, x2), (0, x3), (0, x4), (9, 0), (9, 0), (9, 0), (9, 0)] [] G := by
  obtain ⟨h, hJ16⟩ := h
  have kJ16 : (x4 ≤ 0 ∨ (0 < x4 ∧ x3 ≤ (((zM m G 8 (G 1 (m + 43) (x4 - 1))) * 1000) / (zLen (zM m G) (G 1 (m + 43) (x4 - 1)))))) → EX e b m m_M_byRule Z kc ks 125 [(2, (m + 0)), (0, x1), (0, x2), (0, x3), (0, x4), (9, 0), (9, 0), (9, 0), (9, 0)] [] G := by
    intro rJ16
    have h := hJ16 rJ16
    refine e_aload_n d_M_byRule_125 rfl ?_
    refine gx_M_142 d_M_byRule_126 rfl ?_
    refine e_iload d_M_byRule_129 rfl ?_
    refine e_iload_n d_M_byRule_131 rfl ?_
    obtain ⟨o17, h⟩ := h
    refine xM_iast 43 rfl d_M_byRule_132 o17 ?_
    let G18 : gH := gU G 1 (m + 43) x4 x2
    have h := h G18 rfl
    obtain ⟨o19, h⟩ := h
    refine e_iinc (ls' := [(2, (m + 0)), (0, x1), (0, (x2 + 1)), (0, x3), (0, x4), (9, 0), (9, 0), (9, 0), (9, 0)]) d_M_byRule_133 rfl (by decide) o19 rfl ?_
    refine e_goto (tgt := 4) d_M_byRule_136 (by decide) ?_
    exact e_forget (ls' := [(2, (m + 0)), (0, x1), (0, (x2 + 1)), (9, 0), (9, 0), (9, 0), (9, 0), (9, 0), (9, 0)]) ⟨Or.inr rfl, Or.inr rfl, Or.inr rfl, Or.inl rfl, Or.inl rfl, Or.inl rfl, Or.inl rfl, Or.inl rfl, Or.inl rfl, trivial⟩ h
  refine e_iload d_M_byRule_62 rfl ?_
  refine e_if_le (tgt := 125) d_M_byRule_64 (by decide) (fun q1 => ?_) (fun q2 => ?_)
  · exact kJ16 (Or.inl q1)
  · have h := h q2
    refine e_aload_n d_M_byRule_67 rfl ?_
    refine gx_M_36 d_M_byRule_68 rfl ?_
    refine e_aload_n d_M_byRule_71 rfl ?_
    refine gx_M_142 d_M_byRule_72 rfl ?_
    refine e_iload d_M_byRule_75 rfl ?_
    refine e_iconst d_M_byRule_77 (by decide) ?_
    obtain ⟨o3, h⟩ := h
    refine e_isub d_M_byRule_78 o3 ?_
    obtain ⟨o4, h⟩ := h
    refine xM_iald 43 rfl d_M_byRule_79 o4 ?_
    obtain ⟨o5, h⟩ := h
    refine xM_iald 8 rfl d_M_byRule_80 o5 ?_
    refine e_sipush d_M_byRule_81 (by decide) (by decide) ?_
    obtain ⟨o6, h⟩ := h
    refine e_imul d_M_byRule_84 o6 ?_
    refine e_aload_n d_M_byRule_85 rfl ?_
    refine e_aload_n d_M_byRule_86 rfl ?_
    refine gx_M_142 d_M_byRule_87 rfl ?_
    refine e_iload d_M_byRule_90 rfl ?_
    refine e_iconst d_M_byRule_92 (by decide) ?_
    refine e_isub d_M_byRule_93 o3 ?_
    refine xM_iald 43 rfl d_M_byRule_94 o4 ?_
    refine EV.inv fun hFf7 => ?_
    have f7 := (fx_mt 0 rfl hFf7).1
    obtain ⟨o8, h⟩ := h
    refine e_callV m_M_length 12 lw_good d_M_byRule_95 (k_M_length _) ⟨Nat.le_of_ble_eq_true rfl, Nat.le_of_ble_eq_true rfl⟩ w_1656 w_1658 w_s58 (q_M _) rfl f7 (args := [(0, (G 1 (m + 43) (x4 - 1)))]) rfl rfl (Nat.le_of_ble_eq_true rfl) (kc' := kc) (ks' := ks) (mc := 0) (ms := 0) rfl rfl (c_M_length o8) (pureK ?_)
    obtain ⟨o9, o10, h⟩ := h
    refine e_idiv d_M_byRule_98 o9 o10 ?_
    refine e_iload_n d_M_byRule_99 rfl ?_
    refine e_icmp_ge (tgt := 125) d_M_byRule_100 (by decide) (fun q11 => ?_) (fun q12 => ?_)
    · exact kJ16 (Or.inr ⟨q2, q11⟩)
    · have h := h q12
      refine e_aload_n d_M_byRule_103 rfl ?_
      refine gx_M_142 d_M_byRule_104 rfl ?_
      refine e_iload d_M_byRule_107 rfl ?_
      refine e_aload_n d_M_byRule_109 rfl ?_
      refine gx_M_142 d_M_byRule_110 rfl ?_
      refine e_iload d_M_byRule_113 rfl ?_
      refine e_iconst d_M_byRule_115 (by decide) ?_
      refine e_isub d_M_byRule_116 o3 ?_
      refine xM_iald 43 rfl d_M_byRule_117 o4 ?_
      obtain ⟨o13, h⟩ := h
      refine xM_iast 43 rfl d_M_byRule_118 o13 ?_
      let G14 : gH := gU G 1 (m + 43) x4 (G 1 (m + 43) (x4 - 1))
      have h := h G14 rfl
      obtain ⟨o15, h⟩ := h
      refine e_iinc (ls' := [(2, (m + 0)), (0, x1), (0, x2), (0, x3), (0, (x4 + (-1))), (9, 0), (9, 0), (9, 0), (9, 0)]) d_M_byRule_119 rfl (by decide) o15 rfl ?_
      refine e_goto (tgt := 62) d_M_byRule_122 (by decide) ?_
      exact e_forget (ls' := [(2, (m + 0)), (0, x1), (0, x2), (0, x3), (0, (x4 + (-1))), (9, 0), (9, 0), (9, 0), (9, 0)]) ⟨Or.inr rfl, Or.inr rfl, Or.inr rfl, Or.inr rfl, Or.inr rfl, Or.inl rfl, Or.inl rfl, Or.inl rfl, Or.inl rfl, trivial⟩ h
set_option maxRecDepth 20000 in
set_option maxHeartbeats 4000000 in
theorem sg_M_byRule_165 {e : gE} {b : Nat} {m : Int} {Z : Int → gH → Prop} {kc ks : Nat} {G : gH} {x1 x2 x3 x4 x5 x6 x7 : Int} (h : ((zM m G 786 0) ≤ x7 → (0 ≤ x4 ∧ x4 < 16) ∧ (∀ G4 : gH, G4 = gU G 1 (m + 42) x4 x5 → (x5 = (-1) → (inI (x3 + 1)) ∧ EX e b m m_M_byRule Z kc ks 143 [(2, (m + 0)), (0, x1), (0, x2), (0, (x3 + 1)), (9, 0), (9, 0), (9, 0), (9, 0), (9, 0)] [] G4) ∧ (x5 ≠ (-1) → (inI (x2 + (zM m G4 8 x4))) ∧ (inI (x3 + 1)) ∧ EX e b m m_M_byRule Z kc ks 143 [(2, (m + 0)), (0, x1), (0, (x2 + (zM m G4 8 x4))), (0, (x3 + 1)), (9, 0), (9, 0), (9, 0), (9, 0), (9, 0)] [] G4))) ∧ (x7 < (zM m G 786 0) → (0 ≤ x4 ∧ x4 < 16) ∧ (∀ G11 : gH, G11 = gU G 1 (m + 42) x4 x7 → GX e b m m_M_isDoing [(2, (m + 0)), (0, x7), (2, (m + 42))] G11 0 0 (fun v13 G14 => (v13 = 0 → (inI (x7 + 1)) ∧ EX e b m m_M_byRule Z kc ks 165 [(2, (m + 0)), (0, x1), (0, x2), (0, x3), (0, x4), (0, x5), (0, x6), (0, (x7 + 1)), (9, 0)] [] G14) ∧ (v13 ≠ 0 → GX e b m m_M_ends [(2, (m + 0)), (0, x7), (2, (m + 42))] G14 0 0 (fun v18 G19 => (x5 ≠ (-1) → (x6 ≤ v18 → (inI (x7 + 1)) ∧ EX e b m m_M_byRule Z kc ks 165 [(2, (m + 0)), (0, x1), (0, x2), (0, x3), (0, x4), (0, x5), (0, x6), (0, (x7 + 1)), (9, 0)] [] G19)) ∧ ((x5 = (-1) ∨ (x5 ≠ (-1) ∧ v18 < x6)) → (inI (x7 + 1)) ∧ EX e b m m_M_byRule Z kc ks 165 [(2, (m + 0)), (0, x1), (0, x2), (0, x3), (0, x4), (0, x7), (0, v18), (0, (x7 + 1)), (9, 0)] [] G19))))))) : EX e b m m_M_byRule Z kc ks 165 [(2, (m + 0)), (0, x1), (0, x2), (0, x3), (0, x4), (0, x5), (0, x6), (0, x7), (9, 0)] [] G := by
  refine e_iload d_M_byRule_165 rfl ?_
  refine e_aload_n d_M_byRule_167 rfl ?_
  refine gx_M_174 d_M_byRule_168 rfl ?_
  refine e_icmp_ge (tgt := 235) d_M_byRule_171 (by decide) (fun q1 => ?_) (fun q2 => ?_)
  · have h := h.1 q1
    refine e_aload_n d_M_byRule_235 rfl ?_
    refine gx_M_139 d_M_byRule_236 rfl ?_
    refine e_iload d_M_byRule_239 rfl ?_
    refine e_iload d_M_byRule_241 rfl ?_
    obtain ⟨o3, h⟩ := h
    refine xM_iast 42 rfl d_M_byRule_243 o3 ?_
    let G4 : gH := gU G 1 (m + 42) x4 x5
    have h := h G4 rfl
    refine e_iload d_M_byRule_244 rfl ?_
    refine e_iconst d_M_byRule_246 (by decide) ?_
    refine e_icmp_eq (tgt := 260) d_M_byRule_247 (by decide) (fun q5 => ?_) (fun q6 => ?_)
    · have h := h.1 q5
      obtain ⟨o8, h⟩ := h
      refine e_iinc (ls' := [(2, (m + 0)), (0, x1), (0, x2), (0, (x3 + 1)), (0, x4), (0, x5), (0, x6), (0, x7), (9, 0)]) d_M_byRule_260 rfl (by decide) o8 rfl ?_
      refine e_goto (tgt := 143) d_M_byRule_263 (by decide) ?_
      exact e_forget (ls' := [(2, (m + 0)), (0, x1), (0, x2), (0, (x3 + 1)), (9, 0), (9, 0), (9, 0), (9, 0), (9, 0)]) ⟨Or.inr rfl, Or.inr rfl, Or.inr rfl, Or.inr rfl, Or.inl rfl, Or.inl rfl, Or.inl rfl, Or.inl rfl, Or.inl rfl, trivial⟩ h
    · have h := h.2 q6
      refine e_iload_n d_M_byRule_250 rfl ?_
      refine e_aload_n d_M_byRule_251 rfl ?_
      refine gx_M_36 d_M_byRule_252 rfl ?_
      refine e_iload d_M_byRule_255 rfl ?_
      refine xM_iald 8 rfl d_M_byRule_257 o3 ?_
      obtain ⟨o7, h⟩ := h
      refine e_iadd d_M_byRule_258 o7 ?_
      refine e_istore_n (ls' := [(2, (m + 0)), (0, x1), (0, (x2 + (zM m G4 8 x4))), (0, x3), (0, x4), (0, x5), (0, x6), (0, x7), (9, 0)]) d_M_byRule_259 (by decide) rfl ?_
      obtain ⟨o9, h⟩ := h
      refine e_iinc (ls' := [(2, (m + 0)), (0, x1), (0, (x2 + (zM m G4 8 x4))), (0, (x3 + 1)), (0, x4), (0, x5), (0, x6), (0, x7), (9, 0)]) d_M_byRule_260 rfl (by decide) o9 rfl ?_
      refine e_goto (tgt := 143) d_M_byRule_263 (by decide) ?_
      exact e_forget (ls' := [(2, (m + 0)), (0, x1), (0, (x2 + (zM m G4 8 x4))), (0, (x3 + 1)), (9, 0), (9, 0), (9, 0), (9, 0), (9, 0)]) ⟨Or.inr rfl, Or.inr rfl, Or.inr rfl, Or.inr rfl, Or.inl rfl, Or.inl rfl, Or.inl rfl, Or.inl rfl, Or.inl rfl, trivial⟩ h
  · have h := h.2 q2
    refine e_aload_n d_M_byRule_174 rfl ?_
    refine gx_M_139 d_M_byRule_175 rfl ?_
    refine e_iload d_M_byRule_178 rfl ?_
    refine e_iload d_M_byRule_180 rfl ?_
    obtain ⟨o10, h⟩ := h
    refine xM_iast 42 rfl d_M_byRule_182 o10 ?_
    let G11 : gH := gU G 1 (m + 42) x4 x7
    have h := h G11 rfl
    refine e_aload_n d_M_byRule_183 rfl ?_
    refine e_iload d_M_byRule_184 rfl ?_
    refine e_aload_n d_M_byRule_186 rfl ?_
    refine gx_M_139 d_M_byRule_187 rfl ?_
    refine EV.inv fun hFf12 => ?_
    have f12 := (fx_mt 0 rfl hFf12).1
    refine e_callV m_M_isDoing 12 lw_good d_M_byRule_190 (k_M_isDoing _) ⟨Nat.le_of_ble_eq_true rfl, Nat.le_of_ble_eq_true rfl⟩ w_1632 w_1634 w_s52 (q_M _) rfl f12 (args := [(0, x7), (2, (m + 42))]) rfl rfl (Nat.le_of_ble_eq_true rfl) (kc' := kc) (ks' := ks) (mc := 0) (ms := 0) rfl rfl h ?_
    intro v13 G14 h
    refine e_if_eq (tgt := 229) d_M_byRule_193 (by decide) (fun q15 => ?_) (fun q16 => ?_)
    · have h := h.1 q15
      obtain ⟨o27, h⟩ := h
      refine e_iinc (ls' := [(2, (m + 0)), (0, x1), (0, x2), (0, x3), (0, x4), (0, x5), (0, x6), (0, (x7 + 1)), (9, 0)]) d_M_byRule_229 rfl (by decide) o27 rfl ?_
      refine e_goto (tgt := 165) d_M_byRule_232 (by decide) ?_
      exact e_forget (ls' := [(2, (m + 0)), (0, x1), (0, x2), (0, x3), (0, x4), (0, x5), (0, x6), (0, (x7 + 1)), (9, 0)]) ⟨Or.inr rfl, Or.inr rfl, Or.inr rfl, Or.inr rfl, Or.inr rfl, Or.inr rfl, Or.inr rfl, Or.inr rfl, Or.inl rfl, trivial⟩ h
    · have h := h.2 q16
      refine e_aload_n d_M_byRule_196 rfl ?_
      refine e_iload d_M_byRule_197 rfl ?_
      refine e_aload_n d_M_byRule_199 rfl ?_
      refine gx_M_139 d_M_byRule_200 rfl ?_
      refine EV.inv fun hFf17 => ?_
      have f17 := (fx_mt 0 rfl hFf17).1
      refine e_callV m_M_ends 12 lw_good d_M_byRule_203 (k_M_ends _) ⟨Nat.le_of_ble_eq_true rfl, Nat.le_of_ble_eq_true rfl⟩ w_1668 w_1670 w_s61 (q_M _) rfl f17 (args := [(0, x7), (2, (m + 42))]) rfl rfl (Nat.le_of_ble_eq_true rfl) (kc' := kc) (ks' := ks) (mc := 0) (ms := 0) rfl rfl h ?_
      intro v18 G19 h
      obtain ⟨h, hJ24⟩ := h
      have kJ24 : (x5 = (-1) ∨ (x5 ≠ (-1) ∧ v18 < x6)) → EX e b m m_M_byRule Z kc ks 221 [(2, (m + 0)), (0, x1), (0, x2), (0, x3), (0, x4), (0, x5), (0, x6), (0, x7), (0, v18)] [] G19 := by
        intro rJ24
        have h := hJ24 rJ24
        refine e_iload d_M_byRule_221 rfl ?_
        refine e_istore (ls' := [(2, (m + 0)), (0, x1), (0, x2), (0, x3), (0, x4), (0, x7), (0, x6), (0, x7), (0, v18)]) d_M_byRule_223 (by decide) rfl ?_
        refine e_iload d_M_byRule_225 rfl ?_
        refine e_istore (ls' := [(2, (m + 0)), (0, x1), (0, x2), (0, x3), (0, x4), (0, x7), (0, v18), (0, x7), (0, v18)]) d_M_byRule_227 (by decide) rfl ?_
        obtain ⟨o26, h⟩ := h
        refine e_iinc (ls' := [(2, (m + 0)), (0, x1), (0, x2), (0, x3), (0, x4), (0, x7), (0, v18), (0, (x7 + 1)), (0, v18)]) d_M_byRule_229 rfl (by decide) o26 rfl ?_
        refine e_goto (tgt := 165) d_M_byRule_232 (by decide) ?_
        exact e_forget (ls' := [(2, (m + 0)), (0, x1), (0, x2), (0, x3), (0, x4), (0, x7), (0, v18), (0, (x7 + 1)), (9, 0)]) ⟨Or.inr rfl, Or.inr rfl, Or.inr rfl, Or.inr rfl, Or.inr rfl, Or.inr rfl, Or.inr rfl, Or.inr rfl, Or.inl rfl, trivial⟩ h
      refine e_istore (ls' := [(2, (m + 0)), (0, x1), (0, x2), (0, x3), (0, x4), (0, x5), (0, x6), (0, x7), (0, v18)]) d_M_byRule_206 (by decide) rfl ?_
      refine e_iload d_M_byRule_208 rfl ?_
      refine e_iconst d_M_byRule_210 (by decide) ?_
      refine e_icmp_eq (tgt := 221) d_M_byRule_211 (by decide) (fun q20 => ?_) (fun q21 => ?_)
      · exact kJ24 (Or.inl q20)
      · have h := h q21
        refine e_iload d_M_byRule_214 rfl ?_
        refine e_iload d_M_byRule_216 rfl ?_
        refine e_icmp_ge (tgt := 229) d_M_byRule_218 (by decide) (fun q22 => ?_) (fun q23 => ?_)
        · have h := h q22
          obtain ⟨o25, h⟩ := h
          refine e_iinc (ls' := [(2, (m + 0)), (0, x1), (0, x2), (0, x3), (0, x4), (0, x5), (0, x6), (0, (x7 + 1)), (0, v18)]) d_M_byRule_229 rfl (by decide) o25 rfl ?_
          refine e_goto (tgt := 165) d_M_byRule_232 (by decide) ?_
          exact e_forget (ls' := [(2, (m + 0)), (0, x1), (0, x2), (0, x3), (0, x4), (0, x5), (0, x6), (0, (x7 + 1)), (9, 0)]) ⟨Or.inr rfl, Or.inr rfl, Or.inr rfl, Or.inr rfl, Or.inr rfl, Or.inr rfl, Or.inr rfl, Or.inr rfl, Or.inl rfl, trivial⟩ h
        · exact kJ24 (Or.inr ⟨q21, q23⟩)
theorem zRt_b {A : zA} {t : Int} (h : zB 512 A) (hR : zR A t) : (0 ≤ A 8 t * 1000 ∧ A 8 t * 1000 ≤ 100000) ∧ 1 ≤ zLen A t := by
  have b1 : 0 ≤ A 8 t ∧ A 8 t ≤ 100 := h 8 t
  have := zLen_b hR
  omega
theorem l_M_byRule_62 {e : gE} {b : Nat} {m : Int} {Z : Int → gH → Prop} {kc ks : Nat} {G0 : gH} {n T : Int} {O : Int → Int} (A : zA) (hB : zB 512 A) (hR : ∀ t, 0 ≤ t → t < 16 → zJb A t → zR A t) (hT : 0 ≤ T ∧ T < 16) (hP : zJb A T) (hE : zEnum (zJb A) (fun t => -zRt A t) T n O) (hA : zM m G0 = A) (K : ∀ G1, zO (m + 43) G0 G1 → zEnum (zJb A) (fun t => -zRt A t) (T + 1) (n + 1) (G1 1 (m + 43)) → EX e b m m_M_byRule Z kc ks 4 [(2, (m + 0)), (0, (n + 1)), (0, (T + 1)), (9, 0), (9, 0), (9, 0), (9, 0), (9, 0), (9, 0)] [] G1) : ∀ (r : Nat) (k : Int) (G1 : gH), k = r → k ≤ n → zO (m + 43) G0 G1 → (∀ i, 0 ≤ i → i < k → G1 1 (m + 43) i = O i) → (∀ i, k < i → i ≤ n → G1 1 (m + 43) i = O (i - 1)) → (∀ i, k ≤ i → i < n → -zRt A T < -zRt A (O i)) → EX e b m m_M_byRule Z kc ks 62 [(2, (m + 0)), (0, (n + 1)), (0, T), (0, zRt A T), (0, k), (9, 0), (9, 0), (9, 0), (9, 0)] [] G1 := by
  have hn := hE.1
  have fin : ∀ (k : Int) (G1 : gH), 0 ≤ k → k ≤ n → zO (m + 43) G0 G1 → (∀ i, 0 ≤ i → i < k → G1 1 (m + 43) i = O i) → (∀ i, k < i → i ≤ n → G1 1 (m + 43) i = O (i - 1)) → (∀ i, k ≤ i → i < n → -zRt A T < -zRt A (O i)) → (∀ i, 0 ≤ i → i < k → -zRt A (O i) ≤ -zRt A T) → EX e b m m_M_byRule Z kc ks 4 [(2, (m + 0)), (0, (n + 1)), (0, (T + 1)), (9, 0), (9, 0), (9, 0), (9, 0), (9, 0), (9, 0)] [] (gU G1 1 (m + 43) k T) := by
    intro k G1 k0 k1 h1 h2 h3 h4 h5
    refine K _ (zO_u h1) (zEnum_ins hE hP ⟨k0, k1⟩ h5 h4 (fun i i1 i2 => ?_) gU_eq (fun i i1 i2 => ?_))
    · rw [gU_j (by omega)]; exact h2 i i1 i2
    · rw [gU_j (by omega)]; exact h3 i i1 i2
  intro r
  induction r with
  | zero =>
    intro k G1 hk k1 h1 h2 h3 h4
    refine sg_M_byRule_62 ⟨fun q => absurd q (by omega), fun _ => ⟨by omega, ?_⟩⟩
    rintro _ rfl
    exact ⟨by omega, fin k G1 (by omega) k1 h1 h2 h3 h4 (fun i i1 i2 => by omega)⟩
  | succ r ih =>
    intro k G1 hk k1 h1 h2 h3 h4
    have e1 : G1 1 (m + 43) (k - 1) = O (k - 1) := h2 _ (by omega) (by omega)
    have e2 := zO_M h1 (by decide)
    have hm := hE.2.1 (k - 1) (by omega) (by omega)
    have hr := hR _ hm.1.1 (by omega) hm.2
    have br := zRt_b hB hr
    refine sg_M_byRule_62 ?_
    rw [e2, hA, e1]
    change (0 < k → _ ∧ _ ∧ _ ∧ _ ∧ _ ∧ _ ∧ _ ∧ (zRt A (O (k - 1)) < zRt A T → _)) ∧ ((k ≤ 0 ∨ (0 < k ∧ zRt A T ≤ zRt A (O (k - 1)))) → _)
    refine ⟨fun _ => ⟨by omega, by omega, by omega, by omega, hr, by omega, by omega, fun q => ⟨by omega, ?_⟩⟩, fun q => ⟨by omega, ?_⟩⟩
    · rintro _ rfl
      refine ⟨by omega, ih (k + (-1)) _ (by omega) (by omega) (zO_u h1) (fun i i1 i2 => ?_) (fun i i1 i2 => ?_) (fun i i1 i2 => ?_)⟩
      · rw [gU_j (by omega)]; exact h2 i i1 (by omega)
      · by_cases z : i = k
        · subst z; rw [gU_eq]
        · rw [gU_j z]; exact h3 i (by omega) i2
      · by_cases z : i = k - 1
        · subst z; omega
        · exact h4 i (by omega) i2
    · rintro _ rfl
      refine ⟨by omega, fin k G1 (by omega) k1 h1 h2 h3 h4 (fun i i1 i2 => ?_)⟩
      have q2 : zRt A T ≤ zRt A (O (k - 1)) := by omega
      by_cases z : i = k - 1
      · rw [z]; omega
      · have : zBf (fun t => -zRt A t) (O i) (O (k - 1)) := hE.2.2.1 i (k - 1) i1 (by omega) (by omega)
        have q3 : -zRt A (O i) < -zRt A (O (k - 1)) ∨ (-zRt A (O i) = -zRt A (O (k - 1)) ∧ O i < O (k - 1)) := this
        omega
/-- a giving as it stands in an array -/
abbrev zFe (A : zA) (F f : Int → Int) : Prop := ∀ t, 0 ≤ t → t < A 785 0 → f t = F t
theorem l_M_byRule_165 {e : gE} {b : Nat} {m : Int} {Z : Int → gH → Prop} {kc ks : Nat} {G0 : gH} {n sum i t : Int} {F : Int → Int} (A : zA) (hB : zB 512 A) (hI : zIr A) (ht : 0 ≤ t ∧ t < A 785 0) (hs : 0 ≤ sum ∧ sum ≤ 2000) (hi : 0 ≤ i ∧ i < 16) (K : ∀ G1, zM m G1 = A → zC m G0 G1 → (∀ j, G1 1 (m + 43) j = G0 1 (m + 43) j) → zFe A (zSet F t (zTm A F t (A 786 0)).1) (G1 1 (m + 42)) → EX e b m m_M_byRule Z kc ks 143 [(2, (m + 0)), (0, n), (0, sum + if (zTm A F t (A 786 0)).1 = -1 then 0 else A 8 t), (0, (i + 1)), (9, 0), (9, 0), (9, 0), (9, 0), (9, 0)] [] G1) (G : gH) (hA : zM m G = A) (hC : zC m G0 G) (hL : ∀ j, G 1 (m + 43) j = G0 1 (m + 43) j) (hF : ∀ j, 0 ≤ j → j < A 785 0 → j ≠ t → G 1 (m + 42) j = F j) : EX e b m m_M_byRule Z kc ks 165 [(2, (m + 0)), (0, n), (0, sum), (0, i), (0, t), (0, (-1)), (0, 0), (0, 0), (9, 0)] [] G := by
  have b0 : 0 ≤ A 785 0 ∧ A 785 0 ≤ 16 := hB 785 0
  have b1 : 0 ≤ A 786 0 ∧ A 786 0 ≤ 3 := hB 786 0
  have b2 : 0 ≤ A 8 t ∧ A 8 t ≤ 100 := hB 8 t
  have h0 := zLen_0 hB hI
  refine zloop (P := fun k => ∀ G1, zM m G1 = A → zC m G0 G1 → (∀ j, G1 1 (m + 43) j = G0 1 (m + 43) j) → (∀ j, 0 ≤ j → j < A 785 0 → j ≠ t → G1 1 (m + 42) j = F j) → EX e b m m_M_byRule Z kc ks 165 [(2, (m + 0)), (0, n), (0, sum), (0, i), (0, t), (0, (zTm A F t k).1), (0, (zTm A F t k).2), (0, k), (9, 0)] [] G1) (i := 0) (A 786 0) b1.1 ?_ ?_ G hA hC hL hF
  · intro G1 k1 k2 k3 k4
    refine sg_M_byRule_165 ?_
    rw [k1]
    refine ⟨fun _ => ⟨by omega, ?_⟩, fun q => absurd q (by omega)⟩
    rintro _ rfl
    have e1 : zM m (gU G1 1 (m + 42) t (zTm A F t (A 786 0)).1) = A := by rw [zM_u42]; exact k1
    have fin := K (gU G1 1 (m + 42) t (zTm A F t (A 786 0)).1) e1 (zC_u k2 (by decide)) (fun j => by rw [gU_k (by decide)]; exact k3 j) (fun j j1 j2 => by
      by_cases z : j = t
      · subst z; rw [gU_eq, zSet_eq]
      · rw [gU_j z, zSet_ne z]; exact k4 j j1 j2 z)
    rw [e1]
    refine ⟨fun q => ⟨by omega, ?_⟩, fun q => ⟨by omega, by omega, ?_⟩⟩
    · rw [if_pos q] at fin
      rw [show sum + 0 = sum from by omega] at fin
      exact fin
    · rw [if_neg q] at fin
      exact fin
  · intro k j1 j2 st G1 k1 k2 k3 k4
    refine sg_M_byRule_165 ?_
    rw [k1]
    refine ⟨fun q => absurd q (by omega), fun _ => ⟨by omega, ?_⟩⟩
    rintro _ rfl
    have e1 : zM m (gU G1 1 (m + 42) t k) = A := by rw [zM_u42]; exact k1
    have gv : ∀ j, 0 ≤ j → j < A 785 0 → (zGv A (gU G1 1 (m + 42) t k 1 (m + 42)) k j ↔ zGv A (zSet F t k) k j) := fun j q1 q2 => by
      have : gU G1 1 (m + 42) t k 1 (m + 42) j = zSet F t k j := by
        by_cases z : j = t
        · subst z; rw [gU_eq, zSet_eq]
        · rw [gU_j z, zSet_ne z]; exact k4 j q1 q2 z
      unfold zGv
      rw [this]
    refine z_ctw 42 rfl fun hk => ?_
    refine GM.mono (c_M_isDoing (by rw [e1]; exact hB) (by rw [e1]; exact hI) (by omega) hk (by omega)) ?_
    rintro v G2 ⟨l1, l2⟩
    rw [e1, zDo_c b0.1 h0 gv] at l1
    have m2 : zM m G2 = A := (zO_M l2 (by decide)).trans e1
    have c2 : zC m G0 G2 := zC_t (zC_u k2 (by decide)) (zO_C l2 (by decide))
    have L2 : ∀ j, G2 1 (m + 43) j = G0 1 (m + 43) j := fun j => by
      rw [l2 1 (m + 43) j (fun _ => by omega), gU_k (by decide)]; exact k3 j
    have f2 : ∀ j, G2 1 (m + 42) j = gU G1 1 (m + 42) t k 1 (m + 42) j := fun j => l2 1 (m + 42) j (fun _ => by omega)
    have F2 : ∀ j, 0 ≤ j → j < A 785 0 → j ≠ t → G2 1 (m + 42) j = F j := fun j q1 q2 q3 => by
      rw [f2, gU_j q3]; exact k4 j q1 q2 q3
    rw [zTm_s j1] at st
    refine ⟨fun q => ⟨by omega, ?_⟩, fun q => ?_⟩
    · rw [zIf_neg (by rintro ⟨w, -⟩; exact l1.elim (fun z => by omega) (fun z => z.2 w))] at st
      exact st G2 m2 c2 L2 F2
    · have hd : zDo A (zSet F t k) k := by
        rcases l1 with l1 | l1
        · exact l1.2
        · exact absurd l1.1 q
      refine z_ctw 42 rfl fun hk2 => ?_
      refine GM.mono (c_M_ends (by rw [m2]; exact hB) (by rw [m2]; exact hI) (by omega) hk2) ?_
      rintro v2 G3 ⟨l3, rfl⟩
      rw [m2, zEnds_c (g' := zSet F t k) b0.1 (fun j q1 q2 => by
        have := gv j q1 q2
        unfold zGv at *
        rw [f2]
        exact this)] at l3
      subst l3
      refine ⟨fun q1 q2 => ⟨by omega, ?_⟩, fun q1 => ⟨by omega, ?_⟩⟩
      · rw [zIf_neg (by rintro ⟨-, w⟩; omega)] at st
        exact st G3 m2 c2 L2 F2
      · rw [zIf_pos ⟨hd, by omega⟩] at st
        exact st G3 m2 c2 L2 F2
theorem zRu_b {A : zA} {O : Int → Int} (h : zB 512 A) (n : Int) (hn : 0 ≤ n) : 0 ≤ (zRu A O n).2 ∧ (zRu A O n).2 ≤ 100 * n := by
  refine zloopI (i := 0) (I := fun n => 0 ≤ (zRu A O n).2 ∧ (zRu A O n).2 ≤ 100 * n) (P := fun _ => 0 ≤ (zRu A O n).2 ∧ (zRu A O n).2 ≤ 100 * n) n hn ⟨Int.le_refl _, Int.le_refl _⟩ ?_ (fun q => q) (fun j h1 h2 hi q => q)
  intro j h1 h2 hi
  rw [zRu_s h1]
  have b2 : 0 ≤ A 8 (O j) ∧ A 8 (O j) ≤ 100 := h 8 (O j)
  dsimp only
  split <;> omega
theorem c_M_byRule {e : gE} {b : Nat} {m : Int} {G : gH} (h : zB 512 (zM m G)) (hI : zIr (zM m G)) : GX e b m m_M_byRule [(2, (m + 0))] G 0 0 (fun v G1 => v = (zRule (zM m G)).2 ∧ zFe (zM m G) (zRule (zM m G)).1 (G1 1 (m + 42)) ∧ zM m G1 = zM m G ∧ zC m G G1) := by
  generalize hA : zM m G = A at *
  have b0 : 0 ≤ A 785 0 ∧ A 785 0 ≤ 16 := h 785 0
  have hR : ∀ t, 0 ≤ t → t < 16 → zJb A t → zR A t := fun t t1 t2 q => zR_of h hI ⟨t1, t2⟩ q.1
  refine GM.ofEV (by decide) (Nat.le_of_ble_eq_true rfl) (sg_M_byRule_0 ?_)
  refine zloop (P := fun T => ∀ (n : Int) (G1 : gH), zM m G1 = A → zC m G G1 → zEnum (zJb A) (fun t => -zRt A t) T n (G1 1 (m + 43)) → (∀ t, 0 ≤ t → t < T → G1 1 (m + 42) t = -1) → EX e b m m_M_byRule _ _ _ 4 [(2, (m + 0)), (0, n), (0, T), (9, 0), (9, 0), (9, 0), (9, 0), (9, 0), (9, 0)] [] G1) (i := 0) (A 785 0) b0.1 ?_ ?_ 0 G hA zC_r zEnum_0 (fun t t1 t2 => by omega)
  · intro n G1 k1 k2 k3 k4
    have hn := k3.1
    refine sg_M_byRule_4 ?_
    rw [k1]
    refine ⟨fun _ => ?_, fun q => absurd q (by omega)⟩
    have eR := zRule_u k3
    refine zloop (P := fun i => ∀ G2, zM m G2 = A → zC m G G2 → (∀ j, G2 1 (m + 43) j = G1 1 (m + 43) j) → zFe A (zRu A (G1 1 (m + 43)) i).1 (G2 1 (m + 42)) → EX e b m m_M_byRule _ _ _ 143 [(2, (m + 0)), (0, n), (0, (zRu A (G1 1 (m + 43)) i).2), (0, i), (9, 0), (9, 0), (9, 0), (9, 0), (9, 0)] [] G2) (i := 0) n hn.1 ?_ ?_ G1 k1 k2 (fun _ => rfl) k4
    · intro G2 l1 l2 l3 l4
      refine sg_M_byRule_143 ⟨fun _ => ?_, fun q => absurd q (by omega)⟩
      rw [eR]
      exact ⟨rfl, l4, l1, l2⟩
    · intro i i1 i2 st G2 l1 l2 l3 l4
      have hm := k3.2.1 i i1 i2
      have bs := zRu_b (O := G1 1 (m + 43)) h i i1
      refine sg_M_byRule_143 ⟨fun q => absurd q (by omega), fun _ => ⟨by omega, ?_⟩⟩
      rw [l3]
      rw [zRu_s i1] at st
      refine l_M_byRule_165 (G0 := G2) (F := (zRu A (G1 1 (m + 43)) i).1) A h hI hm.1 (by omega) (by omega) (fun G3 o1 o2 o3 o4 => ?_) G2 l1 zC_r (fun _ => rfl) (fun j j1 j2 _ => l4 j j1 j2)
      exact st G3 o1 (zC_t l2 o2) (fun j => (o3 j).trans (l3 j)) o4
  · intro T t1 t2 st n G1 k1 k2 k3 k4
    have hn := k3.1
    refine sg_M_byRule_4 ?_
    rw [k1]
    refine ⟨fun q => absurd q (by omega), fun _ => ⟨by omega, ?_⟩⟩
    rintro _ rfl
    have e1 : zM m (gU G1 1 (m + 42) T (-1)) = A := by rw [zM_u42]; exact k1
    have f1 : ∀ t, 0 ≤ t → t < T + 1 → gU G1 1 (m + 42) T (-1) 1 (m + 42) t = -1 := fun t q1 q2 => by
      by_cases z : t = T
      · rw [z, gU_eq]
      · rw [gU_j z]; exact k4 t q1 (by omega)
    have L1 : ∀ i, gU G1 1 (m + 42) T (-1) 1 (m + 43) i = G1 1 (m + 43) i := fun i => gU_k (by decide)
    rw [e1]
    refine ⟨fun q1 => ⟨zR_of h hI (by omega) q1, fun q2 => ?_⟩, fun q => ⟨by omega, st n _ e1 (zC_u k2 (by decide)) (zEnum_ext (zEnum_skip k3 (by rintro ⟨w1, w2⟩; omega)) (fun i _ _ => L1 i)) f1⟩⟩
    have br := zRt_b h (zR_of h hI (t := T) (by omega) q1)
    refine ⟨by omega, by omega, by omega, by omega, ?_⟩
    refine l_M_byRule_62 (G0 := gU G1 1 (m + 42) T (-1)) (O := G1 1 (m + 43)) A h hR (by omega) ⟨q1, q2⟩ k3 e1 (fun G2 o1 o2 => ?_) n.toNat n _ (by omega) (Int.le_refl _) zO_r (fun i _ _ => L1 i) (fun i i1 i2 => by omega) (fun i i1 i2 => by omega)
    refine st _ G2 ((zO_M o1 (by decide)).trans e1) (zC_t (zC_u k2 (by decide)) (zO_C o1 (by decide))) o2 (fun t q3 q4 => ?_)
    rw [o1 1 (m + 42) t (fun _ => by omega)]
    exact f1 t q3 q4
