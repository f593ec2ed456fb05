/-! THE REFERENCE, 9: weeks -/
set_option maxRecDepth 20000 in
set_option maxHeartbeats 4000000 in
theorem sg_M_weeks_0 {e : gE} {b : Nat} {m : Int} {Z : Int → gH → Prop} {kc ks : Nat} {G : gH} {p1 : Int} (h : (1 ≤ p1 → (p1 ≤ 60 → ((zM m G 788 0) = 2 → (inI ((zM m G 791 0) + p1)) ∧ ((((zM m G 791 0) + p1) ≤ 1000 → EX e b m m_M_weeks Z kc ks 47 [(2, (m + 0)), (0, p1), (0, 0), (9, 0), (9, 0), (9, 0), (9, 0), (9, 0), (9, 0)] [] G) ∧ (1000 < ((zM m G 791 0) + p1) → GX e b m m_M_no [(2, (m + 0)), (0, (-7))] G 0 0 (fun v11 G12 => Z v11 G12)))))) ∧ ((p1 < 1 ∨ (1 ≤ p1 ∧ 60 < p1) ∨ (1 ≤ p1 ∧ p1 ≤ 60 ∧ (zM m G 788 0) ≠ 2)) → GX e b m m_M_no [(2, (m + 0)), (0, (-6))] G 0 0 (fun v15 G16 => Z v15 G16))) : EX e b m m_M_weeks Z kc ks 0 [(2, (m + 0)), (0, p1), (9, 0), (9, 0), (9, 0), (9, 0), (9, 0), (9, 0), (9, 0)] [] G := by
  obtain ⟨h, hJ13⟩ := h
  have kJ13 : (p1 < 1 ∨ (1 ≤ p1 ∧ 60 < p1) ∨ (1 ≤ p1 ∧ p1 ≤ 60 ∧ (zM m G 788 0) ≠ 2)) → EX e b m m_M_weeks Z kc ks 19 [(2, (m + 0)), (0, p1), (9, 0), (9, 0), (9, 0), (9, 0), (9, 0), (9, 0), (9, 0)] [] G := by
    intro rJ13
    have h := hJ13 rJ13
    refine e_aload_n d_M_weeks_19 rfl ?_
    refine e_bipush d_M_weeks_20 (by decide) (by decide) ?_
    refine EV.inv fun hFf14 => ?_
    have f14 := (fx_mt 0 rfl hFf14).1
    refine e_callV m_M_no 12 lw_good d_M_weeks_22 (k_M_no _) ⟨Nat.le_of_ble_eq_true rfl, Nat.le_of_ble_eq_true rfl⟩ w_1569 w_1571 w_s42 (q_M _) rfl f14 (args := [(0, (-6))]) rfl rfl (Nat.le_of_ble_eq_true rfl) (kc' := kc) (ks' := ks) (mc := 0) (ms := 0) rfl rfl h ?_
    intro v15 G16 h
    exact e_iret d_M_weeks_25 rfl h
  refine e_iload_n d_M_weeks_0 rfl ?_
  refine e_iconst d_M_weeks_1 (by decide) ?_
  refine e_icmp_lt (tgt := 19) d_M_weeks_2 (by decide) (fun q1 => ?_) (fun q2 => ?_)
  · exact kJ13 (Or.inl q1)
  · have h := h q2
    refine e_iload_n d_M_weeks_5 rfl ?_
    refine e_bipush d_M_weeks_6 (by decide) (by decide) ?_
    refine e_icmp_gt (tgt := 19) d_M_weeks_8 (by decide) (fun q3 => ?_) (fun q4 => ?_)
    · exact kJ13 (Or.inr (Or.inl ⟨q2, q3⟩))
    · have h := h q4
      refine e_aload_n d_M_weeks_11 rfl ?_
      refine gx_M_165 d_M_weeks_12 rfl ?_
      refine e_iconst d_M_weeks_15 (by decide) ?_
      refine e_icmp_eq (tgt := 26) d_M_weeks_16 (by decide) (fun q5 => ?_) (fun q6 => ?_)
      · have h := h q5
        refine e_aload_n d_M_weeks_26 rfl ?_
        refine gx_M_259 d_M_weeks_27 rfl ?_
        refine e_iload_n d_M_weeks_30 rfl ?_
        obtain ⟨o7, h⟩ := h
        refine e_iadd d_M_weeks_31 o7 ?_
        refine e_sipush d_M_weeks_32 (by decide) (by decide) ?_
        refine e_icmp_le (tgt := 45) d_M_weeks_35 (by decide) (fun q8 => ?_) (fun q9 => ?_)
        · have h := h.1 q8
          refine e_iconst d_M_weeks_45 (by decide) ?_
          refine e_istore_n (ls' := [(2, (m + 0)), (0, p1), (0, 0), (9, 0), (9, 0), (9, 0), (9, 0), (9, 0), (9, 0)]) d_M_weeks_46 (by decide) rfl ?_
          exact e_forget (ls' := [(2, (m + 0)), (0, p1), (0, 0), (9, 0), (9, 0), (9, 0), (9, 0), (9, 0), (9, 0)]) ⟨Or.inr rfl, Or.inr rfl, Or.inr rfl, Or.inl rfl, Or.inl rfl, Or.inl rfl, Or.inl rfl, Or.inl rfl, Or.inl rfl, trivial⟩ h
        · have h := h.2 q9
          refine e_aload_n d_M_weeks_38 rfl ?_
          refine e_bipush d_M_weeks_39 (by decide) (by decide) ?_
          refine EV.inv fun hFf10 => ?_
          have f10 := (fx_mt 0 rfl hFf10).1
          refine e_callV m_M_no 12 lw_good d_M_weeks_41 (k_M_no _) ⟨Nat.le_of_ble_eq_true rfl, Nat.le_of_ble_eq_true rfl⟩ w_1569 w_1571 w_s42 (q_M _) rfl f10 (args := [(0, (-7))]) rfl rfl (Nat.le_of_ble_eq_true rfl) (kc' := kc) (ks' := ks) (mc := 0) (ms := 0) rfl rfl h ?_
          intro v11 G12 h
          exact e_iret d_M_weeks_44 rfl h
      · exact kJ13 (Or.inr (Or.inr ⟨q2, q4, q6⟩))
set_option maxRecDepth 20000 in
set_option maxHeartbeats 4000000 in
theorem sg_M_weeks_47 {e : gE} {b : Nat} {m : Int} {Z : Int → gH → Prop} {kc ks : Nat} {G : gH} {p1 x2 : Int} (h : (p1 ≤ x2 → Z (zM m G 791 0) G) ∧ (x2 < p1 → EX e b m m_M_weeks Z kc ks 54 [(2, (m + 0)), (0, p1), (0, x2), (0, 0), (9, 0), (9, 0), (9, 0), (9, 0), (9, 0)] [] G)) : EX e b m m_M_weeks Z kc ks 47 [(2, (m + 0)), (0, p1), (0, x2), (9, 0), (9, 0), (9, 0), (9, 0), (9, 0), (9, 0)] [] G := by
  refine e_iload_n d_M_weeks_47 rfl ?_
  refine e_iload_n d_M_weeks_48 rfl ?_
  refine e_icmp_ge (tgt := 270) d_M_weeks_49 (by decide) (fun q1 => ?_) (fun q2 => ?_)
  · have h := h.1 q1
    refine e_aload_n d_M_weeks_270 rfl ?_
    refine gx_M_259 d_M_weeks_271 rfl ?_
    exact e_iret d_M_weeks_274 rfl h
  · have h := h.2 q2
    refine e_iconst d_M_weeks_52 (by decide) ?_
    refine e_istore_n (ls' := [(2, (m + 0)), (0, p1), (0, x2), (0, 0), (9, 0), (9, 0), (9, 0), (9, 0), (9, 0)]) d_M_weeks_53 (by decide) rfl ?_
    exact e_forget (ls' := [(2, (m + 0)), (0, p1), (0, x2), (0, 0), (9, 0), (9, 0), (9, 0), (9, 0), (9, 0)]) ⟨Or.inr rfl, Or.inr rfl, Or.inr rfl, Or.inr rfl, Or.inl rfl, Or.inl rfl, Or.inl rfl, Or.inl rfl, Or.inl rfl, trivial⟩ h
set_option maxRecDepth 20000 in
set_option maxHeartbeats 4000000 in
theorem sg_M_weeks_54 {e : gE} {b : Nat} {m : Int} {Z : Int → gH → Prop} {kc ks : Nat} {G : gH} {p1 x2 x3 : Int} (h : ((zM m G 785 0) ≤ x3 → (inI ((zM m G 791 0) + 1)) ∧ (∀ G4 : gH, G4 = gU G 791 (m + 0) 0 ((zM m G 791 0) + 1) → (inI (x2 + 1)) ∧ EX e b m m_M_weeks Z kc ks 47 [(2, (m + 0)), (0, p1), (0, (x2 + 1)), (9, 0), (9, 0), (9, 0), (9, 0), (9, 0), (9, 0)] [] G4)) ∧ (x3 < (zM m G 785 0) → (0 ≤ x3 ∧ x3 < 16) ∧ (((zM m G 11 x3) ≠ 300 → EX e b m m_M_weeks Z kc ks 85 [(2, (m + 0)), (0, p1), (0, x2), (0, x3), (9, 0), (9, 0), (9, 0), (9, 0), (9, 0)] [] G) ∧ ((zM m G 11 x3) = 300 → (inI ((zM m G 12 x3) + 10)) ∧ (∀ G10 : gH, G10 = gU G 1 (m + 12) x3 ((zM m G 12 x3) + 10) → EX e b m m_M_weeks Z kc ks 85 [(2, (m + 0)), (0, p1), (0, x2), (0, x3), (9, 0), (9, 0), (9, 0), (9, 0), (9, 0)] [] G10))))) : EX e b m m_M_weeks Z kc ks 54 [(2, (m + 0)), (0, p1), (0, x2), (0, x3), (9, 0), (9, 0), (9, 0), (9, 0), (9, 0)] [] G := by
  refine e_iload_n d_M_weeks_54 rfl ?_
  refine e_aload_n d_M_weeks_55 rfl ?_
  refine gx_M_151 d_M_weeks_56 rfl ?_
  refine e_icmp_ge (tgt := 254) d_M_weeks_59 (by decide) (fun q1 => ?_) (fun q2 => ?_)
  · have h := h.1 q1
    refine e_aload_n d_M_weeks_254 rfl ?_
    refine e_dup d_M_weeks_255 (by simp) ?_
    refine gx_M_259 d_M_weeks_256 rfl ?_
    refine e_iconst d_M_weeks_259 (by decide) ?_
    obtain ⟨o3, h⟩ := h
    refine e_iadd d_M_weeks_260 o3 ?_
    refine px_M_259 d_M_weeks_261 rfl ?_
    let G4 : gH := gU G 791 (m + 0) 0 ((zM m G 791 0) + 1)
    have h := h G4 rfl
    obtain ⟨o5, h⟩ := h
    refine e_iinc (ls' := [(2, (m + 0)), (0, p1), (0, (x2 + 1)), (0, x3), (9, 0), (9, 0), (9, 0), (9, 0), (9, 0)]) d_M_weeks_264 rfl (by decide) o5 rfl ?_
    refine e_goto (tgt := 47) d_M_weeks_267 (by decide) ?_
    exact e_forget (ls' := [(2, (m + 0)), (0, p1), (0, (x2 + 1)), (9, 0), (9, 0), (9, 0), (9, 0), (9, 0), (9, 0)]) ⟨Or.inr rfl, Or.inr rfl, Or.inr rfl, Or.inl rfl, Or.inl rfl, Or.inl rfl, Or.inl rfl, Or.inl rfl, Or.inl rfl, trivial⟩ h
  · have h := h.2 q2
    refine e_aload_n d_M_weeks_62 rfl ?_
    refine gx_M_45 d_M_weeks_63 rfl ?_
    refine e_iload_n d_M_weeks_66 rfl ?_
    obtain ⟨o6, h⟩ := h
    refine xM_iald 11 rfl d_M_weeks_67 o6 ?_
    refine e_sipush d_M_weeks_68 (by decide) (by decide) ?_
    refine e_icmp_ne (tgt := 85) d_M_weeks_71 (by decide) (fun q7 => ?_) (fun q8 => ?_)
    · have h := h.1 q7
      exact e_forget (ls' := [(2, (m + 0)), (0, p1), (0, x2), (0, x3), (9, 0), (9, 0), (9, 0), (9, 0), (9, 0)]) ⟨Or.inr rfl, Or.inr rfl, Or.inr rfl, Or.inr rfl, Or.inl rfl, Or.inl rfl, Or.inl rfl, Or.inl rfl, Or.inl rfl, trivial⟩ h
    · have h := h.2 q8
      refine e_aload_n d_M_weeks_74 rfl ?_
      refine gx_M_48 d_M_weeks_75 rfl ?_
      refine e_iload_n d_M_weeks_78 rfl ?_
      refine e_dup2 d_M_weeks_79 (by simp) (by simp) ?_
      refine xM_iald 12 rfl d_M_weeks_80 o6 ?_
      refine e_bipush d_M_weeks_81 (by decide) (by decide) ?_
      obtain ⟨o9, h⟩ := h
      refine e_iadd d_M_weeks_83 o9 ?_
      refine xM_iast 12 rfl d_M_weeks_84 o6 ?_
      let G10 : gH := gU G 1 (m + 12) x3 ((zM m G 12 x3) + 10)
      have h := h G10 rfl
      exact e_forget (ls' := [(2, (m + 0)), (0, p1), (0, x2), (0, x3), (9, 0), (9, 0), (9, 0), (9, 0), (9, 0)]) ⟨Or.inr rfl, Or.inr rfl, Or.inr rfl, Or.inr rfl, Or.inl rfl, Or.inl rfl, Or.inl rfl, Or.inl rfl, Or.inl rfl, trivial⟩ h
set_option maxRecDepth 20000 in
set_option maxHeartbeats 4000000 in
theorem sg_M_weeks_85 {e : gE} {b : Nat} {m : Int} {Z : Int → gH → Prop} {kc ks : Nat} {G : gH} {p1 x2 x3 : Int} (h : (0 ≤ x3 ∧ x3 < 16) ∧ ((zAt (zM m G) x3 → (inI ((zM m G 11 x3) - 400)) ∧ ((zP (zM m G) ((zM m G 11 x3) - 400) (zM m G 791 0)) ∧ (((¬ (zMiss (zM m G) ((zM m G 11 x3) - 400) (zM m G 791 0))) → (zP (zM m G) ((zM m G 11 x3) - 400) (zM m G 791 0) ∧ zM m G 26 ((zM m G 11 x3) - 400) ≠ 0) ∧ ((0 ≤ (zM m G 7 x3) ∧ (zM m G 7 x3) < 4) ∧ (((zM m G 29 (zM m G 7 x3)) ≤ (zAir (zM m G) ((zM m G 11 x3) - 400) (zM m G 791 0)) → ((zAir (zM m G) ((zM m G 11 x3) - 400) (zM m G 791 0)) ≤ (zM m G 30 (zM m G 7 x3)) → EX e b m m_M_weeks Z kc ks 222 [(2, (m + 0)), (0, p1), (0, x2), (0, x3), (9, 0), (9, 0), (9, 0), (1, 0), (9, 0)] [] G) ∧ ((zM m G 30 (zM m G 7 x3)) < (zAir (zM m G) ((zM m G 11 x3) - 400) (zM m G 791 0)) → (inL ((zAir (zM m G) ((zM m G 11 x3) - 400) (zM m G 791 0)) - (zM m G 30 (zM m G 7 x3)))) ∧ EX e b m m_M_weeks Z kc ks 222 [(2, (m + 0)), (0, p1), (0, x2), (0, x3), (9, 0), (9, 0), (9, 0), (1, ((zAir (zM m G) ((zM m G 11 x3) - 400) (zM m G 791 0)) - (zM m G 30 (zM m G 7 x3)))), (9, 0)] [] G)) ∧ ((zAir (zM m G) ((zM m G 11 x3) - 400) (zM m G 791 0)) < (zM m G 29 (zM m G 7 x3)) → (inL ((zM m G 29 (zM m G 7 x3)) - (zAir (zM m G) ((zM m G 11 x3) - 400) (zM m G 791 0)))) ∧ EX e b m m_M_weeks Z kc ks 222 [(2, (m + 0)), (0, p1), (0, x2), (0, x3), (9, 0), (9, 0), (9, 0), (1, ((zM m G 29 (zM m G 7 x3)) - (zAir (zM m G) ((zM m G 11 x3) - 400) (zM m G 791 0)))), (9, 0)] [] G)))) ∧ (zMiss (zM m G) ((zM m G 11 x3) - 400) (zM m G 791 0) → (inI ((zM m G 12 x3) + 5)) ∧ (∀ G20 : gH, G20 = gU G 1 (m + 12) x3 ((zM m G 12 x3) + 5) → EX e b m m_M_weeks Z kc ks 248 [(2, (m + 0)), (0, p1), (0, x2), (0, x3), (9, 0), (9, 0), (9, 0), (9, 0), (9, 0)] [] G20))))) ∧ ((¬ (zAt (zM m G) x3)) → EX e b m m_M_weeks Z kc ks 248 [(2, (m + 0)), (0, p1), (0, x2), (0, x3), (9, 0), (9, 0), (9, 0), (9, 0), (9, 0)] [] G))) : EX e b m m_M_weeks Z kc ks 85 [(2, (m + 0)), (0, p1), (0, x2), (0, x3), (9, 0), (9, 0), (9, 0), (9, 0), (9, 0)] [] G := by
  refine e_aload_n d_M_weeks_85 rfl ?_
  refine e_iload_n d_M_weeks_86 rfl ?_
  refine EV.inv fun hFf1 => ?_
  have f1 := (fx_mt 0 rfl hFf1).1
  obtain ⟨o2, h⟩ := h
  refine e_callV m_M_isInPlace 12 lw_good d_M_weeks_87 (k_M_isInPlace _) ⟨Nat.le_of_ble_eq_true rfl, Nat.le_of_ble_eq_true rfl⟩ w_1797 w_1799 w_s69 (q_M _) rfl f1 (args := [(0, x3)]) rfl rfl (Nat.le_of_ble_eq_true rfl) (kc' := kc) (ks' := ks) (mc := 0) (ms := 0) rfl rfl (c_M_isInPlace o2) (pureK ?_)
  refine e_if_ne (tgt := 96) d_M_weeks_90 (by decide) (fun q3 => ?_) (fun q4 => ?_)
  · replace q3 := gb1.mp q3
    have h := h.1 q3
    refine e_aload_n d_M_weeks_96 rfl ?_
    refine gx_M_45 d_M_weeks_97 rfl ?_
    refine e_iload_n d_M_weeks_100 rfl ?_
    refine xM_iald 11 rfl d_M_weeks_101 o2 ?_
    refine e_sipush d_M_weeks_102 (by decide) (by decide) ?_
    obtain ⟨o5, h⟩ := h
    refine e_isub d_M_weeks_105 o5 ?_
    refine e_istore (ls' := [(2, (m + 0)), (0, p1), (0, x2), (0, x3), (0, ((zM m G 11 x3) - 400)), (9, 0), (9, 0), (9, 0), (9, 0)]) d_M_weeks_106 (by decide) rfl ?_
    refine e_aload_n d_M_weeks_108 rfl ?_
    refine e_iload d_M_weeks_109 rfl ?_
    refine e_aload_n d_M_weeks_111 rfl ?_
    refine gx_M_259 d_M_weeks_112 rfl ?_
    refine EV.inv fun hFf6 => ?_
    have f6 := (fx_mt 0 rfl hFf6).1
    obtain ⟨o7, h⟩ := h
    refine e_callV m_M_isMissing 12 lw_good d_M_weeks_115 (k_M_isMissing _) ⟨Nat.le_of_ble_eq_true rfl, Nat.le_of_ble_eq_true rfl⟩ w_1768 w_1770 w_s67 (q_M _) rfl f6 (args := [(0, ((zM m G 11 x3) - 400)), (0, (zM m G 791 0))]) rfl rfl (Nat.le_of_ble_eq_true rfl) (kc' := kc) (ks' := ks) (mc := 0) (ms := 0) rfl rfl (c_M_isMissing o7) (pureK ?_)
    refine e_if_eq (tgt := 134) d_M_weeks_118 (by decide) (fun q8 => ?_) (fun q9 => ?_)
    · replace q8 := gb0.mp q8
      have h := h.1 q8
      refine e_aload_n d_M_weeks_134 rfl ?_
      refine e_iload d_M_weeks_135 rfl ?_
      refine e_aload_n d_M_weeks_137 rfl ?_
      refine gx_M_259 d_M_weeks_138 rfl ?_
      refine EV.inv fun hFf10 => ?_
      have f10 := (fx_mt 0 rfl hFf10).1
      obtain ⟨o11, h⟩ := h
      refine e_callV m_M_airAt 12 lw_good d_M_weeks_141 (k_M_airAt _) ⟨Nat.le_of_ble_eq_true rfl, Nat.le_of_ble_eq_true rfl⟩ w_1776 w_1778 w_s68 (q_M _) rfl f10 (args := [(0, ((zM m G 11 x3) - 400)), (0, (zM m G 791 0))]) rfl rfl (Nat.le_of_ble_eq_true rfl) (kc' := kc) (ks' := ks) (mc := 0) (ms := 0) rfl rfl (c_M_airAt o11) (pureK ?_)
      refine e_i2l d_M_weeks_144 ?_
      refine e_lstore (ls' := [(2, (m + 0)), (0, p1), (0, x2), (0, x3), (0, ((zM m G 11 x3) - 400)), (1, (zAir (zM m G) ((zM m G 11 x3) - 400) (zM m G 791 0))), (9, 0), (9, 0), (9, 0)]) d_M_weeks_145 (by decide) rfl ?_
      refine e_lload d_M_weeks_147 rfl ?_
      refine e_aload_n d_M_weeks_149 rfl ?_
      refine gx_M_100 d_M_weeks_150 rfl ?_
      refine e_aload_n d_M_weeks_153 rfl ?_
      refine gx_M_33 d_M_weeks_154 rfl ?_
      refine e_iload_n d_M_weeks_157 rfl ?_
      refine xM_iald 7 rfl d_M_weeks_158 o2 ?_
      obtain ⟨o12, h⟩ := h
      refine xM_iald 29 rfl d_M_weeks_159 o12 ?_
      refine e_i2l d_M_weeks_160 ?_
      refine e_lcmp_ge (tgt := 183) d_M_weeks_161 d_M_weeks_162 (by decide) (fun q13 => ?_) (fun q14 => ?_)
      · have h := h.1 q13
        refine e_lload d_M_weeks_183 rfl ?_
        refine e_aload_n d_M_weeks_185 rfl ?_
        refine gx_M_103 d_M_weeks_186 rfl ?_
        refine e_aload_n d_M_weeks_189 rfl ?_
        refine gx_M_33 d_M_weeks_190 rfl ?_
        refine e_iload_n d_M_weeks_193 rfl ?_
        refine xM_iald 7 rfl d_M_weeks_194 o2 ?_
        refine xM_iald 30 rfl d_M_weeks_195 o12 ?_
        refine e_i2l d_M_weeks_196 ?_
        refine e_lcmp_le (tgt := 219) d_M_weeks_197 d_M_weeks_198 (by decide) (fun q15 => ?_) (fun q16 => ?_)
        · have h := h.1 q15
          refine e_lconst 0 d_M_weeks_219 (by decide) (by decide) ?_
          refine e_lstore (ls' := [(2, (m + 0)), (0, p1), (0, x2), (0, x3), (0, ((zM m G 11 x3) - 400)), (1, (zAir (zM m G) ((zM m G 11 x3) - 400) (zM m G 791 0))), (9, 0), (1, 0), (9, 0)]) d_M_weeks_220 (by decide) rfl ?_
          exact e_forget (ls' := [(2, (m + 0)), (0, p1), (0, x2), (0, x3), (9, 0), (9, 0), (9, 0), (1, 0), (9, 0)]) ⟨Or.inr rfl, Or.inr rfl, Or.inr rfl, Or.inr rfl, Or.inl rfl, Or.inl rfl, Or.inl rfl, Or.inr rfl, Or.inl rfl, trivial⟩ h
        · have h := h.2 q16
          refine e_lload d_M_weeks_201 rfl ?_
          refine e_aload_n d_M_weeks_203 rfl ?_
          refine gx_M_103 d_M_weeks_204 rfl ?_
          refine e_aload_n d_M_weeks_207 rfl ?_
          refine gx_M_33 d_M_weeks_208 rfl ?_
          refine e_iload_n d_M_weeks_211 rfl ?_
          refine xM_iald 7 rfl d_M_weeks_212 o2 ?_
          refine xM_iald 30 rfl d_M_weeks_213 o12 ?_
          refine e_i2l d_M_weeks_214 ?_
          obtain ⟨o17, h⟩ := h
          refine e_lsub d_M_weeks_215 o17 ?_
          refine e_goto (tgt := 220) d_M_weeks_216 (by decide) ?_
          refine e_lstore (ls' := [(2, (m + 0)), (0, p1), (0, x2), (0, x3), (0, ((zM m G 11 x3) - 400)), (1, (zAir (zM m G) ((zM m G 11 x3) - 400) (zM m G 791 0))), (9, 0), (1, ((zAir (zM m G) ((zM m G 11 x3) - 400) (zM m G 791 0)) - (zM m G 30 (zM m G 7 x3)))), (9, 0)]) d_M_weeks_220 (by decide) rfl ?_
          exact e_forget (ls' := [(2, (m + 0)), (0, p1), (0, x2), (0, x3), (9, 0), (9, 0), (9, 0), (1, ((zAir (zM m G) ((zM m G 11 x3) - 400) (zM m G 791 0)) - (zM m G 30 (zM m G 7 x3)))), (9, 0)]) ⟨Or.inr rfl, Or.inr rfl, Or.inr rfl, Or.inr rfl, Or.inl rfl, Or.inl rfl, Or.inl rfl, Or.inr rfl, Or.inl rfl, trivial⟩ h
      · have h := h.2 q14
        refine e_aload_n d_M_weeks_165 rfl ?_
        refine gx_M_100 d_M_weeks_166 rfl ?_
        refine e_aload_n d_M_weeks_169 rfl ?_
        refine gx_M_33 d_M_weeks_170 rfl ?_
        refine e_iload_n d_M_weeks_173 rfl ?_
        refine xM_iald 7 rfl d_M_weeks_174 o2 ?_
        refine xM_iald 29 rfl d_M_weeks_175 o12 ?_
        refine e_i2l d_M_weeks_176 ?_
        refine e_lload d_M_weeks_177 rfl ?_
        obtain ⟨o18, h⟩ := h
        refine e_lsub d_M_weeks_179 o18 ?_
        refine e_goto (tgt := 220) d_M_weeks_180 (by decide) ?_
        refine e_lstore (ls' := [(2, (m + 0)), (0, p1), (0, x2), (0, x3), (0, ((zM m G 11 x3) - 400)), (1, (zAir (zM m G) ((zM m G 11 x3) - 400) (zM m G 791 0))), (9, 0), (1, ((zM m G 29 (zM m G 7 x3)) - (zAir (zM m G) ((zM m G 11 x3) - 400) (zM m G 791 0)))), (9, 0)]) d_M_weeks_220 (by decide) rfl ?_
        exact e_forget (ls' := [(2, (m + 0)), (0, p1), (0, x2), (0, x3), (9, 0), (9, 0), (9, 0), (1, ((zM m G 29 (zM m G 7 x3)) - (zAir (zM m G) ((zM m G 11 x3) - 400) (zM m G 791 0)))), (9, 0)]) ⟨Or.inr rfl, Or.inr rfl, Or.inr rfl, Or.inr rfl, Or.inl rfl, Or.inl rfl, Or.inl rfl, Or.inr rfl, Or.inl rfl, trivial⟩ h
    · replace q9 := gb1.mp q9
      have h := h.2 q9
      refine e_aload_n d_M_weeks_121 rfl ?_
      refine gx_M_48 d_M_weeks_122 rfl ?_
      refine e_iload_n d_M_weeks_125 rfl ?_
      refine e_dup2 d_M_weeks_126 (by simp) (by simp) ?_
      refine xM_iald 12 rfl d_M_weeks_127 o2 ?_
      refine e_iconst d_M_weeks_128 (by decide) ?_
      obtain ⟨o19, h⟩ := h
      refine e_iadd d_M_weeks_129 o19 ?_
      refine xM_iast 12 rfl d_M_weeks_130 o2 ?_
      let G20 : gH := gU G 1 (m + 12) x3 ((zM m G 12 x3) + 5)
      have h := h G20 rfl
      refine e_goto (tgt := 248) d_M_weeks_131 (by decide) ?_
      exact e_forget (ls' := [(2, (m + 0)), (0, p1), (0, x2), (0, x3), (9, 0), (9, 0), (9, 0), (9, 0), (9, 0)]) ⟨Or.inr rfl, Or.inr rfl, Or.inr rfl, Or.inr rfl, Or.inl rfl, Or.inl rfl, Or.inl rfl, Or.inl rfl, Or.inl rfl, trivial⟩ h
  · replace q4 := gb0.mp q4
    have h := h.2 q4
    refine e_goto (tgt := 248) d_M_weeks_93 (by decide) ?_
    exact e_forget (ls' := [(2, (m + 0)), (0, p1), (0, x2), (0, x3), (9, 0), (9, 0), (9, 0), (9, 0), (9, 0)]) ⟨Or.inr rfl, Or.inr rfl, Or.inr rfl, Or.inr rfl, Or.inl rfl, Or.inl rfl, Or.inl rfl, Or.inl rfl, Or.inl rfl, trivial⟩ h
set_option maxRecDepth 20000 in
set_option maxHeartbeats 4000000 in
theorem sg_M_weeks_248 {e : gE} {b : Nat} {m : Int} {Z : Int → gH → Prop} {kc ks : Nat} {G : gH} {p1 x2 x3 : Int} (h : (inI (x3 + 1)) ∧ EX e b m m_M_weeks Z kc ks 54 [(2, (m + 0)), (0, p1), (0, x2), (0, (x3 + 1)), (9, 0), (9, 0), (9, 0), (9, 0), (9, 0)] [] G) : EX e b m m_M_weeks Z kc ks 248 [(2, (m + 0)), (0, p1), (0, x2), (0, x3), (9, 0), (9, 0), (9, 0), (9, 0), (9, 0)] [] G := by
  obtain ⟨o1, h⟩ := h
  refine e_iinc (ls' := [(2, (m + 0)), (0, p1), (0, x2), (0, (x3 + 1)), (9, 0), (9, 0), (9, 0), (9, 0), (9, 0)]) d_M_weeks_248 rfl (by decide) o1 rfl ?_
  refine e_goto (tgt := 54) d_M_weeks_251 (by decide) ?_
  exact e_forget (ls' := [(2, (m + 0)), (0, p1), (0, x2), (0, (x3 + 1)), (9, 0), (9, 0), (9, 0), (9, 0), (9, 0)]) ⟨Or.inr rfl, Or.inr rfl, Or.inr rfl, Or.inr rfl, Or.inl rfl, Or.inl rfl, Or.inl rfl, Or.inl rfl, Or.inl rfl, trivial⟩ h
set_option maxRecDepth 20000 in
set_option maxHeartbeats 4000000 in
theorem sg_M_weeks_222 {e : gE} {b : Nat} {m : Int} {Z : Int → gH → Prop} {kc ks : Nat} {G : gH} {p1 x2 x3 x7 : Int} (h : (0 ≤ x3 ∧ x3 < 16) ∧ ((x7 ≤ 100 → (inI ((zM m G 12 x3) + (w32 x7))) ∧ (∀ G5 : gH, G5 = gU G 1 (m + 12) x3 ((zM m G 12 x3) + (w32 x7)) → EX e b m m_M_weeks Z kc ks 248 [(2, (m + 0)), (0, p1), (0, x2), (0, x3), (9, 0), (9, 0), (9, 0), (9, 0), (9, 0)] [] G5)) ∧ (100 < x7 → (inI ((zM m G 12 x3) + 100)) ∧ (∀ G7 : gH, G7 = gU G 1 (m + 12) x3 ((zM m G 12 x3) + 100) → EX e b m m_M_weeks Z kc ks 248 [(2, (m + 0)), (0, p1), (0, x2), (0, x3), (9, 0), (9, 0), (9, 0), (9, 0), (9, 0)] [] G7)))) : EX e b m m_M_weeks Z kc ks 222 [(2, (m + 0)), (0, p1), (0, x2), (0, x3), (9, 0), (9, 0), (9, 0), (1, x7), (9, 0)] [] G := by
  refine e_aload_n d_M_weeks_222 rfl ?_
  refine gx_M_48 d_M_weeks_223 rfl ?_
  refine e_iload_n d_M_weeks_226 rfl ?_
  refine e_dup2 d_M_weeks_227 (by simp) (by simp) ?_
  obtain ⟨o1, h⟩ := h
  refine xM_iald 12 rfl d_M_weeks_228 o1 ?_
  refine e_lload d_M_weeks_229 rfl ?_
  refine e_ldc2 100 d_M_weeks_231 (by decide) w_1825 ?_
  refine e_lcmp_le (tgt := 243) d_M_weeks_234 d_M_weeks_235 (by decide) (fun q2 => ?_) (fun q3 => ?_)
  · have h := h.1 q2
    refine e_lload d_M_weeks_243 rfl ?_
    refine e_l2i d_M_weeks_245 ?_
    obtain ⟨o4, h⟩ := h
    refine e_iadd d_M_weeks_246 o4 ?_
    refine xM_iast 12 rfl d_M_weeks_247 o1 ?_
    let G5 : gH := gU G 1 (m + 12) x3 ((zM m G 12 x3) + (w32 x7))
    have h := h G5 rfl
    exact e_forget (ls' := [(2, (m + 0)), (0, p1), (0, x2), (0, x3), (9, 0), (9, 0), (9, 0), (9, 0), (9, 0)]) ⟨Or.inr rfl, Or.inr rfl, Or.inr rfl, Or.inr rfl, Or.inl rfl, Or.inl rfl, Or.inl rfl, Or.inl rfl, Or.inl rfl, trivial⟩ h
  · have h := h.2 q3
    refine e_bipush d_M_weeks_238 (by decide) (by decide) ?_
    refine e_goto (tgt := 246) d_M_weeks_240 (by decide) ?_
    obtain ⟨o6, h⟩ := h
    refine e_iadd d_M_weeks_246 o6 ?_
    refine xM_iast 12 rfl d_M_weeks_247 o1 ?_
    let G7 : gH := gU G 1 (m + 12) x3 ((zM m G 12 x3) + 100)
    have h := h G7 rfl
    exact e_forget (ls' := [(2, (m + 0)), (0, p1), (0, x2), (0, x3), (9, 0), (9, 0), (9, 0), (9, 0), (9, 0)]) ⟨Or.inr rfl, Or.inr rfl, Or.inr rfl, Or.inr rfl, Or.inl rfl, Or.inl rfl, Or.inl rfl, Or.inl rfl, Or.inl rfl, trivial⟩ h
theorem zU_same {A : zA} {k : Nat} {j v : Int} (h : v = A k j) : zU A k j v = A := by
  funext k' i
  unfold zU
  split
  · rename_i q; rw [q.1, q.2, h]
  · rfl
def zOff (A : zA) (k a : Int) : Int := if a < A 29 k then (if 100 < A 29 k - a then 100 else A 29 k - a) else if A 30 k < a then (if 100 < a - A 30 k then 100 else a - A 30 k) else 0
/-- what a week does to a thing -/
def zHarm (A : zA) (t : Int) : Int := if A 11 t = 300 then 10 else if zAt A t then (if zMiss A (A 11 t - 400) (A 791 0) then 5 else zOff A (A 7 t) (zAir A (A 11 t - 400) (A 791 0))) else 0
theorem zHarm_b {A : zA} {t : Int} : 0 ≤ zHarm A t ∧ zHarm A t ≤ 100 := by
  unfold zHarm zOff
  (repeat' split) <;> omega
def zWk1 (t : Int) (r : Int × zA) : Int × zA := (r.1, zU r.2 12 t (r.2 12 t + zHarm r.2 t))
def zWk (k : Int) (r : Int × zA) : Int × zA := (k + 1, zU (zF zWk1 r (r.2 785 0)).2 791 0 (r.2 791 0 + 1))
def zfWeeks (A : zA) (n : Int) : Int × zA := if n < 1 ∨ n > 60 ∨ A 788 0 ≠ 2 then zNo A (-6) else if A 791 0 + n > 1000 then zNo A (-7) else (A 791 0 + n, (zF zWk (0, A) n).2)
/-- what the weeks' loop needs of the bounds -/
abbrev zWB (A : zA) : Prop := (0 ≤ A 785 0 ∧ A 785 0 ≤ 16) ∧ (0 ≤ A 791 0 ∧ A 791 0 ≤ 1000) ∧ (∀ t, 0 ≤ A 7 t ∧ A 7 t ≤ 3) ∧ (∀ p, 0 ≤ A 26 p ∧ A 26 p ≤ 60) ∧ (∀ t, zAt A t → A 11 t < 405) ∧ (∀ k, (0 ≤ A 29 k ∧ A 29 k ≤ 100) ∧ 0 ≤ A 30 k ∧ A 30 k ≤ 100)
theorem zAir_b {A : zA} {p w : Int} : inI (zAir A p w) := by
  unfold zAir w32
  omega
section WK
variable {e : gE} {b : Nat} {m : Int} {Z : Int → gH → Prop} {kc ks : Nat} {G0 G : gH} {p1 x2 t : Int}
theorem l_M_weeks_85 (hW : zWB (zM m G)) (ht : 0 ≤ t ∧ t < 16) (hh : 0 ≤ zM m G 12 t ∧ zM m G 12 t ≤ 4000000) (hn : zM m G 11 t ≠ 300) (K : ∀ G1, zM m G1 = zU (zM m G) 12 t (zM m G 12 t + zHarm (zM m G) t) → zC m G G1 → EX e b m m_M_weeks Z kc ks 248 [(2, (m + 0)), (0, p1), (0, x2), (0, t), (9, 0), (9, 0), (9, 0), (9, 0), (9, 0)] [] G1) : EX e b m m_M_weeks Z kc ks 85 [(2, (m + 0)), (0, p1), (0, x2), (0, t), (9, 0), (9, 0), (9, 0), (9, 0), (9, 0)] [] G := by
  obtain ⟨w1, w2, w3, w4, w5, w6⟩ := hW
  have k3 := w3 t
  have k6 := w6 (zM m G 7 t)
  have ka := zAir_b (A := zM m G) (p := zM m G 11 t - 400) (w := zM m G 791 0)
  have hP : zAt (zM m G) t → zP (zM m G) (zM m G 11 t - 400) (zM m G 791 0) := fun q => ⟨by have := w5 t q; omega, w2.1, w4 _⟩
  have fin : ∀ x, zAt (zM m G) t → ¬ zMiss (zM m G) (zM m G 11 t - 400) (zM m G 791 0) → 0 ≤ x → x ≤ 8589934592 → zOff (zM m G) (zM m G 7 t) (zAir (zM m G) (zM m G 11 t - 400) (zM m G 791 0)) = (if 100 < x then 100 else x) → EX e b m m_M_weeks Z kc ks 222 [(2, (m + 0)), (0, p1), (0, x2), (0, t), (9, 0), (9, 0), (9, 0), (1, x), (9, 0)] [] G := by
    intro x q1 q2 x1 x2 hx
    have hz : zHarm (zM m G) t = if 100 < x then 100 else x := by unfold zHarm; rw [if_neg hn, if_pos q1, if_neg q2, hx]
    refine sg_M_weeks_222 ⟨ht, fun q => ?_, fun q => ⟨by omega, ?_⟩⟩
    · have e1 : w32 x = x := w32_id (by omega)
      rw [if_neg (by omega)] at hz
      refine ⟨by rw [e1]; omega, ?_⟩
      rintro _ rfl
      refine K _ ?_ (zC_u zC_r (by decide))
      rw [zM_u12, hz, e1]
    · rintro _ rfl
      rw [if_pos q] at hz
      refine K _ ?_ (zC_u zC_r (by decide))
      rw [zM_u12, hz]
  refine sg_M_weeks_85 ⟨ht, fun q => ⟨by omega, hP q, fun q2 => ⟨⟨hP q, fun z => q2 (Or.inl z)⟩, by omega, fun q3 => ⟨fun q4 => ?_, fun q4 => ⟨by omega, ?_⟩⟩, fun q3 => ⟨by omega, ?_⟩⟩, fun q2 => ⟨by omega, ?_⟩⟩, fun q => ?_⟩
  · exact fin 0 q q2 (by decide) (by decide) (by unfold zOff; rw [if_neg (by omega), if_neg (by omega)]; rfl)
  · exact fin _ q q2 (by omega) (by omega) (by unfold zOff; rw [if_neg (by omega), if_pos q4])
  · exact fin _ q q2 (by omega) (by omega) (by unfold zOff; rw [if_pos q3])
  · rintro _ rfl
    refine K _ ?_ (zC_u zC_r (by decide))
    rw [zM_u12]
    unfold zHarm
    rw [if_neg hn, if_pos q, if_pos q2]
  · refine K _ ?_ zC_r
    unfold zHarm
    rw [if_neg hn, if_neg q, zU_same (by omega)]
end WK
theorem zWk1_k {r : Int × zA} {k : Nat} {i n : Int} (hk : k ≠ 12) (hn : 0 ≤ n) : (zF zWk1 r n).2 k i = r.2 k i := by
  refine zF_i (I := fun _ q => q.2 k i = r.2 k i) n hn rfl ?_
  intro j q h1 h2 hi
  show zU q.2 12 j _ k i = _
  rw [zU_k hk, hi]
theorem zHarm_k {A B : zA} (h : ∀ (k : Nat) (i : Int), k ≠ 12 → A k i = B k i) (t : Int) : zHarm A t = zHarm B t := by
  unfold zHarm zOff zMiss zAir zCl zAt
  simp only [h 11 _ (by decide), h 26 _ (by decide), h 27 _ (by decide), h 28 _ (by decide), h 29 _ (by decide), h 30 _ (by decide), h 7 _ (by decide), h 791 _ (by decide)]
theorem zWk1_h {r : Int × zA} {i n : Int} (hn : 0 ≤ n) : (zF zWk1 r n).2 12 i = r.2 12 i + if 0 ≤ i ∧ i < n then zHarm r.2 i else 0 := by
  refine zloopI (I := fun j => (zF zWk1 r j).2 12 i = r.2 12 i + if 0 ≤ i ∧ i < j then zHarm r.2 i else 0) (P := fun _ => (zF zWk1 r n).2 12 i = r.2 12 i + if 0 ≤ i ∧ i < n then zHarm r.2 i else 0) n hn ?_ ?_ (fun q => q) (fun j h1 h2 hi q => q)
  · rw [zF_0, if_neg (by omega)]; omega
  · intro j h1 h2 hi
    rw [zF_s h1]
    show zU (zF zWk1 r j).2 12 j ((zF zWk1 r j).2 12 j + zHarm (zF zWk1 r j).2 j) 12 i = _
    by_cases q : i = j
    · subst q
      rw [zU_eq, hi, if_neg (by omega), if_pos (by omega), zHarm_k (B := r.2) (fun k x hk => zWk1_k hk h1)]
      omega
    · rw [zU_i q, hi]
      congr 1
      by_cases q2 : 0 ≤ i ∧ i < j
      · rw [if_pos q2, if_pos (by omega)]
      · rw [if_neg q2, if_neg (by omega)]
theorem zWB_k {A B : zA} (h : ∀ (k : Nat) (i : Int), k ≠ 12 → A k i = B k i) (hB : zWB B) : zWB A := by
  obtain ⟨w1, w2, w3, w4, w5, w6⟩ := hB
  refine ⟨by rw [h _ _ (by decide)]; exact w1, by rw [h _ _ (by decide)]; exact w2, fun t => by rw [h _ _ (by decide)]; exact w3 t, fun t => by rw [h _ _ (by decide)]; exact w4 t, fun t q => ?_, fun t => by rw [h 29 _ (by decide), h 30 _ (by decide)]; exact w6 t⟩
  unfold zAt at q
  rw [h _ _ (by decide)] at q ⊢
  exact w5 t q
theorem l_M_weeks_54 {e : gE} {b : Nat} {m : Int} {Z : Int → gH → Prop} {kc ks : Nat} {G : gH} {p1 x2 : Int} (hW : zWB (zM m G)) (hh : ∀ i, 0 ≤ zM m G 12 i ∧ zM m G 12 i ≤ 3990000) (hx : 0 ≤ x2 ∧ x2 < 1000) (v : Int) (K : ∀ G1, zM m G1 = (zWk x2 (v, zM m G)).2 → zC m G G1 → EX e b m m_M_weeks Z kc ks 47 [(2, (m + 0)), (0, p1), (0, (x2 + 1)), (9, 0), (9, 0), (9, 0), (9, 0), (9, 0), (9, 0)] [] G1) : EX e b m m_M_weeks Z kc ks 54 [(2, (m + 0)), (0, p1), (0, x2), (0, 0), (9, 0), (9, 0), (9, 0), (9, 0), (9, 0)] [] G := by
  have hW0 := hW
  obtain ⟨w1, w2, w3, w4, w5, w6⟩ := hW
  refine zloop (P := fun i => ∀ G1, zM m G1 = (zF zWk1 (v, zM m G) i).2 → zC m G G1 → EX e b m m_M_weeks Z kc ks 54 [(2, (m + 0)), (0, p1), (0, x2), (0, i), (9, 0), (9, 0), (9, 0), (9, 0), (9, 0)] [] G1) (i := 0) (zM m G 785 0) w1.1 ?_ ?_ G rfl zC_r
  · intro G1 h1 h2
    have e1 : zM m G1 785 0 = zM m G 785 0 := by rw [h1, zWk1_k (by decide) w1.1]
    have e2 : zM m G1 791 0 = zM m G 791 0 := by rw [h1, zWk1_k (by decide) w1.1]
    refine sg_M_weeks_54 ⟨fun _ => ⟨by omega, ?_⟩, fun q => absurd q (by omega)⟩
    rintro _ rfl
    refine ⟨by omega, K _ ?_ (zC_u h2 (by decide))⟩
    rw [zM_u791, e2, h1]
    rfl
  · intro j j1 j2 ih G1 h1 h2
    have ek : ∀ (k : Nat) (i : Int), k ≠ 12 → zM m G1 k i = zM m G k i := fun k i hk => by rw [h1, zWk1_k hk j1]
    have e1 := ek 785 0 (by decide)
    have e3 : zM m G1 12 j = zM m G 12 j := by rw [h1, zWk1_h j1, if_neg (by omega)]; exact Int.add_zero _
    have hj := hh j
    have hW1 := zWB_k ek hW0
    rw [zF_s j1] at ih
    have go : ∀ G2, zM m G2 = zU (zM m G1) 12 j (zM m G1 12 j + zHarm (zM m G1) j) → zC m G1 G2 → EX e b m m_M_weeks Z kc ks 248 [(2, (m + 0)), (0, p1), (0, x2), (0, j), (9, 0), (9, 0), (9, 0), (9, 0), (9, 0)] [] G2 := by
      intro G2 h3 h4
      refine sg_M_weeks_248 ⟨by omega, ih G2 ?_ (zC_t h2 h4)⟩
      rw [h3, h1]
      rfl
    refine sg_M_weeks_54 ⟨fun q => absurd q (by omega), fun _ => ⟨by omega, fun q => ?_, fun q => ⟨by omega, ?_⟩⟩⟩
    · exact l_M_weeks_85 hW1 (by omega) (by omega) q go
    · rintro _ rfl
      refine sg_M_weeks_85 ⟨by omega, fun q2 => ?_, fun q2 => go _ ?_ (zC_u zC_r (by decide))⟩
      · exfalso
        have : zM m (gU G1 1 (m + 12) j (zM m G1 12 j + 10)) 11 j = zM m G1 11 j := by rw [zM_u12, zU_k (by decide)]
        unfold zAt at q2
        omega
      · rw [zM_u12]
        unfold zHarm
        rw [if_pos q]
theorem zWk_2 {j : Int} {q : Int × zA} : (zWk j q).2 = zU (zF zWk1 q (q.2 785 0)).2 791 0 (q.2 791 0 + 1) := rfl
theorem zWk_k {r : Int × zA} {k : Nat} {i n : Int} (hk : k ≠ 12 ∧ k ≠ 791) (hn : 0 ≤ n) (h0 : 0 ≤ r.2 785 0) : (zF zWk r n).2 k i = r.2 k i := by
  refine (zF_i (I := fun _ q => q.2 k i = r.2 k i ∧ q.2 785 0 = r.2 785 0) n hn ⟨rfl, rfl⟩ ?_).1
  intro j q h1 h2 hi
  constructor
  · rw [zWk_2, zU_k hk.2, zWk1_k hk.1 (by omega), hi.1]
  · rw [zWk_2, zU_k (by decide), zWk1_k (by decide) (by omega), hi.2]
theorem zWk_w {r : Int × zA} {n : Int} (hn : 0 ≤ n) (h0 : 0 ≤ r.2 785 0) : (zF zWk r n).2 791 0 = r.2 791 0 + n := by
  refine (zF_i (I := fun j q => q.2 791 0 = r.2 791 0 + j ∧ q.2 785 0 = r.2 785 0) n hn ⟨(Int.add_zero _).symm, rfl⟩ ?_).1
  intro j q h1 h2 hi
  constructor
  · rw [zWk_2, zU_eq, hi.1]; omega
  · rw [zWk_2, zU_k (by decide), zWk1_k (by decide) (by omega), hi.2]
theorem zWk_h {r : Int × zA} {n i : Int} {H : Int} (hn : 0 ≤ n) (h0 : 0 ≤ r.2 785 0) (hh : 0 ≤ r.2 12 i ∧ r.2 12 i ≤ H) : 0 ≤ (zF zWk r n).2 12 i ∧ (zF zWk r n).2 12 i ≤ H + 100 * n := by
  refine (zF_i (I := fun j q => (0 ≤ q.2 12 i ∧ q.2 12 i ≤ H + 100 * j) ∧ q.2 785 0 = r.2 785 0) n hn ⟨by simpa using hh, rfl⟩ ?_).1
  intro j q h1 h2 hi
  constructor
  · rw [zWk_2, zU_k (by decide), zWk1_h (by omega)]
    have := zHarm_b (A := q.2) (t := i)
    split <;> omega
  · rw [zWk_2, zU_k (by decide), zWk1_k (by decide) (by omega), hi.2]
theorem c_M_weeks {e : gE} {b : Nat} {m : Int} {G : gH} {p1 : Int} (h : zB 511 (zM m G)) (hP : zPl (zM m G)) : GX e b m m_M_weeks [(2, (m + 0)), (0, p1)] G 0 0 (zQ m G (zfWeeks (zM m G) p1)) := by
  have hB := zB_mono h (show (511 : Int) ≤ 512 by decide)
  have b0 : 0 ≤ zM m G 785 0 ∧ zM m G 785 0 ≤ 16 := h 785 0
  have b1 : 0 ≤ zM m G 791 0 ∧ zM m G 791 0 ≤ 1000 := h 791 0
  have b2 : 0 ≤ zM m G 787 0 ∧ zM m G 787 0 ≤ 5 := h 787 0
  have hW : zWB (zM m G) := ⟨b0, b1, fun t => h 7 t, fun p => h 26 p, fun t q => by have := hP t q; omega, fun k => ⟨h 29 k, h 30 k⟩⟩
  refine GM.ofEV (by decide) (Nat.le_of_ble_eq_true rfl) (sg_M_weeks_0 ?_)
  unfold zfWeeks
  refine ⟨fun q1 q2 q3 => ⟨by omega, fun q4 => ?_, fun q4 => ?_⟩, fun q => ?_⟩
  · rw [if_neg (by omega), if_neg (by omega)]
    refine zloop (P := fun i => ∀ G1, zM m G1 = (zF zWk (0, zM m G) i).2 → zC m G G1 → EX e b m m_M_weeks _ 0 0 47 [(2, (m + 0)), (0, p1), (0, i), (9, 0), (9, 0), (9, 0), (9, 0), (9, 0), (9, 0)] [] G1) (i := 0) p1 (by omega) ?_ ?_ G rfl zC_r
    · intro G1 h1 h2
      refine sg_M_weeks_47 ⟨fun _ => ⟨?_, h1, h2⟩, fun q => absurd q (by omega)⟩
      rw [h1, zWk_w (by omega) b0.1]
    · intro j j1 j2 ih G1 h1 h2
      have ew : zM m G1 791 0 = zM m G 791 0 + j := by rw [h1, zWk_w j1 b0.1]
      have ek : ∀ (k : Nat) (i : Int), k ≠ 12 ∧ k ≠ 791 → zM m G1 k i = zM m G k i := fun k i hk => by rw [h1, zWk_k hk j1 b0.1]
      rw [zF_s j1] at ih
      refine sg_M_weeks_47 ⟨fun q => absurd q (by omega), fun _ => l_M_weeks_54 ?_ (fun i => ?_) (by omega) (zF zWk (0, zM m G) j).1 (fun G2 h3 h4 => ih G2 ?_ (zC_t h2 h4))⟩
      · obtain ⟨w1, w2, w3, w4, w5, w6⟩ := hW
        refine ⟨by rw [ek _ _ (by decide)]; exact w1, by omega, fun t => by rw [ek _ _ (by decide)]; exact w3 t, fun t => by rw [ek _ _ (by decide)]; exact w4 t, fun t q => ?_, fun t => by rw [ek 29 _ (by decide), ek 30 _ (by decide)]; exact w6 t⟩
        unfold zAt at q
        rw [ek _ _ (by decide)] at q ⊢
        exact w5 t q
      · have hh : 0 ≤ zM m G 12 i ∧ zM m G 12 i ≤ 6000 * 511 := h 12 i
        have := zWk_h (r := (0, zM m G)) (n := j) (i := i) (H := 6000 * 511) j1 b0.1 hh
        rw [h1]; omega
      · rw [h3, h1]
  · rw [if_neg (by omega), if_pos (by omega)]; exact c_M_no hB (by decide)
  · rw [if_pos (by omega)]; exact c_M_no hB (by decide)
