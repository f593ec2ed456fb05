/-! THE REFERENCE, 23: the search for the spread -/
theorem z_etw {m : Int} {G : gH} (p : Nat) {k t n : Int} (hp : fxMT[p]? = some (k, t, n)) (hk : 0 ≤ k) {e : gE} {b : Nat} {M : gM} {Z : Int → gH → Prop} {kc ks pc : Nat} {ls st : List gV} (K : (G 0 (m + k) 0 = t ∧ G 0 (m + k) 1 = n) ∧ (b : Int) < m + k → EX e b m M Z kc ks pc ls st G) : EX e b m M Z kc ks pc ls st G := EV.inv fun hF => K ⟨fx_mt p hp hF, by have := fx_lo hF; omega⟩
theorem c_M_goes2 {e : gE} {b : Nat} {m : Int} {G : gH} {p1 p2 : Int} (hs : 0 ≤ zM m G 794 0 ∧ zM m G 794 0 < 12000) (hw : 0 ≤ zM m G 791 0 ∧ zM m G 791 0 ≤ 1000) (ht : 0 ≤ p1 ∧ p1 < 16) : GX e b m m_M_goes [(2, (m + 0)), (0, p1), (0, p2)] G 0 0 (fun v G1 => zQ m G (0, zGo (zM m G) p1 p2) v G1 ∧ ∀ k i, 40 ≤ k → k ≤ 45 → G1 1 (m + k) i = G 1 (m + k) i) := by
  refine GM.ofEV (by decide) (Nat.le_of_ble_eq_true rfl) (sg_M_goes_0 ⟨hs, ?_⟩)
  rintro _ rfl
  unfold zGo zTime
  refine ⟨fun q => ?_, fun q => ⟨by omega, ?_⟩⟩
  · rintro _ rfl
    refine ⟨ht, ?_⟩
    rintro _ rfl
    refine ⟨by omega, ?_⟩
    rintro _ rfl _ rfl _ rfl
    rw [if_neg q]
    refine ⟨⟨rfl, ?_, zC_u (zC_u (zC_u (zC_u (zC_u (zC_u zC_r (by decide)) (by decide)) (by decide)) (by decide)) (by decide)) (by decide)⟩, fun k i k1 k2 => ?_⟩
    · have e1 : zM m (gU (gU G 1 (m + 35) (zM m G 794 0) p1) 1 (m + 36) (zM m G 794 0) (zM m G 789 0)) 11 p1 = zM m G 11 p1 := by rw [zM_u36, zM_u35, zU_k (by decide), zU_k (by decide)]
      rw [e1, zM_u11, zM_u38, zM_u794, zM_u37, zM_u36, zM_u35]
    · rw [gU_k (by omega), gU_k (by omega), gU_c _ (by decide), gU_k (by omega), gU_k (by omega), gU_k (by omega)]
  · rintro _ rfl
    refine ⟨ht, ?_⟩
    rintro _ rfl
    refine ⟨by omega, ?_⟩
    rintro _ rfl _ rfl _ rfl
    rw [if_pos q]
    refine ⟨⟨rfl, ?_, zC_u (zC_u (zC_u (zC_u (zC_u (zC_u zC_r (by decide)) (by decide)) (by decide)) (by decide)) (by decide)) (by decide)⟩, fun k i k1 k2 => ?_⟩
    · have e1 : zM m (gU (gU G 1 (m + 35) (zM m G 794 0) p1) 1 (m + 36) (zM m G 794 0) (1000 + zM m G 791 0)) 11 p1 = zM m G 11 p1 := by rw [zM_u36, zM_u35, zU_k (by decide), zU_k (by decide)]
      rw [e1, zM_u11, zM_u38, zM_u794, zM_u37, zM_u36, zM_u35]
    · rw [gU_k (by omega), gU_k (by omega), gU_c _ (by decide), gU_k (by omega), gU_k (by omega), gU_k (by omega)]
set_option maxRecDepth 20000 in
set_option maxHeartbeats 4000000 in
theorem sg_M_spread_0 {e : gE} {b : Nat} {m : Int} {Z : Int → gH → Prop} {kc ks : Nat} {G : gH} {p1 : Int} (h : ((zM m G 788 0) = 2 → EX e b m m_M_spread Z kc ks 19 [(2, (m + 0)), (0, p1), (0, 0), (0, 0), (9, 0), (9, 0), (9, 0), (9, 0), (9, 0)] [] G) ∧ ((zM m G 788 0) ≠ 2 → GX e b m m_M_no [(2, (m + 0)), (0, (-6))] G 0 0 (fun v4 G5 => Z v4 G5))) : EX e b m m_M_spread Z kc ks 0 [(2, (m + 0)), (0, p1), (9, 0), (9, 0), (9, 0), (9, 0), (9, 0), (9, 0), (9, 0)] [] G := by
  refine e_aload_n d_M_spread_0 rfl ?_
  refine gx_M_165 d_M_spread_1 rfl ?_
  refine e_iconst d_M_spread_4 (by decide) ?_
  refine e_icmp_eq (tgt := 15) d_M_spread_5 (by decide) (fun q1 => ?_) (fun q2 => ?_)
  · have h := h.1 q1
    refine e_iconst d_M_spread_15 (by decide) ?_
    refine e_istore_n (ls' := [(2, (m + 0)), (0, p1), (0, 0), (9, 0), (9, 0), (9, 0), (9, 0), (9, 0), (9, 0)]) d_M_spread_16 (by decide) rfl ?_
    refine e_iconst d_M_spread_17 (by decide) ?_
    refine e_istore_n (ls' := [(2, (m + 0)), (0, p1), (0, 0), (0, 0), (9, 0), (9, 0), (9, 0), (9, 0), (9, 0)]) d_M_spread_18 (by decide) rfl ?_
    exact e_forget (ls' := [(2, (m + 0)), (0, p1), (0, 0), (0, 0), (9, 0), (9, 0), (9, 0), (9, 0), (9, 0)]) ⟨Or.inr rfl, Or.inr rfl, Or.inr rfl, Or.inr rfl, Or.inl rfl, Or.inl rfl, Or.inl rfl, Or.inl rfl, Or.inl rfl, trivial⟩ h
  · have h := h.2 q2
    refine e_aload_n d_M_spread_8 rfl ?_
    refine e_bipush d_M_spread_9 (by decide) (by decide) ?_
    refine EV.inv fun hFf3 => ?_
    have f3 := (fx_mt 0 rfl hFf3).1
    refine e_callV m_M_no 12 lw_good d_M_spread_11 (k_M_no _) ⟨Nat.le_of_ble_eq_true rfl, Nat.le_of_ble_eq_true rfl⟩ w_1569 w_1571 w_s42 (q_M _) rfl f3 (args := [(0, (-6))]) rfl rfl (Nat.le_of_ble_eq_true rfl) (kc' := kc) (ks' := ks) (mc := 0) (ms := 0) rfl rfl h ?_
    intro v4 G5 h
    exact e_iret d_M_spread_14 rfl h
set_option maxRecDepth 20000 in
set_option maxHeartbeats 4000000 in
theorem sg_M_spread_19 {e : gE} {b : Nat} {m : Int} {Z : Int → gH → Prop} {kc ks : Nat} {G : gH} {p1 x2 x3 : Int} (h : (((zM m G 785 0) ≤ x3 → (x2 ≤ 8 → EX e b m m_M_spread Z kc ks 116 [(2, (m + 0)), (0, p1), (0, x2), (2, (m + 44)), (0, 0), (9, 0), (9, 0), (9, 0), (9, 0)] [] G) ∧ (8 < x2 → GX e b m m_M_no [(2, (m + 0)), (0, (-7))] G 0 0 (fun v6 G7 => Z v6 G7))) ∧ (x3 < (zM m G 785 0) → (0 ≤ x3 ∧ x3 < 16) ∧ ((zM m G 11 x3) ≠ 300 → (zAt (zM m G) x3 → (inI ((zM m G 11 x3) - 400)) ∧ (zP (zM m G) ((zM m G 11 x3) - 400) (zM m G 791 0)) ∧ (0 ≤ (zM m G 7 x3) ∧ (zM m G 7 x3) < 4))))) ∧ (((x3 < (zM m G 785 0) ∧ (zM m G 11 x3) = 300) ∨ (x3 < (zM m G 785 0) ∧ (zM m G 11 x3) ≠ 300 ∧ zAt (zM m G) x3 ∧ (¬ (zGood (zM m G) ((zM m G 11 x3) - 400) (zM m G 7 x3))))) → (9 ≤ x2 → (inI (x2 + 1)) ∧ (inI (x3 + 1)) ∧ EX e b m m_M_spread Z kc ks 19 [(2, (m + 0)), (0, p1), (0, (x2 + 1)), (0, (x3 + 1)), (9, 0), (9, 0), (9, 0), (9, 0), (9, 0)] [] G) ∧ (x2 < 9 → (0 ≤ x2 ∧ x2 < 16) ∧ (∀ G24 : gH, G24 = gU G 1 (m + 43) x2 x3 → (inI (x2 + 1)) ∧ (inI (x3 + 1)) ∧ EX e b m m_M_spread Z kc ks 19 [(2, (m + 0)), (0, p1), (0, (x2 + 1)), (0, (x3 + 1)), (9, 0), (9, 0), (9, 0), (9, 0), (9, 0)] [] G24))) ∧ (((x3 < (zM m G 785 0) ∧ (zM m G 11 x3) ≠ 300 ∧ (¬ (zAt (zM m G) x3))) ∨ (x3 < (zM m G 785 0) ∧ (zM m G 11 x3) ≠ 300 ∧ zAt (zM m G) x3 ∧ zGood (zM m G) ((zM m G 11 x3) - 400) (zM m G 7 x3))) → (inI (x3 + 1)) ∧ EX e b m m_M_spread Z kc ks 19 [(2, (m + 0)), (0, p1), (0, x2), (0, (x3 + 1)), (9, 0), (9, 0), (9, 0), (9, 0), (9, 0)] [] G)) : EX e b m m_M_spread Z kc ks 19 [(2, (m + 0)), (0, p1), (0, x2), (0, x3), (9, 0), (9, 0), (9, 0), (9, 0), (9, 0)] [] G := by
  obtain ⟨h, hJ20, hJ27⟩ := h
  have kJ27 : ((x3 < (zM m G 785 0) ∧ (zM m G 11 x3) ≠ 300 ∧ (¬ (zAt (zM m G) x3))) ∨ (x3 < (zM m G 785 0) ∧ (zM m G 11 x3) ≠ 300 ∧ zAt (zM m G) x3 ∧ zGood (zM m G) ((zM m G 11 x3) - 400) (zM m G 7 x3))) → EX e b m m_M_spread Z kc ks 89 [(2, (m + 0)), (0, p1), (0, x2), (0, x3), (9, 0), (9, 0), (9, 0), (9, 0), (9, 0)] [] G := by
    intro rJ27
    have h := hJ27 rJ27
    obtain ⟨o28, h⟩ := h
    refine e_iinc (ls' := [(2, (m + 0)), (0, p1), (0, x2), (0, (x3 + 1)), (9, 0), (9, 0), (9, 0), (9, 0), (9, 0)]) d_M_spread_89 rfl (by decide) o28 rfl ?_
    refine e_goto (tgt := 19) d_M_spread_92 (by decide) ?_
    exact e_forget (ls' := [(2, (m + 0)), (0, p1), (0, x2), (0, (x3 + 1)), (9, 0), (9, 0), (9, 0), (9, 0), (9, 0)]) ⟨Or.inr rfl, Or.inr rfl, Or.inr rfl, Or.inr rfl, Or.inl rfl, Or.inl rfl, Or.inl rfl, Or.inl rfl, Or.inl rfl, trivial⟩ h
  have kJ20 : ((x3 < (zM m G 785 0) ∧ (zM m G 11 x3) = 300) ∨ (x3 < (zM m G 785 0) ∧ (zM m G 11 x3) ≠ 300 ∧ zAt (zM m G) x3 ∧ (¬ (zGood (zM m G) ((zM m G 11 x3) - 400) (zM m G 7 x3))))) → EX e b m m_M_spread Z kc ks 73 [(2, (m + 0)), (0, p1), (0, x2), (0, x3), (9, 0), (9, 0), (9, 0), (9, 0), (9, 0)] [] G := by
    intro rJ20
    have h := hJ20 rJ20
    refine e_iload_n d_M_spread_73 rfl ?_
    refine e_bipush d_M_spread_74 (by decide) (by decide) ?_
    refine e_icmp_ge (tgt := 86) d_M_spread_76 (by decide) (fun q21 => ?_) (fun q22 => ?_)
    · have h := h.1 q21
      obtain ⟨o25, h⟩ := h
      refine e_iinc (ls' := [(2, (m + 0)), (0, p1), (0, (x2 + 1)), (0, x3), (9, 0), (9, 0), (9, 0), (9, 0), (9, 0)]) d_M_spread_86 rfl (by decide) o25 rfl ?_
      obtain ⟨o29, h⟩ := h
      refine e_iinc (ls' := [(2, (m + 0)), (0, p1), (0, (x2 + 1)), (0, (x3 + 1)), (9, 0), (9, 0), (9, 0), (9, 0), (9, 0)]) d_M_spread_89 rfl (by decide) o29 rfl ?_
      refine e_goto (tgt := 19) d_M_spread_92 (by decide) ?_
      exact e_forget (ls' := [(2, (m + 0)), (0, p1), (0, (x2 + 1)), (0, (x3 + 1)), (9, 0), (9, 0), (9, 0), (9, 0), (9, 0)]) ⟨Or.inr rfl, Or.inr rfl, Or.inr rfl, Or.inr rfl, Or.inl rfl, Or.inl rfl, Or.inl rfl, Or.inl rfl, Or.inl rfl, trivial⟩ h
    · have h := h.2 q22
      refine e_aload_n d_M_spread_79 rfl ?_
      refine gx_M_142 d_M_spread_80 rfl ?_
      refine e_iload_n d_M_spread_83 rfl ?_
      refine e_iload_n d_M_spread_84 rfl ?_
      obtain ⟨o23, h⟩ := h
      refine xM_iast 43 rfl d_M_spread_85 o23 ?_
      let G24 : gH := gU G 1 (m + 43) x2 x3
      have h := h G24 rfl
      obtain ⟨o26, h⟩ := h
      refine e_iinc (ls' := [(2, (m + 0)), (0, p1), (0, (x2 + 1)), (0, x3), (9, 0), (9, 0), (9, 0), (9, 0), (9, 0)]) d_M_spread_86 rfl (by decide) o26 rfl ?_
      obtain ⟨o30, h⟩ := h
      refine e_iinc (ls' := [(2, (m + 0)), (0, p1), (0, (x2 + 1)), (0, (x3 + 1)), (9, 0), (9, 0), (9, 0), (9, 0), (9, 0)]) d_M_spread_89 rfl (by decide) o30 rfl ?_
      refine e_goto (tgt := 19) d_M_spread_92 (by decide) ?_
      exact e_forget (ls' := [(2, (m + 0)), (0, p1), (0, (x2 + 1)), (0, (x3 + 1)), (9, 0), (9, 0), (9, 0), (9, 0), (9, 0)]) ⟨Or.inr rfl, Or.inr rfl, Or.inr rfl, Or.inr rfl, Or.inl rfl, Or.inl rfl, Or.inl rfl, Or.inl rfl, Or.inl rfl, trivial⟩ h
  refine e_iload_n d_M_spread_19 rfl ?_
  refine e_aload_n d_M_spread_20 rfl ?_
  refine gx_M_151 d_M_spread_21 rfl ?_
  refine e_icmp_ge (tgt := 95) d_M_spread_24 (by decide) (fun q1 => ?_) (fun q2 => ?_)
  · have h := h.1 q1
    refine e_iload_n d_M_spread_95 rfl ?_
    refine e_bipush d_M_spread_96 (by decide) (by decide) ?_
    refine e_icmp_le (tgt := 108) d_M_spread_98 (by decide) (fun q3 => ?_) (fun q4 => ?_)
    · have h := h.1 q3
      refine e_aload_n d_M_spread_108 rfl ?_
      refine gx_M_145 d_M_spread_109 rfl ?_
      refine e_astore_n (ls' := [(2, (m + 0)), (0, p1), (0, x2), (2, (m + 44)), (9, 0), (9, 0), (9, 0), (9, 0), (9, 0)]) d_M_spread_112 (by decide) rfl ?_
      refine e_iconst d_M_spread_113 (by decide) ?_
      refine e_istore (ls' := [(2, (m + 0)), (0, p1), (0, x2), (2, (m + 44)), (0, 0), (9, 0), (9, 0), (9, 0), (9, 0)]) d_M_spread_114 (by decide) rfl ?_
      exact e_forget (ls' := [(2, (m + 0)), (0, p1), (0, x2), (2, (m + 44)), (0, 0), (9, 0), (9, 0), (9, 0), (9, 0)]) ⟨Or.inr rfl, Or.inr rfl, Or.inr rfl, Or.inr rfl, Or.inr rfl, Or.inl rfl, Or.inl rfl, Or.inl rfl, Or.inl rfl, trivial⟩ h
    · have h := h.2 q4
      refine e_aload_n d_M_spread_101 rfl ?_
      refine e_bipush d_M_spread_102 (by decide) (by decide) ?_
      refine EV.inv fun hFf5 => ?_
      have f5 := (fx_mt 0 rfl hFf5).1
      refine e_callV m_M_no 12 lw_good d_M_spread_104 (k_M_no _) ⟨Nat.le_of_ble_eq_true rfl, Nat.le_of_ble_eq_true rfl⟩ w_1569 w_1571 w_s42 (q_M _) rfl f5 (args := [(0, (-7))]) rfl rfl (Nat.le_of_ble_eq_true rfl) (kc' := kc) (ks' := ks) (mc := 0) (ms := 0) rfl rfl h ?_
      intro v6 G7 h
      exact e_iret d_M_spread_107 rfl h
  · have h := h.2 q2
    refine e_aload_n d_M_spread_27 rfl ?_
    refine gx_M_45 d_M_spread_28 rfl ?_
    refine e_iload_n d_M_spread_31 rfl ?_
    obtain ⟨o8, h⟩ := h
    refine xM_iald 11 rfl d_M_spread_32 o8 ?_
    refine e_sipush d_M_spread_33 (by decide) (by decide) ?_
    refine e_icmp_eq (tgt := 73) d_M_spread_36 (by decide) (fun q9 => ?_) (fun q10 => ?_)
    · exact kJ20 (Or.inl ⟨q2, q9⟩)
    · have h := h q10
      refine e_aload_n d_M_spread_39 rfl ?_
      refine e_iload_n d_M_spread_40 rfl ?_
      refine EV.inv fun hFf11 => ?_
      have f11 := (fx_mt 0 rfl hFf11).1
      refine e_callV m_M_isInPlace 12 lw_good d_M_spread_41 (k_M_isInPlace _) ⟨Nat.le_of_ble_eq_true rfl, Nat.le_of_ble_eq_true rfl⟩ w_1797 w_1799 w_s69 (q_M _) rfl f11 (args := [(0, x3)]) rfl rfl (Nat.le_of_ble_eq_true rfl) (kc' := kc) (ks' := ks) (mc := 0) (ms := 0) rfl rfl (c_M_isInPlace o8) (pureK ?_)
      refine e_if_eq (tgt := 89) d_M_spread_44 (by decide) (fun q12 => ?_) (fun q13 => ?_)
      · replace q12 := gb0.mp q12
        exact kJ27 (Or.inl ⟨q2, q10, q12⟩)
      · replace q13 := gb1.mp q13
        have h := h q13
        refine e_aload_n d_M_spread_47 rfl ?_
        refine e_aload_n d_M_spread_48 rfl ?_
        refine gx_M_45 d_M_spread_49 rfl ?_
        refine e_iload_n d_M_spread_52 rfl ?_
        refine xM_iald 11 rfl d_M_spread_53 o8 ?_
        refine e_sipush d_M_spread_54 (by decide) (by decide) ?_
        obtain ⟨o14, h⟩ := h
        refine e_isub d_M_spread_57 o14 ?_
        refine e_aload_n d_M_spread_58 rfl ?_
        refine gx_M_33 d_M_spread_59 rfl ?_
        refine e_iload_n d_M_spread_62 rfl ?_
        refine xM_iald 7 rfl d_M_spread_63 o8 ?_
        refine EV.inv fun hFf15 => ?_
        have f15 := (fx_mt 0 rfl hFf15).1
        obtain ⟨o16, o17⟩ := h
        refine e_callV m_M_isGood 12 lw_good d_M_spread_64 (k_M_isGood _) ⟨Nat.le_of_ble_eq_true rfl, Nat.le_of_ble_eq_true rfl⟩ w_1801 w_1803 w_s70 (q_M _) rfl f15 (args := [(0, ((zM m G 11 x3) - 400)), (0, (zM m G 7 x3))]) rfl rfl (Nat.le_of_ble_eq_true rfl) (kc' := kc) (ks' := ks) (mc := 0) (ms := 0) rfl rfl (c_M_isGood o16 o17) (pureK ?_)
        refine e_if_eq (tgt := 73) d_M_spread_67 (by decide) (fun q18 => ?_) (fun q19 => ?_)
        · replace q18 := gb0.mp q18
          exact kJ20 (Or.inr ⟨q2, q10, q13, q18⟩)
        · replace q19 := gb1.mp q19
          refine e_goto (tgt := 89) d_M_spread_70 (by decide) ?_
          exact kJ27 (Or.inr ⟨q2, q10, q13, q19⟩)
set_option maxRecDepth 20000 in
set_option maxHeartbeats 4000000 in
theorem sg_M_spread_116 {e : gE} {b : Nat} {m : Int} {Z : Int → gH → Prop} {kc ks : Nat} {G : gH} {p1 x2 x3 x4 : Int} (h : ((zM m G 787 0) ≤ x4 → EX e b m m_M_spread Z kc ks 152 [(2, (m + 0)), (0, p1), (0, x2), (2, x3), (0, 0), (9, 0), (9, 0), (9, 0), (9, 0)] [] G) ∧ (x4 < (zM m G 787 0) → (0 ≤ x4 ∧ x4 < 5) ∧ ((zT (zM m G) ∧ (∀ t, 0 ≤ zM m G 9 t ∧ zM m G 9 t ≤ 4)) ∧ ((inI ((zM m G 23 x4) - (zUsed (zM m G) x4))) ∧ ((G 0 x3 0 = 100) ∧ ((0 ≤ x4) ∧ ((x4 < G 0 x3 1) ∧ (((b : Int) < x3) ∧ (∀ G11 : gH, G11 = gU G 1 x3 x4 ((zM m G 23 x4) - (zUsed (zM m G) x4)) → (inI (x4 + 1)) ∧ EX e b m m_M_spread Z kc ks 116 [(2, (m + 0)), (0, p1), (0, x2), (2, x3), (0, (x4 + 1)), (9, 0), (9, 0), (9, 0), (9, 0)] [] G11))))))))) : EX e b m m_M_spread Z kc ks 116 [(2, (m + 0)), (0, p1), (0, x2), (2, x3), (0, x4), (9, 0), (9, 0), (9, 0), (9, 0)] [] G := by
  refine e_iload d_M_spread_116 rfl ?_
  refine e_aload_n d_M_spread_118 rfl ?_
  refine gx_M_154 d_M_spread_119 rfl ?_
  refine e_icmp_ge (tgt := 149) d_M_spread_122 (by decide) (fun q1 => ?_) (fun q2 => ?_)
  · have h := h.1 q1
    refine e_iconst d_M_spread_149 (by decide) ?_
    refine e_istore (ls' := [(2, (m + 0)), (0, p1), (0, x2), (2, x3), (0, 0), (9, 0), (9, 0), (9, 0), (9, 0)]) d_M_spread_150 (by decide) rfl ?_
    exact e_forget (ls' := [(2, (m + 0)), (0, p1), (0, x2), (2, x3), (0, 0), (9, 0), (9, 0), (9, 0), (9, 0)]) ⟨Or.inr rfl, Or.inr rfl, Or.inr rfl, Or.inr rfl, Or.inr rfl, Or.inl rfl, Or.inl rfl, Or.inl rfl, Or.inl rfl, trivial⟩ h
  · have h := h.2 q2
    refine e_aload_n d_M_spread_125 rfl ?_
    refine e_iload d_M_spread_126 rfl ?_
    refine e_aload_n d_M_spread_128 rfl ?_
    refine gx_M_82 d_M_spread_129 rfl ?_
    refine e_iload d_M_spread_132 rfl ?_
    obtain ⟨o3, h⟩ := h
    refine xM_iald 23 rfl d_M_spread_134 o3 ?_
    refine e_aload_n d_M_spread_135 rfl ?_
    refine e_iload d_M_spread_136 rfl ?_
    refine EV.inv fun hFf4 => ?_
    have f4 := (fx_mt 0 rfl hFf4).1
    obtain ⟨o5, h⟩ := h
    refine e_callV m_M_used 12 lw_good d_M_spread_138 (k_M_used _) ⟨Nat.le_of_ble_eq_true rfl, Nat.le_of_ble_eq_true rfl⟩ w_1805 w_1807 w_s71 (q_M _) rfl f4 (args := [(0, x4)]) rfl rfl (Nat.le_of_ble_eq_true rfl) (kc' := kc) (ks' := ks) (mc := 0) (ms := 0) rfl rfl (c_M_used o5 o3) (pureK ?_)
    obtain ⟨o6, h⟩ := h
    refine e_isub d_M_spread_141 o6 ?_
    obtain ⟨o7, o8, o9, o10, h⟩ := h
    refine e_iast d_M_spread_142 o7 o8 o9 o10 (fx_U (by decide)) ?_
    let G11 : gH := gU G 1 x3 x4 ((zM m G 23 x4) - (zUsed (zM m G) x4))
    have h := h G11 rfl
    obtain ⟨o12, h⟩ := h
    refine e_iinc (ls' := [(2, (m + 0)), (0, p1), (0, x2), (2, x3), (0, (x4 + 1)), (9, 0), (9, 0), (9, 0), (9, 0)]) d_M_spread_143 rfl (by decide) o12 rfl ?_
    refine e_goto (tgt := 116) d_M_spread_146 (by decide) ?_
    exact e_forget (ls' := [(2, (m + 0)), (0, p1), (0, x2), (2, x3), (0, (x4 + 1)), (9, 0), (9, 0), (9, 0), (9, 0)]) ⟨Or.inr rfl, Or.inr rfl, Or.inr rfl, Or.inr rfl, Or.inr rfl, Or.inl rfl, Or.inl rfl, Or.inl rfl, Or.inl rfl, trivial⟩ h
set_option maxRecDepth 20000 in
set_option maxHeartbeats 4000000 in
theorem sg_M_spread_152 {e : gE} {b : Nat} {m : Int} {Z : Int → gH → Prop} {kc ks : Nat} {G : gH} {p1 x2 x3 x4 : Int} (h : (x2 ≤ x4 → EX e b m m_M_spread Z kc ks 228 [(2, (m + 0)), (0, p1), (0, x2), (2, x3), (0, (-1)), (0, 0), (0, 0), (9, 0), (9, 0)] [] G) ∧ (x4 < x2 → (0 ≤ x4 ∧ x4 < 16) ∧ ((0 ≤ (G 1 (m + 43) x4) ∧ (G 1 (m + 43) x4) < 16) ∧ (((¬ (zAt (zM m G) (G 1 (m + 43) x4))) → ∀ G15 : gH, G15 = gU G 1 (m + 41) x4 (-1) → (inI (x4 + 1)) ∧ EX e b m m_M_spread Z kc ks 152 [(2, (m + 0)), (0, p1), (0, x2), (2, x3), (0, (x4 + 1)), (9, 0), (9, 0), (9, 0), (9, 0)] [] G15) ∧ (zAt (zM m G) (G 1 (m + 43) x4) → (inI ((zM m G 11 (G 1 (m + 43) x4)) - 400)) ∧ ((G 0 x3 0 = 100) ∧ ((0 ≤ ((zM m G 11 (G 1 (m + 43) x4)) - 400)) ∧ ((((zM m G 11 (G 1 (m + 43) x4)) - 400) < G 0 x3 1) ∧ ((inI ((G 1 x3 ((zM m G 11 (G 1 (m + 43) x4)) - 400)) + (zM m G 9 (G 1 (m + 43) x4)))) ∧ (((b : Int) < x3) ∧ (∀ G14 : gH, G14 = gU G 1 x3 ((zM m G 11 (G 1 (m + 43) x4)) - 400) ((G 1 x3 ((zM m G 11 (G 1 (m + 43) x4)) - 400)) + (zM m G 9 (G 1 (m + 43) x4))) → ∀ G17 : gH, G17 = gU G14 1 (m + 41) x4 (-1) → (inI (x4 + 1)) ∧ EX e b m m_M_spread Z kc ks 152 [(2, (m + 0)), (0, p1), (0, x2), (2, x3), (0, (x4 + 1)), (9, 0), (9, 0), (9, 0), (9, 0)] [] G17))))))))))) : EX e b m m_M_spread Z kc ks 152 [(2, (m + 0)), (0, p1), (0, x2), (2, x3), (0, x4), (9, 0), (9, 0), (9, 0), (9, 0)] [] G := by
  refine e_iload d_M_spread_152 rfl ?_
  refine e_iload_n d_M_spread_154 rfl ?_
  refine e_icmp_ge (tgt := 219) d_M_spread_155 (by decide) (fun q1 => ?_) (fun q2 => ?_)
  · have h := h.1 q1
    refine e_iconst d_M_spread_219 (by decide) ?_
    refine e_istore (ls' := [(2, (m + 0)), (0, p1), (0, x2), (2, x3), (0, (-1)), (9, 0), (9, 0), (9, 0), (9, 0)]) d_M_spread_220 (by decide) rfl ?_
    refine e_iconst d_M_spread_222 (by decide) ?_
    refine e_istore (ls' := [(2, (m + 0)), (0, p1), (0, x2), (2, x3), (0, (-1)), (0, 0), (9, 0), (9, 0), (9, 0)]) d_M_spread_223 (by decide) rfl ?_
    refine e_iconst d_M_spread_225 (by decide) ?_
    refine e_istore (ls' := [(2, (m + 0)), (0, p1), (0, x2), (2, x3), (0, (-1)), (0, 0), (0, 0), (9, 0), (9, 0)]) d_M_spread_226 (by decide) rfl ?_
    exact e_forget (ls' := [(2, (m + 0)), (0, p1), (0, x2), (2, x3), (0, (-1)), (0, 0), (0, 0), (9, 0), (9, 0)]) ⟨Or.inr rfl, Or.inr rfl, Or.inr rfl, Or.inr rfl, Or.inr rfl, Or.inr rfl, Or.inr rfl, Or.inl rfl, Or.inl rfl, trivial⟩ h
  · have h := h.2 q2
    refine e_aload_n d_M_spread_158 rfl ?_
    refine e_aload_n d_M_spread_159 rfl ?_
    refine gx_M_142 d_M_spread_160 rfl ?_
    refine e_iload d_M_spread_163 rfl ?_
    obtain ⟨o3, h⟩ := h
    refine xM_iald 43 rfl d_M_spread_165 o3 ?_
    refine EV.inv fun hFf4 => ?_
    have f4 := (fx_mt 0 rfl hFf4).1
    obtain ⟨o5, h⟩ := h
    refine e_callV m_M_isInPlace 12 lw_good d_M_spread_166 (k_M_isInPlace _) ⟨Nat.le_of_ble_eq_true rfl, Nat.le_of_ble_eq_true rfl⟩ w_1797 w_1799 w_s69 (q_M _) rfl f4 (args := [(0, (G 1 (m + 43) x4))]) rfl rfl (Nat.le_of_ble_eq_true rfl) (kc' := kc) (ks' := ks) (mc := 0) (ms := 0) rfl rfl (c_M_isInPlace o5) (pureK ?_)
    refine e_if_eq (tgt := 205) d_M_spread_169 (by decide) (fun q6 => ?_) (fun q7 => ?_)
    · replace q6 := gb0.mp q6
      have h := h.1 q6
      refine e_aload_n d_M_spread_205 rfl ?_
      refine gx_M_136 d_M_spread_206 rfl ?_
      refine e_iload d_M_spread_209 rfl ?_
      refine e_iconst d_M_spread_211 (by decide) ?_
      refine xM_iast 41 rfl d_M_spread_212 o3 ?_
      let G15 : gH := gU G 1 (m + 41) x4 (-1)
      have h := h G15 rfl
      obtain ⟨o16, h⟩ := h
      refine e_iinc (ls' := [(2, (m + 0)), (0, p1), (0, x2), (2, x3), (0, (x4 + 1)), (9, 0), (9, 0), (9, 0), (9, 0)]) d_M_spread_213 rfl (by decide) o16 rfl ?_
      refine e_goto (tgt := 152) d_M_spread_216 (by decide) ?_
      exact e_forget (ls' := [(2, (m + 0)), (0, p1), (0, x2), (2, x3), (0, (x4 + 1)), (9, 0), (9, 0), (9, 0), (9, 0)]) ⟨Or.inr rfl, Or.inr rfl, Or.inr rfl, Or.inr rfl, Or.inr rfl, Or.inl rfl, Or.inl rfl, Or.inl rfl, Or.inl rfl, trivial⟩ h
    · replace q7 := gb1.mp q7
      have h := h.2 q7
      refine e_aload_n d_M_spread_172 rfl ?_
      refine e_aload_n d_M_spread_173 rfl ?_
      refine gx_M_45 d_M_spread_174 rfl ?_
      refine e_aload_n d_M_spread_177 rfl ?_
      refine gx_M_142 d_M_spread_178 rfl ?_
      refine e_iload d_M_spread_181 rfl ?_
      refine xM_iald 43 rfl d_M_spread_183 o3 ?_
      refine xM_iald 11 rfl d_M_spread_184 o5 ?_
      refine e_sipush d_M_spread_185 (by decide) (by decide) ?_
      obtain ⟨o8, h⟩ := h
      refine e_isub d_M_spread_188 o8 ?_
      refine e_dup2 d_M_spread_189 (by simp) (by simp) ?_
      obtain ⟨o9, o10, o11, h⟩ := h
      refine e_iald d_M_spread_190 o9 o10 o11 ?_
      refine e_aload_n d_M_spread_191 rfl ?_
      refine gx_M_39 d_M_spread_192 rfl ?_
      refine e_aload_n d_M_spread_195 rfl ?_
      refine gx_M_142 d_M_spread_196 rfl ?_
      refine e_iload d_M_spread_199 rfl ?_
      refine xM_iald 43 rfl d_M_spread_201 o3 ?_
      refine xM_iald 9 rfl d_M_spread_202 o5 ?_
      obtain ⟨o12, h⟩ := h
      refine e_iadd d_M_spread_203 o12 ?_
      obtain ⟨o13, h⟩ := h
      refine e_iast d_M_spread_204 o9 o10 o11 o13 (fx_U (by decide)) ?_
      let G14 : gH := gU G 1 x3 ((zM m G 11 (G 1 (m + 43) x4)) - 400) ((G 1 x3 ((zM m G 11 (G 1 (m + 43) x4)) - 400)) + (zM m G 9 (G 1 (m + 43) x4)))
      have h := h G14 rfl
      refine e_aload_n d_M_spread_205 rfl ?_
      refine gx_M_136 d_M_spread_206 rfl ?_
      refine e_iload d_M_spread_209 rfl ?_
      refine e_iconst d_M_spread_211 (by decide) ?_
      refine xM_iast 41 rfl d_M_spread_212 o3 ?_
      let G17 : gH := gU G14 1 (m + 41) x4 (-1)
      have h := h G17 rfl
      obtain ⟨o18, h⟩ := h
      refine e_iinc (ls' := [(2, (m + 0)), (0, p1), (0, x2), (2, x3), (0, (x4 + 1)), (9, 0), (9, 0), (9, 0), (9, 0)]) d_M_spread_213 rfl (by decide) o18 rfl ?_
      refine e_goto (tgt := 152) d_M_spread_216 (by decide) ?_
      exact e_forget (ls' := [(2, (m + 0)), (0, p1), (0, x2), (2, x3), (0, (x4 + 1)), (9, 0), (9, 0), (9, 0), (9, 0)]) ⟨Or.inr rfl, Or.inr rfl, Or.inr rfl, Or.inr rfl, Or.inr rfl, Or.inl rfl, Or.inl rfl, Or.inl rfl, Or.inl rfl, trivial⟩ h
set_option maxRecDepth 20000 in
set_option maxHeartbeats 4000000 in
theorem sg_M_spread_228 {e : gE} {b : Nat} {m : Int} {Z : Int → gH → Prop} {kc ks : Nat} {G : gH} {p1 x2 x3 x4 x5 x6 : Int} (h : ((x6 < 0 → (x4 ≠ (-1) → (p1 ≠ 0 → (x4 ≤ (zM m G 792 0) → (inI ((zM m G 792 0) - x4)) ∧ (∀ G10 : gH, G10 = gU G 792 (m + 0) 0 ((zM m G 792 0) - x4) → EX e b m m_M_spread Z kc ks 565 [(2, (m + 0)), (9, 0), (0, x2), (9, 0), (0, x4), (9, 0), (9, 0), (0, 0), (9, 0)] [] G10)) ∧ ((zM m G 792 0) < x4 → GX e b m m_M_no [(2, (m + 0)), (0, (-7))] G 0 0 (fun v12 G13 => Z v12 G13))) ∧ (p1 = 0 → Z x4 G)) ∧ (x4 = (-1) → GX e b m m_M_no [(2, (m + 0)), (0, (-6))] G 0 0 (fun v15 G16 => Z v15 G16))) ∧ (0 ≤ x6 → (x6 ≠ x2 → (0 ≤ x6 ∧ x6 < 16) ∧ (((G 1 (m + 41) x6) = (-1) → (inI ((G 1 (m + 41) x6) + 1)) ∧ EX e b m m_M_spread Z kc ks 367 [(2, (m + 0)), (0, p1), (0, x2), (2, x3), (0, x4), (0, x5), (0, x6), (0, (G 1 (m + 43) x6)), (0, ((G 1 (m + 41) x6) + 1))] [] G) ∧ ((G 1 (m + 41) x6) ≠ (-1) → (G 0 x3 0 = 100) ∧ ((0 ≤ (G 1 (m + 41) x6)) ∧ (((G 1 (m + 41) x6) < G 0 x3 1) ∧ ((0 ≤ (G 1 (m + 43) x6) ∧ (G 1 (m + 43) x6) < 16) ∧ ((inI ((G 1 x3 (G 1 (m + 41) x6)) + (zM m G 9 (G 1 (m + 43) x6)))) ∧ (((b : Int) < x3) ∧ (∀ G28 : gH, G28 = gU G 1 x3 (G 1 (m + 41) x6) ((G 1 x3 (G 1 (m + 41) x6)) + (zM m G 9 (G 1 (m + 43) x6))) → (zB 512 (zM m G28)) ∧ ((0 ≤ (G28 1 (m + 41) x6) ∧ (G28 1 (m + 41) x6) < 5) ∧ ((zAt (zM m G28) (G 1 (m + 43) x6) → zM m G28 11 (G 1 (m + 43) x6) < 405) ∧ (inI (x5 - (zPrice (zM m G28) (G 1 (m + 43) x6) (G28 1 (m + 41) x6)))) ∧ (inI ((G28 1 (m + 41) x6) + 1)) ∧ EX e b m m_M_spread Z kc ks 367 [(2, (m + 0)), (0, p1), (0, x2), (2, x3), (0, x4), (0, (x5 - (zPrice (zM m G28) (G 1 (m + 43) x6) (G28 1 (m + 41) x6)))), (0, x6), (0, (G 1 (m + 43) x6)), (0, ((G28 1 (m + 41) x6) + 1))] [] G28))))))))))) ∧ (x6 = x2 → (x4 ≠ (-1) → (x4 ≤ x5 → (inI (x6 + (-1))) ∧ EX e b m m_M_spread Z kc ks 228 [(2, (m + 0)), (0, p1), (0, x2), (2, x3), (0, x4), (0, x5), (0, (x6 + (-1))), (9, 0), (9, 0)] [] G))))) ∧ (((0 ≤ x6 ∧ x6 = x2 ∧ x4 = (-1)) ∨ (0 ≤ x6 ∧ x6 = x2 ∧ x4 ≠ (-1) ∧ x5 < x4)) → GX e b m m_M_isKept [(2, (m + 0)), (0, x2)] G 0 0 (fun v41 G42 => (v41 = 0 → (inI (x6 + (-1))) ∧ EX e b m m_M_spread Z kc ks 228 [(2, (m + 0)), (0, p1), (0, x2), (2, x3), (0, x4), (0, x5), (0, (x6 + (-1))), (9, 0), (9, 0)] [] G42) ∧ (v41 ≠ 0 → EX e b m m_M_spread Z kc ks 267 [(2, (m + 0)), (0, p1), (0, x2), (2, x3), (0, x5), (0, x5), (0, x6), (0, 0), (9, 0)] [] G42)))) : EX e b m m_M_spread Z kc ks 228 [(2, (m + 0)), (0, p1), (0, x2), (2, x3), (0, x4), (0, x5), (0, x6), (9, 0), (9, 0)] [] G := by
  obtain ⟨h, hJ39⟩ := h
  have kJ39 : ((0 ≤ x6 ∧ x6 = x2 ∧ x4 = (-1)) ∨ (0 ≤ x6 ∧ x6 = x2 ∧ x4 ≠ (-1) ∧ x5 < x4)) → EX e b m m_M_spread Z kc ks 252 [(2, (m + 0)), (0, p1), (0, x2), (2, x3), (0, x4), (0, x5), (0, x6), (9, 0), (9, 0)] [] G := by
    intro rJ39
    have h := hJ39 rJ39
    refine e_aload_n d_M_spread_252 rfl ?_
    refine e_iload_n d_M_spread_253 rfl ?_
    refine EV.inv fun hFf40 => ?_
    have f40 := (fx_mt 0 rfl hFf40).1
    refine e_callV m_M_isKept 12 lw_good d_M_spread_254 (k_M_isKept _) ⟨Nat.le_of_ble_eq_true rfl, Nat.le_of_ble_eq_true rfl⟩ w_1809 w_1811 w_s72 (q_M _) rfl f40 (args := [(0, x2)]) rfl rfl (Nat.le_of_ble_eq_true rfl) (kc' := kc) (ks' := ks) (mc := 0) (ms := 0) rfl rfl h ?_
    intro v41 G42 h
    refine e_if_eq (tgt := 293) d_M_spread_257 (by decide) (fun q43 => ?_) (fun q44 => ?_)
    · have h := h.1 q43
      obtain ⟨o45, h⟩ := h
      refine e_iinc (ls' := [(2, (m + 0)), (0, p1), (0, x2), (2, x3), (0, x4), (0, x5), (0, (x6 + (-1))), (9, 0), (9, 0)]) d_M_spread_293 rfl (by decide) o45 rfl ?_
      refine e_goto (tgt := 228) d_M_spread_296 (by decide) ?_
      exact e_forget (ls' := [(2, (m + 0)), (0, p1), (0, x2), (2, x3), (0, x4), (0, x5), (0, (x6 + (-1))), (9, 0), (9, 0)]) ⟨Or.inr rfl, Or.inr rfl, Or.inr rfl, Or.inr rfl, Or.inr rfl, Or.inr rfl, Or.inr rfl, Or.inl rfl, Or.inl rfl, trivial⟩ h
    · have h := h.2 q44
      refine e_iload d_M_spread_260 rfl ?_
      refine e_istore (ls' := [(2, (m + 0)), (0, p1), (0, x2), (2, x3), (0, x5), (0, x5), (0, x6), (9, 0), (9, 0)]) d_M_spread_262 (by decide) rfl ?_
      refine e_iconst d_M_spread_264 (by decide) ?_
      refine e_istore (ls' := [(2, (m + 0)), (0, p1), (0, x2), (2, x3), (0, x5), (0, x5), (0, x6), (0, 0), (9, 0)]) d_M_spread_265 (by decide) rfl ?_
      exact e_forget (ls' := [(2, (m + 0)), (0, p1), (0, x2), (2, x3), (0, x5), (0, x5), (0, x6), (0, 0), (9, 0)]) ⟨Or.inr rfl, Or.inr rfl, Or.inr rfl, Or.inr rfl, Or.inr rfl, Or.inr rfl, Or.inr rfl, Or.inr rfl, Or.inl rfl, trivial⟩ h
  refine e_iload d_M_spread_228 rfl ?_
  refine e_if_lt (tgt := 515) d_M_spread_230 (by decide) (fun q1 => ?_) (fun q2 => ?_)
  · have h := h.1 q1
    refine e_iload d_M_spread_515 rfl ?_
    refine e_iconst d_M_spread_517 (by decide) ?_
    refine e_icmp_ne (tgt := 528) d_M_spread_518 (by decide) (fun q3 => ?_) (fun q4 => ?_)
    · have h := h.1 q3
      refine e_iload_n d_M_spread_528 rfl ?_
      refine e_if_ne (tgt := 535) d_M_spread_529 (by decide) (fun q5 => ?_) (fun q6 => ?_)
      · have h := h.1 q5
        refine e_iload d_M_spread_535 rfl ?_
        refine e_aload_n d_M_spread_537 rfl ?_
        refine gx_M_292 d_M_spread_538 rfl ?_
        refine e_icmp_le (tgt := 551) d_M_spread_541 (by decide) (fun q7 => ?_) (fun q8 => ?_)
        · have h := h.1 q7
          refine e_aload_n d_M_spread_551 rfl ?_
          refine e_dup d_M_spread_552 (by simp) ?_
          refine gx_M_292 d_M_spread_553 rfl ?_
          refine e_iload d_M_spread_556 rfl ?_
          obtain ⟨o9, h⟩ := h
          refine e_isub d_M_spread_558 o9 ?_
          refine px_M_292 d_M_spread_559 rfl ?_
          let G10 : gH := gU G 792 (m + 0) 0 ((zM m G 792 0) - x4)
          have h := h G10 rfl
          refine e_iconst d_M_spread_562 (by decide) ?_
          refine e_istore (ls' := [(2, (m + 0)), (0, p1), (0, x2), (2, x3), (0, x4), (0, x5), (0, x6), (0, 0), (9, 0)]) d_M_spread_563 (by decide) rfl ?_
          exact e_forget (ls' := [(2, (m + 0)), (9, 0), (0, x2), (9, 0), (0, x4), (9, 0), (9, 0), (0, 0), (9, 0)]) ⟨Or.inr rfl, Or.inl rfl, Or.inr rfl, Or.inl rfl, Or.inr rfl, Or.inl rfl, Or.inl rfl, Or.inr rfl, Or.inl rfl, trivial⟩ h
        · have h := h.2 q8
          refine e_aload_n d_M_spread_544 rfl ?_
          refine e_bipush d_M_spread_545 (by decide) (by decide) ?_
          refine EV.inv fun hFf11 => ?_
          have f11 := (fx_mt 0 rfl hFf11).1
          refine e_callV m_M_no 12 lw_good d_M_spread_547 (k_M_no _) ⟨Nat.le_of_ble_eq_true rfl, Nat.le_of_ble_eq_true rfl⟩ w_1569 w_1571 w_s42 (q_M _) rfl f11 (args := [(0, (-7))]) rfl rfl (Nat.le_of_ble_eq_true rfl) (kc' := kc) (ks' := ks) (mc := 0) (ms := 0) rfl rfl h ?_
          intro v12 G13 h
          exact e_iret d_M_spread_550 rfl h
      · have h := h.2 q6
        refine e_iload d_M_spread_532 rfl ?_
        exact e_iret d_M_spread_534 rfl h
    · have h := h.2 q4
      refine e_aload_n d_M_spread_521 rfl ?_
      refine e_bipush d_M_spread_522 (by decide) (by decide) ?_
      refine EV.inv fun hFf14 => ?_
      have f14 := (fx_mt 0 rfl hFf14).1
      refine e_callV m_M_no 12 lw_good d_M_spread_524 (k_M_no _) ⟨Nat.le_of_ble_eq_true rfl, Nat.le_of_ble_eq_true rfl⟩ w_1569 w_1571 w_s42 (q_M _) rfl f14 (args := [(0, (-6))]) rfl rfl (Nat.le_of_ble_eq_true rfl) (kc' := kc) (ks' := ks) (mc := 0) (ms := 0) rfl rfl h ?_
      intro v15 G16 h
      exact e_iret d_M_spread_527 rfl h
  · have h := h.2 q2
    refine e_iload d_M_spread_233 rfl ?_
    refine e_iload_n d_M_spread_235 rfl ?_
    refine e_icmp_ne (tgt := 299) d_M_spread_236 (by decide) (fun q17 => ?_) (fun q18 => ?_)
    · have h := h.1 q17
      refine e_aload_n d_M_spread_299 rfl ?_
      refine gx_M_142 d_M_spread_300 rfl ?_
      refine e_iload d_M_spread_303 rfl ?_
      obtain ⟨o19, h⟩ := h
      refine xM_iald 43 rfl d_M_spread_305 o19 ?_
      refine e_istore (ls' := [(2, (m + 0)), (0, p1), (0, x2), (2, x3), (0, x4), (0, x5), (0, x6), (0, (G 1 (m + 43) x6)), (9, 0)]) d_M_spread_306 (by decide) rfl ?_
      refine e_aload_n d_M_spread_308 rfl ?_
      refine gx_M_136 d_M_spread_309 rfl ?_
      refine e_iload d_M_spread_312 rfl ?_
      refine xM_iald 41 rfl d_M_spread_314 o19 ?_
      refine e_iconst d_M_spread_315 (by decide) ?_
      refine e_icmp_eq (tgt := 356) d_M_spread_316 (by decide) (fun q20 => ?_) (fun q21 => ?_)
      · have h := h.1 q20
        refine e_aload_n d_M_spread_356 rfl ?_
        refine gx_M_136 d_M_spread_357 rfl ?_
        refine e_iload d_M_spread_360 rfl ?_
        refine xM_iald 41 rfl d_M_spread_362 o19 ?_
        refine e_iconst d_M_spread_363 (by decide) ?_
        obtain ⟨o47, h⟩ := h
        refine e_iadd d_M_spread_364 o47 ?_
        refine e_istore (ls' := [(2, (m + 0)), (0, p1), (0, x2), (2, x3), (0, x4), (0, x5), (0, x6), (0, (G 1 (m + 43) x6)), (0, ((G 1 (m + 41) x6) + 1))]) d_M_spread_365 (by decide) rfl ?_
        exact e_forget (ls' := [(2, (m + 0)), (0, p1), (0, x2), (2, x3), (0, x4), (0, x5), (0, x6), (0, (G 1 (m + 43) x6)), (0, ((G 1 (m + 41) x6) + 1))]) ⟨Or.inr rfl, Or.inr rfl, Or.inr rfl, Or.inr rfl, Or.inr rfl, Or.inr rfl, Or.inr rfl, Or.inr rfl, Or.inr rfl, trivial⟩ h
      · have h := h.2 q21
        refine e_aload_n d_M_spread_319 rfl ?_
        refine e_aload_n d_M_spread_320 rfl ?_
        refine gx_M_136 d_M_spread_321 rfl ?_
        refine e_iload d_M_spread_324 rfl ?_
        refine xM_iald 41 rfl d_M_spread_326 o19 ?_
        refine e_dup2 d_M_spread_327 (by simp) (by simp) ?_
        obtain ⟨o22, o23, o24, h⟩ := h
        refine e_iald d_M_spread_328 o22 o23 o24 ?_
        refine e_aload_n d_M_spread_329 rfl ?_
        refine gx_M_39 d_M_spread_330 rfl ?_
        refine e_iload d_M_spread_333 rfl ?_
        obtain ⟨o25, h⟩ := h
        refine xM_iald 9 rfl d_M_spread_335 o25 ?_
        obtain ⟨o26, h⟩ := h
        refine e_iadd d_M_spread_336 o26 ?_
        obtain ⟨o27, h⟩ := h
        refine e_iast d_M_spread_337 o22 o23 o24 o27 (fx_U (by decide)) ?_
        let G28 : gH := gU G 1 x3 (G 1 (m + 41) x6) ((G 1 x3 (G 1 (m + 41) x6)) + (zM m G 9 (G 1 (m + 43) x6)))
        have h := h G28 rfl
        refine e_iload d_M_spread_338 rfl ?_
        refine e_aload_n d_M_spread_340 rfl ?_
        refine e_iload d_M_spread_341 rfl ?_
        refine e_aload_n d_M_spread_343 rfl ?_
        refine gx_M_136 d_M_spread_344 rfl ?_
        refine e_iload d_M_spread_347 rfl ?_
        refine xM_iald 41 rfl d_M_spread_349 o19 ?_
        refine EV.inv fun hFf29 => ?_
        have f29 := (fx_mt 0 rfl hFf29).1
        obtain ⟨o30, o31, o32, h⟩ := h
        refine e_callV m_M_price 12 lw_good d_M_spread_350 (k_M_price _) ⟨Nat.le_of_ble_eq_true rfl, Nat.le_of_ble_eq_true rfl⟩ w_1813 w_1815 w_s73 (q_M _) rfl f29 (args := [(0, (G 1 (m + 43) x6)), (0, (G28 1 (m + 41) x6))]) rfl rfl (Nat.le_of_ble_eq_true rfl) (kc' := kc) (ks' := ks) (mc := 0) (ms := 0) rfl rfl (c_M_price o30 o25 o31 o32) (pureK ?_)
        obtain ⟨o33, h⟩ := h
        refine e_isub d_M_spread_353 o33 ?_
        refine e_istore (ls' := [(2, (m + 0)), (0, p1), (0, x2), (2, x3), (0, x4), (0, (x5 - (zPrice (zM m G28) (G 1 (m + 43) x6) (G28 1 (m + 41) x6)))), (0, x6), (0, (G 1 (m + 43) x6)), (9, 0)]) d_M_spread_354 (by decide) rfl ?_
        refine e_aload_n d_M_spread_356 rfl ?_
        refine gx_M_136 d_M_spread_357 rfl ?_
        refine e_iload d_M_spread_360 rfl ?_
        refine xM_iald 41 rfl d_M_spread_362 o19 ?_
        refine e_iconst d_M_spread_363 (by decide) ?_
        obtain ⟨o34, h⟩ := h
        refine e_iadd d_M_spread_364 o34 ?_
        refine e_istore (ls' := [(2, (m + 0)), (0, p1), (0, x2), (2, x3), (0, x4), (0, (x5 - (zPrice (zM m G28) (G 1 (m + 43) x6) (G28 1 (m + 41) x6)))), (0, x6), (0, (G 1 (m + 43) x6)), (0, ((G28 1 (m + 41) x6) + 1))]) d_M_spread_365 (by decide) rfl ?_
        exact e_forget (ls' := [(2, (m + 0)), (0, p1), (0, x2), (2, x3), (0, x4), (0, (x5 - (zPrice (zM m G28) (G 1 (m + 43) x6) (G28 1 (m + 41) x6)))), (0, x6), (0, (G 1 (m + 43) x6)), (0, ((G28 1 (m + 41) x6) + 1))]) ⟨Or.inr rfl, Or.inr rfl, Or.inr rfl, Or.inr rfl, Or.inr rfl, Or.inr rfl, Or.inr rfl, Or.inr rfl, Or.inr rfl, trivial⟩ h
    · have h := h.2 q18
      refine e_iload d_M_spread_239 rfl ?_
      refine e_iconst d_M_spread_241 (by decide) ?_
      refine e_icmp_eq (tgt := 252) d_M_spread_242 (by decide) (fun q35 => ?_) (fun q36 => ?_)
      · exact kJ39 (Or.inl ⟨q2, q18, q35⟩)
      · have h := h q36
        refine e_iload d_M_spread_245 rfl ?_
        refine e_iload d_M_spread_247 rfl ?_
        refine e_icmp_ge (tgt := 293) d_M_spread_249 (by decide) (fun q37 => ?_) (fun q38 => ?_)
        · have h := h q37
          obtain ⟨o46, h⟩ := h
          refine e_iinc (ls' := [(2, (m + 0)), (0, p1), (0, x2), (2, x3), (0, x4), (0, x5), (0, (x6 + (-1))), (9, 0), (9, 0)]) d_M_spread_293 rfl (by decide) o46 rfl ?_
          refine e_goto (tgt := 228) d_M_spread_296 (by decide) ?_
          exact e_forget (ls' := [(2, (m + 0)), (0, p1), (0, x2), (2, x3), (0, x4), (0, x5), (0, (x6 + (-1))), (9, 0), (9, 0)]) ⟨Or.inr rfl, Or.inr rfl, Or.inr rfl, Or.inr rfl, Or.inr rfl, Or.inr rfl, Or.inr rfl, Or.inl rfl, Or.inl rfl, trivial⟩ h
        · exact kJ39 (Or.inr ⟨q2, q18, q36, q38⟩)
set_option maxRecDepth 20000 in
set_option maxHeartbeats 4000000 in
theorem sg_M_spread_565 {e : gE} {b : Nat} {m : Int} {Z : Int → gH → Prop} {kc ks : Nat} {G : gH} {x2 x4 x7 : Int} (h : (x2 ≤ x7 → Z x4 G) ∧ (x7 < x2 → (0 ≤ x7 ∧ x7 < 16) ∧ (inI (400 + (G 1 (m + 42) x7))) ∧ GX e b m m_M_goes [(2, (m + 0)), (0, (G 1 (m + 43) x7)), (0, (400 + (G 1 (m + 42) x7)))] G 0 0 (fun _ G7 => (inI (x7 + 1)) ∧ EX e b m m_M_spread Z kc ks 565 [(2, (m + 0)), (9, 0), (0, x2), (9, 0), (0, x4), (9, 0), (9, 0), (0, (x7 + 1)), (9, 0)] [] G7))) : EX e b m m_M_spread Z kc ks 565 [(2, (m + 0)), (9, 0), (0, x2), (9, 0), (0, x4), (9, 0), (9, 0), (0, x7), (9, 0)] [] G := by
  refine e_iload d_M_spread_565 rfl ?_
  refine e_iload_n d_M_spread_567 rfl ?_
  refine e_icmp_ge (tgt := 599) d_M_spread_568 (by decide) (fun q1 => ?_) (fun q2 => ?_)
  · have h := h.1 q1
    refine e_iload d_M_spread_599 rfl ?_
    exact e_iret d_M_spread_601 rfl h
  · have h := h.2 q2
    refine e_aload_n d_M_spread_571 rfl ?_
    refine e_aload_n d_M_spread_572 rfl ?_
    refine gx_M_142 d_M_spread_573 rfl ?_
    refine e_iload d_M_spread_576 rfl ?_
    obtain ⟨o3, h⟩ := h
    refine xM_iald 43 rfl d_M_spread_578 o3 ?_
    refine e_sipush d_M_spread_579 (by decide) (by decide) ?_
    refine e_aload_n d_M_spread_582 rfl ?_
    refine gx_M_139 d_M_spread_583 rfl ?_
    refine e_iload d_M_spread_586 rfl ?_
    refine xM_iald 42 rfl d_M_spread_588 o3 ?_
    obtain ⟨o4, h⟩ := h
    refine e_iadd d_M_spread_589 o4 ?_
    refine EV.inv fun hFf5 => ?_
    have f5 := (fx_mt 0 rfl hFf5).1
    refine e_callV m_M_goes 12 lw_good d_M_spread_590 (k_M_goes _) ⟨Nat.le_of_ble_eq_true rfl, Nat.le_of_ble_eq_true rfl⟩ w_1732 w_1734 w_s64 (q_M _) rfl f5 (args := [(0, (G 1 (m + 43) x7)), (0, (400 + (G 1 (m + 42) x7)))]) rfl rfl (Nat.le_of_ble_eq_true rfl) (kc' := kc) (ks' := ks) (mc := 0) (ms := 0) rfl rfl h ?_
    intro v6 G7 h
    obtain ⟨o8, h⟩ := h
    refine e_iinc (ls' := [(2, (m + 0)), (9, 0), (0, x2), (9, 0), (0, x4), (9, 0), (9, 0), (0, (x7 + 1)), (9, 0)]) d_M_spread_593 rfl (by decide) o8 rfl ?_
    refine e_goto (tgt := 565) d_M_spread_596 (by decide) ?_
    exact e_forget (ls' := [(2, (m + 0)), (9, 0), (0, x2), (9, 0), (0, x4), (9, 0), (9, 0), (0, (x7 + 1)), (9, 0)]) ⟨Or.inr rfl, Or.inl rfl, Or.inr rfl, Or.inl rfl, Or.inr rfl, Or.inl rfl, Or.inl rfl, Or.inr rfl, Or.inl rfl, trivial⟩ h
set_option maxRecDepth 20000 in
set_option maxHeartbeats 4000000 in
theorem sg_M_spread_367 {e : gE} {b : Nat} {m : Int} {Z : Int → gH → Prop} {kc ks : Nat} {G : gH} {p1 x2 x3 x4 x5 x6 x7 x8 : Int} (h : (x8 < (zM m G 787 0) → (0 ≤ x7 ∧ x7 < 16) ∧ ((inI (400 + x8)) ∧ ((zM m G 11 x7) ≠ (400 + x8) → (zP (zM m G) x8 (zM m G 791 0)) ∧ ((0 ≤ (zM m G 7 x7) ∧ (zM m G 7 x7) < 4) ∧ (zGood (zM m G) x8 (zM m G 7 x7) → (G 0 x3 0 = 100) ∧ ((0 ≤ x8) ∧ ((x8 < G 0 x3 1) ∧ ((zM m G 9 x7) ≤ (G 1 x3 x8) → (x4 ≠ (-1) → (zB 512 (zM m G)) ∧ ((0 ≤ x8 ∧ x8 < 5) ∧ ((zAt (zM m G) x7 → zM m G 11 x7 < 405) ∧ (inI (x5 + (zPrice (zM m G) x7 x8)))))))))))))) ∧ (((x8 < (zM m G 787 0) ∧ (zM m G 11 x7) = (400 + x8)) ∨ (x8 < (zM m G 787 0) ∧ (zM m G 11 x7) ≠ (400 + x8) ∧ (¬ (zGood (zM m G) x8 (zM m G 7 x7)))) ∨ (x8 < (zM m G 787 0) ∧ (zM m G 11 x7) ≠ (400 + x8) ∧ zGood (zM m G) x8 (zM m G 7 x7) ∧ (G 1 x3 x8) < (zM m G 9 x7)) ∨ (x8 < (zM m G 787 0) ∧ (zM m G 11 x7) ≠ (400 + x8) ∧ zGood (zM m G) x8 (zM m G 7 x7) ∧ (zM m G 9 x7) ≤ (G 1 x3 x8) ∧ x4 ≠ (-1) ∧ x4 ≤ (x5 + (zPrice (zM m G) x7 x8)))) → (inI (x8 + 1)) ∧ EX e b m m_M_spread Z kc ks 367 [(2, (m + 0)), (0, p1), (0, x2), (2, x3), (0, x4), (0, x5), (0, x6), (0, x7), (0, (x8 + 1))] [] G) ∧ (((zM m G 787 0) ≤ x8 ∨ (x8 < (zM m G 787 0) ∧ (zM m G 11 x7) ≠ (400 + x8) ∧ zGood (zM m G) x8 (zM m G 7 x7) ∧ (zM m G 9 x7) ≤ (G 1 x3 x8) ∧ x4 = (-1)) ∨ (x8 < (zM m G 787 0) ∧ (zM m G 11 x7) ≠ (400 + x8) ∧ zGood (zM m G) x8 (zM m G 7 x7) ∧ (zM m G 9 x7) ≤ (G 1 x3 x8) ∧ x4 ≠ (-1) ∧ (x5 + (zPrice (zM m G) x7 x8)) < x4)) → (x8 < (zM m G 787 0) → (0 ≤ x6 ∧ x6 < 16) ∧ (∀ G32 : gH, G32 = gU G 1 (m + 41) x6 x8 → (G 0 x3 0 = 100) ∧ ((0 ≤ x8) ∧ ((x8 < G 0 x3 1) ∧ ((0 ≤ x7 ∧ x7 < 16) ∧ ((inI ((G32 1 x3 x8) - (zM m G32 9 x7))) ∧ (((b : Int) < x3) ∧ (∀ G39 : gH, G39 = gU G32 1 x3 x8 ((G32 1 x3 x8) - (zM m G32 9 x7)) → (zB 512 (zM m G39)) ∧ ((0 ≤ x8 ∧ x8 < 5) ∧ ((zAt (zM m G39) x7 → zM m G39 11 x7 < 405) ∧ (inI (x5 + (zPrice (zM m G39) x7 x8))) ∧ (inI (x6 + 1)) ∧ EX e b m m_M_spread Z kc ks 228 [(2, (m + 0)), (0, p1), (0, x2), (2, x3), (0, x4), (0, (x5 + (zPrice (zM m G39) x7 x8))), (0, (x6 + 1)), (9, 0), (9, 0)] [] G39)))))))))) ∧ ((zM m G 787 0) ≤ x8 → (0 ≤ x6 ∧ x6 < 16) ∧ (∀ G47 : gH, G47 = gU G 1 (m + 41) x6 (-1) → (inI (x6 + (-1))) ∧ EX e b m m_M_spread Z kc ks 228 [(2, (m + 0)), (0, p1), (0, x2), (2, x3), (0, x4), (0, x5), (0, (x6 + (-1))), (9, 0), (9, 0)] [] G47)))) : EX e b m m_M_spread Z kc ks 367 [(2, (m + 0)), (0, p1), (0, x2), (2, x3), (0, x4), (0, x5), (0, x6), (0, x7), (0, x8)] [] G := by
  obtain ⟨h, hJ26, hJ28⟩ := h
  have kJ28 : ((zM m G 787 0) ≤ x8 ∨ (x8 < (zM m G 787 0) ∧ (zM m G 11 x7) ≠ (400 + x8) ∧ zGood (zM m G) x8 (zM m G 7 x7) ∧ (zM m G 9 x7) ≤ (G 1 x3 x8) ∧ x4 = (-1)) ∨ (x8 < (zM m G 787 0) ∧ (zM m G 11 x7) ≠ (400 + x8) ∧ zGood (zM m G) x8 (zM m G 7 x7) ∧ (zM m G 9 x7) ≤ (G 1 x3 x8) ∧ x4 ≠ (-1) ∧ (x5 + (zPrice (zM m G) x7 x8)) < x4)) → EX e b m m_M_spread Z kc ks 450 [(2, (m + 0)), (0, p1), (0, x2), (2, x3), (0, x4), (0, x5), (0, x6), (0, x7), (0, x8)] [] G := by
    intro rJ28
    have h := hJ28 rJ28
    refine e_iload d_M_spread_450 rfl ?_
    refine e_aload_n d_M_spread_452 rfl ?_
    refine gx_M_154 d_M_spread_453 rfl ?_
    refine e_icmp_lt (tgt := 473) d_M_spread_456 (by decide) (fun q29 => ?_) (fun q30 => ?_)
    · have h := h.1 q29
      refine e_aload_n d_M_spread_473 rfl ?_
      refine gx_M_136 d_M_spread_474 rfl ?_
      refine e_iload d_M_spread_477 rfl ?_
      refine e_iload d_M_spread_479 rfl ?_
      obtain ⟨o31, h⟩ := h
      refine xM_iast 41 rfl d_M_spread_481 o31 ?_
      let G32 : gH := gU G 1 (m + 41) x6 x8
      have h := h G32 rfl
      refine e_aload_n d_M_spread_482 rfl ?_
      refine e_iload d_M_spread_483 rfl ?_
      refine e_dup2 d_M_spread_485 (by simp) (by simp) ?_
      obtain ⟨o33, o34, o35, h⟩ := h
      refine e_iald d_M_spread_486 o33 o34 o35 ?_
      refine e_aload_n d_M_spread_487 rfl ?_
      refine gx_M_39 d_M_spread_488 rfl ?_
      refine e_iload d_M_spread_491 rfl ?_
      obtain ⟨o36, h⟩ := h
      refine xM_iald 9 rfl d_M_spread_493 o36 ?_
      obtain ⟨o37, h⟩ := h
      refine e_isub d_M_spread_494 o37 ?_
      obtain ⟨o38, h⟩ := h
      refine e_iast d_M_spread_495 o33 o34 o35 o38 (fx_U (by decide)) ?_
      let G39 : gH := gU G32 1 x3 x8 ((G32 1 x3 x8) - (zM m G32 9 x7))
      have h := h G39 rfl
      refine e_iload d_M_spread_496 rfl ?_
      refine e_aload_n d_M_spread_498 rfl ?_
      refine e_iload d_M_spread_499 rfl ?_
      refine e_iload d_M_spread_501 rfl ?_
      refine EV.inv fun hFf40 => ?_
      have f40 := (fx_mt 0 rfl hFf40).1
      obtain ⟨o41, o42, o43, h⟩ := h
      refine e_callV m_M_price 12 lw_good d_M_spread_503 (k_M_price _) ⟨Nat.le_of_ble_eq_true rfl, Nat.le_of_ble_eq_true rfl⟩ w_1813 w_1815 w_s73 (q_M _) rfl f40 (args := [(0, x7), (0, x8)]) rfl rfl (Nat.le_of_ble_eq_true rfl) (kc' := kc) (ks' := ks) (mc := 0) (ms := 0) rfl rfl (c_M_price o41 o36 o42 o43) (pureK ?_)
      obtain ⟨o44, h⟩ := h
      refine e_iadd d_M_spread_506 o44 ?_
      refine e_istore (ls' := [(2, (m + 0)), (0, p1), (0, x2), (2, x3), (0, x4), (0, (x5 + (zPrice (zM m G39) x7 x8))), (0, x6), (0, x7), (0, x8)]) d_M_spread_507 (by decide) rfl ?_
      obtain ⟨o45, h⟩ := h
      refine e_iinc (ls' := [(2, (m + 0)), (0, p1), (0, x2), (2, x3), (0, x4), (0, (x5 + (zPrice (zM m G39) x7 x8))), (0, (x6 + 1)), (0, x7), (0, x8)]) d_M_spread_509 rfl (by decide) o45 rfl ?_
      refine e_goto (tgt := 228) d_M_spread_512 (by decide) ?_
      exact e_forget (ls' := [(2, (m + 0)), (0, p1), (0, x2), (2, x3), (0, x4), (0, (x5 + (zPrice (zM m G39) x7 x8))), (0, (x6 + 1)), (9, 0), (9, 0)]) ⟨Or.inr rfl, Or.inr rfl, Or.inr rfl, Or.inr rfl, Or.inr rfl, Or.inr rfl, Or.inr rfl, Or.inl rfl, Or.inl rfl, trivial⟩ h
    · have h := h.2 q30
      refine e_aload_n d_M_spread_459 rfl ?_
      refine gx_M_136 d_M_spread_460 rfl ?_
      refine e_iload d_M_spread_463 rfl ?_
      refine e_iconst d_M_spread_465 (by decide) ?_
      obtain ⟨o46, h⟩ := h
      refine xM_iast 41 rfl d_M_spread_466 o46 ?_
      let G47 : gH := gU G 1 (m + 41) x6 (-1)
      have h := h G47 rfl
      obtain ⟨o48, h⟩ := h
      refine e_iinc (ls' := [(2, (m + 0)), (0, p1), (0, x2), (2, x3), (0, x4), (0, x5), (0, (x6 + (-1))), (0, x7), (0, x8)]) d_M_spread_467 rfl (by decide) o48 rfl ?_
      refine e_goto (tgt := 228) d_M_spread_470 (by decide) ?_
      exact e_forget (ls' := [(2, (m + 0)), (0, p1), (0, x2), (2, x3), (0, x4), (0, x5), (0, (x6 + (-1))), (9, 0), (9, 0)]) ⟨Or.inr rfl, Or.inr rfl, Or.inr rfl, Or.inr rfl, Or.inr rfl, Or.inr rfl, Or.inr rfl, Or.inl rfl, Or.inl rfl, trivial⟩ h
  have kJ26 : ((x8 < (zM m G 787 0) ∧ (zM m G 11 x7) = (400 + x8)) ∨ (x8 < (zM m G 787 0) ∧ (zM m G 11 x7) ≠ (400 + x8) ∧ (¬ (zGood (zM m G) x8 (zM m G 7 x7)))) ∨ (x8 < (zM m G 787 0) ∧ (zM m G 11 x7) ≠ (400 + x8) ∧ zGood (zM m G) x8 (zM m G 7 x7) ∧ (G 1 x3 x8) < (zM m G 9 x7)) ∨ (x8 < (zM m G 787 0) ∧ (zM m G 11 x7) ≠ (400 + x8) ∧ zGood (zM m G) x8 (zM m G 7 x7) ∧ (zM m G 9 x7) ≤ (G 1 x3 x8) ∧ x4 ≠ (-1) ∧ x4 ≤ (x5 + (zPrice (zM m G) x7 x8)))) → EX e b m m_M_spread Z kc ks 444 [(2, (m + 0)), (0, p1), (0, x2), (2, x3), (0, x4), (0, x5), (0, x6), (0, x7), (0, x8)] [] G := by
    intro rJ26
    have h := hJ26 rJ26
    obtain ⟨o27, h⟩ := h
    refine e_iinc (ls' := [(2, (m + 0)), (0, p1), (0, x2), (2, x3), (0, x4), (0, x5), (0, x6), (0, x7), (0, (x8 + 1))]) d_M_spread_444 rfl (by decide) o27 rfl ?_
    refine e_goto (tgt := 367) d_M_spread_447 (by decide) ?_
    exact e_forget (ls' := [(2, (m + 0)), (0, p1), (0, x2), (2, x3), (0, x4), (0, x5), (0, x6), (0, x7), (0, (x8 + 1))]) ⟨Or.inr rfl, Or.inr rfl, Or.inr rfl, Or.inr rfl, Or.inr rfl, Or.inr rfl, Or.inr rfl, Or.inr rfl, Or.inr rfl, trivial⟩ h
  refine e_iload d_M_spread_367 rfl ?_
  refine e_aload_n d_M_spread_369 rfl ?_
  refine gx_M_154 d_M_spread_370 rfl ?_
  refine e_icmp_ge (tgt := 450) d_M_spread_373 (by decide) (fun q1 => ?_) (fun q2 => ?_)
  · exact kJ28 (Or.inl q1)
  · have h := h q2
    refine e_aload_n d_M_spread_376 rfl ?_
    refine gx_M_45 d_M_spread_377 rfl ?_
    refine e_iload d_M_spread_380 rfl ?_
    obtain ⟨o3, h⟩ := h
    refine xM_iald 11 rfl d_M_spread_382 o3 ?_
    refine e_sipush d_M_spread_383 (by decide) (by decide) ?_
    refine e_iload d_M_spread_386 rfl ?_
    obtain ⟨o4, h⟩ := h
    refine e_iadd d_M_spread_388 o4 ?_
    refine e_icmp_eq (tgt := 444) d_M_spread_389 (by decide) (fun q5 => ?_) (fun q6 => ?_)
    · exact kJ26 (Or.inl ⟨q2, q5⟩)
    · have h := h q6
      refine e_aload_n d_M_spread_392 rfl ?_
      refine e_iload d_M_spread_393 rfl ?_
      refine e_aload_n d_M_spread_395 rfl ?_
      refine gx_M_33 d_M_spread_396 rfl ?_
      refine e_iload d_M_spread_399 rfl ?_
      refine xM_iald 7 rfl d_M_spread_401 o3 ?_
      refine EV.inv fun hFf7 => ?_
      have f7 := (fx_mt 0 rfl hFf7).1
      obtain ⟨o8, o9, h⟩ := h
      refine e_callV m_M_isGood 12 lw_good d_M_spread_402 (k_M_isGood _) ⟨Nat.le_of_ble_eq_true rfl, Nat.le_of_ble_eq_true rfl⟩ w_1801 w_1803 w_s70 (q_M _) rfl f7 (args := [(0, x8), (0, (zM m G 7 x7))]) rfl rfl (Nat.le_of_ble_eq_true rfl) (kc' := kc) (ks' := ks) (mc := 0) (ms := 0) rfl rfl (c_M_isGood o8 o9) (pureK ?_)
      refine e_if_eq (tgt := 444) d_M_spread_405 (by decide) (fun q10 => ?_) (fun q11 => ?_)
      · replace q10 := gb0.mp q10
        exact kJ26 (Or.inr (Or.inl ⟨q2, q6, q10⟩))
      · replace q11 := gb1.mp q11
        have h := h q11
        refine e_aload_n d_M_spread_408 rfl ?_
        refine e_iload d_M_spread_409 rfl ?_
        obtain ⟨o12, o13, o14, h⟩ := h
        refine e_iald d_M_spread_411 o12 o13 o14 ?_
        refine e_aload_n d_M_spread_412 rfl ?_
        refine gx_M_39 d_M_spread_413 rfl ?_
        refine e_iload d_M_spread_416 rfl ?_
        refine xM_iald 9 rfl d_M_spread_418 o3 ?_
        refine e_icmp_lt (tgt := 444) d_M_spread_419 (by decide) (fun q15 => ?_) (fun q16 => ?_)
        · exact kJ26 (Or.inr (Or.inr (Or.inl ⟨q2, q6, q11, q15⟩)))
        · have h := h q16
          refine e_iload d_M_spread_422 rfl ?_
          refine e_iconst d_M_spread_424 (by decide) ?_
          refine e_icmp_eq (tgt := 450) d_M_spread_425 (by decide) (fun q17 => ?_) (fun q18 => ?_)
          · exact kJ28 (Or.inr (Or.inl ⟨q2, q6, q11, q16, q17⟩))
          · have h := h q18
            refine e_iload d_M_spread_428 rfl ?_
            refine e_aload_n d_M_spread_430 rfl ?_
            refine e_iload d_M_spread_431 rfl ?_
            refine e_iload d_M_spread_433 rfl ?_
            refine EV.inv fun hFf19 => ?_
            have f19 := (fx_mt 0 rfl hFf19).1
            obtain ⟨o20, o21, o22, h⟩ := h
            refine e_callV m_M_price 12 lw_good d_M_spread_435 (k_M_price _) ⟨Nat.le_of_ble_eq_true rfl, Nat.le_of_ble_eq_true rfl⟩ w_1813 w_1815 w_s73 (q_M _) rfl f19 (args := [(0, x7), (0, x8)]) rfl rfl (Nat.le_of_ble_eq_true rfl) (kc' := kc) (ks' := ks) (mc := 0) (ms := 0) rfl rfl (c_M_price o20 o3 o21 o22) (pureK ?_)
            have o23 := h
            refine e_iadd d_M_spread_438 o23 ?_
            refine e_iload d_M_spread_439 rfl ?_
            refine e_icmp_lt (tgt := 450) d_M_spread_441 (by decide) (fun q24 => ?_) (fun q25 => ?_)
            · exact kJ28 (Or.inr (Or.inr ⟨q2, q6, q11, q16, q18, q24⟩))
            · exact kJ26 (Or.inr (Or.inr (Or.inr ⟨q2, q6, q11, q16, q18, q25⟩)))
set_option maxRecDepth 20000 in
set_option maxHeartbeats 4000000 in
theorem sg_M_spread_267 {e : gE} {b : Nat} {m : Int} {Z : Int → gH → Prop} {kc ks : Nat} {G : gH} {p1 x2 x3 x4 x5 x6 x7 : Int} (h : (x2 ≤ x7 → (inI (x6 + (-1))) ∧ EX e b m m_M_spread Z kc ks 228 [(2, (m + 0)), (0, p1), (0, x2), (2, x3), (0, x4), (0, x5), (0, (x6 + (-1))), (9, 0), (9, 0)] [] G) ∧ (x7 < x2 → (0 ≤ x7 ∧ x7 < 16) ∧ (∀ G4 : gH, G4 = gU G 1 (m + 42) x7 (G 1 (m + 41) x7) → (inI (x7 + 1)) ∧ EX e b m m_M_spread Z kc ks 267 [(2, (m + 0)), (0, p1), (0, x2), (2, x3), (0, x4), (0, x5), (0, x6), (0, (x7 + 1)), (9, 0)] [] G4))) : EX e b m m_M_spread Z kc ks 267 [(2, (m + 0)), (0, p1), (0, x2), (2, x3), (0, x4), (0, x5), (0, x6), (0, x7), (9, 0)] [] G := by
  refine e_iload d_M_spread_267 rfl ?_
  refine e_iload_n d_M_spread_269 rfl ?_
  refine e_icmp_ge (tgt := 293) d_M_spread_270 (by decide) (fun q1 => ?_) (fun q2 => ?_)
  · have h := h.1 q1
    obtain ⟨o6, h⟩ := h
    refine e_iinc (ls' := [(2, (m + 0)), (0, p1), (0, x2), (2, x3), (0, x4), (0, x5), (0, (x6 + (-1))), (0, x7), (9, 0)]) d_M_spread_293 rfl (by decide) o6 rfl ?_
    refine e_goto (tgt := 228) d_M_spread_296 (by decide) ?_
    exact e_forget (ls' := [(2, (m + 0)), (0, p1), (0, x2), (2, x3), (0, x4), (0, x5), (0, (x6 + (-1))), (9, 0), (9, 0)]) ⟨Or.inr rfl, Or.inr rfl, Or.inr rfl, Or.inr rfl, Or.inr rfl, Or.inr rfl, Or.inr rfl, Or.inl rfl, Or.inl rfl, trivial⟩ h
  · have h := h.2 q2
    refine e_aload_n d_M_spread_273 rfl ?_
    refine gx_M_139 d_M_spread_274 rfl ?_
    refine e_iload d_M_spread_277 rfl ?_
    refine e_aload_n d_M_spread_279 rfl ?_
    refine gx_M_136 d_M_spread_280 rfl ?_
    refine e_iload d_M_spread_283 rfl ?_
    obtain ⟨o3, h⟩ := h
    refine xM_iald 41 rfl d_M_spread_285 o3 ?_
    refine xM_iast 42 rfl d_M_spread_286 o3 ?_
    let G4 : gH := gU G 1 (m + 42) x7 (G 1 (m + 41) x7)
    have h := h G4 rfl
    obtain ⟨o5, h⟩ := h
    refine e_iinc (ls' := [(2, (m + 0)), (0, p1), (0, x2), (2, x3), (0, x4), (0, x5), (0, x6), (0, (x7 + 1)), (9, 0)]) d_M_spread_287 rfl (by decide) o5 rfl ?_
    refine e_goto (tgt := 267) d_M_spread_290 (by decide) ?_
    exact e_forget (ls' := [(2, (m + 0)), (0, p1), (0, x2), (2, x3), (0, x4), (0, x5), (0, x6), (0, (x7 + 1)), (9, 0)]) ⟨Or.inr rfl, Or.inr rfl, Or.inr rfl, Or.inr rfl, Or.inr rfl, Or.inr rfl, Or.inr rfl, Or.inr rfl, Or.inl rfl, trivial⟩ h
theorem zLf_b {A : zA} {p : Int} (h : zB 512 A) : -100 ≤ zLf A p ∧ zLf A p ≤ 200 := by
  have b0 : 0 ≤ A 785 0 ∧ A 785 0 ≤ 16 := h 785 0
  have br : 0 ≤ A 23 p ∧ A 23 p ≤ 40 := h 23 p
  have h1 := zS_b (f := fun t => if A 11 t = 400 + p then A 9 t else 0) (c := 4) (A 785 0) (fun i _ _ => by
    have bh : 0 ≤ A 9 i ∧ A 9 i ≤ 4 := h 9 i
    show 0 ≤ (if A 11 i = 400 + p then A 9 i else 0) ∧ (if A 11 i = 400 + p then A 9 i else 0) ≤ 4
    split <;> omega) b0.1 (by decide)
  have h2 := zS_b (f := fun t => if zMv A t ∧ A 11 t = 400 + p then A 9 t else 0) (c := 4) (A 785 0) (fun i _ _ => by
    have bh : 0 ≤ A 9 i ∧ A 9 i ≤ 4 := h 9 i
    show 0 ≤ (if zMv A i ∧ A 11 i = 400 + p then A 9 i else 0) ∧ (if zMv A i ∧ A 11 i = 400 + p then A 9 i else 0) ≤ 4
    split <;> omega) b0.1 (by decide)
  unfold zLf zUsed
  omega
theorem zLd_b {A : zA} {L f : Int → Int} {n p : Int} (h : zB 512 A) (hn : 0 ≤ n ∧ n ≤ 16) : 0 ≤ zLd A L f n p ∧ zLd A L f n p ≤ 64 := by
  have := zS_b (f := fun k => if f k = p then A 9 (L k) else 0) (c := 4) n (fun i _ _ => by
    have bh : 0 ≤ A 9 (L i) ∧ A 9 (L i) ≤ 4 := h 9 (L i)
    show 0 ≤ (if f i = p then A 9 (L i) else 0) ∧ (if f i = p then A 9 (L i) else 0) ≤ 4
    split <;> omega) hn.1 (by decide)
  unfold zLd
  omega
theorem zCo_b {A : zA} {L f : Int → Int} {n : Int} (h : zB 512 A) (hn : 0 ≤ n ∧ n ≤ 16) : 0 ≤ zCo A n L f ∧ zCo A n L f ≤ 1152 := by
  have := zS_b (f := fun k => zPrice A (L k) (f k)) (c := 72) n (fun i _ _ => by have := zPrice_b (t := L i) (p := f i) h; omega) hn.1 (by decide)
  unfold zCo
  omega
/-- sums of what isn't below nought grow -/
theorem zS_up {f : Int → Int} {i n : Int} (hi : 0 ≤ i ∧ i ≤ n) (h : ∀ k, i ≤ k → k < n → 0 ≤ f k) : zS f i ≤ zS f n := by
  refine zloopI (i := i) (I := fun m => zS f i ≤ zS f m) (P := fun _ => zS f i ≤ zS f n) n hi.2 (Int.le_refl _) ?_ (fun q => q) (fun j h1 h2 hi q => q)
  intro j h1 h2 hi2
  rw [zS_s (by omega)]
  have := h j h1 h2
  omega
theorem zCo_s {A : zA} {L f : Int → Int} {i : Int} (hi : 0 ≤ i) : zCo A (i + 1) L f = zCo A i L f + zPrice A (L i) (f i) := zS_s hi
theorem zLd_s {A : zA} {L f : Int → Int} {i p : Int} (hi : 0 ≤ i) : zLd A L f (i + 1) p = zLd A L f i p + if f i = p then A 9 (L i) else 0 := zS_s hi
theorem zLd_c {A : zA} {n p : Int} {L f g : Int → Int} (hn : 0 ≤ n) (h : ∀ k, 0 ≤ k → k < n → f k = g k) : zLd A L f n p = zLd A L g n p :=
  zS_eq n hn (fun k k1 k2 => by show (if f k = p then A 9 (L k) else 0) = if g k = p then A 9 (L k) else 0; rw [h k k1 k2])
/-- what a search below a place leaves as it was -/
def zDQ (m n i P : Int) (G G' : gH) : Prop := zM m G' = zM m G ∧ zC m G G' ∧ (∀ k, G' 1 (m + 43) k = G 1 (m + 43) k) ∧ (∀ k, 0 ≤ k → k < i → G' 1 (m + 41) k = G 1 (m + 41) k) ∧ (∀ k, i ≤ k → k < n → G' 1 (m + 41) k = -1) ∧ (∀ p, 0 ≤ p → p < P → G' 1 (m + 44) p = G 1 (m + 44) p)
def zDT (A : zA) (m n : Int) (L : Int → Int) (i : Int) (G : gH) : Prop := zM m G = A ∧ (∀ k, 0 ≤ k → k < n → G 1 (m + 43) k = L k) ∧ (∀ k, 0 ≤ k → k < i → ((0 ≤ G 1 (m + 41) k ∧ G 1 (m + 41) k < A 787 0) ∧ zGood A (G 1 (m + 41) k) (A 7 (L k))) ∧ zLd A L (G 1 (m + 41)) i (G 1 (m + 41) k) ≤ zLf A (G 1 (m + 41) k)) ∧ (∀ k, i ≤ k → k < n → G 1 (m + 41) k = -1) ∧ (∀ p, 0 ≤ p → p < A 787 0 → G 1 (m + 44) p = zLf A p - zLd A L (G 1 (m + 41)) i p)
theorem l_M_spread_267 {e : gE} {b : Nat} {m : Int} {Z : Int → gH → Prop} {kc ks : Nat} {G : gH} {p1 x3 M sum i n P : Int} (hn : 0 ≤ n ∧ n ≤ 16) (hi : 0 ≤ i ∧ i ≤ 16) (K : ∀ G', zDQ m n n P G G' → (∀ k, 0 ≤ k → k < n → G' 1 (m + 42) k = G 1 (m + 41) k) → EX e b m m_M_spread Z kc ks 228 [(2, (m + 0)), (0, p1), (0, n), (2, x3), (0, M), (0, sum), (0, (i + (-1))), (9, 0), (9, 0)] [] G') : EX e b m m_M_spread Z kc ks 267 [(2, (m + 0)), (0, p1), (0, n), (2, x3), (0, M), (0, sum), (0, i), (0, 0), (9, 0)] [] G := by
  refine zloop (P := fun t => ∀ G1, zO (m + 42) G G1 → (∀ t', 0 ≤ t' → t' < t → G1 1 (m + 42) t' = G 1 (m + 41) t') → EX e b m m_M_spread Z kc ks 267 [(2, (m + 0)), (0, p1), (0, n), (2, x3), (0, M), (0, sum), (0, i), (0, t), (9, 0)] [] G1) (i := 0) n hn.1 ?_ ?_ G zO_r (fun t t1 t2 => by omega)
  · intro G1 h1 h2
    exact sg_M_spread_267 ⟨fun _ => ⟨by omega, K G1 ⟨zO_M h1 (by decide), zO_C h1 (by decide), fun k => h1 1 (m + 43) k (fun _ => by omega), fun k _ _ => h1 1 (m + 41) k (fun _ => by omega), fun k k1 k2 => absurd k2 (by omega), fun t _ _ => h1 1 (m + 44) t (fun _ => by omega)⟩ h2⟩, fun q => absurd q (by omega)⟩
  · intro j j1 j2 st G1 h1 h2
    refine sg_M_spread_267 ⟨fun q => absurd q (by omega), fun _ => ⟨by omega, ?_⟩⟩
    rintro _ rfl
    refine ⟨by omega, st _ (zO_u h1) (fun t t1 t2 => ?_)⟩
    by_cases z : t = j
    · rw [z, gU_eq]; exact h1 1 (m + 41) j (fun _ => by omega)
    · rw [gU_j z]; exact h2 t t1 (by omega)
