/-! THE REFERENCE, 9: weeks -/
set_option maxRecDepth 20000 in
set_option maxHeartbeats 4000000 in
theorem sg_M_weeks_0 {e : gE} {b : Nat} {m : Int} {Z : Int → gH → Prop} {kc ks : Nat} {G : gH} {p1 : Int} (h : (1 ≤ p1 → (p1 ≤ 60 → ((zM m G 788 0) = 2 → (inI ((zM m G 791 0) + p1)) ∧ ((((zM m G 791 0) + p1) ≤ 1000 → EX e b m m_M_weeks Z kc ks 47 [(2, (m + 0)), (0, p1), (0, 0), (9, 0), (9, 0), (9, 0), (9, 0), (9, 0), (9, 0)] [] G) ∧ (1000 < ((zM m G 791 0) + p1) → GX e b m m_M_no [(2, (m + 0)), (0, (-7))] G 0 0 (fun v11 G12 => Z v11 G12)))))) ∧ ((p1 < 1 ∨ (1 ≤ p1 ∧ 60 < p1) ∨ (1 ≤ p1 ∧ p1 ≤ 60 ∧ (zM m G 788 0) ≠ 2)) → GX e b m m_M_no [(2, (m + 0)), (0, (-6))] G 0 0 (fun v15 G16 => Z v15 G16))) : EX e b m m_M_weeks Z kc ks 0 [(2, (m + 0)), (0, p1), (9, 0), (9, 0), (9, 0), (9, 0), (9, 0), (9, 0), (9, 0)] [] G := by
  obtain ⟨h, hJ13⟩ := h
  have kJ13 : (p1 < 1 ∨ (1 ≤ p1 ∧ 60 < p1) ∨ (1 ≤ p1 ∧ p1 ≤ 60 ∧ (zM m G 788 0) ≠ 2)) → EX e b m m_M_weeks Z kc ks 19 [(2, (m + 0)), (0, p1), (9, 0), (9, 0), (9, 0), (9, 0), (9, 0), (9, 0), (9, 0)] [] G := by
    intro rJ13
    have h := hJ13 rJ13
    refine e_aload_n d_M_weeks_19 rfl ?_
    refine e_bipush d_M_weeks_20 (by decide) (by decide) ?_
    refine EV.inv fun hFf14 => ?_
    have f14 := (fx_mt 0 rfl hFf14).1
    refine e_callV m_M_no 12 lw_good d_M_weeks_22 (k_M_no _) ⟨Nat.le_of_ble_eq_true rfl, Nat.le_of_ble_eq_true rfl⟩ w_1569 w_1571 w_s42 (q_M _) rfl f14 (args := [(0, (-6))]) rfl rfl (Nat.le_of_ble_eq_true rfl) (kc' := kc) (ks' := ks) (mc := 0) (ms := 0) rfl rfl h ?_
    intro v15 G16 h
    exact e_iret d_M_weeks_25 rfl h
  refine e_iload_n d_M_weeks_0 rfl ?_
  refine e_iconst d_M_weeks_1 (by decide) ?_
  refine e_icmp_lt (tgt := 19) d_M_weeks_2 (by decide) (fun q1 => ?_) (fun q2 => ?_)
  · exact kJ13 (Or.inl q1)
  · have h := h q2
    refine e_iload_n d_M_weeks_5 rfl ?_
    refine e_bipush d_M_weeks_6 (by decide) (by decide) ?_
    refine e_icmp_gt (tgt := 19) d_M_weeks_8 (by decide) (fun q3 => ?_) (fun q4 => ?_)
    · exact kJ13 (Or.inr (Or.inl ⟨q2, q3⟩))
    · have h := h q4
      refine e_aload_n d_M_weeks_11 rfl ?_
      refine gx_M_165 d_M_weeks_12 rfl ?_
      refine e_iconst d_M_weeks_15 (by decide) ?_
      refine e_icmp_eq (tgt := 26) d_M_weeks_16 (by decide) (fun q5 => ?_) (fun q6 => ?_)
      · have h := h q5
        refine e_aload_n d_M_weeks_26 rfl ?_
        refine gx_M_259 d_M_weeks_27 rfl ?_
        refine e_iload_n d_M_weeks_30 rfl ?_
        obtain ⟨o7, h⟩ := h
        refine e_iadd d_M_weeks_31 o7 ?_
        refine e_sipush d_M_weeks_32 (by decide) (by decide) ?_
        refine e_icmp_le (tgt := 45) d_M_weeks_35 (by decide) (fun q8 => ?_) (fun q9 => ?_)
        · have h := h.1 q8
          refine e_iconst d_M_weeks_45 (by decide) ?_
          refine e_istore_n (ls' := [(2, (m + 0)), (0, p1), (0, 0), (9, 0), (9, 0), (9, 0), (9, 0), (9, 0), (9, 0)]) d_M_weeks_46 (by decide) rfl ?_
          exact e_forget (ls' := [(2, (m + 0)), (0, p1), (0, 0), (9, 0), (9, 0), (9, 0), (9, 0), (9, 0), (9, 0)]) ⟨Or.inr rfl, Or.inr rfl, Or.inr rfl, Or.inl rfl, Or.inl rfl, Or.inl rfl, Or.inl rfl, Or.inl rfl, Or.inl rfl, trivial⟩ h
        · have h := h.2 q9
          refine e_aload_n d_M_weeks_38 rfl ?_
          refine e_bipush d_M_weeks_39 (by decide) (by decide) ?_
          refine EV.inv fun hFf10 => ?_
          have f10 := (fx_mt 0 rfl hFf10).1
          refine e_callV m_M_no 12 lw_good d_M_weeks_41 (k_M_no _) ⟨Nat.le_of_ble_eq_true rfl, Nat.le_of_ble_eq_true rfl⟩ w_1569 w_1571 w_s42 (q_M _) rfl f10 (args := [(0, (-7))]) rfl rfl (Nat.le_of_ble_eq_true rfl) (kc' := kc) (ks' := ks) (mc := 0) (ms := 0) rfl rfl h ?_
          intro v11 G12 h
          exact e_iret d_M_weeks_44 rfl h
      · exact kJ13 (Or.inr (Or.inr ⟨q2, q4, q6⟩))
set_option maxRecDepth 20000 in
set_option maxHeartbeats 4000000 in
theorem sg_M_weeks_47 {e : gE} {b : Nat} {m : Int} {Z : Int → gH → Prop} {kc ks : Nat} {G : gH} {p1 x2 : Int} (h : (p1 ≤ x2 → Z (zM m G 791 0) G) ∧ (x2 < p1 → EX e b m m_M_weeks Z kc ks 54 [(2, (m + 0)), (0, p1), (0, x2), (0, 0), (9, 0), (9, 0), (9, 0), (9, 0), (9, 0)] [] G)) : EX e b m m_M_weeks Z kc ks 47 [(2, (m + 0)), (0, p1), (0, x2), (9, 0), (9, 0), (9, 0), (9, 0), (9, 0), (9, 0)] [] G := by
  refine e_iload_n d_M_weeks_47 rfl ?_
  refine e_iload_n d_M_weeks_48 rfl ?_
  refine e_icmp_ge (tgt := 270) d_M_weeks_49 (by decide) (fun q1 => ?_) (fun q2 => ?_)
  · have h := h.1 q1
    refine e_aload_n d_M_weeks_270 rfl ?_
    refine gx_M_259 d_M_weeks_271 rfl ?_
    exact e_iret d_M_weeks_274 rfl h
  · have h := h.2 q2
    refine e_iconst d_M_weeks_52 (by decide) ?_
    refine e_istore_n (ls' := [(2, (m + 0)), (0, p1), (0, x2), (0, 0), (9, 0), (9, 0), (9, 0), (9, 0), (9, 0)]) d_M_weeks_53 (by decide) rfl ?_
    exact e_forget (ls' := [(2, (m + 0)), (0, p1), (0, x2), (0, 0), (9, 0), (9, 0), (9, 0), (9, 0), (9, 0)]) ⟨Or.inr rfl, Or.inr rfl, Or.inr rfl, Or.inr rfl, Or.inl rfl, Or.inl rfl, Or.inl rfl, Or.inl rfl, Or.inl rfl, trivial⟩ h
set_option maxRecDepth 20000 in
set_option maxHeartbeats 4000000 in
theorem sg_M_weeks_54 {e : gE} {b : Nat} {m : Int} {Z : Int → gH → Prop} {kc ks : Nat} {G : gH} {p1 x2 x3 : Int} (h : ((zM m G 785 0) ≤ x3 → (inI ((zM m G 791 0) + 1)) ∧ (∀ G4 : gH, G4 = gU G 791 (m + 0) 0 ((zM m G 791 0) + 1) → (inI (x2 + 1)) ∧ EX e b m m_M_weeks Z kc ks 47 [(2, (m + 0)), (0, p1), (0, (x2 + 1)), (9, 0), (9, 0), (9, 0), (9, 0), (9, 0), (9, 0)] [] G4)) ∧ (x3 < (zM m G 785 0) → (0 ≤ x3 ∧ x3 < 16) ∧ (((zM m G 11 x3) ≠ 300 → (zAt (zM m G) x3 → (inI ((zM m G 11 x3) - 400)) ∧ ((zP (zM m G) ((zM m G 11 x3) - 400) (zM m G 791 0)) ∧ (((¬ (zMiss (zM m G) ((zM m G 11 x3) - 400) (zM m G 791 0))) → (zP (zM m G) ((zM m G 11 x3) - 400) (zM m G 791 0) ∧ zM m G 26 ((zM m G 11 x3) - 400) ≠ 0) ∧ ((0 ≤ (zM m G 7 x3) ∧ (zM m G 7 x3) < 4) ∧ (((zM m G 29 (zM m G 7 x3)) ≤ (zAir (zM m G) ((zM m G 11 x3) - 400) (zM m G 791 0)) → ((zAir (zM m G) ((zM m G 11 x3) - 400) (zM m G 791 0)) ≤ (zM m G 30 (zM m G 7 x3)) → (inI ((zM m G 12 x3) + (w32 0))) ∧ (∀ G64 : gH, G64 = gU G 1 (m + 12) x3 ((zM m G 12 x3) + (w32 0)) → (inI (x3 + 1)) ∧ EX e b m m_M_weeks Z kc ks 54 [(2, (m + 0)), (0, p1), (0, x2), (0, (x3 + 1)), (9, 0), (9, 0), (9, 0), (9, 0), (9, 0)] [] G64)) ∧ ((zM m G 30 (zM m G 7 x3)) < (zAir (zM m G) ((zM m G 11 x3) - 400) (zM m G 791 0)) → (inL ((zAir (zM m G) ((zM m G 11 x3) - 400) (zM m G 791 0)) - (zM m G 30 (zM m G 7 x3)))) ∧ ((((zAir (zM m G) ((zM m G 11 x3) - 400) (zM m G 791 0)) - (zM m G 30 (zM m G 7 x3))) ≤ 100 → (inI ((zM m G 12 x3) + (w32 ((zAir (zM m G) ((zM m G 11 x3) - 400) (zM m G 791 0)) - (zM m G 30 (zM m G 7 x3)))))) ∧ (∀ G66 : gH, G66 = gU G 1 (m + 12) x3 ((zM m G 12 x3) + (w32 ((zAir (zM m G) ((zM m G 11 x3) - 400) (zM m G 791 0)) - (zM m G 30 (zM m G 7 x3))))) → (inI (x3 + 1)) ∧ EX e b m m_M_weeks Z kc ks 54 [(2, (m + 0)), (0, p1), (0, x2), (0, (x3 + 1)), (9, 0), (9, 0), (9, 0), (9, 0), (9, 0)] [] G66)) ∧ (100 < ((zAir (zM m G) ((zM m G 11 x3) - 400) (zM m G 791 0)) - (zM m G 30 (zM m G 7 x3))) → (inI ((zM m G 12 x3) + 100)) ∧ (∀ G68 : gH, G68 = gU G 1 (m + 12) x3 ((zM m G 12 x3) + 100) → (inI (x3 + 1)) ∧ EX e b m m_M_weeks Z kc ks 54 [(2, (m + 0)), (0, p1), (0, x2), (0, (x3 + 1)), (9, 0), (9, 0), (9, 0), (9, 0), (9, 0)] [] G68))))) ∧ ((zAir (zM m G) ((zM m G 11 x3) - 400) (zM m G 791 0)) < (zM m G 29 (zM m G 7 x3)) → (inL ((zM m G 29 (zM m G 7 x3)) - (zAir (zM m G) ((zM m G 11 x3) - 400) (zM m G 791 0)))) ∧ ((((zM m G 29 (zM m G 7 x3)) - (zAir (zM m G) ((zM m G 11 x3) - 400) (zM m G 791 0))) ≤ 100 → (inI ((zM m G 12 x3) + (w32 ((zM m G 29 (zM m G 7 x3)) - (zAir (zM m G) ((zM m G 11 x3) - 400) (zM m G 791 0)))))) ∧ (∀ G70 : gH, G70 = gU G 1 (m + 12) x3 ((zM m G 12 x3) + (w32 ((zM m G 29 (zM m G 7 x3)) - (zAir (zM m G) ((zM m G 11 x3) - 400) (zM m G 791 0))))) → (inI (x3 + 1)) ∧ EX e b m m_M_weeks Z kc ks 54 [(2, (m + 0)), (0, p1), (0, x2), (0, (x3 + 1)), (9, 0), (9, 0), (9, 0), (9, 0), (9, 0)] [] G70)) ∧ (100 < ((zM m G 29 (zM m G 7 x3)) - (zAir (zM m G) ((zM m G 11 x3) - 400) (zM m G 791 0))) → (inI ((zM m G 12 x3) + 100)) ∧ (∀ G72 : gH, G72 = gU G 1 (m + 12) x3 ((zM m G 12 x3) + 100) → (inI (x3 + 1)) ∧ EX e b m m_M_weeks Z kc ks 54 [(2, (m + 0)), (0, p1), (0, x2), (0, (x3 + 1)), (9, 0), (9, 0), (9, 0), (9, 0), (9, 0)] [] G72))))))) ∧ (zMiss (zM m G) ((zM m G 11 x3) - 400) (zM m G 791 0) → (inI ((zM m G 12 x3) + 5)) ∧ (∀ G29 : gH, G29 = gU G 1 (m + 12) x3 ((zM m G 12 x3) + 5) → (inI (x3 + 1)) ∧ EX e b m m_M_weeks Z kc ks 54 [(2, (m + 0)), (0, p1), (0, x2), (0, (x3 + 1)), (9, 0), (9, 0), (9, 0), (9, 0), (9, 0)] [] G29))))) ∧ ((¬ (zAt (zM m G) x3)) → (inI (x3 + 1)) ∧ EX e b m m_M_weeks Z kc ks 54 [(2, (m + 0)), (0, p1), (0, x2), (0, (x3 + 1)), (9, 0), (9, 0), (9, 0), (9, 0), (9, 0)] [] G)) ∧ ((zM m G 11 x3) = 300 → (inI ((zM m G 12 x3) + 10)) ∧ (∀ G10 : gH, G10 = gU G 1 (m + 12) x3 ((zM m G 12 x3) + 10) → (zAt (zM m G10) x3 → (inI ((zM m G10 11 x3) - 400)) ∧ ((zP (zM m G10) ((zM m G10 11 x3) - 400) (zM m G 791 0)) ∧ (((¬ (zMiss (zM m G10) ((zM m G10 11 x3) - 400) (zM m G 791 0))) → (zP (zM m G10) ((zM m G10 11 x3) - 400) (zM m G 791 0) ∧ zM m G10 26 ((zM m G10 11 x3) - 400) ≠ 0) ∧ ((0 ≤ (zM m G10 7 x3) ∧ (zM m G10 7 x3) < 4) ∧ (((zM m G10 29 (zM m G10 7 x3)) ≤ (zAir (zM m G10) ((zM m G10 11 x3) - 400) (zM m G 791 0)) → ((zAir (zM m G10) ((zM m G10 11 x3) - 400) (zM m G 791 0)) ≤ (zM m G10 30 (zM m G10 7 x3)) → (inI ((zM m G10 12 x3) + (w32 0))) ∧ (∀ G74 : gH, G74 = gU G10 1 (m + 12) x3 ((zM m G10 12 x3) + (w32 0)) → (inI (x3 + 1)) ∧ EX e b m m_M_weeks Z kc ks 54 [(2, (m + 0)), (0, p1), (0, x2), (0, (x3 + 1)), (9, 0), (9, 0), (9, 0), (9, 0), (9, 0)] [] G74)) ∧ ((zM m G10 30 (zM m G10 7 x3)) < (zAir (zM m G10) ((zM m G10 11 x3) - 400) (zM m G 791 0)) → (inL ((zAir (zM m G10) ((zM m G10 11 x3) - 400) (zM m G 791 0)) - (zM m G10 30 (zM m G10 7 x3)))) ∧ ((((zAir (zM m G10) ((zM m G10 11 x3) - 400) (zM m G 791 0)) - (zM m G10 30 (zM m G10 7 x3))) ≤ 100 → (inI ((zM m G10 12 x3) + (w32 ((zAir (zM m G10) ((zM m G10 11 x3) - 400) (zM m G 791 0)) - (zM m G10 30 (zM m G10 7 x3)))))) ∧ (∀ G76 : gH, G76 = gU G10 1 (m + 12) x3 ((zM m G10 12 x3) + (w32 ((zAir (zM m G10) ((zM m G10 11 x3) - 400) (zM m G 791 0)) - (zM m G10 30 (zM m G10 7 x3))))) → (inI (x3 + 1)) ∧ EX e b m m_M_weeks Z kc ks 54 [(2, (m + 0)), (0, p1), (0, x2), (0, (x3 + 1)), (9, 0), (9, 0), (9, 0), (9, 0), (9, 0)] [] G76)) ∧ (100 < ((zAir (zM m G10) ((zM m G10 11 x3) - 400) (zM m G 791 0)) - (zM m G10 30 (zM m G10 7 x3))) → (inI ((zM m G10 12 x3) + 100)) ∧ (∀ G78 : gH, G78 = gU G10 1 (m + 12) x3 ((zM m G10 12 x3) + 100) → (inI (x3 + 1)) ∧ EX e b m m_M_weeks Z kc ks 54 [(2, (m + 0)), (0, p1), (0, x2), (0, (x3 + 1)), (9, 0), (9, 0), (9, 0), (9, 0), (9, 0)] [] G78))))) ∧ ((zAir (zM m G10) ((zM m G10 11 x3) - 400) (zM m G 791 0)) < (zM m G10 29 (zM m G10 7 x3)) → (inL ((zM m G10 29 (zM m G10 7 x3)) - (zAir (zM m G10) ((zM m G10 11 x3) - 400) (zM m G 791 0)))) ∧ ((((zM m G10 29 (zM m G10 7 x3)) - (zAir (zM m G10) ((zM m G10 11 x3) - 400) (zM m G 791 0))) ≤ 100 → (inI ((zM m G10 12 x3) + (w32 ((zM m G10 29 (zM m G10 7 x3)) - (zAir (zM m G10) ((zM m G10 11 x3) - 400) (zM m G 791 0)))))) ∧ (∀ G80 : gH, G80 = gU G10 1 (m + 12) x3 ((zM m G10 12 x3) + (w32 ((zM m G10 29 (zM m G10 7 x3)) - (zAir (zM m G10) ((zM m G10 11 x3) - 400) (zM m G 791 0))))) → (inI (x3 + 1)) ∧ EX e b m m_M_weeks Z kc ks 54 [(2, (m + 0)), (0, p1), (0, x2), (0, (x3 + 1)), (9, 0), (9, 0), (9, 0), (9, 0), (9, 0)] [] G80)) ∧ (100 < ((zM m G10 29 (zM m G10 7 x3)) - (zAir (zM m G10) ((zM m G10 11 x3) - 400) (zM m G 791 0))) → (inI ((zM m G10 12 x3) + 100)) ∧ (∀ G82 : gH, G82 = gU G10 1 (m + 12) x3 ((zM m G10 12 x3) + 100) → (inI (x3 + 1)) ∧ EX e b m m_M_weeks Z kc ks 54 [(2, (m + 0)), (0, p1), (0, x2), (0, (x3 + 1)), (9, 0), (9, 0), (9, 0), (9, 0), (9, 0)] [] G82))))))) ∧ (zMiss (zM m G10) ((zM m G10 11 x3) - 400) (zM m G 791 0) → (inI ((zM m G10 12 x3) + 5)) ∧ (∀ G49 : gH, G49 = gU G10 1 (m + 12) x3 ((zM m G10 12 x3) + 5) → (inI (x3 + 1)) ∧ EX e b m m_M_weeks Z kc ks 54 [(2, (m + 0)), (0, p1), (0, x2), (0, (x3 + 1)), (9, 0), (9, 0), (9, 0), (9, 0), (9, 0)] [] G49))))) ∧ ((¬ (zAt (zM m G10) x3)) → (inI (x3 + 1)) ∧ EX e b m m_M_weeks Z kc ks 54 [(2, (m + 0)), (0, p1), (0, x2), (0, (x3 + 1)), (9, 0), (9, 0), (9, 0), (9, 0), (9, 0)] [] G10)))))) : EX e b m m_M_weeks Z kc ks 54 [(2, (m + 0)), (0, p1), (0, x2), (0, x3), (9, 0), (9, 0), (9, 0), (9, 0), (9, 0)] [] G := by
  refine e_iload_n d_M_weeks_54 rfl ?_
  refine e_aload_n d_M_weeks_55 rfl ?_
  refine gx_M_151 d_M_weeks_56 rfl ?_
  refine e_icmp_ge (tgt := 254) d_M_weeks_59 (by decide) (fun q1 => ?_) (fun q2 => ?_)
  · have h := h.1 q1
    refine e_aload_n d_M_weeks_254 rfl ?_
    refine e_dup d_M_weeks_255 (by simp) ?_
    refine gx_M_259 d_M_weeks_256 rfl ?_
    refine e_iconst d_M_weeks_259 (by decide) ?_
    obtain ⟨o3, h⟩ := h
    refine e_iadd d_M_weeks_260 o3 ?_
    refine px_M_259 d_M_weeks_261 rfl ?_
    let G4 : gH := gU G 791 (m + 0) 0 ((zM m G 791 0) + 1)
    have h := h G4 rfl
    obtain ⟨o5, h⟩ := h
    refine e_iinc (ls' := [(2, (m + 0)), (0, p1), (0, (x2 + 1)), (0, x3), (9, 0), (9, 0), (9, 0), (9, 0), (9, 0)]) d_M_weeks_264 rfl (by decide) o5 rfl ?_
    refine e_goto (tgt := 47) d_M_weeks_267 (by decide) ?_
    exact e_forget (ls' := [(2, (m + 0)), (0, p1), (0, (x2 + 1)), (9, 0), (9, 0), (9, 0), (9, 0), (9, 0), (9, 0)]) ⟨Or.inr rfl, Or.inr rfl, Or.inr rfl, Or.inl rfl, Or.inl rfl, Or.inl rfl, Or.inl rfl, Or.inl rfl, Or.inl rfl, trivial⟩ h
  · have h := h.2 q2
    refine e_aload_n d_M_weeks_62 rfl ?_
    refine gx_M_45 d_M_weeks_63 rfl ?_
    refine e_iload_n d_M_weeks_66 rfl ?_
    obtain ⟨o6, h⟩ := h
    refine xM_iald 11 rfl d_M_weeks_67 o6 ?_
    refine e_sipush d_M_weeks_68 (by decide) (by decide) ?_
    refine e_icmp_ne (tgt := 85) d_M_weeks_71 (by decide) (fun q7 => ?_) (fun q8 => ?_)
    · have h := h.1 q7
      refine e_aload_n d_M_weeks_85 rfl ?_
      refine e_iload_n d_M_weeks_86 rfl ?_
      refine EV.inv fun hFf11 => ?_
      have f11 := (fx_mt 0 rfl hFf11).1
      refine e_callV m_M_isInPlace 12 lw_good d_M_weeks_87 (k_M_isInPlace _) ⟨Nat.le_of_ble_eq_true rfl, Nat.le_of_ble_eq_true rfl⟩ w_1797 w_1799 w_s69 (q_M _) rfl f11 (args := [(0, x3)]) rfl rfl (Nat.le_of_ble_eq_true rfl) (kc' := kc) (ks' := ks) (mc := 0) (ms := 0) rfl rfl (c_M_isInPlace o6) (pureK ?_)
      refine e_if_ne (tgt := 96) d_M_weeks_90 (by decide) (fun q12 => ?_) (fun q13 => ?_)
      · replace q12 := gb1.mp q12
        have h := h.1 q12
        refine e_aload_n d_M_weeks_96 rfl ?_
        refine gx_M_45 d_M_weeks_97 rfl ?_
        refine e_iload_n d_M_weeks_100 rfl ?_
        refine xM_iald 11 rfl d_M_weeks_101 o6 ?_
        refine e_sipush d_M_weeks_102 (by decide) (by decide) ?_
        obtain ⟨o14, h⟩ := h
        refine e_isub d_M_weeks_105 o14 ?_
        refine e_istore (ls' := [(2, (m + 0)), (0, p1), (0, x2), (0, x3), (0, ((zM m G 11 x3) - 400)), (9, 0), (9, 0), (9, 0), (9, 0)]) d_M_weeks_106 (by decide) rfl ?_
        refine e_aload_n d_M_weeks_108 rfl ?_
        refine e_iload d_M_weeks_109 rfl ?_
        refine e_aload_n d_M_weeks_111 rfl ?_
        refine gx_M_259 d_M_weeks_112 rfl ?_
        refine EV.inv fun hFf15 => ?_
        have f15 := (fx_mt 0 rfl hFf15).1
        obtain ⟨o16, h⟩ := h
        refine e_callV m_M_isMissing 12 lw_good d_M_weeks_115 (k_M_isMissing _) ⟨Nat.le_of_ble_eq_true rfl, Nat.le_of_ble_eq_true rfl⟩ w_1768 w_1770 w_s67 (q_M _) rfl f15 (args := [(0, ((zM m G 11 x3) - 400)), (0, (zM m G 791 0))]) rfl rfl (Nat.le_of_ble_eq_true rfl) (kc' := kc) (ks' := ks) (mc := 0) (ms := 0) rfl rfl (c_M_isMissing o16) (pureK ?_)
        refine e_if_eq (tgt := 134) d_M_weeks_118 (by decide) (fun q17 => ?_) (fun q18 => ?_)
        · replace q17 := gb0.mp q17
          have h := h.1 q17
          refine e_aload_n d_M_weeks_134 rfl ?_
          refine e_iload d_M_weeks_135 rfl ?_
          refine e_aload_n d_M_weeks_137 rfl ?_
          refine gx_M_259 d_M_weeks_138 rfl ?_
          refine EV.inv fun hFf19 => ?_
          have f19 := (fx_mt 0 rfl hFf19).1
          obtain ⟨o20, h⟩ := h
          refine e_callV m_M_airAt 12 lw_good d_M_weeks_141 (k_M_airAt _) ⟨Nat.le_of_ble_eq_true rfl, Nat.le_of_ble_eq_true rfl⟩ w_1776 w_1778 w_s68 (q_M _) rfl f19 (args := [(0, ((zM m G 11 x3) - 400)), (0, (zM m G 791 0))]) rfl rfl (Nat.le_of_ble_eq_true rfl) (kc' := kc) (ks' := ks) (mc := 0) (ms := 0) rfl rfl (c_M_airAt o20) (pureK ?_)
          refine e_i2l d_M_weeks_144 ?_
          refine e_lstore (ls' := [(2, (m + 0)), (0, p1), (0, x2), (0, x3), (0, ((zM m G 11 x3) - 400)), (1, (zAir (zM m G) ((zM m G 11 x3) - 400) (zM m G 791 0))), (9, 0), (9, 0), (9, 0)]) d_M_weeks_145 (by decide) rfl ?_
          refine e_lload d_M_weeks_147 rfl ?_
          refine e_aload_n d_M_weeks_149 rfl ?_
          refine gx_M_100 d_M_weeks_150 rfl ?_
          refine e_aload_n d_M_weeks_153 rfl ?_
          refine gx_M_33 d_M_weeks_154 rfl ?_
          refine e_iload_n d_M_weeks_157 rfl ?_
          refine xM_iald 7 rfl d_M_weeks_158 o6 ?_
          obtain ⟨o21, h⟩ := h
          refine xM_iald 29 rfl d_M_weeks_159 o21 ?_
          refine e_i2l d_M_weeks_160 ?_
          refine e_lcmp_ge (tgt := 183) d_M_weeks_161 d_M_weeks_162 (by decide) (fun q22 => ?_) (fun q23 => ?_)
          · have h := h.1 q22
            refine e_lload d_M_weeks_183 rfl ?_
            refine e_aload_n d_M_weeks_185 rfl ?_
            refine gx_M_103 d_M_weeks_186 rfl ?_
            refine e_aload_n d_M_weeks_189 rfl ?_
            refine gx_M_33 d_M_weeks_190 rfl ?_
            refine e_iload_n d_M_weeks_193 rfl ?_
            refine xM_iald 7 rfl d_M_weeks_194 o6 ?_
            refine xM_iald 30 rfl d_M_weeks_195 o21 ?_
            refine e_i2l d_M_weeks_196 ?_
            refine e_lcmp_le (tgt := 219) d_M_weeks_197 d_M_weeks_198 (by decide) (fun q24 => ?_) (fun q25 => ?_)
            · have h := h.1 q24
              refine e_lconst 0 d_M_weeks_219 (by decide) (by decide) ?_
              refine e_lstore (ls' := [(2, (m + 0)), (0, p1), (0, x2), (0, x3), (0, ((zM m G 11 x3) - 400)), (1, (zAir (zM m G) ((zM m G 11 x3) - 400) (zM m G 791 0))), (9, 0), (1, 0), (9, 0)]) d_M_weeks_220 (by decide) rfl ?_
              refine e_aload_n d_M_weeks_222 rfl ?_
              refine gx_M_48 d_M_weeks_223 rfl ?_
              refine e_iload_n d_M_weeks_226 rfl ?_
              refine e_dup2 d_M_weeks_227 (by simp) (by simp) ?_
              refine xM_iald 12 rfl d_M_weeks_228 o6 ?_
              refine e_lload d_M_weeks_229 rfl ?_
              refine e_ldc2 100 d_M_weeks_231 (by decide) w_1825 ?_
              refine e_lcmp_le (tgt := 243) d_M_weeks_234 d_M_weeks_235 (by decide) (fun q51 => ?_) (fun q52 => ?_)
              · refine e_lload d_M_weeks_243 rfl ?_
                refine e_l2i d_M_weeks_245 ?_
                obtain ⟨o63, h⟩ := h
                refine e_iadd d_M_weeks_246 o63 ?_
                refine xM_iast 12 rfl d_M_weeks_247 o6 ?_
                let G64 : gH := gU G 1 (m + 12) x3 ((zM m G 12 x3) + (w32 0))
                have h := h G64 rfl
                obtain ⟨o85, h⟩ := h
                refine e_iinc (ls' := [(2, (m + 0)), (0, p1), (0, x2), (0, (x3 + 1)), (0, ((zM m G 11 x3) - 400)), (1, (zAir (zM m G) ((zM m G 11 x3) - 400) (zM m G 791 0))), (9, 0), (1, 0), (9, 0)]) d_M_weeks_248 rfl (by decide) o85 rfl ?_
                refine e_goto (tgt := 54) d_M_weeks_251 (by decide) ?_
                exact e_forget (ls' := [(2, (m + 0)), (0, p1), (0, x2), (0, (x3 + 1)), (9, 0), (9, 0), (9, 0), (9, 0), (9, 0)]) ⟨Or.inr rfl, Or.inr rfl, Or.inr rfl, Or.inr rfl, Or.inl rfl, Or.inl rfl, Or.inl rfl, Or.inl rfl, Or.inl rfl, trivial⟩ h
              · exact absurd q52 (by decide)
            · have h := h.2 q25
              refine e_lload d_M_weeks_201 rfl ?_
              refine e_aload_n d_M_weeks_203 rfl ?_
              refine gx_M_103 d_M_weeks_204 rfl ?_
              refine e_aload_n d_M_weeks_207 rfl ?_
              refine gx_M_33 d_M_weeks_208 rfl ?_
              refine e_iload_n d_M_weeks_211 rfl ?_
              refine xM_iald 7 rfl d_M_weeks_212 o6 ?_
              refine xM_iald 30 rfl d_M_weeks_213 o21 ?_
              refine e_i2l d_M_weeks_214 ?_
              obtain ⟨o26, h⟩ := h
              refine e_lsub d_M_weeks_215 o26 ?_
              refine e_goto (tgt := 220) d_M_weeks_216 (by decide) ?_
              refine e_lstore (ls' := [(2, (m + 0)), (0, p1), (0, x2), (0, x3), (0, ((zM m G 11 x3) - 400)), (1, (zAir (zM m G) ((zM m G 11 x3) - 400) (zM m G 791 0))), (9, 0), (1, ((zAir (zM m G) ((zM m G 11 x3) - 400) (zM m G 791 0)) - (zM m G 30 (zM m G 7 x3)))), (9, 0)]) d_M_weeks_220 (by decide) rfl ?_
              refine e_aload_n d_M_weeks_222 rfl ?_
              refine gx_M_48 d_M_weeks_223 rfl ?_
              refine e_iload_n d_M_weeks_226 rfl ?_
              refine e_dup2 d_M_weeks_227 (by simp) (by simp) ?_
              refine xM_iald 12 rfl d_M_weeks_228 o6 ?_
              refine e_lload d_M_weeks_229 rfl ?_
              refine e_ldc2 100 d_M_weeks_231 (by decide) w_1825 ?_
              refine e_lcmp_le (tgt := 243) d_M_weeks_234 d_M_weeks_235 (by decide) (fun q53 => ?_) (fun q54 => ?_)
              · have h := h.1 q53
                refine e_lload d_M_weeks_243 rfl ?_
                refine e_l2i d_M_weeks_245 ?_
                obtain ⟨o65, h⟩ := h
                refine e_iadd d_M_weeks_246 o65 ?_
                refine xM_iast 12 rfl d_M_weeks_247 o6 ?_
                let G66 : gH := gU G 1 (m + 12) x3 ((zM m G 12 x3) + (w32 ((zAir (zM m G) ((zM m G 11 x3) - 400) (zM m G 791 0)) - (zM m G 30 (zM m G 7 x3)))))
                have h := h G66 rfl
                obtain ⟨o86, h⟩ := h
                refine e_iinc (ls' := [(2, (m + 0)), (0, p1), (0, x2), (0, (x3 + 1)), (0, ((zM m G 11 x3) - 400)), (1, (zAir (zM m G) ((zM m G 11 x3) - 400) (zM m G 791 0))), (9, 0), (1, ((zAir (zM m G) ((zM m G 11 x3) - 400) (zM m G 791 0)) - (zM m G 30 (zM m G 7 x3)))), (9, 0)]) d_M_weeks_248 rfl (by decide) o86 rfl ?_
                refine e_goto (tgt := 54) d_M_weeks_251 (by decide) ?_
                exact e_forget (ls' := [(2, (m + 0)), (0, p1), (0, x2), (0, (x3 + 1)), (9, 0), (9, 0), (9, 0), (9, 0), (9, 0)]) ⟨Or.inr rfl, Or.inr rfl, Or.inr rfl, Or.inr rfl, Or.inl rfl, Or.inl rfl, Or.inl rfl, Or.inl rfl, Or.inl rfl, trivial⟩ h
              · have h := h.2 q54
                refine e_bipush d_M_weeks_238 (by decide) (by decide) ?_
                refine e_goto (tgt := 246) d_M_weeks_240 (by decide) ?_
                obtain ⟨o67, h⟩ := h
                refine e_iadd d_M_weeks_246 o67 ?_
                refine xM_iast 12 rfl d_M_weeks_247 o6 ?_
                let G68 : gH := gU G 1 (m + 12) x3 ((zM m G 12 x3) + 100)
                have h := h G68 rfl
                obtain ⟨o87, h⟩ := h
                refine e_iinc (ls' := [(2, (m + 0)), (0, p1), (0, x2), (0, (x3 + 1)), (0, ((zM m G 11 x3) - 400)), (1, (zAir (zM m G) ((zM m G 11 x3) - 400) (zM m G 791 0))), (9, 0), (1, ((zAir (zM m G) ((zM m G 11 x3) - 400) (zM m G 791 0)) - (zM m G 30 (zM m G 7 x3)))), (9, 0)]) d_M_weeks_248 rfl (by decide) o87 rfl ?_
                refine e_goto (tgt := 54) d_M_weeks_251 (by decide) ?_
                exact e_forget (ls' := [(2, (m + 0)), (0, p1), (0, x2), (0, (x3 + 1)), (9, 0), (9, 0), (9, 0), (9, 0), (9, 0)]) ⟨Or.inr rfl, Or.inr rfl, Or.inr rfl, Or.inr rfl, Or.inl rfl, Or.inl rfl, Or.inl rfl, Or.inl rfl, Or.inl rfl, trivial⟩ h
          · have h := h.2 q23
            refine e_aload_n d_M_weeks_165 rfl ?_
            refine gx_M_100 d_M_weeks_166 rfl ?_
            refine e_aload_n d_M_weeks_169 rfl ?_
            refine gx_M_33 d_M_weeks_170 rfl ?_
            refine e_iload_n d_M_weeks_173 rfl ?_
            refine xM_iald 7 rfl d_M_weeks_174 o6 ?_
            refine xM_iald 29 rfl d_M_weeks_175 o21 ?_
            refine e_i2l d_M_weeks_176 ?_
            refine e_lload d_M_weeks_177 rfl ?_
            obtain ⟨o27, h⟩ := h
            refine e_lsub d_M_weeks_179 o27 ?_
            refine e_goto (tgt := 220) d_M_weeks_180 (by decide) ?_
            refine e_lstore (ls' := [(2, (m + 0)), (0, p1), (0, x2), (0, x3), (0, ((zM m G 11 x3) - 400)), (1, (zAir (zM m G) ((zM m G 11 x3) - 400) (zM m G 791 0))), (9, 0), (1, ((zM m G 29 (zM m G 7 x3)) - (zAir (zM m G) ((zM m G 11 x3) - 400) (zM m G 791 0)))), (9, 0)]) d_M_weeks_220 (by decide) rfl ?_
            refine e_aload_n d_M_weeks_222 rfl ?_
            refine gx_M_48 d_M_weeks_223 rfl ?_
            refine e_iload_n d_M_weeks_226 rfl ?_
            refine e_dup2 d_M_weeks_227 (by simp) (by simp) ?_
            refine xM_iald 12 rfl d_M_weeks_228 o6 ?_
            refine e_lload d_M_weeks_229 rfl ?_
            refine e_ldc2 100 d_M_weeks_231 (by decide) w_1825 ?_
            refine e_lcmp_le (tgt := 243) d_M_weeks_234 d_M_weeks_235 (by decide) (fun q55 => ?_) (fun q56 => ?_)
            · have h := h.1 q55
              refine e_lload d_M_weeks_243 rfl ?_
              refine e_l2i d_M_weeks_245 ?_
              obtain ⟨o69, h⟩ := h
              refine e_iadd d_M_weeks_246 o69 ?_
              refine xM_iast 12 rfl d_M_weeks_247 o6 ?_
              let G70 : gH := gU G 1 (m + 12) x3 ((zM m G 12 x3) + (w32 ((zM m G 29 (zM m G 7 x3)) - (zAir (zM m G) ((zM m G 11 x3) - 400) (zM m G 791 0)))))
              have h := h G70 rfl
              obtain ⟨o88, h⟩ := h
              refine e_iinc (ls' := [(2, (m + 0)), (0, p1), (0, x2), (0, (x3 + 1)), (0, ((zM m G 11 x3) - 400)), (1, (zAir (zM m G) ((zM m G 11 x3) - 400) (zM m G 791 0))), (9, 0), (1, ((zM m G 29 (zM m G 7 x3)) - (zAir (zM m G) ((zM m G 11 x3) - 400) (zM m G 791 0)))), (9, 0)]) d_M_weeks_248 rfl (by decide) o88 rfl ?_
              refine e_goto (tgt := 54) d_M_weeks_251 (by decide) ?_
              exact e_forget (ls' := [(2, (m + 0)), (0, p1), (0, x2), (0, (x3 + 1)), (9, 0), (9, 0), (9, 0), (9, 0), (9, 0)]) ⟨Or.inr rfl, Or.inr rfl, Or.inr rfl, Or.inr rfl, Or.inl rfl, Or.inl rfl, Or.inl rfl, Or.inl rfl, Or.inl rfl, trivial⟩ h
            · have h := h.2 q56
              refine e_bipush d_M_weeks_238 (by decide) (by decide) ?_
              refine e_goto (tgt := 246) d_M_weeks_240 (by decide) ?_
              obtain ⟨o71, h⟩ := h
              refine e_iadd d_M_weeks_246 o71 ?_
              refine xM_iast 12 rfl d_M_weeks_247 o6 ?_
              let G72 : gH := gU G 1 (m + 12) x3 ((zM m G 12 x3) + 100)
              have h := h G72 rfl
              obtain ⟨o89, h⟩ := h
              refine e_iinc (ls' := [(2, (m + 0)), (0, p1), (0, x2), (0, (x3 + 1)), (0, ((zM m G 11 x3) - 400)), (1, (zAir (zM m G) ((zM m G 11 x3) - 400) (zM m G 791 0))), (9, 0), (1, ((zM m G 29 (zM m G 7 x3)) - (zAir (zM m G) ((zM m G 11 x3) - 400) (zM m G 791 0)))), (9, 0)]) d_M_weeks_248 rfl (by decide) o89 rfl ?_
              refine e_goto (tgt := 54) d_M_weeks_251 (by decide) ?_
              exact e_forget (ls' := [(2, (m + 0)), (0, p1), (0, x2), (0, (x3 + 1)), (9, 0), (9, 0), (9, 0), (9, 0), (9, 0)]) ⟨Or.inr rfl, Or.inr rfl, Or.inr rfl, Or.inr rfl, Or.inl rfl, Or.inl rfl, Or.inl rfl, Or.inl rfl, Or.inl rfl, trivial⟩ h
        · replace q18 := gb1.mp q18
          have h := h.2 q18
          refine e_aload_n d_M_weeks_121 rfl ?_
          refine gx_M_48 d_M_weeks_122 rfl ?_
          refine e_iload_n d_M_weeks_125 rfl ?_
          refine e_dup2 d_M_weeks_126 (by simp) (by simp) ?_
          refine xM_iald 12 rfl d_M_weeks_127 o6 ?_
          refine e_iconst d_M_weeks_128 (by decide) ?_
          obtain ⟨o28, h⟩ := h
          refine e_iadd d_M_weeks_129 o28 ?_
          refine xM_iast 12 rfl d_M_weeks_130 o6 ?_
          let G29 : gH := gU G 1 (m + 12) x3 ((zM m G 12 x3) + 5)
          have h := h G29 rfl
          refine e_goto (tgt := 248) d_M_weeks_131 (by decide) ?_
          obtain ⟨o30, h⟩ := h
          refine e_iinc (ls' := [(2, (m + 0)), (0, p1), (0, x2), (0, (x3 + 1)), (0, ((zM m G 11 x3) - 400)), (9, 0), (9, 0), (9, 0), (9, 0)]) d_M_weeks_248 rfl (by decide) o30 rfl ?_
          refine e_goto (tgt := 54) d_M_weeks_251 (by decide) ?_
          exact e_forget (ls' := [(2, (m + 0)), (0, p1), (0, x2), (0, (x3 + 1)), (9, 0), (9, 0), (9, 0), (9, 0), (9, 0)]) ⟨Or.inr rfl, Or.inr rfl, Or.inr rfl, Or.inr rfl, Or.inl rfl, Or.inl rfl, Or.inl rfl, Or.inl rfl, Or.inl rfl, trivial⟩ h
      · replace q13 := gb0.mp q13
        have h := h.2 q13
        refine e_goto (tgt := 248) d_M_weeks_93 (by decide) ?_
        obtain ⟨o83, h⟩ := h
        refine e_iinc (ls' := [(2, (m + 0)), (0, p1), (0, x2), (0, (x3 + 1)), (9, 0), (9, 0), (9, 0), (9, 0), (9, 0)]) d_M_weeks_248 rfl (by decide) o83 rfl ?_
        refine e_goto (tgt := 54) d_M_weeks_251 (by decide) ?_
        exact e_forget (ls' := [(2, (m + 0)), (0, p1), (0, x2), (0, (x3 + 1)), (9, 0), (9, 0), (9, 0), (9, 0), (9, 0)]) ⟨Or.inr rfl, Or.inr rfl, Or.inr rfl, Or.inr rfl, Or.inl rfl, Or.inl rfl, Or.inl rfl, Or.inl rfl, Or.inl rfl, trivial⟩ h
    · have h := h.2 q8
      refine e_aload_n d_M_weeks_74 rfl ?_
      refine gx_M_48 d_M_weeks_75 rfl ?_
      refine e_iload_n d_M_weeks_78 rfl ?_
      refine e_dup2 d_M_weeks_79 (by simp) (by simp) ?_
      refine xM_iald 12 rfl d_M_weeks_80 o6 ?_
      refine e_bipush d_M_weeks_81 (by decide) (by decide) ?_
      obtain ⟨o9, h⟩ := h
      refine e_iadd d_M_weeks_83 o9 ?_
      refine xM_iast 12 rfl d_M_weeks_84 o6 ?_
      let G10 : gH := gU G 1 (m + 12) x3 ((zM m G 12 x3) + 10)
      have h := h G10 rfl
      refine e_aload_n d_M_weeks_85 rfl ?_
      refine e_iload_n d_M_weeks_86 rfl ?_
      refine EV.inv fun hFf31 => ?_
      have f31 := (fx_mt 0 rfl hFf31).1
      refine e_callV m_M_isInPlace 12 lw_good d_M_weeks_87 (k_M_isInPlace _) ⟨Nat.le_of_ble_eq_true rfl, Nat.le_of_ble_eq_true rfl⟩ w_1797 w_1799 w_s69 (q_M _) rfl f31 (args := [(0, x3)]) rfl rfl (Nat.le_of_ble_eq_true rfl) (kc' := kc) (ks' := ks) (mc := 0) (ms := 0) rfl rfl (c_M_isInPlace o6) (pureK ?_)
      refine e_if_ne (tgt := 96) d_M_weeks_90 (by decide) (fun q32 => ?_) (fun q33 => ?_)
      · replace q32 := gb1.mp q32
        have h := h.1 q32
        refine e_aload_n d_M_weeks_96 rfl ?_
        refine gx_M_45 d_M_weeks_97 rfl ?_
        refine e_iload_n d_M_weeks_100 rfl ?_
        refine xM_iald 11 rfl d_M_weeks_101 o6 ?_
        refine e_sipush d_M_weeks_102 (by decide) (by decide) ?_
        obtain ⟨o34, h⟩ := h
        refine e_isub d_M_weeks_105 o34 ?_
        refine e_istore (ls' := [(2, (m + 0)), (0, p1), (0, x2), (0, x3), (0, ((zM m G10 11 x3) - 400)), (9, 0), (9, 0), (9, 0), (9, 0)]) d_M_weeks_106 (by decide) rfl ?_
        refine e_aload_n d_M_weeks_108 rfl ?_
        refine e_iload d_M_weeks_109 rfl ?_
        refine e_aload_n d_M_weeks_111 rfl ?_
        refine gx_M_259 d_M_weeks_112 rfl ?_
        refine EV.inv fun hFf35 => ?_
        have f35 := (fx_mt 0 rfl hFf35).1
        obtain ⟨o36, h⟩ := h
        refine e_callV m_M_isMissing 12 lw_good d_M_weeks_115 (k_M_isMissing _) ⟨Nat.le_of_ble_eq_true rfl, Nat.le_of_ble_eq_true rfl⟩ w_1768 w_1770 w_s67 (q_M _) rfl f35 (args := [(0, ((zM m G10 11 x3) - 400)), (0, (zM m G 791 0))]) rfl rfl (Nat.le_of_ble_eq_true rfl) (kc' := kc) (ks' := ks) (mc := 0) (ms := 0) rfl rfl (c_M_isMissing o36) (pureK ?_)
        refine e_if_eq (tgt := 134) d_M_weeks_118 (by decide) (fun q37 => ?_) (fun q38 => ?_)
        · replace q37 := gb0.mp q37
          have h := h.1 q37
          refine e_aload_n d_M_weeks_134 rfl ?_
          refine e_iload d_M_weeks_135 rfl ?_
          refine e_aload_n d_M_weeks_137 rfl ?_
          refine gx_M_259 d_M_weeks_138 rfl ?_
          refine EV.inv fun hFf39 => ?_
          have f39 := (fx_mt 0 rfl hFf39).1
          obtain ⟨o40, h⟩ := h
          refine e_callV m_M_airAt 12 lw_good d_M_weeks_141 (k_M_airAt _) ⟨Nat.le_of_ble_eq_true rfl, Nat.le_of_ble_eq_true rfl⟩ w_1776 w_1778 w_s68 (q_M _) rfl f39 (args := [(0, ((zM m G10 11 x3) - 400)), (0, (zM m G 791 0))]) rfl rfl (Nat.le_of_ble_eq_true rfl) (kc' := kc) (ks' := ks) (mc := 0) (ms := 0) rfl rfl (c_M_airAt o40) (pureK ?_)
          refine e_i2l d_M_weeks_144 ?_
          refine e_lstore (ls' := [(2, (m + 0)), (0, p1), (0, x2), (0, x3), (0, ((zM m G10 11 x3) - 400)), (1, (zAir (zM m G10) ((zM m G10 11 x3) - 400) (zM m G 791 0))), (9, 0), (9, 0), (9, 0)]) d_M_weeks_145 (by decide) rfl ?_
          refine e_lload d_M_weeks_147 rfl ?_
          refine e_aload_n d_M_weeks_149 rfl ?_
          refine gx_M_100 d_M_weeks_150 rfl ?_
          refine e_aload_n d_M_weeks_153 rfl ?_
          refine gx_M_33 d_M_weeks_154 rfl ?_
          refine e_iload_n d_M_weeks_157 rfl ?_
          refine xM_iald 7 rfl d_M_weeks_158 o6 ?_
          obtain ⟨o41, h⟩ := h
          refine xM_iald 29 rfl d_M_weeks_159 o41 ?_
          refine e_i2l d_M_weeks_160 ?_
          refine e_lcmp_ge (tgt := 183) d_M_weeks_161 d_M_weeks_162 (by decide) (fun q42 => ?_) (fun q43 => ?_)
          · have h := h.1 q42
            refine e_lload d_M_weeks_183 rfl ?_
            refine e_aload_n d_M_weeks_185 rfl ?_
            refine gx_M_103 d_M_weeks_186 rfl ?_
            refine e_aload_n d_M_weeks_189 rfl ?_
            refine gx_M_33 d_M_weeks_190 rfl ?_
            refine e_iload_n d_M_weeks_193 rfl ?_
            refine xM_iald 7 rfl d_M_weeks_194 o6 ?_
            refine xM_iald 30 rfl d_M_weeks_195 o41 ?_
            refine e_i2l d_M_weeks_196 ?_
            refine e_lcmp_le (tgt := 219) d_M_weeks_197 d_M_weeks_198 (by decide) (fun q44 => ?_) (fun q45 => ?_)
            · have h := h.1 q44
              refine e_lconst 0 d_M_weeks_219 (by decide) (by decide) ?_
              refine e_lstore (ls' := [(2, (m + 0)), (0, p1), (0, x2), (0, x3), (0, ((zM m G10 11 x3) - 400)), (1, (zAir (zM m G10) ((zM m G10 11 x3) - 400) (zM m G 791 0))), (9, 0), (1, 0), (9, 0)]) d_M_weeks_220 (by decide) rfl ?_
              refine e_aload_n d_M_weeks_222 rfl ?_
              refine gx_M_48 d_M_weeks_223 rfl ?_
              refine e_iload_n d_M_weeks_226 rfl ?_
              refine e_dup2 d_M_weeks_227 (by simp) (by simp) ?_
              refine xM_iald 12 rfl d_M_weeks_228 o6 ?_
              refine e_lload d_M_weeks_229 rfl ?_
              refine e_ldc2 100 d_M_weeks_231 (by decide) w_1825 ?_
              refine e_lcmp_le (tgt := 243) d_M_weeks_234 d_M_weeks_235 (by decide) (fun q57 => ?_) (fun q58 => ?_)
              · refine e_lload d_M_weeks_243 rfl ?_
                refine e_l2i d_M_weeks_245 ?_
                obtain ⟨o73, h⟩ := h
                refine e_iadd d_M_weeks_246 o73 ?_
                refine xM_iast 12 rfl d_M_weeks_247 o6 ?_
                let G74 : gH := gU G10 1 (m + 12) x3 ((zM m G10 12 x3) + (w32 0))
                have h := h G74 rfl
                obtain ⟨o90, h⟩ := h
                refine e_iinc (ls' := [(2, (m + 0)), (0, p1), (0, x2), (0, (x3 + 1)), (0, ((zM m G10 11 x3) - 400)), (1, (zAir (zM m G10) ((zM m G10 11 x3) - 400) (zM m G 791 0))), (9, 0), (1, 0), (9, 0)]) d_M_weeks_248 rfl (by decide) o90 rfl ?_
                refine e_goto (tgt := 54) d_M_weeks_251 (by decide) ?_
                exact e_forget (ls' := [(2, (m + 0)), (0, p1), (0, x2), (0, (x3 + 1)), (9, 0), (9, 0), (9, 0), (9, 0), (9, 0)]) ⟨Or.inr rfl, Or.inr rfl, Or.inr rfl, Or.inr rfl, Or.inl rfl, Or.inl rfl, Or.inl rfl, Or.inl rfl, Or.inl rfl, trivial⟩ h
              · exact absurd q58 (by decide)
            · have h := h.2 q45
              refine e_lload d_M_weeks_201 rfl ?_
              refine e_aload_n d_M_weeks_203 rfl ?_
              refine gx_M_103 d_M_weeks_204 rfl ?_
              refine e_aload_n d_M_weeks_207 rfl ?_
              refine gx_M_33 d_M_weeks_208 rfl ?_
              refine e_iload_n d_M_weeks_211 rfl ?_
              refine xM_iald 7 rfl d_M_weeks_212 o6 ?_
              refine xM_iald 30 rfl d_M_weeks_213 o41 ?_
              refine e_i2l d_M_weeks_214 ?_
              obtain ⟨o46, h⟩ := h
              refine e_lsub d_M_weeks_215 o46 ?_
              refine e_goto (tgt := 220) d_M_weeks_216 (by decide) ?_
              refine e_lstore (ls' := [(2, (m + 0)), (0, p1), (0, x2), (0, x3), (0, ((zM m G10 11 x3) - 400)), (1, (zAir (zM m G10) ((zM m G10 11 x3) - 400) (zM m G 791 0))), (9, 0), (1, ((zAir (zM m G10) ((zM m G10 11 x3) - 400) (zM m G 791 0)) - (zM m G10 30 (zM m G10 7 x3)))), (9, 0)]) d_M_weeks_220 (by decide) rfl ?_
              refine e_aload_n d_M_weeks_222 rfl ?_
              refine gx_M_48 d_M_weeks_223 rfl ?_
              refine e_iload_n d_M_weeks_226 rfl ?_
              refine e_dup2 d_M_weeks_227 (by simp) (by simp) ?_
              refine xM_iald 12 rfl d_M_weeks_228 o6 ?_
              refine e_lload d_M_weeks_229 rfl ?_
              refine e_ldc2 100 d_M_weeks_231 (by decide) w_1825 ?_
              refine e_lcmp_le (tgt := 243) d_M_weeks_234 d_M_weeks_235 (by decide) (fun q59 => ?_) (fun q60 => ?_)
              · have h := h.1 q59
                refine e_lload d_M_weeks_243 rfl ?_
                refine e_l2i d_M_weeks_245 ?_
                obtain ⟨o75, h⟩ := h
                refine e_iadd d_M_weeks_246 o75 ?_
                refine xM_iast 12 rfl d_M_weeks_247 o6 ?_
                let G76 : gH := gU G10 1 (m + 12) x3 ((zM m G10 12 x3) + (w32 ((zAir (zM m G10) ((zM m G10 11 x3) - 400) (zM m G 791 0)) - (zM m G10 30 (zM m G10 7 x3)))))
                have h := h G76 rfl
                obtain ⟨o91, h⟩ := h
                refine e_iinc (ls' := [(2, (m + 0)), (0, p1), (0, x2), (0, (x3 + 1)), (0, ((zM m G10 11 x3) - 400)), (1, (zAir (zM m G10) ((zM m G10 11 x3) - 400) (zM m G 791 0))), (9, 0), (1, ((zAir (zM m G10) ((zM m G10 11 x3) - 400) (zM m G 791 0)) - (zM m G10 30 (zM m G10 7 x3)))), (9, 0)]) d_M_weeks_248 rfl (by decide) o91 rfl ?_
                refine e_goto (tgt := 54) d_M_weeks_251 (by decide) ?_
                exact e_forget (ls' := [(2, (m + 0)), (0, p1), (0, x2), (0, (x3 + 1)), (9, 0), (9, 0), (9, 0), (9, 0), (9, 0)]) ⟨Or.inr rfl, Or.inr rfl, Or.inr rfl, Or.inr rfl, Or.inl rfl, Or.inl rfl, Or.inl rfl, Or.inl rfl, Or.inl rfl, trivial⟩ h
              · have h := h.2 q60
                refine e_bipush d_M_weeks_238 (by decide) (by decide) ?_
                refine e_goto (tgt := 246) d_M_weeks_240 (by decide) ?_
                obtain ⟨o77, h⟩ := h
                refine e_iadd d_M_weeks_246 o77 ?_
                refine xM_iast 12 rfl d_M_weeks_247 o6 ?_
                let G78 : gH := gU G10 1 (m + 12) x3 ((zM m G10 12 x3) + 100)
                have h := h G78 rfl
                obtain ⟨o92, h⟩ := h
                refine e_iinc (ls' := [(2, (m + 0)), (0, p1), (0, x2), (0, (x3 + 1)), (0, ((zM m G10 11 x3) - 400)), (1, (zAir (zM m G10) ((zM m G10 11 x3) - 400) (zM m G 791 0))), (9, 0), (1, ((zAir (zM m G10) ((zM m G10 11 x3) - 400) (zM m G 791 0)) - (zM m G10 30 (zM m G10 7 x3)))), (9, 0)]) d_M_weeks_248 rfl (by decide) o92 rfl ?_
                refine e_goto (tgt := 54) d_M_weeks_251 (by decide) ?_
                exact e_forget (ls' := [(2, (m + 0)), (0, p1), (0, x2), (0, (x3 + 1)), (9, 0), (9, 0), (9, 0), (9, 0), (9, 0)]) ⟨Or.inr rfl, Or.inr rfl, Or.inr rfl, Or.inr rfl, Or.inl rfl, Or.inl rfl, Or.inl rfl, Or.inl rfl, Or.inl rfl, trivial⟩ h
          · have h := h.2 q43
            refine e_aload_n d_M_weeks_165 rfl ?_
            refine gx_M_100 d_M_weeks_166 rfl ?_
            refine e_aload_n d_M_weeks_169 rfl ?_
            refine gx_M_33 d_M_weeks_170 rfl ?_
            refine e_iload_n d_M_weeks_173 rfl ?_
            refine xM_iald 7 rfl d_M_weeks_174 o6 ?_
            refine xM_iald 29 rfl d_M_weeks_175 o41 ?_
            refine e_i2l d_M_weeks_176 ?_
            refine e_lload d_M_weeks_177 rfl ?_
            obtain ⟨o47, h⟩ := h
            refine e_lsub d_M_weeks_179 o47 ?_
            refine e_goto (tgt := 220) d_M_weeks_180 (by decide) ?_
            refine e_lstore (ls' := [(2, (m + 0)), (0, p1), (0, x2), (0, x3), (0, ((zM m G10 11 x3) - 400)), (1, (zAir (zM m G10) ((zM m G10 11 x3) - 400) (zM m G 791 0))), (9, 0), (1, ((zM m G10 29 (zM m G10 7 x3)) - (zAir (zM m G10) ((zM m G10 11 x3) - 400) (zM m G 791 0)))), (9, 0)]) d_M_weeks_220 (by decide) rfl ?_
            refine e_aload_n d_M_weeks_222 rfl ?_
            refine gx_M_48 d_M_weeks_223 rfl ?_
            refine e_iload_n d_M_weeks_226 rfl ?_
            refine e_dup2 d_M_weeks_227 (by simp) (by simp) ?_
            refine xM_iald 12 rfl d_M_weeks_228 o6 ?_
            refine e_lload d_M_weeks_229 rfl ?_
            refine e_ldc2 100 d_M_weeks_231 (by decide) w_1825 ?_
            refine e_lcmp_le (tgt := 243) d_M_weeks_234 d_M_weeks_235 (by decide) (fun q61 => ?_) (fun q62 => ?_)
            · have h := h.1 q61
              refine e_lload d_M_weeks_243 rfl ?_
              refine e_l2i d_M_weeks_245 ?_
              obtain ⟨o79, h⟩ := h
              refine e_iadd d_M_weeks_246 o79 ?_
              refine xM_iast 12 rfl d_M_weeks_247 o6 ?_
              let G80 : gH := gU G10 1 (m + 12) x3 ((zM m G10 12 x3) + (w32 ((zM m G10 29 (zM m G10 7 x3)) - (zAir (zM m G10) ((zM m G10 11 x3) - 400) (zM m G 791 0)))))
              have h := h G80 rfl
              obtain ⟨o93, h⟩ := h
              refine e_iinc (ls' := [(2, (m + 0)), (0, p1), (0, x2), (0, (x3 + 1)), (0, ((zM m G10 11 x3) - 400)), (1, (zAir (zM m G10) ((zM m G10 11 x3) - 400) (zM m G 791 0))), (9, 0), (1, ((zM m G10 29 (zM m G10 7 x3)) - (zAir (zM m G10) ((zM m G10 11 x3) - 400) (zM m G 791 0)))), (9, 0)]) d_M_weeks_248 rfl (by decide) o93 rfl ?_
              refine e_goto (tgt := 54) d_M_weeks_251 (by decide) ?_
              exact e_forget (ls' := [(2, (m + 0)), (0, p1), (0, x2), (0, (x3 + 1)), (9, 0), (9, 0), (9, 0), (9, 0), (9, 0)]) ⟨Or.inr rfl, Or.inr rfl, Or.inr rfl, Or.inr rfl, Or.inl rfl, Or.inl rfl, Or.inl rfl, Or.inl rfl, Or.inl rfl, trivial⟩ h
            · have h := h.2 q62
              refine e_bipush d_M_weeks_238 (by decide) (by decide) ?_
              refine e_goto (tgt := 246) d_M_weeks_240 (by decide) ?_
              obtain ⟨o81, h⟩ := h
              refine e_iadd d_M_weeks_246 o81 ?_
              refine xM_iast 12 rfl d_M_weeks_247 o6 ?_
              let G82 : gH := gU G10 1 (m + 12) x3 ((zM m G10 12 x3) + 100)
              have h := h G82 rfl
              obtain ⟨o94, h⟩ := h
              refine e_iinc (ls' := [(2, (m + 0)), (0, p1), (0, x2), (0, (x3 + 1)), (0, ((zM m G10 11 x3) - 400)), (1, (zAir (zM m G10) ((zM m G10 11 x3) - 400) (zM m G 791 0))), (9, 0), (1, ((zM m G10 29 (zM m G10 7 x3)) - (zAir (zM m G10) ((zM m G10 11 x3) - 400) (zM m G 791 0)))), (9, 0)]) d_M_weeks_248 rfl (by decide) o94 rfl ?_
              refine e_goto (tgt := 54) d_M_weeks_251 (by decide) ?_
              exact e_forget (ls' := [(2, (m + 0)), (0, p1), (0, x2), (0, (x3 + 1)), (9, 0), (9, 0), (9, 0), (9, 0), (9, 0)]) ⟨Or.inr rfl, Or.inr rfl, Or.inr rfl, Or.inr rfl, Or.inl rfl, Or.inl rfl, Or.inl rfl, Or.inl rfl, Or.inl rfl, trivial⟩ h
        · replace q38 := gb1.mp q38
          have h := h.2 q38
          refine e_aload_n d_M_weeks_121 rfl ?_
          refine gx_M_48 d_M_weeks_122 rfl ?_
          refine e_iload_n d_M_weeks_125 rfl ?_
          refine e_dup2 d_M_weeks_126 (by simp) (by simp) ?_
          refine xM_iald 12 rfl d_M_weeks_127 o6 ?_
          refine e_iconst d_M_weeks_128 (by decide) ?_
          obtain ⟨o48, h⟩ := h
          refine e_iadd d_M_weeks_129 o48 ?_
          refine xM_iast 12 rfl d_M_weeks_130 o6 ?_
          let G49 : gH := gU G10 1 (m + 12) x3 ((zM m G10 12 x3) + 5)
          have h := h G49 rfl
          refine e_goto (tgt := 248) d_M_weeks_131 (by decide) ?_
          obtain ⟨o50, h⟩ := h
          refine e_iinc (ls' := [(2, (m + 0)), (0, p1), (0, x2), (0, (x3 + 1)), (0, ((zM m G10 11 x3) - 400)), (9, 0), (9, 0), (9, 0), (9, 0)]) d_M_weeks_248 rfl (by decide) o50 rfl ?_
          refine e_goto (tgt := 54) d_M_weeks_251 (by decide) ?_
          exact e_forget (ls' := [(2, (m + 0)), (0, p1), (0, x2), (0, (x3 + 1)), (9, 0), (9, 0), (9, 0), (9, 0), (9, 0)]) ⟨Or.inr rfl, Or.inr rfl, Or.inr rfl, Or.inr rfl, Or.inl rfl, Or.inl rfl, Or.inl rfl, Or.inl rfl, Or.inl rfl, trivial⟩ h
      · replace q33 := gb0.mp q33
        have h := h.2 q33
        refine e_goto (tgt := 248) d_M_weeks_93 (by decide) ?_
        obtain ⟨o84, h⟩ := h
        refine e_iinc (ls' := [(2, (m + 0)), (0, p1), (0, x2), (0, (x3 + 1)), (9, 0), (9, 0), (9, 0), (9, 0), (9, 0)]) d_M_weeks_248 rfl (by decide) o84 rfl ?_
        refine e_goto (tgt := 54) d_M_weeks_251 (by decide) ?_
        exact e_forget (ls' := [(2, (m + 0)), (0, p1), (0, x2), (0, (x3 + 1)), (9, 0), (9, 0), (9, 0), (9, 0), (9, 0)]) ⟨Or.inr rfl, Or.inr rfl, Or.inr rfl, Or.inr rfl, Or.inl rfl, Or.inl rfl, Or.inl rfl, Or.inl rfl, Or.inl rfl, trivial⟩ h
