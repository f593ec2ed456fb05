/-! THE CLASS, 34: jobs are measured and ranked -/
set_option maxRecDepth 20000 in
set_option maxHeartbeats 4000000 in
theorem sg_Thing_measure_0 {e : gE} {b : Nat} {m : Int} {Z : Int → gH → Prop} {kc ks : Nat} {G : gH} {a0 p1 p2 : Int} (t0 : G 0 a0 0 = 10) (h : ((b : Int) < a0) ∧ (∀ G2 : gH, G2 = gU G 602 a0 0 p1 → ∀ G3 : gH, G3 = gU G2 603 a0 0 p2 → ∀ G4 : gH, G4 = gU G3 601 a0 0 (-1) → Z 0 G4)) : EX e b m m_Thing_measure Z kc ks 0 [(2, a0), (0, p1), (0, p2)] [] G := by
  refine e_aload_n d_Thing_measure_0 rfl ?_
  refine e_iload_n d_Thing_measure_1 rfl ?_
  obtain ⟨o1, h⟩ := h
  refine gp_Thing_53 d_Thing_measure_2 rfl t0 o1 (fx_U (by decide)) ?_
  let G2 : gH := gU G 602 a0 0 p1
  have h := h G2 rfl
  refine e_aload_n d_Thing_measure_5 rfl ?_
  refine e_iload_n d_Thing_measure_6 rfl ?_
  refine gp_Thing_56 d_Thing_measure_7 rfl t0 o1 (fx_U (by decide)) ?_
  let G3 : gH := gU G2 603 a0 0 p2
  have h := h G3 rfl
  refine e_aload_n d_Thing_measure_10 rfl ?_
  refine e_iconst d_Thing_measure_11 (by decide) ?_
  refine gp_Thing_36 d_Thing_measure_12 rfl t0 o1 (fx_U (by decide)) ?_
  let G4 : gH := gU G3 601 a0 0 (-1)
  have h := h G4 rfl
  exact e_vret d_Thing_measure_15 rfl h
set_option maxRecDepth 20000 in
set_option maxHeartbeats 4000000 in
theorem sg_House_measure_0 {e : gE} {b : Nat} {m : Int} {Z : Int → gH → Prop} {kc ks : Nat} {G : gH} {p1 p2 : Int} (h : ((G 0 p1 0 = 10) ∧ ((G 0 p1 0 = 10) ∧ ((0 ≤ (G 596 p1 0) ∧ (G 596 p1 0) ≤ 11) → (0 ≤ (G 596 p1 0) ∧ (G 596 p1 0) < 12) ∧ ((G 1 ((b : Int) + 8) (G 596 p1 0)) ≠ (-1) → (inI (2 * (G 1 ((b : Int) + 8) (G 596 p1 0)))) ∧ ((inI ((2 * (G 1 ((b : Int) + 8) (G 596 p1 0))) + (G 597 p1 0))) ∧ ((inI (p2 - (if 1 < ((2 * (G 1 ((b : Int) + 8) (G 596 p1 0))) + (G 597 p1 0)) then ((2 * (G 1 ((b : Int) + 8) (G 596 p1 0))) + (G 597 p1 0)) else 1))) ∧ (((G 1 ((b : Int) + 9) (G 596 p1 0)) = (-1) → GX e b m m_Thing_measure [(2, p1), (0, (if 1 < ((2 * (G 1 ((b : Int) + 8) (G 596 p1 0))) + (G 597 p1 0)) then ((2 * (G 1 ((b : Int) + 8) (G 596 p1 0))) + (G 597 p1 0)) else 1)), (0, (p2 - (if 1 < ((2 * (G 1 ((b : Int) + 8) (G 596 p1 0))) + (G 597 p1 0)) then ((2 * (G 1 ((b : Int) + 8) (G 596 p1 0))) + (G 597 p1 0)) else 1)))] G 0 0 (fun _ G17 => Z 1 G17)) ∧ ((G 1 ((b : Int) + 9) (G 596 p1 0)) ≠ (-1) → (inI ((G 1 ((b : Int) + 9) (G 596 p1 0)) - 1)) ∧ (inI (((G 1 ((b : Int) + 9) (G 596 p1 0)) - 1) - (G 1 ((b : Int) + 8) (G 596 p1 0)))) ∧ GX e b m m_Thing_measure [(2, p1), (0, (if 1 < ((2 * (G 1 ((b : Int) + 8) (G 596 p1 0))) + (G 597 p1 0)) then ((2 * (G 1 ((b : Int) + 8) (G 596 p1 0))) + (G 597 p1 0)) else 1)), (0, (if (((G 1 ((b : Int) + 9) (G 596 p1 0)) - 1) - (G 1 ((b : Int) + 8) (G 596 p1 0))) < (p2 - (if 1 < ((2 * (G 1 ((b : Int) + 8) (G 596 p1 0))) + (G 597 p1 0)) then ((2 * (G 1 ((b : Int) + 8) (G 596 p1 0))) + (G 597 p1 0)) else 1)) then (((G 1 ((b : Int) + 9) (G 596 p1 0)) - 1) - (G 1 ((b : Int) + 8) (G 596 p1 0))) else (p2 - (if 1 < ((2 * (G 1 ((b : Int) + 8) (G 596 p1 0))) + (G 597 p1 0)) then ((2 * (G 1 ((b : Int) + 8) (G 596 p1 0))) + (G 597 p1 0)) else 1))))] G 0 0 (fun _ G19 => Z 1 G19))))))))) ∧ ((((¬ (0 ≤ (G 596 p1 0) ∧ (G 596 p1 0) ≤ 11))) ∨ ((0 ≤ (G 596 p1 0) ∧ (G 596 p1 0) ≤ 11) ∧ (G 1 ((b : Int) + 8) (G 596 p1 0)) = (-1))) → Z 0 G)) : EX e b m m_House_measure Z kc ks 0 [(2, ((b : Int) + 3)), (2, p1), (0, p2), (9, 0), (9, 0), (9, 0)] [] G := by
  obtain ⟨h, hJ15⟩ := h
  have kJ15 : (((¬ (0 ≤ (G 596 p1 0) ∧ (G 596 p1 0) ≤ 11))) ∨ ((0 ≤ (G 596 p1 0) ∧ (G 596 p1 0) ≤ 11) ∧ (G 1 ((b : Int) + 8) (G 596 p1 0)) = (-1))) → EX e b m m_House_measure Z kc ks 25 [(2, ((b : Int) + 3)), (2, p1), (0, p2), (0, (G 596 p1 0)), (9, 0), (9, 0)] [] G := by
    intro rJ15
    have h := hJ15 rJ15
    refine e_iconst d_House_measure_25 (by decide) ?_
    exact e_zret .boolean d_House_measure_26 rfl (by decide) h
  refine e_aload_n d_House_measure_0 rfl ?_
  obtain ⟨o1, o2, h⟩ := h
  refine e_callV m_Thing_room 9 lw_good d_House_measure_1 (k_Thing_room _) ⟨Nat.le_of_ble_eq_true rfl, Nat.le_of_ble_eq_true rfl⟩ w_643 w_644 w_645 (q_Thing _) rfl o1 (args := []) rfl rfl (Nat.le_of_ble_eq_true rfl) (kc' := kc) (ks' := ks) (mc := 0) (ms := 0) rfl rfl (c_Thing_room o2) (pureK ?_)
  refine e_istore_n (ls' := [(2, ((b : Int) + 3)), (2, p1), (0, p2), (0, (G 596 p1 0)), (9, 0), (9, 0)]) d_House_measure_4 (by decide) rfl ?_
  refine e_iload_n d_House_measure_5 rfl ?_
  refine e_iconst d_House_measure_6 (by decide) ?_
  refine e_bipush d_House_measure_7 (by decide) (by decide) ?_
  refine e_callSN m_C_within "MuseumFlight" lw_good d_House_measure_9 (k_C_within _) ⟨Nat.le_of_ble_eq_true rfl, Nat.le_of_ble_eq_true rfl⟩ w_309 w_295 (args := [(0, (G 596 p1 0)), (0, 0), (0, 11)]) rfl rfl (Nat.le_of_ble_eq_true rfl) (kc' := kc) (ks' := ks) (mc := 0) (ms := 0) rfl rfl (c_C_within) (pureK ?_)
  refine e_if_eq (tgt := 25) d_House_measure_12 (by decide) (fun q3 => ?_) (fun q4 => ?_)
  · replace q3 := gb0.mp q3
    exact kJ15 (Or.inl q3)
  · replace q4 := gb1.mp q4
    have h := h q4
    refine e_aload_n d_House_measure_15 rfl ?_
    refine gx_House_25 d_House_measure_16 rfl ?_
    refine e_iload_n d_House_measure_19 rfl ?_
    obtain ⟨o5, h⟩ := h
    refine xC_iald 7 rfl d_House_measure_20 o5 ?_
    refine e_iconst d_House_measure_21 (by decide) ?_
    refine e_icmp_ne (tgt := 27) d_House_measure_22 (by decide) (fun q6 => ?_) (fun q7 => ?_)
    · have h := h q6
      refine e_iconst d_House_measure_27 (by decide) ?_
      refine e_iconst d_House_measure_28 (by decide) ?_
      refine e_aload_n d_House_measure_29 rfl ?_
      refine gx_House_25 d_House_measure_30 rfl ?_
      refine e_iload_n d_House_measure_33 rfl ?_
      refine xC_iald 7 rfl d_House_measure_34 o5 ?_
      obtain ⟨o8, h⟩ := h
      refine e_imul d_House_measure_35 o8 ?_
      refine e_aload_n d_House_measure_36 rfl ?_
      refine e_callV m_Thing_pack 9 lw_good d_House_measure_37 (k_Thing_pack _) ⟨Nat.le_of_ble_eq_true rfl, Nat.le_of_ble_eq_true rfl⟩ w_647 w_648 w_649 (q_Thing _) rfl o1 (args := []) rfl rfl (Nat.le_of_ble_eq_true rfl) (kc' := kc) (ks' := ks) (mc := 0) (ms := 0) rfl rfl (c_Thing_pack o2) (pureK ?_)
      obtain ⟨o9, h⟩ := h
      refine e_iadd d_House_measure_40 o9 ?_
      refine e_callS m_Math_max_a lw_good d_House_measure_41 (k_Math_max_a _) ⟨Nat.le_of_ble_eq_true rfl, Nat.le_of_ble_eq_true rfl⟩ w_651 w_373 (args := [(0, 1), (0, ((2 * (G 1 ((b : Int) + 8) (G 596 p1 0))) + (G 597 p1 0)))]) rfl rfl (Nat.le_of_ble_eq_true rfl) (kc' := kc) (ks' := ks) (mc := 0) (ms := 0) rfl rfl (c_Math_max_a) (pureK ?_)
      refine e_istore (ls' := [(2, ((b : Int) + 3)), (2, p1), (0, p2), (0, (G 596 p1 0)), (0, (if 1 < ((2 * (G 1 ((b : Int) + 8) (G 596 p1 0))) + (G 597 p1 0)) then ((2 * (G 1 ((b : Int) + 8) (G 596 p1 0))) + (G 597 p1 0)) else 1)), (9, 0)]) d_House_measure_44 (by decide) rfl ?_
      refine e_iload_n d_House_measure_46 rfl ?_
      refine e_iload d_House_measure_47 rfl ?_
      obtain ⟨o10, h⟩ := h
      refine e_isub d_House_measure_49 o10 ?_
      refine e_istore (ls' := [(2, ((b : Int) + 3)), (2, p1), (0, p2), (0, (G 596 p1 0)), (0, (if 1 < ((2 * (G 1 ((b : Int) + 8) (G 596 p1 0))) + (G 597 p1 0)) then ((2 * (G 1 ((b : Int) + 8) (G 596 p1 0))) + (G 597 p1 0)) else 1)), (0, (p2 - (if 1 < ((2 * (G 1 ((b : Int) + 8) (G 596 p1 0))) + (G 597 p1 0)) then ((2 * (G 1 ((b : Int) + 8) (G 596 p1 0))) + (G 597 p1 0)) else 1)))]) d_House_measure_50 (by decide) rfl ?_
      refine e_aload_n d_House_measure_52 rfl ?_
      refine gx_House_34 d_House_measure_53 rfl ?_
      refine e_iload_n d_House_measure_56 rfl ?_
      refine xC_iald 8 rfl d_House_measure_57 o5 ?_
      refine e_iconst d_House_measure_58 (by decide) ?_
      refine e_icmp_eq (tgt := 84) d_House_measure_59 (by decide) (fun q11 => ?_) (fun q12 => ?_)
      · have h := h.1 q11
        refine e_aload_n d_House_measure_84 rfl ?_
        refine e_iload d_House_measure_85 rfl ?_
        refine e_iload d_House_measure_87 rfl ?_
        refine e_callV m_Thing_measure 9 lw_good d_House_measure_89 (k_Thing_measure _) ⟨Nat.le_of_ble_eq_true rfl, Nat.le_of_ble_eq_true rfl⟩ w_653 w_654 w_655 (q_Thing _) rfl o1 (args := [(0, (if 1 < ((2 * (G 1 ((b : Int) + 8) (G 596 p1 0))) + (G 597 p1 0)) then ((2 * (G 1 ((b : Int) + 8) (G 596 p1 0))) + (G 597 p1 0)) else 1)), (0, (p2 - (if 1 < ((2 * (G 1 ((b : Int) + 8) (G 596 p1 0))) + (G 597 p1 0)) then ((2 * (G 1 ((b : Int) + 8) (G 596 p1 0))) + (G 597 p1 0)) else 1)))]) rfl rfl (Nat.le_of_ble_eq_true rfl) (kc' := kc) (ks' := ks) (mc := 0) (ms := 0) rfl rfl h ?_
        intro v16 G17 h
        refine e_iconst d_House_measure_92 (by decide) ?_
        exact e_zret .boolean d_House_measure_93 rfl (by decide) h
      · have h := h.2 q12
        refine e_iload d_House_measure_62 rfl ?_
        refine e_aload_n d_House_measure_64 rfl ?_
        refine gx_House_34 d_House_measure_65 rfl ?_
        refine e_iload_n d_House_measure_68 rfl ?_
        refine xC_iald 8 rfl d_House_measure_69 o5 ?_
        refine e_iconst d_House_measure_70 (by decide) ?_
        obtain ⟨o13, h⟩ := h
        refine e_isub d_House_measure_71 o13 ?_
        refine e_aload_n d_House_measure_72 rfl ?_
        refine gx_House_25 d_House_measure_73 rfl ?_
        refine e_iload_n d_House_measure_76 rfl ?_
        refine xC_iald 7 rfl d_House_measure_77 o5 ?_
        obtain ⟨o14, h⟩ := h
        refine e_isub d_House_measure_78 o14 ?_
        refine e_callS m_Math_min_a lw_good d_House_measure_79 (k_Math_min_a _) ⟨Nat.le_of_ble_eq_true rfl, Nat.le_of_ble_eq_true rfl⟩ w_652 w_406 (args := [(0, (p2 - (if 1 < ((2 * (G 1 ((b : Int) + 8) (G 596 p1 0))) + (G 597 p1 0)) then ((2 * (G 1 ((b : Int) + 8) (G 596 p1 0))) + (G 597 p1 0)) else 1))), (0, (((G 1 ((b : Int) + 9) (G 596 p1 0)) - 1) - (G 1 ((b : Int) + 8) (G 596 p1 0))))]) rfl rfl (Nat.le_of_ble_eq_true rfl) (kc' := kc) (ks' := ks) (mc := 0) (ms := 0) rfl rfl (c_Math_min_a) (pureK ?_)
        refine e_istore (ls' := [(2, ((b : Int) + 3)), (2, p1), (0, p2), (0, (G 596 p1 0)), (0, (if 1 < ((2 * (G 1 ((b : Int) + 8) (G 596 p1 0))) + (G 597 p1 0)) then ((2 * (G 1 ((b : Int) + 8) (G 596 p1 0))) + (G 597 p1 0)) else 1)), (0, (if (((G 1 ((b : Int) + 9) (G 596 p1 0)) - 1) - (G 1 ((b : Int) + 8) (G 596 p1 0))) < (p2 - (if 1 < ((2 * (G 1 ((b : Int) + 8) (G 596 p1 0))) + (G 597 p1 0)) then ((2 * (G 1 ((b : Int) + 8) (G 596 p1 0))) + (G 597 p1 0)) else 1)) then (((G 1 ((b : Int) + 9) (G 596 p1 0)) - 1) - (G 1 ((b : Int) + 8) (G 596 p1 0))) else (p2 - (if 1 < ((2 * (G 1 ((b : Int) + 8) (G 596 p1 0))) + (G 597 p1 0)) then ((2 * (G 1 ((b : Int) + 8) (G 596 p1 0))) + (G 597 p1 0)) else 1))))]) d_House_measure_82 (by decide) rfl ?_
        refine e_aload_n d_House_measure_84 rfl ?_
        refine e_iload d_House_measure_85 rfl ?_
        refine e_iload d_House_measure_87 rfl ?_
        refine e_callV m_Thing_measure 9 lw_good d_House_measure_89 (k_Thing_measure _) ⟨Nat.le_of_ble_eq_true rfl, Nat.le_of_ble_eq_true rfl⟩ w_653 w_654 w_655 (q_Thing _) rfl o1 (args := [(0, (if 1 < ((2 * (G 1 ((b : Int) + 8) (G 596 p1 0))) + (G 597 p1 0)) then ((2 * (G 1 ((b : Int) + 8) (G 596 p1 0))) + (G 597 p1 0)) else 1)), (0, (if (((G 1 ((b : Int) + 9) (G 596 p1 0)) - 1) - (G 1 ((b : Int) + 8) (G 596 p1 0))) < (p2 - (if 1 < ((2 * (G 1 ((b : Int) + 8) (G 596 p1 0))) + (G 597 p1 0)) then ((2 * (G 1 ((b : Int) + 8) (G 596 p1 0))) + (G 597 p1 0)) else 1)) then (((G 1 ((b : Int) + 9) (G 596 p1 0)) - 1) - (G 1 ((b : Int) + 8) (G 596 p1 0))) else (p2 - (if 1 < ((2 * (G 1 ((b : Int) + 8) (G 596 p1 0))) + (G 597 p1 0)) then ((2 * (G 1 ((b : Int) + 8) (G 596 p1 0))) + (G 597 p1 0)) else 1))))]) rfl rfl (Nat.le_of_ble_eq_true rfl) (kc' := kc) (ks' := ks) (mc := 0) (ms := 0) rfl rfl h ?_
        intro v18 G19 h
        refine e_iconst d_House_measure_92 (by decide) ?_
        exact e_zret .boolean d_House_measure_93 rfl (by decide) h
    · exact kJ15 (Or.inr ⟨q4, q7⟩)
set_option maxRecDepth 20000 in
set_option maxHeartbeats 4000000 in
theorem sg_Planner_rankByDue_0 {e : gE} {b : Nat} {m : Int} {Z : Int → gH → Prop} {kc ks : Nat} {G : gH} {p1 : Int} (h : EX e b m m_Planner_rankByDue Z kc ks 4 [(2, ((b : Int) + 12)), (2, p1), (0, 0), (0, 0)] [] G) : EX e b m m_Planner_rankByDue Z kc ks 0 [(2, ((b : Int) + 12)), (2, p1), (9, 0), (9, 0)] [] G := by
  refine e_iconst d_Planner_rankByDue_0 (by decide) ?_
  refine e_istore_n (ls' := [(2, ((b : Int) + 12)), (2, p1), (0, 0), (9, 0)]) d_Planner_rankByDue_1 (by decide) rfl ?_
  refine e_iconst d_Planner_rankByDue_2 (by decide) ?_
  refine e_istore_n (ls' := [(2, ((b : Int) + 12)), (2, p1), (0, 0), (0, 0)]) d_Planner_rankByDue_3 (by decide) rfl ?_
  exact e_forget (ls' := [(2, ((b : Int) + 12)), (2, p1), (0, 0), (0, 0)]) ⟨Or.inr rfl, Or.inr rfl, Or.inr rfl, Or.inr rfl, trivial⟩ h
set_option maxRecDepth 20000 in
set_option maxHeartbeats 4000000 in
theorem sg_Planner_rankByDue_4 {e : gE} {b : Nat} {m : Int} {Z : Int → gH → Prop} {kc ks : Nat} {G : gH} {p1 x2 x3 : Int} (h : (G 0 ((b : Int) + 13) 0 = 1) ∧ (((G 18 ((b : Int) + 13) 0) ≤ x3 → Z x2 G) ∧ (x3 < (G 18 ((b : Int) + 13) 0) → (G 0 (G 17 ((b : Int) + 13) 0) 0 = 103) ∧ ((0 ≤ x3 ∧ x3 < G 18 ((b : Int) + 13) 0) ∧ ((G 18 ((b : Int) + 13) 0 ≤ G 0 (G 17 ((b : Int) + 13) 0) 1) ∧ ((G 0 (G 3 (G 17 ((b : Int) + 13) 0) x3) 0 = 10) ∧ ((G 0 (G 3 (G 17 ((b : Int) + 13) 0) x3) 0 = 10) ∧ ((inI (G 603 (G 3 (G 17 ((b : Int) + 13) 0) x3) 0 + G 602 (G 3 (G 17 ((b : Int) + 13) 0) x3) 0)) ∧ ((G 0 p1 0 = 10) ∧ ((G 0 p1 0 = 10) ∧ ((inI (G 603 p1 0 + G 602 p1 0)) ∧ (((G 603 p1 0 + G 602 p1 0) < (G 603 (G 3 (G 17 ((b : Int) + 13) 0) x3) 0 + G 602 (G 3 (G 17 ((b : Int) + 13) 0) x3) 0) → (inI (x3 + 1)) ∧ EX e b m m_Planner_rankByDue Z kc ks 4 [(2, ((b : Int) + 12)), (2, p1), (0, x2), (0, (x3 + 1))] [] G) ∧ ((G 603 (G 3 (G 17 ((b : Int) + 13) 0) x3) 0 + G 602 (G 3 (G 17 ((b : Int) + 13) 0) x3) 0) ≤ (G 603 p1 0 + G 602 p1 0) → (inI (x3 + 1)) ∧ EX e b m m_Planner_rankByDue Z kc ks 4 [(2, ((b : Int) + 12)), (2, p1), (0, (x3 + 1)), (0, (x3 + 1))] [] G))))))))))))) : EX e b m m_Planner_rankByDue Z kc ks 4 [(2, ((b : Int) + 12)), (2, p1), (0, x2), (0, x3)] [] G := by
  refine e_iload_n d_Planner_rankByDue_4 rfl ?_
  refine e_aload_n d_Planner_rankByDue_5 rfl ?_
  refine gx_Planner_25 d_Planner_rankByDue_6 rfl ?_
  refine EV.inv fun hFf1 => ?_
  have f1 := (fx_ct 12 rfl hFf1).1
  obtain ⟨o2, h⟩ := h
  refine e_callV m_AL_size 0 lw_good d_Planner_rankByDue_9 (k_AL_size _) ⟨Nat.le_of_ble_eq_true rfl, Nat.le_of_ble_eq_true rfl⟩ w_635 w_330 w_331 (q_AL _) rfl f1 (args := []) rfl rfl (Nat.le_of_ble_eq_true rfl) (kc' := kc) (ks' := ks) (mc := 0) (ms := 0) rfl rfl (c_AL_size o2) (pureK ?_)
  refine e_icmp_ge (tgt := 46) d_Planner_rankByDue_12 (by decide) (fun q3 => ?_) (fun q4 => ?_)
  · have h := h.1 q3
    refine e_iload_n d_Planner_rankByDue_46 rfl ?_
    exact e_iret d_Planner_rankByDue_47 rfl h
  · have h := h.2 q4
    refine e_aload_n d_Planner_rankByDue_15 rfl ?_
    refine gx_Planner_25 d_Planner_rankByDue_16 rfl ?_
    refine e_iload_n d_Planner_rankByDue_19 rfl ?_
    refine EV.inv fun hFf5 => ?_
    have f5 := (fx_ct 12 rfl hFf5).1
    obtain ⟨o6, o7, o8, h⟩ := h
    refine e_callV m_AL_get 0 lw_good d_Planner_rankByDue_20 (k_AL_get _) ⟨Nat.le_of_ble_eq_true rfl, Nat.le_of_ble_eq_true rfl⟩ w_636 w_607 w_608 (q_AL _) rfl f5 (args := [(0, x3)]) rfl rfl (Nat.le_of_ble_eq_true rfl) (kc' := kc) (ks' := ks) (mc := 0) (ms := 0) rfl rfl (c_AL_get o2 o6 o7 o8) (pureK ?_)
    obtain ⟨o9, h⟩ := h
    refine e_cast 9 d_Planner_rankByDue_23 (q_Thing _) w_637 (Or.inr o9) ?_
    obtain ⟨o10, o11, h⟩ := h
    refine e_callV m_Thing_due 9 lw_good d_Planner_rankByDue_26 (k_Thing_due _) ⟨Nat.le_of_ble_eq_true rfl, Nat.le_of_ble_eq_true rfl⟩ w_661 w_662 w_663 (q_Thing _) rfl o9 (args := []) rfl rfl (Nat.le_of_ble_eq_true rfl) (kc' := kc) (ks' := ks) (mc := 0) (ms := 0) rfl rfl (c_Thing_due o10 o11) (pureK ?_)
    refine e_aload_n d_Planner_rankByDue_29 rfl ?_
    obtain ⟨o12, o13, o14, h⟩ := h
    refine e_callV m_Thing_due 9 lw_good d_Planner_rankByDue_30 (k_Thing_due _) ⟨Nat.le_of_ble_eq_true rfl, Nat.le_of_ble_eq_true rfl⟩ w_661 w_662 w_663 (q_Thing _) rfl o12 (args := []) rfl rfl (Nat.le_of_ble_eq_true rfl) (kc' := kc) (ks' := ks) (mc := 0) (ms := 0) rfl rfl (c_Thing_due o13 o14) (pureK ?_)
    refine e_icmp_gt (tgt := 40) d_Planner_rankByDue_33 (by decide) (fun q15 => ?_) (fun q16 => ?_)
    · have h := h.1 q15
      obtain ⟨o18, h⟩ := h
      refine e_iinc (ls' := [(2, ((b : Int) + 12)), (2, p1), (0, x2), (0, (x3 + 1))]) d_Planner_rankByDue_40 rfl (by decide) o18 rfl ?_
      refine e_goto (tgt := 4) d_Planner_rankByDue_43 (by decide) ?_
      exact e_forget (ls' := [(2, ((b : Int) + 12)), (2, p1), (0, x2), (0, (x3 + 1))]) ⟨Or.inr rfl, Or.inr rfl, Or.inr rfl, Or.inr rfl, trivial⟩ h
    · have h := h.2 q16
      refine e_iload_n d_Planner_rankByDue_36 rfl ?_
      refine e_iconst d_Planner_rankByDue_37 (by decide) ?_
      obtain ⟨o17, h⟩ := h
      refine e_iadd d_Planner_rankByDue_38 o17 ?_
      refine e_istore_n (ls' := [(2, ((b : Int) + 12)), (2, p1), (0, (x3 + 1)), (0, x3)]) d_Planner_rankByDue_39 (by decide) rfl ?_
      refine e_iinc (ls' := [(2, ((b : Int) + 12)), (2, p1), (0, (x3 + 1)), (0, (x3 + 1))]) d_Planner_rankByDue_40 rfl (by decide) o17 rfl ?_
      refine e_goto (tgt := 4) d_Planner_rankByDue_43 (by decide) ?_
      exact e_forget (ls' := [(2, ((b : Int) + 12)), (2, p1), (0, (x3 + 1)), (0, (x3 + 1))]) ⟨Or.inr rfl, Or.inr rfl, Or.inr rfl, Or.inr rfl, trivial⟩ h
set_option maxRecDepth 20000 in
set_option maxHeartbeats 4000000 in
theorem sg_Planner_rankByRate_0 {e : gE} {b : Nat} {m : Int} {Z : Int → gH → Prop} {kc ks : Nat} {G : gH} {p1 : Int} (h : EX e b m m_Planner_rankByRate Z kc ks 4 [(2, ((b : Int) + 12)), (2, p1), (0, 0), (0, 0)] [] G) : EX e b m m_Planner_rankByRate Z kc ks 0 [(2, ((b : Int) + 12)), (2, p1), (9, 0), (9, 0)] [] G := by
  refine e_iconst d_Planner_rankByRate_0 (by decide) ?_
  refine e_istore_n (ls' := [(2, ((b : Int) + 12)), (2, p1), (0, 0), (9, 0)]) d_Planner_rankByRate_1 (by decide) rfl ?_
  refine e_iconst d_Planner_rankByRate_2 (by decide) ?_
  refine e_istore_n (ls' := [(2, ((b : Int) + 12)), (2, p1), (0, 0), (0, 0)]) d_Planner_rankByRate_3 (by decide) rfl ?_
  exact e_forget (ls' := [(2, ((b : Int) + 12)), (2, p1), (0, 0), (0, 0)]) ⟨Or.inr rfl, Or.inr rfl, Or.inr rfl, Or.inr rfl, trivial⟩ h
set_option maxRecDepth 20000 in
set_option maxHeartbeats 4000000 in
theorem sg_Planner_rankByRate_4 {e : gE} {b : Nat} {m : Int} {Z : Int → gH → Prop} {kc ks : Nat} {G : gH} {p1 x2 x3 : Int} (h : (G 0 ((b : Int) + 14) 0 = 1) ∧ (((G 18 ((b : Int) + 14) 0) ≤ x3 → Z x2 G) ∧ (x3 < (G 18 ((b : Int) + 14) 0) → (G 0 (G 17 ((b : Int) + 14) 0) 0 = 103) ∧ ((0 ≤ x3 ∧ x3 < G 18 ((b : Int) + 14) 0) ∧ ((G 18 ((b : Int) + 14) 0 ≤ G 0 (G 17 ((b : Int) + 14) 0) 1) ∧ ((G 0 (G 3 (G 17 ((b : Int) + 14) 0) x3) 0 = 10) ∧ ((G 0 (G 3 (G 17 ((b : Int) + 14) 0) x3) 0 = 10) ∧ ((0 ≤ G 594 (G 3 (G 17 ((b : Int) + 14) 0) x3) 0 ∧ G 594 (G 3 (G 17 ((b : Int) + 14) 0) x3) 0 ≤ 1000000) ∧ ((G 0 p1 0 = 10) ∧ ((G 0 p1 0 = 10) ∧ ((0 ≤ G 594 p1 0 ∧ G 594 p1 0 ≤ 1000000) ∧ (((if 0 < G 602 (G 3 (G 17 ((b : Int) + 14) 0) x3) 0 then G 594 (G 3 (G 17 ((b : Int) + 14) 0) x3) 0 * 1000 / G 602 (G 3 (G 17 ((b : Int) + 14) 0) x3) 0 else 0) < (if 0 < G 602 p1 0 then G 594 p1 0 * 1000 / G 602 p1 0 else 0) → (inI (x3 + 1)) ∧ EX e b m m_Planner_rankByRate Z kc ks 4 [(2, ((b : Int) + 12)), (2, p1), (0, x2), (0, (x3 + 1))] [] G) ∧ ((if 0 < G 602 p1 0 then G 594 p1 0 * 1000 / G 602 p1 0 else 0) ≤ (if 0 < G 602 (G 3 (G 17 ((b : Int) + 14) 0) x3) 0 then G 594 (G 3 (G 17 ((b : Int) + 14) 0) x3) 0 * 1000 / G 602 (G 3 (G 17 ((b : Int) + 14) 0) x3) 0 else 0) → (inI (x3 + 1)) ∧ EX e b m m_Planner_rankByRate Z kc ks 4 [(2, ((b : Int) + 12)), (2, p1), (0, (x3 + 1)), (0, (x3 + 1))] [] G))))))))))))) : EX e b m m_Planner_rankByRate Z kc ks 4 [(2, ((b : Int) + 12)), (2, p1), (0, x2), (0, x3)] [] G := by
  refine e_iload_n d_Planner_rankByRate_4 rfl ?_
  refine e_aload_n d_Planner_rankByRate_5 rfl ?_
  refine gx_Planner_28 d_Planner_rankByRate_6 rfl ?_
  refine EV.inv fun hFf1 => ?_
  have f1 := (fx_ct 13 rfl hFf1).1
  obtain ⟨o2, h⟩ := h
  refine e_callV m_AL_size 0 lw_good d_Planner_rankByRate_9 (k_AL_size _) ⟨Nat.le_of_ble_eq_true rfl, Nat.le_of_ble_eq_true rfl⟩ w_635 w_330 w_331 (q_AL _) rfl f1 (args := []) rfl rfl (Nat.le_of_ble_eq_true rfl) (kc' := kc) (ks' := ks) (mc := 0) (ms := 0) rfl rfl (c_AL_size o2) (pureK ?_)
  refine e_icmp_ge (tgt := 46) d_Planner_rankByRate_12 (by decide) (fun q3 => ?_) (fun q4 => ?_)
  · have h := h.1 q3
    refine e_iload_n d_Planner_rankByRate_46 rfl ?_
    exact e_iret d_Planner_rankByRate_47 rfl h
  · have h := h.2 q4
    refine e_aload_n d_Planner_rankByRate_15 rfl ?_
    refine gx_Planner_28 d_Planner_rankByRate_16 rfl ?_
    refine e_iload_n d_Planner_rankByRate_19 rfl ?_
    refine EV.inv fun hFf5 => ?_
    have f5 := (fx_ct 13 rfl hFf5).1
    obtain ⟨o6, o7, o8, h⟩ := h
    refine e_callV m_AL_get 0 lw_good d_Planner_rankByRate_20 (k_AL_get _) ⟨Nat.le_of_ble_eq_true rfl, Nat.le_of_ble_eq_true rfl⟩ w_636 w_607 w_608 (q_AL _) rfl f5 (args := [(0, x3)]) rfl rfl (Nat.le_of_ble_eq_true rfl) (kc' := kc) (ks' := ks) (mc := 0) (ms := 0) rfl rfl (c_AL_get o2 o6 o7 o8) (pureK ?_)
    obtain ⟨o9, h⟩ := h
    refine e_cast 9 d_Planner_rankByRate_23 (q_Thing _) w_637 (Or.inr o9) ?_
    obtain ⟨o10, o11, h⟩ := h
    refine e_callV m_Thing_rate 9 lw_good d_Planner_rankByRate_26 (k_Thing_rate _) ⟨Nat.le_of_ble_eq_true rfl, Nat.le_of_ble_eq_true rfl⟩ w_678 w_679 w_680 (q_Thing _) rfl o9 (args := []) rfl rfl (Nat.le_of_ble_eq_true rfl) (kc' := kc) (ks' := ks) (mc := 0) (ms := 0) rfl rfl (c_Thing_rate o10 o11) (pureK ?_)
    refine e_aload_n d_Planner_rankByRate_29 rfl ?_
    obtain ⟨o12, o13, o14, h⟩ := h
    refine e_callV m_Thing_rate 9 lw_good d_Planner_rankByRate_30 (k_Thing_rate _) ⟨Nat.le_of_ble_eq_true rfl, Nat.le_of_ble_eq_true rfl⟩ w_678 w_679 w_680 (q_Thing _) rfl o12 (args := []) rfl rfl (Nat.le_of_ble_eq_true rfl) (kc' := kc) (ks' := ks) (mc := 0) (ms := 0) rfl rfl (c_Thing_rate o13 o14) (pureK ?_)
    refine e_icmp_lt (tgt := 40) d_Planner_rankByRate_33 (by decide) (fun q15 => ?_) (fun q16 => ?_)
    · have h := h.1 q15
      obtain ⟨o18, h⟩ := h
      refine e_iinc (ls' := [(2, ((b : Int) + 12)), (2, p1), (0, x2), (0, (x3 + 1))]) d_Planner_rankByRate_40 rfl (by decide) o18 rfl ?_
      refine e_goto (tgt := 4) d_Planner_rankByRate_43 (by decide) ?_
      exact e_forget (ls' := [(2, ((b : Int) + 12)), (2, p1), (0, x2), (0, (x3 + 1))]) ⟨Or.inr rfl, Or.inr rfl, Or.inr rfl, Or.inr rfl, trivial⟩ h
    · have h := h.2 q16
      refine e_iload_n d_Planner_rankByRate_36 rfl ?_
      refine e_iconst d_Planner_rankByRate_37 (by decide) ?_
      obtain ⟨o17, h⟩ := h
      refine e_iadd d_Planner_rankByRate_38 o17 ?_
      refine e_istore_n (ls' := [(2, ((b : Int) + 12)), (2, p1), (0, (x3 + 1)), (0, x3)]) d_Planner_rankByRate_39 (by decide) rfl ?_
      refine e_iinc (ls' := [(2, ((b : Int) + 12)), (2, p1), (0, (x3 + 1)), (0, (x3 + 1))]) d_Planner_rankByRate_40 rfl (by decide) o17 rfl ?_
      refine e_goto (tgt := 4) d_Planner_rankByRate_43 (by decide) ?_
      exact e_forget (ls' := [(2, ((b : Int) + 12)), (2, p1), (0, (x3 + 1)), (0, (x3 + 1))]) ⟨Or.inr rfl, Or.inr rfl, Or.inr rfl, Or.inr rfl, trivial⟩ h
/-- of a thing changed are the measures of its job -/
def zMs (a : Int) (G G1 : gH) : Prop := ∀ (c : Nat) (i j : Int), ¬ (i = a ∧ (c = 602 ∨ c = 603 ∨ c = 601)) → G1 c i j = G c i j
theorem c_Thing_measure {e : gE} {b : Nat} {m : Int} {G : gH} {a p1 p2 : Int} (h : G 0 a 0 = 10) (hb : (b : Int) < a) : GX e b m m_Thing_measure [(2, a), (0, p1), (0, p2)] G 0 0 (fun _ G1 => zMs a G G1 ∧ G1 602 a 0 = p1 ∧ G1 603 a 0 = p2 ∧ G1 601 a 0 = -1) := by
  refine GM.ofEV (by decide) (Nat.le_of_ble_eq_true rfl) (sg_Thing_measure_0 h ⟨hb, ?_⟩)
  rintro _ rfl _ rfl _ rfl
  refine ⟨fun c i j z => by rw [gU_ne (by omega), gU_ne (by omega), gU_ne (by omega)], ?_, ?_, gU_eq⟩
  · rw [gU_c _ (by decide), gU_c _ (by decide), gU_eq]
  · rw [gU_c _ (by decide), gU_eq]
theorem c_House_measure {e : gE} {b : Nat} {m : Int} {G : gH} {A : zA} {a t : Int} (h : G 0 a 0 = 10) (hb : (b : Int) < a) (hB : zB 512 A) (hI : zIr A) (hWf : zWf A) (hph : A 788 0 = 1) (ht : zTh A t) (hi : zIn A t) (hr : G 596 a 0 = A 11 t - 100) (hp : G 597 a 0 = A 10 t) (r1 : zR1 b G A) : GX e b m m_House_measure [(2, ((b : Int) + 3)), (2, a), (0, A 790 0)] G 0 0 (fun v G1 => (zFar A t = -1 ∧ v = 0 ∧ G1 = G) ∨ (zFar A t ≠ -1 ∧ v = 1 ∧ zMs a G G1 ∧ G1 602 a 0 = zLen A t ∧ G1 603 a 0 = zLat A t ∧ G1 601 a 0 = -1)) := by
  have b0 : 0 ≤ A 785 0 ∧ A 785 0 ≤ 16 := hB 785 0
  have hw := hI t ht.1 (by have := ht.2; omega) hi
  have rr : 0 ≤ A 11 t - 100 ∧ A 11 t - 100 < 12 := by omega
  have w := r1.2.1 _ rr.1 rr.2
  have ef : zWay A (A 11 t - 100) = zFar A t := (hWf.2 (Or.inr (by omega)) _ rr.1 rr.2).symm
  have bf : -1 ≤ zFar A t ∧ zFar A t ≤ 99 := hB 6 (A 11 t - 100)
  have bp : 0 ≤ A 10 t ∧ A 10 t ≤ 20 := hB 10 t
  have bd : -1 ≤ A 5 (A 11 t - 100) ∧ A 5 (A 11 t - 100) ≤ 240 := hB 5 _
  have be : 0 ≤ A 790 0 ∧ A 790 0 ≤ 240 := hB 790 0
  have ed : A 5 (A 11 t - 100) = zDng A t := rfl
  have el : zLen A t = if 1 < 2 * zFar A t + A 10 t then 2 * zFar A t + A 10 t else 1 := by
    unfold zLen
    (repeat' split) <;> omega
  have bl : 1 ≤ zLen A t ∧ zLen A t ≤ 300 := by
    rw [el]
    split <;> omega
  refine GM.ofEV (by decide) (Nat.le_of_ble_eq_true rfl) (sg_House_measure_0 ?_)
  rw [hr, hp, w.1, w.2, ef, ed, ← el]
  rw [ed] at bd
  refine ⟨⟨h, h, fun q1 => ⟨⟨by omega, by omega⟩, fun q2 => ⟨by omega, by omega, by omega, fun q3 => ?_, fun q3 => ⟨by omega, by omega, ?_⟩⟩⟩⟩, fun q => ?_⟩
  · refine GM.mono (c_Thing_measure h hb) ?_
    rintro _ G1 ⟨k1, k2, k3, k4⟩
    refine Or.inr ⟨q2, rfl, k1, k2, ?_, k4⟩
    rw [k3]
    unfold zLat
    rw [if_neg (fun z => z.1 q3)]
  · refine GM.mono (c_Thing_measure h hb) ?_
    rintro _ G1 ⟨k1, k2, k3, k4⟩
    refine Or.inr ⟨q2, rfl, k1, k2, ?_, k4⟩
    rw [k3]
    unfold zLat
    (repeat' split) <;> omega
  · refine Or.inl ⟨?_, rfl, rfl⟩
    rcases q with q | q <;> omega
theorem zAL_g {e : gE} {b : Nat} {m : Int} {G : gH} {a tg n i : Int} {f : Int → Int} (h : zAL e b m G a tg n f) (hi : 0 ≤ i ∧ i < n) : G 0 (G 17 a 0) 0 = 103 ∧ n ≤ G 0 (G 17 a 0) 1 ∧ G 3 (G 17 a 0) i = f i ∧ G 0 (f i) 0 = tg := by
  refine ⟨?_, ?_, ?_, h.2.2.1 i hi.1 hi.2⟩
  all_goals
    rcases h.2.2.2 with w | w
    · omega
    · first | exact w.2.1 | exact w.2.2.1.2.1 | exact w.2.2.2 i hi.1 hi.2
theorem c_rankByDue {e : gE} {b : Nat} {m : Int} {G : gH} {n a d : Int} {f D : Int → Int} (hl : zAL e b m G ((b : Int) + 13) 10 n f) (hn : 0 ≤ n ∧ n ≤ 16) (ha : G 0 a 0 = 10) (hd : G 603 a 0 + G 602 a 0 = d) (hD : ∀ i, 0 ≤ i → i < n → G 603 (f i) 0 + G 602 (f i) 0 = D i) (bd : -2000 ≤ d ∧ d ≤ 2000) (bD : ∀ i, 0 ≤ i → i < n → -2000 ≤ D i ∧ D i ≤ 2000) (hs : ∀ i j, 0 ≤ i → i ≤ j → j < n → D i ≤ D j) : GX e b m m_Planner_rankByDue [(2, ((b : Int) + 12)), (2, a)] G 0 0 (fun v G1 => G1 = G ∧ (0 ≤ v ∧ v ≤ n) ∧ (∀ i, 0 ≤ i → i < v → D i ≤ d) ∧ ∀ i, v ≤ i → i < n → d < D i) := by
  refine GM.ofEV (by decide) (Nat.le_of_ble_eq_true rfl) (sg_Planner_rankByDue_0 ?_)
  refine zloop (P := fun i => ∀ x, (0 ≤ x ∧ x ≤ i) → (∀ j, 0 ≤ j → j < x → D j ≤ d) → (∀ j, x ≤ j → j < i → d < D j) → EX e b m m_Planner_rankByDue _ 0 0 4 [(2, ((b : Int) + 12)), (2, a), (0, x), (0, i)] [] G) (i := 0) n hn.1 ?_ ?_ 0 (by decide) (fun j j1 j2 => by omega) (fun j j1 j2 => by omega)
  · intro x x1 x2 x3
    refine sg_Planner_rankByDue_4 ⟨hl.1, ?_⟩
    rw [hl.2.1]
    exact ⟨fun _ => ⟨rfl, x1, x2, x3⟩, fun z => by omega⟩
  · intro j j1 j2 st x x1 x2 x3
    have w := zAL_g hl ⟨j1, j2⟩
    have e1 := hD j j1 j2
    have e2 := bD j j1 j2
    refine sg_Planner_rankByDue_4 ⟨hl.1, ?_⟩
    rw [hl.2.1, w.2.2.1, hd, e1]
    refine ⟨fun z => by omega, fun _ => ⟨w.1, ⟨j1, j2⟩, w.2.1, w.2.2.2, w.2.2.2, by omega, ha, ha, by omega, fun q => ⟨by omega, ?_⟩, fun q => ⟨by omega, ?_⟩⟩⟩
    · exact st x ⟨x1.1, by omega⟩ x2 (fun i i1 i2 => by
        by_cases z : i = j
        · rw [z]; exact q
        · exact x3 i i1 (by omega))
    · exact st (j + 1) ⟨by omega, Int.le_refl _⟩ (fun i i1 i2 => by
        have := hs i j i1 (by omega) j2
        omega) (fun i i1 i2 => by omega)
theorem c_rankByRate {e : gE} {b : Nat} {m : Int} {G : gH} {n a d : Int} {f D : Int → Int} (hl : zAL e b m G ((b : Int) + 14) 10 n f) (hn : 0 ≤ n ∧ n ≤ 16) (ha : G 0 a 0 = 10) (hd : 0 < G 602 a 0 ∧ -(G 594 a 0 * 1000 / G 602 a 0) = d) (hD : ∀ i, 0 ≤ i → i < n → 0 < G 602 (f i) 0 ∧ -(G 594 (f i) 0 * 1000 / G 602 (f i) 0) = D i) (bd : 0 ≤ G 594 a 0 ∧ G 594 a 0 ≤ 100) (bD : ∀ i, 0 ≤ i → i < n → 0 ≤ G 594 (f i) 0 ∧ G 594 (f i) 0 ≤ 100) (hs : ∀ i j, 0 ≤ i → i ≤ j → j < n → D i ≤ D j) : GX e b m m_Planner_rankByRate [(2, ((b : Int) + 12)), (2, a)] G 0 0 (fun v G1 => G1 = G ∧ (0 ≤ v ∧ v ≤ n) ∧ (∀ i, 0 ≤ i → i < v → D i ≤ d) ∧ ∀ i, v ≤ i → i < n → d < D i) := by
  refine GM.ofEV (by decide) (Nat.le_of_ble_eq_true rfl) (sg_Planner_rankByRate_0 ?_)
  refine zloop (P := fun i => ∀ x, (0 ≤ x ∧ x ≤ i) → (∀ j, 0 ≤ j → j < x → D j ≤ d) → (∀ j, x ≤ j → j < i → d < D j) → EX e b m m_Planner_rankByRate _ 0 0 4 [(2, ((b : Int) + 12)), (2, a), (0, x), (0, i)] [] G) (i := 0) n hn.1 ?_ ?_ 0 (by decide) (fun j j1 j2 => by omega) (fun j j1 j2 => by omega)
  · intro x x1 x2 x3
    refine sg_Planner_rankByRate_4 ⟨hl.1, ?_⟩
    rw [hl.2.1]
    exact ⟨fun _ => ⟨rfl, x1, x2, x3⟩, fun z => by omega⟩
  · intro j j1 j2 st x x1 x2 x3
    have w := zAL_g hl ⟨j1, j2⟩
    have e1 := hD j j1 j2
    have e2 := bD j j1 j2
    refine sg_Planner_rankByRate_4 ⟨hl.1, ?_⟩
    rw [hl.2.1, w.2.2.1, if_pos hd.1, if_pos e1.1]
    refine ⟨fun z => by omega, fun _ => ⟨w.1, ⟨j1, j2⟩, w.2.1, w.2.2.2, w.2.2.2, by omega, ha, ha, by omega, fun q => ⟨by omega, ?_⟩, fun q => ⟨by omega, ?_⟩⟩⟩
    · exact st x ⟨x1.1, by omega⟩ x2 (fun i i1 i2 => by
        by_cases z : i = j
        · rw [z]; omega
        · exact x3 i i1 (by omega))
    · exact st (j + 1) ⟨by omega, Int.le_refl _⟩ (fun i i1 i2 => by
        have := hs i j i1 (by omega) j2
        omega) (fun i i1 i2 => by omega)
