/-! THE CLASS, 41: calls that make a plan -/
set_option maxRecDepth 20000 in
set_option maxHeartbeats 4000000 in
theorem sg_Hours_makePlan_0 {e : gE} {b : Nat} {m : Int} {Z : Int → gH → Prop} {kc ks : Nat} {G : gH} (h : ((G 85 ((b : Int) + 10) 0) = 0 → ∃ kc31 ks32 mc33 ms34 : Nat, kc = kc31 + mc33 ∧ ks = ks32 + ms34 ∧ GX e b m m_Planner_makeByRule [(2, ((b : Int) + 12)), (0, (G 83 ((b : Int) + 10) 0)), (0, (G 84 ((b : Int) + 10) 0))] G mc33 ms34 (fun v29 G30 => GX e b m m_Planner_takeAsThePlan [(2, ((b : Int) + 12))] G30 0 0 (fun _ G37 => Z v29 G37))) ∧ ((G 85 ((b : Int) + 10) 0) ≠ 0 → GX e b m m_Hours_inRooms [(2, ((b : Int) + 10))] G 0 0 (fun v4 G5 => (8 < v4 → ∃ kc21 ks22 mc23 ms24 : Nat, kc = kc21 + mc23 ∧ ks = ks22 + ms24 ∧ GX e b m m_Planner_makeByRule [(2, ((b : Int) + 12)), (0, (G5 83 ((b : Int) + 10) 0)), (0, (G5 84 ((b : Int) + 10) 0))] G5 mc23 ms24 (fun v19 G20 => GX e b m m_Planner_takeAsThePlan [(2, ((b : Int) + 12))] G20 0 0 (fun _ G27 => Z v19 G27))) ∧ (v4 ≤ 8 → ∃ kc11 ks12 mc13 ms14 : Nat, kc = kc11 + mc13 ∧ ks = ks12 + ms14 ∧ GX e b m m_Planner_makeByBest [(2, ((b : Int) + 12)), (0, (G5 83 ((b : Int) + 10) 0)), (0, (G5 84 ((b : Int) + 10) 0))] G5 mc13 ms14 (fun v9 G10 => GX e b m m_Planner_takeAsThePlan [(2, ((b : Int) + 12))] G10 0 0 (fun _ G17 => Z v9 G17)))))) : EX e b m m_Hours_makePlan Z kc ks 0 [(2, ((b : Int) + 10)), (9, 0)] [] G := by
  refine e_aload_n d_Hours_makePlan_0 rfl ?_
  refine gx_Hours_53 d_Hours_makePlan_1 rfl ?_
  refine e_if_eq (tgt := 34) d_Hours_makePlan_4 (by decide) (fun q1 => ?_) (fun q2 => ?_)
  · have h := h.1 q1
    refine e_aload_n d_Hours_makePlan_34 rfl ?_
    refine gx_Hours_26 d_Hours_makePlan_35 rfl ?_
    refine e_aload_n d_Hours_makePlan_38 rfl ?_
    refine gx_Hours_43 d_Hours_makePlan_39 rfl ?_
    refine e_aload_n d_Hours_makePlan_42 rfl ?_
    refine gx_Hours_47 d_Hours_makePlan_43 rfl ?_
    refine EV.inv fun hFf28 => ?_
    have f28 := (fx_ct 11 rfl hFf28).1
    obtain ⟨kc31, ks32, mc33, ms34, hkc31, hks32, h⟩ := h
    refine e_callV m_Planner_makeByRule 5 lw_good d_Hours_makePlan_46 (k_Planner_makeByRule _) ⟨Nat.le_of_ble_eq_true rfl, Nat.le_of_ble_eq_true rfl⟩ w_762 w_763 w_764 (q_Planner _) rfl f28 (args := [(0, (G 83 ((b : Int) + 10) 0)), (0, (G 84 ((b : Int) + 10) 0))]) rfl rfl (Nat.le_of_ble_eq_true rfl) (kc' := kc31) (ks' := ks32) (mc := mc33) (ms := ms34) hkc31 hks32 h ?_
    intro v29 G30 h
    refine e_istore_n (ls' := [(2, ((b : Int) + 10)), (0, v29)]) d_Hours_makePlan_49 (by decide) rfl ?_
    refine e_aload_n d_Hours_makePlan_50 rfl ?_
    refine gx_Hours_26 d_Hours_makePlan_51 rfl ?_
    refine EV.inv fun hFf35 => ?_
    have f35 := (fx_ct 11 rfl hFf35).1
    refine e_callV m_Planner_takeAsThePlan 5 lw_good d_Hours_makePlan_54 (k_Planner_takeAsThePlan _) ⟨Nat.le_of_ble_eq_true rfl, Nat.le_of_ble_eq_true rfl⟩ w_778 w_779 w_780 (q_Planner _) rfl f35 (args := []) rfl rfl (Nat.le_of_ble_eq_true rfl) (kc' := kc31) (ks' := ks32) (mc := 0) (ms := 0) rfl rfl h ?_
    intro v36 G37 h
    refine e_iload_n d_Hours_makePlan_57 rfl ?_
    exact e_iret d_Hours_makePlan_58 rfl h
  · have h := h.2 q2
    refine e_aload_n d_Hours_makePlan_7 rfl ?_
    refine EV.inv fun hFf3 => ?_
    have f3 := (fx_ct 9 rfl hFf3).1
    refine e_callV m_Hours_inRooms 1 lw_good d_Hours_makePlan_8 (k_Hours_inRooms _) ⟨Nat.le_of_ble_eq_true rfl, Nat.le_of_ble_eq_true rfl⟩ w_602 w_604 w_s13 (q_Hours _) rfl f3 (args := []) rfl rfl (Nat.le_of_ble_eq_true rfl) (kc' := kc) (ks' := ks) (mc := 0) (ms := 0) rfl rfl h ?_
    intro v4 G5 h
    refine e_bipush d_Hours_makePlan_11 (by decide) (by decide) ?_
    refine e_icmp_gt (tgt := 34) d_Hours_makePlan_13 (by decide) (fun q6 => ?_) (fun q7 => ?_)
    · have h := h.1 q6
      refine e_aload_n d_Hours_makePlan_34 rfl ?_
      refine gx_Hours_26 d_Hours_makePlan_35 rfl ?_
      refine e_aload_n d_Hours_makePlan_38 rfl ?_
      refine gx_Hours_43 d_Hours_makePlan_39 rfl ?_
      refine e_aload_n d_Hours_makePlan_42 rfl ?_
      refine gx_Hours_47 d_Hours_makePlan_43 rfl ?_
      refine EV.inv fun hFf18 => ?_
      have f18 := (fx_ct 11 rfl hFf18).1
      obtain ⟨kc21, ks22, mc23, ms24, hkc21, hks22, h⟩ := h
      refine e_callV m_Planner_makeByRule 5 lw_good d_Hours_makePlan_46 (k_Planner_makeByRule _) ⟨Nat.le_of_ble_eq_true rfl, Nat.le_of_ble_eq_true rfl⟩ w_762 w_763 w_764 (q_Planner _) rfl f18 (args := [(0, (G5 83 ((b : Int) + 10) 0)), (0, (G5 84 ((b : Int) + 10) 0))]) rfl rfl (Nat.le_of_ble_eq_true rfl) (kc' := kc21) (ks' := ks22) (mc := mc23) (ms := ms24) hkc21 hks22 h ?_
      intro v19 G20 h
      refine e_istore_n (ls' := [(2, ((b : Int) + 10)), (0, v19)]) d_Hours_makePlan_49 (by decide) rfl ?_
      refine e_aload_n d_Hours_makePlan_50 rfl ?_
      refine gx_Hours_26 d_Hours_makePlan_51 rfl ?_
      refine EV.inv fun hFf25 => ?_
      have f25 := (fx_ct 11 rfl hFf25).1
      refine e_callV m_Planner_takeAsThePlan 5 lw_good d_Hours_makePlan_54 (k_Planner_takeAsThePlan _) ⟨Nat.le_of_ble_eq_true rfl, Nat.le_of_ble_eq_true rfl⟩ w_778 w_779 w_780 (q_Planner _) rfl f25 (args := []) rfl rfl (Nat.le_of_ble_eq_true rfl) (kc' := kc21) (ks' := ks22) (mc := 0) (ms := 0) rfl rfl h ?_
      intro v26 G27 h
      refine e_iload_n d_Hours_makePlan_57 rfl ?_
      exact e_iret d_Hours_makePlan_58 rfl h
    · have h := h.2 q7
      refine e_aload_n d_Hours_makePlan_16 rfl ?_
      refine gx_Hours_26 d_Hours_makePlan_17 rfl ?_
      refine e_aload_n d_Hours_makePlan_20 rfl ?_
      refine gx_Hours_43 d_Hours_makePlan_21 rfl ?_
      refine e_aload_n d_Hours_makePlan_24 rfl ?_
      refine gx_Hours_47 d_Hours_makePlan_25 rfl ?_
      refine EV.inv fun hFf8 => ?_
      have f8 := (fx_ct 11 rfl hFf8).1
      obtain ⟨kc11, ks12, mc13, ms14, hkc11, hks12, h⟩ := h
      refine e_callV m_Planner_makeByBest 5 lw_good d_Hours_makePlan_28 (k_Planner_makeByBest _) ⟨Nat.le_of_ble_eq_true rfl, Nat.le_of_ble_eq_true rfl⟩ w_623 w_624 w_625 (q_Planner _) rfl f8 (args := [(0, (G5 83 ((b : Int) + 10) 0)), (0, (G5 84 ((b : Int) + 10) 0))]) rfl rfl (Nat.le_of_ble_eq_true rfl) (kc' := kc11) (ks' := ks12) (mc := mc13) (ms := ms14) hkc11 hks12 h ?_
      intro v9 G10 h
      refine e_goto (tgt := 49) d_Hours_makePlan_31 (by decide) ?_
      refine e_istore_n (ls' := [(2, ((b : Int) + 10)), (0, v9)]) d_Hours_makePlan_49 (by decide) rfl ?_
      refine e_aload_n d_Hours_makePlan_50 rfl ?_
      refine gx_Hours_26 d_Hours_makePlan_51 rfl ?_
      refine EV.inv fun hFf15 => ?_
      have f15 := (fx_ct 11 rfl hFf15).1
      refine e_callV m_Planner_takeAsThePlan 5 lw_good d_Hours_makePlan_54 (k_Planner_takeAsThePlan _) ⟨Nat.le_of_ble_eq_true rfl, Nat.le_of_ble_eq_true rfl⟩ w_778 w_779 w_780 (q_Planner _) rfl f15 (args := []) rfl rfl (Nat.le_of_ble_eq_true rfl) (kc' := kc11) (ks' := ks12) (mc := 0) (ms := 0) rfl rfl h ?_
      intro v16 G17 h
      refine e_iload_n d_Hours_makePlan_57 rfl ?_
      exact e_iret d_Hours_makePlan_58 rfl h
set_option maxRecDepth 20000 in
set_option maxHeartbeats 4000000 in
theorem sg_Hours_ring_0 {e : gE} {b : Nat} {m : Int} {Z : Int → gH → Prop} {kc ks : Nat} {G : gH} {p1 : Int} (h : ∀ G1 : gH, G1 = gU G 84 ((b : Int) + 10) 0 p1 → ∃ kc5 ks6 mc7 ms8 : Nat, kc = kc5 + mc7 ∧ ks = ks6 + ms8 ∧ GX e b m m_Hours_makePlan [(2, ((b : Int) + 10))] G1 mc7 ms8 (fun v3 G4 => Z v3 G4)) : EX e b m m_Hours_ring Z kc ks 0 [(2, ((b : Int) + 10)), (0, p1)] [] G := by
  refine e_aload_n d_Hours_ring_0 rfl ?_
  refine e_iload_n d_Hours_ring_1 rfl ?_
  refine px_Hours_47 d_Hours_ring_2 rfl ?_
  let G1 : gH := gU G 84 ((b : Int) + 10) 0 p1
  have h := h G1 rfl
  refine e_aload_n d_Hours_ring_5 rfl ?_
  refine EV.inv fun hFf2 => ?_
  have f2 := (fx_ct 9 rfl hFf2).1
  obtain ⟨kc5, ks6, mc7, ms8, hkc5, hks6, h⟩ := h
  refine e_callV m_Hours_makePlan 1 lw_good d_Hours_ring_6 (k_Hours_makePlan _) ⟨Nat.le_of_ble_eq_true rfl, Nat.le_of_ble_eq_true rfl⟩ w_868 w_599 w_600 (q_Hours _) rfl f2 (args := []) rfl rfl (Nat.le_of_ble_eq_true rfl) (kc' := kc5) (ks' := ks6) (mc := mc7) (ms := ms8) hkc5 hks6 h ?_
  intro v3 G4 h
  exact e_iret d_Hours_ring_9 rfl h
set_option maxRecDepth 20000 in
set_option maxHeartbeats 4000000 in
theorem sg_Hours_planBy_0 {e : gE} {b : Nat} {m : Int} {Z : Int → gH → Prop} {kc ks : Nat} {G : gH} {p1 : Int} (h : (p1 = 0 ∨ p1 = 1) ∧ (∀ G2 : gH, G2 = gU G 85 ((b : Int) + 10) 0 p1 → ∃ kc6 ks7 mc8 ms9 : Nat, kc = kc6 + mc8 ∧ ks = ks7 + ms9 ∧ GX e b m m_Hours_makePlan [(2, ((b : Int) + 10))] G2 mc8 ms9 (fun v4 G5 => Z v4 G5))) : EX e b m m_Hours_planBy Z kc ks 0 [(2, ((b : Int) + 10)), (0, p1)] [] G := by
  refine e_aload_n d_Hours_planBy_0 rfl ?_
  refine e_iload_n d_Hours_planBy_1 rfl ?_
  obtain ⟨o1, h⟩ := h
  refine px_Hours_53 d_Hours_planBy_2 rfl o1 ?_
  let G2 : gH := gU G 85 ((b : Int) + 10) 0 p1
  have h := h G2 rfl
  refine e_aload_n d_Hours_planBy_5 rfl ?_
  refine EV.inv fun hFf3 => ?_
  have f3 := (fx_ct 9 rfl hFf3).1
  obtain ⟨kc6, ks7, mc8, ms9, hkc6, hks7, h⟩ := h
  refine e_callV m_Hours_makePlan 1 lw_good d_Hours_planBy_6 (k_Hours_makePlan _) ⟨Nat.le_of_ble_eq_true rfl, Nat.le_of_ble_eq_true rfl⟩ w_868 w_599 w_600 (q_Hours _) rfl f3 (args := []) rfl rfl (Nat.le_of_ble_eq_true rfl) (kc' := kc6) (ks' := ks7) (mc := mc8) (ms := ms9) hkc6 hks7 h ?_
  intro v4 G5 h
  exact e_iret d_Hours_planBy_9 rfl h
set_option maxRecDepth 20000 in
set_option maxHeartbeats 4000000 in
theorem sg_Hours_gapNow_0 {e : gE} {b : Nat} {m : Int} {Z : Int → gH → Prop} {kc ks : Nat} {G : gH} (h : ∃ kc4 ks5 mc6 ms7 : Nat, kc = kc4 + mc6 ∧ ks = ks5 + ms7 ∧ GX e b m m_Planner_makeByBest [(2, ((b : Int) + 12)), (0, (G 83 ((b : Int) + 10) 0)), (0, (G 84 ((b : Int) + 10) 0))] G mc6 ms7 (fun v2 G3 => ∃ kc11 ks12 mc13 ms14 : Nat, kc4 = kc11 + mc13 ∧ ks5 = ks12 + ms14 ∧ GX e b m m_Planner_makeByRule [(2, ((b : Int) + 12)), (0, (G3 83 ((b : Int) + 10) 0)), (0, (G3 84 ((b : Int) + 10) 0))] G3 mc13 ms14 (fun v9 G10 => (inI (v2 - v9)) ∧ Z (v2 - v9) G10))) : EX e b m m_Hours_gapNow Z kc ks 0 [(2, ((b : Int) + 10))] [] G := by
  refine e_aload_n d_Hours_gapNow_0 rfl ?_
  refine gx_Hours_26 d_Hours_gapNow_1 rfl ?_
  refine e_aload_n d_Hours_gapNow_4 rfl ?_
  refine gx_Hours_43 d_Hours_gapNow_5 rfl ?_
  refine e_aload_n d_Hours_gapNow_8 rfl ?_
  refine gx_Hours_47 d_Hours_gapNow_9 rfl ?_
  refine EV.inv fun hFf1 => ?_
  have f1 := (fx_ct 11 rfl hFf1).1
  obtain ⟨kc4, ks5, mc6, ms7, hkc4, hks5, h⟩ := h
  refine e_callV m_Planner_makeByBest 5 lw_good d_Hours_gapNow_12 (k_Planner_makeByBest _) ⟨Nat.le_of_ble_eq_true rfl, Nat.le_of_ble_eq_true rfl⟩ w_623 w_624 w_625 (q_Planner _) rfl f1 (args := [(0, (G 83 ((b : Int) + 10) 0)), (0, (G 84 ((b : Int) + 10) 0))]) rfl rfl (Nat.le_of_ble_eq_true rfl) (kc' := kc4) (ks' := ks5) (mc := mc6) (ms := ms7) hkc4 hks5 h ?_
  intro v2 G3 h
  refine e_aload_n d_Hours_gapNow_15 rfl ?_
  refine gx_Hours_26 d_Hours_gapNow_16 rfl ?_
  refine e_aload_n d_Hours_gapNow_19 rfl ?_
  refine gx_Hours_43 d_Hours_gapNow_20 rfl ?_
  refine e_aload_n d_Hours_gapNow_23 rfl ?_
  refine gx_Hours_47 d_Hours_gapNow_24 rfl ?_
  refine EV.inv fun hFf8 => ?_
  have f8 := (fx_ct 11 rfl hFf8).1
  obtain ⟨kc11, ks12, mc13, ms14, hkc11, hks12, h⟩ := h
  refine e_callV m_Planner_makeByRule 5 lw_good d_Hours_gapNow_27 (k_Planner_makeByRule _) ⟨Nat.le_of_ble_eq_true rfl, Nat.le_of_ble_eq_true rfl⟩ w_762 w_763 w_764 (q_Planner _) rfl f8 (args := [(0, (G3 83 ((b : Int) + 10) 0)), (0, (G3 84 ((b : Int) + 10) 0))]) rfl rfl (Nat.le_of_ble_eq_true rfl) (kc' := kc11) (ks' := ks12) (mc := mc13) (ms := ms14) hkc11 hks12 h ?_
  intro v9 G10 h
  obtain ⟨o15, h⟩ := h
  refine e_isub d_Hours_gapNow_30 o15 ?_
  exact e_iret d_Hours_gapNow_31 rfl h
set_option maxRecDepth 20000 in
set_option maxHeartbeats 4000000 in
theorem sg_Team_delay_0 {e : gE} {b : Nat} {m : Int} {Z : Int → gH → Prop} {kc ks : Nat} {G : gH} {a0 p1 p2 : Int} (t0 : G 0 a0 0 = 9) (h : (G 0 a0 0 = 9) ∧ ((inI ((if G 529 a0 0 < p1 then p1 else G 529 a0 0) + p2)) ∧ (((b : Int) < a0) ∧ (∀ G4 : gH, G4 = gU G 529 a0 0 ((if G 529 a0 0 < p1 then p1 else G 529 a0 0) + p2) → Z 0 G4)))) : EX e b m m_Team_delay Z kc ks 0 [(2, a0), (0, p1), (0, p2)] [] G := by
  refine e_aload_n d_Team_delay_0 rfl ?_
  refine e_aload_n d_Team_delay_1 rfl ?_
  refine e_iload_n d_Team_delay_2 rfl ?_
  obtain ⟨o1, h⟩ := h
  refine e_callV m_Team_freeFrom 8 lw_good d_Team_delay_3 (k_Team_freeFrom _) ⟨Nat.le_of_ble_eq_true rfl, Nat.le_of_ble_eq_true rfl⟩ w_931 w_704 w_705 (q_Team _) rfl t0 (args := [(0, p1)]) rfl rfl (Nat.le_of_ble_eq_true rfl) (kc' := kc) (ks' := ks) (mc := 0) (ms := 0) rfl rfl (c_Team_freeFrom o1) (pureK ?_)
  refine e_iload_n d_Team_delay_6 rfl ?_
  obtain ⟨o2, h⟩ := h
  refine e_iadd d_Team_delay_7 o2 ?_
  obtain ⟨o3, h⟩ := h
  refine gp_Team_15 d_Team_delay_8 rfl t0 o3 (fx_U (by decide)) ?_
  let G4 : gH := gU G 529 a0 0 ((if G 529 a0 0 < p1 then p1 else G 529 a0 0) + p2)
  have h := h G4 rfl
  exact e_vret d_Team_delay_11 rfl h
set_option maxRecDepth 20000 in
set_option maxHeartbeats 4000000 in
theorem sg_Hours_delay_0 {e : gE} {b : Nat} {m : Int} {Z : Int → gH → Prop} {kc ks : Nat} {G : gH} {p1 p2 : Int} (h : (G 0 ((b : Int) + 11) 0 = 1) ∧ ((inI ((G 18 ((b : Int) + 11) 0) - 1)) ∧ (((¬ (0 ≤ p1 ∧ p1 ≤ ((G 18 ((b : Int) + 11) 0) - 1))) → ∃ kc23 ks24 mc25 ms26 : Nat, kc = kc23 + mc25 ∧ ks = ks24 + ms26 ∧ GX e b m m_Hours_makePlan [(2, ((b : Int) + 10))] G mc25 ms26 (fun v21 G22 => Z v21 G22)) ∧ ((0 ≤ p1 ∧ p1 ≤ ((G 18 ((b : Int) + 11) 0) - 1)) → (G 0 (G 17 ((b : Int) + 11) 0) 0 = 103) ∧ (0 ≤ p1 ∧ p1 < G 18 ((b : Int) + 11) 0) ∧ (G 18 ((b : Int) + 11) 0 ≤ G 0 (G 17 ((b : Int) + 11) 0) 1) ∧ (G 0 (G 3 (G 17 ((b : Int) + 11) 0) p1) 0 = 9) ∧ GX e b m m_Team_delay [(2, (G 3 (G 17 ((b : Int) + 11) 0) p1)), (0, (G 83 ((b : Int) + 10) 0)), (0, p2)] G 0 0 (fun _ G12 => ∃ kc16 ks17 mc18 ms19 : Nat, kc = kc16 + mc18 ∧ ks = ks17 + ms19 ∧ GX e b m m_Hours_makePlan [(2, ((b : Int) + 10))] G12 mc18 ms19 (fun v14 G15 => Z v14 G15)))))) : EX e b m m_Hours_delay Z kc ks 0 [(2, ((b : Int) + 10)), (0, p1), (0, p2)] [] G := by
  refine e_iload_n d_Hours_delay_0 rfl ?_
  refine e_iconst d_Hours_delay_1 (by decide) ?_
  refine e_aload_n d_Hours_delay_2 rfl ?_
  refine gx_Hours_18 d_Hours_delay_3 rfl ?_
  refine EV.inv fun hFf1 => ?_
  have f1 := (fx_ct 10 rfl hFf1).1
  obtain ⟨o2, h⟩ := h
  refine e_callV m_AL_size 0 lw_good d_Hours_delay_6 (k_AL_size _) ⟨Nat.le_of_ble_eq_true rfl, Nat.le_of_ble_eq_true rfl⟩ w_329 w_330 w_331 (q_AL _) rfl f1 (args := []) rfl rfl (Nat.le_of_ble_eq_true rfl) (kc' := kc) (ks' := ks) (mc := 0) (ms := 0) rfl rfl (c_AL_size o2) (pureK ?_)
  refine e_iconst d_Hours_delay_9 (by decide) ?_
  obtain ⟨o3, h⟩ := h
  refine e_isub d_Hours_delay_10 o3 ?_
  refine e_callSN m_C_within "MuseumFlight" lw_good d_Hours_delay_11 (k_C_within _) ⟨Nat.le_of_ble_eq_true rfl, Nat.le_of_ble_eq_true rfl⟩ w_918 w_295 (args := [(0, p1), (0, 0), (0, ((G 18 ((b : Int) + 11) 0) - 1))]) rfl rfl (Nat.le_of_ble_eq_true rfl) (kc' := kc) (ks' := ks) (mc := 0) (ms := 0) rfl rfl (c_C_within) (pureK ?_)
  refine e_if_eq (tgt := 36) d_Hours_delay_14 (by decide) (fun q4 => ?_) (fun q5 => ?_)
  · replace q4 := gb0.mp q4
    have h := h.1 q4
    refine e_aload_n d_Hours_delay_36 rfl ?_
    refine EV.inv fun hFf20 => ?_
    have f20 := (fx_ct 9 rfl hFf20).1
    obtain ⟨kc23, ks24, mc25, ms26, hkc23, hks24, h⟩ := h
    refine e_callV m_Hours_makePlan 1 lw_good d_Hours_delay_37 (k_Hours_makePlan _) ⟨Nat.le_of_ble_eq_true rfl, Nat.le_of_ble_eq_true rfl⟩ w_868 w_599 w_600 (q_Hours _) rfl f20 (args := []) rfl rfl (Nat.le_of_ble_eq_true rfl) (kc' := kc23) (ks' := ks24) (mc := mc25) (ms := ms26) hkc23 hks24 h ?_
    intro v21 G22 h
    exact e_iret d_Hours_delay_40 rfl h
  · replace q5 := gb1.mp q5
    have h := h.2 q5
    refine e_aload_n d_Hours_delay_17 rfl ?_
    refine gx_Hours_18 d_Hours_delay_18 rfl ?_
    refine e_iload_n d_Hours_delay_21 rfl ?_
    refine EV.inv fun hFf6 => ?_
    have f6 := (fx_ct 10 rfl hFf6).1
    obtain ⟨o7, o8, o9, h⟩ := h
    refine e_callV m_AL_get 0 lw_good d_Hours_delay_22 (k_AL_get _) ⟨Nat.le_of_ble_eq_true rfl, Nat.le_of_ble_eq_true rfl⟩ w_606 w_607 w_608 (q_AL _) rfl f6 (args := [(0, p1)]) rfl rfl (Nat.le_of_ble_eq_true rfl) (kc' := kc) (ks' := ks) (mc := 0) (ms := 0) rfl rfl (c_AL_get o2 o7 o8 o9) (pureK ?_)
    obtain ⟨o10, h⟩ := h
    refine e_cast 8 d_Hours_delay_25 (q_Team _) w_337 (Or.inr o10) ?_
    refine e_aload_n d_Hours_delay_28 rfl ?_
    refine gx_Hours_43 d_Hours_delay_29 rfl ?_
    refine e_iload_n d_Hours_delay_32 rfl ?_
    refine e_callV m_Team_delay 8 lw_good d_Hours_delay_33 (k_Team_delay _) ⟨Nat.le_of_ble_eq_true rfl, Nat.le_of_ble_eq_true rfl⟩ w_927 w_928 w_929 (q_Team _) rfl o10 (args := [(0, (G 83 ((b : Int) + 10) 0)), (0, p2)]) rfl rfl (Nat.le_of_ble_eq_true rfl) (kc' := kc) (ks' := ks) (mc := 0) (ms := 0) rfl rfl h ?_
    intro v11 G12 h
    refine e_aload_n d_Hours_delay_36 rfl ?_
    refine EV.inv fun hFf13 => ?_
    have f13 := (fx_ct 9 rfl hFf13).1
    obtain ⟨kc16, ks17, mc18, ms19, hkc16, hks17, h⟩ := h
    refine e_callV m_Hours_makePlan 1 lw_good d_Hours_delay_37 (k_Hours_makePlan _) ⟨Nat.le_of_ble_eq_true rfl, Nat.le_of_ble_eq_true rfl⟩ w_868 w_599 w_600 (q_Hours _) rfl f13 (args := []) rfl rfl (Nat.le_of_ble_eq_true rfl) (kc' := kc16) (ks' := ks17) (mc := mc18) (ms := ms19) hkc16 hks17 h ?_
    intro v14 G15 h
    exact e_iret d_Hours_delay_40 rfl h
set_option maxRecDepth 20000 in
set_option maxHeartbeats 4000000 in
theorem sg_Hours_isBusy_0 {e : gE} {b : Nat} {m : Int} {Z : Int → gH → Prop} {kc ks : Nat} {G : gH} {p1 : Int} (h : ((G 0 ((b : Int) + 11) 0 = 1) ∧ ((inI ((G 18 ((b : Int) + 11) 0) - 1)) ∧ ((0 ≤ p1 ∧ p1 ≤ ((G 18 ((b : Int) + 11) 0) - 1)) → (G 0 (G 17 ((b : Int) + 11) 0) 0 = 103) ∧ ((0 ≤ p1 ∧ p1 < G 18 ((b : Int) + 11) 0) ∧ ((G 18 ((b : Int) + 11) 0 ≤ G 0 (G 17 ((b : Int) + 11) 0) 1) ∧ ((G 0 (G 3 (G 17 ((b : Int) + 11) 0) p1) 0 = 9) ∧ ((G 0 (G 3 (G 17 ((b : Int) + 11) 0) p1) 0 = 9) ∧ (G 530 (G 3 (G 17 ((b : Int) + 11) 0) p1) 0 ≠ 0 → Z 1 G)))))))) ∧ ((((¬ (0 ≤ p1 ∧ p1 ≤ ((G 18 ((b : Int) + 11) 0) - 1)))) ∨ ((0 ≤ p1 ∧ p1 ≤ ((G 18 ((b : Int) + 11) 0) - 1)) ∧ (¬ (G 530 (G 3 (G 17 ((b : Int) + 11) 0) p1) 0 ≠ 0)))) → Z 0 G)) : EX e b m m_Hours_isBusy Z kc ks 0 [(2, ((b : Int) + 10)), (0, p1)] [] G := by
  obtain ⟨h, hJ14⟩ := h
  have kJ14 : (((¬ (0 ≤ p1 ∧ p1 ≤ ((G 18 ((b : Int) + 11) 0) - 1)))) ∨ ((0 ≤ p1 ∧ p1 ≤ ((G 18 ((b : Int) + 11) 0) - 1)) ∧ (¬ (G 530 (G 3 (G 17 ((b : Int) + 11) 0) p1) 0 ≠ 0)))) → EX e b m m_Hours_isBusy Z kc ks 38 [(2, ((b : Int) + 10)), (0, p1)] [] G := by
    intro rJ14
    have h := hJ14 rJ14
    refine e_iconst d_Hours_isBusy_38 (by decide) ?_
    exact e_zret .boolean d_Hours_isBusy_39 rfl (by decide) h
  refine e_iload_n d_Hours_isBusy_0 rfl ?_
  refine e_iconst d_Hours_isBusy_1 (by decide) ?_
  refine e_aload_n d_Hours_isBusy_2 rfl ?_
  refine gx_Hours_18 d_Hours_isBusy_3 rfl ?_
  refine EV.inv fun hFf1 => ?_
  have f1 := (fx_ct 10 rfl hFf1).1
  obtain ⟨o2, h⟩ := h
  refine e_callV m_AL_size 0 lw_good d_Hours_isBusy_6 (k_AL_size _) ⟨Nat.le_of_ble_eq_true rfl, Nat.le_of_ble_eq_true rfl⟩ w_329 w_330 w_331 (q_AL _) rfl f1 (args := []) rfl rfl (Nat.le_of_ble_eq_true rfl) (kc' := kc) (ks' := ks) (mc := 0) (ms := 0) rfl rfl (c_AL_size o2) (pureK ?_)
  refine e_iconst d_Hours_isBusy_9 (by decide) ?_
  obtain ⟨o3, h⟩ := h
  refine e_isub d_Hours_isBusy_10 o3 ?_
  refine e_callSN m_C_within "MuseumFlight" lw_good d_Hours_isBusy_11 (k_C_within _) ⟨Nat.le_of_ble_eq_true rfl, Nat.le_of_ble_eq_true rfl⟩ w_918 w_295 (args := [(0, p1), (0, 0), (0, ((G 18 ((b : Int) + 11) 0) - 1))]) rfl rfl (Nat.le_of_ble_eq_true rfl) (kc' := kc) (ks' := ks) (mc := 0) (ms := 0) rfl rfl (c_C_within) (pureK ?_)
  refine e_if_eq (tgt := 38) d_Hours_isBusy_14 (by decide) (fun q4 => ?_) (fun q5 => ?_)
  · replace q4 := gb0.mp q4
    exact kJ14 (Or.inl q4)
  · replace q5 := gb1.mp q5
    have h := h q5
    refine e_aload_n d_Hours_isBusy_17 rfl ?_
    refine gx_Hours_18 d_Hours_isBusy_18 rfl ?_
    refine e_iload_n d_Hours_isBusy_21 rfl ?_
    refine EV.inv fun hFf6 => ?_
    have f6 := (fx_ct 10 rfl hFf6).1
    obtain ⟨o7, o8, o9, h⟩ := h
    refine e_callV m_AL_get 0 lw_good d_Hours_isBusy_22 (k_AL_get _) ⟨Nat.le_of_ble_eq_true rfl, Nat.le_of_ble_eq_true rfl⟩ w_606 w_607 w_608 (q_AL _) rfl f6 (args := [(0, p1)]) rfl rfl (Nat.le_of_ble_eq_true rfl) (kc' := kc) (ks' := ks) (mc := 0) (ms := 0) rfl rfl (c_AL_get o2 o7 o8 o9) (pureK ?_)
    obtain ⟨o10, h⟩ := h
    refine e_cast 8 d_Hours_isBusy_25 (q_Team _) w_337 (Or.inr o10) ?_
    obtain ⟨o11, h⟩ := h
    refine e_callV m_Team_isBusy 8 lw_good d_Hours_isBusy_28 (k_Team_isBusy _) ⟨Nat.le_of_ble_eq_true rfl, Nat.le_of_ble_eq_true rfl⟩ w_919 w_920 w_921 (q_Team _) rfl o10 (args := []) rfl rfl (Nat.le_of_ble_eq_true rfl) (kc' := kc) (ks' := ks) (mc := 0) (ms := 0) rfl rfl (c_Team_isBusy o11) (pureK ?_)
    refine e_if_eq (tgt := 38) d_Hours_isBusy_31 (by decide) (fun q12 => ?_) (fun q13 => ?_)
    · replace q12 := gb0.mp q12
      exact kJ14 (Or.inr ⟨q5, q12⟩)
    · replace q13 := gb1.mp q13
      have h := h q13
      refine e_iconst d_Hours_isBusy_34 (by decide) ?_
      refine e_goto (tgt := 39) d_Hours_isBusy_35 (by decide) ?_
      exact e_zret .boolean d_Hours_isBusy_39 rfl (by decide) h
set_option maxRecDepth 20000 in
set_option maxHeartbeats 4000000 in
theorem sg_C_whyNoPlan_0 {e : gE} {b : Nat} {m : Int} {Z : Int → gH → Prop} {kc ks : Nat} {G : gH} {p1 : Int} (h : ((G 730 ((b : Int) + 1) 0) = 1 → (p1 = 0 → Z 0 G) ∧ (p1 ≠ 0 → GX e b m m_C_howManyAt [(2, ((b : Int) + 1)), (0, 100)] G 0 0 (fun v6 G7 => (v6 ≤ 8 → Z 0 G7) ∧ (8 < v6 → Z (-7) G7)))) ∧ ((G 730 ((b : Int) + 1) 0) ≠ 1 → Z (-6) G)) : EX e b m m_C_whyNoPlan Z kc ks 0 [(2, ((b : Int) + 1)), (0, p1)] [] G := by
  refine e_aload_n d_C_whyNoPlan_0 rfl ?_
  refine gx_C_81 d_C_whyNoPlan_1 rfl ?_
  refine e_iconst d_C_whyNoPlan_4 (by decide) ?_
  refine e_icmp_eq (tgt := 11) d_C_whyNoPlan_5 (by decide) (fun q1 => ?_) (fun q2 => ?_)
  · have h := h.1 q1
    refine e_iload_n d_C_whyNoPlan_11 rfl ?_
    refine e_if_eq (tgt := 31) d_C_whyNoPlan_12 (by decide) (fun q3 => ?_) (fun q4 => ?_)
    · have h := h.1 q3
      refine e_iconst d_C_whyNoPlan_31 (by decide) ?_
      exact e_iret d_C_whyNoPlan_32 rfl h
    · have h := h.2 q4
      refine e_aload_n d_C_whyNoPlan_15 rfl ?_
      refine e_bipush d_C_whyNoPlan_16 (by decide) (by decide) ?_
      refine EV.inv fun hFf5 => ?_
      have f5 := (fx_ct 0 rfl hFf5).1
      refine e_callV m_C_howManyAt 11 lw_good d_C_whyNoPlan_18 (k_C_howManyAt _) ⟨Nat.le_of_ble_eq_true rfl, Nat.le_of_ble_eq_true rfl⟩ w_877 w_879 w_s26 (q_C _) rfl f5 (args := [(0, 100)]) rfl rfl (Nat.le_of_ble_eq_true rfl) (kc' := kc) (ks' := ks) (mc := 0) (ms := 0) rfl rfl h ?_
      intro v6 G7 h
      refine e_bipush d_C_whyNoPlan_21 (by decide) (by decide) ?_
      refine e_icmp_le (tgt := 31) d_C_whyNoPlan_23 (by decide) (fun q8 => ?_) (fun q9 => ?_)
      · have h := h.1 q8
        refine e_iconst d_C_whyNoPlan_31 (by decide) ?_
        exact e_iret d_C_whyNoPlan_32 rfl h
      · have h := h.2 q9
        refine e_bipush d_C_whyNoPlan_26 (by decide) (by decide) ?_
        refine e_goto (tgt := 32) d_C_whyNoPlan_28 (by decide) ?_
        exact e_iret d_C_whyNoPlan_32 rfl h
  · have h := h.2 q2
    refine e_bipush d_C_whyNoPlan_8 (by decide) (by decide) ?_
    exact e_iret d_C_whyNoPlan_10 rfl h
set_option maxRecDepth 20000 in
set_option maxHeartbeats 4000000 in
theorem sg_C_alarm_0 {e : gE} {b : Nat} {m : Int} {Z : Int → gH → Prop} {kc ks : Nat} {G : gH} {p1 : Int} (h : ((1 ≤ p1 ∧ p1 ≤ 240) → ((G 730 ((b : Int) + 1) 0) = 0 → ∀ G5 : gH, G5 = gU G 730 ((b : Int) + 1) 0 1 → ∃ kc9 ks10 mc11 ms12 : Nat, kc = kc9 + mc11 ∧ ks = ks10 + ms12 ∧ GX e b m m_Hours_ring [(2, ((b : Int) + 10)), (0, p1)] G5 mc11 ms12 (fun v7 G8 => Z v7 G8))) ∧ ((((¬ (1 ≤ p1 ∧ p1 ≤ 240))) ∨ ((1 ≤ p1 ∧ p1 ≤ 240) ∧ (G 730 ((b : Int) + 1) 0) ≠ 0)) → GX e b m m_C_refuse [(2, ((b : Int) + 1)), (0, (-6))] G 0 0 (fun v15 G16 => Z v15 G16))) : EX e b m m_C_alarm Z kc ks 0 [(2, ((b : Int) + 1)), (0, p1)] [] G := by
  obtain ⟨h, hJ13⟩ := h
  have kJ13 : (((¬ (1 ≤ p1 ∧ p1 ≤ 240))) ∨ ((1 ≤ p1 ∧ p1 ≤ 240) ∧ (G 730 ((b : Int) + 1) 0) ≠ 0)) → EX e b m m_C_alarm Z kc ks 18 [(2, ((b : Int) + 1)), (0, p1)] [] G := by
    intro rJ13
    have h := hJ13 rJ13
    refine e_aload_n d_C_alarm_18 rfl ?_
    refine e_bipush d_C_alarm_19 (by decide) (by decide) ?_
    refine EV.inv fun hFf14 => ?_
    have f14 := (fx_ct 0 rfl hFf14).1
    refine e_callV m_C_refuse 11 lw_good d_C_alarm_21 (k_C_refuse _) ⟨Nat.le_of_ble_eq_true rfl, Nat.le_of_ble_eq_true rfl⟩ w_297 w_299 w_s0 (q_C _) rfl f14 (args := [(0, (-6))]) rfl rfl (Nat.le_of_ble_eq_true rfl) (kc' := kc) (ks' := ks) (mc := 0) (ms := 0) rfl rfl h ?_
    intro v15 G16 h
    exact e_iret d_C_alarm_24 rfl h
  refine e_iload_n d_C_alarm_0 rfl ?_
  refine e_iconst d_C_alarm_1 (by decide) ?_
  refine e_sipush d_C_alarm_2 (by decide) (by decide) ?_
  refine e_callS m_C_within lw_good d_C_alarm_5 (k_C_within _) ⟨Nat.le_of_ble_eq_true rfl, Nat.le_of_ble_eq_true rfl⟩ w_294 w_295 (args := [(0, p1), (0, 1), (0, 240)]) rfl rfl (Nat.le_of_ble_eq_true rfl) (kc' := kc) (ks' := ks) (mc := 0) (ms := 0) rfl rfl (c_C_within) (pureK ?_)
  refine e_if_eq (tgt := 18) d_C_alarm_8 (by decide) (fun q1 => ?_) (fun q2 => ?_)
  · replace q1 := gb0.mp q1
    exact kJ13 (Or.inl q1)
  · replace q2 := gb1.mp q2
    have h := h q2
    refine e_aload_n d_C_alarm_11 rfl ?_
    refine gx_C_81 d_C_alarm_12 rfl ?_
    refine e_if_eq (tgt := 25) d_C_alarm_15 (by decide) (fun q3 => ?_) (fun q4 => ?_)
    · have h := h q3
      refine e_aload_n d_C_alarm_25 rfl ?_
      refine e_iconst d_C_alarm_26 (by decide) ?_
      refine px_C_81 d_C_alarm_27 rfl ?_
      let G5 : gH := gU G 730 ((b : Int) + 1) 0 1
      have h := h G5 rfl
      refine e_aload_n d_C_alarm_30 rfl ?_
      refine gx_C_28 d_C_alarm_31 rfl ?_
      refine e_iload_n d_C_alarm_34 rfl ?_
      refine EV.inv fun hFf6 => ?_
      have f6 := (fx_ct 9 rfl hFf6).1
      obtain ⟨kc9, ks10, mc11, ms12, hkc9, hks10, h⟩ := h
      refine e_callV m_Hours_ring 1 lw_good d_C_alarm_35 (k_Hours_ring _) ⟨Nat.le_of_ble_eq_true rfl, Nat.le_of_ble_eq_true rfl⟩ w_864 w_865 w_866 (q_Hours _) rfl f6 (args := [(0, p1)]) rfl rfl (Nat.le_of_ble_eq_true rfl) (kc' := kc9) (ks' := ks10) (mc := mc11) (ms := ms12) hkc9 hks10 h ?_
      intro v7 G8 h
      exact e_iret d_C_alarm_38 rfl h
    · exact kJ13 (Or.inr ⟨q2, q4⟩)
set_option maxRecDepth 20000 in
set_option maxHeartbeats 4000000 in
theorem sg_C_plan_0 {e : gE} {b : Nat} {m : Int} {Z : Int → gH → Prop} {kc ks : Nat} {G : gH} {p1 : Int} (h : GX e b m m_C_whyNoPlan [(2, ((b : Int) + 1)), (0, p1)] G 0 0 (fun v2 G3 => (v2 ≠ 0 → GX e b m m_C_refuse [(2, ((b : Int) + 1)), (0, v2)] G3 0 0 (fun v7 G8 => Z v7 G8)) ∧ (v2 = 0 → ∃ kc12 ks13 mc14 ms15 : Nat, kc = kc12 + mc14 ∧ ks = ks13 + ms15 ∧ GX e b m m_Hours_planBy [(2, ((b : Int) + 10)), (0, p1)] G3 mc14 ms15 (fun v10 G11 => Z v10 G11)))) : EX e b m m_C_plan Z kc ks 0 [(2, ((b : Int) + 1)), (0, p1), (9, 0)] [] G := by
  refine e_aload_n d_C_plan_0 rfl ?_
  refine e_iload_n d_C_plan_1 rfl ?_
  refine EV.inv fun hFf1 => ?_
  have f1 := (fx_ct 0 rfl hFf1).1
  refine e_callV m_C_whyNoPlan 11 lw_good d_C_plan_2 (k_C_whyNoPlan _) ⟨Nat.le_of_ble_eq_true rfl, Nat.le_of_ble_eq_true rfl⟩ w_873 w_875 w_s25 (q_C _) rfl f1 (args := [(0, p1)]) rfl rfl (Nat.le_of_ble_eq_true rfl) (kc' := kc) (ks' := ks) (mc := 0) (ms := 0) rfl rfl h ?_
  intro v2 G3 h
  refine e_istore_n (ls' := [(2, ((b : Int) + 1)), (0, p1), (0, v2)]) d_C_plan_5 (by decide) rfl ?_
  refine e_iload_n d_C_plan_6 rfl ?_
  refine e_if_ne (tgt := 21) d_C_plan_7 (by decide) (fun q4 => ?_) (fun q5 => ?_)
  · have h := h.1 q4
    refine e_aload_n d_C_plan_21 rfl ?_
    refine e_iload_n d_C_plan_22 rfl ?_
    refine EV.inv fun hFf6 => ?_
    have f6 := (fx_ct 0 rfl hFf6).1
    refine e_callV m_C_refuse 11 lw_good d_C_plan_23 (k_C_refuse _) ⟨Nat.le_of_ble_eq_true rfl, Nat.le_of_ble_eq_true rfl⟩ w_297 w_299 w_s0 (q_C _) rfl f6 (args := [(0, v2)]) rfl rfl (Nat.le_of_ble_eq_true rfl) (kc' := kc) (ks' := ks) (mc := 0) (ms := 0) rfl rfl h ?_
    intro v7 G8 h
    exact e_iret d_C_plan_26 rfl h
  · have h := h.2 q5
    refine e_aload_n d_C_plan_10 rfl ?_
    refine gx_C_28 d_C_plan_11 rfl ?_
    refine e_iload_n d_C_plan_14 rfl ?_
    refine EV.inv fun hFf9 => ?_
    have f9 := (fx_ct 9 rfl hFf9).1
    obtain ⟨kc12, ks13, mc14, ms15, hkc12, hks13, h⟩ := h
    refine e_callV m_Hours_planBy 1 lw_good d_C_plan_15 (k_Hours_planBy _) ⟨Nat.le_of_ble_eq_true rfl, Nat.le_of_ble_eq_true rfl⟩ w_882 w_883 w_884 (q_Hours _) rfl f9 (args := [(0, p1)]) rfl rfl (Nat.le_of_ble_eq_true rfl) (kc' := kc12) (ks' := ks13) (mc := mc14) (ms := ms15) hkc12 hks13 h ?_
    intro v10 G11 h
    refine e_goto (tgt := 26) d_C_plan_18 (by decide) ?_
    exact e_iret d_C_plan_26 rfl h
set_option maxRecDepth 20000 in
set_option maxHeartbeats 4000000 in
theorem sg_C_gap_0 {e : gE} {b : Nat} {m : Int} {Z : Int → gH → Prop} {kc ks : Nat} {G : gH} (h : GX e b m m_C_whyNoPlan [(2, ((b : Int) + 1)), (0, 1)] G 0 0 (fun v2 G3 => (v2 ≠ 0 → GX e b m m_C_refuse [(2, ((b : Int) + 1)), (0, v2)] G3 0 0 (fun v7 G8 => Z v7 G8)) ∧ (v2 = 0 → ∃ kc12 ks13 mc14 ms15 : Nat, kc = kc12 + mc14 ∧ ks = ks13 + ms15 ∧ GX e b m m_Hours_gapNow [(2, ((b : Int) + 10))] G3 mc14 ms15 (fun v10 G11 => Z v10 G11)))) : EX e b m m_C_gap Z kc ks 0 [(2, ((b : Int) + 1)), (9, 0)] [] G := by
  refine e_aload_n d_C_gap_0 rfl ?_
  refine e_iconst d_C_gap_1 (by decide) ?_
  refine EV.inv fun hFf1 => ?_
  have f1 := (fx_ct 0 rfl hFf1).1
  refine e_callV m_C_whyNoPlan 11 lw_good d_C_gap_2 (k_C_whyNoPlan _) ⟨Nat.le_of_ble_eq_true rfl, Nat.le_of_ble_eq_true rfl⟩ w_873 w_875 w_s25 (q_C _) rfl f1 (args := [(0, 1)]) rfl rfl (Nat.le_of_ble_eq_true rfl) (kc' := kc) (ks' := ks) (mc := 0) (ms := 0) rfl rfl h ?_
  intro v2 G3 h
  refine e_istore_n (ls' := [(2, ((b : Int) + 1)), (0, v2)]) d_C_gap_5 (by decide) rfl ?_
  refine e_iload_n d_C_gap_6 rfl ?_
  refine e_if_ne (tgt := 20) d_C_gap_7 (by decide) (fun q4 => ?_) (fun q5 => ?_)
  · have h := h.1 q4
    refine e_aload_n d_C_gap_20 rfl ?_
    refine e_iload_n d_C_gap_21 rfl ?_
    refine EV.inv fun hFf6 => ?_
    have f6 := (fx_ct 0 rfl hFf6).1
    refine e_callV m_C_refuse 11 lw_good d_C_gap_22 (k_C_refuse _) ⟨Nat.le_of_ble_eq_true rfl, Nat.le_of_ble_eq_true rfl⟩ w_297 w_299 w_s0 (q_C _) rfl f6 (args := [(0, v2)]) rfl rfl (Nat.le_of_ble_eq_true rfl) (kc' := kc) (ks' := ks) (mc := 0) (ms := 0) rfl rfl h ?_
    intro v7 G8 h
    exact e_iret d_C_gap_25 rfl h
  · have h := h.2 q5
    refine e_aload_n d_C_gap_10 rfl ?_
    refine gx_C_28 d_C_gap_11 rfl ?_
    refine EV.inv fun hFf9 => ?_
    have f9 := (fx_ct 9 rfl hFf9).1
    obtain ⟨kc12, ks13, mc14, ms15, hkc12, hks13, h⟩ := h
    refine e_callV m_Hours_gapNow 1 lw_good d_C_gap_14 (k_Hours_gapNow _) ⟨Nat.le_of_ble_eq_true rfl, Nat.le_of_ble_eq_true rfl⟩ w_890 w_891 w_892 (q_Hours _) rfl f9 (args := []) rfl rfl (Nat.le_of_ble_eq_true rfl) (kc' := kc12) (ks' := ks13) (mc := mc14) (ms := ms15) hkc12 hks13 h ?_
    intro v10 G11 h
    refine e_goto (tgt := 25) d_C_gap_17 (by decide) ?_
    exact e_iret d_C_gap_25 rfl h
set_option maxRecDepth 20000 in
set_option maxHeartbeats 4000000 in
theorem sg_C_block_0 {e : gE} {b : Nat} {m : Int} {Z : Int → gH → Prop} {kc ks : Nat} {G : gH} {p1 : Int} (h : (0 ≤ G 150 ((b : Int) + 3) 0 ∧ G 150 ((b : Int) + 3) 0 ≤ 20) ∧ (((0 ≤ p1 ∧ p1 < G 150 ((b : Int) + 3) 0) → ((G 730 ((b : Int) + 1) 0) = 2 → GX e b m m_C_refuse [(2, ((b : Int) + 1)), (0, (-6))] G 0 0 (fun v31 G32 => Z v31 G32)) ∧ ((G 730 ((b : Int) + 1) 0) ≠ 2 → GX e b m m_House_isBlocked [(2, ((b : Int) + 3)), (0, p1)] G 0 0 (fun v8 G9 => (v8 = 0 → GX e b m m_House_blockDoor [(2, ((b : Int) + 3)), (0, p1)] G9 0 0 (fun _ G14 => ((G14 730 ((b : Int) + 1) 0) ≠ 1 → Z 0 G14) ∧ ((G14 730 ((b : Int) + 1) 0) = 1 → ∃ kc20 ks21 mc22 ms23 : Nat, kc = kc20 + mc22 ∧ ks = ks21 + ms23 ∧ GX e b m m_Hours_makePlan [(2, ((b : Int) + 10))] G14 mc22 ms23 (fun v18 G19 => Z v18 G19)))) ∧ (v8 ≠ 0 → GX e b m m_C_refuse [(2, ((b : Int) + 1)), (0, (-6))] G9 0 0 (fun v25 G26 => Z v25 G26))))) ∧ ((¬ (0 ≤ p1 ∧ p1 < G 150 ((b : Int) + 3) 0)) → GX e b m m_C_refuse [(2, ((b : Int) + 1)), (0, (-1))] G 0 0 (fun v28 G29 => Z v28 G29)))) : EX e b m m_C_block Z kc ks 0 [(2, ((b : Int) + 1)), (0, p1)] [] G := by
  refine e_aload_n d_C_block_0 rfl ?_
  refine gx_C_19 d_C_block_1 rfl ?_
  refine e_iload_n d_C_block_4 rfl ?_
  refine EV.inv fun hFf1 => ?_
  have f1 := (fx_ct 2 rfl hFf1).1
  obtain ⟨o2, h⟩ := h
  refine e_callV m_House_hasDoor 2 lw_good d_C_block_5 (k_House_hasDoor _) ⟨Nat.le_of_ble_eq_true rfl, Nat.le_of_ble_eq_true rfl⟩ w_898 w_899 w_900 (q_House _) rfl f1 (args := [(0, p1)]) rfl rfl (Nat.le_of_ble_eq_true rfl) (kc' := kc) (ks' := ks) (mc := 0) (ms := 0) rfl rfl (c_House_hasDoor o2) (pureK ?_)
  refine e_if_ne (tgt := 17) d_C_block_8 (by decide) (fun q3 => ?_) (fun q4 => ?_)
  · replace q3 := gb1.mp q3
    have h := h.1 q3
    refine e_aload_n d_C_block_17 rfl ?_
    refine gx_C_81 d_C_block_18 rfl ?_
    refine e_iconst d_C_block_21 (by decide) ?_
    refine e_icmp_eq (tgt := 36) d_C_block_22 (by decide) (fun q5 => ?_) (fun q6 => ?_)
    · have h := h.1 q5
      refine e_aload_n d_C_block_36 rfl ?_
      refine e_bipush d_C_block_37 (by decide) (by decide) ?_
      refine EV.inv fun hFf30 => ?_
      have f30 := (fx_ct 0 rfl hFf30).1
      refine e_callV m_C_refuse 11 lw_good d_C_block_39 (k_C_refuse _) ⟨Nat.le_of_ble_eq_true rfl, Nat.le_of_ble_eq_true rfl⟩ w_297 w_299 w_s0 (q_C _) rfl f30 (args := [(0, (-6))]) rfl rfl (Nat.le_of_ble_eq_true rfl) (kc' := kc) (ks' := ks) (mc := 0) (ms := 0) rfl rfl h ?_
      intro v31 G32 h
      exact e_iret d_C_block_42 rfl h
    · have h := h.2 q6
      refine e_aload_n d_C_block_25 rfl ?_
      refine gx_C_19 d_C_block_26 rfl ?_
      refine e_iload_n d_C_block_29 rfl ?_
      refine EV.inv fun hFf7 => ?_
      have f7 := (fx_ct 2 rfl hFf7).1
      refine e_callV m_House_isBlocked 2 lw_good d_C_block_30 (k_House_isBlocked _) ⟨Nat.le_of_ble_eq_true rfl, Nat.le_of_ble_eq_true rfl⟩ w_902 w_903 w_904 (q_House _) rfl f7 (args := [(0, p1)]) rfl rfl (Nat.le_of_ble_eq_true rfl) (kc' := kc) (ks' := ks) (mc := 0) (ms := 0) rfl rfl h ?_
      intro v8 G9 h
      refine e_if_eq (tgt := 43) d_C_block_33 (by decide) (fun q10 => ?_) (fun q11 => ?_)
      · have h := h.1 q10
        refine e_aload_n d_C_block_43 rfl ?_
        refine gx_C_19 d_C_block_44 rfl ?_
        refine e_iload_n d_C_block_47 rfl ?_
        refine EV.inv fun hFf12 => ?_
        have f12 := (fx_ct 2 rfl hFf12).1
        refine e_callV m_House_blockDoor 2 lw_good d_C_block_48 (k_House_blockDoor _) ⟨Nat.le_of_ble_eq_true rfl, Nat.le_of_ble_eq_true rfl⟩ w_906 w_907 w_908 (q_House _) rfl f12 (args := [(0, p1)]) rfl rfl (Nat.le_of_ble_eq_true rfl) (kc' := kc) (ks' := ks) (mc := 0) (ms := 0) rfl rfl h ?_
        intro v13 G14 h
        refine e_aload_n d_C_block_51 rfl ?_
        refine gx_C_81 d_C_block_52 rfl ?_
        refine e_iconst d_C_block_55 (by decide) ?_
        refine e_icmp_ne (tgt := 69) d_C_block_56 (by decide) (fun q15 => ?_) (fun q16 => ?_)
        · have h := h.1 q15
          refine e_iconst d_C_block_69 (by decide) ?_
          exact e_iret d_C_block_70 rfl h
        · have h := h.2 q16
          refine e_aload_n d_C_block_59 rfl ?_
          refine gx_C_28 d_C_block_60 rfl ?_
          refine EV.inv fun hFf17 => ?_
          have f17 := (fx_ct 9 rfl hFf17).1
          obtain ⟨kc20, ks21, mc22, ms23, hkc20, hks21, h⟩ := h
          refine e_callV m_Hours_makePlan 1 lw_good d_C_block_63 (k_Hours_makePlan _) ⟨Nat.le_of_ble_eq_true rfl, Nat.le_of_ble_eq_true rfl⟩ w_598 w_599 w_600 (q_Hours _) rfl f17 (args := []) rfl rfl (Nat.le_of_ble_eq_true rfl) (kc' := kc20) (ks' := ks21) (mc := mc22) (ms := ms23) hkc20 hks21 h ?_
          intro v18 G19 h
          refine e_goto (tgt := 70) d_C_block_66 (by decide) ?_
          exact e_iret d_C_block_70 rfl h
      · have h := h.2 q11
        refine e_aload_n d_C_block_36 rfl ?_
        refine e_bipush d_C_block_37 (by decide) (by decide) ?_
        refine EV.inv fun hFf24 => ?_
        have f24 := (fx_ct 0 rfl hFf24).1
        refine e_callV m_C_refuse 11 lw_good d_C_block_39 (k_C_refuse _) ⟨Nat.le_of_ble_eq_true rfl, Nat.le_of_ble_eq_true rfl⟩ w_297 w_299 w_s0 (q_C _) rfl f24 (args := [(0, (-6))]) rfl rfl (Nat.le_of_ble_eq_true rfl) (kc' := kc) (ks' := ks) (mc := 0) (ms := 0) rfl rfl h ?_
        intro v25 G26 h
        exact e_iret d_C_block_42 rfl h
  · replace q4 := gb0.mp q4
    have h := h.2 q4
    refine e_aload_n d_C_block_11 rfl ?_
    refine e_iconst d_C_block_12 (by decide) ?_
    refine EV.inv fun hFf27 => ?_
    have f27 := (fx_ct 0 rfl hFf27).1
    refine e_callV m_C_refuse 11 lw_good d_C_block_13 (k_C_refuse _) ⟨Nat.le_of_ble_eq_true rfl, Nat.le_of_ble_eq_true rfl⟩ w_297 w_299 w_s0 (q_C _) rfl f27 (args := [(0, (-1))]) rfl rfl (Nat.le_of_ble_eq_true rfl) (kc' := kc) (ks' := ks) (mc := 0) (ms := 0) rfl rfl h ?_
    intro v28 G29 h
    exact e_iret d_C_block_16 rfl h
set_option maxRecDepth 20000 in
set_option maxHeartbeats 4000000 in
theorem sg_C_late_0 {e : gE} {b : Nat} {m : Int} {Z : Int → gH → Prop} {kc ks : Nat} {G : gH} {p1 p2 : Int} (h : ((G 0 ((b : Int) + 11) 0 = 1) ∧ ((inI ((G 18 ((b : Int) + 11) 0) - 1)) ∧ (((0 ≤ p1 ∧ p1 ≤ ((G 18 ((b : Int) + 11) 0) - 1)) → ((1 ≤ p2 ∧ p2 ≤ 60) → ((G 730 ((b : Int) + 1) 0) = 1 → GX e b m m_Hours_isBusy [(2, ((b : Int) + 10)), (0, p1)] G 0 0 (fun v11 G12 => (v11 = 0 → ∃ kc18 ks19 mc20 ms21 : Nat, kc = kc18 + mc20 ∧ ks = ks19 + ms21 ∧ GX e b m m_Hours_delay [(2, ((b : Int) + 10)), (0, p1), (0, p2)] G12 mc20 ms21 (fun v16 G17 => Z v16 G17)) ∧ (v11 ≠ 0 → GX e b m m_C_refuse [(2, ((b : Int) + 1)), (0, (-6))] G12 0 0 (fun v23 G24 => Z v23 G24)))))) ∧ ((¬ (0 ≤ p1 ∧ p1 ≤ ((G 18 ((b : Int) + 11) 0) - 1))) → GX e b m m_C_refuse [(2, ((b : Int) + 1)), (0, (-1))] G 0 0 (fun v26 G27 => Z v26 G27))))) ∧ ((((0 ≤ p1 ∧ p1 ≤ ((G 18 ((b : Int) + 11) 0) - 1)) ∧ (¬ (1 ≤ p2 ∧ p2 ≤ 60))) ∨ ((0 ≤ p1 ∧ p1 ≤ ((G 18 ((b : Int) + 11) 0) - 1)) ∧ (1 ≤ p2 ∧ p2 ≤ 60) ∧ (G 730 ((b : Int) + 1) 0) ≠ 1)) → GX e b m m_C_refuse [(2, ((b : Int) + 1)), (0, (-6))] G 0 0 (fun v30 G31 => Z v30 G31))) : EX e b m m_C_late Z kc ks 0 [(2, ((b : Int) + 1)), (0, p1), (0, p2)] [] G := by
  obtain ⟨h, hJ28⟩ := h
  have kJ28 : (((0 ≤ p1 ∧ p1 ≤ ((G 18 ((b : Int) + 11) 0) - 1)) ∧ (¬ (1 ≤ p2 ∧ p2 ≤ 60))) ∨ ((0 ≤ p1 ∧ p1 ≤ ((G 18 ((b : Int) + 11) 0) - 1)) ∧ (1 ≤ p2 ∧ p2 ≤ 60) ∧ (G 730 ((b : Int) + 1) 0) ≠ 1)) → EX e b m m_C_late Z kc ks 52 [(2, ((b : Int) + 1)), (0, p1), (0, p2)] [] G := by
    intro rJ28
    have h := hJ28 rJ28
    refine e_aload_n d_C_late_52 rfl ?_
    refine e_bipush d_C_late_53 (by decide) (by decide) ?_
    refine EV.inv fun hFf29 => ?_
    have f29 := (fx_ct 0 rfl hFf29).1
    refine e_callV m_C_refuse 11 lw_good d_C_late_55 (k_C_refuse _) ⟨Nat.le_of_ble_eq_true rfl, Nat.le_of_ble_eq_true rfl⟩ w_297 w_299 w_s0 (q_C _) rfl f29 (args := [(0, (-6))]) rfl rfl (Nat.le_of_ble_eq_true rfl) (kc' := kc) (ks' := ks) (mc := 0) (ms := 0) rfl rfl h ?_
    intro v30 G31 h
    exact e_iret d_C_late_58 rfl h
  refine e_iload_n d_C_late_0 rfl ?_
  refine e_iconst d_C_late_1 (by decide) ?_
  refine e_aload_n d_C_late_2 rfl ?_
  refine gx_C_28 d_C_late_3 rfl ?_
  refine EV.inv fun hFf1 => ?_
  have f1 := (fx_ct 9 rfl hFf1).1
  obtain ⟨o2, h⟩ := h
  refine e_callV m_Hours_teamCount 1 lw_good d_C_late_6 (k_Hours_teamCount _) ⟨Nat.le_of_ble_eq_true rfl, Nat.le_of_ble_eq_true rfl⟩ w_325 w_326 w_327 (q_Hours _) rfl f1 (args := []) rfl rfl (Nat.le_of_ble_eq_true rfl) (kc' := kc) (ks' := ks) (mc := 0) (ms := 0) rfl rfl (c_Hours_teamCount o2) (pureK ?_)
  refine e_iconst d_C_late_9 (by decide) ?_
  obtain ⟨o3, h⟩ := h
  refine e_isub d_C_late_10 o3 ?_
  refine e_callS m_C_within lw_good d_C_late_11 (k_C_within _) ⟨Nat.le_of_ble_eq_true rfl, Nat.le_of_ble_eq_true rfl⟩ w_294 w_295 (args := [(0, p1), (0, 0), (0, ((G 18 ((b : Int) + 11) 0) - 1))]) rfl rfl (Nat.le_of_ble_eq_true rfl) (kc' := kc) (ks' := ks) (mc := 0) (ms := 0) rfl rfl (c_C_within) (pureK ?_)
  refine e_if_ne (tgt := 23) d_C_late_14 (by decide) (fun q4 => ?_) (fun q5 => ?_)
  · replace q4 := gb1.mp q4
    have h := h.1 q4
    refine e_iload_n d_C_late_23 rfl ?_
    refine e_iconst d_C_late_24 (by decide) ?_
    refine e_bipush d_C_late_25 (by decide) (by decide) ?_
    refine e_callS m_C_within lw_good d_C_late_27 (k_C_within _) ⟨Nat.le_of_ble_eq_true rfl, Nat.le_of_ble_eq_true rfl⟩ w_294 w_295 (args := [(0, p2), (0, 1), (0, 60)]) rfl rfl (Nat.le_of_ble_eq_true rfl) (kc' := kc) (ks' := ks) (mc := 0) (ms := 0) rfl rfl (c_C_within) (pureK ?_)
    refine e_if_eq (tgt := 52) d_C_late_30 (by decide) (fun q6 => ?_) (fun q7 => ?_)
    · replace q6 := gb0.mp q6
      exact kJ28 (Or.inl ⟨q4, q6⟩)
    · replace q7 := gb1.mp q7
      have h := h q7
      refine e_aload_n d_C_late_33 rfl ?_
      refine gx_C_81 d_C_late_34 rfl ?_
      refine e_iconst d_C_late_37 (by decide) ?_
      refine e_icmp_ne (tgt := 52) d_C_late_38 (by decide) (fun q8 => ?_) (fun q9 => ?_)
      · exact kJ28 (Or.inr ⟨q4, q7, q8⟩)
      · have h := h q9
        refine e_aload_n d_C_late_41 rfl ?_
        refine gx_C_28 d_C_late_42 rfl ?_
        refine e_iload_n d_C_late_45 rfl ?_
        refine EV.inv fun hFf10 => ?_
        have f10 := (fx_ct 9 rfl hFf10).1
        refine e_callV m_Hours_isBusy 1 lw_good d_C_late_46 (k_Hours_isBusy _) ⟨Nat.le_of_ble_eq_true rfl, Nat.le_of_ble_eq_true rfl⟩ w_914 w_915 w_916 (q_Hours _) rfl f10 (args := [(0, p1)]) rfl rfl (Nat.le_of_ble_eq_true rfl) (kc' := kc) (ks' := ks) (mc := 0) (ms := 0) rfl rfl h ?_
        intro v11 G12 h
        refine e_if_eq (tgt := 59) d_C_late_49 (by decide) (fun q13 => ?_) (fun q14 => ?_)
        · have h := h.1 q13
          refine e_aload_n d_C_late_59 rfl ?_
          refine gx_C_28 d_C_late_60 rfl ?_
          refine e_iload_n d_C_late_63 rfl ?_
          refine e_iload_n d_C_late_64 rfl ?_
          refine EV.inv fun hFf15 => ?_
          have f15 := (fx_ct 9 rfl hFf15).1
          obtain ⟨kc18, ks19, mc20, ms21, hkc18, hks19, h⟩ := h
          refine e_callV m_Hours_delay 1 lw_good d_C_late_65 (k_Hours_delay _) ⟨Nat.le_of_ble_eq_true rfl, Nat.le_of_ble_eq_true rfl⟩ w_923 w_924 w_925 (q_Hours _) rfl f15 (args := [(0, p1), (0, p2)]) rfl rfl (Nat.le_of_ble_eq_true rfl) (kc' := kc18) (ks' := ks19) (mc := mc20) (ms := ms21) hkc18 hks19 h ?_
          intro v16 G17 h
          exact e_iret d_C_late_68 rfl h
        · have h := h.2 q14
          refine e_aload_n d_C_late_52 rfl ?_
          refine e_bipush d_C_late_53 (by decide) (by decide) ?_
          refine EV.inv fun hFf22 => ?_
          have f22 := (fx_ct 0 rfl hFf22).1
          refine e_callV m_C_refuse 11 lw_good d_C_late_55 (k_C_refuse _) ⟨Nat.le_of_ble_eq_true rfl, Nat.le_of_ble_eq_true rfl⟩ w_297 w_299 w_s0 (q_C _) rfl f22 (args := [(0, (-6))]) rfl rfl (Nat.le_of_ble_eq_true rfl) (kc' := kc) (ks' := ks) (mc := 0) (ms := 0) rfl rfl h ?_
          intro v23 G24 h
          exact e_iret d_C_late_58 rfl h
  · replace q5 := gb0.mp q5
    have h := h.2 q5
    refine e_aload_n d_C_late_17 rfl ?_
    refine e_iconst d_C_late_18 (by decide) ?_
    refine EV.inv fun hFf25 => ?_
    have f25 := (fx_ct 0 rfl hFf25).1
    refine e_callV m_C_refuse 11 lw_good d_C_late_19 (k_C_refuse _) ⟨Nat.le_of_ble_eq_true rfl, Nat.le_of_ble_eq_true rfl⟩ w_297 w_299 w_s0 (q_C _) rfl f25 (args := [(0, (-1))]) rfl rfl (Nat.le_of_ble_eq_true rfl) (kc' := kc) (ks' := ks) (mc := 0) (ms := 0) rfl rfl h ?_
    intro v26 G27 h
    exact e_iret d_C_late_22 rfl h
set_option maxRecDepth 20000 in
set_option maxHeartbeats 4000000 in
theorem sg_C_danger_0 {e : gE} {b : Nat} {m : Int} {Z : Int → gH → Prop} {kc ks : Nat} {G : gH} {p1 p2 : Int} (h : ((¬ (1 ≤ p1 ∧ p1 ≤ 11)) → GX e b m m_C_refuse [(2, ((b : Int) + 1)), (0, (-1))] G 0 0 (fun v6 G7 => Z v6 G7)) ∧ ((((1 ≤ p1 ∧ p1 ≤ 11) ∧ p2 ≠ (-1) ∧ (G 730 ((b : Int) + 1) 0) ≠ 1) ∨ ((1 ≤ p1 ∧ p1 ≤ 11) ∧ p2 ≠ (-1) ∧ (G 730 ((b : Int) + 1) 0) = 1 ∧ (G 83 ((b : Int) + 10) 0) ≤ p2)) → ((0 ≤ p2 ∧ p2 ≤ 240) → ((G 730 ((b : Int) + 1) 0) ≠ 2 → GX e b m m_House_changeDanger [(2, ((b : Int) + 3)), (0, p1), (0, p2)] G 0 0 (fun v38 G39 => ((G39 730 ((b : Int) + 1) 0) ≠ 1 → Z v38 G39) ∧ ((G39 730 ((b : Int) + 1) 0) = 1 → ∃ kc45 ks46 mc47 ms48 : Nat, kc = kc45 + mc47 ∧ ks = ks46 + ms48 ∧ GX e b m m_Hours_makePlan [(2, ((b : Int) + 10))] G39 mc47 ms48 (fun v43 G44 => Z v38 G44)))))) ∧ ((((1 ≤ p1 ∧ p1 ≤ 11) ∧ p2 = (-1) ∧ (G 730 ((b : Int) + 1) 0) ≠ 1) ∨ ((1 ≤ p1 ∧ p1 ≤ 11) ∧ p2 = (-1) ∧ (G 730 ((b : Int) + 1) 0) = 1)) → ((G 730 ((b : Int) + 1) 0) ≠ 2 → GX e b m m_House_changeDanger [(2, ((b : Int) + 3)), (0, p1), (0, p2)] G 0 0 (fun v54 G55 => ((G55 730 ((b : Int) + 1) 0) ≠ 1 → Z v54 G55) ∧ ((G55 730 ((b : Int) + 1) 0) = 1 → ∃ kc61 ks62 mc63 ms64 : Nat, kc = kc61 + mc63 ∧ ks = ks62 + ms64 ∧ GX e b m m_Hours_makePlan [(2, ((b : Int) + 10))] G55 mc63 ms64 (fun v59 G60 => Z v54 G60)))) ∧ ((G 730 ((b : Int) + 1) 0) = 2 → GX e b m m_C_refuse [(2, ((b : Int) + 1)), (0, (-6))] G 0 0 (fun v74 G75 => Z v74 G75))) ∧ ((((1 ≤ p1 ∧ p1 ≤ 11) ∧ p2 ≠ (-1) ∧ (G 730 ((b : Int) + 1) 0) = 1 ∧ p2 < (G 83 ((b : Int) + 10) 0) ∧ (¬ (0 ≤ p2 ∧ p2 ≤ 240))) ∨ ((1 ≤ p1 ∧ p1 ≤ 11) ∧ p2 ≠ (-1) ∧ (G 730 ((b : Int) + 1) 0) = 1 ∧ p2 < (G 83 ((b : Int) + 10) 0) ∧ (0 ≤ p2 ∧ p2 ≤ 240))) → GX e b m m_C_refuse [(2, ((b : Int) + 1)), (0, (-6))] G 0 0 (fun v67 G68 => Z v67 G68)) ∧ ((((((1 ≤ p1 ∧ p1 ≤ 11) ∧ p2 ≠ (-1) ∧ (G 730 ((b : Int) + 1) 0) ≠ 1) ∨ ((1 ≤ p1 ∧ p1 ≤ 11) ∧ p2 ≠ (-1) ∧ (G 730 ((b : Int) + 1) 0) = 1 ∧ (G 83 ((b : Int) + 10) 0) ≤ p2)) ∧ (¬ (0 ≤ p2 ∧ p2 ≤ 240))) ∨ ((((1 ≤ p1 ∧ p1 ≤ 11) ∧ p2 ≠ (-1) ∧ (G 730 ((b : Int) + 1) 0) ≠ 1) ∨ ((1 ≤ p1 ∧ p1 ≤ 11) ∧ p2 ≠ (-1) ∧ (G 730 ((b : Int) + 1) 0) = 1 ∧ (G 83 ((b : Int) + 10) 0) ≤ p2)) ∧ (0 ≤ p2 ∧ p2 ≤ 240) ∧ (G 730 ((b : Int) + 1) 0) = 2)) → GX e b m m_C_refuse [(2, ((b : Int) + 1)), (0, (-6))] G 0 0 (fun v71 G72 => Z v71 G72))) : EX e b m m_C_danger Z kc ks 0 [(2, ((b : Int) + 1)), (0, p1), (0, p2), (9, 0), (9, 0), (9, 0)] [] G := by
  obtain ⟨h, hJ19, hJ20, hJ65, hJ69⟩ := h
  have kJ69 : (((((1 ≤ p1 ∧ p1 ≤ 11) ∧ p2 ≠ (-1) ∧ (G 730 ((b : Int) + 1) 0) ≠ 1) ∨ ((1 ≤ p1 ∧ p1 ≤ 11) ∧ p2 ≠ (-1) ∧ (G 730 ((b : Int) + 1) 0) = 1 ∧ (G 83 ((b : Int) + 10) 0) ≤ p2)) ∧ (¬ (0 ≤ p2 ∧ p2 ≤ 240))) ∨ ((((1 ≤ p1 ∧ p1 ≤ 11) ∧ p2 ≠ (-1) ∧ (G 730 ((b : Int) + 1) 0) ≠ 1) ∨ ((1 ≤ p1 ∧ p1 ≤ 11) ∧ p2 ≠ (-1) ∧ (G 730 ((b : Int) + 1) 0) = 1 ∧ (G 83 ((b : Int) + 10) 0) ≤ p2)) ∧ (0 ≤ p2 ∧ p2 ≤ 240) ∧ (G 730 ((b : Int) + 1) 0) = 2)) → EX e b m m_C_danger Z kc ks 85 [(2, ((b : Int) + 1)), (0, p1), (0, p2), (0, 0), (0, 0), (9, 0)] [] G := by
    intro rJ69
    have h := hJ69 rJ69
    refine e_aload_n d_C_danger_85 rfl ?_
    refine e_bipush d_C_danger_86 (by decide) (by decide) ?_
    refine EV.inv fun hFf70 => ?_
    have f70 := (fx_ct 0 rfl hFf70).1
    refine e_callV m_C_refuse 11 lw_good d_C_danger_88 (k_C_refuse _) ⟨Nat.le_of_ble_eq_true rfl, Nat.le_of_ble_eq_true rfl⟩ w_297 w_299 w_s0 (q_C _) rfl f70 (args := [(0, (-6))]) rfl rfl (Nat.le_of_ble_eq_true rfl) (kc' := kc) (ks' := ks) (mc := 0) (ms := 0) rfl rfl h ?_
    intro v71 G72 h
    exact e_iret d_C_danger_91 rfl h
  have kJ65 : (((1 ≤ p1 ∧ p1 ≤ 11) ∧ p2 ≠ (-1) ∧ (G 730 ((b : Int) + 1) 0) = 1 ∧ p2 < (G 83 ((b : Int) + 10) 0) ∧ (¬ (0 ≤ p2 ∧ p2 ≤ 240))) ∨ ((1 ≤ p1 ∧ p1 ≤ 11) ∧ p2 ≠ (-1) ∧ (G 730 ((b : Int) + 1) 0) = 1 ∧ p2 < (G 83 ((b : Int) + 10) 0) ∧ (0 ≤ p2 ∧ p2 ≤ 240))) → EX e b m m_C_danger Z kc ks 85 [(2, ((b : Int) + 1)), (0, p1), (0, p2), (0, 0), (0, 1), (9, 0)] [] G := by
    intro rJ65
    have h := hJ65 rJ65
    refine e_aload_n d_C_danger_85 rfl ?_
    refine e_bipush d_C_danger_86 (by decide) (by decide) ?_
    refine EV.inv fun hFf66 => ?_
    have f66 := (fx_ct 0 rfl hFf66).1
    refine e_callV m_C_refuse 11 lw_good d_C_danger_88 (k_C_refuse _) ⟨Nat.le_of_ble_eq_true rfl, Nat.le_of_ble_eq_true rfl⟩ w_297 w_299 w_s0 (q_C _) rfl f66 (args := [(0, (-6))]) rfl rfl (Nat.le_of_ble_eq_true rfl) (kc' := kc) (ks' := ks) (mc := 0) (ms := 0) rfl rfl h ?_
    intro v67 G68 h
    exact e_iret d_C_danger_91 rfl h
  have kJ20 : (((1 ≤ p1 ∧ p1 ≤ 11) ∧ p2 = (-1) ∧ (G 730 ((b : Int) + 1) 0) ≠ 1) ∨ ((1 ≤ p1 ∧ p1 ≤ 11) ∧ p2 = (-1) ∧ (G 730 ((b : Int) + 1) 0) = 1)) → EX e b m m_C_danger Z kc ks 54 [(2, ((b : Int) + 1)), (0, p1), (0, p2), (0, 1), (9, 0), (9, 0)] [] G := by
    intro rJ20
    have h := hJ20 rJ20
    refine e_iconst d_C_danger_54 (by decide) ?_
    refine e_istore (ls' := [(2, ((b : Int) + 1)), (0, p1), (0, p2), (0, 1), (0, 0), (9, 0)]) d_C_danger_55 (by decide) rfl ?_
    refine e_iload_n d_C_danger_57 rfl ?_
    refine e_if_ne (tgt := 72) d_C_danger_58 (by decide) (fun q29 => ?_) (fun q30 => ?_)
    · refine e_iload d_C_danger_72 rfl ?_
      refine e_if_ne (tgt := 85) d_C_danger_74 (by decide) (fun q49 => ?_) (fun q50 => ?_)
      · exact absurd q49 (by decide)
      · refine e_aload_n d_C_danger_77 rfl ?_
        refine gx_C_81 d_C_danger_78 rfl ?_
        refine e_iconst d_C_danger_81 (by decide) ?_
        refine e_icmp_ne (tgt := 92) d_C_danger_82 (by decide) (fun q51 => ?_) (fun q52 => ?_)
        · have h := h.1 q51
          refine e_aload_n d_C_danger_92 rfl ?_
          refine gx_C_19 d_C_danger_93 rfl ?_
          refine e_iload_n d_C_danger_96 rfl ?_
          refine e_iload_n d_C_danger_97 rfl ?_
          refine EV.inv fun hFf53 => ?_
          have f53 := (fx_ct 2 rfl hFf53).1
          refine e_callV m_House_changeDanger 2 lw_good d_C_danger_98 (k_House_changeDanger _) ⟨Nat.le_of_ble_eq_true rfl, Nat.le_of_ble_eq_true rfl⟩ w_594 w_595 w_596 (q_House _) rfl f53 (args := [(0, p1), (0, p2)]) rfl rfl (Nat.le_of_ble_eq_true rfl) (kc' := kc) (ks' := ks) (mc := 0) (ms := 0) rfl rfl h ?_
          intro v54 G55 h
          refine e_istore (ls' := [(2, ((b : Int) + 1)), (0, p1), (0, p2), (0, 1), (0, 0), (0, v54)]) d_C_danger_101 (by decide) rfl ?_
          refine e_aload_n d_C_danger_103 rfl ?_
          refine gx_C_81 d_C_danger_104 rfl ?_
          refine e_iconst d_C_danger_107 (by decide) ?_
          refine e_icmp_ne (tgt := 119) d_C_danger_108 (by decide) (fun q56 => ?_) (fun q57 => ?_)
          · have h := h.1 q56
            refine e_iload d_C_danger_119 rfl ?_
            exact e_iret d_C_danger_121 rfl h
          · have h := h.2 q57
            refine e_aload_n d_C_danger_111 rfl ?_
            refine gx_C_28 d_C_danger_112 rfl ?_
            refine EV.inv fun hFf58 => ?_
            have f58 := (fx_ct 9 rfl hFf58).1
            obtain ⟨kc61, ks62, mc63, ms64, hkc61, hks62, h⟩ := h
            refine e_callV m_Hours_makePlan 1 lw_good d_C_danger_115 (k_Hours_makePlan _) ⟨Nat.le_of_ble_eq_true rfl, Nat.le_of_ble_eq_true rfl⟩ w_598 w_599 w_600 (q_Hours _) rfl f58 (args := []) rfl rfl (Nat.le_of_ble_eq_true rfl) (kc' := kc61) (ks' := ks62) (mc := mc63) (ms := ms64) hkc61 hks62 h ?_
            intro v59 G60 h
            refine e_pop d_C_danger_118 (by simp) ?_
            refine e_iload d_C_danger_119 rfl ?_
            exact e_iret d_C_danger_121 rfl h
        · have h := h.2 q52
          refine e_aload_n d_C_danger_85 rfl ?_
          refine e_bipush d_C_danger_86 (by decide) (by decide) ?_
          refine EV.inv fun hFf73 => ?_
          have f73 := (fx_ct 0 rfl hFf73).1
          refine e_callV m_C_refuse 11 lw_good d_C_danger_88 (k_C_refuse _) ⟨Nat.le_of_ble_eq_true rfl, Nat.le_of_ble_eq_true rfl⟩ w_297 w_299 w_s0 (q_C _) rfl f73 (args := [(0, (-6))]) rfl rfl (Nat.le_of_ble_eq_true rfl) (kc' := kc) (ks' := ks) (mc := 0) (ms := 0) rfl rfl h ?_
          intro v74 G75 h
          exact e_iret d_C_danger_91 rfl h
    · exact absurd q30 (by decide)
  have kJ19 : (((1 ≤ p1 ∧ p1 ≤ 11) ∧ p2 ≠ (-1) ∧ (G 730 ((b : Int) + 1) 0) ≠ 1) ∨ ((1 ≤ p1 ∧ p1 ≤ 11) ∧ p2 ≠ (-1) ∧ (G 730 ((b : Int) + 1) 0) = 1 ∧ (G 83 ((b : Int) + 10) 0) ≤ p2)) → EX e b m m_C_danger Z kc ks 54 [(2, ((b : Int) + 1)), (0, p1), (0, p2), (0, 0), (9, 0), (9, 0)] [] G := by
    intro rJ19
    have h := hJ19 rJ19
    refine e_iconst d_C_danger_54 (by decide) ?_
    refine e_istore (ls' := [(2, ((b : Int) + 1)), (0, p1), (0, p2), (0, 0), (0, 0), (9, 0)]) d_C_danger_55 (by decide) rfl ?_
    refine e_iload_n d_C_danger_57 rfl ?_
    refine e_if_ne (tgt := 72) d_C_danger_58 (by decide) (fun q25 => ?_) (fun q26 => ?_)
    · exact absurd q25 (by decide)
    · refine e_iload_n d_C_danger_61 rfl ?_
      refine e_iconst d_C_danger_62 (by decide) ?_
      refine e_sipush d_C_danger_63 (by decide) (by decide) ?_
      refine e_callS m_C_within lw_good d_C_danger_66 (k_C_within _) ⟨Nat.le_of_ble_eq_true rfl, Nat.le_of_ble_eq_true rfl⟩ w_294 w_295 (args := [(0, p2), (0, 0), (0, 240)]) rfl rfl (Nat.le_of_ble_eq_true rfl) (kc' := kc) (ks' := ks) (mc := 0) (ms := 0) rfl rfl (c_C_within) (pureK ?_)
      refine e_if_eq (tgt := 85) d_C_danger_69 (by decide) (fun q27 => ?_) (fun q28 => ?_)
      · replace q27 := gb0.mp q27
        exact kJ69 (Or.inl ⟨rJ19, q27⟩)
      · replace q28 := gb1.mp q28
        have h := h q28
        refine e_iload d_C_danger_72 rfl ?_
        refine e_if_ne (tgt := 85) d_C_danger_74 (by decide) (fun q33 => ?_) (fun q34 => ?_)
        · exact absurd q33 (by decide)
        · refine e_aload_n d_C_danger_77 rfl ?_
          refine gx_C_81 d_C_danger_78 rfl ?_
          refine e_iconst d_C_danger_81 (by decide) ?_
          refine e_icmp_ne (tgt := 92) d_C_danger_82 (by decide) (fun q35 => ?_) (fun q36 => ?_)
          · have h := h q35
            refine e_aload_n d_C_danger_92 rfl ?_
            refine gx_C_19 d_C_danger_93 rfl ?_
            refine e_iload_n d_C_danger_96 rfl ?_
            refine e_iload_n d_C_danger_97 rfl ?_
            refine EV.inv fun hFf37 => ?_
            have f37 := (fx_ct 2 rfl hFf37).1
            refine e_callV m_House_changeDanger 2 lw_good d_C_danger_98 (k_House_changeDanger _) ⟨Nat.le_of_ble_eq_true rfl, Nat.le_of_ble_eq_true rfl⟩ w_594 w_595 w_596 (q_House _) rfl f37 (args := [(0, p1), (0, p2)]) rfl rfl (Nat.le_of_ble_eq_true rfl) (kc' := kc) (ks' := ks) (mc := 0) (ms := 0) rfl rfl h ?_
            intro v38 G39 h
            refine e_istore (ls' := [(2, ((b : Int) + 1)), (0, p1), (0, p2), (0, 0), (0, 0), (0, v38)]) d_C_danger_101 (by decide) rfl ?_
            refine e_aload_n d_C_danger_103 rfl ?_
            refine gx_C_81 d_C_danger_104 rfl ?_
            refine e_iconst d_C_danger_107 (by decide) ?_
            refine e_icmp_ne (tgt := 119) d_C_danger_108 (by decide) (fun q40 => ?_) (fun q41 => ?_)
            · have h := h.1 q40
              refine e_iload d_C_danger_119 rfl ?_
              exact e_iret d_C_danger_121 rfl h
            · have h := h.2 q41
              refine e_aload_n d_C_danger_111 rfl ?_
              refine gx_C_28 d_C_danger_112 rfl ?_
              refine EV.inv fun hFf42 => ?_
              have f42 := (fx_ct 9 rfl hFf42).1
              obtain ⟨kc45, ks46, mc47, ms48, hkc45, hks46, h⟩ := h
              refine e_callV m_Hours_makePlan 1 lw_good d_C_danger_115 (k_Hours_makePlan _) ⟨Nat.le_of_ble_eq_true rfl, Nat.le_of_ble_eq_true rfl⟩ w_598 w_599 w_600 (q_Hours _) rfl f42 (args := []) rfl rfl (Nat.le_of_ble_eq_true rfl) (kc' := kc45) (ks' := ks46) (mc := mc47) (ms := ms48) hkc45 hks46 h ?_
              intro v43 G44 h
              refine e_pop d_C_danger_118 (by simp) ?_
              refine e_iload d_C_danger_119 rfl ?_
              exact e_iret d_C_danger_121 rfl h
          · exact kJ69 (Or.inr ⟨rJ19, q28, q36⟩)
  refine e_iload_n d_C_danger_0 rfl ?_
  refine e_iconst d_C_danger_1 (by decide) ?_
  refine e_bipush d_C_danger_2 (by decide) (by decide) ?_
  refine e_callS m_C_within lw_good d_C_danger_4 (k_C_within _) ⟨Nat.le_of_ble_eq_true rfl, Nat.le_of_ble_eq_true rfl⟩ w_294 w_295 (args := [(0, p1), (0, 1), (0, 11)]) rfl rfl (Nat.le_of_ble_eq_true rfl) (kc' := kc) (ks' := ks) (mc := 0) (ms := 0) rfl rfl (c_C_within) (pureK ?_)
  refine e_if_ne (tgt := 16) d_C_danger_7 (by decide) (fun q1 => ?_) (fun q2 => ?_)
  · replace q1 := gb1.mp q1
    refine e_iload_n d_C_danger_16 rfl ?_
    refine e_iconst d_C_danger_17 (by decide) ?_
    refine e_icmp_ne (tgt := 25) d_C_danger_18 (by decide) (fun q3 => ?_) (fun q4 => ?_)
    · refine e_iconst d_C_danger_25 (by decide) ?_
      refine e_istore_n (ls' := [(2, ((b : Int) + 1)), (0, p1), (0, p2), (0, 0), (9, 0), (9, 0)]) d_C_danger_26 (by decide) rfl ?_
      refine e_aload_n d_C_danger_27 rfl ?_
      refine gx_C_81 d_C_danger_28 rfl ?_
      refine e_iconst d_C_danger_31 (by decide) ?_
      refine e_icmp_ne (tgt := 54) d_C_danger_32 (by decide) (fun q8 => ?_) (fun q9 => ?_)
      · exact kJ19 (Or.inl ⟨q1, q3, q8⟩)
      · refine e_iload_n d_C_danger_35 rfl ?_
        refine e_if_ne (tgt := 54) d_C_danger_36 (by decide) (fun q10 => ?_) (fun q11 => ?_)
        · exact absurd q10 (by decide)
        · refine e_iload_n d_C_danger_39 rfl ?_
          refine e_aload_n d_C_danger_40 rfl ?_
          refine gx_C_28 d_C_danger_41 rfl ?_
          refine EV.inv fun hFf12 => ?_
          have f12 := (fx_ct 9 rfl hFf12).1
          refine e_callV m_Hours_minuteNow 1 lw_good d_C_danger_44 (k_Hours_minuteNow _) ⟨Nat.le_of_ble_eq_true rfl, Nat.le_of_ble_eq_true rfl⟩ w_590 w_591 w_592 (q_Hours _) rfl f12 (args := []) rfl rfl (Nat.le_of_ble_eq_true rfl) (kc' := kc) (ks' := ks) (mc := 0) (ms := 0) rfl rfl (c_Hours_minuteNow) (pureK ?_)
          refine e_icmp_ge (tgt := 54) d_C_danger_47 (by decide) (fun q13 => ?_) (fun q14 => ?_)
          · exact kJ19 (Or.inr ⟨q1, q3, q9, q13⟩)
          · refine e_iconst d_C_danger_50 (by decide) ?_
            refine e_goto (tgt := 55) d_C_danger_51 (by decide) ?_
            refine e_istore (ls' := [(2, ((b : Int) + 1)), (0, p1), (0, p2), (0, 0), (0, 1), (9, 0)]) d_C_danger_55 (by decide) rfl ?_
            refine e_iload_n d_C_danger_57 rfl ?_
            refine e_if_ne (tgt := 72) d_C_danger_58 (by decide) (fun q21 => ?_) (fun q22 => ?_)
            · exact absurd q21 (by decide)
            · refine e_iload_n d_C_danger_61 rfl ?_
              refine e_iconst d_C_danger_62 (by decide) ?_
              refine e_sipush d_C_danger_63 (by decide) (by decide) ?_
              refine e_callS m_C_within lw_good d_C_danger_66 (k_C_within _) ⟨Nat.le_of_ble_eq_true rfl, Nat.le_of_ble_eq_true rfl⟩ w_294 w_295 (args := [(0, p2), (0, 0), (0, 240)]) rfl rfl (Nat.le_of_ble_eq_true rfl) (kc' := kc) (ks' := ks) (mc := 0) (ms := 0) rfl rfl (c_C_within) (pureK ?_)
              refine e_if_eq (tgt := 85) d_C_danger_69 (by decide) (fun q23 => ?_) (fun q24 => ?_)
              · replace q23 := gb0.mp q23
                exact kJ65 (Or.inl ⟨q1, q3, q9, q14, q23⟩)
              · replace q24 := gb1.mp q24
                refine e_iload d_C_danger_72 rfl ?_
                refine e_if_ne (tgt := 85) d_C_danger_74 (by decide) (fun q31 => ?_) (fun q32 => ?_)
                · exact kJ65 (Or.inr ⟨q1, q3, q9, q14, q24⟩)
                · exact absurd q32 (by decide)
    · refine e_iconst d_C_danger_21 (by decide) ?_
      refine e_goto (tgt := 26) d_C_danger_22 (by decide) ?_
      refine e_istore_n (ls' := [(2, ((b : Int) + 1)), (0, p1), (0, p2), (0, 1), (9, 0), (9, 0)]) d_C_danger_26 (by decide) rfl ?_
      refine e_aload_n d_C_danger_27 rfl ?_
      refine gx_C_81 d_C_danger_28 rfl ?_
      refine e_iconst d_C_danger_31 (by decide) ?_
      refine e_icmp_ne (tgt := 54) d_C_danger_32 (by decide) (fun q15 => ?_) (fun q16 => ?_)
      · exact kJ20 (Or.inl ⟨q1, q4, q15⟩)
      · refine e_iload_n d_C_danger_35 rfl ?_
        refine e_if_ne (tgt := 54) d_C_danger_36 (by decide) (fun q17 => ?_) (fun q18 => ?_)
        · exact kJ20 (Or.inr ⟨q1, q4, q16⟩)
        · exact absurd q18 (by decide)
  · replace q2 := gb0.mp q2
    have h := h q2
    refine e_aload_n d_C_danger_10 rfl ?_
    refine e_iconst d_C_danger_11 (by decide) ?_
    refine EV.inv fun hFf5 => ?_
    have f5 := (fx_ct 0 rfl hFf5).1
    refine e_callV m_C_refuse 11 lw_good d_C_danger_12 (k_C_refuse _) ⟨Nat.le_of_ble_eq_true rfl, Nat.le_of_ble_eq_true rfl⟩ w_297 w_299 w_s0 (q_C _) rfl f5 (args := [(0, (-1))]) rfl rfl (Nat.le_of_ble_eq_true rfl) (kc' := kc) (ks' := ks) (mc := 0) (ms := 0) rfl rfl h ?_
    intro v6 G7 h
    exact e_iret d_C_danger_15 rfl h
theorem c_makePlan {e : gE} {b : Nat} {m : Int} {G : gH} {A : zA} {T Q P : Int → Int} (hR : zRo e b m G A T Q P) (hB : zB 512 A) (hI : zIr A) (hWf : zWf A) (hph : A 788 0 = 1) : GX e b m m_Hours_makePlan [(2, ((b : Int) + 10))] G 32 1280 (fun v G1 => v = (zfPlans A).1 ∧ zRc e b m G1 (zfPlans A).2 T Q P ∧ zRf m G G1) := by
  refine GM.tg fun hTg => GM.inv fun hF => ?_
  have hr := hR
  obtain ⟨⟨-, r2, -⟩, hT, -⟩ := hr
  have rule : ¬ (A 795 0 ≠ 0 ∧ zRooms A ≤ 8) → GX e b m m_Planner_makeByRule [(2, ((b : Int) + 12)), (0, A 789 0), (0, A 790 0)] G 32 1280 (fun v G1 => GX e b m m_Planner_takeAsThePlan [(2, ((b : Int) + 12))] G1 0 0 (fun _ G2 => v = (zfPlans A).1 ∧ zRc e b m G2 (zfPlans A).2 T Q P ∧ zRf m G G2)) := fun h => by
    refine GM.mono (c_makeByRule hR hB hI hWf hph) ?_
    rintro v G1 ⟨rfl, k⟩
    refine GM.mono (c_takes hTg hF hR hB k) ?_
    rintro _ G2 ⟨k1, k2⟩
    unfold zfPlans zPn
    rw [if_neg h]
    exact ⟨rfl, k1, k2⟩
  have best : A 795 0 ≠ 0 ∧ zRooms A ≤ 8 → GX e b m m_Planner_makeByBest [(2, ((b : Int) + 12)), (0, A 789 0), (0, A 790 0)] G 32 1280 (fun v G1 => GX e b m m_Planner_takeAsThePlan [(2, ((b : Int) + 12))] G1 0 0 (fun _ G2 => v = (zfPlans A).1 ∧ zRc e b m G2 (zfPlans A).2 T Q P ∧ zRf m G G2)) := fun h => by
    refine GM.mono (c_makeByBest hR hB hI hWf hph h.2) ?_
    rintro v G1 ⟨rfl, k⟩
    refine GM.mono (c_takes hTg hF hR hB k) ?_
    rintro _ G2 ⟨k1, k2⟩
    unfold zfPlans zPn
    rw [if_pos h]
    exact ⟨rfl, k1, k2⟩
  refine GM.ofEV (by decide) (Nat.le_of_ble_eq_true rfl) (sg_Hours_makePlan_0 ?_)
  rw [r2.1, r2.2.1, r2.2.2.1]
  refine ⟨fun c => ⟨0, 0, 32, 1280, rfl, rfl, rule (fun z => z.1 c)⟩, fun c => GM.mono (c_inRooms hT hB) ?_⟩
  rintro v G1 ⟨rfl, rfl⟩
  rw [r2.1, r2.2.1]
  exact ⟨fun c2 => ⟨0, 0, 32, 1280, rfl, rfl, rule (fun z => by omega)⟩, fun c2 => ⟨0, 0, 32, 1280, rfl, rfl, best ⟨c, c2⟩⟩⟩
theorem c_mkp {e : gE} {b : Nat} {m : Int} {G G1 : gH} {A : zA} {T Q P : Int → Int} (hR : zRo e b m G1 A T Q P) (hB : zB 512 A) (hI : zIr A) (hWf : zWf A) (hph : A 788 0 = 1) (rf : zRf m G G1) : GX e b m m_Hours_makePlan [(2, ((b : Int) + 10))] G1 32 1280 (zCQ e b m G (zfPlans A)) := by
  refine GM.mono (c_makePlan hR hB hI hWf hph) ?_
  rintro v G2 ⟨k1, k2, k3⟩
  exact ⟨k1, zRc_r k2, zRf_t rf k3⟩
/-- cells of the class itself have changed, ahead of a plan -/
theorem zRo_st {e : gE} {b : Nat} {m : Int} {G G1 : gH} {A B : zA} {ks : List Nat} {T Q P : Int → Int} (hR : zRc e b m G A T Q P) (d : zDyn m G G1) (q : zCh ks A B) (hk : ∀ k ∈ [785, 794, 7, 8, 9, 10, 11, 12, 13, 32, 33, 34, 35, 36, 37, 38, 14, 786, 15, 16, 17, 787, 23, 24, 25, 26, 27, 28], k ∉ ks) (K : zR1 b G A → zR2 b G A → zR3 b G A → zR4 b G A → zR1 b G1 B ∧ zR2 b G1 B ∧ zR3 b G1 B ∧ zR4 b G1 B) : zRo e b m G1 B T Q P := by
  obtain ⟨⟨r1, r2, r3, r4⟩, hT, hQ, hP, hJ, hD⟩ := hR
  obtain ⟨⟨x1, y1, z1⟩, ⟨x2, y2, z2⟩, ⟨x3, y3, z3⟩⟩ := zRj0_J hJ
  have sub : ∀ l : List Nat, (∀ k ∈ l, k ∈ [785, 794, 7, 8, 9, 10, 11, 12, 13, 32, 33, 34, 35, 36, 37, 38, 14, 786, 15, 16, 17, 787, 23, 24, 25, 26, 27, 28]) → ∀ k ∈ l, k ∉ ks := fun l w k z => hk k (w k z)
  refine ⟨K r1 r2 r3 r4, ?_, zRkQ_A q (sub _ (by decide)) (zRkQ_dyn d hQ), zRkP_A q (sub _ (by decide)) (zRkP_dyn d hP), ⟨⟨x1, y1, zAL_dyn d (by decide) z1⟩, ⟨x2, y2, zAL_dyn d (by decide) z2⟩, ⟨x3, y3, zAL_dyn d (by decide) z3⟩⟩, zDst_dyn d hD⟩
  rw [zTau_c q (sub _ (by decide))]
  exact zRkT_B q (sub _ (by decide)) (zRkT_dyn d hT)
theorem zWf_Ws {A B : zA} (h : zWf A) (e : zWay B = zWay A) : zWf (zWs B) := by
  refine ⟨by rw [zWay_s, e]; exact h.1, fun _ r r1 r2 => ?_⟩
  rw [zWay_s]
  exact zV_in ⟨r1, r2⟩
theorem c_C_alarm {e : gE} {b : Nat} {m : Int} {G : gH} {A : zA} {p1 : Int} (hR : zRel e b m G A) (hB : zB 512 A) (hI : zIr A) (hWf : zWf A) : GX e b m m_C_alarm [(2, ((b : Int) + 1)), (0, p1)] G 32 1280 (zCQ e b m G (zfAlarm A p1)) := by
  refine GM.inv fun hF => ?_
  have hlo := fx_lo hF
  have hr := hR
  obtain ⟨T, Q, P, hc⟩ := hr
  have r2 := hc.1.2.1
  refine GM.ofEV (by decide) (Nat.le_of_ble_eq_true rfl) (sg_C_alarm_0 ?_)
  rw [r2.2.2.2.1]
  refine ⟨fun q1 q2 => ?_, fun q => ?_⟩
  · rintro _ rfl
    refine ⟨0, 0, 32, 1280, rfl, rfl, GM.ofEV (by decide) (Nat.le_of_ble_eq_true rfl) (sg_Hours_ring_0 ?_)⟩
    rintro _ rfl
    refine ⟨0, 0, 32, 1280, rfl, rfl, ?_⟩
    rw [show zfAlarm A p1 = zfPlans (zWs (zU (zU A 790 0 p1) 788 0 1)) from by unfold zfAlarm; rw [if_neg (by omega)]]
    have qc : zCh [790, 788, 6] A (zWs (zU (zU A 790 0 p1) 788 0 1)) := zCh_t (zCh_t zCh_u zCh_u) zCh_Ws
    have sx : zSx b [(730, 1), (84, 10)] G (gU (gU G 730 ((b : Int) + 1) 0 1) 84 ((b : Int) + 10) 0 p1) := zSx_t zSx_u zSx_u
    have ew : zWay (zU (zU A 790 0 p1) 788 0 1) = zWay A := zWay_c (fun k z => funext fun i => by rw [zU_k (by omega), zU_k (by omega)])
    have dy : zDyn m G (gU (gU G 730 ((b : Int) + 1) 0 1) 84 ((b : Int) + 10) 0 p1) := zDyn_t (zDyn_u (by omega) (by decide)) (zDyn_u (by omega) (by decide))
    refine c_mkp (T := T) (Q := Q) (P := P) (zRo_st hc dy qc (by decide) (fun r1 r2 r3 r4 => ⟨⟨fun i i1 i2 => ?_, fun r y1 y2 => ?_, ?_⟩, ⟨?_, ?_, ?_, ?_, ?_⟩, zR3_A qc (by decide) (zR3_G sx (by decide) r3), zR4_A qc (by decide) (zR4_G sx (by decide) r4)⟩)) (zB_Ws (zB_u (zB_u hB ⟨by show (0 : Int) ≤ p1; omega, by show p1 ≤ 240; omega⟩) (by decide))) (zIr_k hI (fun i => by rw [qc 11 (by decide)])) (zWf_Ws hWf ew) (by rw [zWs_k (by decide), zU_eq]) (zRf_t (zRf_u (Or.inl (by omega))) (zRf_u (Or.inl (by omega))))
    · have w := r1.1 i i1 i2
      rw [qc 1 (by decide), qc 2 (by decide), qc 3 (by decide), qc 4 (by decide), sx 1 4 i (by decide) (by decide) (by decide) (by decide), sx 1 5 i (by decide) (by decide) (by decide) (by decide), sx 1 6 i (by decide) (by decide) (by decide) (by decide), sx 1 7 i (by decide) (by decide) (by decide) (by decide)]
      exact w
    · rw [zWay_s, ew, qc 5 (by decide), sx 1 8 r (by decide) (by decide) (by decide) (by decide), sx 1 9 r (by decide) (by decide) (by decide) (by decide)]
      exact r1.2.1 r y1 y2
    · rw [qc 784 (by decide), sx 150 3 0 (by decide) (by decide) (by decide) (by decide)]
      exact r1.2.2
    · rw [qc 789 (by decide), sx 83 10 0 (by decide) (by decide) (by decide) (by decide)]
      exact r2.1
    · rw [gU_eq, zWs_k (by decide), zU_k (by decide), zU_eq]
    · rw [qc 795 (by decide), sx 85 10 0 (by decide) (by decide) (by decide) (by decide)]
      exact r2.2.2.1
    · rw [gU_c _ (by decide), gU_eq, zWs_k (by decide), zU_eq]
    · rw [qc 793 (by decide), sx 729 1 0 (by decide) (by decide) (by decide) (by decide)]
      exact r2.2.2.2.2
  · rw [show zfAlarm A p1 = zNo A (-6) from by unfold zfAlarm; rw [if_pos (by omega)]]
    exact c_C_refuse hR hB (by decide)
