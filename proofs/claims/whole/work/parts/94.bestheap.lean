/-! THE CLASS, 39: the plan by best is made -/
set_option maxRecDepth 20000 in
set_option maxHeartbeats 4000000 in
theorem sg_Planner_shiftOf_0 {e : gE} {b : Nat} {m : Int} {Z : Int → gH → Prop} {kc ks : Nat} {G : gH} {p0 : Int} (h : (G 0 p0 0 = 10) ∧ (G 0 p0 0 = 10) ∧ (inI (15 - (G 592 p0 0))) ∧ (inI (2 * (15 - (G 592 p0 0)))) ∧ Z (2 * (15 - (G 592 p0 0))) G) : EX e b m m_Planner_shiftOf Z kc ks 0 [(2, p0)] [] G := by
  refine e_iconst d_Planner_shiftOf_0 (by decide) ?_
  refine e_bipush d_Planner_shiftOf_1 (by decide) (by decide) ?_
  refine e_aload_n d_Planner_shiftOf_3 rfl ?_
  obtain ⟨o1, o2, h⟩ := h
  refine e_callV m_Thing_number 9 lw_good d_Planner_shiftOf_4 (k_Thing_number _) ⟨Nat.le_of_ble_eq_true rfl, Nat.le_of_ble_eq_true rfl⟩ w_727 w_728 w_729 (q_Thing _) rfl o1 (args := []) rfl rfl (Nat.le_of_ble_eq_true rfl) (kc' := kc) (ks' := ks) (mc := 0) (ms := 0) rfl rfl (c_Thing_number o2) (pureK ?_)
  obtain ⟨o3, h⟩ := h
  refine e_isub d_Planner_shiftOf_7 o3 ?_
  obtain ⟨o4, h⟩ := h
  refine e_imul d_Planner_shiftOf_8 o4 ?_
  exact e_iret d_Planner_shiftOf_9 rfl h
theorem c_Planner_shiftOf {e : gE} {b : Nat} {m : Int} {G : gH} {p0 : Int} (h1 : G 0 p0 0 = 10) (h2 : 0 ≤ G 592 p0 0 ∧ G 592 p0 0 ≤ 15) : GX e b m m_Planner_shiftOf [(2, p0)] G 0 0 (fun v9 G9 => v9 = (2 * (15 - G 592 p0 0) : Int) ∧ G9 = G) := by
  refine GM.ofEV (by decide) (Nat.le_of_ble_eq_true rfl) (sg_Planner_shiftOf_0 ?_)
  repeat' (first | apply And.intro | intro _)
  all_goals first | assumption | rfl | omega | (rw [if_pos (by omega)]) | (rw [if_neg (by omega)])
set_option maxRecDepth 20000 in
set_option maxHeartbeats 4000000 in
theorem sg_Planner_scoreOf_0 {e : gE} {b : Nat} {m : Int} {Z : Int → gH → Prop} {kc ks : Nat} {G : gH} {p0 p1 : Int} (h : (G 0 p0 0 = 10) ∧ (G 0 p0 0 = 10) ∧ (inI (3 - p1)) ∧ (0 ≤ G 592 p0 0 ∧ G 592 p0 0 ≤ 15) ∧ (inL ((glshl (G 594 p0 0) 32) + (glshl (3 - p1) (2 * (15 - G 592 p0 0))))) ∧ Z ((glshl (G 594 p0 0) 32) + (glshl (3 - p1) (2 * (15 - G 592 p0 0)))) G) : EX e b m m_Planner_scoreOf Z kc ks 0 [(2, p0), (0, p1)] [] G := by
  refine e_aload_n d_Planner_scoreOf_0 rfl ?_
  obtain ⟨o1, o2, h⟩ := h
  refine e_callV m_Thing_worth 9 lw_good d_Planner_scoreOf_1 (k_Thing_worth _) ⟨Nat.le_of_ble_eq_true rfl, Nat.le_of_ble_eq_true rfl⟩ w_720 w_721 w_722 (q_Thing _) rfl o1 (args := []) rfl rfl (Nat.le_of_ble_eq_true rfl) (kc' := kc) (ks' := ks) (mc := 0) (ms := 0) rfl rfl (c_Thing_worth o2) (pureK ?_)
  refine e_i2l d_Planner_scoreOf_4 ?_
  refine e_bipush d_Planner_scoreOf_5 (by decide) (by decide) ?_
  refine e_lshl d_Planner_scoreOf_7 ?_
  refine e_iconst d_Planner_scoreOf_8 (by decide) ?_
  refine e_iload_n d_Planner_scoreOf_9 rfl ?_
  obtain ⟨o3, h⟩ := h
  refine e_isub d_Planner_scoreOf_10 o3 ?_
  refine e_i2l d_Planner_scoreOf_11 ?_
  refine e_aload_n d_Planner_scoreOf_12 rfl ?_
  obtain ⟨o4, h⟩ := h
  refine e_callS m_Planner_shiftOf lw_good d_Planner_scoreOf_13 (k_Planner_shiftOf _) ⟨Nat.le_of_ble_eq_true rfl, Nat.le_of_ble_eq_true rfl⟩ w_724 w_725 (args := [(2, p0)]) rfl rfl (Nat.le_of_ble_eq_true rfl) (kc' := kc) (ks' := ks) (mc := 0) (ms := 0) rfl rfl (c_Planner_shiftOf o2 o4) (pureK ?_)
  refine e_lshl d_Planner_scoreOf_16 ?_
  obtain ⟨o5, h⟩ := h
  refine e_ladd d_Planner_scoreOf_17 o5 ?_
  exact e_lret d_Planner_scoreOf_18 rfl h
set_option maxRecDepth 20000 in
set_option maxHeartbeats 4000000 in
theorem sg_Planner_addLengths_0 {e : gE} {b : Nat} {m : Int} {Z : Int → gH → Prop} {kc ks : Nat} {G : gH} {p1 : Int} (h : ∀ G1 : gH, G1 = gU G 1 ((b : Int) + 17) 0 0 → EX e b m m_Planner_addLengths Z kc ks 9 [(2, ((b : Int) + 12)), (0, p1), (0, 0), (9, 0), (9, 0)] [] G1) : EX e b m m_Planner_addLengths Z kc ks 0 [(2, ((b : Int) + 12)), (0, p1), (9, 0), (9, 0), (9, 0)] [] G := by
  refine e_aload_n d_Planner_addLengths_0 rfl ?_
  refine gx_Planner_38 d_Planner_addLengths_1 rfl ?_
  refine e_iconst d_Planner_addLengths_4 (by decide) ?_
  refine e_iconst d_Planner_addLengths_5 (by decide) ?_
  refine xC_iast 16 rfl d_Planner_addLengths_6 (by decide) ?_
  let G1 : gH := gU G 1 ((b : Int) + 17) 0 0
  have h := h G1 rfl
  refine e_iconst d_Planner_addLengths_7 (by decide) ?_
  refine e_istore_n (ls' := [(2, ((b : Int) + 12)), (0, p1), (0, 0), (9, 0), (9, 0)]) d_Planner_addLengths_8 (by decide) rfl ?_
  exact e_forget (ls' := [(2, ((b : Int) + 12)), (0, p1), (0, 0), (9, 0), (9, 0)]) ⟨Or.inr rfl, Or.inr rfl, Or.inr rfl, Or.inl rfl, Or.inl rfl, trivial⟩ h
set_option maxRecDepth 20000 in
set_option maxHeartbeats 4000000 in
theorem sg_Planner_addLengths_9 {e : gE} {b : Nat} {m : Int} {Z : Int → gH → Prop} {kc ks : Nat} {G : gH} {p1 x2 : Int} (h : (x2 < p1 → (G 0 ((b : Int) + 13) 0 = 1) ∧ (x2 < (G 18 ((b : Int) + 13) 0) → EX e b m m_Planner_addLengths Z kc ks 32 [(2, ((b : Int) + 12)), (0, p1), (0, x2), (0, (gshl 1 x2)), (0, 0)] [] G)) ∧ ((p1 ≤ x2 ∨ (x2 < p1 ∧ (G 18 ((b : Int) + 13) 0) ≤ x2)) → Z 0 G)) : EX e b m m_Planner_addLengths Z kc ks 9 [(2, ((b : Int) + 12)), (0, p1), (0, x2), (9, 0), (9, 0)] [] G := by
  obtain ⟨h, hJ7⟩ := h
  have kJ7 : (p1 ≤ x2 ∨ (x2 < p1 ∧ (G 18 ((b : Int) + 13) 0) ≤ x2)) → EX e b m m_Planner_addLengths Z kc ks 91 [(2, ((b : Int) + 12)), (0, p1), (0, x2), (9, 0), (9, 0)] [] G := by
    intro rJ7
    have h := hJ7 rJ7
    exact e_vret d_Planner_addLengths_91 rfl h
  refine e_iload_n d_Planner_addLengths_9 rfl ?_
  refine e_iload_n d_Planner_addLengths_10 rfl ?_
  refine e_icmp_ge (tgt := 91) d_Planner_addLengths_11 (by decide) (fun q1 => ?_) (fun q2 => ?_)
  · exact kJ7 (Or.inl q1)
  · have h := h q2
    refine e_iload_n d_Planner_addLengths_14 rfl ?_
    refine e_aload_n d_Planner_addLengths_15 rfl ?_
    refine gx_Planner_25 d_Planner_addLengths_16 rfl ?_
    refine EV.inv fun hFf3 => ?_
    have f3 := (fx_ct 12 rfl hFf3).1
    obtain ⟨o4, h⟩ := h
    refine e_callV m_AL_size 0 lw_good d_Planner_addLengths_19 (k_AL_size _) ⟨Nat.le_of_ble_eq_true rfl, Nat.le_of_ble_eq_true rfl⟩ w_635 w_330 w_331 (q_AL _) rfl f3 (args := []) rfl rfl (Nat.le_of_ble_eq_true rfl) (kc' := kc) (ks' := ks) (mc := 0) (ms := 0) rfl rfl (c_AL_size o4) (pureK ?_)
    refine e_icmp_ge (tgt := 91) d_Planner_addLengths_22 (by decide) (fun q5 => ?_) (fun q6 => ?_)
    · exact kJ7 (Or.inr ⟨q2, q5⟩)
    · have h := h q6
      refine e_iconst d_Planner_addLengths_25 (by decide) ?_
      refine e_iload_n d_Planner_addLengths_26 rfl ?_
      refine e_ishl d_Planner_addLengths_27 ?_
      refine e_istore_n (ls' := [(2, ((b : Int) + 12)), (0, p1), (0, x2), (0, (gshl 1 x2)), (9, 0)]) d_Planner_addLengths_28 (by decide) rfl ?_
      refine e_iconst d_Planner_addLengths_29 (by decide) ?_
      refine e_istore (ls' := [(2, ((b : Int) + 12)), (0, p1), (0, x2), (0, (gshl 1 x2)), (0, 0)]) d_Planner_addLengths_30 (by decide) rfl ?_
      exact e_forget (ls' := [(2, ((b : Int) + 12)), (0, p1), (0, x2), (0, (gshl 1 x2)), (0, 0)]) ⟨Or.inr rfl, Or.inr rfl, Or.inr rfl, Or.inr rfl, Or.inr rfl, trivial⟩ h
set_option maxRecDepth 20000 in
set_option maxHeartbeats 4000000 in
theorem sg_Planner_addLengths_32 {e : gE} {b : Nat} {m : Int} {Z : Int → gH → Prop} {kc ks : Nat} {G : gH} {p1 x2 x3 x4 : Int} (h : (x4 < x3 → (inI (x4 + x3)) ∧ ((x4 + x3) < 256 → (0 ≤ x4 ∧ x4 < 256) ∧ ((G 0 ((b : Int) + 13) 0 = 1) ∧ ((G 0 (G 17 ((b : Int) + 13) 0) 0 = 103) ∧ ((0 ≤ x2 ∧ x2 < G 18 ((b : Int) + 13) 0) ∧ ((G 18 ((b : Int) + 13) 0 ≤ G 0 (G 17 ((b : Int) + 13) 0) 1) ∧ ((G 0 (G 3 (G 17 ((b : Int) + 13) 0) x2) 0 = 10) ∧ ((G 0 (G 3 (G 17 ((b : Int) + 13) 0) x2) 0 = 10) ∧ ((inI ((G 1 ((b : Int) + 17) x4) + (G 602 (G 3 (G 17 ((b : Int) + 13) 0) x2) 0))) ∧ ((0 ≤ (x4 + x3) ∧ (x4 + x3) < 256) ∧ (∀ G16 : gH, G16 = gU G 1 ((b : Int) + 17) (x4 + x3) ((G 1 ((b : Int) + 17) x4) + (G 602 (G 3 (G 17 ((b : Int) + 13) 0) x2) 0)) → (inI (x4 + 1)) ∧ EX e b m m_Planner_addLengths Z kc ks 32 [(2, ((b : Int) + 12)), (0, p1), (0, x2), (0, x3), (0, (x4 + 1))] [] G16))))))))))) ∧ ((x3 ≤ x4 ∨ (x4 < x3 ∧ 256 ≤ (x4 + x3))) → (inI (x2 + 1)) ∧ EX e b m m_Planner_addLengths Z kc ks 9 [(2, ((b : Int) + 12)), (0, p1), (0, (x2 + 1)), (9, 0), (9, 0)] [] G)) : EX e b m m_Planner_addLengths Z kc ks 32 [(2, ((b : Int) + 12)), (0, p1), (0, x2), (0, x3), (0, x4)] [] G := by
  obtain ⟨h, hJ18⟩ := h
  have kJ18 : (x3 ≤ x4 ∨ (x4 < x3 ∧ 256 ≤ (x4 + x3))) → EX e b m m_Planner_addLengths Z kc ks 85 [(2, ((b : Int) + 12)), (0, p1), (0, x2), (0, x3), (0, x4)] [] G := by
    intro rJ18
    have h := hJ18 rJ18
    obtain ⟨o19, h⟩ := h
    refine e_iinc (ls' := [(2, ((b : Int) + 12)), (0, p1), (0, (x2 + 1)), (0, x3), (0, x4)]) d_Planner_addLengths_85 rfl (by decide) o19 rfl ?_
    refine e_goto (tgt := 9) d_Planner_addLengths_88 (by decide) ?_
    exact e_forget (ls' := [(2, ((b : Int) + 12)), (0, p1), (0, (x2 + 1)), (9, 0), (9, 0)]) ⟨Or.inr rfl, Or.inr rfl, Or.inr rfl, Or.inl rfl, Or.inl rfl, trivial⟩ h
  refine e_iload d_Planner_addLengths_32 rfl ?_
  refine e_iload_n d_Planner_addLengths_34 rfl ?_
  refine e_icmp_ge (tgt := 85) d_Planner_addLengths_35 (by decide) (fun q1 => ?_) (fun q2 => ?_)
  · exact kJ18 (Or.inl q1)
  · have h := h q2
    refine e_iload d_Planner_addLengths_38 rfl ?_
    refine e_iload_n d_Planner_addLengths_40 rfl ?_
    obtain ⟨o3, h⟩ := h
    refine e_iadd d_Planner_addLengths_41 o3 ?_
    refine e_sipush d_Planner_addLengths_42 (by decide) (by decide) ?_
    refine e_icmp_ge (tgt := 85) d_Planner_addLengths_45 (by decide) (fun q4 => ?_) (fun q5 => ?_)
    · exact kJ18 (Or.inr ⟨q2, q4⟩)
    · have h := h q5
      refine e_aload_n d_Planner_addLengths_48 rfl ?_
      refine gx_Planner_38 d_Planner_addLengths_49 rfl ?_
      refine e_iload d_Planner_addLengths_52 rfl ?_
      refine e_iload_n d_Planner_addLengths_54 rfl ?_
      refine e_iadd d_Planner_addLengths_55 o3 ?_
      refine e_aload_n d_Planner_addLengths_56 rfl ?_
      refine gx_Planner_38 d_Planner_addLengths_57 rfl ?_
      refine e_iload d_Planner_addLengths_60 rfl ?_
      obtain ⟨o6, h⟩ := h
      refine xC_iald 16 rfl d_Planner_addLengths_62 o6 ?_
      refine e_aload_n d_Planner_addLengths_63 rfl ?_
      refine gx_Planner_25 d_Planner_addLengths_64 rfl ?_
      refine e_iload_n d_Planner_addLengths_67 rfl ?_
      refine EV.inv fun hFf7 => ?_
      have f7 := (fx_ct 12 rfl hFf7).1
      obtain ⟨o8, o9, o10, o11, h⟩ := h
      refine e_callV m_AL_get 0 lw_good d_Planner_addLengths_68 (k_AL_get _) ⟨Nat.le_of_ble_eq_true rfl, Nat.le_of_ble_eq_true rfl⟩ w_636 w_607 w_608 (q_AL _) rfl f7 (args := [(0, x2)]) rfl rfl (Nat.le_of_ble_eq_true rfl) (kc' := kc) (ks' := ks) (mc := 0) (ms := 0) rfl rfl (c_AL_get o8 o9 o10 o11) (pureK ?_)
      obtain ⟨o12, h⟩ := h
      refine e_cast 9 d_Planner_addLengths_71 (q_Thing _) w_637 (Or.inr o12) ?_
      obtain ⟨o13, h⟩ := h
      refine e_callV m_Thing_length 9 lw_good d_Planner_addLengths_74 (k_Thing_length _) ⟨Nat.le_of_ble_eq_true rfl, Nat.le_of_ble_eq_true rfl⟩ w_687 w_688 w_689 (q_Thing _) rfl o12 (args := []) rfl rfl (Nat.le_of_ble_eq_true rfl) (kc' := kc) (ks' := ks) (mc := 0) (ms := 0) rfl rfl (c_Thing_length o13) (pureK ?_)
      obtain ⟨o14, h⟩ := h
      refine e_iadd d_Planner_addLengths_77 o14 ?_
      obtain ⟨o15, h⟩ := h
      refine xC_iast 16 rfl d_Planner_addLengths_78 o15 ?_
      let G16 : gH := gU G 1 ((b : Int) + 17) (x4 + x3) ((G 1 ((b : Int) + 17) x4) + (G 602 (G 3 (G 17 ((b : Int) + 13) 0) x2) 0))
      have h := h G16 rfl
      obtain ⟨o17, h⟩ := h
      refine e_iinc (ls' := [(2, ((b : Int) + 12)), (0, p1), (0, x2), (0, x3), (0, (x4 + 1))]) d_Planner_addLengths_79 rfl (by decide) o17 rfl ?_
      refine e_goto (tgt := 32) d_Planner_addLengths_82 (by decide) ?_
      exact e_forget (ls' := [(2, ((b : Int) + 12)), (0, p1), (0, x2), (0, x3), (0, (x4 + 1))]) ⟨Or.inr rfl, Or.inr rfl, Or.inr rfl, Or.inr rfl, Or.inr rfl, trivial⟩ h
set_option maxRecDepth 20000 in
set_option maxHeartbeats 4000000 in
theorem sg_Planner_scoreTeam_0 {e : gE} {b : Nat} {m : Int} {Z : Int → gH → Prop} {kc ks : Nat} {G : gH} {p1 p2 p3 p4 : Int} (h : (G 0 p2 0 = 9) ∧ (G 0 p2 0 = 9) ∧ GX e b m m_Sets_clear [(2, ((b : Int) + 16))] G 0 0 (fun _ G4 => EX e b m m_Planner_scoreTeam Z kc ks 17 [(2, ((b : Int) + 12)), (0, p1), (2, p2), (9, 0), (0, p4), (0, (if G 529 p2 0 < p3 then p3 else G 529 p2 0)), (0, 0), (9, 0), (9, 0), (9, 0), (9, 0), (9, 0), (9, 0)] [] G4)) : EX e b m m_Planner_scoreTeam Z kc ks 0 [(2, ((b : Int) + 12)), (0, p1), (2, p2), (0, p3), (0, p4), (9, 0), (9, 0), (9, 0), (9, 0), (9, 0), (9, 0), (9, 0), (9, 0)] [] G := by
  refine e_aload_n d_Planner_scoreTeam_0 rfl ?_
  refine e_iload_n d_Planner_scoreTeam_1 rfl ?_
  obtain ⟨o1, o2, h⟩ := h
  refine e_callV m_Team_freeFrom 8 lw_good d_Planner_scoreTeam_2 (k_Team_freeFrom _) ⟨Nat.le_of_ble_eq_true rfl, Nat.le_of_ble_eq_true rfl⟩ w_703 w_704 w_705 (q_Team _) rfl o1 (args := [(0, p3)]) rfl rfl (Nat.le_of_ble_eq_true rfl) (kc' := kc) (ks' := ks) (mc := 0) (ms := 0) rfl rfl (c_Team_freeFrom o2) (pureK ?_)
  refine e_istore (ls' := [(2, ((b : Int) + 12)), (0, p1), (2, p2), (0, p3), (0, p4), (0, (if G 529 p2 0 < p3 then p3 else G 529 p2 0)), (9, 0), (9, 0), (9, 0), (9, 0), (9, 0), (9, 0), (9, 0)]) d_Planner_scoreTeam_5 (by decide) rfl ?_
  refine e_aload_n d_Planner_scoreTeam_7 rfl ?_
  refine gx_Planner_35 d_Planner_scoreTeam_8 rfl ?_
  refine e_callS m_Sets_clear lw_good d_Planner_scoreTeam_11 (k_Sets_clear _) ⟨Nat.le_of_ble_eq_true rfl, Nat.le_of_ble_eq_true rfl⟩ w_691 w_692 (args := [(2, ((b : Int) + 16))]) rfl rfl (Nat.le_of_ble_eq_true rfl) (kc' := kc) (ks' := ks) (mc := 0) (ms := 0) rfl rfl h ?_
  intro v3 G4 h
  refine e_iconst d_Planner_scoreTeam_14 (by decide) ?_
  refine e_istore (ls' := [(2, ((b : Int) + 12)), (0, p1), (2, p2), (0, p3), (0, p4), (0, (if G 529 p2 0 < p3 then p3 else G 529 p2 0)), (0, 0), (9, 0), (9, 0), (9, 0), (9, 0), (9, 0), (9, 0)]) d_Planner_scoreTeam_15 (by decide) rfl ?_
  exact e_forget (ls' := [(2, ((b : Int) + 12)), (0, p1), (2, p2), (9, 0), (0, p4), (0, (if G 529 p2 0 < p3 then p3 else G 529 p2 0)), (0, 0), (9, 0), (9, 0), (9, 0), (9, 0), (9, 0), (9, 0)]) ⟨Or.inr rfl, Or.inr rfl, Or.inr rfl, Or.inl rfl, Or.inr rfl, Or.inr rfl, Or.inr rfl, Or.inl rfl, Or.inl rfl, Or.inl rfl, Or.inl rfl, Or.inl rfl, Or.inl rfl, trivial⟩ h
set_option maxRecDepth 20000 in
set_option maxHeartbeats 4000000 in
theorem sg_Planner_scoreTeam_17 {e : gE} {b : Nat} {m : Int} {Z : Int → gH → Prop} {kc ks : Nat} {G : gH} {p1 p2 p4 x5 x6 : Int} (h : (x6 < p4 → (G 0 ((b : Int) + 13) 0 = 1) ∧ (x6 < (G 18 ((b : Int) + 13) 0) → (G 0 (G 17 ((b : Int) + 13) 0) 0 = 103) ∧ ((0 ≤ x6 ∧ x6 < G 18 ((b : Int) + 13) 0) ∧ ((G 18 ((b : Int) + 13) 0 ≤ G 0 (G 17 ((b : Int) + 13) 0) 1) ∧ ((G 0 (G 3 (G 17 ((b : Int) + 13) 0) x6) 0 = 10) ∧ ((G 0 (G 3 (G 17 ((b : Int) + 13) 0) x6) 0 = 10) ∧ ((G 0 p2 0 = 9) ∧ ((G 0 p2 0 = 9) ∧ (((G 595 (G 3 (G 17 ((b : Int) + 13) 0) x6) 0) ≤ (G 528 p2 0) → GX e b m m_Planner_scoreOf [(2, (G 3 (G 17 ((b : Int) + 13) 0) x6)), (0, p1)] G 0 0 (fun v17 G18 => EX e b m m_Planner_scoreTeam Z kc ks 85 [(2, ((b : Int) + 12)), (0, p1), (2, p2), (9, 0), (0, p4), (0, x5), (0, x6), (2, (G 3 (G 17 ((b : Int) + 13) 0) x6)), (1, v17), (9, 0), (0, (gshl 1 x6)), (0, 0), (9, 0)] [] G18)) ∧ ((G 528 p2 0) < (G 595 (G 3 (G 17 ((b : Int) + 13) 0) x6) 0) → EX e b m m_Planner_scoreTeam Z kc ks 85 [(2, ((b : Int) + 12)), (0, p1), (2, p2), (9, 0), (0, p4), (0, x5), (0, x6), (2, (G 3 (G 17 ((b : Int) + 13) 0) x6)), (1, (-4611686018427387904)), (9, 0), (0, (gshl 1 x6)), (0, 0), (9, 0)] [] G)))))))))) ∧ ((p4 ≤ x6 ∨ (x6 < p4 ∧ (G 18 ((b : Int) + 13) 0) ≤ x6)) → Z 0 G)) : EX e b m m_Planner_scoreTeam Z kc ks 17 [(2, ((b : Int) + 12)), (0, p1), (2, p2), (9, 0), (0, p4), (0, x5), (0, x6), (9, 0), (9, 0), (9, 0), (9, 0), (9, 0), (9, 0)] [] G := by
  obtain ⟨h, hJ19⟩ := h
  have kJ19 : (p4 ≤ x6 ∨ (x6 < p4 ∧ (G 18 ((b : Int) + 13) 0) ≤ x6)) → EX e b m m_Planner_scoreTeam Z kc ks 173 [(2, ((b : Int) + 12)), (0, p1), (2, p2), (9, 0), (0, p4), (0, x5), (0, x6), (9, 0), (9, 0), (9, 0), (9, 0), (9, 0), (9, 0)] [] G := by
    intro rJ19
    have h := hJ19 rJ19
    exact e_vret d_Planner_scoreTeam_173 rfl h
  refine e_iload d_Planner_scoreTeam_17 rfl ?_
  refine e_iload d_Planner_scoreTeam_19 rfl ?_
  refine e_icmp_ge (tgt := 173) d_Planner_scoreTeam_21 (by decide) (fun q1 => ?_) (fun q2 => ?_)
  · exact kJ19 (Or.inl q1)
  · have h := h q2
    refine e_iload d_Planner_scoreTeam_24 rfl ?_
    refine e_aload_n d_Planner_scoreTeam_26 rfl ?_
    refine gx_Planner_25 d_Planner_scoreTeam_27 rfl ?_
    refine EV.inv fun hFf3 => ?_
    have f3 := (fx_ct 12 rfl hFf3).1
    obtain ⟨o4, h⟩ := h
    refine e_callV m_AL_size 0 lw_good d_Planner_scoreTeam_30 (k_AL_size _) ⟨Nat.le_of_ble_eq_true rfl, Nat.le_of_ble_eq_true rfl⟩ w_635 w_330 w_331 (q_AL _) rfl f3 (args := []) rfl rfl (Nat.le_of_ble_eq_true rfl) (kc' := kc) (ks' := ks) (mc := 0) (ms := 0) rfl rfl (c_AL_size o4) (pureK ?_)
    refine e_icmp_ge (tgt := 173) d_Planner_scoreTeam_33 (by decide) (fun q5 => ?_) (fun q6 => ?_)
    · exact kJ19 (Or.inr ⟨q2, q5⟩)
    · have h := h q6
      refine e_aload_n d_Planner_scoreTeam_36 rfl ?_
      refine gx_Planner_25 d_Planner_scoreTeam_37 rfl ?_
      refine e_iload d_Planner_scoreTeam_40 rfl ?_
      refine EV.inv fun hFf7 => ?_
      have f7 := (fx_ct 12 rfl hFf7).1
      obtain ⟨o8, o9, o10, h⟩ := h
      refine e_callV m_AL_get 0 lw_good d_Planner_scoreTeam_42 (k_AL_get _) ⟨Nat.le_of_ble_eq_true rfl, Nat.le_of_ble_eq_true rfl⟩ w_636 w_607 w_608 (q_AL _) rfl f7 (args := [(0, x6)]) rfl rfl (Nat.le_of_ble_eq_true rfl) (kc' := kc) (ks' := ks) (mc := 0) (ms := 0) rfl rfl (c_AL_get o4 o8 o9 o10) (pureK ?_)
      obtain ⟨o11, h⟩ := h
      refine e_cast 9 d_Planner_scoreTeam_45 (q_Thing _) w_637 (Or.inr o11) ?_
      refine e_astore (ls' := [(2, ((b : Int) + 12)), (0, p1), (2, p2), (9, 0), (0, p4), (0, x5), (0, x6), (2, (G 3 (G 17 ((b : Int) + 13) 0) x6)), (9, 0), (9, 0), (9, 0), (9, 0), (9, 0)]) d_Planner_scoreTeam_48 (by decide) rfl ?_
      refine e_aload d_Planner_scoreTeam_50 rfl ?_
      obtain ⟨o12, h⟩ := h
      refine e_callV m_Thing_hands 9 lw_good d_Planner_scoreTeam_52 (k_Thing_hands _) ⟨Nat.le_of_ble_eq_true rfl, Nat.le_of_ble_eq_true rfl⟩ w_708 w_709 w_710 (q_Thing _) rfl o11 (args := []) rfl rfl (Nat.le_of_ble_eq_true rfl) (kc' := kc) (ks' := ks) (mc := 0) (ms := 0) rfl rfl (c_Thing_hands o12) (pureK ?_)
      refine e_aload_n d_Planner_scoreTeam_55 rfl ?_
      obtain ⟨o13, o14, h⟩ := h
      refine e_callV m_Team_hands 8 lw_good d_Planner_scoreTeam_56 (k_Team_hands _) ⟨Nat.le_of_ble_eq_true rfl, Nat.le_of_ble_eq_true rfl⟩ w_712 w_713 w_714 (q_Team _) rfl o13 (args := []) rfl rfl (Nat.le_of_ble_eq_true rfl) (kc' := kc) (ks' := ks) (mc := 0) (ms := 0) rfl rfl (c_Team_hands o14) (pureK ?_)
      refine e_icmp_le (tgt := 68) d_Planner_scoreTeam_59 (by decide) (fun q15 => ?_) (fun q16 => ?_)
      · have h := h.1 q15
        refine e_aload d_Planner_scoreTeam_68 rfl ?_
        refine e_iload_n d_Planner_scoreTeam_70 rfl ?_
        refine e_callS m_Planner_scoreOf lw_good d_Planner_scoreTeam_71 (k_Planner_scoreOf _) ⟨Nat.le_of_ble_eq_true rfl, Nat.le_of_ble_eq_true rfl⟩ w_717 w_718 (args := [(2, (G 3 (G 17 ((b : Int) + 13) 0) x6)), (0, p1)]) rfl rfl (Nat.le_of_ble_eq_true rfl) (kc' := kc) (ks' := ks) (mc := 0) (ms := 0) rfl rfl h ?_
        intro v17 G18 h
        refine e_lstore (ls' := [(2, ((b : Int) + 12)), (0, p1), (2, p2), (9, 0), (0, p4), (0, x5), (0, x6), (2, (G 3 (G 17 ((b : Int) + 13) 0) x6)), (1, v17), (9, 0), (9, 0), (9, 0), (9, 0)]) d_Planner_scoreTeam_74 (by decide) rfl ?_
        refine e_iconst d_Planner_scoreTeam_76 (by decide) ?_
        refine e_iload d_Planner_scoreTeam_77 rfl ?_
        refine e_ishl d_Planner_scoreTeam_79 ?_
        refine e_istore (ls' := [(2, ((b : Int) + 12)), (0, p1), (2, p2), (9, 0), (0, p4), (0, x5), (0, x6), (2, (G 3 (G 17 ((b : Int) + 13) 0) x6)), (1, v17), (9, 0), (0, (gshl 1 x6)), (9, 0), (9, 0)]) d_Planner_scoreTeam_80 (by decide) rfl ?_
        refine e_iconst d_Planner_scoreTeam_82 (by decide) ?_
        refine e_istore (ls' := [(2, ((b : Int) + 12)), (0, p1), (2, p2), (9, 0), (0, p4), (0, x5), (0, x6), (2, (G 3 (G 17 ((b : Int) + 13) 0) x6)), (1, v17), (9, 0), (0, (gshl 1 x6)), (0, 0), (9, 0)]) d_Planner_scoreTeam_83 (by decide) rfl ?_
        exact e_forget (ls' := [(2, ((b : Int) + 12)), (0, p1), (2, p2), (9, 0), (0, p4), (0, x5), (0, x6), (2, (G 3 (G 17 ((b : Int) + 13) 0) x6)), (1, v17), (9, 0), (0, (gshl 1 x6)), (0, 0), (9, 0)]) ⟨Or.inr rfl, Or.inr rfl, Or.inr rfl, Or.inl rfl, Or.inr rfl, Or.inr rfl, Or.inr rfl, Or.inr rfl, Or.inr rfl, Or.inl rfl, Or.inr rfl, Or.inr rfl, Or.inl rfl, trivial⟩ h
      · have h := h.2 q16
        refine e_ldc2 (-4611686018427387904) d_Planner_scoreTeam_62 (by decide) (by have h9 := w_716; rw [show (-4611686018427387904 : Int64) = Int64.ofInt (-4611686018427387904) from by decide] at h9; exact h9) ?_
        refine e_goto (tgt := 74) d_Planner_scoreTeam_65 (by decide) ?_
        refine e_lstore (ls' := [(2, ((b : Int) + 12)), (0, p1), (2, p2), (9, 0), (0, p4), (0, x5), (0, x6), (2, (G 3 (G 17 ((b : Int) + 13) 0) x6)), (1, (-4611686018427387904)), (9, 0), (9, 0), (9, 0), (9, 0)]) d_Planner_scoreTeam_74 (by decide) rfl ?_
        refine e_iconst d_Planner_scoreTeam_76 (by decide) ?_
        refine e_iload d_Planner_scoreTeam_77 rfl ?_
        refine e_ishl d_Planner_scoreTeam_79 ?_
        refine e_istore (ls' := [(2, ((b : Int) + 12)), (0, p1), (2, p2), (9, 0), (0, p4), (0, x5), (0, x6), (2, (G 3 (G 17 ((b : Int) + 13) 0) x6)), (1, (-4611686018427387904)), (9, 0), (0, (gshl 1 x6)), (9, 0), (9, 0)]) d_Planner_scoreTeam_80 (by decide) rfl ?_
        refine e_iconst d_Planner_scoreTeam_82 (by decide) ?_
        refine e_istore (ls' := [(2, ((b : Int) + 12)), (0, p1), (2, p2), (9, 0), (0, p4), (0, x5), (0, x6), (2, (G 3 (G 17 ((b : Int) + 13) 0) x6)), (1, (-4611686018427387904)), (9, 0), (0, (gshl 1 x6)), (0, 0), (9, 0)]) d_Planner_scoreTeam_83 (by decide) rfl ?_
        exact e_forget (ls' := [(2, ((b : Int) + 12)), (0, p1), (2, p2), (9, 0), (0, p4), (0, x5), (0, x6), (2, (G 3 (G 17 ((b : Int) + 13) 0) x6)), (1, (-4611686018427387904)), (9, 0), (0, (gshl 1 x6)), (0, 0), (9, 0)]) ⟨Or.inr rfl, Or.inr rfl, Or.inr rfl, Or.inl rfl, Or.inr rfl, Or.inr rfl, Or.inr rfl, Or.inr rfl, Or.inr rfl, Or.inl rfl, Or.inr rfl, Or.inr rfl, Or.inl rfl, trivial⟩ h
set_option maxRecDepth 20000 in
set_option maxHeartbeats 4000000 in
theorem sg_Planner_scoreTeam_85 {e : gE} {b : Nat} {m : Int} {Z : Int → gH → Prop} {kc ks : Nat} {G : gH} {p1 p2 p4 x5 x6 x7 x8 x10 x11 : Int} (h : (x11 < x10 → (inI (x11 + x10)) ∧ ((x11 + x10) < 256 → (0 ≤ x11 ∧ x11 < 256) ∧ ((inI (x5 + (G 1 ((b : Int) + 17) x11))) ∧ ((G 0 x7 0 = 10) ∧ ((G 0 x7 0 = 10) ∧ (((G 603 x7 0) < (x5 + (G 1 ((b : Int) + 17) x11)) → (0 ≤ (x11 + x10) ∧ (x11 + x10) < 256) ∧ (∀ G18 : gH, G18 = gU G 2 ((b : Int) + 16) (x11 + x10) (-4611686018427387904) → (inI (x11 + 1)) ∧ EX e b m m_Planner_scoreTeam Z kc ks 85 [(2, ((b : Int) + 12)), (0, p1), (2, p2), (9, 0), (0, p4), (0, x5), (0, x6), (2, x7), (1, x8), (9, 0), (0, x10), (0, (x11 + 1)), (9, 0)] [] G18)) ∧ ((x5 + (G 1 ((b : Int) + 17) x11)) ≤ (G 603 x7 0) → ((G 2 ((b : Int) + 16) x11) = (-4611686018427387904) ∨ x8 = (-4611686018427387904) ∨ inL ((G 2 ((b : Int) + 16) x11) + x8)) ∧ ((0 ≤ (x11 + x10) ∧ (x11 + x10) < 256) ∧ (∀ G21 : gH, G21 = gU G 2 ((b : Int) + 16) (x11 + x10) (zsm (G 2 ((b : Int) + 16) x11) x8) → (inI (x11 + 1)) ∧ EX e b m m_Planner_scoreTeam Z kc ks 85 [(2, ((b : Int) + 12)), (0, p1), (2, p2), (9, 0), (0, p4), (0, x5), (0, x6), (2, x7), (1, x8), (9, 0), (0, x10), (0, (x11 + 1)), (9, 0)] [] G21))))))))) ∧ ((x10 ≤ x11 ∨ (x11 < x10 ∧ 256 ≤ (x11 + x10))) → (inI (x6 + 1)) ∧ EX e b m m_Planner_scoreTeam Z kc ks 17 [(2, ((b : Int) + 12)), (0, p1), (2, p2), (9, 0), (0, p4), (0, x5), (0, (x6 + 1)), (9, 0), (9, 0), (9, 0), (9, 0), (9, 0), (9, 0)] [] G)) : EX e b m m_Planner_scoreTeam Z kc ks 85 [(2, ((b : Int) + 12)), (0, p1), (2, p2), (9, 0), (0, p4), (0, x5), (0, x6), (2, x7), (1, x8), (9, 0), (0, x10), (0, x11), (9, 0)] [] G := by
  obtain ⟨h, hJ23⟩ := h
  have kJ23 : (x10 ≤ x11 ∨ (x11 < x10 ∧ 256 ≤ (x11 + x10))) → EX e b m m_Planner_scoreTeam Z kc ks 167 [(2, ((b : Int) + 12)), (0, p1), (2, p2), (9, 0), (0, p4), (0, x5), (0, x6), (2, x7), (1, x8), (9, 0), (0, x10), (0, x11), (9, 0)] [] G := by
    intro rJ23
    have h := hJ23 rJ23
    obtain ⟨o24, h⟩ := h
    refine e_iinc (ls' := [(2, ((b : Int) + 12)), (0, p1), (2, p2), (9, 0), (0, p4), (0, x5), (0, (x6 + 1)), (2, x7), (1, x8), (9, 0), (0, x10), (0, x11), (9, 0)]) d_Planner_scoreTeam_167 rfl (by decide) o24 rfl ?_
    refine e_goto (tgt := 17) d_Planner_scoreTeam_170 (by decide) ?_
    exact e_forget (ls' := [(2, ((b : Int) + 12)), (0, p1), (2, p2), (9, 0), (0, p4), (0, x5), (0, (x6 + 1)), (9, 0), (9, 0), (9, 0), (9, 0), (9, 0), (9, 0)]) ⟨Or.inr rfl, Or.inr rfl, Or.inr rfl, Or.inl rfl, Or.inr rfl, Or.inr rfl, Or.inr rfl, Or.inl rfl, Or.inl rfl, Or.inl rfl, Or.inl rfl, Or.inl rfl, Or.inl rfl, trivial⟩ h
  refine e_iload d_Planner_scoreTeam_85 rfl ?_
  refine e_iload d_Planner_scoreTeam_87 rfl ?_
  refine e_icmp_ge (tgt := 167) d_Planner_scoreTeam_89 (by decide) (fun q1 => ?_) (fun q2 => ?_)
  · exact kJ23 (Or.inl q1)
  · have h := h q2
    refine e_iload d_Planner_scoreTeam_92 rfl ?_
    refine e_iload d_Planner_scoreTeam_94 rfl ?_
    obtain ⟨o3, h⟩ := h
    refine e_iadd d_Planner_scoreTeam_96 o3 ?_
    refine e_sipush d_Planner_scoreTeam_97 (by decide) (by decide) ?_
    refine e_icmp_ge (tgt := 167) d_Planner_scoreTeam_100 (by decide) (fun q4 => ?_) (fun q5 => ?_)
    · exact kJ23 (Or.inr ⟨q2, q4⟩)
    · have h := h q5
      refine e_iload d_Planner_scoreTeam_103 rfl ?_
      refine e_aload_n d_Planner_scoreTeam_105 rfl ?_
      refine gx_Planner_38 d_Planner_scoreTeam_106 rfl ?_
      refine e_iload d_Planner_scoreTeam_109 rfl ?_
      obtain ⟨o6, h⟩ := h
      refine xC_iald 16 rfl d_Planner_scoreTeam_111 o6 ?_
      obtain ⟨o7, h⟩ := h
      refine e_iadd d_Planner_scoreTeam_112 o7 ?_
      refine e_aload d_Planner_scoreTeam_113 rfl ?_
      obtain ⟨o8, o9, h⟩ := h
      refine e_callV m_Thing_latest 9 lw_good d_Planner_scoreTeam_115 (k_Thing_latest _) ⟨Nat.le_of_ble_eq_true rfl, Nat.le_of_ble_eq_true rfl⟩ w_731 w_732 w_733 (q_Thing _) rfl o8 (args := []) rfl rfl (Nat.le_of_ble_eq_true rfl) (kc' := kc) (ks' := ks) (mc := 0) (ms := 0) rfl rfl (c_Thing_latest o9) (pureK ?_)
      refine e_icmp_gt (tgt := 125) d_Planner_scoreTeam_118 (by decide) (fun q10 => ?_) (fun q11 => ?_)
      · have h := h.1 q10
        refine e_iconst d_Planner_scoreTeam_125 (by decide) ?_
        refine e_istore (ls' := [(2, ((b : Int) + 12)), (0, p1), (2, p2), (9, 0), (0, p4), (0, x5), (0, x6), (2, x7), (1, x8), (9, 0), (0, x10), (0, x11), (0, 0)]) d_Planner_scoreTeam_126 (by decide) rfl ?_
        refine e_aload_n d_Planner_scoreTeam_128 rfl ?_
        refine gx_Planner_35 d_Planner_scoreTeam_129 rfl ?_
        refine e_iload d_Planner_scoreTeam_132 rfl ?_
        refine e_iload d_Planner_scoreTeam_134 rfl ?_
        refine e_iadd d_Planner_scoreTeam_136 o3 ?_
        refine e_iload d_Planner_scoreTeam_137 rfl ?_
        refine e_if_eq (tgt := 157) d_Planner_scoreTeam_139 (by decide) (fun q12 => ?_) (fun q13 => ?_)
        · refine e_ldc2 (-4611686018427387904) d_Planner_scoreTeam_157 (by decide) (by have h9 := w_716; rw [show (-4611686018427387904 : Int64) = Int64.ofInt (-4611686018427387904) from by decide] at h9; exact h9) ?_
          obtain ⟨o17, h⟩ := h
          refine xC_last 15 rfl d_Planner_scoreTeam_160 o17 ?_
          let G18 : gH := gU G 2 ((b : Int) + 16) (x11 + x10) (-4611686018427387904)
          have h := h G18 rfl
          obtain ⟨o19, h⟩ := h
          refine e_iinc (ls' := [(2, ((b : Int) + 12)), (0, p1), (2, p2), (9, 0), (0, p4), (0, x5), (0, x6), (2, x7), (1, x8), (9, 0), (0, x10), (0, (x11 + 1)), (0, 0)]) d_Planner_scoreTeam_161 rfl (by decide) o19 rfl ?_
          refine e_goto (tgt := 85) d_Planner_scoreTeam_164 (by decide) ?_
          exact e_forget (ls' := [(2, ((b : Int) + 12)), (0, p1), (2, p2), (9, 0), (0, p4), (0, x5), (0, x6), (2, x7), (1, x8), (9, 0), (0, x10), (0, (x11 + 1)), (9, 0)]) ⟨Or.inr rfl, Or.inr rfl, Or.inr rfl, Or.inl rfl, Or.inr rfl, Or.inr rfl, Or.inr rfl, Or.inr rfl, Or.inr rfl, Or.inl rfl, Or.inr rfl, Or.inr rfl, Or.inl rfl, trivial⟩ h
        · exact absurd q13 (by decide)
      · have h := h.2 q11
        refine e_iconst d_Planner_scoreTeam_121 (by decide) ?_
        refine e_goto (tgt := 126) d_Planner_scoreTeam_122 (by decide) ?_
        refine e_istore (ls' := [(2, ((b : Int) + 12)), (0, p1), (2, p2), (9, 0), (0, p4), (0, x5), (0, x6), (2, x7), (1, x8), (9, 0), (0, x10), (0, x11), (0, 1)]) d_Planner_scoreTeam_126 (by decide) rfl ?_
        refine e_aload_n d_Planner_scoreTeam_128 rfl ?_
        refine gx_Planner_35 d_Planner_scoreTeam_129 rfl ?_
        refine e_iload d_Planner_scoreTeam_132 rfl ?_
        refine e_iload d_Planner_scoreTeam_134 rfl ?_
        refine e_iadd d_Planner_scoreTeam_136 o3 ?_
        refine e_iload d_Planner_scoreTeam_137 rfl ?_
        refine e_if_eq (tgt := 157) d_Planner_scoreTeam_139 (by decide) (fun q14 => ?_) (fun q15 => ?_)
        · exact absurd q14 (by decide)
        · refine e_aload_n d_Planner_scoreTeam_142 rfl ?_
          refine gx_Planner_35 d_Planner_scoreTeam_143 rfl ?_
          refine e_iload d_Planner_scoreTeam_146 rfl ?_
          refine xC_lald 15 rfl d_Planner_scoreTeam_148 o6 ?_
          refine e_lload d_Planner_scoreTeam_149 rfl ?_
          obtain ⟨o16, h⟩ := h
          refine e_callS m_Sets_sum lw_good d_Planner_scoreTeam_151 (k_Sets_sum _) ⟨Nat.le_of_ble_eq_true rfl, Nat.le_of_ble_eq_true rfl⟩ w_735 w_736 (args := [(1, (G 2 ((b : Int) + 16) x11)), (1, x8)]) rfl rfl (Nat.le_of_ble_eq_true rfl) (kc' := kc) (ks' := ks) (mc := 0) (ms := 0) rfl rfl (c_Sets_sum o16) (pureK ?_)
          refine e_goto (tgt := 160) d_Planner_scoreTeam_154 (by decide) ?_
          obtain ⟨o20, h⟩ := h
          refine xC_last 15 rfl d_Planner_scoreTeam_160 o20 ?_
          let G21 : gH := gU G 2 ((b : Int) + 16) (x11 + x10) (zsm (G 2 ((b : Int) + 16) x11) x8)
          have h := h G21 rfl
          obtain ⟨o22, h⟩ := h
          refine e_iinc (ls' := [(2, ((b : Int) + 12)), (0, p1), (2, p2), (9, 0), (0, p4), (0, x5), (0, x6), (2, x7), (1, x8), (9, 0), (0, x10), (0, (x11 + 1)), (0, 1)]) d_Planner_scoreTeam_161 rfl (by decide) o22 rfl ?_
          refine e_goto (tgt := 85) d_Planner_scoreTeam_164 (by decide) ?_
          exact e_forget (ls' := [(2, ((b : Int) + 12)), (0, p1), (2, p2), (9, 0), (0, p4), (0, x5), (0, x6), (2, x7), (1, x8), (9, 0), (0, x10), (0, (x11 + 1)), (9, 0)]) ⟨Or.inr rfl, Or.inr rfl, Or.inr rfl, Or.inl rfl, Or.inr rfl, Or.inr rfl, Or.inr rfl, Or.inr rfl, Or.inr rfl, Or.inl rfl, Or.inr rfl, Or.inr rfl, Or.inl rfl, trivial⟩ h
set_option maxRecDepth 20000 in
set_option maxHeartbeats 4000000 in
theorem sg_Planner_chooseBy_0 {e : gE} {b : Nat} {m : Int} {Z : Int → gH → Prop} {kc ks : Nat} {G : gH} {p1 : Int} (h : EX e b m m_Planner_chooseBy Z kc ks 2 [(2, ((b : Int) + 12)), (1, p1), (9, 0), (0, 0), (9, 0), (9, 0)] [] G) : EX e b m m_Planner_chooseBy Z kc ks 0 [(2, ((b : Int) + 12)), (1, p1), (9, 0), (9, 0), (9, 0), (9, 0)] [] G := by
  refine e_iconst d_Planner_chooseBy_0 (by decide) ?_
  refine e_istore_n (ls' := [(2, ((b : Int) + 12)), (1, p1), (9, 0), (0, 0), (9, 0), (9, 0)]) d_Planner_chooseBy_1 (by decide) rfl ?_
  exact e_forget (ls' := [(2, ((b : Int) + 12)), (1, p1), (9, 0), (0, 0), (9, 0), (9, 0)]) ⟨Or.inr rfl, Or.inr rfl, Or.inl rfl, Or.inr rfl, Or.inl rfl, Or.inl rfl, trivial⟩ h
set_option maxRecDepth 20000 in
set_option maxHeartbeats 4000000 in
theorem sg_Planner_chooseBy_2 {e : gE} {b : Nat} {m : Int} {Z : Int → gH → Prop} {kc ks : Nat} {G : gH} {p1 x3 : Int} (h : (G 0 ((b : Int) + 13) 0 = 1) ∧ (((G 18 ((b : Int) + 13) 0) ≤ x3 → Z 0 G) ∧ (x3 < (G 18 ((b : Int) + 13) 0) → (G 0 (G 17 ((b : Int) + 13) 0) 0 = 103) ∧ ((0 ≤ x3 ∧ x3 < G 18 ((b : Int) + 13) 0) ∧ ((G 18 ((b : Int) + 13) 0 ≤ G 0 (G 17 ((b : Int) + 13) 0) 1) ∧ ((G 0 (G 3 (G 17 ((b : Int) + 13) 0) x3) 0 = 10) ∧ ((G 0 (G 3 (G 17 ((b : Int) + 13) 0) x3) 0 = 10) ∧ ((0 ≤ G 592 (G 3 (G 17 ((b : Int) + 13) 0) x3) 0 ∧ G 592 (G 3 (G 17 ((b : Int) + 13) 0) x3) 0 ≤ 15) ∧ (((gand (w32 (glshr p1 (2 * (15 - G 592 (G 3 (G 17 ((b : Int) + 13) 0) x3) 0)))) 3) ≠ 0 → (inI (3 - (gand (w32 (glshr p1 (2 * (15 - G 592 (G 3 (G 17 ((b : Int) + 13) 0) x3) 0)))) 3))) ∧ GX e b m m_Thing_choose [(2, (G 3 (G 17 ((b : Int) + 13) 0) x3)), (0, (3 - (gand (w32 (glshr p1 (2 * (15 - G 592 (G 3 (G 17 ((b : Int) + 13) 0) x3) 0)))) 3)))] G 0 0 (fun _ G16 => (inI (x3 + 1)) ∧ EX e b m m_Planner_chooseBy Z kc ks 2 [(2, ((b : Int) + 12)), (1, p1), (9, 0), (0, (x3 + 1)), (9, 0), (9, 0)] [] G16)) ∧ ((gand (w32 (glshr p1 (2 * (15 - G 592 (G 3 (G 17 ((b : Int) + 13) 0) x3) 0)))) 3) = 0 → GX e b m m_Thing_choose [(2, (G 3 (G 17 ((b : Int) + 13) 0) x3)), (0, (-1))] G 0 0 (fun _ G19 => (inI (x3 + 1)) ∧ EX e b m m_Planner_chooseBy Z kc ks 2 [(2, ((b : Int) + 12)), (1, p1), (9, 0), (0, (x3 + 1)), (9, 0), (9, 0)] [] G19))))))))))) : EX e b m m_Planner_chooseBy Z kc ks 2 [(2, ((b : Int) + 12)), (1, p1), (9, 0), (0, x3), (9, 0), (9, 0)] [] G := by
  refine e_iload_n d_Planner_chooseBy_2 rfl ?_
  refine e_aload_n d_Planner_chooseBy_3 rfl ?_
  refine gx_Planner_25 d_Planner_chooseBy_4 rfl ?_
  refine EV.inv fun hFf1 => ?_
  have f1 := (fx_ct 12 rfl hFf1).1
  obtain ⟨o2, h⟩ := h
  refine e_callV m_AL_size 0 lw_good d_Planner_chooseBy_7 (k_AL_size _) ⟨Nat.le_of_ble_eq_true rfl, Nat.le_of_ble_eq_true rfl⟩ w_635 w_330 w_331 (q_AL _) rfl f1 (args := []) rfl rfl (Nat.le_of_ble_eq_true rfl) (kc' := kc) (ks' := ks) (mc := 0) (ms := 0) rfl rfl (c_AL_size o2) (pureK ?_)
  refine e_icmp_ge (tgt := 62) d_Planner_chooseBy_10 (by decide) (fun q3 => ?_) (fun q4 => ?_)
  · have h := h.1 q3
    exact e_vret d_Planner_chooseBy_62 rfl h
  · have h := h.2 q4
    refine e_aload_n d_Planner_chooseBy_13 rfl ?_
    refine gx_Planner_25 d_Planner_chooseBy_14 rfl ?_
    refine e_iload_n d_Planner_chooseBy_17 rfl ?_
    refine EV.inv fun hFf5 => ?_
    have f5 := (fx_ct 12 rfl hFf5).1
    obtain ⟨o6, o7, o8, h⟩ := h
    refine e_callV m_AL_get 0 lw_good d_Planner_chooseBy_18 (k_AL_get _) ⟨Nat.le_of_ble_eq_true rfl, Nat.le_of_ble_eq_true rfl⟩ w_636 w_607 w_608 (q_AL _) rfl f5 (args := [(0, x3)]) rfl rfl (Nat.le_of_ble_eq_true rfl) (kc' := kc) (ks' := ks) (mc := 0) (ms := 0) rfl rfl (c_AL_get o2 o6 o7 o8) (pureK ?_)
    obtain ⟨o9, h⟩ := h
    refine e_cast 9 d_Planner_chooseBy_21 (q_Thing _) w_637 (Or.inr o9) ?_
    refine e_astore (ls' := [(2, ((b : Int) + 12)), (1, p1), (9, 0), (0, x3), (2, (G 3 (G 17 ((b : Int) + 13) 0) x3)), (9, 0)]) d_Planner_chooseBy_24 (by decide) rfl ?_
    refine e_lload_n d_Planner_chooseBy_26 rfl ?_
    refine e_aload d_Planner_chooseBy_27 rfl ?_
    obtain ⟨o10, o11, h⟩ := h
    refine e_callS m_Planner_shiftOf lw_good d_Planner_chooseBy_29 (k_Planner_shiftOf _) ⟨Nat.le_of_ble_eq_true rfl, Nat.le_of_ble_eq_true rfl⟩ w_724 w_725 (args := [(2, (G 3 (G 17 ((b : Int) + 13) 0) x3))]) rfl rfl (Nat.le_of_ble_eq_true rfl) (kc' := kc) (ks' := ks) (mc := 0) (ms := 0) rfl rfl (c_Planner_shiftOf o10 o11) (pureK ?_)
    refine e_lshr d_Planner_chooseBy_32 ?_
    refine e_l2i d_Planner_chooseBy_33 ?_
    refine e_iconst d_Planner_chooseBy_34 (by decide) ?_
    refine e_iand d_Planner_chooseBy_35 ?_
    refine e_istore (ls' := [(2, ((b : Int) + 12)), (1, p1), (9, 0), (0, x3), (2, (G 3 (G 17 ((b : Int) + 13) 0) x3)), (0, (gand (w32 (glshr p1 (2 * (15 - G 592 (G 3 (G 17 ((b : Int) + 13) 0) x3) 0)))) 3))]) d_Planner_chooseBy_36 (by decide) rfl ?_
    refine e_aload d_Planner_chooseBy_38 rfl ?_
    refine e_iload d_Planner_chooseBy_40 rfl ?_
    refine e_if_ne (tgt := 49) d_Planner_chooseBy_42 (by decide) (fun q12 => ?_) (fun q13 => ?_)
    · have h := h.1 q12
      refine e_iconst d_Planner_chooseBy_49 (by decide) ?_
      refine e_iload d_Planner_chooseBy_50 rfl ?_
      obtain ⟨o14, h⟩ := h
      refine e_isub d_Planner_chooseBy_52 o14 ?_
      refine e_callV m_Thing_choose 9 lw_good d_Planner_chooseBy_53 (k_Thing_choose _) ⟨Nat.le_of_ble_eq_true rfl, Nat.le_of_ble_eq_true rfl⟩ w_758 w_759 w_760 (q_Thing _) rfl o9 (args := [(0, (3 - (gand (w32 (glshr p1 (2 * (15 - G 592 (G 3 (G 17 ((b : Int) + 13) 0) x3) 0)))) 3)))]) rfl rfl (Nat.le_of_ble_eq_true rfl) (kc' := kc) (ks' := ks) (mc := 0) (ms := 0) rfl rfl h ?_
      intro v15 G16 h
      obtain ⟨o17, h⟩ := h
      refine e_iinc (ls' := [(2, ((b : Int) + 12)), (1, p1), (9, 0), (0, (x3 + 1)), (2, (G 3 (G 17 ((b : Int) + 13) 0) x3)), (0, (gand (w32 (glshr p1 (2 * (15 - G 592 (G 3 (G 17 ((b : Int) + 13) 0) x3) 0)))) 3))]) d_Planner_chooseBy_56 rfl (by decide) o17 rfl ?_
      refine e_goto (tgt := 2) d_Planner_chooseBy_59 (by decide) ?_
      exact e_forget (ls' := [(2, ((b : Int) + 12)), (1, p1), (9, 0), (0, (x3 + 1)), (9, 0), (9, 0)]) ⟨Or.inr rfl, Or.inr rfl, Or.inl rfl, Or.inr rfl, Or.inl rfl, Or.inl rfl, trivial⟩ h
    · have h := h.2 q13
      refine e_iconst d_Planner_chooseBy_45 (by decide) ?_
      refine e_goto (tgt := 53) d_Planner_chooseBy_46 (by decide) ?_
      refine e_callV m_Thing_choose 9 lw_good d_Planner_chooseBy_53 (k_Thing_choose _) ⟨Nat.le_of_ble_eq_true rfl, Nat.le_of_ble_eq_true rfl⟩ w_758 w_759 w_760 (q_Thing _) rfl o9 (args := [(0, (-1))]) rfl rfl (Nat.le_of_ble_eq_true rfl) (kc' := kc) (ks' := ks) (mc := 0) (ms := 0) rfl rfl h ?_
      intro v18 G19 h
      obtain ⟨o20, h⟩ := h
      refine e_iinc (ls' := [(2, ((b : Int) + 12)), (1, p1), (9, 0), (0, (x3 + 1)), (2, (G 3 (G 17 ((b : Int) + 13) 0) x3)), (0, (gand (w32 (glshr p1 (2 * (15 - G 592 (G 3 (G 17 ((b : Int) + 13) 0) x3) 0)))) 3))]) d_Planner_chooseBy_56 rfl (by decide) o20 rfl ?_
      refine e_goto (tgt := 2) d_Planner_chooseBy_59 (by decide) ?_
      exact e_forget (ls' := [(2, ((b : Int) + 12)), (1, p1), (9, 0), (0, (x3 + 1)), (9, 0), (9, 0)]) ⟨Or.inr rfl, Or.inr rfl, Or.inl rfl, Or.inr rfl, Or.inl rfl, Or.inl rfl, trivial⟩ h
set_option maxRecDepth 20000 in
set_option maxHeartbeats 4000000 in
theorem sg_Planner_makeByBest_0 {e : gE} {b : Nat} {m : Int} {Z : Int → gH → Prop} {kc ks : Nat} {G : gH} {p1 p2 : Int} (h : ∃ kc4 ks5 mc6 ms7 : Nat, kc = kc4 + mc6 ∧ ks = ks5 + ms7 ∧ GX e b m m_Planner_gather [(2, ((b : Int) + 12)), (0, p2)] G mc6 ms7 (fun _ G3 => (G3 0 ((b : Int) + 13) 0 = 1) ∧ GX e b m m_Planner_addLengths [(2, ((b : Int) + 12)), (0, (if 8 < (G3 18 ((b : Int) + 13) 0) then 8 else (G3 18 ((b : Int) + 13) 0)))] G3 0 0 (fun _ G12 => GX e b m m_Sets_clear [(2, ((b : Int) + 15))] G12 0 0 (fun _ G14 => EX e b m m_Planner_makeByBest Z kc4 ks5 33 [(2, ((b : Int) + 12)), (0, p1), (9, 0), (0, (if 8 < (G3 18 ((b : Int) + 13) 0) then 8 else (G3 18 ((b : Int) + 13) 0))), (0, 0), (9, 0), (9, 0)] [] G14)))) : EX e b m m_Planner_makeByBest Z kc ks 0 [(2, ((b : Int) + 12)), (0, p1), (0, p2), (9, 0), (9, 0), (9, 0), (9, 0)] [] G := by
  refine e_aload_n d_Planner_makeByBest_0 rfl ?_
  refine e_iload_n d_Planner_makeByBest_1 rfl ?_
  refine EV.inv fun hFf1 => ?_
  have f1 := (fx_ct 11 rfl hFf1).1
  obtain ⟨kc4, ks5, mc6, ms7, hkc4, hks5, h⟩ := h
  refine e_callV m_Planner_gather 5 lw_good d_Planner_makeByBest_2 (k_Planner_gather _) ⟨Nat.le_of_ble_eq_true rfl, Nat.le_of_ble_eq_true rfl⟩ w_627 w_629 w_s14 (q_Planner _) rfl f1 (args := [(0, p2)]) rfl rfl (Nat.le_of_ble_eq_true rfl) (kc' := kc4) (ks' := ks5) (mc := mc6) (ms := ms7) hkc4 hks5 h ?_
  intro v2 G3 h
  refine e_aload_n d_Planner_makeByBest_5 rfl ?_
  refine gx_Planner_25 d_Planner_makeByBest_6 rfl ?_
  refine EV.inv fun hFf8 => ?_
  have f8 := (fx_ct 12 rfl hFf8).1
  obtain ⟨o9, h⟩ := h
  refine e_callV m_AL_size 0 lw_good d_Planner_makeByBest_9 (k_AL_size _) ⟨Nat.le_of_ble_eq_true rfl, Nat.le_of_ble_eq_true rfl⟩ w_635 w_330 w_331 (q_AL _) rfl f8 (args := []) rfl rfl (Nat.le_of_ble_eq_true rfl) (kc' := kc4) (ks' := ks5) (mc := 0) (ms := 0) rfl rfl (c_AL_size o9) (pureK ?_)
  refine e_bipush d_Planner_makeByBest_12 (by decide) (by decide) ?_
  refine e_callS m_Math_min_a lw_good d_Planner_makeByBest_14 (k_Math_min_a _) ⟨Nat.le_of_ble_eq_true rfl, Nat.le_of_ble_eq_true rfl⟩ w_682 w_406 (args := [(0, (G3 18 ((b : Int) + 13) 0)), (0, 8)]) rfl rfl (Nat.le_of_ble_eq_true rfl) (kc' := kc4) (ks' := ks5) (mc := 0) (ms := 0) rfl rfl (c_Math_min_a) (pureK ?_)
  refine e_istore_n (ls' := [(2, ((b : Int) + 12)), (0, p1), (0, p2), (0, (if 8 < (G3 18 ((b : Int) + 13) 0) then 8 else (G3 18 ((b : Int) + 13) 0))), (9, 0), (9, 0), (9, 0)]) d_Planner_makeByBest_17 (by decide) rfl ?_
  refine e_aload_n d_Planner_makeByBest_18 rfl ?_
  refine e_iload_n d_Planner_makeByBest_19 rfl ?_
  refine EV.inv fun hFf10 => ?_
  have f10 := (fx_ct 11 rfl hFf10).1
  refine e_callV m_Planner_addLengths 5 lw_good d_Planner_makeByBest_20 (k_Planner_addLengths _) ⟨Nat.le_of_ble_eq_true rfl, Nat.le_of_ble_eq_true rfl⟩ w_683 w_685 w_s18 (q_Planner _) rfl f10 (args := [(0, (if 8 < (G3 18 ((b : Int) + 13) 0) then 8 else (G3 18 ((b : Int) + 13) 0)))]) rfl rfl (Nat.le_of_ble_eq_true rfl) (kc' := kc4) (ks' := ks5) (mc := 0) (ms := 0) rfl rfl h ?_
  intro v11 G12 h
  refine e_aload_n d_Planner_makeByBest_23 rfl ?_
  refine gx_Planner_31 d_Planner_makeByBest_24 rfl ?_
  refine e_callS m_Sets_clear lw_good d_Planner_makeByBest_27 (k_Sets_clear _) ⟨Nat.le_of_ble_eq_true rfl, Nat.le_of_ble_eq_true rfl⟩ w_691 w_692 (args := [(2, ((b : Int) + 15))]) rfl rfl (Nat.le_of_ble_eq_true rfl) (kc' := kc4) (ks' := ks5) (mc := 0) (ms := 0) rfl rfl h ?_
  intro v13 G14 h
  refine e_iconst d_Planner_makeByBest_30 (by decide) ?_
  refine e_istore (ls' := [(2, ((b : Int) + 12)), (0, p1), (0, p2), (0, (if 8 < (G3 18 ((b : Int) + 13) 0) then 8 else (G3 18 ((b : Int) + 13) 0))), (0, 0), (9, 0), (9, 0)]) d_Planner_makeByBest_31 (by decide) rfl ?_
  exact e_forget (ls' := [(2, ((b : Int) + 12)), (0, p1), (9, 0), (0, (if 8 < (G3 18 ((b : Int) + 13) 0) then 8 else (G3 18 ((b : Int) + 13) 0))), (0, 0), (9, 0), (9, 0)]) ⟨Or.inr rfl, Or.inr rfl, Or.inl rfl, Or.inr rfl, Or.inr rfl, Or.inl rfl, Or.inl rfl, trivial⟩ h
set_option maxRecDepth 20000 in
set_option maxHeartbeats 4000000 in
theorem sg_Planner_makeByBest_33 {e : gE} {b : Nat} {m : Int} {Z : Int → gH → Prop} {kc ks : Nat} {G : gH} {p1 x3 x4 : Int} (h : (G 0 ((b : Int) + 11) 0 = 1) ∧ (((G 18 ((b : Int) + 11) 0) ≤ x4 → EX e b m m_Planner_makeByBest Z kc ks 91 [(2, ((b : Int) + 12)), (9, 0), (9, 0), (0, x3), (1, 0), (9, 0), (0, 0)] [] G) ∧ (x4 < (G 18 ((b : Int) + 11) 0) → (G 0 (G 17 ((b : Int) + 11) 0) 0 = 103) ∧ (0 ≤ x4 ∧ x4 < G 18 ((b : Int) + 11) 0) ∧ (G 18 ((b : Int) + 11) 0 ≤ G 0 (G 17 ((b : Int) + 11) 0) 1) ∧ (G 0 (G 3 (G 17 ((b : Int) + 11) 0) x4) 0 = 9) ∧ GX e b m m_Planner_scoreTeam [(2, ((b : Int) + 12)), (0, x4), (2, (G 3 (G 17 ((b : Int) + 11) 0) x4)), (0, p1), (0, x3)] G 0 0 (fun _ G12 => GX e b m m_Sets_join [(2, ((b : Int) + 15)), (2, ((b : Int) + 16)), (0, (gshl 1 x3))] G12 0 0 (fun _ G14 => (inI (x4 + 1)) ∧ EX e b m m_Planner_makeByBest Z kc ks 33 [(2, ((b : Int) + 12)), (0, p1), (9, 0), (0, x3), (0, (x4 + 1)), (9, 0), (9, 0)] [] G14))))) : EX e b m m_Planner_makeByBest Z kc ks 33 [(2, ((b : Int) + 12)), (0, p1), (9, 0), (0, x3), (0, x4), (9, 0), (9, 0)] [] G := by
  refine e_iload d_Planner_makeByBest_33 rfl ?_
  refine e_aload_n d_Planner_makeByBest_35 rfl ?_
  refine gx_Planner_15 d_Planner_makeByBest_36 rfl ?_
  refine EV.inv fun hFf1 => ?_
  have f1 := (fx_ct 10 rfl hFf1).1
  obtain ⟨o2, h⟩ := h
  refine e_callV m_AL_size 0 lw_good d_Planner_makeByBest_39 (k_AL_size _) ⟨Nat.le_of_ble_eq_true rfl, Nat.le_of_ble_eq_true rfl⟩ w_635 w_330 w_331 (q_AL _) rfl f1 (args := []) rfl rfl (Nat.le_of_ble_eq_true rfl) (kc' := kc) (ks' := ks) (mc := 0) (ms := 0) rfl rfl (c_AL_size o2) (pureK ?_)
  refine e_icmp_ge (tgt := 85) d_Planner_makeByBest_42 (by decide) (fun q3 => ?_) (fun q4 => ?_)
  · have h := h.1 q3
    refine e_lconst 0 d_Planner_makeByBest_85 (by decide) (by decide) ?_
    refine e_lstore (ls' := [(2, ((b : Int) + 12)), (0, p1), (9, 0), (0, x3), (1, 0), (9, 0), (9, 0)]) d_Planner_makeByBest_86 (by decide) rfl ?_
    refine e_iconst d_Planner_makeByBest_88 (by decide) ?_
    refine e_istore (ls' := [(2, ((b : Int) + 12)), (0, p1), (9, 0), (0, x3), (1, 0), (9, 0), (0, 0)]) d_Planner_makeByBest_89 (by decide) rfl ?_
    exact e_forget (ls' := [(2, ((b : Int) + 12)), (9, 0), (9, 0), (0, x3), (1, 0), (9, 0), (0, 0)]) ⟨Or.inr rfl, Or.inl rfl, Or.inl rfl, Or.inr rfl, Or.inr rfl, Or.inl rfl, Or.inr rfl, trivial⟩ h
  · have h := h.2 q4
    refine e_aload_n d_Planner_makeByBest_45 rfl ?_
    refine e_iload d_Planner_makeByBest_46 rfl ?_
    refine e_aload_n d_Planner_makeByBest_48 rfl ?_
    refine gx_Planner_15 d_Planner_makeByBest_49 rfl ?_
    refine e_iload d_Planner_makeByBest_52 rfl ?_
    refine EV.inv fun hFf5 => ?_
    have f5 := (fx_ct 10 rfl hFf5).1
    obtain ⟨o6, o7, o8, h⟩ := h
    refine e_callV m_AL_get 0 lw_good d_Planner_makeByBest_54 (k_AL_get _) ⟨Nat.le_of_ble_eq_true rfl, Nat.le_of_ble_eq_true rfl⟩ w_636 w_607 w_608 (q_AL _) rfl f5 (args := [(0, x4)]) rfl rfl (Nat.le_of_ble_eq_true rfl) (kc' := kc) (ks' := ks) (mc := 0) (ms := 0) rfl rfl (c_AL_get o2 o6 o7 o8) (pureK ?_)
    obtain ⟨o9, h⟩ := h
    refine e_cast 8 d_Planner_makeByBest_57 (q_Team _) w_698 (Or.inr o9) ?_
    refine e_iload_n d_Planner_makeByBest_60 rfl ?_
    refine e_iload_n d_Planner_makeByBest_61 rfl ?_
    refine EV.inv fun hFf10 => ?_
    have f10 := (fx_ct 11 rfl hFf10).1
    refine e_callV m_Planner_scoreTeam 5 lw_good d_Planner_makeByBest_62 (k_Planner_scoreTeam _) ⟨Nat.le_of_ble_eq_true rfl, Nat.le_of_ble_eq_true rfl⟩ w_699 w_701 w_s19 (q_Planner _) rfl f10 (args := [(0, x4), (2, (G 3 (G 17 ((b : Int) + 11) 0) x4)), (0, p1), (0, x3)]) rfl rfl (Nat.le_of_ble_eq_true rfl) (kc' := kc) (ks' := ks) (mc := 0) (ms := 0) rfl rfl h ?_
    intro v11 G12 h
    refine e_aload_n d_Planner_makeByBest_65 rfl ?_
    refine gx_Planner_31 d_Planner_makeByBest_66 rfl ?_
    refine e_aload_n d_Planner_makeByBest_69 rfl ?_
    refine gx_Planner_35 d_Planner_makeByBest_70 rfl ?_
    refine e_iconst d_Planner_makeByBest_73 (by decide) ?_
    refine e_iload_n d_Planner_makeByBest_74 rfl ?_
    refine e_ishl d_Planner_makeByBest_75 ?_
    refine e_callS m_Sets_join lw_good d_Planner_makeByBest_76 (k_Sets_join _) ⟨Nat.le_of_ble_eq_true rfl, Nat.le_of_ble_eq_true rfl⟩ w_738 w_739 (args := [(2, ((b : Int) + 15)), (2, ((b : Int) + 16)), (0, (gshl 1 x3))]) rfl rfl (Nat.le_of_ble_eq_true rfl) (kc' := kc) (ks' := ks) (mc := 0) (ms := 0) rfl rfl h ?_
    intro v13 G14 h
    obtain ⟨o15, h⟩ := h
    refine e_iinc (ls' := [(2, ((b : Int) + 12)), (0, p1), (9, 0), (0, x3), (0, (x4 + 1)), (9, 0), (9, 0)]) d_Planner_makeByBest_79 rfl (by decide) o15 rfl ?_
    refine e_goto (tgt := 33) d_Planner_makeByBest_82 (by decide) ?_
    exact e_forget (ls' := [(2, ((b : Int) + 12)), (0, p1), (9, 0), (0, x3), (0, (x4 + 1)), (9, 0), (9, 0)]) ⟨Or.inr rfl, Or.inr rfl, Or.inl rfl, Or.inr rfl, Or.inr rfl, Or.inl rfl, Or.inl rfl, trivial⟩ h
set_option maxRecDepth 20000 in
set_option maxHeartbeats 4000000 in
theorem sg_Planner_makeByBest_91 {e : gE} {b : Nat} {m : Int} {Z : Int → gH → Prop} {kc ks : Nat} {G : gH} {x3 x4 x6 : Int} (h : (x6 < 256 → (x6 < (gshl 1 x3) → (0 ≤ x6 ∧ x6 < 256) ∧ (inI (x6 + 1)) ∧ EX e b m m_Planner_makeByBest Z kc ks 91 [(2, ((b : Int) + 12)), (9, 0), (9, 0), (0, x3), (1, (if x4 < (G 2 ((b : Int) + 15) x6) then (G 2 ((b : Int) + 15) x6) else x4)), (9, 0), (0, (x6 + 1))] [] G)) ∧ ((256 ≤ x6 ∨ (x6 < 256 ∧ (gshl 1 x3) ≤ x6)) → GX e b m m_Planner_chooseBy [(2, ((b : Int) + 12)), (1, x4)] G 0 0 (fun _ G10 => Z (w32 (glshr x4 32)) G10))) : EX e b m m_Planner_makeByBest Z kc ks 91 [(2, ((b : Int) + 12)), (9, 0), (9, 0), (0, x3), (1, x4), (9, 0), (0, x6)] [] G := by
  obtain ⟨h, hJ7⟩ := h
  have kJ7 : (256 ≤ x6 ∨ (x6 < 256 ∧ (gshl 1 x3) ≤ x6)) → EX e b m m_Planner_makeByBest Z kc ks 127 [(2, ((b : Int) + 12)), (9, 0), (9, 0), (0, x3), (1, x4), (9, 0), (0, x6)] [] G := by
    intro rJ7
    have h := hJ7 rJ7
    refine e_aload_n d_Planner_makeByBest_127 rfl ?_
    refine e_lload d_Planner_makeByBest_128 rfl ?_
    refine EV.inv fun hFf8 => ?_
    have f8 := (fx_ct 11 rfl hFf8).1
    refine e_callV m_Planner_chooseBy 5 lw_good d_Planner_makeByBest_130 (k_Planner_chooseBy _) ⟨Nat.le_of_ble_eq_true rfl, Nat.le_of_ble_eq_true rfl⟩ w_754 w_756 w_s20 (q_Planner _) rfl f8 (args := [(1, x4)]) rfl rfl (Nat.le_of_ble_eq_true rfl) (kc' := kc) (ks' := ks) (mc := 0) (ms := 0) rfl rfl h ?_
    intro v9 G10 h
    refine e_lload d_Planner_makeByBest_133 rfl ?_
    refine e_bipush d_Planner_makeByBest_135 (by decide) (by decide) ?_
    refine e_lshr d_Planner_makeByBest_137 ?_
    refine e_l2i d_Planner_makeByBest_138 ?_
    exact e_iret d_Planner_makeByBest_139 rfl h
  refine e_iload d_Planner_makeByBest_91 rfl ?_
  refine e_sipush d_Planner_makeByBest_93 (by decide) (by decide) ?_
  refine e_icmp_ge (tgt := 127) d_Planner_makeByBest_96 (by decide) (fun q1 => ?_) (fun q2 => ?_)
  · exact kJ7 (Or.inl q1)
  · have h := h q2
    refine e_iload d_Planner_makeByBest_99 rfl ?_
    refine e_iconst d_Planner_makeByBest_101 (by decide) ?_
    refine e_iload_n d_Planner_makeByBest_102 rfl ?_
    refine e_ishl d_Planner_makeByBest_103 ?_
    refine e_icmp_ge (tgt := 127) d_Planner_makeByBest_104 (by decide) (fun q3 => ?_) (fun q4 => ?_)
    · exact kJ7 (Or.inr ⟨q2, q3⟩)
    · have h := h q4
      refine e_lload d_Planner_makeByBest_107 rfl ?_
      refine e_aload_n d_Planner_makeByBest_109 rfl ?_
      refine gx_Planner_31 d_Planner_makeByBest_110 rfl ?_
      refine e_iload d_Planner_makeByBest_113 rfl ?_
      obtain ⟨o5, h⟩ := h
      refine xC_lald 14 rfl d_Planner_makeByBest_115 o5 ?_
      refine e_callS m_Math_max_b lw_good d_Planner_makeByBest_116 (k_Math_max_b _) ⟨Nat.le_of_ble_eq_true rfl, Nat.le_of_ble_eq_true rfl⟩ w_753 w_751 (args := [(1, x4), (1, (G 2 ((b : Int) + 15) x6))]) rfl rfl (Nat.le_of_ble_eq_true rfl) (kc' := kc) (ks' := ks) (mc := 0) (ms := 0) rfl rfl (c_Math_max_b) (pureK ?_)
      refine e_lstore (ls' := [(2, ((b : Int) + 12)), (9, 0), (9, 0), (0, x3), (1, (if x4 < (G 2 ((b : Int) + 15) x6) then (G 2 ((b : Int) + 15) x6) else x4)), (9, 0), (0, x6)]) d_Planner_makeByBest_119 (by decide) rfl ?_
      obtain ⟨o6, h⟩ := h
      refine e_iinc (ls' := [(2, ((b : Int) + 12)), (9, 0), (9, 0), (0, x3), (1, (if x4 < (G 2 ((b : Int) + 15) x6) then (G 2 ((b : Int) + 15) x6) else x4)), (9, 0), (0, (x6 + 1))]) d_Planner_makeByBest_121 rfl (by decide) o6 rfl ?_
      refine e_goto (tgt := 91) d_Planner_makeByBest_124 (by decide) ?_
      exact e_forget (ls' := [(2, ((b : Int) + 12)), (9, 0), (9, 0), (0, x3), (1, (if x4 < (G 2 ((b : Int) + 15) x6) then (G 2 ((b : Int) + 15) x6) else x4)), (9, 0), (0, (x6 + 1))]) ⟨Or.inr rfl, Or.inl rfl, Or.inl rfl, Or.inr rfl, Or.inr rfl, Or.inl rfl, Or.inr rfl, trivial⟩ h
theorem c_scoreOf {e : gE} {b : Nat} {m : Int} {G : gH} {a t k w : Int} (h : G 0 a 0 = 10) (hn : G 592 a 0 = t) (ht : 0 ≤ t ∧ t ≤ 15) (hw : G 594 a 0 = w) (bw : 0 ≤ w ∧ w ≤ 100) (hk : 0 ≤ k ∧ k < 3) : GX e b m m_Planner_scoreOf [(2, a), (0, k)] G 0 0 (fun v G1 => v = w * 4294967296 + (3 - k) * zP4 t ∧ G1 = G) := by
  have bp := zP4_b ht
  have m1 : 0 ≤ (3 - k) * zP4 t ∧ (3 - k) * zP4 t ≤ 3 * 1073741824 := zmul_b ⟨by omega, by omega⟩ ⟨by omega, bp.2⟩
  have e1 : glshl w 32 = w * 4294967296 := zlshI bw.1 (by decide) (by decide) (by omega)
  have e2 : glshl (3 - k) (2 * (15 - t)) = (3 - k) * zP4 t := zlshI (by omega) (by omega) (zP4_2 ht) (by omega)
  refine GM.ofEV (by decide) (Nat.le_of_ble_eq_true rfl) (sg_Planner_scoreOf_0 ?_)
  rw [hn, hw, e1, e2]
  exact ⟨h, h, by omega, ht, ⟨by omega, by omega⟩, rfl, rfl⟩
/-- scratch rows of the planner may change -/
theorem zPs_sc {e : gE} {b : Nat} {m : Int} {G0 G G1 : gH} {A : zA} {T O1 O2 C : Int → Int} {n1 n2 : Int} (hlo : (b : Int) + 53 < m) (h : zPs e b m G0 G A T n1 O1 n2 O2 C) (hT : ∀ t, zTh A t → m + 45 < T t) (o : ∀ (c : Nat) (i j : Int), ¬ ((c = 1 ∨ c = 2) ∧ ((b : Int) + 15 ≤ i ∧ i ≤ (b : Int) + 17)) → G1 c i j = G c i j) : zPs e b m G0 G1 A T n1 O1 n2 O2 C := by
  obtain ⟨⟨pf, dst⟩, ⟨l1, l2⟩, en, me⟩ := h
  have p1 : zPF b m G G1 := ⟨Int.le_of_eq (o 9 0 0 (by omega)).symm, fun k hk => Or.inl (o _ _ _ (by omega)), fun c i j c9 i1 a1 a2 a3 a4 => o c i j a4⟩
  refine ⟨⟨zPF_t pf p1, fun i j i1 j1 ne z => ?_⟩, ⟨zAL_fr (by decide) l1 (fun i j _ => o _ _ _ (by omega)) (o _ _ _ (by omega)) (o _ _ _ (by omega)) (fun _ j => o _ _ _ (by omega)), zAL_fr (by decide) l2 (fun i j _ => o _ _ _ (by omega)) (o _ _ _ (by omega)) (o _ _ _ (by omega)) (fun _ j => o _ _ _ (by omega))⟩, en, fun u u1 u2 u3 => ?_⟩
  · rw [o 17 _ _ (by omega), o 17 _ _ (by omega)]
    rw [o 0 _ _ (by omega), o 17 _ _ (by omega)] at z
    exact dst i j i1 j1 ne z
  · rw [o 602 _ _ (by omega), o 603 _ _ (by omega), o 601 _ _ (by omega)]
    exact me u u1 u2 u3
theorem c_addLengths {e : gE} {b : Nat} {m : Int} {G0 G : gH} {A : zA} {T O1 O2 C : Int → Int} {n1 n2 : Int} (hB : zB 512 A) (hps : zPs e b m G0 G A T n1 O1 n2 O2 C) (hn : n1 ≤ 8) : GX e b m m_Planner_addLengths [(2, ((b : Int) + 12)), (0, n1)] G 0 0 (fun _ G1 => zO ((b : Int) + 17) G G1 ∧ ∀ s, 0 ≤ s → s < zp2 n1 → G1 1 ((b : Int) + 17) s = zMS (fun j => zLen A (O1 j)) s) := by
  obtain ⟨-, ⟨l1, -⟩, ⟨en1, -⟩, me⟩ := hps
  refine GM.ofEV (by decide) (Nat.le_of_ble_eq_true rfl) (sg_Planner_addLengths_0 ?_)
  rintro _ rfl
  have p0 : zp2 0 = 1 := by decide
  refine zloop (P := fun j => ∀ G1 : gH, zO ((b : Int) + 17) G G1 → (∀ s, 0 ≤ s → s < zp2 j → G1 1 ((b : Int) + 17) s = zMS (fun j => zLen A (O1 j)) s) → EX e b m m_Planner_addLengths _ 0 0 9 [(2, ((b : Int) + 12)), (0, n1), (0, j), (9, 0), (9, 0)] [] G1) (i := 0) n1 en1.1.1 ?_ ?_ _ (zO_u zO_r) (fun s s1 s2 => by rw [show s = 0 by omega, gU_eq, zMS_0])
  · intro G1 o hv
    exact sg_Planner_addLengths_9 ⟨fun z => absurd z (by omega), fun _ => ⟨o, hv⟩⟩
  · intro j j1 j2 st G1 o hv
    have b8 := zp2_b (n := j + 1) (by omega)
    have bj := zp2_1 (n := j)
    have es := zp2_s j1
    have w := zAL_g l1 ⟨j1, j2⟩
    obtain ⟨⟨o1, o2⟩, oj⟩ := en1.2.1 j j1 j2
    have ml := (me (O1 j) o1 o2 oj).1
    have bl := (zJb_b hB oj).1
    have bM : ∀ s, 0 ≤ s → s < zp2 j → 0 ≤ zMS (fun j => zLen A (O1 j)) s ∧ zMS (fun j => zLen A (O1 j)) s ≤ 300 * 8 := fun s s1 s2 => by
      have k := zMS_b (w := fun j => zLen A (O1 j)) (s := s) (c := 300) (d := 0) (fun i i1 i2 z => by
        have : i < j := by
          by_cases y : i < j
          · exact y
          · exact absurd z (zb_hi ⟨s1, s2⟩ (by omega))
        have := (zJb_b hB (en1.2.1 i i1 (by omega)).2).1
        show -0 ≤ zLen A (O1 i) ∧ zLen A (O1 i) ≤ 300
        omega) (by decide) (by decide)
      omega
    refine sg_Planner_addLengths_9 ⟨fun _ => ⟨(o 0 _ _ (fun z => absurd z (by decide))).trans l1.1, fun _ => ?_⟩, fun z => ?_⟩
    · rw [zshl1 ⟨j1, by omega⟩]
      refine zloop (P := fun r => ∀ G2 : gH, zO ((b : Int) + 17) G G2 → (∀ s, 0 ≤ s → s < zp2 j + r → G2 1 ((b : Int) + 17) s = zMS (fun j => zLen A (O1 j)) s) → EX e b m m_Planner_addLengths _ 0 0 32 [(2, ((b : Int) + 12)), (0, n1), (0, j), (0, zp2 j), (0, r)] [] G2) (i := 0) (zp2 j) (by omega) ?_ ?_ G1 o (fun s s1 s2 => hv s s1 (by omega))
      · intro G2 o2 hv2
        exact sg_Planner_addLengths_32 ⟨fun z => absurd z (by omega), fun _ => ⟨by omega, st G2 o2 (fun s s1 s2 => hv2 s s1 (by omega))⟩⟩
      · intro r r1 r2 st2 G2 q2 hv2
        have k0 : ∀ (c : Nat) (i k : Int), c ≠ 1 → G2 c i k = G c i k := fun c i k hc => q2 c i k (fun z => absurd z hc)
        have er := hv2 r r1 (by omega)
        have br := bM r r1 r2
        refine sg_Planner_addLengths_32 ⟨fun _ => ⟨by omega, fun _ => ?_⟩, fun z => absurd z (by omega)⟩
        rw [k0 0 _ _ (by decide), k0 17 _ _ (by decide), k0 18 _ _ (by decide), k0 3 _ _ (by decide), w.2.2.1, k0 602 _ _ (by decide), ml, er, l1.2.1, k0 0 _ _ (by decide), k0 0 _ _ (by decide), k0 0 _ _ (by decide)]
        refine ⟨⟨r1, by omega⟩, l1.1, w.1, ⟨j1, j2⟩, w.2.1, w.2.2.2, w.2.2.2, by omega, ⟨by omega, by omega⟩, ?_⟩
        rintro _ rfl
        refine ⟨by omega, st2 _ (zO_u q2) (fun s s1 s2 => ?_)⟩
        by_cases z : s = r + zp2 j
        · rw [z, gU_eq, zMS_add ⟨j1, by omega⟩ ⟨r1, r2⟩]
        · rw [gU_j z]
          exact hv2 s s1 (by omega)
    · rw [(o 18 _ _ (fun z => absurd z (by decide))), l1.2.1] at z
      omega
theorem zDs_add {A : zA} {O : Int → Int} {n k r j : Int} (hj : 0 ≤ j ∧ j < n) (hn : n ≤ 8) (hr : 0 ≤ r ∧ r < zp2 j) : zDs A O n k (r + zp2 j) ↔ (zDs A O n k r ∧ A 9 (O j) ≤ A 15 k ∧ zFree A k + zMS (fun i => zLen A (O i)) r ≤ zLat A (O j)) := by
  have e : ∀ i, 0 ≤ i → i ≤ j → zS (fun l => if zb (r + zp2 j) l then zLen A (O l) else 0) i = zS (fun l => if zb r l then zLen A (O l) else 0) i := fun i i1 i2 => zS_eq i i1 (fun l l1 l2 => by
    show (if zb (r + zp2 j) l then zLen A (O l) else 0) = if zb r l then zLen A (O l) else 0
    have w := zb_add hj.1 l1 hr
    by_cases z : zb r l
    · rw [if_pos z, if_pos (w.2 (Or.inl z))]
    · rw [if_neg z, if_neg (fun y => (w.1 y).elim z (fun x => by omega))])
  have ej := zMS_n (w := fun i => zLen A (O i)) ⟨hj.1, by omega⟩ hr
  constructor
  · intro h
    refine ⟨fun i i1 i2 i3 => ?_, ?_⟩
    · have ij : i < j := by
        by_cases y : i < j
        · exact y
        · exact absurd i3 (zb_hi hr (by omega))
      have w := h i i1 i2 ((zb_add hj.1 i1 hr).2 (Or.inl i3))
      rw [e i i1 (by omega)] at w
      exact w
    · have w := h j hj.1 hj.2 ((zb_add hj.1 hj.1 hr).2 (Or.inr rfl))
      rw [e j hj.1 (Int.le_refl _), ← ej] at w
      exact w
  · rintro ⟨h1, h2⟩ i i1 i2 i3
    rcases (zb_add hj.1 i1 hr).1 i3 with z | z
    · have ij : i < j := by
        by_cases y : i < j
        · exact y
        · exact absurd z (zb_hi hr (by omega))
      rw [e i i1 (by omega)]
      exact h1 i i1 i2 z
    · rw [z, e j hj.1 (Int.le_refl _), ← ej]
      exact h2
theorem zSc_b {A : zA} {O : Int → Int} {D : Int → Int} {P : Int → Prop} {n k j : Int} (hB : zB 512 A) (hE : zEnum P D (A 785 0) n O) (hk : 0 ≤ k ∧ k < 3) (hj : 0 ≤ j ∧ j < n) : 0 ≤ zSc A O k j ∧ zSc A O k j ≤ 432717955072 := by
  have b0 : 0 ≤ A 785 0 ∧ A 785 0 ≤ 16 := hB 785 0
  have o := (hE.2.1 j hj.1 hj.2).1
  have bw : 0 ≤ A 8 (O j) ∧ A 8 (O j) ≤ 100 := hB 8 _
  have bp := zP4_b (t := O j) (by omega)
  have m1 : 0 ≤ (3 - k) * zP4 (O j) ∧ (3 - k) * zP4 (O j) ≤ 3 * 1073741824 := zmul_b ⟨by omega, by omega⟩ ⟨by omega, bp.2⟩
  unfold zSc
  omega
theorem zMSc_b {A : zA} {O : Int → Int} {D : Int → Int} {P : Int → Prop} {n s : Int} {g : Int → Int} (hB : zB 512 A) (hE : zEnum P D (A 785 0) n O) (hs : 0 ≤ s ∧ s < zp2 n) (hg : ∀ j, 0 ≤ j → j < 8 → zb s j → 0 ≤ g j ∧ g j < 3) : 0 ≤ zMS (fun j => zSc A O (g j) j) s ∧ zMS (fun j => zSc A O (g j) j) s ≤ 4000000000000 := by
  have k := zMS_b (w := fun j => zSc A O (g j) j) (s := s) (c := 432717955072) (d := 0) (fun i i1 i2 z => by
    have jn : i < n := by
      by_cases y : i < n
      · exact y
      · exact absurd z (zb_hi hs (by omega))
    have := zSc_b hB hE (hg i i1 i2 z) ⟨i1, jn⟩
    show -0 ≤ zSc A O (g i) i ∧ zSc A O (g i) i ≤ 432717955072
    omega) (by decide) (by decide)
  omega
noncomputable def zUv (A : zA) (O : Int → Int) (n k s : Int) : Int := zIf (zDs A O n k s) (zMS (zSc A O k) s) (-4611686018427387904)
theorem c_scoreTeam {e : gE} {b : Nat} {m : Int} {G0 G : gH} {A : zA} {T Q O1 O2 C τ : Int → Int} {n1 n2 k : Int} (hB : zB 512 A) (hps : zPs e b m G0 G A T n1 O1 n2 O2 C) (hT : zRkT e b m G A T τ) (hQ : zRkQ e b m G A T Q) (hF : gFix b m G) (hk : 0 ≤ k ∧ k < A 786 0) (hn : n1 ≤ 8) (hl : ∀ s, 0 ≤ s → s < zp2 n1 → G 1 ((b : Int) + 17) s = zMS (fun j => zLen A (O1 j)) s) : GX e b m m_Planner_scoreTeam [(2, ((b : Int) + 12)), (0, k), (2, Q k), (0, A 789 0), (0, n1)] G 0 0 (fun _ G1 => zO2 ((b : Int) + 16) G G1 ∧ ∀ s, 0 ≤ s → s < zp2 n1 → G1 2 ((b : Int) + 16) s = zUv A O1 n1 k s) := by
  obtain ⟨-, ⟨l1, -⟩, ⟨en1, -⟩, me⟩ := hps
  have b0 : 0 ≤ A 785 0 ∧ A 785 0 ≤ 16 := hB 785 0
  have bt : 0 ≤ A 786 0 ∧ A 786 0 ≤ 3 := hB 786 0
  have q := hQ.2.1 k hk.1 hk.2
  have q9 := hQ.1.2.2.1 k hk.1 hk.2
  have bf := zFree_b hB k
  have f16 : G 0 ((b : Int) + 16) 0 = 101 ∧ G 0 ((b : Int) + 16) 1 = 256 := by
    obtain ⟨⟨h1, -⟩, -⟩ := hF
    exact h1 (16, 101, 256) (by decide)
  have bM : ∀ s, 0 ≤ s → s < zp2 n1 → 0 ≤ zMS (fun j => zLen A (O1 j)) s ∧ zMS (fun j => zLen A (O1 j)) s ≤ 300 * 8 := fun s s1 s2 => by
    have k := zMS_b (w := fun j => zLen A (O1 j)) (s := s) (c := 300) (d := 0) (fun i i1 i2 z => by
      have : i < n1 := by
        by_cases y : i < n1
        · exact y
        · exact absurd z (zb_hi ⟨s1, s2⟩ (by omega))
      have := (zJb_b hB (en1.2.1 i i1 (by omega)).2).1
      show -0 ≤ zLen A (O1 i) ∧ zLen A (O1 i) ≤ 300
      omega) (by decide) (by decide)
    omega
  have bS : ∀ s, 0 ≤ s → s < zp2 n1 → 0 ≤ zMS (zSc A O1 k) s ∧ zMS (zSc A O1 k) s ≤ 4000000000000 := fun s s1 s2 => zMSc_b (g := fun _ => k) hB en1 ⟨s1, s2⟩ (fun j _ _ _ => ⟨hk.1, by omega⟩)
  refine GM.ofEV (by decide) (Nat.le_of_ble_eq_true rfl) (sg_Planner_scoreTeam_0 ⟨q9, q9, GM.mono (c_clear f16.1 f16.2 (by omega)) ?_⟩)
  rintro _ G1 ⟨o1, hv1⟩
  rw [q.2.2.1, zFr_e]
  have p0 : zp2 0 = 1 := by decide
  refine zloop (P := fun j => ∀ G1 : gH, zO2 ((b : Int) + 16) G G1 → (∀ s, 0 ≤ s → s < zp2 j → G1 2 ((b : Int) + 16) s = zUv A O1 n1 k s) → EX e b m m_Planner_scoreTeam _ 0 0 17 [(2, ((b : Int) + 12)), (0, k), (2, Q k), (9, 0), (0, n1), (0, zFree A k), (0, j), (9, 0), (9, 0), (9, 0), (9, 0), (9, 0), (9, 0)] [] G1) (i := 0) n1 en1.1.1 ?_ ?_ G1 o1 (fun s s1 s2 => ?_)
  · intro G1 o hv
    exact sg_Planner_scoreTeam_17 ⟨fun z => absurd z (by omega), fun _ => ⟨o, hv⟩⟩
  · intro j j1 j2 st G1 o hv
    have b8 := zp2_b (n := j + 1) (by omega)
    have bj := zp2_1 (n := j)
    have es := zp2_s j1
    have pm := zp2_m (show j + 1 ≤ n1 by omega)
    have w := zAL_g l1 ⟨j1, j2⟩
    obtain ⟨⟨o1, o2⟩, oj⟩ := en1.2.1 j j1 j2
    have mj := me (O1 j) o1 o2 oj
    have t1 := (hT.2.1 (O1 j) o1 o2).1
    have bsc := zSc_b (k := k) hB en1 ⟨hk.1, by omega⟩ ⟨j1, j2⟩
    have c0 : ∀ (c : Nat) (i l : Int), c ≠ 2 → G1 c i l = G c i l := fun c i l hc => o c i l (fun z => absurd z hc)
    have inner : ∀ x, ((A 9 (O1 j) ≤ A 15 k ∧ x = zSc A O1 k j) ∨ (A 15 k < A 9 (O1 j) ∧ x = (-4611686018427387904))) → EX e b m m_Planner_scoreTeam (fun _ G1 => zO2 ((b : Int) + 16) G G1 ∧ ∀ s, 0 ≤ s → s < zp2 n1 → G1 2 ((b : Int) + 16) s = zUv A O1 n1 k s) 0 0 85 [(2, ((b : Int) + 12)), (0, k), (2, Q k), (9, 0), (0, n1), (0, zFree A k), (0, j), (2, T (O1 j)), (1, x), (9, 0), (0, zp2 j), (0, 0), (9, 0)] [] G1 := by
      intro x hx
      refine zloop (P := fun r => ∀ G2 : gH, zO2 ((b : Int) + 16) G G2 → (∀ s, 0 ≤ s → s < zp2 j + r → G2 2 ((b : Int) + 16) s = zUv A O1 n1 k s) → EX e b m m_Planner_scoreTeam _ 0 0 85 [(2, ((b : Int) + 12)), (0, k), (2, Q k), (9, 0), (0, n1), (0, zFree A k), (0, j), (2, T (O1 j)), (1, x), (9, 0), (0, zp2 j), (0, r), (9, 0)] [] G2) (i := 0) (zp2 j) (by omega) ?_ ?_ G1 o (fun s s1 s2 => hv s s1 (by omega))
      · intro G2 o2 hv2
        exact sg_Planner_scoreTeam_85 ⟨fun z => absurd z (by omega), fun _ => ⟨by omega, st G2 o2 (fun s s1 s2 => hv2 s s1 (by omega))⟩⟩
      · intro r r1 r2 st2 G2 q2 hv2
        have k0 : ∀ (c : Nat) (i l : Int), c ≠ 2 → G2 c i l = G c i l := fun c i l hc => q2 c i l (fun z => absurd z hc)
        have er := hv2 r r1 (by omega)
        have bMr := bM r r1 (by omega)
        have bSr := bS r r1 (by omega)
        have da := zDs_add (A := A) (O := O1) (k := k) ⟨j1, j2⟩ hn ⟨r1, r2⟩
        have ms := zMS_add (w := zSc A O1 k) ⟨j1, by omega⟩ ⟨r1, r2⟩
        refine sg_Planner_scoreTeam_85 ⟨fun _ => ⟨by omega, fun _ => ⟨⟨r1, by omega⟩, ?_⟩⟩, fun z => absurd z (by omega)⟩
        rw [k0 1 _ _ (by decide), hl r r1 (by omega), k0 0 _ _ (by decide), k0 603 _ _ (by decide), mj.2.1, er]
        have nx : ∀ v, v = zUv A O1 n1 k (r + zp2 j) → EX e b m m_Planner_scoreTeam (fun _ G1 => zO2 ((b : Int) + 16) G G1 ∧ ∀ s, 0 ≤ s → s < zp2 n1 → G1 2 ((b : Int) + 16) s = zUv A O1 n1 k s) 0 0 85 [(2, ((b : Int) + 12)), (0, k), (2, Q k), (9, 0), (0, n1), (0, zFree A k), (0, j), (2, T (O1 j)), (1, x), (9, 0), (0, zp2 j), (0, r + 1), (9, 0)] [] (gU G2 2 ((b : Int) + 16) (r + zp2 j) v) := fun v hv3 => st2 _ (zO2_u q2) (fun s s1 s2 => by
          by_cases z : s = r + zp2 j
          · rw [z, gU_eq, hv3]
          · rw [gU_j z]; exact hv2 s s1 (by omega))
        refine ⟨by omega, w.2.2.2, w.2.2.2, fun c => ⟨⟨by omega, by omega⟩, ?_⟩, fun c => ⟨?_, ⟨by omega, by omega⟩, ?_⟩⟩
        · rintro _ rfl
          refine ⟨by omega, nx _ ?_⟩
          unfold zUv
          rw [zIf_neg (fun z => by have := (da.1 z).2.2; omega)]
        · unfold zUv
          by_cases z : zDs A O1 n1 k r
          · rw [zIf_pos z]
            rcases hx with y | y
            · exact Or.inr (Or.inr ⟨by omega, by omega⟩)
            · exact Or.inr (Or.inl y.2)
          · rw [zIf_neg z]; exact Or.inl rfl
        · rintro _ rfl
          refine ⟨by omega, nx _ ?_⟩
          unfold zUv
          rcases hx with y | y
          · by_cases z : zDs A O1 n1 k r
            · rw [zIf_pos z, zIf_pos (da.2 ⟨z, y.1, c⟩), y.2, ms]
              unfold zsm
              rw [if_neg (by omega)]
            · rw [zIf_neg z, zIf_neg (fun x => z (da.1 x).1), zn_sm]
          · rw [y.2, zsm_n, zIf_neg (fun x => by have := (da.1 x).2.1; omega)]
    refine sg_Planner_scoreTeam_17 ⟨fun _ => ⟨(c0 0 _ _ (by decide)).trans l1.1, fun _ => ?_⟩, fun z => ?_⟩
    · rw [c0 0 _ _ (by decide), c0 17 _ _ (by decide), c0 18 _ _ (by decide), c0 3 _ _ (by decide), w.2.2.1, l1.2.1, c0 0 _ _ (by decide), c0 0 _ _ (by decide), c0 0 _ _ (by decide), c0 595 _ _ (by decide), c0 528 _ _ (by decide), t1.2.2.2.2.1, q.2.1, zshl1 ⟨j1, by omega⟩]
      refine ⟨w.1, ⟨j1, j2⟩, w.2.1, w.2.2.2, w.2.2.2, q9, q9, fun c => ?_, fun c => inner _ (Or.inr ⟨c, rfl⟩)⟩
      refine GM.mono (c_scoreOf (t := O1 j) (w := A 8 (O1 j)) ((c0 0 _ _ (by decide)).trans w.2.2.2) ((c0 _ _ _ (by decide)).trans t1.2.1) ⟨o1, by omega⟩ ((c0 _ _ _ (by decide)).trans t1.2.2.2.1) (hB 8 _) ⟨hk.1, by omega⟩) ?_
      rintro v G2 ⟨rfl, rfl⟩
      exact inner _ (Or.inl ⟨c, rfl⟩)
    · rw [c0 18 _ _ (by decide), l1.2.1] at z
      omega
  · rw [show s = 0 by omega, hv1 0 (by decide) (by decide), if_pos rfl]
    unfold zUv
    have z0 : zDs A O1 n1 k 0 := fun i i1 i2 z => absurd z (zb_0 i)
    rw [zIf_pos z0, zMS_0]
