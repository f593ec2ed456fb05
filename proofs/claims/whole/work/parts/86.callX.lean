/-! THE CLASS, 37: the plan by rule -/
set_option maxRecDepth 20000 in
set_option maxHeartbeats 4000000 in
theorem sg_Team_freeFrom_0 {e : gE} {b : Nat} {m : Int} {Z : Int → gH → Prop} {kc ks : Nat} {G : gH} {a0 p1 : Int} (t0 : G 0 a0 0 = 9) (h : Z (if (G 529 a0 0) < p1 then p1 else (G 529 a0 0)) G) : EX e b m m_Team_freeFrom Z kc ks 0 [(2, a0), (0, p1)] [] G := by
  refine e_aload_n d_Team_freeFrom_0 rfl ?_
  refine gf_Team_15 d_Team_freeFrom_1 rfl t0 ?_
  refine e_iload_n d_Team_freeFrom_4 rfl ?_
  refine e_callS m_Math_max_a lw_good d_Team_freeFrom_5 (k_Math_max_a _) ⟨Nat.le_of_ble_eq_true rfl, Nat.le_of_ble_eq_true rfl⟩ w_707 w_373 (args := [(0, (G 529 a0 0)), (0, p1)]) rfl rfl (Nat.le_of_ble_eq_true rfl) (kc' := kc) (ks' := ks) (mc := 0) (ms := 0) rfl rfl (c_Math_max_a) (pureK ?_)
  exact e_iret d_Team_freeFrom_8 rfl h
set_option maxRecDepth 20000 in
set_option maxHeartbeats 4000000 in
theorem sg_Team_hands_0 {e : gE} {b : Nat} {m : Int} {Z : Int → gH → Prop} {kc ks : Nat} {G : gH} {a0 : Int} (t0 : G 0 a0 0 = 9) (h : Z (G 528 a0 0) G) : EX e b m m_Team_hands Z kc ks 0 [(2, a0)] [] G := by
  refine e_aload_n d_Team_hands_0 rfl ?_
  refine gf_Team_9 d_Team_hands_1 rfl t0 ?_
  exact e_iret d_Team_hands_4 rfl h
set_option maxRecDepth 20000 in
set_option maxHeartbeats 4000000 in
theorem sg_Team_isBusy_0 {e : gE} {b : Nat} {m : Int} {Z : Int → gH → Prop} {kc ks : Nat} {G : gH} {a0 : Int} (t0 : G 0 a0 0 = 9) (h : ((G 530 a0 0) = 0 → Z 0 G) ∧ ((G 530 a0 0) ≠ 0 → Z 1 G)) : EX e b m m_Team_isBusy Z kc ks 0 [(2, a0)] [] G := by
  refine e_aload_n d_Team_isBusy_0 rfl ?_
  refine gf_Team_24 d_Team_isBusy_1 rfl t0 ?_
  refine e_ifnull (tgt := 11) d_Team_isBusy_4 (by decide) (fun q1 => ?_) (fun q2 => ?_)
  · have h := h.1 q1
    refine e_iconst d_Team_isBusy_11 (by decide) ?_
    exact e_zret .boolean d_Team_isBusy_12 rfl (by decide) h
  · have h := h.2 q2
    refine e_iconst d_Team_isBusy_7 (by decide) ?_
    refine e_goto (tgt := 12) d_Team_isBusy_8 (by decide) ?_
    exact e_zret .boolean d_Team_isBusy_12 rfl (by decide) h
theorem c_Team_freeFrom {e : gE} {b : Nat} {m : Int} {G : gH} {a0 p1 : Int} (h1 : G 0 a0 0 = 9) : GX e b m m_Team_freeFrom [(2, a0), (0, p1)] G 0 0 (fun v9 G9 => v9 = (if G 529 a0 0 < p1 then p1 else G 529 a0 0 : Int) ∧ G9 = G) := by
  refine GM.ofEV (by decide) (Nat.le_of_ble_eq_true rfl) (sg_Team_freeFrom_0 h1 ?_)
  repeat' (first | apply And.intro | intro _)
  all_goals first | assumption | rfl | omega | (rw [if_pos (by omega)]) | (rw [if_neg (by omega)])
theorem c_Team_hands {e : gE} {b : Nat} {m : Int} {G : gH} {a0 : Int} (h1 : G 0 a0 0 = 9) : GX e b m m_Team_hands [(2, a0)] G 0 0 (fun v9 G9 => v9 = (G 528 a0 0 : Int) ∧ G9 = G) := by
  refine GM.ofEV (by decide) (Nat.le_of_ble_eq_true rfl) (sg_Team_hands_0 h1 ?_)
  repeat' (first | apply And.intro | intro _)
  all_goals first | assumption | rfl | omega | (rw [if_pos (by omega)]) | (rw [if_neg (by omega)])
theorem c_Team_isBusy {e : gE} {b : Nat} {m : Int} {G : gH} {a0 : Int} (h1 : G 0 a0 0 = 9) : GX e b m m_Team_isBusy [(2, a0)] G 0 0 (fun v9 G9 => v9 = ((if G 530 a0 0 ≠ 0 then 1 else 0) : Int) ∧ G9 = G) := by
  refine GM.ofEV (by decide) (Nat.le_of_ble_eq_true rfl) (sg_Team_isBusy_0 h1 ?_)
  exact ⟨fun q => ⟨(if_neg (fun z => z q)).symm, rfl⟩, fun q => ⟨(if_pos q).symm, rfl⟩⟩
set_option maxRecDepth 20000 in
set_option maxHeartbeats 4000000 in
theorem sg_Thing_choose_0 {e : gE} {b : Nat} {m : Int} {Z : Int → gH → Prop} {kc ks : Nat} {G : gH} {a0 p1 : Int} (t0 : G 0 a0 0 = 10) (h : ((b : Int) < a0) ∧ (∀ G2 : gH, G2 = gU G 601 a0 0 p1 → Z 0 G2)) : EX e b m m_Thing_choose Z kc ks 0 [(2, a0), (0, p1)] [] G := by
  refine e_aload_n d_Thing_choose_0 rfl ?_
  refine e_iload_n d_Thing_choose_1 rfl ?_
  obtain ⟨o1, h⟩ := h
  refine gp_Thing_36 d_Thing_choose_2 rfl t0 o1 (fx_U (by decide)) ?_
  let G2 : gH := gU G 601 a0 0 p1
  have h := h G2 rfl
  exact e_vret d_Thing_choose_5 rfl h
set_option maxRecDepth 20000 in
set_option maxHeartbeats 4000000 in
theorem sg_Thing_giveTo_0 {e : gE} {b : Nat} {m : Int} {Z : Int → gH → Prop} {kc ks : Nat} {G : gH} {a0 p1 : Int} (t0 : G 0 a0 0 = 10) (h : ((b : Int) < a0) ∧ (∀ G2 : gH, G2 = gU G 600 a0 0 p1 → Z 0 G2)) : EX e b m m_Thing_giveTo Z kc ks 0 [(2, a0), (0, p1)] [] G := by
  refine e_aload_n d_Thing_giveTo_0 rfl ?_
  refine e_iload_n d_Thing_giveTo_1 rfl ?_
  obtain ⟨o1, h⟩ := h
  refine gp_Thing_33 d_Thing_giveTo_2 rfl t0 o1 (fx_U (by decide)) ?_
  let G2 : gH := gU G 600 a0 0 p1
  have h := h G2 rfl
  exact e_vret d_Thing_giveTo_5 rfl h
set_option maxRecDepth 20000 in
set_option maxHeartbeats 4000000 in
theorem sg_Planner_jobs_0 {e : gE} {b : Nat} {m : Int} {Z : Int → gH → Prop} {kc ks : Nat} {G : gH} (h : Z ((b : Int) + 13) G) : EX e b m m_Planner_jobs Z kc ks 0 [(2, ((b : Int) + 12))] [] G := by
  refine e_aload_n d_Planner_jobs_0 rfl ?_
  refine gx_Planner_25 d_Planner_jobs_1 rfl ?_
  exact e_aret d_Planner_jobs_4 (Or.inl ⟨_, rfl⟩) h
set_option maxRecDepth 20000 in
set_option maxHeartbeats 4000000 in
theorem sg_Hours_isLeft_0 {e : gE} {b : Nat} {m : Int} {Z : Int → gH → Prop} {kc ks : Nat} {G : gH} {p0 p1 : Int} (h : ((G 0 p0 0 = 10) ∧ ((G 0 p0 0 = 10) ∧ ((inI (100 + 100)) ∧ ((100 ≤ G 598 p0 0 ∧ G 598 p0 0 < 100 + 100) → ((G 600 p0 0) = p1 → Z 1 G))))) ∧ ((((¬ (100 ≤ G 598 p0 0 ∧ G 598 p0 0 < 100 + 100))) ∨ ((100 ≤ G 598 p0 0 ∧ G 598 p0 0 < 100 + 100) ∧ (G 600 p0 0) ≠ p1)) → Z 0 G)) : EX e b m m_Hours_isLeft Z kc ks 0 [(2, p0), (0, p1)] [] G := by
  obtain ⟨h, hJ8⟩ := h
  have kJ8 : (((¬ (100 ≤ G 598 p0 0 ∧ G 598 p0 0 < 100 + 100))) ∨ ((100 ≤ G 598 p0 0 ∧ G 598 p0 0 < 100 + 100) ∧ (G 600 p0 0) ≠ p1)) → EX e b m m_Hours_isLeft Z kc ks 21 [(2, p0), (0, p1)] [] G := by
    intro rJ8
    have h := hJ8 rJ8
    refine e_iconst d_Hours_isLeft_21 (by decide) ?_
    exact e_zret .boolean d_Hours_isLeft_22 rfl (by decide) h
  refine e_aload_n d_Hours_isLeft_0 rfl ?_
  refine e_bipush d_Hours_isLeft_1 (by decide) (by decide) ?_
  obtain ⟨o1, o2, o3, h⟩ := h
  refine e_callV m_Thing_isAt 9 lw_good d_Hours_isLeft_3 (k_Thing_isAt _) ⟨Nat.le_of_ble_eq_true rfl, Nat.le_of_ble_eq_true rfl⟩ w_619 w_620 w_621 (q_Thing _) rfl o1 (args := [(0, 100)]) rfl rfl (Nat.le_of_ble_eq_true rfl) (kc' := kc) (ks' := ks) (mc := 0) (ms := 0) rfl rfl (c_Thing_isAt o2 o3) (pureK ?_)
  refine e_if_eq (tgt := 21) d_Hours_isLeft_6 (by decide) (fun q4 => ?_) (fun q5 => ?_)
  · replace q4 := gb0.mp q4
    exact kJ8 (Or.inl q4)
  · replace q5 := gb1.mp q5
    have h := h q5
    refine e_aload_n d_Hours_isLeft_9 rfl ?_
    refine e_callV m_Thing_givenTo 9 lw_good d_Hours_isLeft_10 (k_Thing_givenTo _) ⟨Nat.le_of_ble_eq_true rfl, Nat.le_of_ble_eq_true rfl⟩ w_956 w_957 w_958 (q_Thing _) rfl o1 (args := []) rfl rfl (Nat.le_of_ble_eq_true rfl) (kc' := kc) (ks' := ks) (mc := 0) (ms := 0) rfl rfl (c_Thing_givenTo o2) (pureK ?_)
    refine e_iload_n d_Hours_isLeft_13 rfl ?_
    refine e_icmp_ne (tgt := 21) d_Hours_isLeft_14 (by decide) (fun q6 => ?_) (fun q7 => ?_)
    · exact kJ8 (Or.inr ⟨q5, q6⟩)
    · have h := h q7
      refine e_iconst d_Hours_isLeft_17 (by decide) ?_
      refine e_goto (tgt := 22) d_Hours_isLeft_18 (by decide) ?_
      exact e_zret .boolean d_Hours_isLeft_22 rfl (by decide) h
theorem c_Hours_isLeft {e : gE} {b : Nat} {m : Int} {G : gH} {p0 p1 : Int} (h1 : G 0 p0 0 = 10) : GX e b m m_Hours_isLeft [(2, p0), (0, p1)] G 0 0 (fun v9 G9 => v9 = ((if (100 ≤ G 598 p0 0 ∧ G 598 p0 0 < 200) ∧ G 600 p0 0 = p1 then 1 else 0) : Int) ∧ G9 = G) := by
  refine GM.ofEV (by decide) (Nat.le_of_ble_eq_true rfl) (sg_Hours_isLeft_0 ?_)
  exact ⟨⟨h1, h1, by decide, fun q1 q2 => ⟨(if_pos ⟨q1, q2⟩).symm, rfl⟩⟩, fun q => ⟨(if_neg (fun z => by omega)).symm, rfl⟩⟩
theorem c_Planner_jobs {e : gE} {b : Nat} {m : Int} {G : gH} : GX e b m m_Planner_jobs [(2, ((b : Int) + 12))] G 0 0 (fun v9 G9 => v9 = ((b : Int) + 13 : Int) ∧ G9 = G) := by
  refine GM.ofEV (by decide) (Nat.le_of_ble_eq_true rfl) (sg_Planner_jobs_0 ?_)
  repeat' (first | apply And.intro | intro _)
  all_goals first | assumption | rfl | omega | (rw [if_pos (by omega)]) | (rw [if_neg (by omega)])
set_option maxRecDepth 20000 in
set_option maxHeartbeats 4000000 in
theorem sg_Planner_endWith_0 {e : gE} {b : Nat} {m : Int} {Z : Int → gH → Prop} {kc ks : Nat} {G : gH} {p1 p2 p3 p4 : Int} (h : (G 0 p2 0 = 9) ∧ (G 0 p2 0 = 9) ∧ EX e b m m_Planner_endWith Z kc ks 11 [(2, ((b : Int) + 12)), (0, p1), (2, p2), (2, p3), (9, 0), (0, (if G 529 p2 0 < p4 then p4 else G 529 p2 0)), (0, 0), (9, 0)] [] G) : EX e b m m_Planner_endWith Z kc ks 0 [(2, ((b : Int) + 12)), (0, p1), (2, p2), (2, p3), (0, p4), (9, 0), (9, 0), (9, 0)] [] G := by
  refine e_aload_n d_Planner_endWith_0 rfl ?_
  refine e_iload d_Planner_endWith_1 rfl ?_
  obtain ⟨o1, o2, h⟩ := h
  refine e_callV m_Team_freeFrom 8 lw_good d_Planner_endWith_3 (k_Team_freeFrom _) ⟨Nat.le_of_ble_eq_true rfl, Nat.le_of_ble_eq_true rfl⟩ w_703 w_704 w_705 (q_Team _) rfl o1 (args := [(0, p4)]) rfl rfl (Nat.le_of_ble_eq_true rfl) (kc' := kc) (ks' := ks) (mc := 0) (ms := 0) rfl rfl (c_Team_freeFrom o2) (pureK ?_)
  refine e_istore (ls' := [(2, ((b : Int) + 12)), (0, p1), (2, p2), (2, p3), (0, p4), (0, (if G 529 p2 0 < p4 then p4 else G 529 p2 0)), (9, 0), (9, 0)]) d_Planner_endWith_6 (by decide) rfl ?_
  refine e_iconst d_Planner_endWith_8 (by decide) ?_
  refine e_istore (ls' := [(2, ((b : Int) + 12)), (0, p1), (2, p2), (2, p3), (0, p4), (0, (if G 529 p2 0 < p4 then p4 else G 529 p2 0)), (0, 0), (9, 0)]) d_Planner_endWith_9 (by decide) rfl ?_
  exact e_forget (ls' := [(2, ((b : Int) + 12)), (0, p1), (2, p2), (2, p3), (9, 0), (0, (if G 529 p2 0 < p4 then p4 else G 529 p2 0)), (0, 0), (9, 0)]) ⟨Or.inr rfl, Or.inr rfl, Or.inr rfl, Or.inr rfl, Or.inl rfl, Or.inr rfl, Or.inr rfl, Or.inl rfl, trivial⟩ h
set_option maxRecDepth 20000 in
set_option maxHeartbeats 4000000 in
theorem sg_Planner_endWith_11 {e : gE} {b : Nat} {m : Int} {Z : Int → gH → Prop} {kc ks : Nat} {G : gH} {p1 p2 p3 x5 x6 : Int} (h : ((G 0 ((b : Int) + 13) 0 = 1) ∧ (((G 18 ((b : Int) + 13) 0) ≤ x6 → Z x5 G) ∧ (x6 < (G 18 ((b : Int) + 13) 0) → (G 0 (G 17 ((b : Int) + 13) 0) 0 = 103) ∧ ((0 ≤ x6 ∧ x6 < G 18 ((b : Int) + 13) 0) ∧ ((G 18 ((b : Int) + 13) 0 ≤ G 0 (G 17 ((b : Int) + 13) 0) 1) ∧ ((G 0 (G 3 (G 17 ((b : Int) + 13) 0) x6) 0 = 10) ∧ ((G 3 (G 17 ((b : Int) + 13) 0) x6) ≠ p3 → (G 0 (G 3 (G 17 ((b : Int) + 13) 0) x6) 0 = 10) ∧ ((G 601 (G 3 (G 17 ((b : Int) + 13) 0) x6) 0) ≠ p1 → (inI (x6 + 1)) ∧ EX e b m m_Planner_endWith Z kc ks 11 [(2, ((b : Int) + 12)), (0, p1), (2, p2), (2, p3), (9, 0), (0, x5), (0, (x6 + 1)), (9, 0)] [] G)))))))) ∧ (((x6 < (G 18 ((b : Int) + 13) 0) ∧ (G 3 (G 17 ((b : Int) + 13) 0) x6) = p3) ∨ (x6 < (G 18 ((b : Int) + 13) 0) ∧ (G 3 (G 17 ((b : Int) + 13) 0) x6) ≠ p3 ∧ (G 601 (G 3 (G 17 ((b : Int) + 13) 0) x6) 0) = p1)) → (G 0 (G 3 (G 17 ((b : Int) + 13) 0) x6) 0 = 10) ∧ ((G 0 (G 3 (G 17 ((b : Int) + 13) 0) x6) 0 = 10) ∧ ((G 0 p2 0 = 9) ∧ ((G 0 p2 0 = 9) ∧ ((G 595 (G 3 (G 17 ((b : Int) + 13) 0) x6) 0) ≤ (G 528 p2 0) → (x5 ≤ (G 603 (G 3 (G 17 ((b : Int) + 13) 0) x6) 0) → (inI (x5 + (G 602 (G 3 (G 17 ((b : Int) + 13) 0) x6) 0))) ∧ (inI (x6 + 1)) ∧ EX e b m m_Planner_endWith Z kc ks 11 [(2, ((b : Int) + 12)), (0, p1), (2, p2), (2, p3), (9, 0), (0, (x5 + (G 602 (G 3 (G 17 ((b : Int) + 13) 0) x6) 0))), (0, (x6 + 1)), (9, 0)] [] G)))))) ∧ (((((x6 < (G 18 ((b : Int) + 13) 0) ∧ (G 3 (G 17 ((b : Int) + 13) 0) x6) = p3) ∨ (x6 < (G 18 ((b : Int) + 13) 0) ∧ (G 3 (G 17 ((b : Int) + 13) 0) x6) ≠ p3 ∧ (G 601 (G 3 (G 17 ((b : Int) + 13) 0) x6) 0) = p1)) ∧ (G 528 p2 0) < (G 595 (G 3 (G 17 ((b : Int) + 13) 0) x6) 0)) ∨ (((x6 < (G 18 ((b : Int) + 13) 0) ∧ (G 3 (G 17 ((b : Int) + 13) 0) x6) = p3) ∨ (x6 < (G 18 ((b : Int) + 13) 0) ∧ (G 3 (G 17 ((b : Int) + 13) 0) x6) ≠ p3 ∧ (G 601 (G 3 (G 17 ((b : Int) + 13) 0) x6) 0) = p1)) ∧ (G 595 (G 3 (G 17 ((b : Int) + 13) 0) x6) 0) ≤ (G 528 p2 0) ∧ (G 603 (G 3 (G 17 ((b : Int) + 13) 0) x6) 0) < x5)) → Z (-1) G)) : EX e b m m_Planner_endWith Z kc ks 11 [(2, ((b : Int) + 12)), (0, p1), (2, p2), (2, p3), (9, 0), (0, x5), (0, x6), (9, 0)] [] G := by
  obtain ⟨h, hJ15, hJ25⟩ := h
  have kJ25 : ((((x6 < (G 18 ((b : Int) + 13) 0) ∧ (G 3 (G 17 ((b : Int) + 13) 0) x6) = p3) ∨ (x6 < (G 18 ((b : Int) + 13) 0) ∧ (G 3 (G 17 ((b : Int) + 13) 0) x6) ≠ p3 ∧ (G 601 (G 3 (G 17 ((b : Int) + 13) 0) x6) 0) = p1)) ∧ (G 528 p2 0) < (G 595 (G 3 (G 17 ((b : Int) + 13) 0) x6) 0)) ∨ (((x6 < (G 18 ((b : Int) + 13) 0) ∧ (G 3 (G 17 ((b : Int) + 13) 0) x6) = p3) ∨ (x6 < (G 18 ((b : Int) + 13) 0) ∧ (G 3 (G 17 ((b : Int) + 13) 0) x6) ≠ p3 ∧ (G 601 (G 3 (G 17 ((b : Int) + 13) 0) x6) 0) = p1)) ∧ (G 595 (G 3 (G 17 ((b : Int) + 13) 0) x6) 0) ≤ (G 528 p2 0) ∧ (G 603 (G 3 (G 17 ((b : Int) + 13) 0) x6) 0) < x5)) → EX e b m m_Planner_endWith Z kc ks 74 [(2, ((b : Int) + 12)), (0, p1), (2, p2), (2, p3), (9, 0), (0, x5), (0, x6), (2, (G 3 (G 17 ((b : Int) + 13) 0) x6))] [] G := by
    intro rJ25
    have h := hJ25 rJ25
    refine e_iconst d_Planner_endWith_74 (by decide) ?_
    exact e_iret d_Planner_endWith_75 rfl h
  have kJ15 : ((x6 < (G 18 ((b : Int) + 13) 0) ∧ (G 3 (G 17 ((b : Int) + 13) 0) x6) = p3) ∨ (x6 < (G 18 ((b : Int) + 13) 0) ∧ (G 3 (G 17 ((b : Int) + 13) 0) x6) ≠ p3 ∧ (G 601 (G 3 (G 17 ((b : Int) + 13) 0) x6) 0) = p1)) → EX e b m m_Planner_endWith Z kc ks 52 [(2, ((b : Int) + 12)), (0, p1), (2, p2), (2, p3), (9, 0), (0, x5), (0, x6), (2, (G 3 (G 17 ((b : Int) + 13) 0) x6))] [] G := by
    intro rJ15
    have h := hJ15 rJ15
    refine e_aload d_Planner_endWith_52 rfl ?_
    obtain ⟨o16, o17, h⟩ := h
    refine e_callV m_Thing_hands 9 lw_good d_Planner_endWith_54 (k_Thing_hands _) ⟨Nat.le_of_ble_eq_true rfl, Nat.le_of_ble_eq_true rfl⟩ w_708 w_709 w_710 (q_Thing _) rfl o16 (args := []) rfl rfl (Nat.le_of_ble_eq_true rfl) (kc' := kc) (ks' := ks) (mc := 0) (ms := 0) rfl rfl (c_Thing_hands o17) (pureK ?_)
    refine e_aload_n d_Planner_endWith_57 rfl ?_
    obtain ⟨o18, o19, h⟩ := h
    refine e_callV m_Team_hands 8 lw_good d_Planner_endWith_58 (k_Team_hands _) ⟨Nat.le_of_ble_eq_true rfl, Nat.le_of_ble_eq_true rfl⟩ w_712 w_713 w_714 (q_Team _) rfl o18 (args := []) rfl rfl (Nat.le_of_ble_eq_true rfl) (kc' := kc) (ks' := ks) (mc := 0) (ms := 0) rfl rfl (c_Team_hands o19) (pureK ?_)
    refine e_icmp_gt (tgt := 74) d_Planner_endWith_61 (by decide) (fun q20 => ?_) (fun q21 => ?_)
    · exact kJ25 (Or.inl ⟨rJ15, q20⟩)
    · have h := h q21
      refine e_iload d_Planner_endWith_64 rfl ?_
      refine e_aload d_Planner_endWith_66 rfl ?_
      refine e_callV m_Thing_latest 9 lw_good d_Planner_endWith_68 (k_Thing_latest _) ⟨Nat.le_of_ble_eq_true rfl, Nat.le_of_ble_eq_true rfl⟩ w_731 w_732 w_733 (q_Thing _) rfl o16 (args := []) rfl rfl (Nat.le_of_ble_eq_true rfl) (kc' := kc) (ks' := ks) (mc := 0) (ms := 0) rfl rfl (c_Thing_latest o17) (pureK ?_)
      refine e_icmp_le (tgt := 76) d_Planner_endWith_71 (by decide) (fun q22 => ?_) (fun q23 => ?_)
      · have h := h q22
        refine e_iload d_Planner_endWith_76 rfl ?_
        refine e_aload d_Planner_endWith_78 rfl ?_
        refine e_callV m_Thing_length 9 lw_good d_Planner_endWith_80 (k_Thing_length _) ⟨Nat.le_of_ble_eq_true rfl, Nat.le_of_ble_eq_true rfl⟩ w_687 w_688 w_689 (q_Thing _) rfl o16 (args := []) rfl rfl (Nat.le_of_ble_eq_true rfl) (kc' := kc) (ks' := ks) (mc := 0) (ms := 0) rfl rfl (c_Thing_length o17) (pureK ?_)
        obtain ⟨o24, h⟩ := h
        refine e_iadd d_Planner_endWith_83 o24 ?_
        refine e_istore (ls' := [(2, ((b : Int) + 12)), (0, p1), (2, p2), (2, p3), (9, 0), (0, (x5 + (G 602 (G 3 (G 17 ((b : Int) + 13) 0) x6) 0))), (0, x6), (2, (G 3 (G 17 ((b : Int) + 13) 0) x6))]) d_Planner_endWith_84 (by decide) rfl ?_
        obtain ⟨o27, h⟩ := h
        refine e_iinc (ls' := [(2, ((b : Int) + 12)), (0, p1), (2, p2), (2, p3), (9, 0), (0, (x5 + (G 602 (G 3 (G 17 ((b : Int) + 13) 0) x6) 0))), (0, (x6 + 1)), (2, (G 3 (G 17 ((b : Int) + 13) 0) x6))]) d_Planner_endWith_86 rfl (by decide) o27 rfl ?_
        refine e_goto (tgt := 11) d_Planner_endWith_89 (by decide) ?_
        exact e_forget (ls' := [(2, ((b : Int) + 12)), (0, p1), (2, p2), (2, p3), (9, 0), (0, (x5 + (G 602 (G 3 (G 17 ((b : Int) + 13) 0) x6) 0))), (0, (x6 + 1)), (9, 0)]) ⟨Or.inr rfl, Or.inr rfl, Or.inr rfl, Or.inr rfl, Or.inl rfl, Or.inr rfl, Or.inr rfl, Or.inl rfl, trivial⟩ h
      · exact kJ25 (Or.inr ⟨rJ15, q21, q23⟩)
  refine e_iload d_Planner_endWith_11 rfl ?_
  refine e_aload_n d_Planner_endWith_13 rfl ?_
  refine gx_Planner_25 d_Planner_endWith_14 rfl ?_
  refine EV.inv fun hFf1 => ?_
  have f1 := (fx_ct 12 rfl hFf1).1
  obtain ⟨o2, h⟩ := h
  refine e_callV m_AL_size 0 lw_good d_Planner_endWith_17 (k_AL_size _) ⟨Nat.le_of_ble_eq_true rfl, Nat.le_of_ble_eq_true rfl⟩ w_635 w_330 w_331 (q_AL _) rfl f1 (args := []) rfl rfl (Nat.le_of_ble_eq_true rfl) (kc' := kc) (ks' := ks) (mc := 0) (ms := 0) rfl rfl (c_AL_size o2) (pureK ?_)
  refine e_icmp_ge (tgt := 92) d_Planner_endWith_20 (by decide) (fun q3 => ?_) (fun q4 => ?_)
  · have h := h.1 q3
    refine e_iload d_Planner_endWith_92 rfl ?_
    exact e_iret d_Planner_endWith_94 rfl h
  · have h := h.2 q4
    refine e_aload_n d_Planner_endWith_23 rfl ?_
    refine gx_Planner_25 d_Planner_endWith_24 rfl ?_
    refine e_iload d_Planner_endWith_27 rfl ?_
    refine EV.inv fun hFf5 => ?_
    have f5 := (fx_ct 12 rfl hFf5).1
    obtain ⟨o6, o7, o8, h⟩ := h
    refine e_callV m_AL_get 0 lw_good d_Planner_endWith_29 (k_AL_get _) ⟨Nat.le_of_ble_eq_true rfl, Nat.le_of_ble_eq_true rfl⟩ w_636 w_607 w_608 (q_AL _) rfl f5 (args := [(0, x6)]) rfl rfl (Nat.le_of_ble_eq_true rfl) (kc' := kc) (ks' := ks) (mc := 0) (ms := 0) rfl rfl (c_AL_get o2 o6 o7 o8) (pureK ?_)
    obtain ⟨o9, h⟩ := h
    refine e_cast 9 d_Planner_endWith_32 (q_Thing _) w_637 (Or.inr o9) ?_
    refine e_astore (ls' := [(2, ((b : Int) + 12)), (0, p1), (2, p2), (2, p3), (9, 0), (0, x5), (0, x6), (2, (G 3 (G 17 ((b : Int) + 13) 0) x6))]) d_Planner_endWith_35 (by decide) rfl ?_
    refine e_aload d_Planner_endWith_37 rfl ?_
    refine e_aload_n d_Planner_endWith_39 rfl ?_
    refine e_acmp_eq (tgt := 52) d_Planner_endWith_40 (by decide) (fun q10 => ?_) (fun q11 => ?_)
    · exact kJ15 (Or.inl ⟨q4, q10⟩)
    · have h := h q11
      refine e_aload d_Planner_endWith_43 rfl ?_
      obtain ⟨o12, h⟩ := h
      refine e_callV m_Thing_choice 9 lw_good d_Planner_endWith_45 (k_Thing_choice _) ⟨Nat.le_of_ble_eq_true rfl, Nat.le_of_ble_eq_true rfl⟩ w_774 w_775 w_776 (q_Thing _) rfl o9 (args := []) rfl rfl (Nat.le_of_ble_eq_true rfl) (kc' := kc) (ks' := ks) (mc := 0) (ms := 0) rfl rfl (c_Thing_choice o12) (pureK ?_)
      refine e_iload_n d_Planner_endWith_48 rfl ?_
      refine e_icmp_ne (tgt := 86) d_Planner_endWith_49 (by decide) (fun q13 => ?_) (fun q14 => ?_)
      · have h := h q13
        obtain ⟨o26, h⟩ := h
        refine e_iinc (ls' := [(2, ((b : Int) + 12)), (0, p1), (2, p2), (2, p3), (9, 0), (0, x5), (0, (x6 + 1)), (2, (G 3 (G 17 ((b : Int) + 13) 0) x6))]) d_Planner_endWith_86 rfl (by decide) o26 rfl ?_
        refine e_goto (tgt := 11) d_Planner_endWith_89 (by decide) ?_
        exact e_forget (ls' := [(2, ((b : Int) + 12)), (0, p1), (2, p2), (2, p3), (9, 0), (0, x5), (0, (x6 + 1)), (9, 0)]) ⟨Or.inr rfl, Or.inr rfl, Or.inr rfl, Or.inr rfl, Or.inl rfl, Or.inr rfl, Or.inr rfl, Or.inl rfl, trivial⟩ h
      · exact kJ15 (Or.inr ⟨q4, q11, q14⟩)
set_option maxRecDepth 20000 in
set_option maxHeartbeats 4000000 in
theorem sg_Planner_earliestTeam_0 {e : gE} {b : Nat} {m : Int} {Z : Int → gH → Prop} {kc ks : Nat} {G : gH} {p1 p2 : Int} (h : EX e b m m_Planner_earliestTeam Z kc ks 8 [(2, ((b : Int) + 12)), (2, p1), (0, p2), (0, (-1)), (0, (-1)), (0, 0), (9, 0)] [] G) : EX e b m m_Planner_earliestTeam Z kc ks 0 [(2, ((b : Int) + 12)), (2, p1), (0, p2), (9, 0), (9, 0), (9, 0), (9, 0)] [] G := by
  refine e_iconst d_Planner_earliestTeam_0 (by decide) ?_
  refine e_istore_n (ls' := [(2, ((b : Int) + 12)), (2, p1), (0, p2), (0, (-1)), (9, 0), (9, 0), (9, 0)]) d_Planner_earliestTeam_1 (by decide) rfl ?_
  refine e_iconst d_Planner_earliestTeam_2 (by decide) ?_
  refine e_istore (ls' := [(2, ((b : Int) + 12)), (2, p1), (0, p2), (0, (-1)), (0, (-1)), (9, 0), (9, 0)]) d_Planner_earliestTeam_3 (by decide) rfl ?_
  refine e_iconst d_Planner_earliestTeam_5 (by decide) ?_
  refine e_istore (ls' := [(2, ((b : Int) + 12)), (2, p1), (0, p2), (0, (-1)), (0, (-1)), (0, 0), (9, 0)]) d_Planner_earliestTeam_6 (by decide) rfl ?_
  exact e_forget (ls' := [(2, ((b : Int) + 12)), (2, p1), (0, p2), (0, (-1)), (0, (-1)), (0, 0), (9, 0)]) ⟨Or.inr rfl, Or.inr rfl, Or.inr rfl, Or.inr rfl, Or.inr rfl, Or.inr rfl, Or.inl rfl, trivial⟩ h
set_option maxRecDepth 20000 in
set_option maxHeartbeats 4000000 in
theorem sg_Planner_earliestTeam_8 {e : gE} {b : Nat} {m : Int} {Z : Int → gH → Prop} {kc ks : Nat} {G : gH} {p1 p2 x3 x4 x5 : Int} (h : (G 0 ((b : Int) + 11) 0 = 1) ∧ (((G 18 ((b : Int) + 11) 0) ≤ x5 → Z x3 G) ∧ (x5 < (G 18 ((b : Int) + 11) 0) → (G 0 (G 17 ((b : Int) + 11) 0) 0 = 103) ∧ ((0 ≤ x5 ∧ x5 < G 18 ((b : Int) + 11) 0) ∧ ((G 18 ((b : Int) + 11) 0 ≤ G 0 (G 17 ((b : Int) + 11) 0) 1) ∧ ((G 0 (G 3 (G 17 ((b : Int) + 11) 0) x5) 0 = 9) ∧ (GX e b m m_Planner_endWith [(2, ((b : Int) + 12)), (0, x5), (2, (G 3 (G 17 ((b : Int) + 11) 0) x5)), (2, p1), (0, p2)] G 0 0 (fun v11 G12 => (((v11 ≠ (-1) ∧ x3 = (-1)) ∨ (v11 ≠ (-1) ∧ x3 ≠ (-1) ∧ v11 < x4)) → (inI (x5 + 1)) ∧ EX e b m m_Planner_earliestTeam Z kc ks 8 [(2, ((b : Int) + 12)), (2, p1), (0, p2), (0, x5), (0, v11), (0, (x5 + 1)), (9, 0)] [] G12) ∧ ((v11 = (-1) ∨ (v11 ≠ (-1) ∧ x3 ≠ (-1) ∧ x4 ≤ v11)) → (inI (x5 + 1)) ∧ EX e b m m_Planner_earliestTeam Z kc ks 8 [(2, ((b : Int) + 12)), (2, p1), (0, p2), (0, x3), (0, x4), (0, (x5 + 1)), (9, 0)] [] G12))))))))) : EX e b m m_Planner_earliestTeam Z kc ks 8 [(2, ((b : Int) + 12)), (2, p1), (0, p2), (0, x3), (0, x4), (0, x5), (9, 0)] [] G := by
  refine e_iload d_Planner_earliestTeam_8 rfl ?_
  refine e_aload_n d_Planner_earliestTeam_10 rfl ?_
  refine gx_Planner_15 d_Planner_earliestTeam_11 rfl ?_
  refine EV.inv fun hFf1 => ?_
  have f1 := (fx_ct 10 rfl hFf1).1
  obtain ⟨o2, h⟩ := h
  refine e_callV m_AL_size 0 lw_good d_Planner_earliestTeam_14 (k_AL_size _) ⟨Nat.le_of_ble_eq_true rfl, Nat.le_of_ble_eq_true rfl⟩ w_635 w_330 w_331 (q_AL _) rfl f1 (args := []) rfl rfl (Nat.le_of_ble_eq_true rfl) (kc' := kc) (ks' := ks) (mc := 0) (ms := 0) rfl rfl (c_AL_size o2) (pureK ?_)
  refine e_icmp_ge (tgt := 73) d_Planner_earliestTeam_17 (by decide) (fun q3 => ?_) (fun q4 => ?_)
  · have h := h.1 q3
    refine e_iload_n d_Planner_earliestTeam_73 rfl ?_
    exact e_iret d_Planner_earliestTeam_74 rfl h
  · have h := h.2 q4
    refine e_aload_n d_Planner_earliestTeam_20 rfl ?_
    refine e_iload d_Planner_earliestTeam_21 rfl ?_
    refine e_aload_n d_Planner_earliestTeam_23 rfl ?_
    refine gx_Planner_15 d_Planner_earliestTeam_24 rfl ?_
    refine e_iload d_Planner_earliestTeam_27 rfl ?_
    refine EV.inv fun hFf5 => ?_
    have f5 := (fx_ct 10 rfl hFf5).1
    obtain ⟨o6, o7, o8, h⟩ := h
    refine e_callV m_AL_get 0 lw_good d_Planner_earliestTeam_29 (k_AL_get _) ⟨Nat.le_of_ble_eq_true rfl, Nat.le_of_ble_eq_true rfl⟩ w_636 w_607 w_608 (q_AL _) rfl f5 (args := [(0, x5)]) rfl rfl (Nat.le_of_ble_eq_true rfl) (kc' := kc) (ks' := ks) (mc := 0) (ms := 0) rfl rfl (c_AL_get o2 o6 o7 o8) (pureK ?_)
    obtain ⟨o9, h⟩ := h
    refine e_cast 8 d_Planner_earliestTeam_32 (q_Team _) w_698 (Or.inr o9) ?_
    refine e_aload_n d_Planner_earliestTeam_35 rfl ?_
    refine e_iload_n d_Planner_earliestTeam_36 rfl ?_
    refine EV.inv fun hFf10 => ?_
    have f10 := (fx_ct 11 rfl hFf10).1
    refine e_callV m_Planner_endWith 5 lw_good d_Planner_earliestTeam_37 (k_Planner_endWith _) ⟨Nat.le_of_ble_eq_true rfl, Nat.le_of_ble_eq_true rfl⟩ w_770 w_772 w_s22 (q_Planner _) rfl f10 (args := [(0, x5), (2, (G 3 (G 17 ((b : Int) + 11) 0) x5)), (2, p1), (0, p2)]) rfl rfl (Nat.le_of_ble_eq_true rfl) (kc' := kc) (ks' := ks) (mc := 0) (ms := 0) rfl rfl h ?_
    intro v11 G12 h
    obtain ⟨hJ19, hJ20⟩ := h
    have kJ20 : (v11 = (-1) ∨ (v11 ≠ (-1) ∧ x3 ≠ (-1) ∧ x4 ≤ v11)) → EX e b m m_Planner_earliestTeam Z kc ks 67 [(2, ((b : Int) + 12)), (2, p1), (0, p2), (0, x3), (0, x4), (0, x5), (0, v11)] [] G12 := by
      intro rJ20
      have h := hJ20 rJ20
      obtain ⟨o21, h⟩ := h
      refine e_iinc (ls' := [(2, ((b : Int) + 12)), (2, p1), (0, p2), (0, x3), (0, x4), (0, (x5 + 1)), (0, v11)]) d_Planner_earliestTeam_67 rfl (by decide) o21 rfl ?_
      refine e_goto (tgt := 8) d_Planner_earliestTeam_70 (by decide) ?_
      exact e_forget (ls' := [(2, ((b : Int) + 12)), (2, p1), (0, p2), (0, x3), (0, x4), (0, (x5 + 1)), (9, 0)]) ⟨Or.inr rfl, Or.inr rfl, Or.inr rfl, Or.inr rfl, Or.inr rfl, Or.inr rfl, Or.inl rfl, trivial⟩ h
    have kJ19 : ((v11 ≠ (-1) ∧ x3 = (-1)) ∨ (v11 ≠ (-1) ∧ x3 ≠ (-1) ∧ v11 < x4)) → EX e b m m_Planner_earliestTeam Z kc ks 60 [(2, ((b : Int) + 12)), (2, p1), (0, p2), (0, x3), (0, x4), (0, x5), (0, v11)] [] G12 := by
      intro rJ19
      have h := hJ19 rJ19
      refine e_iload d_Planner_earliestTeam_60 rfl ?_
      refine e_istore_n (ls' := [(2, ((b : Int) + 12)), (2, p1), (0, p2), (0, x5), (0, x4), (0, x5), (0, v11)]) d_Planner_earliestTeam_62 (by decide) rfl ?_
      refine e_iload d_Planner_earliestTeam_63 rfl ?_
      refine e_istore (ls' := [(2, ((b : Int) + 12)), (2, p1), (0, p2), (0, x5), (0, v11), (0, x5), (0, v11)]) d_Planner_earliestTeam_65 (by decide) rfl ?_
      obtain ⟨o22, h⟩ := h
      refine e_iinc (ls' := [(2, ((b : Int) + 12)), (2, p1), (0, p2), (0, x5), (0, v11), (0, (x5 + 1)), (0, v11)]) d_Planner_earliestTeam_67 rfl (by decide) o22 rfl ?_
      refine e_goto (tgt := 8) d_Planner_earliestTeam_70 (by decide) ?_
      exact e_forget (ls' := [(2, ((b : Int) + 12)), (2, p1), (0, p2), (0, x5), (0, v11), (0, (x5 + 1)), (9, 0)]) ⟨Or.inr rfl, Or.inr rfl, Or.inr rfl, Or.inr rfl, Or.inr rfl, Or.inr rfl, Or.inl rfl, trivial⟩ h
    refine e_istore (ls' := [(2, ((b : Int) + 12)), (2, p1), (0, p2), (0, x3), (0, x4), (0, x5), (0, v11)]) d_Planner_earliestTeam_40 (by decide) rfl ?_
    refine e_iload d_Planner_earliestTeam_42 rfl ?_
    refine e_iconst d_Planner_earliestTeam_44 (by decide) ?_
    refine e_icmp_eq (tgt := 67) d_Planner_earliestTeam_45 (by decide) (fun q13 => ?_) (fun q14 => ?_)
    · exact kJ20 (Or.inl q13)
    · refine e_iload_n d_Planner_earliestTeam_48 rfl ?_
      refine e_iconst d_Planner_earliestTeam_49 (by decide) ?_
      refine e_icmp_eq (tgt := 60) d_Planner_earliestTeam_50 (by decide) (fun q15 => ?_) (fun q16 => ?_)
      · exact kJ19 (Or.inl ⟨q14, q15⟩)
      · refine e_iload d_Planner_earliestTeam_53 rfl ?_
        refine e_iload d_Planner_earliestTeam_55 rfl ?_
        refine e_icmp_ge (tgt := 67) d_Planner_earliestTeam_57 (by decide) (fun q17 => ?_) (fun q18 => ?_)
        · exact kJ20 (Or.inr ⟨q14, q16, q17⟩)
        · exact kJ19 (Or.inr ⟨q14, q16, q18⟩)
set_option maxRecDepth 20000 in
set_option maxHeartbeats 4000000 in
theorem sg_Planner_makeByRule_0 {e : gE} {b : Nat} {m : Int} {Z : Int → gH → Prop} {kc ks : Nat} {G : gH} {p1 p2 : Int} (h : ∃ kc4 ks5 mc6 ms7 : Nat, kc = kc4 + mc6 ∧ ks = ks5 + ms7 ∧ GX e b m m_Planner_gather [(2, ((b : Int) + 12)), (0, p2)] G mc6 ms7 (fun _ G3 => EX e b m m_Planner_makeByRule Z kc4 ks5 10 [(2, ((b : Int) + 12)), (0, p1), (9, 0), (0, 0), (0, 0), (9, 0), (9, 0)] [] G3)) : EX e b m m_Planner_makeByRule Z kc ks 0 [(2, ((b : Int) + 12)), (0, p1), (0, p2), (9, 0), (9, 0), (9, 0), (9, 0)] [] G := by
  refine e_aload_n d_Planner_makeByRule_0 rfl ?_
  refine e_iload_n d_Planner_makeByRule_1 rfl ?_
  refine EV.inv fun hFf1 => ?_
  have f1 := (fx_ct 11 rfl hFf1).1
  obtain ⟨kc4, ks5, mc6, ms7, hkc4, hks5, h⟩ := h
  refine e_callV m_Planner_gather 5 lw_good d_Planner_makeByRule_2 (k_Planner_gather _) ⟨Nat.le_of_ble_eq_true rfl, Nat.le_of_ble_eq_true rfl⟩ w_627 w_629 w_s14 (q_Planner _) rfl f1 (args := [(0, p2)]) rfl rfl (Nat.le_of_ble_eq_true rfl) (kc' := kc4) (ks' := ks5) (mc := mc6) (ms := ms7) hkc4 hks5 h ?_
  intro v2 G3 h
  refine e_iconst d_Planner_makeByRule_5 (by decide) ?_
  refine e_istore_n (ls' := [(2, ((b : Int) + 12)), (0, p1), (0, p2), (0, 0), (9, 0), (9, 0), (9, 0)]) d_Planner_makeByRule_6 (by decide) rfl ?_
  refine e_iconst d_Planner_makeByRule_7 (by decide) ?_
  refine e_istore (ls' := [(2, ((b : Int) + 12)), (0, p1), (0, p2), (0, 0), (0, 0), (9, 0), (9, 0)]) d_Planner_makeByRule_8 (by decide) rfl ?_
  exact e_forget (ls' := [(2, ((b : Int) + 12)), (0, p1), (9, 0), (0, 0), (0, 0), (9, 0), (9, 0)]) ⟨Or.inr rfl, Or.inr rfl, Or.inl rfl, Or.inr rfl, Or.inr rfl, Or.inl rfl, Or.inl rfl, trivial⟩ h
set_option maxRecDepth 20000 in
set_option maxHeartbeats 4000000 in
theorem sg_Planner_makeByRule_10 {e : gE} {b : Nat} {m : Int} {Z : Int → gH → Prop} {kc ks : Nat} {G : gH} {p1 x3 x4 : Int} (h : (G 0 ((b : Int) + 14) 0 = 1) ∧ (((G 18 ((b : Int) + 14) 0) ≤ x4 → Z x3 G) ∧ (x4 < (G 18 ((b : Int) + 14) 0) → (G 0 (G 17 ((b : Int) + 14) 0) 0 = 103) ∧ ((0 ≤ x4 ∧ x4 < G 18 ((b : Int) + 14) 0) ∧ ((G 18 ((b : Int) + 14) 0 ≤ G 0 (G 17 ((b : Int) + 14) 0) 1) ∧ ((G 0 (G 3 (G 17 ((b : Int) + 14) 0) x4) 0 = 10) ∧ (GX e b m m_Planner_earliestTeam [(2, ((b : Int) + 12)), (2, (G 3 (G 17 ((b : Int) + 14) 0) x4)), (0, p1)] G 0 0 (fun v11 G12 => (G12 0 (G 3 (G 17 ((b : Int) + 14) 0) x4) 0 = 10) ∧ (GX e b m m_Thing_choose [(2, (G 3 (G 17 ((b : Int) + 14) 0) x4)), (0, v11)] G12 0 0 (fun _ G15 => (v11 ≠ (-1) → (G15 0 (G 3 (G 17 ((b : Int) + 14) 0) x4) 0 = 10) ∧ (G15 0 (G 3 (G 17 ((b : Int) + 14) 0) x4) 0 = 10) ∧ (inI (x3 + (G15 594 (G 3 (G 17 ((b : Int) + 14) 0) x4) 0))) ∧ (inI (x4 + 1)) ∧ EX e b m m_Planner_makeByRule Z kc ks 10 [(2, ((b : Int) + 12)), (0, p1), (9, 0), (0, (x3 + (G15 594 (G 3 (G 17 ((b : Int) + 14) 0) x4) 0))), (0, (x4 + 1)), (9, 0), (9, 0)] [] G15) ∧ (v11 = (-1) → (inI (x3 + 0)) ∧ (inI (x4 + 1)) ∧ EX e b m m_Planner_makeByRule Z kc ks 10 [(2, ((b : Int) + 12)), (0, p1), (9, 0), (0, (x3 + 0)), (0, (x4 + 1)), (9, 0), (9, 0)] [] G15))))))))))) : EX e b m m_Planner_makeByRule Z kc ks 10 [(2, ((b : Int) + 12)), (0, p1), (9, 0), (0, x3), (0, x4), (9, 0), (9, 0)] [] G := by
  refine e_iload d_Planner_makeByRule_10 rfl ?_
  refine e_aload_n d_Planner_makeByRule_12 rfl ?_
  refine gx_Planner_28 d_Planner_makeByRule_13 rfl ?_
  refine EV.inv fun hFf1 => ?_
  have f1 := (fx_ct 13 rfl hFf1).1
  obtain ⟨o2, h⟩ := h
  refine e_callV m_AL_size 0 lw_good d_Planner_makeByRule_16 (k_AL_size _) ⟨Nat.le_of_ble_eq_true rfl, Nat.le_of_ble_eq_true rfl⟩ w_635 w_330 w_331 (q_AL _) rfl f1 (args := []) rfl rfl (Nat.le_of_ble_eq_true rfl) (kc' := kc) (ks' := ks) (mc := 0) (ms := 0) rfl rfl (c_AL_size o2) (pureK ?_)
  refine e_icmp_ge (tgt := 76) d_Planner_makeByRule_19 (by decide) (fun q3 => ?_) (fun q4 => ?_)
  · have h := h.1 q3
    refine e_iload_n d_Planner_makeByRule_76 rfl ?_
    exact e_iret d_Planner_makeByRule_77 rfl h
  · have h := h.2 q4
    refine e_aload_n d_Planner_makeByRule_22 rfl ?_
    refine gx_Planner_28 d_Planner_makeByRule_23 rfl ?_
    refine e_iload d_Planner_makeByRule_26 rfl ?_
    refine EV.inv fun hFf5 => ?_
    have f5 := (fx_ct 13 rfl hFf5).1
    obtain ⟨o6, o7, o8, h⟩ := h
    refine e_callV m_AL_get 0 lw_good d_Planner_makeByRule_28 (k_AL_get _) ⟨Nat.le_of_ble_eq_true rfl, Nat.le_of_ble_eq_true rfl⟩ w_636 w_607 w_608 (q_AL _) rfl f5 (args := [(0, x4)]) rfl rfl (Nat.le_of_ble_eq_true rfl) (kc' := kc) (ks' := ks) (mc := 0) (ms := 0) rfl rfl (c_AL_get o2 o6 o7 o8) (pureK ?_)
    obtain ⟨o9, h⟩ := h
    refine e_cast 9 d_Planner_makeByRule_31 (q_Thing _) w_637 (Or.inr o9) ?_
    refine e_astore (ls' := [(2, ((b : Int) + 12)), (0, p1), (9, 0), (0, x3), (0, x4), (2, (G 3 (G 17 ((b : Int) + 14) 0) x4)), (9, 0)]) d_Planner_makeByRule_34 (by decide) rfl ?_
    refine e_aload_n d_Planner_makeByRule_36 rfl ?_
    refine e_aload d_Planner_makeByRule_37 rfl ?_
    refine e_iload_n d_Planner_makeByRule_39 rfl ?_
    refine EV.inv fun hFf10 => ?_
    have f10 := (fx_ct 11 rfl hFf10).1
    refine e_callV m_Planner_earliestTeam 5 lw_good d_Planner_makeByRule_40 (k_Planner_earliestTeam _) ⟨Nat.le_of_ble_eq_true rfl, Nat.le_of_ble_eq_true rfl⟩ w_766 w_768 w_s21 (q_Planner _) rfl f10 (args := [(2, (G 3 (G 17 ((b : Int) + 14) 0) x4)), (0, p1)]) rfl rfl (Nat.le_of_ble_eq_true rfl) (kc' := kc) (ks' := ks) (mc := 0) (ms := 0) rfl rfl h ?_
    intro v11 G12 h
    refine e_istore (ls' := [(2, ((b : Int) + 12)), (0, p1), (9, 0), (0, x3), (0, x4), (2, (G 3 (G 17 ((b : Int) + 14) 0) x4)), (0, v11)]) d_Planner_makeByRule_43 (by decide) rfl ?_
    refine e_aload d_Planner_makeByRule_45 rfl ?_
    refine e_iload d_Planner_makeByRule_47 rfl ?_
    obtain ⟨o13, h⟩ := h
    refine e_callV m_Thing_choose 9 lw_good d_Planner_makeByRule_49 (k_Thing_choose _) ⟨Nat.le_of_ble_eq_true rfl, Nat.le_of_ble_eq_true rfl⟩ w_758 w_759 w_760 (q_Thing _) rfl o13 (args := [(0, v11)]) rfl rfl (Nat.le_of_ble_eq_true rfl) (kc' := kc) (ks' := ks) (mc := 0) (ms := 0) rfl rfl h ?_
    intro v14 G15 h
    refine e_iload_n d_Planner_makeByRule_52 rfl ?_
    refine e_iload d_Planner_makeByRule_53 rfl ?_
    refine e_iconst d_Planner_makeByRule_55 (by decide) ?_
    refine e_icmp_ne (tgt := 63) d_Planner_makeByRule_56 (by decide) (fun q16 => ?_) (fun q17 => ?_)
    · have h := h.1 q16
      refine e_aload d_Planner_makeByRule_63 rfl ?_
      obtain ⟨o18, o19, h⟩ := h
      refine e_callV m_Thing_worth 9 lw_good d_Planner_makeByRule_65 (k_Thing_worth _) ⟨Nat.le_of_ble_eq_true rfl, Nat.le_of_ble_eq_true rfl⟩ w_720 w_721 w_722 (q_Thing _) rfl o18 (args := []) rfl rfl (Nat.le_of_ble_eq_true rfl) (kc' := kc) (ks' := ks) (mc := 0) (ms := 0) rfl rfl (c_Thing_worth o19) (pureK ?_)
      obtain ⟨o20, h⟩ := h
      refine e_iadd d_Planner_makeByRule_68 o20 ?_
      refine e_istore_n (ls' := [(2, ((b : Int) + 12)), (0, p1), (9, 0), (0, (x3 + (G15 594 (G 3 (G 17 ((b : Int) + 14) 0) x4) 0))), (0, x4), (2, (G 3 (G 17 ((b : Int) + 14) 0) x4)), (0, v11)]) d_Planner_makeByRule_69 (by decide) rfl ?_
      obtain ⟨o21, h⟩ := h
      refine e_iinc (ls' := [(2, ((b : Int) + 12)), (0, p1), (9, 0), (0, (x3 + (G15 594 (G 3 (G 17 ((b : Int) + 14) 0) x4) 0))), (0, (x4 + 1)), (2, (G 3 (G 17 ((b : Int) + 14) 0) x4)), (0, v11)]) d_Planner_makeByRule_70 rfl (by decide) o21 rfl ?_
      refine e_goto (tgt := 10) d_Planner_makeByRule_73 (by decide) ?_
      exact e_forget (ls' := [(2, ((b : Int) + 12)), (0, p1), (9, 0), (0, (x3 + (G15 594 (G 3 (G 17 ((b : Int) + 14) 0) x4) 0))), (0, (x4 + 1)), (9, 0), (9, 0)]) ⟨Or.inr rfl, Or.inr rfl, Or.inl rfl, Or.inr rfl, Or.inr rfl, Or.inl rfl, Or.inl rfl, trivial⟩ h
    · have h := h.2 q17
      refine e_iconst d_Planner_makeByRule_59 (by decide) ?_
      refine e_goto (tgt := 68) d_Planner_makeByRule_60 (by decide) ?_
      obtain ⟨o22, h⟩ := h
      refine e_iadd d_Planner_makeByRule_68 o22 ?_
      refine e_istore_n (ls' := [(2, ((b : Int) + 12)), (0, p1), (9, 0), (0, (x3 + 0)), (0, x4), (2, (G 3 (G 17 ((b : Int) + 14) 0) x4)), (0, v11)]) d_Planner_makeByRule_69 (by decide) rfl ?_
      obtain ⟨o23, h⟩ := h
      refine e_iinc (ls' := [(2, ((b : Int) + 12)), (0, p1), (9, 0), (0, (x3 + 0)), (0, (x4 + 1)), (2, (G 3 (G 17 ((b : Int) + 14) 0) x4)), (0, v11)]) d_Planner_makeByRule_70 rfl (by decide) o23 rfl ?_
      refine e_goto (tgt := 10) d_Planner_makeByRule_73 (by decide) ?_
      exact e_forget (ls' := [(2, ((b : Int) + 12)), (0, p1), (9, 0), (0, (x3 + 0)), (0, (x4 + 1)), (9, 0), (9, 0)]) ⟨Or.inr rfl, Or.inr rfl, Or.inl rfl, Or.inr rfl, Or.inr rfl, Or.inl rfl, Or.inl rfl, trivial⟩ h
/-- the planner's state: its lists, and what things show of their jobs -/
def zPs (e : gE) (b : Nat) (m : Int) (G0 G : gH) (A : zA) (T : Int → Int) (n1 : Int) (O1 : Int → Int) (n2 : Int) (O2 C : Int → Int) : Prop := (zPF b m G0 G ∧ zDst b G) ∧ (zAL e b m G ((b : Int) + 13) 10 n1 (fun k => T (O1 k)) ∧ zAL e b m G ((b : Int) + 14) 10 n2 (fun k => T (O2 k))) ∧ (zEnum (zJb A) (zDue A) (A 785 0) n1 O1 ∧ zEnum (zJb A) (fun t => -zRt A t) (A 785 0) n2 O2) ∧ ∀ t, 0 ≤ t → t < A 785 0 → zJb A t → G 602 (T t) 0 = zLen A t ∧ G 603 (T t) 0 = zLat A t ∧ G 601 (T t) 0 = C t
theorem zPs_ch {e : gE} {b : Nat} {m : Int} {G0 G : gH} {A : zA} {T O1 O2 C τ : Int → Int} {n1 n2 t v : Int} (hlo : (b : Int) + 53 < m) (h : zPs e b m G0 G A T n1 O1 n2 O2 C) (hT : zRkT e b m G A T τ) (ht : zTh A t) : zPs e b m G0 (gU G 601 (T t) 0 v) A T n1 O1 n2 O2 (zSet C t v) := by
  obtain ⟨⟨pf, dst⟩, ⟨l1, l2⟩, en, me⟩ := h
  have ha := (hT.2.1 t ht.1 ht.2).1.1.2
  have ms : zMs (T t) G (gU G 601 (T t) 0 v) := fun c i j z => gU_ne (fun y => z ⟨y.2.1, Or.inr (Or.inr y.1)⟩)
  have k0 : ∀ i j, gU G 601 (T t) 0 v 0 i j = G 0 i j := fun i j => gU_c _ (by decide)
  have k17 : ∀ i j, gU G 601 (T t) 0 v 17 i j = G 17 i j := fun i j => gU_c _ (by decide)
  refine ⟨⟨zPF_t pf (zPF_ms hlo ha ms), fun i j i1 j1 ne z => ?_⟩, ⟨zAL_fr (by decide) l1 (fun i j _ => k0 i j) (gU_c _ (by decide)) (gU_c _ (by decide)) (fun _ j => gU_c _ (by decide)), zAL_fr (by decide) l2 (fun i j _ => k0 i j) (gU_c _ (by decide)) (gU_c _ (by decide)) (fun _ j => gU_c _ (by decide))⟩, en, fun u u1 u2 u3 => ?_⟩
  · rw [k17, k17]
    rw [k0, k17] at z
    exact dst i j i1 j1 ne z
  · have w := me u u1 u2 u3
    refine ⟨(gU_c _ (by decide)).trans w.1, (gU_c _ (by decide)).trans w.2.1, ?_⟩
    by_cases z : u = t
    · rw [z, gU_eq, zSet_eq]
    · rw [zSet_ne z, gU_ne (fun y => z (zRkT_i hT ⟨u1, u2⟩ ht y.2.1))]
      exact w.2.2
/-- lengths of those of an order that are given to a team -/
def zWl (A : zA) (g : Int → Int) (k : Int) (O : Int → Int) (i : Int) : Int := if g (O i) = k then zLen A (O i) else 0
theorem zBeg_O {A : zA} {g O : Int → Int} {k n j : Int} (hE : zEnum (zJb A) (zDue A) (A 785 0) n O) (hg : ∀ u, 0 ≤ u → u < A 785 0 → zGv A g k u → zJb A u) (hj : 0 ≤ j ∧ j < n) : zBeg A g k (O j) = zFree A k + zS (zWl A g k O) j := by
  have h0 : 0 ≤ A 785 0 := by have := hE.1; omega
  have e : zS (zWl A g k O) j = zS (fun t => if zJb A t ∧ zBf (zDue A) t (O j) then (if g t = k then zLen A t else 0) else 0) (A 785 0) := zEnum_pre hE (fun u => if g u = k then zLen A u else 0) hj
  rw [e]
  refine congrArg (fun x => zFree A k + x) (zS_eq _ h0 (fun i i1 i2 => ?_))
  show (if zGv A g k i ∧ zBf (zDue A) i (O j) then zLen A i else 0) = (if zJb A i ∧ zBf (zDue A) i (O j) then (if g i = k then zLen A i else 0) else 0)
  by_cases q1 : zJb A i ∧ zBf (zDue A) i (O j)
  · rw [if_pos q1]
    by_cases q2 : g i = k
    · rw [if_pos q2, if_pos ⟨⟨q2, q1.1.1⟩, q1.2⟩]
    · rw [if_neg q2, if_neg (fun z => q2 z.1.1)]
  · rw [if_neg q1, if_neg (fun z => q1 ⟨hg i i1 i2 z.1, z.2⟩)]
theorem zEnds_O {A : zA} {g O : Int → Int} {k n : Int} (hE : zEnum (zJb A) (zDue A) (A 785 0) n O) (hg : ∀ u, 0 ≤ u → u < A 785 0 → zGv A g k u → zJb A u) : zEnds A g k = zFree A k + zS (zWl A g k O) n := by
  have h0 : 0 ≤ A 785 0 := by have := hE.1; omega
  have e : zS (zWl A g k O) n = zS (fun t => if zJb A t then (if g t = k then zLen A t else 0) else 0) (A 785 0) := zEnum_all hE (fun u => if g u = k then zLen A u else 0)
  rw [e]
  refine congrArg (fun x => zFree A k + x) (zS_eq _ h0 (fun i i1 i2 => ?_))
  show (if zGv A g k i then zLen A i else 0) = (if zJb A i then (if g i = k then zLen A i else 0) else 0)
  by_cases q1 : zJb A i
  · rw [if_pos q1]
    by_cases q2 : g i = k
    · rw [if_pos q2, if_pos ⟨q2, q1.1⟩]
    · rw [if_neg q2, if_neg (fun z => q2 z.1)]
  · rw [if_neg q1, if_neg (fun z => q1 (hg i i1 i2 z))]
theorem zDo_O {A : zA} {g O : Int → Int} {k n : Int} (hE : zEnum (zJb A) (zDue A) (A 785 0) n O) (hg : ∀ u, 0 ≤ u → u < A 785 0 → zGv A g k u → zJb A u) : zDo A g k ↔ ∀ j, 0 ≤ j → j < n → g (O j) = k → A 9 (O j) ≤ A 15 k ∧ zFree A k + zS (zWl A g k O) j ≤ zLat A (O j) := by
  constructor
  · intro h j j1 j2 j3
    obtain ⟨⟨o1, o2⟩, o3⟩ := hE.2.1 j j1 j2
    have w := h (O j) o1 o2 ⟨j3, o3.1⟩
    rw [zBeg_O hE hg ⟨j1, j2⟩] at w
    exact ⟨w.1.2, w.2⟩
  · intro h t t1 t2 t3
    have tj := hg t t1 t2 t3
    obtain ⟨j, ⟨j1, j2⟩, rfl⟩ := hE.2.2.2 t t1 t2 tj
    have w := h j j1 j2 t3.1
    rw [zBeg_O hE hg ⟨j1, j2⟩]
    exact ⟨⟨tj.2, w.1⟩, w.2⟩
theorem zWl_b {A : zA} {g O : Int → Int} {k n : Int} (hB : zB 512 A) (hE : zEnum (zJb A) (zDue A) (A 785 0) n O) (j : Int) (hj : 0 ≤ j ∧ j ≤ n) : 0 ≤ zS (zWl A g k O) j ∧ zS (zWl A g k O) j ≤ 300 * j := by
  refine zS_b j (fun i i1 i2 => ?_) hj.1 (by decide)
  have := (zJb_b hB (hE.2.1 i i1 (by omega)).2).1
  unfold zWl
  split <;> omega
theorem zFr_e {A : zA} {k : Int} : (if A 16 k < A 789 0 then A 789 0 else A 16 k) = zFree A k := by
  unfold zFree
  (repeat' split) <;> omega
theorem zGv_J {A : zA} {F : Int → Int} {t k : Int} (hk : 0 ≤ k) (hF : ∀ u, zTh A u → zIn A u → ¬ zJb A u → F u = -1) (hjt : zJb A t) : ∀ u, 0 ≤ u → u < A 785 0 → zGv A (zSet F t k) k u → zJb A u := fun u u1 u2 z => by
  by_cases y : u = t
  · rw [y]; exact hjt
  · have z1 := z.1
    rw [zSet_ne y] at z1
    by_cases x : zJb A u
    · exact x
    · have := hF u ⟨u1, u2⟩ z.2 x
      omega
theorem c_endWith {e : gE} {b : Nat} {m : Int} {G0 G : gH} {A : zA} {T Q O1 O2 C F τ : Int → Int} {n1 n2 k t : Int} (hB : zB 512 A) (hps : zPs e b m G0 G A T n1 O1 n2 O2 C) (hT : zRkT e b m G A T τ) (hQ : zRkQ e b m G A T Q) (hk : 0 ≤ k ∧ k < A 786 0) (ht : zTh A t) (hjt : zJb A t) (hF : ∀ u, zTh A u → zJb A u → C u = F u) (hF2 : ∀ u, zTh A u → zIn A u → ¬ zJb A u → F u = -1) : GX e b m m_Planner_endWith [(2, ((b : Int) + 12)), (0, k), (2, Q k), (2, T t), (0, A 789 0)] G 0 0 (fun v G1 => ((zDo A (zSet F t k) k ∧ v = zEnds A (zSet F t k) k) ∨ (¬ zDo A (zSet F t k) k ∧ v = -1)) ∧ G1 = G) := by
  obtain ⟨-, ⟨l1, -⟩, ⟨en1, -⟩, me⟩ := hps
  have b0 : 0 ≤ A 785 0 ∧ A 785 0 ≤ 16 := hB 785 0
  have q := hQ.2.1 k hk.1 hk.2
  have q9 := hQ.1.2.2.1 k hk.1 hk.2
  have bf := zFree_b hB k
  have hg := zGv_J (k := k) hk.1 hF2 hjt
  have bx := zWl_b (g := zSet F t k) (k := k) hB en1
  have n16 : n1 ≤ 16 := by have := en1.1; omega
  refine GM.ofEV (by decide) (Nat.le_of_ble_eq_true rfl) (sg_Planner_endWith_0 ⟨q9, q9, ?_⟩)
  rw [q.2.2.1, zFr_e]
  refine zloop (P := fun i => ∀ x, x = zFree A k + zS (zWl A (zSet F t k) k O1) i → (∀ j, 0 ≤ j → j < i → zSet F t k (O1 j) = k → A 9 (O1 j) ≤ A 15 k ∧ zFree A k + zS (zWl A (zSet F t k) k O1) j ≤ zLat A (O1 j)) → EX e b m m_Planner_endWith _ 0 0 11 [(2, ((b : Int) + 12)), (0, k), (2, Q k), (2, T t), (9, 0), (0, x), (0, i), (9, 0)] [] G) (i := 0) n1 en1.1.1 ?_ ?_ (zFree A k) (by rw [zS_0, Int.add_zero]) (fun j j1 j2 => by omega)
  · intro x hx hj
    refine sg_Planner_endWith_11 ?_
    rw [l1.2.1]
    exact ⟨⟨l1.1, fun _ => ⟨Or.inl ⟨(zDo_O en1 hg).2 hj, by rw [hx, zEnds_O en1 hg]⟩, rfl⟩, fun z => absurd z (by omega)⟩, fun z => absurd z (by omega), fun z => absurd z (by omega)⟩
  · intro i i1 i2 st x hx hj
    have w := zAL_g l1 ⟨i1, i2⟩
    obtain ⟨⟨o1, o2⟩, oj⟩ := en1.2.1 i i1 i2
    obtain ⟨m1, m2, m3⟩ := me (O1 i) o1 o2 oj
    have t4 := (hT.2.1 (O1 i) o1 o2).1.2.2.2.2.1
    have oc : C (O1 i) = F (O1 i) := hF _ ⟨o1, o2⟩ oj
    have tt : T (O1 i) = T t ↔ O1 i = t := ⟨fun z => zRkT_i hT ⟨o1, o2⟩ ht z, fun z => by rw [z]⟩
    have bi := bx i ⟨i1, by omega⟩
    have bj := zJb_b hB oj
    have gk : zSet F t k (O1 i) = k ↔ (O1 i = t ∨ F (O1 i) = k) := by
      by_cases y : O1 i = t
      · rw [y, zSet_eq]; exact ⟨fun _ => Or.inl rfl, fun _ => rfl⟩
      · rw [zSet_ne y]; exact ⟨fun z => Or.inr z, fun z => z.elim (fun z => absurd z y) id⟩
    refine sg_Planner_endWith_11 ?_
    rw [l1.2.1, w.2.2.1, m1, m2, m3, t4, q.2.1, oc, tt]
    refine ⟨⟨l1.1, fun z => absurd z (by omega), fun _ => ⟨w.1, ⟨i1, i2⟩, w.2.1, w.2.2.2, fun a1 => ⟨w.2.2.2, fun a2 => ⟨by omega, ?_⟩⟩⟩⟩, fun cnd => ⟨w.2.2.2, w.2.2.2, q9, q9, fun c1 c2 => ⟨by omega, by omega, ?_⟩⟩, fun cnd => ?_⟩
    · have ng : ¬ zSet F t k (O1 i) = k := fun z => (gk.1 z).elim (fun z => a1 (tt.2 z)) a2
      refine st x (by rw [zS_z i1 (if_neg ng)]; exact hx) (fun j j1 j2 j3 => ?_)
      by_cases z : j = i
      · rw [z] at j3; exact absurd j3 ng
      · exact hj j j1 (by omega) j3
    · have yg : zSet F t k (O1 i) = k := gk.2 (cnd.imp (fun z => z.2) (fun z => z.2.2))
      have ew : zWl A (zSet F t k) k O1 i = zLen A (O1 i) := if_pos yg
      refine st _ (by rw [zS_v _ i1 ew]; omega) (fun j j1 j2 j3 => ?_)
      by_cases z : j = i
      · rw [z, ← hx]; exact ⟨c1, c2⟩
      · exact hj j j1 (by omega) j3
    · refine ⟨Or.inr ⟨fun z => ?_, rfl⟩, rfl⟩
      have yg : zSet F t k (O1 i) = k := gk.2 (by
        rcases cnd with z | z
        · exact z.1.imp (fun z => z.2) (fun z => z.2.2)
        · exact z.1.imp (fun z => z.2) (fun z => z.2.2))
      have w := (zDo_O en1 hg).1 z i i1 i2 yg
      rw [← hx] at w
      rcases cnd with z | z
      · have := z.2; omega
      · have := z.2.2; omega
theorem zEnds_b {A : zA} {g : Int → Int} {k : Int} (hB : zB 512 A) (hI : zIr A) : 0 ≤ zEnds A g k ∧ zEnds A g k ≤ 60000 := by
  have b0 : 0 ≤ A 785 0 ∧ A 785 0 ≤ 16 := hB 785 0
  have bf := zFree_b hB k
  have := zS_b (f := fun i => if zGv A g k i then zLen A i else 0) (c := 300) (A 785 0) (fun i i1 i2 => by
    show 0 ≤ (if zGv A g k i then zLen A i else 0) ∧ (if zGv A g k i then zLen A i else 0) ≤ 300
    split
    · rename_i z
      have := zLen_b (zR_of hB hI ⟨i1, by omega⟩ z.2)
      omega
    · omega) b0.1 (by decide)
  unfold zEnds
  omega
theorem c_earliest {e : gE} {b : Nat} {m : Int} {G0 G : gH} {A : zA} {T Q O1 O2 C F τ : Int → Int} {n1 n2 t : Int} (hB : zB 512 A) (hI : zIr A) (hps : zPs e b m G0 G A T n1 O1 n2 O2 C) (hT : zRkT e b m G A T τ) (hQ : zRkQ e b m G A T Q) (ht : zTh A t) (hjt : zJb A t) (hF : ∀ u, zTh A u → zJb A u → C u = F u) (hF2 : ∀ u, zTh A u → zIn A u → ¬ zJb A u → F u = -1) : GX e b m m_Planner_earliestTeam [(2, ((b : Int) + 12)), (2, T t), (0, A 789 0)] G 0 0 (fun v G1 => v = (zTm A F t (A 786 0)).1 ∧ G1 = G) := by
  have bt : 0 ≤ A 786 0 ∧ A 786 0 ≤ 3 := hB 786 0
  refine GM.ofEV (by decide) (Nat.le_of_ble_eq_true rfl) (sg_Planner_earliestTeam_0 ?_)
  refine zloop (P := fun k => ∀ x y, x = (zTm A F t k).1 → (x ≠ -1 → y = (zTm A F t k).2) → EX e b m m_Planner_earliestTeam _ 0 0 8 [(2, ((b : Int) + 12)), (2, T t), (0, A 789 0), (0, x), (0, y), (0, k), (9, 0)] [] G) (i := 0) (A 786 0) bt.1 ?_ ?_ (-1) (-1) rfl (fun z => absurd rfl z)
  · intro x y hx hy
    refine sg_Planner_earliestTeam_8 ?_
    rw [hQ.1.2.1]
    exact ⟨hQ.1.1, fun _ => ⟨hx, rfl⟩, fun z => absurd z (by omega)⟩
  · intro k k1 k2 st x y hx hy
    have w := zAL_g hQ.1 ⟨k1, k2⟩
    have bE := zEnds_b (g := zSet F t k) (k := k) hB hI
    have eS := zTm_s (A := A) (F := F) (t := t) k1
    refine sg_Planner_earliestTeam_8 ?_
    rw [hQ.1.2.1, w.2.2.1]
    refine ⟨hQ.1.1, fun z => absurd z (by omega), fun _ => ⟨w.1, ⟨k1, k2⟩, w.2.1, w.2.2.2, ?_⟩⟩
    refine GM.mono (c_endWith hB hps hT hQ ⟨k1, k2⟩ ht hjt hF hF2) ?_
    rintro v G1 ⟨hv, rfl⟩
    refine ⟨fun c => ⟨by omega, ?_⟩, fun c => ⟨by omega, ?_⟩⟩
    · have hd : zDo A (zSet F t k) k ∧ v = zEnds A (zSet F t k) k := hv.elim id (fun z => by omega)
      have cd : zDo A (zSet F t k) k ∧ ((zTm A F t k).1 = -1 ∨ zEnds A (zSet F t k) k < (zTm A F t k).2) := ⟨hd.1, by
        rw [← hx, ← hd.2]
        rcases c with c | c
        · exact Or.inl c.2
        · rw [← hy c.2.1]; exact Or.inr c.2.2⟩
      rw [zIf_pos cd] at eS
      exact st k v (by rw [eS]) (fun _ => by rw [eS]; exact hd.2)
    · have cd : ¬ (zDo A (zSet F t k) k ∧ ((zTm A F t k).1 = -1 ∨ zEnds A (zSet F t k) k < (zTm A F t k).2)) := fun z => by
        have hd : v = zEnds A (zSet F t k) k := hv.elim (fun z => z.2) (fun y => absurd z.1 y.1)
        rcases c with c | c
        · omega
        · have z2 := z.2
          rw [← hx, ← hy c.2.1, ← hd] at z2
          omega
      rw [zIf_neg cd] at eS
      exact st x y (by rw [eS]; exact hx) (fun z => by rw [eS]; exact hy z)
