/-! THE CLASS, 4: small reads -/
set_option maxRecDepth 20000 in
set_option maxHeartbeats 4000000 in
theorem sg_C_within_0 {e : gE} {b : Nat} {m : Int} {Z : Int → gH → Prop} {kc ks : Nat} {G : gH} {p0 p1 p2 : Int} (h : (p1 ≤ p0 → (p0 ≤ p2 → Z 1 G)) ∧ ((p0 < p1 ∨ (p1 ≤ p0 ∧ p2 < p0)) → Z 0 G)) : EX e b m m_C_within Z kc ks 0 [(0, p0), (0, p1), (0, p2)] [] G := by
  obtain ⟨h, hJ5⟩ := h
  have kJ5 : (p0 < p1 ∨ (p1 ≤ p0 ∧ p2 < p0)) → EX e b m m_C_within Z kc ks 14 [(0, p0), (0, p1), (0, p2)] [] G := by
    intro rJ5
    have h := hJ5 rJ5
    refine e_iconst d_C_within_14 (by decide) ?_
    exact e_zret .boolean d_C_within_15 rfl (by decide) h
  refine e_iload_n d_C_within_0 rfl ?_
  refine e_iload_n d_C_within_1 rfl ?_
  refine e_icmp_gt (tgt := 14) d_C_within_2 (by decide) (fun q1 => ?_) (fun q2 => ?_)
  · exact kJ5 (Or.inl q1)
  · have h := h q2
    refine e_iload_n d_C_within_5 rfl ?_
    refine e_iload_n d_C_within_6 rfl ?_
    refine e_icmp_gt (tgt := 14) d_C_within_7 (by decide) (fun q3 => ?_) (fun q4 => ?_)
    · exact kJ5 (Or.inr ⟨q2, q3⟩)
    · have h := h q4
      refine e_iconst d_C_within_10 (by decide) ?_
      refine e_goto (tgt := 15) d_C_within_11 (by decide) ?_
      exact e_zret .boolean d_C_within_15 rfl (by decide) h
theorem c_C_within {e : gE} {b : Nat} {m : Int} {G : gH} {p0 p1 p2 : Int} : GX e b m m_C_within [(0, p0), (0, p1), (0, p2)] G 0 0 (fun v9 G9 => v9 = ((if p1 ≤ p0 ∧ p0 ≤ p2 then 1 else 0) : Int) ∧ G9 = G) := by
  refine GM.ofEV (by decide) (Nat.le_of_ble_eq_true rfl) (sg_C_within_0 ?_)
  exact ⟨fun q1 q2 => ⟨(if_pos ⟨q1, q2⟩).symm, rfl⟩, fun q => ⟨(if_neg (by omega)).symm, rfl⟩⟩
set_option maxRecDepth 20000 in
set_option maxHeartbeats 4000000 in
theorem sg_Thing_number_0 {e : gE} {b : Nat} {m : Int} {Z : Int → gH → Prop} {kc ks : Nat} {G : gH} {a0 : Int} (t0 : G 0 a0 0 = 10) (h : Z (G 592 a0 0) G) : EX e b m m_Thing_number Z kc ks 0 [(2, a0)] [] G := by
  refine e_aload_n d_Thing_number_0 rfl ?_
  refine gf_Thing_9 d_Thing_number_1 rfl t0 ?_
  exact e_iret d_Thing_number_4 rfl h
set_option maxRecDepth 20000 in
set_option maxHeartbeats 4000000 in
theorem sg_Thing_kind_0 {e : gE} {b : Nat} {m : Int} {Z : Int → gH → Prop} {kc ks : Nat} {G : gH} {a0 : Int} (t0 : G 0 a0 0 = 10) (h : Z (G 593 a0 0) G) : EX e b m m_Thing_kind Z kc ks 0 [(2, a0)] [] G := by
  refine e_aload_n d_Thing_kind_0 rfl ?_
  refine gf_Thing_15 d_Thing_kind_1 rfl t0 ?_
  exact e_iret d_Thing_kind_4 rfl h
set_option maxRecDepth 20000 in
set_option maxHeartbeats 4000000 in
theorem sg_Thing_worth_0 {e : gE} {b : Nat} {m : Int} {Z : Int → gH → Prop} {kc ks : Nat} {G : gH} {a0 : Int} (t0 : G 0 a0 0 = 10) (h : Z (G 594 a0 0) G) : EX e b m m_Thing_worth Z kc ks 0 [(2, a0)] [] G := by
  refine e_aload_n d_Thing_worth_0 rfl ?_
  refine gf_Thing_18 d_Thing_worth_1 rfl t0 ?_
  exact e_iret d_Thing_worth_4 rfl h
set_option maxRecDepth 20000 in
set_option maxHeartbeats 4000000 in
theorem sg_Thing_hands_0 {e : gE} {b : Nat} {m : Int} {Z : Int → gH → Prop} {kc ks : Nat} {G : gH} {a0 : Int} (t0 : G 0 a0 0 = 10) (h : Z (G 595 a0 0) G) : EX e b m m_Thing_hands Z kc ks 0 [(2, a0)] [] G := by
  refine e_aload_n d_Thing_hands_0 rfl ?_
  refine gf_Thing_21 d_Thing_hands_1 rfl t0 ?_
  exact e_iret d_Thing_hands_4 rfl h
set_option maxRecDepth 20000 in
set_option maxHeartbeats 4000000 in
theorem sg_Thing_room_0 {e : gE} {b : Nat} {m : Int} {Z : Int → gH → Prop} {kc ks : Nat} {G : gH} {a0 : Int} (t0 : G 0 a0 0 = 10) (h : Z (G 596 a0 0) G) : EX e b m m_Thing_room Z kc ks 0 [(2, a0)] [] G := by
  refine e_aload_n d_Thing_room_0 rfl ?_
  refine gf_Thing_24 d_Thing_room_1 rfl t0 ?_
  exact e_iret d_Thing_room_4 rfl h
set_option maxRecDepth 20000 in
set_option maxHeartbeats 4000000 in
theorem sg_Thing_pack_0 {e : gE} {b : Nat} {m : Int} {Z : Int → gH → Prop} {kc ks : Nat} {G : gH} {a0 : Int} (t0 : G 0 a0 0 = 10) (h : Z (G 597 a0 0) G) : EX e b m m_Thing_pack Z kc ks 0 [(2, a0)] [] G := by
  refine e_aload_n d_Thing_pack_0 rfl ?_
  refine gf_Thing_27 d_Thing_pack_1 rfl t0 ?_
  exact e_iret d_Thing_pack_4 rfl h
set_option maxRecDepth 20000 in
set_option maxHeartbeats 4000000 in
theorem sg_Thing_where_0 {e : gE} {b : Nat} {m : Int} {Z : Int → gH → Prop} {kc ks : Nat} {G : gH} {a0 : Int} (t0 : G 0 a0 0 = 10) (h : Z (G 598 a0 0) G) : EX e b m m_Thing_where Z kc ks 0 [(2, a0)] [] G := by
  refine e_aload_n d_Thing_where_0 rfl ?_
  refine gf_Thing_30 d_Thing_where_1 rfl t0 ?_
  exact e_iret d_Thing_where_4 rfl h
set_option maxRecDepth 20000 in
set_option maxHeartbeats 4000000 in
theorem sg_Thing_givenTo_0 {e : gE} {b : Nat} {m : Int} {Z : Int → gH → Prop} {kc ks : Nat} {G : gH} {a0 : Int} (t0 : G 0 a0 0 = 10) (h : Z (G 600 a0 0) G) : EX e b m m_Thing_givenTo Z kc ks 0 [(2, a0)] [] G := by
  refine e_aload_n d_Thing_givenTo_0 rfl ?_
  refine gf_Thing_33 d_Thing_givenTo_1 rfl t0 ?_
  exact e_iret d_Thing_givenTo_4 rfl h
set_option maxRecDepth 20000 in
set_option maxHeartbeats 4000000 in
theorem sg_Thing_choice_0 {e : gE} {b : Nat} {m : Int} {Z : Int → gH → Prop} {kc ks : Nat} {G : gH} {a0 : Int} (t0 : G 0 a0 0 = 10) (h : Z (G 601 a0 0) G) : EX e b m m_Thing_choice Z kc ks 0 [(2, a0)] [] G := by
  refine e_aload_n d_Thing_choice_0 rfl ?_
  refine gf_Thing_36 d_Thing_choice_1 rfl t0 ?_
  exact e_iret d_Thing_choice_4 rfl h
set_option maxRecDepth 20000 in
set_option maxHeartbeats 4000000 in
theorem sg_Thing_length_0 {e : gE} {b : Nat} {m : Int} {Z : Int → gH → Prop} {kc ks : Nat} {G : gH} {a0 : Int} (t0 : G 0 a0 0 = 10) (h : Z (G 602 a0 0) G) : EX e b m m_Thing_length Z kc ks 0 [(2, a0)] [] G := by
  refine e_aload_n d_Thing_length_0 rfl ?_
  refine gf_Thing_53 d_Thing_length_1 rfl t0 ?_
  exact e_iret d_Thing_length_4 rfl h
set_option maxRecDepth 20000 in
set_option maxHeartbeats 4000000 in
theorem sg_Thing_latest_0 {e : gE} {b : Nat} {m : Int} {Z : Int → gH → Prop} {kc ks : Nat} {G : gH} {a0 : Int} (t0 : G 0 a0 0 = 10) (h : Z (G 603 a0 0) G) : EX e b m m_Thing_latest Z kc ks 0 [(2, a0)] [] G := by
  refine e_aload_n d_Thing_latest_0 rfl ?_
  refine gf_Thing_56 d_Thing_latest_1 rfl t0 ?_
  exact e_iret d_Thing_latest_4 rfl h
set_option maxRecDepth 20000 in
set_option maxHeartbeats 4000000 in
theorem sg_Thing_paperCount_0 {e : gE} {b : Nat} {m : Int} {Z : Int → gH → Prop} {kc ks : Nat} {G : gH} {a0 : Int} (t0 : G 0 a0 0 = 10) (h : Z (G 607 a0 0) G) : EX e b m m_Thing_paperCount Z kc ks 0 [(2, a0)] [] G := by
  refine e_aload_n d_Thing_paperCount_0 rfl ?_
  refine gf_Thing_76 d_Thing_paperCount_1 rfl t0 ?_
  exact e_iret d_Thing_paperCount_4 rfl h
theorem c_Thing_number {e : gE} {b : Nat} {m : Int} {G : gH} {a0 : Int} (h1 : G 0 a0 0 = 10) : GX e b m m_Thing_number [(2, a0)] G 0 0 (fun v9 G9 => v9 = (G 592 a0 0 : Int) ∧ G9 = G) := by
  refine GM.ofEV (by decide) (Nat.le_of_ble_eq_true rfl) (sg_Thing_number_0 h1 ?_)
  repeat' (first | apply And.intro | intro _)
  all_goals first | assumption | rfl | omega | (rw [if_pos (by omega)]) | (rw [if_neg (by omega)])
theorem c_Thing_kind {e : gE} {b : Nat} {m : Int} {G : gH} {a0 : Int} (h1 : G 0 a0 0 = 10) : GX e b m m_Thing_kind [(2, a0)] G 0 0 (fun v9 G9 => v9 = (G 593 a0 0 : Int) ∧ G9 = G) := by
  refine GM.ofEV (by decide) (Nat.le_of_ble_eq_true rfl) (sg_Thing_kind_0 h1 ?_)
  repeat' (first | apply And.intro | intro _)
  all_goals first | assumption | rfl | omega | (rw [if_pos (by omega)]) | (rw [if_neg (by omega)])
theorem c_Thing_worth {e : gE} {b : Nat} {m : Int} {G : gH} {a0 : Int} (h1 : G 0 a0 0 = 10) : GX e b m m_Thing_worth [(2, a0)] G 0 0 (fun v9 G9 => v9 = (G 594 a0 0 : Int) ∧ G9 = G) := by
  refine GM.ofEV (by decide) (Nat.le_of_ble_eq_true rfl) (sg_Thing_worth_0 h1 ?_)
  repeat' (first | apply And.intro | intro _)
  all_goals first | assumption | rfl | omega | (rw [if_pos (by omega)]) | (rw [if_neg (by omega)])
theorem c_Thing_hands {e : gE} {b : Nat} {m : Int} {G : gH} {a0 : Int} (h1 : G 0 a0 0 = 10) : GX e b m m_Thing_hands [(2, a0)] G 0 0 (fun v9 G9 => v9 = (G 595 a0 0 : Int) ∧ G9 = G) := by
  refine GM.ofEV (by decide) (Nat.le_of_ble_eq_true rfl) (sg_Thing_hands_0 h1 ?_)
  repeat' (first | apply And.intro | intro _)
  all_goals first | assumption | rfl | omega | (rw [if_pos (by omega)]) | (rw [if_neg (by omega)])
theorem c_Thing_room {e : gE} {b : Nat} {m : Int} {G : gH} {a0 : Int} (h1 : G 0 a0 0 = 10) : GX e b m m_Thing_room [(2, a0)] G 0 0 (fun v9 G9 => v9 = (G 596 a0 0 : Int) ∧ G9 = G) := by
  refine GM.ofEV (by decide) (Nat.le_of_ble_eq_true rfl) (sg_Thing_room_0 h1 ?_)
  repeat' (first | apply And.intro | intro _)
  all_goals first | assumption | rfl | omega | (rw [if_pos (by omega)]) | (rw [if_neg (by omega)])
theorem c_Thing_pack {e : gE} {b : Nat} {m : Int} {G : gH} {a0 : Int} (h1 : G 0 a0 0 = 10) : GX e b m m_Thing_pack [(2, a0)] G 0 0 (fun v9 G9 => v9 = (G 597 a0 0 : Int) ∧ G9 = G) := by
  refine GM.ofEV (by decide) (Nat.le_of_ble_eq_true rfl) (sg_Thing_pack_0 h1 ?_)
  repeat' (first | apply And.intro | intro _)
  all_goals first | assumption | rfl | omega | (rw [if_pos (by omega)]) | (rw [if_neg (by omega)])
theorem c_Thing_where {e : gE} {b : Nat} {m : Int} {G : gH} {a0 : Int} (h1 : G 0 a0 0 = 10) : GX e b m m_Thing_where [(2, a0)] G 0 0 (fun v9 G9 => v9 = (G 598 a0 0 : Int) ∧ G9 = G) := by
  refine GM.ofEV (by decide) (Nat.le_of_ble_eq_true rfl) (sg_Thing_where_0 h1 ?_)
  repeat' (first | apply And.intro | intro _)
  all_goals first | assumption | rfl | omega | (rw [if_pos (by omega)]) | (rw [if_neg (by omega)])
theorem c_Thing_givenTo {e : gE} {b : Nat} {m : Int} {G : gH} {a0 : Int} (h1 : G 0 a0 0 = 10) : GX e b m m_Thing_givenTo [(2, a0)] G 0 0 (fun v9 G9 => v9 = (G 600 a0 0 : Int) ∧ G9 = G) := by
  refine GM.ofEV (by decide) (Nat.le_of_ble_eq_true rfl) (sg_Thing_givenTo_0 h1 ?_)
  repeat' (first | apply And.intro | intro _)
  all_goals first | assumption | rfl | omega | (rw [if_pos (by omega)]) | (rw [if_neg (by omega)])
theorem c_Thing_choice {e : gE} {b : Nat} {m : Int} {G : gH} {a0 : Int} (h1 : G 0 a0 0 = 10) : GX e b m m_Thing_choice [(2, a0)] G 0 0 (fun v9 G9 => v9 = (G 601 a0 0 : Int) ∧ G9 = G) := by
  refine GM.ofEV (by decide) (Nat.le_of_ble_eq_true rfl) (sg_Thing_choice_0 h1 ?_)
  repeat' (first | apply And.intro | intro _)
  all_goals first | assumption | rfl | omega | (rw [if_pos (by omega)]) | (rw [if_neg (by omega)])
theorem c_Thing_length {e : gE} {b : Nat} {m : Int} {G : gH} {a0 : Int} (h1 : G 0 a0 0 = 10) : GX e b m m_Thing_length [(2, a0)] G 0 0 (fun v9 G9 => v9 = (G 602 a0 0 : Int) ∧ G9 = G) := by
  refine GM.ofEV (by decide) (Nat.le_of_ble_eq_true rfl) (sg_Thing_length_0 h1 ?_)
  repeat' (first | apply And.intro | intro _)
  all_goals first | assumption | rfl | omega | (rw [if_pos (by omega)]) | (rw [if_neg (by omega)])
theorem c_Thing_latest {e : gE} {b : Nat} {m : Int} {G : gH} {a0 : Int} (h1 : G 0 a0 0 = 10) : GX e b m m_Thing_latest [(2, a0)] G 0 0 (fun v9 G9 => v9 = (G 603 a0 0 : Int) ∧ G9 = G) := by
  refine GM.ofEV (by decide) (Nat.le_of_ble_eq_true rfl) (sg_Thing_latest_0 h1 ?_)
  repeat' (first | apply And.intro | intro _)
  all_goals first | assumption | rfl | omega | (rw [if_pos (by omega)]) | (rw [if_neg (by omega)])
theorem c_Thing_paperCount {e : gE} {b : Nat} {m : Int} {G : gH} {a0 : Int} (h1 : G 0 a0 0 = 10) : GX e b m m_Thing_paperCount [(2, a0)] G 0 0 (fun v9 G9 => v9 = (G 607 a0 0 : Int) ∧ G9 = G) := by
  refine GM.ofEV (by decide) (Nat.le_of_ble_eq_true rfl) (sg_Thing_paperCount_0 h1 ?_)
  repeat' (first | apply And.intro | intro _)
  all_goals first | assumption | rfl | omega | (rw [if_pos (by omega)]) | (rw [if_neg (by omega)])
set_option maxRecDepth 20000 in
set_option maxHeartbeats 4000000 in
theorem sg_Thing_isAt_0 {e : gE} {b : Nat} {m : Int} {Z : Int → gH → Prop} {kc ks : Nat} {G : gH} {a0 p1 : Int} (t0 : G 0 a0 0 = 10) (h : (p1 ≤ (G 598 a0 0) → (inI (p1 + 100)) ∧ ((G 598 a0 0) < (p1 + 100) → Z 1 G)) ∧ (((G 598 a0 0) < p1 ∨ (p1 ≤ (G 598 a0 0) ∧ (p1 + 100) ≤ (G 598 a0 0))) → Z 0 G)) : EX e b m m_Thing_isAt Z kc ks 0 [(2, a0), (0, p1)] [] G := by
  obtain ⟨h, hJ6⟩ := h
  have kJ6 : ((G 598 a0 0) < p1 ∨ (p1 ≤ (G 598 a0 0) ∧ (p1 + 100) ≤ (G 598 a0 0))) → EX e b m m_Thing_isAt Z kc ks 23 [(2, a0), (0, p1)] [] G := by
    intro rJ6
    have h := hJ6 rJ6
    refine e_iconst d_Thing_isAt_23 (by decide) ?_
    exact e_zret .boolean d_Thing_isAt_24 rfl (by decide) h
  refine e_iload_n d_Thing_isAt_0 rfl ?_
  refine e_aload_n d_Thing_isAt_1 rfl ?_
  refine gf_Thing_30 d_Thing_isAt_2 rfl t0 ?_
  refine e_icmp_gt (tgt := 23) d_Thing_isAt_5 (by decide) (fun q1 => ?_) (fun q2 => ?_)
  · exact kJ6 (Or.inl q1)
  · have h := h q2
    refine e_aload_n d_Thing_isAt_8 rfl ?_
    refine gf_Thing_30 d_Thing_isAt_9 rfl t0 ?_
    refine e_iload_n d_Thing_isAt_12 rfl ?_
    refine e_bipush d_Thing_isAt_13 (by decide) (by decide) ?_
    obtain ⟨o3, h⟩ := h
    refine e_iadd d_Thing_isAt_15 o3 ?_
    refine e_icmp_ge (tgt := 23) d_Thing_isAt_16 (by decide) (fun q4 => ?_) (fun q5 => ?_)
    · exact kJ6 (Or.inr ⟨q2, q4⟩)
    · have h := h q5
      refine e_iconst d_Thing_isAt_19 (by decide) ?_
      refine e_goto (tgt := 24) d_Thing_isAt_20 (by decide) ?_
      exact e_zret .boolean d_Thing_isAt_24 rfl (by decide) h
set_option maxRecDepth 20000 in
set_option maxHeartbeats 4000000 in
theorem sg_Thing_due_0 {e : gE} {b : Nat} {m : Int} {Z : Int → gH → Prop} {kc ks : Nat} {G : gH} {a0 : Int} (t0 : G 0 a0 0 = 10) (h : (inI ((G 603 a0 0) + (G 602 a0 0))) ∧ Z ((G 603 a0 0) + (G 602 a0 0)) G) : EX e b m m_Thing_due Z kc ks 0 [(2, a0)] [] G := by
  refine e_aload_n d_Thing_due_0 rfl ?_
  refine gf_Thing_56 d_Thing_due_1 rfl t0 ?_
  refine e_aload_n d_Thing_due_4 rfl ?_
  refine gf_Thing_53 d_Thing_due_5 rfl t0 ?_
  obtain ⟨o1, h⟩ := h
  refine e_iadd d_Thing_due_8 o1 ?_
  exact e_iret d_Thing_due_9 rfl h
set_option maxRecDepth 20000 in
set_option maxHeartbeats 4000000 in
theorem sg_Thing_rate_0 {e : gE} {b : Nat} {m : Int} {Z : Int → gH → Prop} {kc ks : Nat} {G : gH} {a0 : Int} (t0 : G 0 a0 0 = 10) (h : ((G 602 a0 0) ≤ 0 → Z 0 G) ∧ (0 < (G 602 a0 0) → (inI ((G 594 a0 0) * 1000)) ∧ (0 ≤ ((G 594 a0 0) * 1000)) ∧ (0 < (G 602 a0 0)) ∧ Z (((G 594 a0 0) * 1000) / (G 602 a0 0)) G)) : EX e b m m_Thing_rate Z kc ks 0 [(2, a0)] [] G := by
  refine e_aload_n d_Thing_rate_0 rfl ?_
  refine gf_Thing_53 d_Thing_rate_1 rfl t0 ?_
  refine e_if_le (tgt := 23) d_Thing_rate_4 (by decide) (fun q1 => ?_) (fun q2 => ?_)
  · have h := h.1 q1
    refine e_iconst d_Thing_rate_23 (by decide) ?_
    exact e_iret d_Thing_rate_24 rfl h
  · have h := h.2 q2
    refine e_aload_n d_Thing_rate_7 rfl ?_
    refine gf_Thing_18 d_Thing_rate_8 rfl t0 ?_
    refine e_sipush d_Thing_rate_11 (by decide) (by decide) ?_
    obtain ⟨o3, h⟩ := h
    refine e_imul d_Thing_rate_14 o3 ?_
    refine e_aload_n d_Thing_rate_15 rfl ?_
    refine gf_Thing_53 d_Thing_rate_16 rfl t0 ?_
    obtain ⟨o4, o5, h⟩ := h
    refine e_idiv d_Thing_rate_19 o4 o5 ?_
    refine e_goto (tgt := 24) d_Thing_rate_20 (by decide) ?_
    exact e_iret d_Thing_rate_24 rfl h
theorem c_Thing_isAt {e : gE} {b : Nat} {m : Int} {G : gH} {a0 p1 : Int} (h1 : G 0 a0 0 = 10) (h2 : inI (p1 + 100)) : GX e b m m_Thing_isAt [(2, a0), (0, p1)] G 0 0 (fun v9 G9 => v9 = ((if p1 ≤ G 598 a0 0 ∧ G 598 a0 0 < p1 + 100 then 1 else 0) : Int) ∧ G9 = G) := by
  refine GM.ofEV (by decide) (Nat.le_of_ble_eq_true rfl) (sg_Thing_isAt_0 h1 ?_)
  exact ⟨fun q1 => ⟨h2, fun q2 => ⟨(if_pos ⟨q1, q2⟩).symm, rfl⟩⟩, fun q => ⟨(if_neg (by omega)).symm, rfl⟩⟩
theorem c_Thing_due {e : gE} {b : Nat} {m : Int} {G : gH} {a0 : Int} (h1 : G 0 a0 0 = 10) (h2 : inI (G 603 a0 0 + G 602 a0 0)) : GX e b m m_Thing_due [(2, a0)] G 0 0 (fun v9 G9 => v9 = (G 603 a0 0 + G 602 a0 0 : Int) ∧ G9 = G) := by
  refine GM.ofEV (by decide) (Nat.le_of_ble_eq_true rfl) (sg_Thing_due_0 h1 ?_)
  exact ⟨h2, rfl, rfl⟩
theorem c_Thing_rate {e : gE} {b : Nat} {m : Int} {G : gH} {a0 : Int} (h1 : G 0 a0 0 = 10) (h2 : 0 ≤ G 594 a0 0 ∧ G 594 a0 0 ≤ 1000000) : GX e b m m_Thing_rate [(2, a0)] G 0 0 (fun v9 G9 => v9 = (if 0 < G 602 a0 0 then G 594 a0 0 * 1000 / G 602 a0 0 else 0 : Int) ∧ G9 = G) := by
  refine GM.ofEV (by decide) (Nat.le_of_ble_eq_true rfl) (sg_Thing_rate_0 h1 ?_)
  exact ⟨fun q => ⟨(if_neg (by omega)).symm, rfl⟩, fun q => ⟨by omega, by omega, q, (if_pos q).symm, rfl⟩⟩
set_option maxRecDepth 20000 in
set_option maxHeartbeats 4000000 in
theorem sg_Thing_isKept_0 {e : gE} {b : Nat} {m : Int} {Z : Int → gH → Prop} {kc ks : Nat} {G : gH} {a0 : Int} (t0 : G 0 a0 0 = 10) (h : ((G 0 a0 0 = 10) ∧ ((inI (300 + 100)) ∧ ((¬ (300 ≤ G 598 a0 0 ∧ G 598 a0 0 < 300 + 100)) → (inI (400 + 100)) ∧ ((¬ (400 ≤ G 598 a0 0 ∧ G 598 a0 0 < 400 + 100)) → Z 0 G)))) ∧ ((((300 ≤ G 598 a0 0 ∧ G 598 a0 0 < 300 + 100)) ∨ ((¬ (300 ≤ G 598 a0 0 ∧ G 598 a0 0 < 300 + 100)) ∧ (400 ≤ G 598 a0 0 ∧ G 598 a0 0 < 400 + 100))) → Z 1 G)) : EX e b m m_Thing_isKept Z kc ks 0 [(2, a0)] [] G := by
  obtain ⟨h, hJ8⟩ := h
  have kJ8 : (((300 ≤ G 598 a0 0 ∧ G 598 a0 0 < 300 + 100)) ∨ ((¬ (300 ≤ G 598 a0 0 ∧ G 598 a0 0 < 300 + 100)) ∧ (400 ≤ G 598 a0 0 ∧ G 598 a0 0 < 400 + 100))) → EX e b m m_Thing_isKept Z kc ks 20 [(2, a0)] [] G := by
    intro rJ8
    have h := hJ8 rJ8
    refine e_iconst d_Thing_isKept_20 (by decide) ?_
    refine e_goto (tgt := 25) d_Thing_isKept_21 (by decide) ?_
    exact e_zret .boolean d_Thing_isKept_25 rfl (by decide) h
  refine e_aload_n d_Thing_isKept_0 rfl ?_
  refine e_sipush d_Thing_isKept_1 (by decide) (by decide) ?_
  obtain ⟨o1, o2, h⟩ := h
  refine e_callV m_Thing_isAt 9 lw_good d_Thing_isKept_4 (k_Thing_isAt _) ⟨Nat.le_of_ble_eq_true rfl, Nat.le_of_ble_eq_true rfl⟩ w_1137 w_620 w_621 (q_Thing _) rfl t0 (args := [(0, 300)]) rfl rfl (Nat.le_of_ble_eq_true rfl) (kc' := kc) (ks' := ks) (mc := 0) (ms := 0) rfl rfl (c_Thing_isAt o1 o2) (pureK ?_)
  refine e_if_ne (tgt := 20) d_Thing_isKept_7 (by decide) (fun q3 => ?_) (fun q4 => ?_)
  · replace q3 := gb1.mp q3
    exact kJ8 (Or.inl q3)
  · replace q4 := gb0.mp q4
    have h := h q4
    refine e_aload_n d_Thing_isKept_10 rfl ?_
    refine e_sipush d_Thing_isKept_11 (by decide) (by decide) ?_
    obtain ⟨o5, h⟩ := h
    refine e_callV m_Thing_isAt 9 lw_good d_Thing_isKept_14 (k_Thing_isAt _) ⟨Nat.le_of_ble_eq_true rfl, Nat.le_of_ble_eq_true rfl⟩ w_1137 w_620 w_621 (q_Thing _) rfl t0 (args := [(0, 400)]) rfl rfl (Nat.le_of_ble_eq_true rfl) (kc' := kc) (ks' := ks) (mc := 0) (ms := 0) rfl rfl (c_Thing_isAt o1 o5) (pureK ?_)
    refine e_if_eq (tgt := 24) d_Thing_isKept_17 (by decide) (fun q6 => ?_) (fun q7 => ?_)
    · replace q6 := gb0.mp q6
      have h := h q6
      refine e_iconst d_Thing_isKept_24 (by decide) ?_
      exact e_zret .boolean d_Thing_isKept_25 rfl (by decide) h
    · replace q7 := gb1.mp q7
      exact kJ8 (Or.inr ⟨q4, q7⟩)
set_option maxRecDepth 20000 in
set_option maxHeartbeats 4000000 in
theorem sg_Thing_placeNumber_0 {e : gE} {b : Nat} {m : Int} {Z : Int → gH → Prop} {kc ks : Nat} {G : gH} {a0 : Int} (t0 : G 0 a0 0 = 10) (h : (G 0 a0 0 = 10) ∧ ((inI (400 + 100)) ∧ (((¬ (400 ≤ G 598 a0 0 ∧ G 598 a0 0 < 400 + 100)) → Z (-1) G) ∧ ((400 ≤ G 598 a0 0 ∧ G 598 a0 0 < 400 + 100) → (inI ((G 598 a0 0) - 400)) ∧ Z ((G 598 a0 0) - 400) G)))) : EX e b m m_Thing_placeNumber Z kc ks 0 [(2, a0)] [] G := by
  refine e_aload_n d_Thing_placeNumber_0 rfl ?_
  refine e_sipush d_Thing_placeNumber_1 (by decide) (by decide) ?_
  obtain ⟨o1, o2, h⟩ := h
  refine e_callV m_Thing_isAt 9 lw_good d_Thing_placeNumber_4 (k_Thing_isAt _) ⟨Nat.le_of_ble_eq_true rfl, Nat.le_of_ble_eq_true rfl⟩ w_1137 w_620 w_621 (q_Thing _) rfl t0 (args := [(0, 400)]) rfl rfl (Nat.le_of_ble_eq_true rfl) (kc' := kc) (ks' := ks) (mc := 0) (ms := 0) rfl rfl (c_Thing_isAt o1 o2) (pureK ?_)
  refine e_if_eq (tgt := 21) d_Thing_placeNumber_7 (by decide) (fun q3 => ?_) (fun q4 => ?_)
  · replace q3 := gb0.mp q3
    have h := h.1 q3
    refine e_iconst d_Thing_placeNumber_21 (by decide) ?_
    exact e_iret d_Thing_placeNumber_22 rfl h
  · replace q4 := gb1.mp q4
    have h := h.2 q4
    refine e_aload_n d_Thing_placeNumber_10 rfl ?_
    refine gf_Thing_30 d_Thing_placeNumber_11 rfl t0 ?_
    refine e_sipush d_Thing_placeNumber_14 (by decide) (by decide) ?_
    obtain ⟨o5, h⟩ := h
    refine e_isub d_Thing_placeNumber_17 o5 ?_
    refine e_goto (tgt := 22) d_Thing_placeNumber_18 (by decide) ?_
    exact e_iret d_Thing_placeNumber_22 rfl h
theorem c_Thing_isKept {e : gE} {b : Nat} {m : Int} {G : gH} {a0 : Int} (h1 : G 0 a0 0 = 10) : GX e b m m_Thing_isKept [(2, a0)] G 0 0 (fun v9 G9 => v9 = ((if 300 ≤ G 598 a0 0 ∧ G 598 a0 0 < 500 then 1 else 0) : Int) ∧ G9 = G) := by
  refine GM.ofEV (by decide) (Nat.le_of_ble_eq_true rfl) (sg_Thing_isKept_0 h1 ?_)
  exact ⟨⟨h1, by decide, fun q => ⟨by decide, fun q2 => ⟨(if_neg (by omega)).symm, rfl⟩⟩⟩, fun q => ⟨(if_pos (by omega)).symm, rfl⟩⟩
theorem c_Thing_placeNumber {e : gE} {b : Nat} {m : Int} {G : gH} {a0 : Int} (h1 : G 0 a0 0 = 10) : GX e b m m_Thing_placeNumber [(2, a0)] G 0 0 (fun v9 G9 => v9 = (if 400 ≤ G 598 a0 0 ∧ G 598 a0 0 < 500 then G 598 a0 0 - 400 else -1 : Int) ∧ G9 = G) := by
  refine GM.ofEV (by decide) (Nat.le_of_ble_eq_true rfl) (sg_Thing_placeNumber_0 h1 ?_)
  exact ⟨h1, by decide, fun q => ⟨(if_neg (by omega)).symm, rfl⟩, fun q => ⟨by omega, (if_pos (by omega)).symm, rfl⟩⟩
/-- a row's elements can be read -/
abbrev zEl (G : gH) (r : Int) : Prop := G 0 (G 400 r 0) 0 = 101 ∧ G 402 r 0 ≤ G 0 (G 400 r 0) 1
abbrev zHs (G : gH) (r i : Int) : Prop := 0 ≤ i ∧ i < G 402 r 0
set_option maxRecDepth 20000 in
set_option maxHeartbeats 4000000 in
theorem sg_Row_sort_0 {e : gE} {b : Nat} {m : Int} {Z : Int → gH → Prop} {kc ks : Nat} {G : gH} {a0 : Int} (t0 : G 0 a0 0 = 7) (h : Z (G 401 a0 0) G) : EX e b m m_Row_sort Z kc ks 0 [(2, a0)] [] G := by
  refine e_aload_n d_Row_sort_0 rfl ?_
  refine gf_Row_19 d_Row_sort_1 rfl t0 ?_
  exact e_iret d_Row_sort_4 rfl h
set_option maxRecDepth 20000 in
set_option maxHeartbeats 4000000 in
theorem sg_Row_size_0 {e : gE} {b : Nat} {m : Int} {Z : Int → gH → Prop} {kc ks : Nat} {G : gH} {a0 : Int} (t0 : G 0 a0 0 = 7) (h : Z (G 402 a0 0) G) : EX e b m m_Row_size Z kc ks 0 [(2, a0)] [] G := by
  refine e_aload_n d_Row_size_0 rfl ?_
  refine gf_Row_32 d_Row_size_1 rfl t0 ?_
  exact e_iret d_Row_size_4 rfl h
set_option maxRecDepth 20000 in
set_option maxHeartbeats 4000000 in
theorem sg_Row_has_0 {e : gE} {b : Nat} {m : Int} {Z : Int → gH → Prop} {kc ks : Nat} {G : gH} {a0 p1 : Int} (t0 : G 0 a0 0 = 7) (h : (0 ≤ p1 → (p1 < (G 402 a0 0) → Z 1 G)) ∧ ((p1 < 0 ∨ (0 ≤ p1 ∧ (G 402 a0 0) ≤ p1)) → Z 0 G)) : EX e b m m_Row_has Z kc ks 0 [(2, a0), (0, p1)] [] G := by
  obtain ⟨h, hJ5⟩ := h
  have kJ5 : (p1 < 0 ∨ (0 ≤ p1 ∧ (G 402 a0 0) ≤ p1)) → EX e b m m_Row_has Z kc ks 17 [(2, a0), (0, p1)] [] G := by
    intro rJ5
    have h := hJ5 rJ5
    refine e_iconst d_Row_has_17 (by decide) ?_
    exact e_zret .boolean d_Row_has_18 rfl (by decide) h
  refine e_iconst d_Row_has_0 (by decide) ?_
  refine e_iload_n d_Row_has_1 rfl ?_
  refine e_icmp_gt (tgt := 17) d_Row_has_2 (by decide) (fun q1 => ?_) (fun q2 => ?_)
  · exact kJ5 (Or.inl q1)
  · have h := h q2
    refine e_iload_n d_Row_has_5 rfl ?_
    refine e_aload_n d_Row_has_6 rfl ?_
    refine gf_Row_32 d_Row_has_7 rfl t0 ?_
    refine e_icmp_ge (tgt := 17) d_Row_has_10 (by decide) (fun q3 => ?_) (fun q4 => ?_)
    · exact kJ5 (Or.inr ⟨q2, q3⟩)
    · have h := h q4
      refine e_iconst d_Row_has_13 (by decide) ?_
      refine e_goto (tgt := 18) d_Row_has_14 (by decide) ?_
      exact e_zret .boolean d_Row_has_18 rfl (by decide) h
set_option maxRecDepth 20000 in
set_option maxHeartbeats 4000000 in
theorem sg_Row_hasPart_0 {e : gE} {b : Nat} {m : Int} {Z : Int → gH → Prop} {kc ks : Nat} {G : gH} {a0 p1 p2 : Int} (t0 : G 0 a0 0 = 7) (h : (0 ≤ p1 → (0 ≤ p2 → (inL (p1 + p2)) ∧ ((p1 + p2) ≤ (G 402 a0 0) → Z 1 G))) ∧ ((p1 < 0 ∨ (0 ≤ p1 ∧ p2 < 0) ∨ (0 ≤ p1 ∧ 0 ≤ p2 ∧ (G 402 a0 0) < (p1 + p2))) → Z 0 G)) : EX e b m m_Row_hasPart Z kc ks 0 [(2, a0), (0, p1), (0, p2)] [] G := by
  obtain ⟨h, hJ8⟩ := h
  have kJ8 : (p1 < 0 ∨ (0 ≤ p1 ∧ p2 < 0) ∨ (0 ≤ p1 ∧ 0 ≤ p2 ∧ (G 402 a0 0) < (p1 + p2))) → EX e b m m_Row_hasPart Z kc ks 26 [(2, a0), (0, p1), (0, p2)] [] G := by
    intro rJ8
    have h := hJ8 rJ8
    refine e_iconst d_Row_hasPart_26 (by decide) ?_
    exact e_zret .boolean d_Row_hasPart_27 rfl (by decide) h
  refine e_iload_n d_Row_hasPart_0 rfl ?_
  refine e_if_lt (tgt := 26) d_Row_hasPart_1 (by decide) (fun q1 => ?_) (fun q2 => ?_)
  · exact kJ8 (Or.inl q1)
  · have h := h q2
    refine e_iload_n d_Row_hasPart_4 rfl ?_
    refine e_if_lt (tgt := 26) d_Row_hasPart_5 (by decide) (fun q3 => ?_) (fun q4 => ?_)
    · exact kJ8 (Or.inr (Or.inl ⟨q2, q3⟩))
    · have h := h q4
      refine e_iload_n d_Row_hasPart_8 rfl ?_
      refine e_i2l d_Row_hasPart_9 ?_
      refine e_iload_n d_Row_hasPart_10 rfl ?_
      refine e_i2l d_Row_hasPart_11 ?_
      obtain ⟨o5, h⟩ := h
      refine e_ladd d_Row_hasPart_12 o5 ?_
      refine e_aload_n d_Row_hasPart_13 rfl ?_
      refine gf_Row_32 d_Row_hasPart_14 rfl t0 ?_
      refine e_i2l d_Row_hasPart_17 ?_
      refine e_lcmp_gt (tgt := 26) d_Row_hasPart_18 d_Row_hasPart_19 (by decide) (fun q6 => ?_) (fun q7 => ?_)
      · exact kJ8 (Or.inr (Or.inr ⟨q2, q4, q6⟩))
      · have h := h q7
        refine e_iconst d_Row_hasPart_22 (by decide) ?_
        refine e_goto (tgt := 27) d_Row_hasPart_23 (by decide) ?_
        exact e_zret .boolean d_Row_hasPart_27 rfl (by decide) h
theorem c_Row_sort {e : gE} {b : Nat} {m : Int} {G : gH} {a0 : Int} (h1 : G 0 a0 0 = 7) : GX e b m m_Row_sort [(2, a0)] G 0 0 (fun v9 G9 => v9 = (G 401 a0 0 : Int) ∧ G9 = G) := by
  refine GM.ofEV (by decide) (Nat.le_of_ble_eq_true rfl) (sg_Row_sort_0 h1 ?_)
  repeat' (first | apply And.intro | intro _)
  all_goals first | assumption | rfl | omega | (rw [if_pos (by omega)]) | (rw [if_neg (by omega)])
theorem c_Row_size {e : gE} {b : Nat} {m : Int} {G : gH} {a0 : Int} (h1 : G 0 a0 0 = 7) : GX e b m m_Row_size [(2, a0)] G 0 0 (fun v9 G9 => v9 = (G 402 a0 0 : Int) ∧ G9 = G) := by
  refine GM.ofEV (by decide) (Nat.le_of_ble_eq_true rfl) (sg_Row_size_0 h1 ?_)
  repeat' (first | apply And.intro | intro _)
  all_goals first | assumption | rfl | omega | (rw [if_pos (by omega)]) | (rw [if_neg (by omega)])
theorem c_Row_has {e : gE} {b : Nat} {m : Int} {G : gH} {a0 p1 : Int} (h1 : G 0 a0 0 = 7) : GX e b m m_Row_has [(2, a0), (0, p1)] G 0 0 (fun v9 G9 => v9 = ((if zHs G a0 p1 then 1 else 0) : Int) ∧ G9 = G) := by
  refine GM.ofEV (by decide) (Nat.le_of_ble_eq_true rfl) (sg_Row_has_0 h1 ?_)
  exact ⟨fun q1 q2 => ⟨(if_pos ⟨q1, q2⟩).symm, rfl⟩, fun q => ⟨(if_neg (by omega)).symm, rfl⟩⟩
theorem c_Row_hasPart {e : gE} {b : Nat} {m : Int} {G : gH} {a0 p1 p2 : Int} (h1 : G 0 a0 0 = 7) (h2 : inL (p1 + p2)) : GX e b m m_Row_hasPart [(2, a0), (0, p1), (0, p2)] G 0 0 (fun v9 G9 => v9 = ((if 0 ≤ p1 ∧ 0 ≤ p2 ∧ p1 + p2 ≤ G 402 a0 0 then 1 else 0) : Int) ∧ G9 = G) := by
  refine GM.ofEV (by decide) (Nat.le_of_ble_eq_true rfl) (sg_Row_hasPart_0 h1 ?_)
  exact ⟨fun q1 q2 => ⟨h2, fun q3 => ⟨(if_pos ⟨q1, q2, q3⟩).symm, rfl⟩⟩, fun q => ⟨(if_neg (by omega)).symm, rfl⟩⟩
set_option maxRecDepth 20000 in
set_option maxHeartbeats 4000000 in
theorem sg_Row_at_0 {e : gE} {b : Nat} {m : Int} {Z : Int → gH → Prop} {kc ks : Nat} {G : gH} {a0 p1 : Int} (t0 : G 0 a0 0 = 7) (h : (G 0 a0 0 = 7) ∧ (((¬ (zHs G a0 p1)) → Z 0 G) ∧ (zHs G a0 p1 → (G 0 (G 400 a0 0) 0 = 101) ∧ (0 ≤ p1) ∧ (p1 < G 0 (G 400 a0 0) 1) ∧ Z (G 2 (G 400 a0 0) p1) G))) : EX e b m m_Row_at Z kc ks 0 [(2, a0), (0, p1)] [] G := by
  refine e_aload_n d_Row_at_0 rfl ?_
  refine e_iload_n d_Row_at_1 rfl ?_
  obtain ⟨o1, h⟩ := h
  refine e_callV m_Row_has 6 lw_good d_Row_at_2 (k_Row_has _) ⟨Nat.le_of_ble_eq_true rfl, Nat.le_of_ble_eq_true rfl⟩ w_523 w_513 w_514 (q_Row _) rfl t0 (args := [(0, p1)]) rfl rfl (Nat.le_of_ble_eq_true rfl) (kc' := kc) (ks' := ks) (mc := 0) (ms := 0) rfl rfl (c_Row_has o1) (pureK ?_)
  refine e_if_eq (tgt := 17) d_Row_at_5 (by decide) (fun q2 => ?_) (fun q3 => ?_)
  · replace q2 := gb0.mp q2
    have h := h.1 q2
    refine e_lconst 0 d_Row_at_17 (by decide) (by decide) ?_
    exact e_lret d_Row_at_18 rfl h
  · replace q3 := gb1.mp q3
    have h := h.2 q3
    refine e_aload_n d_Row_at_8 rfl ?_
    refine gf_Row_9 d_Row_at_9 rfl t0 ?_
    refine e_iload_n d_Row_at_12 rfl ?_
    obtain ⟨o4, o5, o6, h⟩ := h
    refine e_lald d_Row_at_13 o4 o5 o6 ?_
    refine e_goto (tgt := 18) d_Row_at_14 (by decide) ?_
    exact e_lret d_Row_at_18 rfl h
set_option maxRecDepth 20000 in
set_option maxHeartbeats 4000000 in
theorem sg_Row_lowestBits_0 {e : gE} {b : Nat} {m : Int} {Z : Int → gH → Prop} {kc ks : Nat} {G : gH} {a0 p1 : Int} (t0 : G 0 a0 0 = 7) (h : ((G 401 a0 0) = 0 → Z (w8 (w32 p1)) G) ∧ ((G 401 a0 0) = 1 → Z (w16 (w32 p1)) G) ∧ ((G 401 a0 0) = 2 → Z (w32 p1) G) ∧ (((G 401 a0 0) ≠ 0 ∧ (G 401 a0 0) ≠ 1 ∧ (G 401 a0 0) ≠ 2) → Z p1 G)) : EX e b m m_Row_lowestBits Z kc ks 0 [(2, a0), (1, p1), (9, 0)] [] G := by
  refine e_aload_n d_Row_lowestBits_0 rfl ?_
  refine gf_Row_19 d_Row_lowestBits_1 rfl t0 ?_
  obtain ⟨hs0, hs1, hs2, hs3⟩ := h
  by_cases q1 : (G 401 a0 0) = 0
  · have h := hs0 q1
    refine e_tableIn (tgt := 32) d_Row_lowestBits_4 (by omega) (by omega) (by rw [show (G 401 a0 0) = 0 from q1]; rfl) (by decide) ?_
    refine e_lload_n d_Row_lowestBits_32 rfl ?_
    refine e_l2i d_Row_lowestBits_33 ?_
    refine e_i2b d_Row_lowestBits_34 ?_
    refine e_i2l d_Row_lowestBits_35 ?_
    exact e_lret d_Row_lowestBits_36 rfl h
  by_cases q2 : (G 401 a0 0) = 1
  · have h := hs1 q2
    refine e_tableIn (tgt := 37) d_Row_lowestBits_4 (by omega) (by omega) (by rw [show (G 401 a0 0) = 1 from q2]; rfl) (by decide) ?_
    refine e_lload_n d_Row_lowestBits_37 rfl ?_
    refine e_l2i d_Row_lowestBits_38 ?_
    refine e_i2s d_Row_lowestBits_39 ?_
    refine e_i2l d_Row_lowestBits_40 ?_
    exact e_lret d_Row_lowestBits_41 rfl h
  by_cases q3 : (G 401 a0 0) = 2
  · have h := hs2 q3
    refine e_tableIn (tgt := 42) d_Row_lowestBits_4 (by omega) (by omega) (by rw [show (G 401 a0 0) = 2 from q3]; rfl) (by decide) ?_
    refine e_lload_n d_Row_lowestBits_42 rfl ?_
    refine e_l2i d_Row_lowestBits_43 ?_
    refine e_i2l d_Row_lowestBits_44 ?_
    exact e_lret d_Row_lowestBits_45 rfl h
  have q4 : (G 401 a0 0) ≠ 0 ∧ (G 401 a0 0) ≠ 1 ∧ (G 401 a0 0) ≠ 2 := ⟨q1, q2, q3⟩
  have h := hs3 q4
  have hout : ((G 401 a0 0) < 0 ∨ 2 < (G 401 a0 0)) := by omega
  refine e_tableOut (tgt := 46) d_Row_lowestBits_4 hout (by decide) ?_
  refine e_lload_n d_Row_lowestBits_46 rfl ?_
  exact e_lret d_Row_lowestBits_47 rfl h
theorem c_Row_at {e : gE} {b : Nat} {m : Int} {G : gH} {a0 p1 : Int} (h1 : G 0 a0 0 = 7) (h2 : zEl G a0) : GX e b m m_Row_at [(2, a0), (0, p1)] G 0 0 (fun v9 G9 => v9 = (if zHs G a0 p1 then G 2 (G 400 a0 0) p1 else 0 : Int) ∧ G9 = G) := by
  refine GM.ofEV (by decide) (Nat.le_of_ble_eq_true rfl) (sg_Row_at_0 h1 ?_)
  repeat' (first | apply And.intro | intro _)
  all_goals first | assumption | rfl | omega | (rw [if_pos (by omega)]) | (rw [if_neg (by omega)])
theorem c_Row_lowestBits {e : gE} {b : Nat} {m : Int} {G : gH} {a0 p1 : Int} (h1 : G 0 a0 0 = 7) : GX e b m m_Row_lowestBits [(2, a0), (1, p1)] G 0 0 (fun v9 G9 => v9 = (zLow (G 401 a0 0) p1 : Int) ∧ G9 = G) := by
  refine GM.ofEV (by decide) (Nat.le_of_ble_eq_true rfl) (sg_Row_lowestBits_0 h1 ?_)
  unfold zLow
  exact ⟨fun q => ⟨(if_pos q).symm, rfl⟩, fun q => ⟨by rw [if_neg (by omega), if_pos q], rfl⟩, fun q => ⟨by rw [if_neg (by omega), if_neg (by omega), if_pos q], rfl⟩, fun q => ⟨by rw [if_neg (by omega), if_neg (by omega), if_neg (by omega)], rfl⟩⟩
set_option maxRecDepth 20000 in
set_option maxHeartbeats 4000000 in
theorem sg_Row_agrees_0 {e : gE} {b : Nat} {m : Int} {Z : Int → gH → Prop} {kc ks : Nat} {G : gH} {a0 p1 p2 : Int} (t0 : G 0 a0 0 = 7) (h : ((G 0 a0 0 = 7) ∧ (zHs G a0 p2 → (G 0 p1 0 = 7) ∧ ((G 0 p1 0 = 7) ∧ (zHs G p1 p2 → (zEl G a0) ∧ ((zEl G p1) ∧ ((if zHs G a0 p2 then G 2 (G 400 a0 0) p2 else 0) = (if zHs G p1 p2 then G 2 (G 400 p1 0) p2 else 0) → Z 1 G)))))) ∧ (((¬ (zHs G a0 p2)) ∨ (zHs G a0 p2 ∧ (¬ (zHs G p1 p2))) ∨ (zHs G a0 p2 ∧ zHs G p1 p2 ∧ (if zHs G a0 p2 then G 2 (G 400 a0 0) p2 else 0) ≠ (if zHs G p1 p2 then G 2 (G 400 p1 0) p2 else 0))) → Z 0 G)) : EX e b m m_Row_agrees Z kc ks 0 [(2, a0), (2, p1), (0, p2)] [] G := by
  obtain ⟨h, hJ12⟩ := h
  have kJ12 : ((¬ (zHs G a0 p2)) ∨ (zHs G a0 p2 ∧ (¬ (zHs G p1 p2))) ∨ (zHs G a0 p2 ∧ zHs G p1 p2 ∧ (if zHs G a0 p2 then G 2 (G 400 a0 0) p2 else 0) ≠ (if zHs G p1 p2 then G 2 (G 400 p1 0) p2 else 0))) → EX e b m m_Row_agrees Z kc ks 34 [(2, a0), (2, p1), (0, p2)] [] G := by
    intro rJ12
    have h := hJ12 rJ12
    refine e_iconst d_Row_agrees_34 (by decide) ?_
    exact e_zret .boolean d_Row_agrees_35 rfl (by decide) h
  refine e_aload_n d_Row_agrees_0 rfl ?_
  refine e_iload_n d_Row_agrees_1 rfl ?_
  obtain ⟨o1, h⟩ := h
  refine e_callV m_Row_has 6 lw_good d_Row_agrees_2 (k_Row_has _) ⟨Nat.le_of_ble_eq_true rfl, Nat.le_of_ble_eq_true rfl⟩ w_523 w_513 w_514 (q_Row _) rfl t0 (args := [(0, p2)]) rfl rfl (Nat.le_of_ble_eq_true rfl) (kc' := kc) (ks' := ks) (mc := 0) (ms := 0) rfl rfl (c_Row_has o1) (pureK ?_)
  refine e_if_eq (tgt := 34) d_Row_agrees_5 (by decide) (fun q2 => ?_) (fun q3 => ?_)
  · replace q2 := gb0.mp q2
    exact kJ12 (Or.inl q2)
  · replace q3 := gb1.mp q3
    have h := h q3
    refine e_aload_n d_Row_agrees_8 rfl ?_
    refine e_iload_n d_Row_agrees_9 rfl ?_
    obtain ⟨o4, o5, h⟩ := h
    refine e_callV m_Row_has 6 lw_good d_Row_agrees_10 (k_Row_has _) ⟨Nat.le_of_ble_eq_true rfl, Nat.le_of_ble_eq_true rfl⟩ w_523 w_513 w_514 (q_Row _) rfl o4 (args := [(0, p2)]) rfl rfl (Nat.le_of_ble_eq_true rfl) (kc' := kc) (ks' := ks) (mc := 0) (ms := 0) rfl rfl (c_Row_has o5) (pureK ?_)
    refine e_if_eq (tgt := 34) d_Row_agrees_13 (by decide) (fun q6 => ?_) (fun q7 => ?_)
    · replace q6 := gb0.mp q6
      exact kJ12 (Or.inr (Or.inl ⟨q3, q6⟩))
    · replace q7 := gb1.mp q7
      have h := h q7
      refine e_aload_n d_Row_agrees_16 rfl ?_
      refine e_iload_n d_Row_agrees_17 rfl ?_
      obtain ⟨o8, h⟩ := h
      refine e_callV m_Row_at 6 lw_good d_Row_agrees_18 (k_Row_at _) ⟨Nat.le_of_ble_eq_true rfl, Nat.le_of_ble_eq_true rfl⟩ w_1366 w_520 w_521 (q_Row _) rfl t0 (args := [(0, p2)]) rfl rfl (Nat.le_of_ble_eq_true rfl) (kc' := kc) (ks' := ks) (mc := 0) (ms := 0) rfl rfl (c_Row_at o1 o8) (pureK ?_)
      refine e_aload_n d_Row_agrees_21 rfl ?_
      refine e_iload_n d_Row_agrees_22 rfl ?_
      obtain ⟨o9, h⟩ := h
      refine e_callV m_Row_at 6 lw_good d_Row_agrees_23 (k_Row_at _) ⟨Nat.le_of_ble_eq_true rfl, Nat.le_of_ble_eq_true rfl⟩ w_1366 w_520 w_521 (q_Row _) rfl o4 (args := [(0, p2)]) rfl rfl (Nat.le_of_ble_eq_true rfl) (kc' := kc) (ks' := ks) (mc := 0) (ms := 0) rfl rfl (c_Row_at o5 o9) (pureK ?_)
      refine e_lcmp_ne (tgt := 34) d_Row_agrees_26 d_Row_agrees_27 (by decide) (fun q10 => ?_) (fun q11 => ?_)
      · exact kJ12 (Or.inr (Or.inr ⟨q3, q7, q10⟩))
      · have h := h q11
        refine e_iconst d_Row_agrees_30 (by decide) ?_
        refine e_goto (tgt := 35) d_Row_agrees_31 (by decide) ?_
        exact e_zret .boolean d_Row_agrees_35 rfl (by decide) h
set_option maxRecDepth 20000 in
set_option maxHeartbeats 4000000 in
theorem sg_Row_airOf_0 {e : gE} {b : Nat} {m : Int} {Z : Int → gH → Prop} {kc ks : Nat} {G : gH} {a0 p1 : Int} (t0 : G 0 a0 0 = 7) (h : (0 < (G 402 a0 0) → (0 ≤ p1 → (0 ≤ p1) ∧ ((0 < (G 402 a0 0)) ∧ ((G 0 a0 0 = 7) ∧ (zHs G a0 (p1 % (G 402 a0 0)) → (G 0 (G 400 a0 0) 0 = 101) ∧ ((0 ≤ (p1 % (G 402 a0 0))) ∧ (((p1 % (G 402 a0 0)) < G 0 (G 400 a0 0) 1) ∧ ((0 ≤ (G 401 a0 0)) ∧ (((G 401 a0 0) < 4) ∧ ((G 2 (G 400 a0 0) (p1 % (G 402 a0 0))) ≠ (gt11 (G 401 a0 0)) → Z (w32 (G 2 (G 400 a0 0) (p1 % (G 402 a0 0)))) G)))))))))) ∧ (((G 402 a0 0) ≤ 0 ∨ (0 < (G 402 a0 0) ∧ p1 < 0)) → (G 0 a0 0 = 7) ∧ (zHs G a0 (-1) → (G 0 (G 400 a0 0) 0 = 101) ∧ (((0 : Int) ≤ (-1)) ∧ (((-1) < G 0 (G 400 a0 0) 1) ∧ ((0 ≤ (G 401 a0 0)) ∧ (((G 401 a0 0) < 4) ∧ ((G 2 (G 400 a0 0) (-1)) ≠ (gt11 (G 401 a0 0)) → Z (w32 (G 2 (G 400 a0 0) (-1))) G))))))) ∧ (((0 < (G 402 a0 0) ∧ 0 ≤ p1 ∧ (¬ (zHs G a0 (p1 % (G 402 a0 0))))) ∨ (0 < (G 402 a0 0) ∧ 0 ≤ p1 ∧ zHs G a0 (p1 % (G 402 a0 0)) ∧ (G 2 (G 400 a0 0) (p1 % (G 402 a0 0))) = (gt11 (G 401 a0 0)))) → Z 1099511627776 G) ∧ (((((G 402 a0 0) ≤ 0 ∨ (0 < (G 402 a0 0) ∧ p1 < 0)) ∧ (¬ (zHs G a0 (-1)))) ∨ (((G 402 a0 0) ≤ 0 ∨ (0 < (G 402 a0 0) ∧ p1 < 0)) ∧ zHs G a0 (-1) ∧ (G 2 (G 400 a0 0) (-1)) = (gt11 (G 401 a0 0)))) → Z 1099511627776 G)) : EX e b m m_Row_airOf Z kc ks 0 [(2, a0), (0, p1), (9, 0)] [] G := by
  obtain ⟨h, hJ7, hJ28, hJ29⟩ := h
  have kJ29 : ((((G 402 a0 0) ≤ 0 ∨ (0 < (G 402 a0 0) ∧ p1 < 0)) ∧ (¬ (zHs G a0 (-1)))) ∨ (((G 402 a0 0) ≤ 0 ∨ (0 < (G 402 a0 0) ∧ p1 < 0)) ∧ zHs G a0 (-1) ∧ (G 2 (G 400 a0 0) (-1)) = (gt11 (G 401 a0 0)))) → EX e b m m_Row_airOf Z kc ks 48 [(2, a0), (0, p1), (0, (-1))] [] G := by
    intro rJ29
    have h := hJ29 rJ29
    refine e_ldc2 1099511627776 d_Row_airOf_48 (by decide) w_1081 ?_
    refine e_goto (tgt := 62) d_Row_airOf_51 (by decide) ?_
    exact e_lret d_Row_airOf_62 rfl h
  have kJ28 : ((0 < (G 402 a0 0) ∧ 0 ≤ p1 ∧ (¬ (zHs G a0 (p1 % (G 402 a0 0))))) ∨ (0 < (G 402 a0 0) ∧ 0 ≤ p1 ∧ zHs G a0 (p1 % (G 402 a0 0)) ∧ (G 2 (G 400 a0 0) (p1 % (G 402 a0 0))) = (gt11 (G 401 a0 0)))) → EX e b m m_Row_airOf Z kc ks 48 [(2, a0), (0, p1), (0, (p1 % (G 402 a0 0)))] [] G := by
    intro rJ28
    have h := hJ28 rJ28
    refine e_ldc2 1099511627776 d_Row_airOf_48 (by decide) w_1081 ?_
    refine e_goto (tgt := 62) d_Row_airOf_51 (by decide) ?_
    exact e_lret d_Row_airOf_62 rfl h
  have kJ7 : ((G 402 a0 0) ≤ 0 ∨ (0 < (G 402 a0 0) ∧ p1 < 0)) → EX e b m m_Row_airOf Z kc ks 20 [(2, a0), (0, p1), (9, 0)] [] G := by
    intro rJ7
    have h := hJ7 rJ7
    refine e_iconst d_Row_airOf_20 (by decide) ?_
    refine e_istore_n (ls' := [(2, a0), (0, p1), (0, (-1))]) d_Row_airOf_21 (by decide) rfl ?_
    refine e_aload_n d_Row_airOf_22 rfl ?_
    refine e_iload_n d_Row_airOf_23 rfl ?_
    obtain ⟨o18, h⟩ := h
    refine e_callV m_Row_has 6 lw_good d_Row_airOf_24 (k_Row_has _) ⟨Nat.le_of_ble_eq_true rfl, Nat.le_of_ble_eq_true rfl⟩ w_523 w_513 w_514 (q_Row _) rfl t0 (args := [(0, (-1))]) rfl rfl (Nat.le_of_ble_eq_true rfl) (kc' := kc) (ks' := ks) (mc := 0) (ms := 0) rfl rfl (c_Row_has o18) (pureK ?_)
    refine e_if_eq (tgt := 48) d_Row_airOf_27 (by decide) (fun q19 => ?_) (fun q20 => ?_)
    · replace q19 := gb0.mp q19
      exact kJ29 (Or.inl ⟨rJ7, q19⟩)
    · replace q20 := gb1.mp q20
      have h := h q20
      refine e_aload_n d_Row_airOf_30 rfl ?_
      refine gf_Row_9 d_Row_airOf_31 rfl t0 ?_
      refine e_iload_n d_Row_airOf_34 rfl ?_
      obtain ⟨o21, o22, o23, h⟩ := h
      refine e_lald d_Row_airOf_35 o21 o22 o23 ?_
      refine e_gets "MuseumFlight$Row" "LEAST" "[J" (2, ((gn (gX e b m) 11 : Int) + 1)) (fun s h => by rw [cV_rn trivial]; exact h.2.2.2.1) (okN _) d_Row_airOf_36 w_1079 ?_
      refine e_aload_n d_Row_airOf_39 rfl ?_
      refine gf_Row_19 d_Row_airOf_40 rfl t0 ?_
      obtain ⟨o24, o25, h⟩ := h
      refine e_tld_l (gn (gX e b m) 11) 4 gt11 (fun s h => h.2.2.2.2.1) (gt11_in _) d_Row_airOf_43 o24 (by exact_mod_cast o25) ?_
      refine e_lcmp_ne (tgt := 54) d_Row_airOf_44 d_Row_airOf_45 (by decide) (fun q26 => ?_) (fun q27 => ?_)
      · have h := h q26
        refine e_aload_n d_Row_airOf_54 rfl ?_
        refine gf_Row_9 d_Row_airOf_55 rfl t0 ?_
        refine e_iload_n d_Row_airOf_58 rfl ?_
        refine e_lald d_Row_airOf_59 o21 o22 o23 ?_
        refine e_l2i d_Row_airOf_60 ?_
        refine e_i2l d_Row_airOf_61 ?_
        exact e_lret d_Row_airOf_62 rfl h
      · exact kJ29 (Or.inr ⟨rJ7, q20, q27⟩)
  refine e_aload_n d_Row_airOf_0 rfl ?_
  refine gf_Row_32 d_Row_airOf_1 rfl t0 ?_
  refine e_if_le (tgt := 20) d_Row_airOf_4 (by decide) (fun q1 => ?_) (fun q2 => ?_)
  · exact kJ7 (Or.inl q1)
  · have h := h q2
    refine e_iload_n d_Row_airOf_7 rfl ?_
    refine e_if_lt (tgt := 20) d_Row_airOf_8 (by decide) (fun q3 => ?_) (fun q4 => ?_)
    · exact kJ7 (Or.inr ⟨q2, q3⟩)
    · have h := h q4
      refine e_iload_n d_Row_airOf_11 rfl ?_
      refine e_aload_n d_Row_airOf_12 rfl ?_
      refine gf_Row_32 d_Row_airOf_13 rfl t0 ?_
      obtain ⟨o5, o6, h⟩ := h
      refine e_irem d_Row_airOf_16 o5 o6 ?_
      refine e_goto (tgt := 21) d_Row_airOf_17 (by decide) ?_
      refine e_istore_n (ls' := [(2, a0), (0, p1), (0, (p1 % (G 402 a0 0)))]) d_Row_airOf_21 (by decide) rfl ?_
      refine e_aload_n d_Row_airOf_22 rfl ?_
      refine e_iload_n d_Row_airOf_23 rfl ?_
      obtain ⟨o8, h⟩ := h
      refine e_callV m_Row_has 6 lw_good d_Row_airOf_24 (k_Row_has _) ⟨Nat.le_of_ble_eq_true rfl, Nat.le_of_ble_eq_true rfl⟩ w_523 w_513 w_514 (q_Row _) rfl t0 (args := [(0, (p1 % (G 402 a0 0)))]) rfl rfl (Nat.le_of_ble_eq_true rfl) (kc' := kc) (ks' := ks) (mc := 0) (ms := 0) rfl rfl (c_Row_has o8) (pureK ?_)
      refine e_if_eq (tgt := 48) d_Row_airOf_27 (by decide) (fun q9 => ?_) (fun q10 => ?_)
      · replace q9 := gb0.mp q9
        exact kJ28 (Or.inl ⟨q2, q4, q9⟩)
      · replace q10 := gb1.mp q10
        have h := h q10
        refine e_aload_n d_Row_airOf_30 rfl ?_
        refine gf_Row_9 d_Row_airOf_31 rfl t0 ?_
        refine e_iload_n d_Row_airOf_34 rfl ?_
        obtain ⟨o11, o12, o13, h⟩ := h
        refine e_lald d_Row_airOf_35 o11 o12 o13 ?_
        refine e_gets "MuseumFlight$Row" "LEAST" "[J" (2, ((gn (gX e b m) 11 : Int) + 1)) (fun s h => by rw [cV_rn trivial]; exact h.2.2.2.1) (okN _) d_Row_airOf_36 w_1079 ?_
        refine e_aload_n d_Row_airOf_39 rfl ?_
        refine gf_Row_19 d_Row_airOf_40 rfl t0 ?_
        obtain ⟨o14, o15, h⟩ := h
        refine e_tld_l (gn (gX e b m) 11) 4 gt11 (fun s h => h.2.2.2.2.1) (gt11_in _) d_Row_airOf_43 o14 (by exact_mod_cast o15) ?_
        refine e_lcmp_ne (tgt := 54) d_Row_airOf_44 d_Row_airOf_45 (by decide) (fun q16 => ?_) (fun q17 => ?_)
        · have h := h q16
          refine e_aload_n d_Row_airOf_54 rfl ?_
          refine gf_Row_9 d_Row_airOf_55 rfl t0 ?_
          refine e_iload_n d_Row_airOf_58 rfl ?_
          refine e_lald d_Row_airOf_59 o11 o12 o13 ?_
          refine e_l2i d_Row_airOf_60 ?_
          refine e_i2l d_Row_airOf_61 ?_
          exact e_lret d_Row_airOf_62 rfl h
        · exact kJ28 (Or.inr ⟨q2, q4, q10, q17⟩)
abbrev zAg (G : gH) (r q i : Int) : Prop := (zHs G r i ∧ zHs G q i) ∧ G 2 (G 400 r 0) i = G 2 (G 400 q 0) i
theorem c_Row_agrees {e : gE} {b : Nat} {m : Int} {G : gH} {a0 p1 p2 : Int} (h1 : G 0 a0 0 = 7) (h2 : G 0 p1 0 = 7) (h3 : zEl G a0) (h4 : zEl G p1) : GX e b m m_Row_agrees [(2, a0), (2, p1), (0, p2)] G 0 0 (fun v9 G9 => v9 = ((if zAg G a0 p1 p2 then 1 else 0) : Int) ∧ G9 = G) := by
  refine GM.ofEV (by decide) (Nat.le_of_ble_eq_true rfl) (sg_Row_agrees_0 h1 ?_)
  refine ⟨⟨h1, fun q1 => ⟨h2, h2, fun q2 => ⟨h3, h4, fun q3 => ⟨?_, rfl⟩⟩⟩⟩, fun q => ⟨?_, rfl⟩⟩
  · rw [if_pos q1, if_pos q2] at q3
    exact (if_pos ⟨⟨q1, q2⟩, q3⟩).symm
  · rw [if_neg (fun w => ?_)]
    obtain ⟨⟨w1, w2⟩, w3⟩ := w
    rcases q with q | q | q
    · exact q w1
    · exact q.2 w2
    · obtain ⟨-, -, q⟩ := q
      rw [if_pos w1, if_pos w2] at q
      exact q w3
theorem c_Row_airOf {e : gE} {b : Nat} {m : Int} {G : gH} {a0 p1 : Int} (h1 : G 0 a0 0 = 7) (h2 : zEl G a0) (h3 : 0 ≤ G 401 a0 0 ∧ G 401 a0 0 < 4) : GX e b m m_Row_airOf [(2, a0), (0, p1)] G 0 0 (fun v9 G9 => v9 = (if (0 < G 402 a0 0 ∧ 0 ≤ p1) ∧ G 2 (G 400 a0 0) (p1 % G 402 a0 0) ≠ gt11 (G 401 a0 0) then w32 (G 2 (G 400 a0 0) (p1 % G 402 a0 0)) else 1099511627776 : Int) ∧ G9 = G) := by
  refine GM.ofEV (by decide) (Nat.le_of_ble_eq_true rfl) (sg_Row_airOf_0 h1 ?_)
  have md : 0 < G 402 a0 0 → 0 ≤ p1 % G 402 a0 0 ∧ p1 % G 402 a0 0 < G 402 a0 0 := fun q => ⟨Int.emod_nonneg _ (by omega), Int.emod_lt_of_pos _ q⟩
  refine ⟨fun q1 q2 => ⟨q2, q1, h1, fun q3 => ⟨h2.1, q3.1, by have := h2.2; omega, h3.1, h3.2, fun q4 => ⟨(if_pos ⟨⟨q1, q2⟩, q4⟩).symm, rfl⟩⟩⟩, fun q => ⟨h1, fun q2 => absurd q2.1 (by decide)⟩, fun q => ⟨?_, rfl⟩, fun q => ⟨?_, rfl⟩⟩
  · refine (if_neg (fun w => ?_)).symm
    obtain ⟨⟨w1, w2⟩, w3⟩ := w
    have := md w1
    rcases q with q | q
    · exact q.2.2 this
    · exact w3 q.2.2.2
  · refine (if_neg (fun w => ?_)).symm
    rcases q with q | q <;> omega
set_option maxRecDepth 20000 in
set_option maxHeartbeats 4000000 in
theorem sg_Row_alike_0 {e : gE} {b : Nat} {m : Int} {Z : Int → gH → Prop} {kc ks : Nat} {G : gH} {p0 p1 p2 p3 p4 : Int} (h : (G 0 p0 0 = 7) ∧ ((G 0 p0 0 = 7) ∧ ((G 0 p1 0 = 7) ∧ ((zEl G p0) ∧ ((zEl G p1) ∧ (((¬ (zAg G p0 p1 p4)) → (G 0 p2 0 = 7) ∧ ((zEl G p2) ∧ (((¬ (zAg G p0 p2 p4)) → (G 0 p3 0 = 7) ∧ ((zEl G p3) ∧ (((¬ (zAg G p0 p3 p4)) → (inI ((0 + 0) + 0)) ∧ Z ((0 + 0) + 0) G) ∧ (zAg G p0 p3 p4 → (inI ((0 + 0) + 1)) ∧ Z ((0 + 0) + 1) G)))) ∧ (zAg G p0 p2 p4 → (G 0 p3 0 = 7) ∧ ((zEl G p3) ∧ (((¬ (zAg G p0 p3 p4)) → (inI ((0 + 1) + 0)) ∧ Z ((0 + 1) + 0) G) ∧ (zAg G p0 p3 p4 → (inI ((0 + 1) + 1)) ∧ Z ((0 + 1) + 1) G))))))) ∧ (zAg G p0 p1 p4 → (G 0 p2 0 = 7) ∧ ((zEl G p2) ∧ (((¬ (zAg G p0 p2 p4)) → (G 0 p3 0 = 7) ∧ ((zEl G p3) ∧ (((¬ (zAg G p0 p3 p4)) → (inI ((1 + 0) + 0)) ∧ Z ((1 + 0) + 0) G) ∧ (zAg G p0 p3 p4 → (inI ((1 + 0) + 1)) ∧ Z ((1 + 0) + 1) G)))) ∧ (zAg G p0 p2 p4 → (G 0 p3 0 = 7) ∧ ((zEl G p3) ∧ (((¬ (zAg G p0 p3 p4)) → (inI ((1 + 1) + 0)) ∧ Z ((1 + 1) + 0) G) ∧ (zAg G p0 p3 p4 → (inI ((1 + 1) + 1)) ∧ Z ((1 + 1) + 1) G))))))))))))) : EX e b m m_Row_alike Z kc ks 0 [(2, p0), (2, p1), (2, p2), (2, p3), (0, p4)] [] G := by
  refine e_aload_n d_Row_alike_0 rfl ?_
  refine e_aload_n d_Row_alike_1 rfl ?_
  refine e_iload d_Row_alike_2 rfl ?_
  obtain ⟨o1, o2, o3, o4, o5, h⟩ := h
  refine e_callV m_Row_agrees 6 lw_good d_Row_alike_4 (k_Row_agrees _) ⟨Nat.le_of_ble_eq_true rfl, Nat.le_of_ble_eq_true rfl⟩ w_1362 w_1363 w_1364 (q_Row _) rfl o1 (args := [(2, p1), (0, p4)]) rfl rfl (Nat.le_of_ble_eq_true rfl) (kc' := kc) (ks' := ks) (mc := 0) (ms := 0) rfl rfl (c_Row_agrees o2 o3 o4 o5) (pureK ?_)
  refine e_if_eq (tgt := 14) d_Row_alike_7 (by decide) (fun q6 => ?_) (fun q7 => ?_)
  · replace q6 := gb0.mp q6
    have h := h.1 q6
    refine e_iconst d_Row_alike_14 (by decide) ?_
    refine e_aload_n d_Row_alike_15 rfl ?_
    refine e_aload_n d_Row_alike_16 rfl ?_
    refine e_iload d_Row_alike_17 rfl ?_
    obtain ⟨o8, o9, h⟩ := h
    refine e_callV m_Row_agrees 6 lw_good d_Row_alike_19 (k_Row_agrees _) ⟨Nat.le_of_ble_eq_true rfl, Nat.le_of_ble_eq_true rfl⟩ w_1362 w_1363 w_1364 (q_Row _) rfl o1 (args := [(2, p2), (0, p4)]) rfl rfl (Nat.le_of_ble_eq_true rfl) (kc' := kc) (ks' := ks) (mc := 0) (ms := 0) rfl rfl (c_Row_agrees o2 o8 o4 o9) (pureK ?_)
    refine e_if_eq (tgt := 29) d_Row_alike_22 (by decide) (fun q10 => ?_) (fun q11 => ?_)
    · replace q10 := gb0.mp q10
      have h := h.1 q10
      refine e_iconst d_Row_alike_29 (by decide) ?_
      refine e_iadd d_Row_alike_30 (by decide) ?_
      refine e_aload_n d_Row_alike_31 rfl ?_
      refine e_aload_n d_Row_alike_32 rfl ?_
      refine e_iload d_Row_alike_33 rfl ?_
      obtain ⟨o16, o17, h⟩ := h
      refine e_callV m_Row_agrees 6 lw_good d_Row_alike_35 (k_Row_agrees _) ⟨Nat.le_of_ble_eq_true rfl, Nat.le_of_ble_eq_true rfl⟩ w_1362 w_1363 w_1364 (q_Row _) rfl o1 (args := [(2, p3), (0, p4)]) rfl rfl (Nat.le_of_ble_eq_true rfl) (kc' := kc) (ks' := ks) (mc := 0) (ms := 0) rfl rfl (c_Row_agrees o2 o16 o4 o17) (pureK ?_)
      refine e_if_eq (tgt := 45) d_Row_alike_38 (by decide) (fun q18 => ?_) (fun q19 => ?_)
      · replace q18 := gb0.mp q18
        have h := h.1 q18
        refine e_iconst d_Row_alike_45 (by decide) ?_
        obtain ⟨o32, h⟩ := h
        refine e_iadd d_Row_alike_46 o32 ?_
        exact e_iret d_Row_alike_47 rfl h
      · replace q19 := gb1.mp q19
        have h := h.2 q19
        refine e_iconst d_Row_alike_41 (by decide) ?_
        refine e_goto (tgt := 46) d_Row_alike_42 (by decide) ?_
        obtain ⟨o33, h⟩ := h
        refine e_iadd d_Row_alike_46 o33 ?_
        exact e_iret d_Row_alike_47 rfl h
    · replace q11 := gb1.mp q11
      have h := h.2 q11
      refine e_iconst d_Row_alike_25 (by decide) ?_
      refine e_goto (tgt := 30) d_Row_alike_26 (by decide) ?_
      refine e_iadd d_Row_alike_30 (by decide) ?_
      refine e_aload_n d_Row_alike_31 rfl ?_
      refine e_aload_n d_Row_alike_32 rfl ?_
      refine e_iload d_Row_alike_33 rfl ?_
      obtain ⟨o20, o21, h⟩ := h
      refine e_callV m_Row_agrees 6 lw_good d_Row_alike_35 (k_Row_agrees _) ⟨Nat.le_of_ble_eq_true rfl, Nat.le_of_ble_eq_true rfl⟩ w_1362 w_1363 w_1364 (q_Row _) rfl o1 (args := [(2, p3), (0, p4)]) rfl rfl (Nat.le_of_ble_eq_true rfl) (kc' := kc) (ks' := ks) (mc := 0) (ms := 0) rfl rfl (c_Row_agrees o2 o20 o4 o21) (pureK ?_)
      refine e_if_eq (tgt := 45) d_Row_alike_38 (by decide) (fun q22 => ?_) (fun q23 => ?_)
      · replace q22 := gb0.mp q22
        have h := h.1 q22
        refine e_iconst d_Row_alike_45 (by decide) ?_
        obtain ⟨o34, h⟩ := h
        refine e_iadd d_Row_alike_46 o34 ?_
        exact e_iret d_Row_alike_47 rfl h
      · replace q23 := gb1.mp q23
        have h := h.2 q23
        refine e_iconst d_Row_alike_41 (by decide) ?_
        refine e_goto (tgt := 46) d_Row_alike_42 (by decide) ?_
        obtain ⟨o35, h⟩ := h
        refine e_iadd d_Row_alike_46 o35 ?_
        exact e_iret d_Row_alike_47 rfl h
  · replace q7 := gb1.mp q7
    have h := h.2 q7
    refine e_iconst d_Row_alike_10 (by decide) ?_
    refine e_goto (tgt := 15) d_Row_alike_11 (by decide) ?_
    refine e_aload_n d_Row_alike_15 rfl ?_
    refine e_aload_n d_Row_alike_16 rfl ?_
    refine e_iload d_Row_alike_17 rfl ?_
    obtain ⟨o12, o13, h⟩ := h
    refine e_callV m_Row_agrees 6 lw_good d_Row_alike_19 (k_Row_agrees _) ⟨Nat.le_of_ble_eq_true rfl, Nat.le_of_ble_eq_true rfl⟩ w_1362 w_1363 w_1364 (q_Row _) rfl o1 (args := [(2, p2), (0, p4)]) rfl rfl (Nat.le_of_ble_eq_true rfl) (kc' := kc) (ks' := ks) (mc := 0) (ms := 0) rfl rfl (c_Row_agrees o2 o12 o4 o13) (pureK ?_)
    refine e_if_eq (tgt := 29) d_Row_alike_22 (by decide) (fun q14 => ?_) (fun q15 => ?_)
    · replace q14 := gb0.mp q14
      have h := h.1 q14
      refine e_iconst d_Row_alike_29 (by decide) ?_
      refine e_iadd d_Row_alike_30 (by decide) ?_
      refine e_aload_n d_Row_alike_31 rfl ?_
      refine e_aload_n d_Row_alike_32 rfl ?_
      refine e_iload d_Row_alike_33 rfl ?_
      obtain ⟨o24, o25, h⟩ := h
      refine e_callV m_Row_agrees 6 lw_good d_Row_alike_35 (k_Row_agrees _) ⟨Nat.le_of_ble_eq_true rfl, Nat.le_of_ble_eq_true rfl⟩ w_1362 w_1363 w_1364 (q_Row _) rfl o1 (args := [(2, p3), (0, p4)]) rfl rfl (Nat.le_of_ble_eq_true rfl) (kc' := kc) (ks' := ks) (mc := 0) (ms := 0) rfl rfl (c_Row_agrees o2 o24 o4 o25) (pureK ?_)
      refine e_if_eq (tgt := 45) d_Row_alike_38 (by decide) (fun q26 => ?_) (fun q27 => ?_)
      · replace q26 := gb0.mp q26
        have h := h.1 q26
        refine e_iconst d_Row_alike_45 (by decide) ?_
        obtain ⟨o36, h⟩ := h
        refine e_iadd d_Row_alike_46 o36 ?_
        exact e_iret d_Row_alike_47 rfl h
      · replace q27 := gb1.mp q27
        have h := h.2 q27
        refine e_iconst d_Row_alike_41 (by decide) ?_
        refine e_goto (tgt := 46) d_Row_alike_42 (by decide) ?_
        obtain ⟨o37, h⟩ := h
        refine e_iadd d_Row_alike_46 o37 ?_
        exact e_iret d_Row_alike_47 rfl h
    · replace q15 := gb1.mp q15
      have h := h.2 q15
      refine e_iconst d_Row_alike_25 (by decide) ?_
      refine e_goto (tgt := 30) d_Row_alike_26 (by decide) ?_
      refine e_iadd d_Row_alike_30 (by decide) ?_
      refine e_aload_n d_Row_alike_31 rfl ?_
      refine e_aload_n d_Row_alike_32 rfl ?_
      refine e_iload d_Row_alike_33 rfl ?_
      obtain ⟨o28, o29, h⟩ := h
      refine e_callV m_Row_agrees 6 lw_good d_Row_alike_35 (k_Row_agrees _) ⟨Nat.le_of_ble_eq_true rfl, Nat.le_of_ble_eq_true rfl⟩ w_1362 w_1363 w_1364 (q_Row _) rfl o1 (args := [(2, p3), (0, p4)]) rfl rfl (Nat.le_of_ble_eq_true rfl) (kc' := kc) (ks' := ks) (mc := 0) (ms := 0) rfl rfl (c_Row_agrees o2 o28 o4 o29) (pureK ?_)
      refine e_if_eq (tgt := 45) d_Row_alike_38 (by decide) (fun q30 => ?_) (fun q31 => ?_)
      · replace q30 := gb0.mp q30
        have h := h.1 q30
        refine e_iconst d_Row_alike_45 (by decide) ?_
        obtain ⟨o38, h⟩ := h
        refine e_iadd d_Row_alike_46 o38 ?_
        exact e_iret d_Row_alike_47 rfl h
      · replace q31 := gb1.mp q31
        have h := h.2 q31
        refine e_iconst d_Row_alike_41 (by decide) ?_
        refine e_goto (tgt := 46) d_Row_alike_42 (by decide) ?_
        obtain ⟨o39, h⟩ := h
        refine e_iadd d_Row_alike_46 o39 ?_
        exact e_iret d_Row_alike_47 rfl h
def zAl (G : gH) (r a c d i : Int) : Int := (if zAg G r a i then 1 else 0) + (if zAg G r c i then 1 else 0) + if zAg G r d i then 1 else 0
theorem c_Row_alike {e : gE} {b : Nat} {m : Int} {G : gH} {p0 p1 p2 p3 p4 : Int} (h1 : (G 0 p0 0 = 7 ∧ G 0 p1 0 = 7 ∧ G 0 p2 0 = 7 ∧ G 0 p3 0 = 7) ∧ zEl G p0 ∧ zEl G p1 ∧ zEl G p2 ∧ zEl G p3) : GX e b m m_Row_alike [(2, p0), (2, p1), (2, p2), (2, p3), (0, p4)] G 0 0 (fun v9 G9 => v9 = (zAl G p0 p1 p2 p3 p4 : Int) ∧ G9 = G) := by
  refine GM.ofEV (by decide) (Nat.le_of_ble_eq_true rfl) (sg_Row_alike_0 ?_)
  obtain ⟨⟨t1, t2, t3, t4⟩, u1, u2, u3, u4⟩ := h1
  unfold zAl
  refine ⟨t1, t1, t2, u1, u2, fun q1 => ⟨t3, u3, fun q2 => ⟨t4, u4, fun q3 => ?_, fun q3 => ?_⟩, fun q2 => ⟨t4, u4, fun q3 => ?_, fun q3 => ?_⟩⟩, fun q1 => ⟨t3, u3, fun q2 => ⟨t4, u4, fun q3 => ?_, fun q3 => ?_⟩, fun q2 => ⟨t4, u4, fun q3 => ?_, fun q3 => ?_⟩⟩⟩
  · rw [if_neg q1, if_neg q2, if_neg q3]; exact ⟨by decide, rfl, rfl⟩
  · rw [if_neg q1, if_neg q2, if_pos q3]; exact ⟨by decide, rfl, rfl⟩
  · rw [if_neg q1, if_pos q2, if_neg q3]; exact ⟨by decide, rfl, rfl⟩
  · rw [if_neg q1, if_pos q2, if_pos q3]; exact ⟨by decide, rfl, rfl⟩
  · rw [if_pos q1, if_neg q2, if_neg q3]; exact ⟨by decide, rfl, rfl⟩
  · rw [if_pos q1, if_neg q2, if_pos q3]; exact ⟨by decide, rfl, rfl⟩
  · rw [if_pos q1, if_pos q2, if_neg q3]; exact ⟨by decide, rfl, rfl⟩
  · rw [if_pos q1, if_pos q2, if_pos q3]; exact ⟨by decide, rfl, rfl⟩
set_option maxRecDepth 20000 in
set_option maxHeartbeats 4000000 in
theorem sg_Row_mostAlike_0 {e : gE} {b : Nat} {m : Int} {Z : Int → gH → Prop} {kc ks : Nat} {G : gH} {p0 p1 p2 p3 : Int} (h : (p0 ≠ 0 → (p1 ≠ 0 → (p2 ≠ 0 → ((G 0 p0 0 = 7 ∧ G 0 p0 0 = 7 ∧ G 0 p1 0 = 7 ∧ G 0 p2 0 = 7) ∧ zEl G p0 ∧ zEl G p0 ∧ zEl G p1 ∧ zEl G p2) ∧ ((G 0 p1 0 = 7 ∧ G 0 p0 0 = 7 ∧ G 0 p1 0 = 7 ∧ G 0 p2 0 = 7) ∧ zEl G p1 ∧ zEl G p0 ∧ zEl G p1 ∧ zEl G p2) ∧ ((G 0 p2 0 = 7 ∧ G 0 p0 0 = 7 ∧ G 0 p1 0 = 7 ∧ G 0 p2 0 = 7) ∧ zEl G p2 ∧ zEl G p0 ∧ zEl G p1 ∧ zEl G p2) ∧ Z (if (if (zAl G p0 p0 p1 p2 p3) < (zAl G p1 p0 p1 p2 p3) then (zAl G p1 p0 p1 p2 p3) else (zAl G p0 p0 p1 p2 p3)) < (zAl G p2 p0 p1 p2 p3) then (zAl G p2 p0 p1 p2 p3) else (if (zAl G p0 p0 p1 p2 p3) < (zAl G p1 p0 p1 p2 p3) then (zAl G p1 p0 p1 p2 p3) else (zAl G p0 p0 p1 p2 p3))) G))) ∧ ((p0 = 0 ∨ (p0 ≠ 0 ∧ p1 = 0) ∨ (p0 ≠ 0 ∧ p1 ≠ 0 ∧ p2 = 0)) → Z 0 G)) : EX e b m m_Row_mostAlike Z kc ks 0 [(2, p0), (2, p1), (2, p2), (0, p3), (9, 0)] [] G := by
  obtain ⟨h, hJ10⟩ := h
  have kJ10 : (p0 = 0 ∨ (p0 ≠ 0 ∧ p1 = 0) ∨ (p0 ≠ 0 ∧ p1 ≠ 0 ∧ p2 = 0)) → EX e b m m_Row_mostAlike Z kc ks 12 [(2, p0), (2, p1), (2, p2), (0, p3), (9, 0)] [] G := by
    intro rJ10
    have h := hJ10 rJ10
    refine e_iconst d_Row_mostAlike_12 (by decide) ?_
    exact e_iret d_Row_mostAlike_13 rfl h
  refine e_aload_n d_Row_mostAlike_0 rfl ?_
  refine e_ifnull (tgt := 12) d_Row_mostAlike_1 (by decide) (fun q1 => ?_) (fun q2 => ?_)
  · exact kJ10 (Or.inl q1)
  · have h := h q2
    refine e_aload_n d_Row_mostAlike_4 rfl ?_
    refine e_ifnull (tgt := 12) d_Row_mostAlike_5 (by decide) (fun q3 => ?_) (fun q4 => ?_)
    · exact kJ10 (Or.inr (Or.inl ⟨q2, q3⟩))
    · have h := h q4
      refine e_aload_n d_Row_mostAlike_8 rfl ?_
      refine e_ifnonnull (tgt := 14) d_Row_mostAlike_9 (by decide) (fun q5 => ?_) (fun q6 => ?_)
      · have h := h q5
        refine e_aload_n d_Row_mostAlike_14 rfl ?_
        refine e_aload_n d_Row_mostAlike_15 rfl ?_
        refine e_aload_n d_Row_mostAlike_16 rfl ?_
        refine e_aload_n d_Row_mostAlike_17 rfl ?_
        refine e_iload_n d_Row_mostAlike_18 rfl ?_
        obtain ⟨o7, h⟩ := h
        refine e_callS m_Row_alike lw_good d_Row_mostAlike_19 (k_Row_alike _) ⟨Nat.le_of_ble_eq_true rfl, Nat.le_of_ble_eq_true rfl⟩ w_1359 w_1360 (args := [(2, p0), (2, p0), (2, p1), (2, p2), (0, p3)]) rfl rfl (Nat.le_of_ble_eq_true rfl) (kc' := kc) (ks' := ks) (mc := 0) (ms := 0) rfl rfl (c_Row_alike o7) (pureK ?_)
        refine e_aload_n d_Row_mostAlike_22 rfl ?_
        refine e_aload_n d_Row_mostAlike_23 rfl ?_
        refine e_aload_n d_Row_mostAlike_24 rfl ?_
        refine e_aload_n d_Row_mostAlike_25 rfl ?_
        refine e_iload_n d_Row_mostAlike_26 rfl ?_
        obtain ⟨o8, h⟩ := h
        refine e_callS m_Row_alike lw_good d_Row_mostAlike_27 (k_Row_alike _) ⟨Nat.le_of_ble_eq_true rfl, Nat.le_of_ble_eq_true rfl⟩ w_1359 w_1360 (args := [(2, p1), (2, p0), (2, p1), (2, p2), (0, p3)]) rfl rfl (Nat.le_of_ble_eq_true rfl) (kc' := kc) (ks' := ks) (mc := 0) (ms := 0) rfl rfl (c_Row_alike o8) (pureK ?_)
        refine e_callS m_Math_max_a lw_good d_Row_mostAlike_30 (k_Math_max_a _) ⟨Nat.le_of_ble_eq_true rfl, Nat.le_of_ble_eq_true rfl⟩ w_804 w_373 (args := [(0, (zAl G p0 p0 p1 p2 p3)), (0, (zAl G p1 p0 p1 p2 p3))]) rfl rfl (Nat.le_of_ble_eq_true rfl) (kc' := kc) (ks' := ks) (mc := 0) (ms := 0) rfl rfl (c_Math_max_a) (pureK ?_)
        refine e_istore (ls' := [(2, p0), (2, p1), (2, p2), (0, p3), (0, (if (zAl G p0 p0 p1 p2 p3) < (zAl G p1 p0 p1 p2 p3) then (zAl G p1 p0 p1 p2 p3) else (zAl G p0 p0 p1 p2 p3)))]) d_Row_mostAlike_33 (by decide) rfl ?_
        refine e_iload d_Row_mostAlike_35 rfl ?_
        refine e_aload_n d_Row_mostAlike_37 rfl ?_
        refine e_aload_n d_Row_mostAlike_38 rfl ?_
        refine e_aload_n d_Row_mostAlike_39 rfl ?_
        refine e_aload_n d_Row_mostAlike_40 rfl ?_
        refine e_iload_n d_Row_mostAlike_41 rfl ?_
        obtain ⟨o9, h⟩ := h
        refine e_callS m_Row_alike lw_good d_Row_mostAlike_42 (k_Row_alike _) ⟨Nat.le_of_ble_eq_true rfl, Nat.le_of_ble_eq_true rfl⟩ w_1359 w_1360 (args := [(2, p2), (2, p0), (2, p1), (2, p2), (0, p3)]) rfl rfl (Nat.le_of_ble_eq_true rfl) (kc' := kc) (ks' := ks) (mc := 0) (ms := 0) rfl rfl (c_Row_alike o9) (pureK ?_)
        refine e_callS m_Math_max_a lw_good d_Row_mostAlike_45 (k_Math_max_a _) ⟨Nat.le_of_ble_eq_true rfl, Nat.le_of_ble_eq_true rfl⟩ w_804 w_373 (args := [(0, (if (zAl G p0 p0 p1 p2 p3) < (zAl G p1 p0 p1 p2 p3) then (zAl G p1 p0 p1 p2 p3) else (zAl G p0 p0 p1 p2 p3))), (0, (zAl G p2 p0 p1 p2 p3))]) rfl rfl (Nat.le_of_ble_eq_true rfl) (kc' := kc) (ks' := ks) (mc := 0) (ms := 0) rfl rfl (c_Math_max_a) (pureK ?_)
        exact e_iret d_Row_mostAlike_48 rfl h
      · exact kJ10 (Or.inr (Or.inr ⟨q2, q4, q6⟩))
def zMx (x y z : Int) : Int := if (if x < y then y else x) < z then z else (if x < y then y else x)
theorem c_Row_mostAlike {e : gE} {b : Nat} {m : Int} {G : gH} {p0 p1 p2 p3 : Int} (h1 : (G 0 p0 0 = 7 ∧ G 0 p1 0 = 7 ∧ G 0 p2 0 = 7) ∧ zEl G p0 ∧ zEl G p1 ∧ zEl G p2) (h2 : p0 ≠ 0 ∧ p1 ≠ 0 ∧ p2 ≠ 0) : GX e b m m_Row_mostAlike [(2, p0), (2, p1), (2, p2), (0, p3)] G 0 0 (fun v9 G9 => v9 = (zMx (zAl G p0 p0 p1 p2 p3) (zAl G p1 p0 p1 p2 p3) (zAl G p2 p0 p1 p2 p3) : Int) ∧ G9 = G) := by
  refine GM.ofEV (by decide) (Nat.le_of_ble_eq_true rfl) (sg_Row_mostAlike_0 ?_)
  obtain ⟨⟨t1, t2, t3⟩, u1, u2, u3⟩ := h1
  exact ⟨fun _ _ _ => ⟨⟨⟨t1, t1, t2, t3⟩, u1, u1, u2, u3⟩, ⟨⟨t2, t1, t2, t3⟩, u2, u1, u2, u3⟩, ⟨⟨t3, t1, t2, t3⟩, u3, u1, u2, u3⟩, rfl, rfl⟩, fun q => by omega⟩
