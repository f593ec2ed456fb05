/-! THE CLASS, 1: what it takes from the library -/
set_option maxRecDepth 20000 in
set_option maxHeartbeats 4000000 in
theorem sg_Math_max_a_0 {e : gE} {b : Nat} {m : Int} {Z : Int → gH → Prop} {kc ks : Nat} {G : gH} {p0 p1 : Int} (h : (p0 < p1 → Z p1 G) ∧ (p1 ≤ p0 → Z p0 G)) : EX e b m m_Math_max_a Z kc ks 0 [(0, p0), (0, p1)] [] G := by
  refine e_iload_n d_Math_max_a_0 rfl ?_
  refine e_iload_n d_Math_max_a_1 rfl ?_
  refine e_icmp_lt (tgt := 9) d_Math_max_a_2 (by decide) (fun q1 => ?_) (fun q2 => ?_)
  · have h := h.1 q1
    refine e_iload_n d_Math_max_a_9 rfl ?_
    exact e_iret d_Math_max_a_10 rfl h
  · have h := h.2 q2
    refine e_iload_n d_Math_max_a_5 rfl ?_
    refine e_goto (tgt := 10) d_Math_max_a_6 (by decide) ?_
    exact e_iret d_Math_max_a_10 rfl h
set_option maxRecDepth 20000 in
set_option maxHeartbeats 4000000 in
theorem sg_Math_max_b_0 {e : gE} {b : Nat} {m : Int} {Z : Int → gH → Prop} {kc ks : Nat} {G : gH} {p0 p2 : Int} (h : (p0 < p2 → Z p2 G) ∧ (p2 ≤ p0 → Z p0 G)) : EX e b m m_Math_max_b Z kc ks 0 [(1, p0), (9, 0), (1, p2), (9, 0)] [] G := by
  refine e_lload_n d_Math_max_b_0 rfl ?_
  refine e_lload_n d_Math_max_b_1 rfl ?_
  refine e_lcmp_lt (tgt := 10) d_Math_max_b_2 d_Math_max_b_3 (by decide) (fun q1 => ?_) (fun q2 => ?_)
  · have h := h.1 q1
    refine e_lload_n d_Math_max_b_10 rfl ?_
    exact e_lret d_Math_max_b_11 rfl h
  · have h := h.2 q2
    refine e_lload_n d_Math_max_b_6 rfl ?_
    refine e_goto (tgt := 11) d_Math_max_b_7 (by decide) ?_
    exact e_lret d_Math_max_b_11 rfl h
set_option maxRecDepth 20000 in
set_option maxHeartbeats 4000000 in
theorem sg_Math_min_a_0 {e : gE} {b : Nat} {m : Int} {Z : Int → gH → Prop} {kc ks : Nat} {G : gH} {p0 p1 : Int} (h : (p1 < p0 → Z p1 G) ∧ (p0 ≤ p1 → Z p0 G)) : EX e b m m_Math_min_a Z kc ks 0 [(0, p0), (0, p1)] [] G := by
  refine e_iload_n d_Math_min_a_0 rfl ?_
  refine e_iload_n d_Math_min_a_1 rfl ?_
  refine e_icmp_gt (tgt := 9) d_Math_min_a_2 (by decide) (fun q1 => ?_) (fun q2 => ?_)
  · have h := h.1 q1
    refine e_iload_n d_Math_min_a_9 rfl ?_
    exact e_iret d_Math_min_a_10 rfl h
  · have h := h.2 q2
    refine e_iload_n d_Math_min_a_5 rfl ?_
    refine e_goto (tgt := 10) d_Math_min_a_6 (by decide) ?_
    exact e_iret d_Math_min_a_10 rfl h
set_option maxRecDepth 20000 in
set_option maxHeartbeats 4000000 in
theorem sg_Math_min_b_0 {e : gE} {b : Nat} {m : Int} {Z : Int → gH → Prop} {kc ks : Nat} {G : gH} {p0 p2 : Int} (h : (p2 < p0 → Z p2 G) ∧ (p0 ≤ p2 → Z p0 G)) : EX e b m m_Math_min_b Z kc ks 0 [(1, p0), (9, 0), (1, p2), (9, 0)] [] G := by
  refine e_lload_n d_Math_min_b_0 rfl ?_
  refine e_lload_n d_Math_min_b_1 rfl ?_
  refine e_lcmp_gt (tgt := 10) d_Math_min_b_2 d_Math_min_b_3 (by decide) (fun q1 => ?_) (fun q2 => ?_)
  · have h := h.1 q1
    refine e_lload_n d_Math_min_b_10 rfl ?_
    exact e_lret d_Math_min_b_11 rfl h
  · have h := h.2 q2
    refine e_lload_n d_Math_min_b_6 rfl ?_
    refine e_goto (tgt := 11) d_Math_min_b_7 (by decide) ?_
    exact e_lret d_Math_min_b_11 rfl h
theorem c_Math_max_a {e : gE} {b : Nat} {m : Int} {G : gH} {p0 p1 : Int} : GX e b m m_Math_max_a [(0, p0), (0, p1)] G 0 0 (fun v9 G9 => v9 = (if p0 < p1 then p1 else p0 : Int) ∧ G9 = G) := by
  refine GM.ofJ (by decide +kernel) (Nat.le_of_ble_eq_true rfl) (sg_Math_max_a_0 ?_)
  exact ⟨fun q => ⟨(if_pos q).symm, rfl⟩, fun q => ⟨(if_neg (by omega)).symm, rfl⟩⟩
theorem c_Math_max_b {e : gE} {b : Nat} {m : Int} {G : gH} {p0 p2 : Int} : GX e b m m_Math_max_b [(1, p0), (1, p2)] G 0 0 (fun v9 G9 => v9 = (if p0 < p2 then p2 else p0 : Int) ∧ G9 = G) := by
  refine GM.ofJ (by decide +kernel) (Nat.le_of_ble_eq_true rfl) (sg_Math_max_b_0 ?_)
  exact ⟨fun q => ⟨(if_pos q).symm, rfl⟩, fun q => ⟨(if_neg (by omega)).symm, rfl⟩⟩
theorem c_Math_min_a {e : gE} {b : Nat} {m : Int} {G : gH} {p0 p1 : Int} : GX e b m m_Math_min_a [(0, p0), (0, p1)] G 0 0 (fun v9 G9 => v9 = (if p1 < p0 then p1 else p0 : Int) ∧ G9 = G) := by
  refine GM.ofJ (by decide +kernel) (Nat.le_of_ble_eq_true rfl) (sg_Math_min_a_0 ?_)
  exact ⟨fun q => ⟨(if_pos q).symm, rfl⟩, fun q => ⟨(if_neg (by omega)).symm, rfl⟩⟩
theorem c_Math_min_b {e : gE} {b : Nat} {m : Int} {G : gH} {p0 p2 : Int} : GX e b m m_Math_min_b [(1, p0), (1, p2)] G 0 0 (fun v9 G9 => v9 = (if p2 < p0 then p2 else p0 : Int) ∧ G9 = G) := by
  refine GM.ofJ (by decide +kernel) (Nat.le_of_ble_eq_true rfl) (sg_Math_min_b_0 ?_)
  exact ⟨fun q => ⟨(if_pos q).symm, rfl⟩, fun q => ⟨(if_neg (by omega)).symm, rfl⟩⟩
set_option maxRecDepth 20000 in
set_option maxHeartbeats 4000000 in
theorem sg_PC_checkIndex_0 {e : gE} {b : Nat} {m : Int} {Z : Int → gH → Prop} {kc ks : Nat} {G : gH} {p0 p1 p2 : Int} (h : (0 ≤ p0 → (p0 < p1 → Z p0 G)) ∧ ((p0 < 0 ∨ (0 ≤ p0 ∧ p1 ≤ p0)) → False)) : EX e b m m_PC_checkIndex Z kc ks 0 [(0, p0), (0, p1), (2, p2)] [] G := by
  obtain ⟨h, hJ5⟩ := h
  have kJ5 : (p0 < 0 ∨ (0 ≤ p0 ∧ p1 ≤ p0)) → EX e b m m_PC_checkIndex Z kc ks 9 [(0, p0), (0, p1), (2, p2)] [] G := by
    intro rJ5
    have h := hJ5 rJ5
    refine e_aload_n d_PC_checkIndex_9 rfl ?_
    refine e_iload_n d_PC_checkIndex_10 rfl ?_
    refine e_iload_n d_PC_checkIndex_11 rfl ?_
    exact h.elim
  refine e_iload_n d_PC_checkIndex_0 rfl ?_
  refine e_if_lt (tgt := 9) d_PC_checkIndex_1 (by decide) (fun q1 => ?_) (fun q2 => ?_)
  · exact kJ5 (Or.inl q1)
  · have h := h q2
    refine e_iload_n d_PC_checkIndex_4 rfl ?_
    refine e_iload_n d_PC_checkIndex_5 rfl ?_
    refine e_icmp_lt (tgt := 16) d_PC_checkIndex_6 (by decide) (fun q3 => ?_) (fun q4 => ?_)
    · have h := h q3
      refine e_iload_n d_PC_checkIndex_16 rfl ?_
      exact e_iret d_PC_checkIndex_17 rfl h
    · exact kJ5 (Or.inr ⟨q2, q4⟩)
set_option maxRecDepth 20000 in
set_option maxHeartbeats 4000000 in
theorem sg_AL_rangeCheckForAdd_0 {e : gE} {b : Nat} {m : Int} {Z : Int → gH → Prop} {kc ks : Nat} {G : gH} {a0 p1 : Int} (t0 : G 0 a0 0 = 1) (h : (p1 ≤ (G 18 a0 0) → (0 ≤ p1 → Z 0 G)) ∧ (((G 18 a0 0) < p1 ∨ (p1 ≤ (G 18 a0 0) ∧ p1 < 0)) → False)) : EX e b m m_AL_rangeCheckForAdd Z kc ks 0 [(2, a0), (0, p1)] [] G := by
  obtain ⟨h, hJ5⟩ := h
  have kJ5 : ((G 18 a0 0) < p1 ∨ (p1 ≤ (G 18 a0 0) ∧ p1 < 0)) → EX e b m m_AL_rangeCheckForAdd Z kc ks 12 [(2, a0), (0, p1)] [] G := by
    intro rJ5
    have h := hJ5 rJ5
    exact h.elim
  refine e_iload_n d_AL_rangeCheckForAdd_0 rfl ?_
  refine e_aload_n d_AL_rangeCheckForAdd_1 rfl ?_
  refine gf_AL_48 d_AL_rangeCheckForAdd_2 rfl t0 ?_
  refine e_icmp_gt (tgt := 12) d_AL_rangeCheckForAdd_5 (by decide) (fun q1 => ?_) (fun q2 => ?_)
  · exact kJ5 (Or.inl q1)
  · have h := h q2
    refine e_iload_n d_AL_rangeCheckForAdd_8 rfl ?_
    refine e_if_ge (tgt := 25) d_AL_rangeCheckForAdd_9 (by decide) (fun q3 => ?_) (fun q4 => ?_)
    · have h := h q3
      exact e_vret d_AL_rangeCheckForAdd_25 rfl h
    · exact kJ5 (Or.inr ⟨q2, q4⟩)
set_option maxRecDepth 20000 in
set_option maxHeartbeats 4000000 in
theorem sg_AL_size_0 {e : gE} {b : Nat} {m : Int} {Z : Int → gH → Prop} {kc ks : Nat} {G : gH} {a0 : Int} (t0 : G 0 a0 0 = 1) (h : Z (G 18 a0 0) G) : EX e b m m_AL_size Z kc ks 0 [(2, a0)] [] G := by
  refine e_aload_n d_AL_size_0 rfl ?_
  refine gf_AL_48 d_AL_size_1 rfl t0 ?_
  exact e_iret d_AL_size_4 rfl h
set_option maxRecDepth 20000 in
set_option maxHeartbeats 4000000 in
theorem sg_AL_elementData_0 {e : gE} {b : Nat} {m : Int} {Z : Int → gH → Prop} {kc ks : Nat} {G : gH} {a0 p1 : Int} (t0 : G 0 a0 0 = 1) (h : (G 0 (G 17 a0 0) 0 = 103) ∧ (0 ≤ p1) ∧ (p1 < G 0 (G 17 a0 0) 1) ∧ Z (G 3 (G 17 a0 0) p1) G) : EX e b m m_AL_elementData Z kc ks 0 [(2, a0), (0, p1)] [] G := by
  refine e_aload_n d_AL_elementData_0 rfl ?_
  refine gf_AL_9 d_AL_elementData_1 rfl t0 ?_
  refine e_iload_n d_AL_elementData_4 rfl ?_
  obtain ⟨o1, o2, o3, h⟩ := h
  refine e_aald d_AL_elementData_5 (Or.inl o1) o2 o3 ?_
  exact e_aret d_AL_elementData_6 (Or.inl ⟨_, rfl⟩) h
theorem c_PC_checkIndex {e : gE} {b : Nat} {m : Int} {G : gH} {p0 p1 p2 : Int} (h1 : 0 ≤ p0 ∧ p0 < p1) : GX e b m m_PC_checkIndex [(0, p0), (0, p1), (2, p2)] G 0 0 (fun v9 G9 => v9 = (p0 : Int) ∧ G9 = G) := by
  refine GM.ofJ (by decide +kernel) (Nat.le_of_ble_eq_true rfl) (sg_PC_checkIndex_0 ?_)
  exact ⟨fun _ _ => ⟨rfl, rfl⟩, fun q => by omega⟩
theorem c_AL_rangeCheckForAdd {e : gE} {b : Nat} {m : Int} {G : gH} {a0 p1 : Int} (h1 : G 0 a0 0 = 1) (h2 : 0 ≤ p1 ∧ p1 ≤ G 18 a0 0) : GX e b m m_AL_rangeCheckForAdd [(2, a0), (0, p1)] G 0 0 (fun v9 G9 => v9 = (0 : Int) ∧ G9 = G) := by
  refine GM.ofJ (by decide +kernel) (Nat.le_of_ble_eq_true rfl) (sg_AL_rangeCheckForAdd_0 h1 ?_)
  exact ⟨fun _ _ => ⟨rfl, rfl⟩, fun q => by omega⟩
theorem c_AL_size {e : gE} {b : Nat} {m : Int} {G : gH} {a0 : Int} (h1 : G 0 a0 0 = 1) : GX e b m m_AL_size [(2, a0)] G 0 0 (fun v9 G9 => v9 = (G 18 a0 0 : Int) ∧ G9 = G) := by
  refine GM.ofJ (by decide +kernel) (Nat.le_of_ble_eq_true rfl) (sg_AL_size_0 h1 ?_)
  repeat' (first | apply And.intro | intro _)
  all_goals first | assumption | rfl | omega | (rw [if_pos (by omega)]) | (rw [if_neg (by omega)])
theorem c_AL_elementData {e : gE} {b : Nat} {m : Int} {G : gH} {a0 p1 : Int} (h1 : G 0 a0 0 = 1) (h2 : G 0 (G 17 a0 0) 0 = 103) (h3 : 0 ≤ p1 ∧ p1 < G 0 (G 17 a0 0) 1) : GX e b m m_AL_elementData [(2, a0), (0, p1)] G 0 0 (fun v9 G9 => v9 = (G 3 (G 17 a0 0) p1 : Int) ∧ G9 = G) := by
  refine GM.ofJ (by decide +kernel) (Nat.le_of_ble_eq_true rfl) (sg_AL_elementData_0 h1 ?_)
  exact ⟨h2, h3.1, h3.2, rfl, rfl⟩
set_option maxRecDepth 20000 in
set_option maxHeartbeats 4000000 in
theorem sg_Objects_checkIndex_0 {e : gE} {b : Nat} {m : Int} {Z : Int → gH → Prop} {kc ks : Nat} {G : gH} {p0 p1 : Int} (h : (0 ≤ p0 ∧ p0 < p1) ∧ Z (p0) G) : EX e b m m_Objects_checkIndex Z kc ks 0 [(0, p0), (0, p1)] [] G := by
  refine e_iload_n d_Objects_checkIndex_0 rfl ?_
  refine e_iload_n d_Objects_checkIndex_1 rfl ?_
  refine e_null d_Objects_checkIndex_2 ?_
  obtain ⟨o1, h⟩ := h
  refine e_callS m_PC_checkIndex lw_good d_Objects_checkIndex_3 (k_PC_checkIndex _) ⟨Nat.le_of_ble_eq_true rfl, Nat.le_of_ble_eq_true rfl⟩ w_613 w_544 (args := [(0, p0), (0, p1), (2, 0)]) rfl rfl (Nat.le_of_ble_eq_true rfl) (kc' := kc) (ks' := ks) (mc := 0) (ms := 0) rfl rfl (c_PC_checkIndex o1) (pureK ?_)
  exact e_iret d_Objects_checkIndex_6 rfl h
theorem c_Objects_checkIndex {e : gE} {b : Nat} {m : Int} {G : gH} {p0 p1 : Int} (h1 : 0 ≤ p0 ∧ p0 < p1) : GX e b m m_Objects_checkIndex [(0, p0), (0, p1)] G 0 0 (fun v9 G9 => v9 = (p0 : Int) ∧ G9 = G) := by
  refine GM.ofJ (by decide +kernel) (Nat.le_of_ble_eq_true rfl) (sg_Objects_checkIndex_0 ?_)
  repeat' (first | apply And.intro | intro _)
  all_goals first | assumption | rfl | omega | (rw [if_pos (by omega)]) | (rw [if_neg (by omega)])
set_option maxRecDepth 20000 in
set_option maxHeartbeats 4000000 in
theorem sg_AL_get_0 {e : gE} {b : Nat} {m : Int} {Z : Int → gH → Prop} {kc ks : Nat} {G : gH} {a0 p1 : Int} (t0 : G 0 a0 0 = 1) (h : (0 ≤ p1 ∧ p1 < (G 18 a0 0)) ∧ (G 0 a0 0 = 1) ∧ (G 0 (G 17 a0 0) 0 = 103) ∧ (0 ≤ p1 ∧ p1 < G 0 (G 17 a0 0) 1) ∧ Z (G 3 (G 17 a0 0) p1) G) : EX e b m m_AL_get Z kc ks 0 [(2, a0), (0, p1)] [] G := by
  refine e_iload_n d_AL_get_0 rfl ?_
  refine e_aload_n d_AL_get_1 rfl ?_
  refine gf_AL_48 d_AL_get_2 rfl t0 ?_
  obtain ⟨o1, h⟩ := h
  refine e_callS m_Objects_checkIndex lw_good d_AL_get_5 (k_Objects_checkIndex _) ⟨Nat.le_of_ble_eq_true rfl, Nat.le_of_ble_eq_true rfl⟩ w_610 w_611 (args := [(0, p1), (0, (G 18 a0 0))]) rfl rfl (Nat.le_of_ble_eq_true rfl) (kc' := kc) (ks' := ks) (mc := 0) (ms := 0) rfl rfl (c_Objects_checkIndex o1) (pureK ?_)
  refine e_pop d_AL_get_8 (by simp) ?_
  refine e_aload_n d_AL_get_9 rfl ?_
  refine e_iload_n d_AL_get_10 rfl ?_
  obtain ⟨o2, o3, o4, h⟩ := h
  refine e_callV m_AL_elementData 0 lw_good d_AL_get_11 (k_AL_elementData _) ⟨Nat.le_of_ble_eq_true rfl, Nat.le_of_ble_eq_true rfl⟩ w_614 w_615 w_616 (q_AL _) rfl t0 (args := [(0, p1)]) rfl rfl (Nat.le_of_ble_eq_true rfl) (kc' := kc) (ks' := ks) (mc := 0) (ms := 0) rfl rfl (c_AL_elementData o2 o3 o4) (pureK ?_)
  exact e_aret d_AL_get_14 (Or.inl ⟨_, rfl⟩) h
theorem c_AL_get {e : gE} {b : Nat} {m : Int} {G : gH} {a0 p1 : Int} (h1 : G 0 a0 0 = 1) (h2 : G 0 (G 17 a0 0) 0 = 103) (h3 : 0 ≤ p1 ∧ p1 < G 18 a0 0) (h4 : G 18 a0 0 ≤ G 0 (G 17 a0 0) 1) : GX e b m m_AL_get [(2, a0), (0, p1)] G 0 0 (fun v9 G9 => v9 = (G 3 (G 17 a0 0) p1 : Int) ∧ G9 = G) := by
  refine GM.ofJ (by decide +kernel) (Nat.le_of_ble_eq_true rfl) (sg_AL_get_0 h1 ?_)
  exact ⟨h3, h1, h2, by omega, rfl, rfl⟩
