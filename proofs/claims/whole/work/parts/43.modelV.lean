/-! THE REFERENCE, 21: the calls that find ways and make plans -/
theorem zWay_b {A : zA} {r : Int} (hr : 0 ≤ r ∧ r < 12) : -1 ≤ zWay A r ∧ zWay A r ≤ 99 := by
  by_cases hx : ∃ f, zIsW A f
  · have e : zWay A = Classical.choose hx := dif_pos hx
    rw [e]
    by_cases q : Classical.choose hx r = -1
    · omega
    · have := ((Classical.choose_spec hx).2.1 r hr.1 hr.2 q).1
      omega
  · have e : zWay A = fun _ => -1 := dif_neg hx
    rw [e]
    exact ⟨Int.le_refl _, by show (-1 : Int) ≤ 99; decide⟩
theorem zB_V {n : Int} {A : zA} {k : Nat} {lo hi : Int} {f : Int → Int} (h : zB n A) (hf : ∀ i, lo ≤ i → i < hi → zlo k ≤ f i ∧ f i ≤ zhi n k) : zB n (zV A k lo hi f) := by
  intro k' i
  unfold zV
  split
  · rename_i q; rw [q.1]; exact hf i q.2.1 q.2.2
  · exact h k' i
theorem zB_Ws {n : Int} {A : zA} (h : zB n A) : zB n (zWs A) := zB_V h (fun i h1 h2 => zWay_b ⟨h1, h2⟩)
theorem zWs_k {A : zA} {k : Nat} {i : Int} (h : k ≠ 6) : zWs A k i = A k i := zV_k h
theorem zIr_k {A B : zA} (h : zIr A) (e : ∀ i, B 11 i = A 11 i) : zIr B := fun t t1 t2 q => by
  have q2 : 100 ≤ B 11 t ∧ B 11 t < 200 := q
  rw [e] at q2 ⊢
  exact h t t1 t2 q2
noncomputable def zfAlarm (A : zA) (n : Int) : Int × zA := if n < 1 ∨ n > 240 ∨ A 788 0 ≠ 0 then zNo A (-6) else zfPlans (zWs (zU (zU A 790 0 n) 788 0 1))
noncomputable def zfPlan (A : zA) (p : Int) : Int × zA := if A 788 0 ≠ 1 then zNo A (-6) else if p ≠ 0 ∧ 8 < zRooms A then zNo A (-7) else zfPlans (zU A 795 0 p)
noncomputable def zfGap (A : zA) : Int × zA := if A 788 0 ≠ 1 then zNo A (-6) else if 8 < zRooms A then zNo A (-7) else ((zBest A).2 - (zRule A).2, A)
noncomputable def zfBlock (A : zA) (d : Int) : Int × zA := if d < 0 ∨ A 784 0 ≤ d then zNo A (-1) else if A 788 0 = 2 ∨ A 4 d ≠ 0 then zNo A (-6) else if A 788 0 = 0 then (0, zWs (zU A 4 d 1)) else zfPlans (zWs (zU A 4 d 1))
noncomputable def zfLate (A : zA) (k n : Int) : Int × zA := if k < 0 ∨ A 786 0 ≤ k then zNo A (-1) else if n < 1 ∨ n > 60 ∨ A 788 0 ≠ 1 ∨ A 17 k ≠ -1 then zNo A (-6) else zfPlans (zU A 16 k (zFree A k + n))
noncomputable def zfDanger (A : zA) (r n : Int) : Int × zA := if ¬ (0 ≤ r ∧ r < 12) ∨ r = 0 then zNo A (-1) else if n < -1 ∨ n > 240 ∨ A 788 0 = 2 ∨ (A 788 0 = 1 ∧ n ≠ -1 ∧ n < A 789 0) then zNo A (-6) else (A 5 r, if A 788 0 = 1 then (zfPlans (zU A 5 r n)).2 else zU A 5 r n)
noncomputable def zfDoor (A : zA) (a r n : Int) : Int × zA := if ¬ (0 ≤ a ∧ a < 12) ∨ ¬ (0 ≤ r ∧ r < 12) then zNo A (-1) else if a = r ∨ n < 1 ∨ n > 9 ∨ A 788 0 ≠ 0 then zNo A (-6) else if A 784 0 = 20 then zNo A (-7) else (A 784 0, zWs (zU (zU (zU (zU A 1 (A 784 0) a) 2 (A 784 0) r) 3 (A 784 0) n) 784 0 (A 784 0 + 1)))
theorem zRule_b {A : zA} (h : zB 512 A) : 0 ≤ (zRule A).2 ∧ (zRule A).2 ≤ 1600 := by
  have b0 : 0 ≤ A 785 0 ∧ A 785 0 ≤ 16 := h 785 0
  by_cases hx : ∃ p : Int × (Int → Int), zEnum (zJb A) (fun t => -zRt A t) (A 785 0) p.1 p.2
  · have e : zRule A = zRu A (Classical.choose hx).2 (Classical.choose hx).1 := dif_pos hx
    have w := (Classical.choose_spec hx).1
    have := zRu_b (O := (Classical.choose hx).2) h (Classical.choose hx).1 w.1
    rw [e]
    omega
  · have e : zRule A = (fun _ => -1, 0) := dif_neg hx
    rw [e]
    exact ⟨Int.le_refl _, by decide⟩
theorem zBest_b {A : zA} (h : zB 512 A) : 0 ≤ (zBest A).2 ∧ (zBest A).2 ≤ 1600 := by
  by_cases hx : ∃ F, zIsB A F
  · have e : zBest A = (Classical.choose hx, zW A (Classical.choose hx)) := dif_pos hx
    rw [e]
    exact zW_b h
  · have e : zBest A = (fun _ => -1, 0) := dif_neg hx
    rw [e]
    exact ⟨Int.le_refl _, by decide⟩
set_option maxRecDepth 20000 in
set_option maxHeartbeats 4000000 in
theorem sg_M_alarm_0 {e : gE} {b : Nat} {m : Int} {Z : Int → gH → Prop} {kc ks : Nat} {G : gH} {p1 : Int} (h : (1 ≤ p1 → (p1 ≤ 240 → ((zM m G 788 0) = 0 → ∀ G7 : gH, G7 = gU G 790 (m + 0) 0 p1 → ∀ G8 : gH, G8 = gU G7 788 (m + 0) 0 1 → GX e b m m_M_ways [(2, (m + 0))] G8 0 0 (fun _ G11 => GX e b m m_M_plans [(2, (m + 0))] G11 0 0 (fun v13 G14 => Z v13 G14))))) ∧ ((p1 < 1 ∨ (1 ≤ p1 ∧ 240 < p1) ∨ (1 ≤ p1 ∧ p1 ≤ 240 ∧ (zM m G 788 0) ≠ 0)) → GX e b m m_M_no [(2, (m + 0)), (0, (-6))] G 0 0 (fun v17 G18 => Z v17 G18))) : EX e b m m_M_alarm Z kc ks 0 [(2, (m + 0)), (0, p1)] [] G := by
  obtain ⟨h, hJ15⟩ := h
  have kJ15 : (p1 < 1 ∨ (1 ≤ p1 ∧ 240 < p1) ∨ (1 ≤ p1 ∧ p1 ≤ 240 ∧ (zM m G 788 0) ≠ 0)) → EX e b m m_M_alarm Z kc ks 19 [(2, (m + 0)), (0, p1)] [] G := by
    intro rJ15
    have h := hJ15 rJ15
    refine e_aload_n d_M_alarm_19 rfl ?_
    refine e_bipush d_M_alarm_20 (by decide) (by decide) ?_
    refine EV.inv fun hFf16 => ?_
    have f16 := (fx_mt 0 rfl hFf16).1
    refine e_callV m_M_no 12 lw_good d_M_alarm_22 (k_M_no _) ⟨Nat.le_of_ble_eq_true rfl, Nat.le_of_ble_eq_true rfl⟩ w_1569 w_1571 w_s42 (q_M _) rfl f16 (args := [(0, (-6))]) rfl rfl (Nat.le_of_ble_eq_true rfl) (kc' := kc) (ks' := ks) (mc := 0) (ms := 0) rfl rfl h ?_
    intro v17 G18 h
    exact e_iret d_M_alarm_25 rfl h
  refine e_iload_n d_M_alarm_0 rfl ?_
  refine e_iconst d_M_alarm_1 (by decide) ?_
  refine e_icmp_lt (tgt := 19) d_M_alarm_2 (by decide) (fun q1 => ?_) (fun q2 => ?_)
  · exact kJ15 (Or.inl q1)
  · have h := h q2
    refine e_iload_n d_M_alarm_5 rfl ?_
    refine e_sipush d_M_alarm_6 (by decide) (by decide) ?_
    refine e_icmp_gt (tgt := 19) d_M_alarm_9 (by decide) (fun q3 => ?_) (fun q4 => ?_)
    · exact kJ15 (Or.inr (Or.inl ⟨q2, q3⟩))
    · have h := h q4
      refine e_aload_n d_M_alarm_12 rfl ?_
      refine gx_M_165 d_M_alarm_13 rfl ?_
      refine e_if_eq (tgt := 26) d_M_alarm_16 (by decide) (fun q5 => ?_) (fun q6 => ?_)
      · have h := h q5
        refine e_aload_n d_M_alarm_26 rfl ?_
        refine e_iload_n d_M_alarm_27 rfl ?_
        refine px_M_210 d_M_alarm_28 rfl ?_
        let G7 : gH := gU G 790 (m + 0) 0 p1
        have h := h G7 rfl
        refine e_aload_n d_M_alarm_31 rfl ?_
        refine e_iconst d_M_alarm_32 (by decide) ?_
        refine px_M_165 d_M_alarm_33 rfl ?_
        let G8 : gH := gU G7 788 (m + 0) 0 1
        have h := h G8 rfl
        refine e_aload_n d_M_alarm_36 rfl ?_
        refine EV.inv fun hFf9 => ?_
        have f9 := (fx_mt 0 rfl hFf9).1
        refine e_callV m_M_ways 12 lw_good d_M_alarm_37 (k_M_ways _) ⟨Nat.le_of_ble_eq_true rfl, Nat.le_of_ble_eq_true rfl⟩ w_1573 w_1575 w_s43 (q_M _) rfl f9 (args := []) rfl rfl (Nat.le_of_ble_eq_true rfl) (kc' := kc) (ks' := ks) (mc := 0) (ms := 0) rfl rfl h ?_
        intro v10 G11 h
        refine e_aload_n d_M_alarm_40 rfl ?_
        refine EV.inv fun hFf12 => ?_
        have f12 := (fx_mt 0 rfl hFf12).1
        refine e_callV m_M_plans 12 lw_good d_M_alarm_41 (k_M_plans _) ⟨Nat.le_of_ble_eq_true rfl, Nat.le_of_ble_eq_true rfl⟩ w_1616 w_1618 w_s48 (q_M _) rfl f12 (args := []) rfl rfl (Nat.le_of_ble_eq_true rfl) (kc' := kc) (ks' := ks) (mc := 0) (ms := 0) rfl rfl h ?_
        intro v13 G14 h
        exact e_iret d_M_alarm_44 rfl h
      · exact kJ15 (Or.inr (Or.inr ⟨q2, q4, q6⟩))
set_option maxRecDepth 20000 in
set_option maxHeartbeats 4000000 in
theorem sg_M_plan_0 {e : gE} {b : Nat} {m : Int} {Z : Int → gH → Prop} {kc ks : Nat} {G : gH} {p1 : Int} (h : (((zM m G 788 0) = 1 → (p1 ≠ 0 → (zT (zM m G)) ∧ (8 < (zRooms (zM m G)) → GX e b m m_M_no [(2, (m + 0)), (0, (-7))] G 0 0 (fun v10 G11 => Z v10 G11)))) ∧ ((zM m G 788 0) ≠ 1 → GX e b m m_M_no [(2, (m + 0)), (0, (-6))] G 0 0 (fun v13 G14 => Z v13 G14))) ∧ ((((zM m G 788 0) = 1 ∧ p1 = 0) ∨ ((zM m G 788 0) = 1 ∧ p1 ≠ 0 ∧ (zRooms (zM m G)) ≤ 8)) → (p1 = 0 ∨ p1 = 1) ∧ (∀ G17 : gH, G17 = gU G 795 (m + 0) 0 p1 → GX e b m m_M_plans [(2, (m + 0))] G17 0 0 (fun v19 G20 => Z v19 G20)))) : EX e b m m_M_plan Z kc ks 0 [(2, (m + 0)), (0, p1)] [] G := by
  obtain ⟨h, hJ15⟩ := h
  have kJ15 : (((zM m G 788 0) = 1 ∧ p1 = 0) ∨ ((zM m G 788 0) = 1 ∧ p1 ≠ 0 ∧ (zRooms (zM m G)) ≤ 8)) → EX e b m m_M_plan Z kc ks 35 [(2, (m + 0)), (0, p1)] [] G := by
    intro rJ15
    have h := hJ15 rJ15
    refine e_aload_n d_M_plan_35 rfl ?_
    refine e_iload_n d_M_plan_36 rfl ?_
    obtain ⟨o16, h⟩ := h
    refine px_M_243 d_M_plan_37 rfl o16 ?_
    let G17 : gH := gU G 795 (m + 0) 0 p1
    have h := h G17 rfl
    refine e_aload_n d_M_plan_40 rfl ?_
    refine EV.inv fun hFf18 => ?_
    have f18 := (fx_mt 0 rfl hFf18).1
    refine e_callV m_M_plans 12 lw_good d_M_plan_41 (k_M_plans _) ⟨Nat.le_of_ble_eq_true rfl, Nat.le_of_ble_eq_true rfl⟩ w_1616 w_1618 w_s48 (q_M _) rfl f18 (args := []) rfl rfl (Nat.le_of_ble_eq_true rfl) (kc' := kc) (ks' := ks) (mc := 0) (ms := 0) rfl rfl h ?_
    intro v19 G20 h
    exact e_iret d_M_plan_44 rfl h
  refine e_aload_n d_M_plan_0 rfl ?_
  refine gx_M_165 d_M_plan_1 rfl ?_
  refine e_iconst d_M_plan_4 (by decide) ?_
  refine e_icmp_eq (tgt := 15) d_M_plan_5 (by decide) (fun q1 => ?_) (fun q2 => ?_)
  · have h := h.1 q1
    refine e_iload_n d_M_plan_15 rfl ?_
    refine e_if_eq (tgt := 35) d_M_plan_16 (by decide) (fun q3 => ?_) (fun q4 => ?_)
    · exact kJ15 (Or.inl ⟨q1, q3⟩)
    · have h := h q4
      refine e_aload_n d_M_plan_19 rfl ?_
      refine EV.inv fun hFf5 => ?_
      have f5 := (fx_mt 0 rfl hFf5).1
      obtain ⟨o6, h⟩ := h
      refine e_callV m_M_inRooms 12 lw_good d_M_plan_20 (k_M_inRooms _) ⟨Nat.le_of_ble_eq_true rfl, Nat.le_of_ble_eq_true rfl⟩ w_1620 w_1622 w_s49 (q_M _) rfl f5 (args := []) rfl rfl (Nat.le_of_ble_eq_true rfl) (kc' := kc) (ks' := ks) (mc := 0) (ms := 0) rfl rfl (c_M_inRooms o6) (pureK ?_)
      refine e_bipush d_M_plan_23 (by decide) (by decide) ?_
      refine e_icmp_le (tgt := 35) d_M_plan_25 (by decide) (fun q7 => ?_) (fun q8 => ?_)
      · exact kJ15 (Or.inr ⟨q1, q4, q7⟩)
      · have h := h q8
        refine e_aload_n d_M_plan_28 rfl ?_
        refine e_bipush d_M_plan_29 (by decide) (by decide) ?_
        refine EV.inv fun hFf9 => ?_
        have f9 := (fx_mt 0 rfl hFf9).1
        refine e_callV m_M_no 12 lw_good d_M_plan_31 (k_M_no _) ⟨Nat.le_of_ble_eq_true rfl, Nat.le_of_ble_eq_true rfl⟩ w_1569 w_1571 w_s42 (q_M _) rfl f9 (args := [(0, (-7))]) rfl rfl (Nat.le_of_ble_eq_true rfl) (kc' := kc) (ks' := ks) (mc := 0) (ms := 0) rfl rfl h ?_
        intro v10 G11 h
        exact e_iret d_M_plan_34 rfl h
  · have h := h.2 q2
    refine e_aload_n d_M_plan_8 rfl ?_
    refine e_bipush d_M_plan_9 (by decide) (by decide) ?_
    refine EV.inv fun hFf12 => ?_
    have f12 := (fx_mt 0 rfl hFf12).1
    refine e_callV m_M_no 12 lw_good d_M_plan_11 (k_M_no _) ⟨Nat.le_of_ble_eq_true rfl, Nat.le_of_ble_eq_true rfl⟩ w_1569 w_1571 w_s42 (q_M _) rfl f12 (args := [(0, (-6))]) rfl rfl (Nat.le_of_ble_eq_true rfl) (kc' := kc) (ks' := ks) (mc := 0) (ms := 0) rfl rfl h ?_
    intro v13 G14 h
    exact e_iret d_M_plan_14 rfl h
set_option maxRecDepth 20000 in
set_option maxHeartbeats 4000000 in
theorem sg_M_gap_0 {e : gE} {b : Nat} {m : Int} {Z : Int → gH → Prop} {kc ks : Nat} {G : gH} (h : ((zM m G 788 0) = 1 → (zT (zM m G)) ∧ (((zRooms (zM m G)) ≤ 8 → GX e b m m_M_byAll [(2, (m + 0))] G 0 0 (fun v8 G9 => GX e b m m_M_byRule [(2, (m + 0))] G9 0 0 (fun v11 G12 => (inI (v8 - v11)) ∧ Z (v8 - v11) G12))) ∧ (8 < (zRooms (zM m G)) → GX e b m m_M_no [(2, (m + 0)), (0, (-7))] G 0 0 (fun v15 G16 => Z v15 G16)))) ∧ ((zM m G 788 0) ≠ 1 → GX e b m m_M_no [(2, (m + 0)), (0, (-6))] G 0 0 (fun v18 G19 => Z v18 G19))) : EX e b m m_M_gap Z kc ks 0 [(2, (m + 0)), (9, 0)] [] G := by
  refine e_aload_n d_M_gap_0 rfl ?_
  refine gx_M_165 d_M_gap_1 rfl ?_
  refine e_iconst d_M_gap_4 (by decide) ?_
  refine e_icmp_eq (tgt := 15) d_M_gap_5 (by decide) (fun q1 => ?_) (fun q2 => ?_)
  · have h := h.1 q1
    refine e_aload_n d_M_gap_15 rfl ?_
    refine EV.inv fun hFf3 => ?_
    have f3 := (fx_mt 0 rfl hFf3).1
    obtain ⟨o4, h⟩ := h
    refine e_callV m_M_inRooms 12 lw_good d_M_gap_16 (k_M_inRooms _) ⟨Nat.le_of_ble_eq_true rfl, Nat.le_of_ble_eq_true rfl⟩ w_1620 w_1622 w_s49 (q_M _) rfl f3 (args := []) rfl rfl (Nat.le_of_ble_eq_true rfl) (kc' := kc) (ks' := ks) (mc := 0) (ms := 0) rfl rfl (c_M_inRooms o4) (pureK ?_)
    refine e_bipush d_M_gap_19 (by decide) (by decide) ?_
    refine e_icmp_le (tgt := 31) d_M_gap_21 (by decide) (fun q5 => ?_) (fun q6 => ?_)
    · have h := h.1 q5
      refine e_aload_n d_M_gap_31 rfl ?_
      refine EV.inv fun hFf7 => ?_
      have f7 := (fx_mt 0 rfl hFf7).1
      refine e_callV m_M_byAll 12 lw_good d_M_gap_32 (k_M_byAll _) ⟨Nat.le_of_ble_eq_true rfl, Nat.le_of_ble_eq_true rfl⟩ w_1628 w_1630 w_s51 (q_M _) rfl f7 (args := []) rfl rfl (Nat.le_of_ble_eq_true rfl) (kc' := kc) (ks' := ks) (mc := 0) (ms := 0) rfl rfl h ?_
      intro v8 G9 h
      refine e_istore_n (ls' := [(2, (m + 0)), (0, v8)]) d_M_gap_35 (by decide) rfl ?_
      refine e_iload_n d_M_gap_36 rfl ?_
      refine e_aload_n d_M_gap_37 rfl ?_
      refine EV.inv fun hFf10 => ?_
      have f10 := (fx_mt 0 rfl hFf10).1
      refine e_callV m_M_byRule 12 lw_good d_M_gap_38 (k_M_byRule _) ⟨Nat.le_of_ble_eq_true rfl, Nat.le_of_ble_eq_true rfl⟩ w_1664 w_1666 w_s60 (q_M _) rfl f10 (args := []) rfl rfl (Nat.le_of_ble_eq_true rfl) (kc' := kc) (ks' := ks) (mc := 0) (ms := 0) rfl rfl h ?_
      intro v11 G12 h
      obtain ⟨o13, h⟩ := h
      refine e_isub d_M_gap_41 o13 ?_
      exact e_iret d_M_gap_42 rfl h
    · have h := h.2 q6
      refine e_aload_n d_M_gap_24 rfl ?_
      refine e_bipush d_M_gap_25 (by decide) (by decide) ?_
      refine EV.inv fun hFf14 => ?_
      have f14 := (fx_mt 0 rfl hFf14).1
      refine e_callV m_M_no 12 lw_good d_M_gap_27 (k_M_no _) ⟨Nat.le_of_ble_eq_true rfl, Nat.le_of_ble_eq_true rfl⟩ w_1569 w_1571 w_s42 (q_M _) rfl f14 (args := [(0, (-7))]) rfl rfl (Nat.le_of_ble_eq_true rfl) (kc' := kc) (ks' := ks) (mc := 0) (ms := 0) rfl rfl h ?_
      intro v15 G16 h
      exact e_iret d_M_gap_30 rfl h
  · have h := h.2 q2
    refine e_aload_n d_M_gap_8 rfl ?_
    refine e_bipush d_M_gap_9 (by decide) (by decide) ?_
    refine EV.inv fun hFf17 => ?_
    have f17 := (fx_mt 0 rfl hFf17).1
    refine e_callV m_M_no 12 lw_good d_M_gap_11 (k_M_no _) ⟨Nat.le_of_ble_eq_true rfl, Nat.le_of_ble_eq_true rfl⟩ w_1569 w_1571 w_s42 (q_M _) rfl f17 (args := [(0, (-6))]) rfl rfl (Nat.le_of_ble_eq_true rfl) (kc' := kc) (ks' := ks) (mc := 0) (ms := 0) rfl rfl h ?_
    intro v18 G19 h
    exact e_iret d_M_gap_14 rfl h
set_option maxRecDepth 20000 in
set_option maxHeartbeats 4000000 in
theorem sg_M_late_0 {e : gE} {b : Nat} {m : Int} {Z : Int → gH → Prop} {kc ks : Nat} {G : gH} {p1 p2 : Int} (h : (0 ≤ p1 → (p1 < (zM m G 786 0) → (1 ≤ p2 → (p2 ≤ 60 → ((zM m G 788 0) = 1 → (0 ≤ p1 ∧ p1 < 3) ∧ ((zM m G 17 p1) = (-1) → (inI ((zFree (zM m G) p1) + p2)) ∧ (∀ G16 : gH, G16 = gU G 1 (m + 16) p1 ((zFree (zM m G) p1) + p2) → GX e b m m_M_plans [(2, (m + 0))] G16 0 0 (fun v18 G19 => Z v18 G19)))))))) ∧ ((p1 < 0 ∨ (0 ≤ p1 ∧ (zM m G 786 0) ≤ p1)) → GX e b m m_M_no [(2, (m + 0)), (0, (-1))] G 0 0 (fun v22 G23 => Z v22 G23)) ∧ (((0 ≤ p1 ∧ p1 < (zM m G 786 0) ∧ p2 < 1) ∨ (0 ≤ p1 ∧ p1 < (zM m G 786 0) ∧ 1 ≤ p2 ∧ 60 < p2) ∨ (0 ≤ p1 ∧ p1 < (zM m G 786 0) ∧ 1 ≤ p2 ∧ p2 ≤ 60 ∧ (zM m G 788 0) ≠ 1) ∨ (0 ≤ p1 ∧ p1 < (zM m G 786 0) ∧ 1 ≤ p2 ∧ p2 ≤ 60 ∧ (zM m G 788 0) = 1 ∧ (zM m G 17 p1) ≠ (-1))) → GX e b m m_M_no [(2, (m + 0)), (0, (-6))] G 0 0 (fun v26 G27 => Z v26 G27))) : EX e b m m_M_late Z kc ks 0 [(2, (m + 0)), (0, p1), (0, p2)] [] G := by
  obtain ⟨h, hJ20, hJ24⟩ := h
  have kJ24 : ((0 ≤ p1 ∧ p1 < (zM m G 786 0) ∧ p2 < 1) ∨ (0 ≤ p1 ∧ p1 < (zM m G 786 0) ∧ 1 ≤ p2 ∧ 60 < p2) ∨ (0 ≤ p1 ∧ p1 < (zM m G 786 0) ∧ 1 ≤ p2 ∧ p2 ≤ 60 ∧ (zM m G 788 0) ≠ 1) ∨ (0 ≤ p1 ∧ p1 < (zM m G 786 0) ∧ 1 ≤ p2 ∧ p2 ≤ 60 ∧ (zM m G 788 0) = 1 ∧ (zM m G 17 p1) ≠ (-1))) → EX e b m m_M_late Z kc ks 47 [(2, (m + 0)), (0, p1), (0, p2)] [] G := by
    intro rJ24
    have h := hJ24 rJ24
    refine e_aload_n d_M_late_47 rfl ?_
    refine e_bipush d_M_late_48 (by decide) (by decide) ?_
    refine EV.inv fun hFf25 => ?_
    have f25 := (fx_mt 0 rfl hFf25).1
    refine e_callV m_M_no 12 lw_good d_M_late_50 (k_M_no _) ⟨Nat.le_of_ble_eq_true rfl, Nat.le_of_ble_eq_true rfl⟩ w_1569 w_1571 w_s42 (q_M _) rfl f25 (args := [(0, (-6))]) rfl rfl (Nat.le_of_ble_eq_true rfl) (kc' := kc) (ks' := ks) (mc := 0) (ms := 0) rfl rfl h ?_
    intro v26 G27 h
    exact e_iret d_M_late_53 rfl h
  have kJ20 : (p1 < 0 ∨ (0 ≤ p1 ∧ (zM m G 786 0) ≤ p1)) → EX e b m m_M_late Z kc ks 12 [(2, (m + 0)), (0, p1), (0, p2)] [] G := by
    intro rJ20
    have h := hJ20 rJ20
    refine e_aload_n d_M_late_12 rfl ?_
    refine e_iconst d_M_late_13 (by decide) ?_
    refine EV.inv fun hFf21 => ?_
    have f21 := (fx_mt 0 rfl hFf21).1
    refine e_callV m_M_no 12 lw_good d_M_late_14 (k_M_no _) ⟨Nat.le_of_ble_eq_true rfl, Nat.le_of_ble_eq_true rfl⟩ w_1569 w_1571 w_s42 (q_M _) rfl f21 (args := [(0, (-1))]) rfl rfl (Nat.le_of_ble_eq_true rfl) (kc' := kc) (ks' := ks) (mc := 0) (ms := 0) rfl rfl h ?_
    intro v22 G23 h
    exact e_iret d_M_late_17 rfl h
  refine e_iload_n d_M_late_0 rfl ?_
  refine e_if_lt (tgt := 12) d_M_late_1 (by decide) (fun q1 => ?_) (fun q2 => ?_)
  · exact kJ20 (Or.inl q1)
  · have h := h q2
    refine e_iload_n d_M_late_4 rfl ?_
    refine e_aload_n d_M_late_5 rfl ?_
    refine gx_M_174 d_M_late_6 rfl ?_
    refine e_icmp_lt (tgt := 18) d_M_late_9 (by decide) (fun q3 => ?_) (fun q4 => ?_)
    · have h := h q3
      refine e_iload_n d_M_late_18 rfl ?_
      refine e_iconst d_M_late_19 (by decide) ?_
      refine e_icmp_lt (tgt := 47) d_M_late_20 (by decide) (fun q5 => ?_) (fun q6 => ?_)
      · exact kJ24 (Or.inl ⟨q2, q3, q5⟩)
      · have h := h q6
        refine e_iload_n d_M_late_23 rfl ?_
        refine e_bipush d_M_late_24 (by decide) (by decide) ?_
        refine e_icmp_gt (tgt := 47) d_M_late_26 (by decide) (fun q7 => ?_) (fun q8 => ?_)
        · exact kJ24 (Or.inr (Or.inl ⟨q2, q3, q6, q7⟩))
        · have h := h q8
          refine e_aload_n d_M_late_29 rfl ?_
          refine gx_M_165 d_M_late_30 rfl ?_
          refine e_iconst d_M_late_33 (by decide) ?_
          refine e_icmp_ne (tgt := 47) d_M_late_34 (by decide) (fun q9 => ?_) (fun q10 => ?_)
          · exact kJ24 (Or.inr (Or.inr (Or.inl ⟨q2, q3, q6, q8, q9⟩)))
          · have h := h q10
            refine e_aload_n d_M_late_37 rfl ?_
            refine gx_M_63 d_M_late_38 rfl ?_
            refine e_iload_n d_M_late_41 rfl ?_
            obtain ⟨o11, h⟩ := h
            refine xM_iald 17 rfl d_M_late_42 o11 ?_
            refine e_iconst d_M_late_43 (by decide) ?_
            refine e_icmp_eq (tgt := 54) d_M_late_44 (by decide) (fun q12 => ?_) (fun q13 => ?_)
            · have h := h q12
              refine e_aload_n d_M_late_54 rfl ?_
              refine gx_M_60 d_M_late_55 rfl ?_
              refine e_iload_n d_M_late_58 rfl ?_
              refine e_aload_n d_M_late_59 rfl ?_
              refine e_iload_n d_M_late_60 rfl ?_
              refine EV.inv fun hFf14 => ?_
              have f14 := (fx_mt 0 rfl hFf14).1
              refine e_callV m_M_freeOf 12 lw_good d_M_late_61 (k_M_freeOf _) ⟨Nat.le_of_ble_eq_true rfl, Nat.le_of_ble_eq_true rfl⟩ w_1660 w_1662 w_s59 (q_M _) rfl f14 (args := [(0, p1)]) rfl rfl (Nat.le_of_ble_eq_true rfl) (kc' := kc) (ks' := ks) (mc := 0) (ms := 0) rfl rfl (c_M_freeOf o11) (pureK ?_)
              refine e_iload_n d_M_late_64 rfl ?_
              obtain ⟨o15, h⟩ := h
              refine e_iadd d_M_late_65 o15 ?_
              refine xM_iast 16 rfl d_M_late_66 o11 ?_
              let G16 : gH := gU G 1 (m + 16) p1 ((zFree (zM m G) p1) + p2)
              have h := h G16 rfl
              refine e_aload_n d_M_late_67 rfl ?_
              refine EV.inv fun hFf17 => ?_
              have f17 := (fx_mt 0 rfl hFf17).1
              refine e_callV m_M_plans 12 lw_good d_M_late_68 (k_M_plans _) ⟨Nat.le_of_ble_eq_true rfl, Nat.le_of_ble_eq_true rfl⟩ w_1616 w_1618 w_s48 (q_M _) rfl f17 (args := []) rfl rfl (Nat.le_of_ble_eq_true rfl) (kc' := kc) (ks' := ks) (mc := 0) (ms := 0) rfl rfl h ?_
              intro v18 G19 h
              exact e_iret d_M_late_71 rfl h
            · exact kJ24 (Or.inr (Or.inr (Or.inr ⟨q2, q3, q6, q8, q10, q13⟩)))
    · exact kJ20 (Or.inr ⟨q2, q4⟩)
set_option maxRecDepth 20000 in
set_option maxHeartbeats 4000000 in
theorem sg_M_danger_0 {e : gE} {b : Nat} {m : Int} {Z : Int → gH → Prop} {kc ks : Nat} {G : gH} {p1 p2 : Int} (h : ((((¬ (0 ≤ p1 ∧ p1 < 12))) ∨ ((0 ≤ p1 ∧ p1 < 12) ∧ p1 = 0)) → GX e b m m_M_no [(2, (m + 0)), (0, (-1))] G 0 0 (fun v19 G20 => Z v19 G20)) ∧ ((((0 ≤ p1 ∧ p1 < 12) ∧ p1 ≠ 0 ∧ p2 < (-1)) ∨ ((0 ≤ p1 ∧ p1 < 12) ∧ p1 ≠ 0 ∧ (-1) ≤ p2 ∧ 240 < p2) ∨ ((0 ≤ p1 ∧ p1 < 12) ∧ p1 ≠ 0 ∧ (-1) ≤ p2 ∧ p2 ≤ 240 ∧ (zM m G 788 0) = 2) ∨ ((0 ≤ p1 ∧ p1 < 12) ∧ p1 ≠ 0 ∧ (-1) ≤ p2 ∧ p2 ≤ 240 ∧ (zM m G 788 0) ≠ 2 ∧ (zM m G 788 0) = 1 ∧ p2 ≠ (-1) ∧ p2 < (zM m G 789 0))) → GX e b m m_M_no [(2, (m + 0)), (0, (-6))] G 0 0 (fun v23 G24 => Z v23 G24)) ∧ ((((0 ≤ p1 ∧ p1 < 12) ∧ p1 ≠ 0 ∧ (-1) ≤ p2 ∧ p2 ≤ 240 ∧ (zM m G 788 0) ≠ 2 ∧ (zM m G 788 0) ≠ 1) ∨ ((0 ≤ p1 ∧ p1 < 12) ∧ p1 ≠ 0 ∧ (-1) ≤ p2 ∧ p2 ≤ 240 ∧ (zM m G 788 0) ≠ 2 ∧ (zM m G 788 0) = 1 ∧ p2 = (-1)) ∨ ((0 ≤ p1 ∧ p1 < 12) ∧ p1 ≠ 0 ∧ (-1) ≤ p2 ∧ p2 ≤ 240 ∧ (zM m G 788 0) ≠ 2 ∧ (zM m G 788 0) = 1 ∧ p2 ≠ (-1) ∧ (zM m G 789 0) ≤ p2)) → (0 ≤ p1 ∧ p1 < 12) ∧ (∀ G27 : gH, G27 = gU G 1 (m + 5) p1 p2 → ((zM m G 788 0) ≠ 1 → Z (zM m G 5 p1) G27) ∧ ((zM m G 788 0) = 1 → GX e b m m_M_plans [(2, (m + 0))] G27 0 0 (fun v31 G32 => Z (zM m G 5 p1) G32))))) : EX e b m m_M_danger Z kc ks 0 [(2, (m + 0)), (0, p1), (0, p2), (9, 0)] [] G := by
  obtain ⟨hJ17, hJ21, hJ25⟩ := h
  have kJ25 : (((0 ≤ p1 ∧ p1 < 12) ∧ p1 ≠ 0 ∧ (-1) ≤ p2 ∧ p2 ≤ 240 ∧ (zM m G 788 0) ≠ 2 ∧ (zM m G 788 0) ≠ 1) ∨ ((0 ≤ p1 ∧ p1 < 12) ∧ p1 ≠ 0 ∧ (-1) ≤ p2 ∧ p2 ≤ 240 ∧ (zM m G 788 0) ≠ 2 ∧ (zM m G 788 0) = 1 ∧ p2 = (-1)) ∨ ((0 ≤ p1 ∧ p1 < 12) ∧ p1 ≠ 0 ∧ (-1) ≤ p2 ∧ p2 ≤ 240 ∧ (zM m G 788 0) ≠ 2 ∧ (zM m G 788 0) = 1 ∧ p2 ≠ (-1) ∧ (zM m G 789 0) ≤ p2)) → EX e b m m_M_danger Z kc ks 65 [(2, (m + 0)), (0, p1), (0, p2), (9, 0)] [] G := by
    intro rJ25
    have h := hJ25 rJ25
    refine e_aload_n d_M_danger_65 rfl ?_
    refine gx_M_27 d_M_danger_66 rfl ?_
    refine e_iload_n d_M_danger_69 rfl ?_
    obtain ⟨o26, h⟩ := h
    refine xM_iald 5 rfl d_M_danger_70 o26 ?_
    refine e_istore_n (ls' := [(2, (m + 0)), (0, p1), (0, p2), (0, (zM m G 5 p1))]) d_M_danger_71 (by decide) rfl ?_
    refine e_aload_n d_M_danger_72 rfl ?_
    refine gx_M_27 d_M_danger_73 rfl ?_
    refine e_iload_n d_M_danger_76 rfl ?_
    refine e_iload_n d_M_danger_77 rfl ?_
    refine xM_iast 5 rfl d_M_danger_78 o26 ?_
    let G27 : gH := gU G 1 (m + 5) p1 p2
    have h := h G27 rfl
    refine e_aload_n d_M_danger_79 rfl ?_
    refine gx_M_165 d_M_danger_80 rfl ?_
    refine e_iconst d_M_danger_83 (by decide) ?_
    refine e_icmp_ne (tgt := 92) d_M_danger_84 (by decide) (fun q28 => ?_) (fun q29 => ?_)
    · have h := h.1 q28
      refine e_iload_n d_M_danger_92 rfl ?_
      exact e_iret d_M_danger_93 rfl h
    · have h := h.2 q29
      refine e_aload_n d_M_danger_87 rfl ?_
      refine EV.inv fun hFf30 => ?_
      have f30 := (fx_mt 0 rfl hFf30).1
      refine e_callV m_M_plans 12 lw_good d_M_danger_88 (k_M_plans _) ⟨Nat.le_of_ble_eq_true rfl, Nat.le_of_ble_eq_true rfl⟩ w_1616 w_1618 w_s48 (q_M _) rfl f30 (args := []) rfl rfl (Nat.le_of_ble_eq_true rfl) (kc' := kc) (ks' := ks) (mc := 0) (ms := 0) rfl rfl h ?_
      intro v31 G32 h
      refine e_pop d_M_danger_91 (by simp) ?_
      refine e_iload_n d_M_danger_92 rfl ?_
      exact e_iret d_M_danger_93 rfl h
  have kJ21 : (((0 ≤ p1 ∧ p1 < 12) ∧ p1 ≠ 0 ∧ p2 < (-1)) ∨ ((0 ≤ p1 ∧ p1 < 12) ∧ p1 ≠ 0 ∧ (-1) ≤ p2 ∧ 240 < p2) ∨ ((0 ≤ p1 ∧ p1 < 12) ∧ p1 ≠ 0 ∧ (-1) ≤ p2 ∧ p2 ≤ 240 ∧ (zM m G 788 0) = 2) ∨ ((0 ≤ p1 ∧ p1 < 12) ∧ p1 ≠ 0 ∧ (-1) ≤ p2 ∧ p2 ≤ 240 ∧ (zM m G 788 0) ≠ 2 ∧ (zM m G 788 0) = 1 ∧ p2 ≠ (-1) ∧ p2 < (zM m G 789 0))) → EX e b m m_M_danger Z kc ks 58 [(2, (m + 0)), (0, p1), (0, p2), (9, 0)] [] G := by
    intro rJ21
    have h := hJ21 rJ21
    refine e_aload_n d_M_danger_58 rfl ?_
    refine e_bipush d_M_danger_59 (by decide) (by decide) ?_
    refine EV.inv fun hFf22 => ?_
    have f22 := (fx_mt 0 rfl hFf22).1
    refine e_callV m_M_no 12 lw_good d_M_danger_61 (k_M_no _) ⟨Nat.le_of_ble_eq_true rfl, Nat.le_of_ble_eq_true rfl⟩ w_1569 w_1571 w_s42 (q_M _) rfl f22 (args := [(0, (-6))]) rfl rfl (Nat.le_of_ble_eq_true rfl) (kc' := kc) (ks' := ks) (mc := 0) (ms := 0) rfl rfl h ?_
    intro v23 G24 h
    exact e_iret d_M_danger_64 rfl h
  have kJ17 : (((¬ (0 ≤ p1 ∧ p1 < 12))) ∨ ((0 ≤ p1 ∧ p1 < 12) ∧ p1 = 0)) → EX e b m m_M_danger Z kc ks 11 [(2, (m + 0)), (0, p1), (0, p2), (9, 0)] [] G := by
    intro rJ17
    have h := hJ17 rJ17
    refine e_aload_n d_M_danger_11 rfl ?_
    refine e_iconst d_M_danger_12 (by decide) ?_
    refine EV.inv fun hFf18 => ?_
    have f18 := (fx_mt 0 rfl hFf18).1
    refine e_callV m_M_no 12 lw_good d_M_danger_13 (k_M_no _) ⟨Nat.le_of_ble_eq_true rfl, Nat.le_of_ble_eq_true rfl⟩ w_1569 w_1571 w_s42 (q_M _) rfl f18 (args := [(0, (-1))]) rfl rfl (Nat.le_of_ble_eq_true rfl) (kc' := kc) (ks' := ks) (mc := 0) (ms := 0) rfl rfl h ?_
    intro v19 G20 h
    exact e_iret d_M_danger_16 rfl h
  refine e_iload_n d_M_danger_0 rfl ?_
  refine e_callS m_M_isRoom lw_good d_M_danger_1 (k_M_isRoom _) ⟨Nat.le_of_ble_eq_true rfl, Nat.le_of_ble_eq_true rfl⟩ w_1566 w_1567 (args := [(0, p1)]) rfl rfl (Nat.le_of_ble_eq_true rfl) (kc' := kc) (ks' := ks) (mc := 0) (ms := 0) rfl rfl (c_M_isRoom) (pureK ?_)
  refine e_if_eq (tgt := 11) d_M_danger_4 (by decide) (fun q1 => ?_) (fun q2 => ?_)
  · replace q1 := gb0.mp q1
    exact kJ17 (Or.inl q1)
  · replace q2 := gb1.mp q2
    refine e_iload_n d_M_danger_7 rfl ?_
    refine e_if_ne (tgt := 17) d_M_danger_8 (by decide) (fun q3 => ?_) (fun q4 => ?_)
    · refine e_iload_n d_M_danger_17 rfl ?_
      refine e_iconst d_M_danger_18 (by decide) ?_
      refine e_icmp_lt (tgt := 58) d_M_danger_19 (by decide) (fun q5 => ?_) (fun q6 => ?_)
      · exact kJ21 (Or.inl ⟨q2, q3, q5⟩)
      · refine e_iload_n d_M_danger_22 rfl ?_
        refine e_sipush d_M_danger_23 (by decide) (by decide) ?_
        refine e_icmp_gt (tgt := 58) d_M_danger_26 (by decide) (fun q7 => ?_) (fun q8 => ?_)
        · exact kJ21 (Or.inr (Or.inl ⟨q2, q3, q6, q7⟩))
        · refine e_aload_n d_M_danger_29 rfl ?_
          refine gx_M_165 d_M_danger_30 rfl ?_
          refine e_iconst d_M_danger_33 (by decide) ?_
          refine e_icmp_eq (tgt := 58) d_M_danger_34 (by decide) (fun q9 => ?_) (fun q10 => ?_)
          · exact kJ21 (Or.inr (Or.inr (Or.inl ⟨q2, q3, q6, q8, q9⟩)))
          · refine e_aload_n d_M_danger_37 rfl ?_
            refine gx_M_165 d_M_danger_38 rfl ?_
            refine e_iconst d_M_danger_41 (by decide) ?_
            refine e_icmp_ne (tgt := 65) d_M_danger_42 (by decide) (fun q11 => ?_) (fun q12 => ?_)
            · exact kJ25 (Or.inl ⟨q2, q3, q6, q8, q10, q11⟩)
            · refine e_iload_n d_M_danger_45 rfl ?_
              refine e_iconst d_M_danger_46 (by decide) ?_
              refine e_icmp_eq (tgt := 65) d_M_danger_47 (by decide) (fun q13 => ?_) (fun q14 => ?_)
              · exact kJ25 (Or.inr (Or.inl ⟨q2, q3, q6, q8, q10, q12, q13⟩))
              · refine e_iload_n d_M_danger_50 rfl ?_
                refine e_aload_n d_M_danger_51 rfl ?_
                refine gx_M_197 d_M_danger_52 rfl ?_
                refine e_icmp_ge (tgt := 65) d_M_danger_55 (by decide) (fun q15 => ?_) (fun q16 => ?_)
                · exact kJ25 (Or.inr (Or.inr ⟨q2, q3, q6, q8, q10, q12, q14, q15⟩))
                · exact kJ21 (Or.inr (Or.inr (Or.inr ⟨q2, q3, q6, q8, q10, q12, q14, q16⟩)))
    · exact kJ17 (Or.inr ⟨q2, q4⟩)
theorem c_M_alarm {e : gE} {b : Nat} {m : Int} {G : gH} {p1 : Int} (h : zB 512 (zM m G)) (hI : zIr (zM m G)) : GX e b m m_M_alarm [(2, (m + 0)), (0, p1)] G 0 0 (zQ m G (zfAlarm (zM m G) p1)) := by
  refine GM.ofEV (by decide) (Nat.le_of_ble_eq_true rfl) (sg_M_alarm_0 ⟨fun q1 q2 q3 => ?_, fun q => ?_⟩)
  · rintro _ rfl _ rfl
    unfold zfAlarm
    rw [if_neg (by omega)]
    have e1 : zM m (gU (gU G 790 (m + 0) 0 p1) 788 (m + 0) 0 1) = zU (zU (zM m G) 790 0 p1) 788 0 1 := by rw [zM_u788, zM_u790]
    have hB1 : zB 512 (zU (zU (zM m G) 790 0 p1) 788 0 1) := zB_u (zB_u h (by show 0 ≤ p1 ∧ p1 ≤ 240; omega)) (by decide)
    refine GM.mono (c_M_ways (by rw [e1]; exact hB1)) ?_
    rintro v G1 ⟨k1, k2⟩
    rw [e1] at k1
    refine GM.mono (c_M_plans (by rw [k1]; exact zB_Ws hB1) (by rw [k1]; exact zIr_k hI (fun i => by rw [zWs_k (by decide), zU_k (by decide), zU_k (by decide)]))) ?_
    intro v2 G2 h2
    rw [k1] at h2
    exact zQ_t (zC_t (zC_u (zC_u zC_r (by decide)) (by decide)) k2) h2
  · unfold zfAlarm
    rw [if_pos (by omega)]
    exact c_M_no h (by decide)
theorem c_M_plan {e : gE} {b : Nat} {m : Int} {G : gH} {p1 : Int} (h : zB 512 (zM m G)) (hI : zIr (zM m G)) (hp : p1 = 0 ∨ p1 = 1) : GX e b m m_M_plan [(2, (m + 0)), (0, p1)] G 0 0 (zQ m G (zfPlan (zM m G) p1)) := by
  have b0 : 0 ≤ zM m G 785 0 ∧ zM m G 785 0 ≤ 16 := h 785 0
  refine GM.ofEV (by decide) (Nat.le_of_ble_eq_true rfl) (sg_M_plan_0 ⟨⟨fun q1 q2 => ⟨b0, fun q3 => ?_⟩, fun q => ?_⟩, fun q => ⟨hp, ?_⟩⟩)
  · unfold zfPlan
    rw [if_neg (by omega), if_pos ⟨q2, q3⟩]
    exact c_M_no h (by decide)
  · unfold zfPlan
    rw [if_pos q]
    exact c_M_no h (by decide)
  · rintro _ rfl
    unfold zfPlan
    rw [if_neg (by omega), if_neg (by omega)]
    have e1 : zM m (gU G 795 (m + 0) 0 p1) = zU (zM m G) 795 0 p1 := zM_u795
    refine GM.mono (c_M_plans (by rw [e1]; exact zB_u h (by show 0 ≤ p1 ∧ p1 ≤ 1; omega)) (by rw [e1]; exact zIr_k hI (fun i => zU_k (by decide)))) ?_
    intro v2 G2 h2
    rw [e1] at h2
    exact zQ_t (zC_u zC_r (by decide)) h2
theorem c_M_gap {e : gE} {b : Nat} {m : Int} {G : gH} (h : zB 512 (zM m G)) (hI : zIr (zM m G)) : GX e b m m_M_gap [(2, (m + 0))] G 0 0 (zQ m G (zfGap (zM m G))) := by
  have b0 : 0 ≤ zM m G 785 0 ∧ zM m G 785 0 ≤ 16 := h 785 0
  have bb := zBest_b h
  have br := zRule_b h
  refine GM.ofEV (by decide) (Nat.le_of_ble_eq_true rfl) (sg_M_gap_0 ⟨fun q1 => ⟨b0, fun q2 => ?_, fun q2 => ?_⟩, fun q => ?_⟩)
  · unfold zfGap
    rw [if_neg (by omega), if_neg (by omega)]
    refine GM.mono (c_M_byAll h hI) ?_
    rintro v G1 ⟨k1, k2, k3, k4⟩
    refine GM.mono (c_M_byRule (by rw [k3]; exact h) (by rw [k3]; exact hI)) ?_
    rintro v2 G2 ⟨l1, l2, l3, l4⟩
    rw [k3] at l1 l3
    subst k1
    subst l1
    exact ⟨by omega, rfl, l3, zC_t k4 l4⟩
  · unfold zfGap
    rw [if_neg (by omega), if_pos q2]
    exact c_M_no h (by decide)
  · unfold zfGap
    rw [if_pos q]
    exact c_M_no h (by decide)
theorem c_M_block {e : gE} {b : Nat} {m : Int} {G : gH} {p1 : Int} (h : zB 512 (zM m G)) (hI : zIr (zM m G)) : GX e b m m_M_block [(2, (m + 0)), (0, p1)] G 0 0 (zQ m G (zfBlock (zM m G) p1)) := by
  have b0 : 0 ≤ zM m G 784 0 ∧ zM m G 784 0 ≤ 20 := h 784 0
  refine GM.ofEV (by decide) (Nat.le_of_ble_eq_true rfl) (sg_M_block_0 ⟨fun q1 q2 q3 => ⟨by omega, fun q4 => ?_⟩, fun q => ?_, fun q => ?_⟩)
  · rintro _ rfl
    have e1 : zM m (gU G 1 (m + 4) p1 1) = zU (zM m G) 4 p1 1 := zM_u4
    have hB1 : zB 512 (zU (zM m G) 4 p1 1) := zB_u h (by decide)
    refine GM.mono (c_M_ways (by rw [e1]; exact hB1)) ?_
    rintro v G1 ⟨k1, k2⟩
    rw [e1] at k1
    have e2 : zM m G1 788 0 = zM m G 788 0 := by rw [k1, zWs_k (by decide), zU_k (by decide)]
    have k3 := zC_t (zC_u (c := 1) (j := p1) (v := 1) zC_r (by decide)) k2
    rw [e2]
    unfold zfBlock
    rw [if_neg (by omega), if_neg (by omega)]
    refine ⟨fun q5 => ?_, fun q5 => ?_⟩
    · rw [if_neg q5]
      refine GM.mono (c_M_plans (by rw [k1]; exact zB_Ws hB1) (by rw [k1]; exact zIr_k hI (fun i => by rw [zWs_k (by decide), zU_k (by decide)]))) ?_
      intro v2 G2 h2
      rw [k1] at h2
      exact zQ_t k3 h2
    · rw [if_pos q5]
      exact ⟨rfl, k1, k3⟩
  · unfold zfBlock
    rw [if_pos (by omega)]
    exact c_M_no h (by decide)
  · unfold zfBlock
    rw [if_neg (by omega), if_pos (by omega)]
    exact c_M_no h (by decide)
theorem zFree_n {n : Int} {A : zA} (h : zB n A) (hn : 0 ≤ n) (k : Int) : 0 ≤ zFree A k ∧ zFree A k ≤ 500 + 60 * n := by
  have h1 : 0 ≤ A 16 k ∧ A 16 k ≤ 500 + 60 * n := h 16 k
  have h2 : 0 ≤ A 789 0 ∧ A 789 0 ≤ 240 := h 789 0
  unfold zFree
  split <;> omega
theorem c_M_late {e : gE} {b : Nat} {m : Int} {G : gH} {p1 p2 : Int} (h : zB 511 (zM m G)) (hI : zIr (zM m G)) : GX e b m m_M_late [(2, (m + 0)), (0, p1), (0, p2)] G 0 0 (zQ m G (zfLate (zM m G) p1 p2)) := by
  have h5 := zB_mono h (show (511 : Int) ≤ 512 by decide)
  have b0 : 0 ≤ zM m G 786 0 ∧ zM m G 786 0 ≤ 3 := h 786 0
  have bf := zFree_n h (by decide) p1
  refine GM.ofEV (by decide) (Nat.le_of_ble_eq_true rfl) (sg_M_late_0 ⟨fun q1 q2 q3 q4 q5 => ⟨by omega, fun q6 => ⟨by omega, ?_⟩⟩, fun q => ?_, fun q => ?_⟩)
  · rintro _ rfl
    unfold zfLate
    rw [if_neg (by omega), if_neg (by omega)]
    have e1 : zM m (gU G 1 (m + 16) p1 (zFree (zM m G) p1 + p2)) = zU (zM m G) 16 p1 (zFree (zM m G) p1 + p2) := zM_u16
    refine GM.mono (c_M_plans (by rw [e1]; exact zB_u h5 (by show 0 ≤ zFree (zM m G) p1 + p2 ∧ zFree (zM m G) p1 + p2 ≤ 500 + 60 * 512; omega)) (by rw [e1]; exact zIr_k hI (fun i => zU_k (by decide)))) ?_
    intro v2 G2 h2
    rw [e1] at h2
    exact zQ_t (zC_u zC_r (by decide)) h2
  · unfold zfLate
    rw [if_pos (by omega)]
    exact c_M_no h5 (by decide)
  · unfold zfLate
    rw [if_neg (by omega), if_pos (by omega)]
    exact c_M_no h5 (by decide)
theorem c_M_danger {e : gE} {b : Nat} {m : Int} {G : gH} {p1 p2 : Int} (h : zB 512 (zM m G)) (hI : zIr (zM m G)) : GX e b m m_M_danger [(2, (m + 0)), (0, p1), (0, p2)] G 0 0 (zQ m G (zfDanger (zM m G) p1 p2)) := by
  refine GM.ofEV (by decide) (Nat.le_of_ble_eq_true rfl) (sg_M_danger_0 ⟨fun q => ?_, fun q => ?_, fun q => ⟨by omega, ?_⟩⟩)
  · unfold zfDanger
    rw [if_pos (by omega)]
    exact c_M_no h (by decide)
  · unfold zfDanger
    rw [if_neg (by omega), if_pos (by omega)]
    exact c_M_no h (by decide)
  · rintro _ rfl
    unfold zfDanger
    rw [if_neg (by omega), if_neg (by omega)]
    have e1 : zM m (gU G 1 (m + 5) p1 p2) = zU (zM m G) 5 p1 p2 := zM_u5
    refine ⟨fun q2 => ?_, fun q2 => ?_⟩
    · rw [if_neg q2]
      exact ⟨rfl, e1, zC_u zC_r (by decide)⟩
    · rw [if_pos q2]
      refine GM.mono (c_M_plans (by rw [e1]; exact zB_u h (by show -1 ≤ p2 ∧ p2 ≤ 240; omega)) (by rw [e1]; exact zIr_k hI (fun i => zU_k (by decide)))) ?_
      intro v2 G2 h2
      rw [e1] at h2
      exact ⟨rfl, h2.2.1, zC_t (zC_u zC_r (by decide)) h2.2.2⟩
theorem c_M_door {e : gE} {b : Nat} {m : Int} {G : gH} {p1 p2 p3 : Int} (h : zB 512 (zM m G)) : GX e b m m_M_door [(2, (m + 0)), (0, p1), (0, p2), (0, p3)] G 0 0 (zQ m G (zfDoor (zM m G) p1 p2 p3)) := by
  have b0 : 0 ≤ zM m G 784 0 ∧ zM m G 784 0 ≤ 20 := h 784 0
  refine GM.ofEV (by decide) (Nat.le_of_ble_eq_true rfl) (sg_M_door_0 ⟨fun q1 q2 q3 q4 q5 q6 => ⟨fun q7 => ⟨by omega, ?_⟩, fun q7 => ?_⟩, fun q => ?_, fun q => ?_⟩)
  · rintro _ rfl _ rfl _ rfl
    refine ⟨by omega, ?_⟩
    rintro _ rfl
    have e1 : zM m (gU (gU (gU (gU G 1 (m + 1) (zM m G 784 0) p1) 1 (m + 2) (zM m G 784 0) p2) 1 (m + 3) (zM m G 784 0) p3) 784 (m + 0) 0 (zM m G 784 0 + 1)) = zU (zU (zU (zU (zM m G) 1 (zM m G 784 0) p1) 2 (zM m G 784 0) p2) 3 (zM m G 784 0) p3) 784 0 (zM m G 784 0 + 1) := by rw [zM_u784, zM_u3, zM_u2, zM_u1]
    have hB1 : zB 512 (zU (zU (zU (zU (zM m G) 1 (zM m G 784 0) p1) 2 (zM m G 784 0) p2) 3 (zM m G 784 0) p3) 784 0 (zM m G 784 0 + 1)) := zB_u (zB_u (zB_u (zB_u h (by show 0 ≤ p1 ∧ p1 ≤ 11; omega)) (by show 0 ≤ p2 ∧ p2 ≤ 11; omega)) (by show 0 ≤ p3 ∧ p3 ≤ 9; omega)) (by show 0 ≤ zM m G 784 0 + 1 ∧ zM m G 784 0 + 1 ≤ 20; omega)
    refine GM.mono (c_M_ways (by rw [e1]; exact hB1)) ?_
    rintro v G1 ⟨k1, k2⟩
    rw [e1] at k1
    have e2 : zM m G1 784 0 = zM m G 784 0 + 1 := by rw [k1, zWs_k (by decide), zU_eq]
    unfold zfDoor
    rw [if_neg (by omega), if_neg (by omega), if_neg q7, e2]
    exact ⟨by omega, by show zM m G 784 0 + 1 - 1 = zM m G 784 0; omega, k1, zC_t (zC_u (zC_u (zC_u (zC_u zC_r (by decide)) (by decide)) (by decide)) (by decide)) k2⟩
  · unfold zfDoor
    rw [if_neg (by omega), if_neg (by omega), if_pos q7]
    exact c_M_no h (by decide)
  · unfold zfDoor
    rw [if_pos (by omega)]
    exact c_M_no h (by decide)
  · unfold zfDoor
    rw [if_neg (by omega), if_pos (by omega)]
    exact c_M_no h (by decide)
