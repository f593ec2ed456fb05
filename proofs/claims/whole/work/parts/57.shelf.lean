/-! THE CLASS, 8: shelves -/
set_option maxRecDepth 20000 in
set_option maxHeartbeats 4000000 in
theorem sg_C_isShelf_0 {e : gE} {b : Nat} {m : Int} {Z : Int → gH → Prop} {kc ks : Nat} {G : gH} {p0 : Int} (h : Z (if 0 ≤ p0 ∧ p0 ≤ 7 then 1 else 0) G) : EX e b m m_C_isShelf Z kc ks 0 [(0, p0)] [] G := by
  refine e_iload_n d_C_isShelf_0 rfl ?_
  refine e_iconst d_C_isShelf_1 (by decide) ?_
  refine e_bipush d_C_isShelf_2 (by decide) (by decide) ?_
  refine e_callS m_C_within lw_good d_C_isShelf_4 (k_C_within _) ⟨Nat.le_of_ble_eq_true rfl, Nat.le_of_ble_eq_true rfl⟩ w_294 w_295 (args := [(0, p0), (0, 0), (0, 7)]) rfl rfl (Nat.le_of_ble_eq_true rfl) (kc' := kc) (ks' := ks) (mc := 0) (ms := 0) rfl rfl (c_C_within) (pureK ?_)
  exact e_zret .boolean d_C_isShelf_7 rfl (Or.inl ⟨rfl, gb01 _⟩) h
theorem c_C_isShelf {e : gE} {b : Nat} {m : Int} {G : gH} {p0 : Int} : GX e b m m_C_isShelf [(0, p0)] G 0 0 (fun v9 G9 => v9 = ((if zSh p0 then 1 else 0) : Int) ∧ G9 = G) := by
  refine GM.ofEV (by decide) (Nat.le_of_ble_eq_true rfl) (sg_C_isShelf_0 ?_)
  refine ⟨?_, rfl⟩
  unfold zSh
  (repeat' split) <;> omega
set_option maxRecDepth 20000 in
set_option maxHeartbeats 4000000 in
theorem sg_C_isEmpty_0 {e : gE} {b : Nat} {m : Int} {Z : Int → gH → Prop} {kc ks : Nat} {G : gH} {p1 : Int} (h : (zSh p1 → (0 ≤ p1 ∧ p1 < 8) ∧ ((G 1 ((b : Int) + 50) p1) = (-1) → Z 1 G)) ∧ (((¬ (zSh p1)) ∨ (zSh p1 ∧ (G 1 ((b : Int) + 50) p1) ≠ (-1))) → Z 0 G)) : EX e b m m_C_isEmpty Z kc ks 0 [(2, ((b : Int) + 1)), (0, p1)] [] G := by
  obtain ⟨h, hJ6⟩ := h
  have kJ6 : ((¬ (zSh p1)) ∨ (zSh p1 ∧ (G 1 ((b : Int) + 50) p1) ≠ (-1))) → EX e b m m_C_isEmpty Z kc ks 21 [(2, ((b : Int) + 1)), (0, p1)] [] G := by
    intro rJ6
    have h := hJ6 rJ6
    refine e_iconst d_C_isEmpty_21 (by decide) ?_
    exact e_zret .boolean d_C_isEmpty_22 rfl (by decide) h
  refine e_iload_n d_C_isEmpty_0 rfl ?_
  refine e_callS m_C_isShelf lw_good d_C_isEmpty_1 (k_C_isShelf _) ⟨Nat.le_of_ble_eq_true rfl, Nat.le_of_ble_eq_true rfl⟩ w_486 w_487 (args := [(0, p1)]) rfl rfl (Nat.le_of_ble_eq_true rfl) (kc' := kc) (ks' := ks) (mc := 0) (ms := 0) rfl rfl (c_C_isShelf) (pureK ?_)
  refine e_if_eq (tgt := 21) d_C_isEmpty_4 (by decide) (fun q1 => ?_) (fun q2 => ?_)
  · replace q1 := gb0.mp q1
    exact kJ6 (Or.inl q1)
  · replace q2 := gb1.mp q2
    have h := h q2
    refine e_aload_n d_C_isEmpty_7 rfl ?_
    refine gx_C_57 d_C_isEmpty_8 rfl ?_
    refine e_iload_n d_C_isEmpty_11 rfl ?_
    obtain ⟨o3, h⟩ := h
    refine xC_iald 49 rfl d_C_isEmpty_12 o3 ?_
    refine e_iconst d_C_isEmpty_13 (by decide) ?_
    refine e_icmp_ne (tgt := 21) d_C_isEmpty_14 (by decide) (fun q4 => ?_) (fun q5 => ?_)
    · exact kJ6 (Or.inr ⟨q2, q4⟩)
    · have h := h q5
      refine e_iconst d_C_isEmpty_17 (by decide) ?_
      refine e_goto (tgt := 22) d_C_isEmpty_18 (by decide) ?_
      exact e_zret .boolean d_C_isEmpty_22 rfl (by decide) h
set_option maxRecDepth 20000 in
set_option maxHeartbeats 4000000 in
theorem sg_C_showsThing_0 {e : gE} {b : Nat} {m : Int} {Z : Int → gH → Prop} {kc ks : Nat} {G : gH} {p1 : Int} (h : (zSh p1 → (0 ≤ p1 ∧ p1 < 8) ∧ ((0 ≤ (G 1 ((b : Int) + 50) p1) ∧ (G 1 ((b : Int) + 50) p1) ≤ 15) → Z 1 G)) ∧ (((¬ (zSh p1)) ∨ (zSh p1 ∧ (¬ (0 ≤ (G 1 ((b : Int) + 50) p1) ∧ (G 1 ((b : Int) + 50) p1) ≤ 15)))) → Z 0 G)) : EX e b m m_C_showsThing Z kc ks 0 [(2, ((b : Int) + 1)), (0, p1)] [] G := by
  obtain ⟨h, hJ6⟩ := h
  have kJ6 : ((¬ (zSh p1)) ∨ (zSh p1 ∧ (¬ (0 ≤ (G 1 ((b : Int) + 50) p1) ∧ (G 1 ((b : Int) + 50) p1) ≤ 15)))) → EX e b m m_C_showsThing Z kc ks 26 [(2, ((b : Int) + 1)), (0, p1)] [] G := by
    intro rJ6
    have h := hJ6 rJ6
    refine e_iconst d_C_showsThing_26 (by decide) ?_
    exact e_zret .boolean d_C_showsThing_27 rfl (by decide) h
  refine e_iload_n d_C_showsThing_0 rfl ?_
  refine e_callS m_C_isShelf lw_good d_C_showsThing_1 (k_C_isShelf _) ⟨Nat.le_of_ble_eq_true rfl, Nat.le_of_ble_eq_true rfl⟩ w_486 w_487 (args := [(0, p1)]) rfl rfl (Nat.le_of_ble_eq_true rfl) (kc' := kc) (ks' := ks) (mc := 0) (ms := 0) rfl rfl (c_C_isShelf) (pureK ?_)
  refine e_if_eq (tgt := 26) d_C_showsThing_4 (by decide) (fun q1 => ?_) (fun q2 => ?_)
  · replace q1 := gb0.mp q1
    exact kJ6 (Or.inl q1)
  · replace q2 := gb1.mp q2
    have h := h q2
    refine e_aload_n d_C_showsThing_7 rfl ?_
    refine gx_C_57 d_C_showsThing_8 rfl ?_
    refine e_iload_n d_C_showsThing_11 rfl ?_
    obtain ⟨o3, h⟩ := h
    refine xC_iald 49 rfl d_C_showsThing_12 o3 ?_
    refine e_iconst d_C_showsThing_13 (by decide) ?_
    refine e_bipush d_C_showsThing_14 (by decide) (by decide) ?_
    refine e_callS m_C_within lw_good d_C_showsThing_16 (k_C_within _) ⟨Nat.le_of_ble_eq_true rfl, Nat.le_of_ble_eq_true rfl⟩ w_294 w_295 (args := [(0, (G 1 ((b : Int) + 50) p1)), (0, 0), (0, 15)]) rfl rfl (Nat.le_of_ble_eq_true rfl) (kc' := kc) (ks' := ks) (mc := 0) (ms := 0) rfl rfl (c_C_within) (pureK ?_)
    refine e_if_eq (tgt := 26) d_C_showsThing_19 (by decide) (fun q4 => ?_) (fun q5 => ?_)
    · replace q4 := gb0.mp q4
      exact kJ6 (Or.inr ⟨q2, q4⟩)
    · replace q5 := gb1.mp q5
      have h := h q5
      refine e_iconst d_C_showsThing_22 (by decide) ?_
      refine e_goto (tgt := 27) d_C_showsThing_23 (by decide) ?_
      exact e_zret .boolean d_C_showsThing_27 rfl (by decide) h
set_option maxRecDepth 20000 in
set_option maxHeartbeats 4000000 in
theorem sg_C_firstOf_0 {e : gE} {b : Nat} {m : Int} {Z : Int → gH → Prop} {kc ks : Nat} {G : gH} {p0 p1 p2 : Int} (h : (p0 = 0 → (p1 = 0 → (p2 = 0 → Z 0 G) ∧ (p2 ≠ 0 → Z (-3) G)) ∧ (p1 ≠ 0 → Z (-2) G)) ∧ (p0 ≠ 0 → Z (-1) G)) : EX e b m m_C_firstOf Z kc ks 0 [(0, p0), (0, p1), (0, p2)] [] G := by
  refine e_iload_n d_C_firstOf_0 rfl ?_
  refine e_if_eq (tgt := 8) d_C_firstOf_1 (by decide) (fun q1 => ?_) (fun q2 => ?_)
  · have h := h.1 q1
    refine e_iload_n d_C_firstOf_8 rfl ?_
    refine e_if_eq (tgt := 17) d_C_firstOf_9 (by decide) (fun q3 => ?_) (fun q4 => ?_)
    · have h := h.1 q3
      refine e_iload_n d_C_firstOf_17 rfl ?_
      refine e_if_eq (tgt := 26) d_C_firstOf_18 (by decide) (fun q5 => ?_) (fun q6 => ?_)
      · have h := h.1 q5
        refine e_iconst d_C_firstOf_26 (by decide) ?_
        exact e_iret d_C_firstOf_27 rfl h
      · have h := h.2 q6
        refine e_bipush d_C_firstOf_21 (by decide) (by decide) ?_
        refine e_goto (tgt := 27) d_C_firstOf_23 (by decide) ?_
        exact e_iret d_C_firstOf_27 rfl h
    · have h := h.2 q4
      refine e_bipush d_C_firstOf_12 (by decide) (by decide) ?_
      refine e_goto (tgt := 27) d_C_firstOf_14 (by decide) ?_
      exact e_iret d_C_firstOf_27 rfl h
  · have h := h.2 q2
    refine e_iconst d_C_firstOf_4 (by decide) ?_
    refine e_goto (tgt := 27) d_C_firstOf_5 (by decide) ?_
    exact e_iret d_C_firstOf_27 rfl h
theorem c_C_isEmpty {e : gE} {b : Nat} {m : Int} {G : gH} {p1 : Int} : GX e b m m_C_isEmpty [(2, ((b : Int) + 1)), (0, p1)] G 0 0 (fun v9 G9 => v9 = ((if zSh p1 ∧ G 1 ((b : Int) + 50) p1 = -1 then 1 else 0) : Int) ∧ G9 = G) := by
  refine GM.ofEV (by decide) (Nat.le_of_ble_eq_true rfl) (sg_C_isEmpty_0 ?_)
  exact ⟨fun q => ⟨q, fun q2 => ⟨(if_pos ⟨q, q2⟩).symm, rfl⟩⟩, fun q => ⟨(if_neg (by rintro ⟨w1, w2⟩; rcases q with q | q; exact q w1; exact q.2 w2)).symm, rfl⟩⟩
theorem c_C_showsThing {e : gE} {b : Nat} {m : Int} {G : gH} {p1 : Int} : GX e b m m_C_showsThing [(2, ((b : Int) + 1)), (0, p1)] G 0 0 (fun v9 G9 => v9 = ((if zSh p1 ∧ (0 ≤ G 1 ((b : Int) + 50) p1 ∧ G 1 ((b : Int) + 50) p1 ≤ 15) then 1 else 0) : Int) ∧ G9 = G) := by
  refine GM.ofEV (by decide) (Nat.le_of_ble_eq_true rfl) (sg_C_showsThing_0 ?_)
  exact ⟨fun q => ⟨q, fun q2 => ⟨(if_pos ⟨q, q2⟩).symm, rfl⟩⟩, fun q => ⟨(if_neg (by rintro ⟨w1, w2⟩; rcases q with q | q; exact q w1; exact q.2 w2)).symm, rfl⟩⟩
theorem c_C_firstOf {e : gE} {b : Nat} {m : Int} {G : gH} {p0 p1 p2 : Int} : GX e b m m_C_firstOf [(0, p0), (0, p1), (0, p2)] G 0 0 (fun v9 G9 => v9 = (if p0 ≠ 0 then -1 else if p1 ≠ 0 then -2 else if p2 ≠ 0 then -3 else 0 : Int) ∧ G9 = G) := by
  refine GM.ofEV (by decide) (Nat.le_of_ble_eq_true rfl) (sg_C_firstOf_0 ?_)
  exact ⟨fun q1 => ⟨fun q2 => ⟨fun q3 => ⟨by rw [if_neg (by omega), if_neg (by omega), if_neg (by omega)], rfl⟩, fun q3 => ⟨by rw [if_neg (by omega), if_neg (by omega), if_pos q3], rfl⟩⟩, fun q2 => ⟨by rw [if_neg (by omega), if_pos q2], rfl⟩⟩, fun q1 => ⟨by rw [if_pos q1], rfl⟩⟩
set_option maxRecDepth 20000 in
set_option maxHeartbeats 4000000 in
theorem sg_C_rowIn_0 {e : gE} {b : Nat} {m : Int} {Z : Int → gH → Prop} {kc ks : Nat} {G : gH} {p1 : Int} (h : (zSh p1 → (0 ≤ p1 ∧ p1 < 8) ∧ (100 ≤ (G 1 ((b : Int) + 50) p1) → Z (G 3 ((b : Int) + 33) p1) G)) ∧ (((¬ (zSh p1)) ∨ (zSh p1 ∧ (G 1 ((b : Int) + 50) p1) < 100)) → Z 0 G)) : EX e b m m_C_rowIn Z kc ks 0 [(2, ((b : Int) + 1)), (0, p1)] [] G := by
  obtain ⟨h, hJ7⟩ := h
  have kJ7 : ((¬ (zSh p1)) ∨ (zSh p1 ∧ (G 1 ((b : Int) + 50) p1) < 100)) → EX e b m m_C_rowIn Z kc ks 27 [(2, ((b : Int) + 1)), (0, p1)] [] G := by
    intro rJ7
    have h := hJ7 rJ7
    refine e_null d_C_rowIn_27 ?_
    exact e_aret d_C_rowIn_28 (Or.inl ⟨_, rfl⟩) h
  refine e_iload_n d_C_rowIn_0 rfl ?_
  refine e_callS m_C_isShelf lw_good d_C_rowIn_1 (k_C_isShelf _) ⟨Nat.le_of_ble_eq_true rfl, Nat.le_of_ble_eq_true rfl⟩ w_486 w_487 (args := [(0, p1)]) rfl rfl (Nat.le_of_ble_eq_true rfl) (kc' := kc) (ks' := ks) (mc := 0) (ms := 0) rfl rfl (c_C_isShelf) (pureK ?_)
  refine e_if_eq (tgt := 27) d_C_rowIn_4 (by decide) (fun q1 => ?_) (fun q2 => ?_)
  · replace q1 := gb0.mp q1
    exact kJ7 (Or.inl q1)
  · replace q2 := gb1.mp q2
    have h := h q2
    refine e_aload_n d_C_rowIn_7 rfl ?_
    refine gx_C_57 d_C_rowIn_8 rfl ?_
    refine e_iload_n d_C_rowIn_11 rfl ?_
    obtain ⟨o3, h⟩ := h
    refine xC_iald 49 rfl d_C_rowIn_12 o3 ?_
    refine e_bipush d_C_rowIn_13 (by decide) (by decide) ?_
    refine e_icmp_lt (tgt := 27) d_C_rowIn_15 (by decide) (fun q4 => ?_) (fun q5 => ?_)
    · exact kJ7 (Or.inr ⟨q2, q4⟩)
    · have h := h q5
      refine e_aload_n d_C_rowIn_18 rfl ?_
      refine gx_C_52 d_C_rowIn_19 rfl ?_
      refine e_iload_n d_C_rowIn_22 rfl ?_
      refine EV.inv fun hFf6 => ?_
      have f6 := fx_ct 32 rfl hFf6
      refine e_aald d_C_rowIn_23 (Or.inr f6.1) o3.1 (by rw [f6.2]; exact o3.2) ?_
      refine e_goto (tgt := 28) d_C_rowIn_24 (by decide) ?_
      exact e_aret d_C_rowIn_28 (Or.inl ⟨_, rfl⟩) h
set_option maxRecDepth 20000 in
set_option maxHeartbeats 4000000 in
theorem sg_C_whyNoRows_0 {e : gE} {b : Nat} {m : Int} {Z : Int → gH → Prop} {kc ks : Nat} {G : gH} {p1 p2 p3 : Int} (h : (zSh p1 → (zSh p2 → (zSh p3 → EX e b m m_C_whyNoRows Z kc ks 26 [(2, ((b : Int) + 1)), (0, p1), (0, p2), (0, p3)] [(0, 0)] G))) ∧ (((¬ (zSh p1)) ∨ (zSh p1 ∧ (¬ (zSh p2))) ∨ (zSh p1 ∧ zSh p2 ∧ (¬ (zSh p3)))) → EX e b m m_C_whyNoRows Z kc ks 26 [(2, ((b : Int) + 1)), (0, p1), (0, p2), (0, p3)] [(0, 1)] G)) : EX e b m m_C_whyNoRows Z kc ks 0 [(2, ((b : Int) + 1)), (0, p1), (0, p2), (0, p3)] [] G := by
  obtain ⟨h, hJ7⟩ := h
  have kJ7 : ((¬ (zSh p1)) ∨ (zSh p1 ∧ (¬ (zSh p2))) ∨ (zSh p1 ∧ zSh p2 ∧ (¬ (zSh p3)))) → EX e b m m_C_whyNoRows Z kc ks 21 [(2, ((b : Int) + 1)), (0, p1), (0, p2), (0, p3)] [] G := by
    intro rJ7
    have h := hJ7 rJ7
    refine e_iconst d_C_whyNoRows_21 (by decide) ?_
    refine e_goto (tgt := 26) d_C_whyNoRows_22 (by decide) ?_
    exact e_forget (ls' := [(2, ((b : Int) + 1)), (0, p1), (0, p2), (0, p3)]) ⟨Or.inr rfl, Or.inr rfl, Or.inr rfl, Or.inr rfl, trivial⟩ h
  refine e_iload_n d_C_whyNoRows_0 rfl ?_
  refine e_callS m_C_isShelf lw_good d_C_whyNoRows_1 (k_C_isShelf _) ⟨Nat.le_of_ble_eq_true rfl, Nat.le_of_ble_eq_true rfl⟩ w_486 w_487 (args := [(0, p1)]) rfl rfl (Nat.le_of_ble_eq_true rfl) (kc' := kc) (ks' := ks) (mc := 0) (ms := 0) rfl rfl (c_C_isShelf) (pureK ?_)
  refine e_if_eq (tgt := 21) d_C_whyNoRows_4 (by decide) (fun q1 => ?_) (fun q2 => ?_)
  · replace q1 := gb0.mp q1
    exact kJ7 (Or.inl q1)
  · replace q2 := gb1.mp q2
    have h := h q2
    refine e_iload_n d_C_whyNoRows_7 rfl ?_
    refine e_callS m_C_isShelf lw_good d_C_whyNoRows_8 (k_C_isShelf _) ⟨Nat.le_of_ble_eq_true rfl, Nat.le_of_ble_eq_true rfl⟩ w_486 w_487 (args := [(0, p2)]) rfl rfl (Nat.le_of_ble_eq_true rfl) (kc' := kc) (ks' := ks) (mc := 0) (ms := 0) rfl rfl (c_C_isShelf) (pureK ?_)
    refine e_if_eq (tgt := 21) d_C_whyNoRows_11 (by decide) (fun q3 => ?_) (fun q4 => ?_)
    · replace q3 := gb0.mp q3
      exact kJ7 (Or.inr (Or.inl ⟨q2, q3⟩))
    · replace q4 := gb1.mp q4
      have h := h q4
      refine e_iload_n d_C_whyNoRows_14 rfl ?_
      refine e_callS m_C_isShelf lw_good d_C_whyNoRows_15 (k_C_isShelf _) ⟨Nat.le_of_ble_eq_true rfl, Nat.le_of_ble_eq_true rfl⟩ w_486 w_487 (args := [(0, p3)]) rfl rfl (Nat.le_of_ble_eq_true rfl) (kc' := kc) (ks' := ks) (mc := 0) (ms := 0) rfl rfl (c_C_isShelf) (pureK ?_)
      refine e_if_ne (tgt := 25) d_C_whyNoRows_18 (by decide) (fun q5 => ?_) (fun q6 => ?_)
      · replace q5 := gb1.mp q5
        have h := h q5
        refine e_iconst d_C_whyNoRows_25 (by decide) ?_
        exact e_forget (ls' := [(2, ((b : Int) + 1)), (0, p1), (0, p2), (0, p3)]) ⟨Or.inr rfl, Or.inr rfl, Or.inr rfl, Or.inr rfl, trivial⟩ h
      · replace q6 := gb0.mp q6
        exact kJ7 (Or.inr (Or.inr ⟨q2, q4, q6⟩))
set_option maxRecDepth 20000 in
set_option maxHeartbeats 4000000 in
theorem sg_C_whyNoRows_26 {e : gE} {b : Nat} {m : Int} {Z : Int → gH → Prop} {kc ks : Nat} {G : gH} {p1 p2 p3 y0 : Int} (h : ((¬ (zSh p1 ∧ (0 ≤ G 1 ((b : Int) + 50) p1 ∧ G 1 ((b : Int) + 50) p1 ≤ 15))) → ((¬ (zSh p2 ∧ (0 ≤ G 1 ((b : Int) + 50) p2 ∧ G 1 ((b : Int) + 50) p2 ≤ 15))) → ((¬ (zSh p3 ∧ (0 ≤ G 1 ((b : Int) + 50) p3 ∧ G 1 ((b : Int) + 50) p3 ≤ 15))) → EX e b m m_C_whyNoRows Z kc ks 55 [(2, ((b : Int) + 1)), (0, p1), (0, p2), (0, p3)] [(0, 0), (0, y0)] G))) ∧ ((((zSh p1 ∧ (0 ≤ G 1 ((b : Int) + 50) p1 ∧ G 1 ((b : Int) + 50) p1 ≤ 15))) ∨ ((¬ (zSh p1 ∧ (0 ≤ G 1 ((b : Int) + 50) p1 ∧ G 1 ((b : Int) + 50) p1 ≤ 15))) ∧ (zSh p2 ∧ (0 ≤ G 1 ((b : Int) + 50) p2 ∧ G 1 ((b : Int) + 50) p2 ≤ 15))) ∨ ((¬ (zSh p1 ∧ (0 ≤ G 1 ((b : Int) + 50) p1 ∧ G 1 ((b : Int) + 50) p1 ≤ 15))) ∧ (¬ (zSh p2 ∧ (0 ≤ G 1 ((b : Int) + 50) p2 ∧ G 1 ((b : Int) + 50) p2 ≤ 15))) ∧ (zSh p3 ∧ (0 ≤ G 1 ((b : Int) + 50) p3 ∧ G 1 ((b : Int) + 50) p3 ≤ 15)))) → EX e b m m_C_whyNoRows Z kc ks 55 [(2, ((b : Int) + 1)), (0, p1), (0, p2), (0, p3)] [(0, 1), (0, y0)] G)) : EX e b m m_C_whyNoRows Z kc ks 26 [(2, ((b : Int) + 1)), (0, p1), (0, p2), (0, p3)] [(0, y0)] G := by
  obtain ⟨h, hJ10⟩ := h
  have kJ10 : (((zSh p1 ∧ (0 ≤ G 1 ((b : Int) + 50) p1 ∧ G 1 ((b : Int) + 50) p1 ≤ 15))) ∨ ((¬ (zSh p1 ∧ (0 ≤ G 1 ((b : Int) + 50) p1 ∧ G 1 ((b : Int) + 50) p1 ≤ 15))) ∧ (zSh p2 ∧ (0 ≤ G 1 ((b : Int) + 50) p2 ∧ G 1 ((b : Int) + 50) p2 ≤ 15))) ∨ ((¬ (zSh p1 ∧ (0 ≤ G 1 ((b : Int) + 50) p1 ∧ G 1 ((b : Int) + 50) p1 ≤ 15))) ∧ (¬ (zSh p2 ∧ (0 ≤ G 1 ((b : Int) + 50) p2 ∧ G 1 ((b : Int) + 50) p2 ≤ 15))) ∧ (zSh p3 ∧ (0 ≤ G 1 ((b : Int) + 50) p3 ∧ G 1 ((b : Int) + 50) p3 ≤ 15)))) → EX e b m m_C_whyNoRows Z kc ks 50 [(2, ((b : Int) + 1)), (0, p1), (0, p2), (0, p3)] [(0, y0)] G := by
    intro rJ10
    have h := hJ10 rJ10
    refine e_iconst d_C_whyNoRows_50 (by decide) ?_
    refine e_goto (tgt := 55) d_C_whyNoRows_51 (by decide) ?_
    exact e_forget (ls' := [(2, ((b : Int) + 1)), (0, p1), (0, p2), (0, p3)]) ⟨Or.inr rfl, Or.inr rfl, Or.inr rfl, Or.inr rfl, trivial⟩ h
  refine e_aload_n d_C_whyNoRows_26 rfl ?_
  refine e_iload_n d_C_whyNoRows_27 rfl ?_
  refine EV.inv fun hFf1 => ?_
  have f1 := (fx_ct 0 rfl hFf1).1
  refine e_callV m_C_showsThing 11 lw_good d_C_whyNoRows_28 (k_C_showsThing _) ⟨Nat.le_of_ble_eq_true rfl, Nat.le_of_ble_eq_true rfl⟩ w_497 w_499 w_s10 (q_C _) rfl f1 (args := [(0, p1)]) rfl rfl (Nat.le_of_ble_eq_true rfl) (kc' := kc) (ks' := ks) (mc := 0) (ms := 0) rfl rfl (c_C_showsThing) (pureK ?_)
  refine e_if_ne (tgt := 50) d_C_whyNoRows_31 (by decide) (fun q2 => ?_) (fun q3 => ?_)
  · replace q2 := gb1.mp q2
    exact kJ10 (Or.inl q2)
  · replace q3 := gb0.mp q3
    have h := h q3
    refine e_aload_n d_C_whyNoRows_34 rfl ?_
    refine e_iload_n d_C_whyNoRows_35 rfl ?_
    refine EV.inv fun hFf4 => ?_
    have f4 := (fx_ct 0 rfl hFf4).1
    refine e_callV m_C_showsThing 11 lw_good d_C_whyNoRows_36 (k_C_showsThing _) ⟨Nat.le_of_ble_eq_true rfl, Nat.le_of_ble_eq_true rfl⟩ w_497 w_499 w_s10 (q_C _) rfl f4 (args := [(0, p2)]) rfl rfl (Nat.le_of_ble_eq_true rfl) (kc' := kc) (ks' := ks) (mc := 0) (ms := 0) rfl rfl (c_C_showsThing) (pureK ?_)
    refine e_if_ne (tgt := 50) d_C_whyNoRows_39 (by decide) (fun q5 => ?_) (fun q6 => ?_)
    · replace q5 := gb1.mp q5
      exact kJ10 (Or.inr (Or.inl ⟨q3, q5⟩))
    · replace q6 := gb0.mp q6
      have h := h q6
      refine e_aload_n d_C_whyNoRows_42 rfl ?_
      refine e_iload_n d_C_whyNoRows_43 rfl ?_
      refine EV.inv fun hFf7 => ?_
      have f7 := (fx_ct 0 rfl hFf7).1
      refine e_callV m_C_showsThing 11 lw_good d_C_whyNoRows_44 (k_C_showsThing _) ⟨Nat.le_of_ble_eq_true rfl, Nat.le_of_ble_eq_true rfl⟩ w_497 w_499 w_s10 (q_C _) rfl f7 (args := [(0, p3)]) rfl rfl (Nat.le_of_ble_eq_true rfl) (kc' := kc) (ks' := ks) (mc := 0) (ms := 0) rfl rfl (c_C_showsThing) (pureK ?_)
      refine e_if_eq (tgt := 54) d_C_whyNoRows_47 (by decide) (fun q8 => ?_) (fun q9 => ?_)
      · replace q8 := gb0.mp q8
        have h := h q8
        refine e_iconst d_C_whyNoRows_54 (by decide) ?_
        exact e_forget (ls' := [(2, ((b : Int) + 1)), (0, p1), (0, p2), (0, p3)]) ⟨Or.inr rfl, Or.inr rfl, Or.inr rfl, Or.inr rfl, trivial⟩ h
      · replace q9 := gb1.mp q9
        exact kJ10 (Or.inr (Or.inr ⟨q3, q6, q9⟩))
set_option maxRecDepth 20000 in
set_option maxHeartbeats 4000000 in
theorem sg_C_whyNoRows_55 {e : gE} {b : Nat} {m : Int} {Z : Int → gH → Prop} {kc ks : Nat} {G : gH} {p1 p2 p3 y0 y1 : Int} (h : ((¬ (zSh p1 ∧ G 1 ((b : Int) + 50) p1 = -1)) → ((¬ (zSh p2 ∧ G 1 ((b : Int) + 50) p2 = -1)) → ((¬ (zSh p3 ∧ G 1 ((b : Int) + 50) p3 = -1)) → EX e b m m_C_whyNoRows Z kc ks 84 [(9, 0), (9, 0), (9, 0), (9, 0)] [(0, 0), (0, y1), (0, y0)] G))) ∧ ((((zSh p1 ∧ G 1 ((b : Int) + 50) p1 = -1)) ∨ ((¬ (zSh p1 ∧ G 1 ((b : Int) + 50) p1 = -1)) ∧ (zSh p2 ∧ G 1 ((b : Int) + 50) p2 = -1)) ∨ ((¬ (zSh p1 ∧ G 1 ((b : Int) + 50) p1 = -1)) ∧ (¬ (zSh p2 ∧ G 1 ((b : Int) + 50) p2 = -1)) ∧ (zSh p3 ∧ G 1 ((b : Int) + 50) p3 = -1))) → EX e b m m_C_whyNoRows Z kc ks 84 [(9, 0), (9, 0), (9, 0), (9, 0)] [(0, 1), (0, y1), (0, y0)] G)) : EX e b m m_C_whyNoRows Z kc ks 55 [(2, ((b : Int) + 1)), (0, p1), (0, p2), (0, p3)] [(0, y1), (0, y0)] G := by
  obtain ⟨h, hJ10⟩ := h
  have kJ10 : (((zSh p1 ∧ G 1 ((b : Int) + 50) p1 = -1)) ∨ ((¬ (zSh p1 ∧ G 1 ((b : Int) + 50) p1 = -1)) ∧ (zSh p2 ∧ G 1 ((b : Int) + 50) p2 = -1)) ∨ ((¬ (zSh p1 ∧ G 1 ((b : Int) + 50) p1 = -1)) ∧ (¬ (zSh p2 ∧ G 1 ((b : Int) + 50) p2 = -1)) ∧ (zSh p3 ∧ G 1 ((b : Int) + 50) p3 = -1))) → EX e b m m_C_whyNoRows Z kc ks 79 [(2, ((b : Int) + 1)), (0, p1), (0, p2), (0, p3)] [(0, y1), (0, y0)] G := by
    intro rJ10
    have h := hJ10 rJ10
    refine e_iconst d_C_whyNoRows_79 (by decide) ?_
    refine e_goto (tgt := 84) d_C_whyNoRows_80 (by decide) ?_
    exact e_forget (ls' := [(9, 0), (9, 0), (9, 0), (9, 0)]) ⟨Or.inl rfl, Or.inl rfl, Or.inl rfl, Or.inl rfl, trivial⟩ h
  refine e_aload_n d_C_whyNoRows_55 rfl ?_
  refine e_iload_n d_C_whyNoRows_56 rfl ?_
  refine EV.inv fun hFf1 => ?_
  have f1 := (fx_ct 0 rfl hFf1).1
  refine e_callV m_C_isEmpty 11 lw_good d_C_whyNoRows_57 (k_C_isEmpty _) ⟨Nat.le_of_ble_eq_true rfl, Nat.le_of_ble_eq_true rfl⟩ w_501 w_503 w_s11 (q_C _) rfl f1 (args := [(0, p1)]) rfl rfl (Nat.le_of_ble_eq_true rfl) (kc' := kc) (ks' := ks) (mc := 0) (ms := 0) rfl rfl (c_C_isEmpty) (pureK ?_)
  refine e_if_ne (tgt := 79) d_C_whyNoRows_60 (by decide) (fun q2 => ?_) (fun q3 => ?_)
  · replace q2 := gb1.mp q2
    exact kJ10 (Or.inl q2)
  · replace q3 := gb0.mp q3
    have h := h q3
    refine e_aload_n d_C_whyNoRows_63 rfl ?_
    refine e_iload_n d_C_whyNoRows_64 rfl ?_
    refine EV.inv fun hFf4 => ?_
    have f4 := (fx_ct 0 rfl hFf4).1
    refine e_callV m_C_isEmpty 11 lw_good d_C_whyNoRows_65 (k_C_isEmpty _) ⟨Nat.le_of_ble_eq_true rfl, Nat.le_of_ble_eq_true rfl⟩ w_501 w_503 w_s11 (q_C _) rfl f4 (args := [(0, p2)]) rfl rfl (Nat.le_of_ble_eq_true rfl) (kc' := kc) (ks' := ks) (mc := 0) (ms := 0) rfl rfl (c_C_isEmpty) (pureK ?_)
    refine e_if_ne (tgt := 79) d_C_whyNoRows_68 (by decide) (fun q5 => ?_) (fun q6 => ?_)
    · replace q5 := gb1.mp q5
      exact kJ10 (Or.inr (Or.inl ⟨q3, q5⟩))
    · replace q6 := gb0.mp q6
      have h := h q6
      refine e_aload_n d_C_whyNoRows_71 rfl ?_
      refine e_iload_n d_C_whyNoRows_72 rfl ?_
      refine EV.inv fun hFf7 => ?_
      have f7 := (fx_ct 0 rfl hFf7).1
      refine e_callV m_C_isEmpty 11 lw_good d_C_whyNoRows_73 (k_C_isEmpty _) ⟨Nat.le_of_ble_eq_true rfl, Nat.le_of_ble_eq_true rfl⟩ w_501 w_503 w_s11 (q_C _) rfl f7 (args := [(0, p3)]) rfl rfl (Nat.le_of_ble_eq_true rfl) (kc' := kc) (ks' := ks) (mc := 0) (ms := 0) rfl rfl (c_C_isEmpty) (pureK ?_)
      refine e_if_eq (tgt := 83) d_C_whyNoRows_76 (by decide) (fun q8 => ?_) (fun q9 => ?_)
      · replace q8 := gb0.mp q8
        have h := h q8
        refine e_iconst d_C_whyNoRows_83 (by decide) ?_
        exact e_forget (ls' := [(9, 0), (9, 0), (9, 0), (9, 0)]) ⟨Or.inl rfl, Or.inl rfl, Or.inl rfl, Or.inl rfl, trivial⟩ h
      · replace q9 := gb1.mp q9
        exact kJ10 (Or.inr (Or.inr ⟨q3, q6, q9⟩))
set_option maxRecDepth 20000 in
set_option maxHeartbeats 4000000 in
theorem sg_C_whyNoRows_84 {e : gE} {b : Nat} {m : Int} {Z : Int → gH → Prop} {kc ks : Nat} {G : gH} {y0 y1 y2 : Int} (h : Z (if y0 ≠ 0 then -1 else if y1 ≠ 0 then -2 else if y2 ≠ 0 then -3 else 0) G) : EX e b m m_C_whyNoRows Z kc ks 84 [(9, 0), (9, 0), (9, 0), (9, 0)] [(0, y2), (0, y1), (0, y0)] G := by
  refine e_callS m_C_firstOf lw_good d_C_whyNoRows_84 (k_C_firstOf _) ⟨Nat.le_of_ble_eq_true rfl, Nat.le_of_ble_eq_true rfl⟩ w_505 w_506 (args := [(0, y0), (0, y1), (0, y2)]) rfl rfl (Nat.le_of_ble_eq_true rfl) (kc' := kc) (ks' := ks) (mc := 0) (ms := 0) rfl rfl (c_C_firstOf) (pureK ?_)
  exact e_iret d_C_whyNoRows_87 rfl h
theorem fx_row {b : Nat} {m : Int} {G : gH} (h : gFix b m G) {s : Int} (hs : zSh s) : G 3 ((b : Int) + 33) s = (b : Int) + (34 + 2 * s) ∧ G 0 ((b : Int) + (34 + 2 * s)) 0 = 7 ∧ G 400 ((b : Int) + (34 + 2 * s)) 0 = (b : Int) + (35 + 2 * s) ∧ G 0 ((b : Int) + (35 + 2 * s)) 0 = 101 ∧ G 0 ((b : Int) + (35 + 2 * s)) 1 = 60 := by
  have hq : s = 0 ∨ s = 1 ∨ s = 2 ∨ s = 3 ∨ s = 4 ∨ s = 5 ∨ s = 6 ∨ s = 7 := by unfold zSh at hs; omega
  obtain ⟨⟨h1, -⟩, ⟨h2, -⟩, h3, -⟩ := h
  rcases hq with q | q | q | q | q | q | q | q <;> subst q
  · exact ⟨h3 (0, 34) (by decide), (h1 (34, 7, 0) (by decide)).1, h2 (400, 34, 35) (by decide), h1 (35, 101, 60) (by decide)⟩
  · exact ⟨h3 (1, 36) (by decide), (h1 (36, 7, 0) (by decide)).1, h2 (400, 36, 37) (by decide), h1 (37, 101, 60) (by decide)⟩
  · exact ⟨h3 (2, 38) (by decide), (h1 (38, 7, 0) (by decide)).1, h2 (400, 38, 39) (by decide), h1 (39, 101, 60) (by decide)⟩
  · exact ⟨h3 (3, 40) (by decide), (h1 (40, 7, 0) (by decide)).1, h2 (400, 40, 41) (by decide), h1 (41, 101, 60) (by decide)⟩
  · exact ⟨h3 (4, 42) (by decide), (h1 (42, 7, 0) (by decide)).1, h2 (400, 42, 43) (by decide), h1 (43, 101, 60) (by decide)⟩
  · exact ⟨h3 (5, 44) (by decide), (h1 (44, 7, 0) (by decide)).1, h2 (400, 44, 45) (by decide), h1 (45, 101, 60) (by decide)⟩
  · exact ⟨h3 (6, 46) (by decide), (h1 (46, 7, 0) (by decide)).1, h2 (400, 46, 47) (by decide), h1 (47, 101, 60) (by decide)⟩
  · exact ⟨h3 (7, 48) (by decide), (h1 (48, 7, 0) (by decide)).1, h2 (400, 48, 49) (by decide), h1 (49, 101, 60) (by decide)⟩

abbrev zHr (b : Nat) (G : gH) (s : Int) : Prop := zSh s ∧ 100 ≤ G 1 ((b : Int) + 50) s
theorem c_C_rowIn {e : gE} {b : Nat} {m : Int} {G : gH} {p1 : Int} : GX e b m m_C_rowIn [(2, ((b : Int) + 1)), (0, p1)] G 0 0 (fun v9 G9 => v9 = (if zHr b G p1 then G 3 ((b : Int) + 33) p1 else 0 : Int) ∧ G9 = G) := by
  refine GM.ofEV (by decide) (Nat.le_of_ble_eq_true rfl) (sg_C_rowIn_0 ?_)
  exact ⟨fun q => ⟨q, fun q2 => ⟨(if_pos ⟨q, q2⟩).symm, rfl⟩⟩, fun q => ⟨(if_neg (by rintro ⟨w1, w2⟩; rcases q with q | q; exact q w1; omega)).symm, rfl⟩⟩
abbrev zShT (b : Nat) (G : gH) (s : Int) : Prop := zSh s ∧ (0 ≤ G 1 ((b : Int) + 50) s ∧ G 1 ((b : Int) + 50) s ≤ 15)
abbrev zEm (b : Nat) (G : gH) (s : Int) : Prop := zSh s ∧ G 1 ((b : Int) + 50) s = -1
def zWhy (b : Nat) (G : gH) (s t u : Int) : Int := if ¬ (zSh s ∧ zSh t ∧ zSh u) then -1 else if zShT b G s ∨ zShT b G t ∨ zShT b G u then -2 else if zEm b G s ∨ zEm b G t ∨ zEm b G u then -3 else 0
theorem c_C_whyNoRows {e : gE} {b : Nat} {m : Int} {G : gH} {p1 p2 p3 : Int} : GX e b m m_C_whyNoRows [(2, ((b : Int) + 1)), (0, p1), (0, p2), (0, p3)] G 0 0 (fun v9 G9 => v9 = (zWhy b G p1 p2 p3 : Int) ∧ G9 = G) := by
  refine GM.ofEV (by decide) (Nat.le_of_ble_eq_true rfl) (sg_C_whyNoRows_0 ?_)
  have f84 : ∀ y0 y1 y2 : Int, zWhy b G p1 p2 p3 = (if y0 ≠ 0 then -1 else if y1 ≠ 0 then -2 else if y2 ≠ 0 then -3 else 0) → EX e b m m_C_whyNoRows (fun v9 G9 => v9 = (zWhy b G p1 p2 p3 : Int) ∧ G9 = G) 0 0 84 [(9, 0), (9, 0), (9, 0), (9, 0)] [(0, y2), (0, y1), (0, y0)] G := fun y0 y1 y2 q => sg_C_whyNoRows_84 ⟨q.symm, rfl⟩
  have f55 : ∀ y0 y1 : Int, ((y0 = 0 ∧ (zSh p1 ∧ zSh p2 ∧ zSh p3)) ∨ (y0 = 1 ∧ ¬ (zSh p1 ∧ zSh p2 ∧ zSh p3))) → ((y1 = 0 ∧ ¬ (zShT b G p1 ∨ zShT b G p2 ∨ zShT b G p3)) ∨ (y1 = 1 ∧ (zShT b G p1 ∨ zShT b G p2 ∨ zShT b G p3))) → EX e b m m_C_whyNoRows (fun v9 G9 => v9 = (zWhy b G p1 p2 p3 : Int) ∧ G9 = G) 0 0 55 [(2, ((b : Int) + 1)), (0, p1), (0, p2), (0, p3)] [(0, y1), (0, y0)] G := fun y0 y1 q1 q2 => sg_C_whyNoRows_55 ⟨fun w1 w2 w3 => f84 _ _ _ (by clear f84; simp only [zWhy, zShT, zEm, zSh] at *; (repeat' split) <;> omega), fun w => f84 _ _ _ (by clear f84; simp only [zWhy, zShT, zEm, zSh] at *; (repeat' split) <;> omega)⟩
  have f26 : ∀ y0 : Int, ((y0 = 0 ∧ (zSh p1 ∧ zSh p2 ∧ zSh p3)) ∨ (y0 = 1 ∧ ¬ (zSh p1 ∧ zSh p2 ∧ zSh p3))) → EX e b m m_C_whyNoRows (fun v9 G9 => v9 = (zWhy b G p1 p2 p3 : Int) ∧ G9 = G) 0 0 26 [(2, ((b : Int) + 1)), (0, p1), (0, p2), (0, p3)] [(0, y0)] G := fun y0 q1 => sg_C_whyNoRows_26 ⟨fun w1 w2 w3 => f55 _ _ q1 (Or.inl ⟨rfl, by rintro (z | z | z); exact w1 z; exact w2 z; exact w3 z⟩), fun w => f55 _ _ q1 (Or.inr ⟨rfl, w.elim Or.inl (fun z => Or.inr (z.elim (fun y => Or.inl y.2) (fun y => Or.inr y.2.2)))⟩)⟩
  exact ⟨fun q1 q2 q3 => f26 _ (Or.inl ⟨rfl, q1, q2, q3⟩), fun q => f26 _ (Or.inr ⟨rfl, by rintro ⟨w1, w2, w3⟩; rcases q with q | q | q; exact q w1; exact q.2 w2; exact q.2.2 w3⟩)⟩
set_option maxRecDepth 20000 in
set_option maxHeartbeats 4000000 in
theorem sg_C_whyNoRow_0 {e : gE} {b : Nat} {m : Int} {Z : Int → gH → Prop} {kc ks : Nat} {G : gH} {p1 : Int} (h : Z (zWhy b G p1 p1 p1) G) : EX e b m m_C_whyNoRow Z kc ks 0 [(2, ((b : Int) + 1)), (0, p1)] [] G := by
  refine e_aload_n d_C_whyNoRow_0 rfl ?_
  refine e_iload_n d_C_whyNoRow_1 rfl ?_
  refine e_iload_n d_C_whyNoRow_2 rfl ?_
  refine e_iload_n d_C_whyNoRow_3 rfl ?_
  refine EV.inv fun hFf1 => ?_
  have f1 := (fx_ct 0 rfl hFf1).1
  refine e_callV m_C_whyNoRows 11 lw_good d_C_whyNoRow_4 (k_C_whyNoRows _) ⟨Nat.le_of_ble_eq_true rfl, Nat.le_of_ble_eq_true rfl⟩ w_493 w_495 w_s9 (q_C _) rfl f1 (args := [(0, p1), (0, p1), (0, p1)]) rfl rfl (Nat.le_of_ble_eq_true rfl) (kc' := kc) (ks' := ks) (mc := 0) (ms := 0) rfl rfl (c_C_whyNoRows) (pureK ?_)
  exact e_iret d_C_whyNoRow_7 rfl h
theorem c_C_whyNoRow {e : gE} {b : Nat} {m : Int} {G : gH} {p1 : Int} : GX e b m m_C_whyNoRow [(2, ((b : Int) + 1)), (0, p1)] G 0 0 (fun v9 G9 => v9 = (zWhy b G p1 p1 p1 : Int) ∧ G9 = G) := by
  refine GM.ofEV (by decide) (Nat.le_of_ble_eq_true rfl) (sg_C_whyNoRow_0 ?_)
  repeat' (first | apply And.intro | intro _)
  all_goals first | assumption | rfl | omega | (rw [if_pos (by omega)]) | (rw [if_neg (by omega)])
set_option maxRecDepth 20000 in
set_option maxHeartbeats 4000000 in
theorem sg_C_refuse_0 {e : gE} {b : Nat} {m : Int} {Z : Int → gH → Prop} {kc ks : Nat} {G : gH} {p1 : Int} (h : (inI (-p1)) ∧ (((¬ (1 ≤ (-p1) ∧ (-p1) ≤ 7)) → Z p1 G) ∧ ((1 ≤ (-p1) ∧ (-p1) ≤ 7) → (0 ≤ (-p1) ∧ (-p1) < 8) ∧ ((inI ((G 1 ((b : Int) + 53) (-p1)) + 1)) ∧ (∀ G6 : gH, G6 = gU G 1 ((b : Int) + 53) (-p1) ((G 1 ((b : Int) + 53) (-p1)) + 1) → Z p1 G6))))) : EX e b m m_C_refuse Z kc ks 0 [(2, ((b : Int) + 1)), (0, p1)] [] G := by
  refine e_iload_n d_C_refuse_0 rfl ?_
  obtain ⟨o1, h⟩ := h
  refine e_ineg d_C_refuse_1 o1 ?_
  refine e_iconst d_C_refuse_2 (by decide) ?_
  refine e_bipush d_C_refuse_3 (by decide) (by decide) ?_
  refine e_callS m_C_within lw_good d_C_refuse_5 (k_C_within _) ⟨Nat.le_of_ble_eq_true rfl, Nat.le_of_ble_eq_true rfl⟩ w_294 w_295 (args := [(0, (-p1)), (0, 1), (0, 7)]) rfl rfl (Nat.le_of_ble_eq_true rfl) (kc' := kc) (ks' := ks) (mc := 0) (ms := 0) rfl rfl (c_C_within) (pureK ?_)
  refine e_if_eq (tgt := 22) d_C_refuse_8 (by decide) (fun q2 => ?_) (fun q3 => ?_)
  · replace q2 := gb0.mp q2
    have h := h.1 q2
    refine e_iload_n d_C_refuse_22 rfl ?_
    exact e_iret d_C_refuse_23 rfl h
  · replace q3 := gb1.mp q3
    have h := h.2 q3
    refine e_aload_n d_C_refuse_11 rfl ?_
    refine gx_C_74 d_C_refuse_12 rfl ?_
    refine e_iload_n d_C_refuse_15 rfl ?_
    refine e_ineg d_C_refuse_16 o1 ?_
    refine e_dup2 d_C_refuse_17 (by simp) (by simp) ?_
    obtain ⟨o4, h⟩ := h
    refine xC_iald 52 rfl d_C_refuse_18 o4 ?_
    refine e_iconst d_C_refuse_19 (by decide) ?_
    obtain ⟨o5, h⟩ := h
    refine e_iadd d_C_refuse_20 o5 ?_
    refine xC_iast 52 rfl d_C_refuse_21 o4 ?_
    let G6 : gH := gU G 1 ((b : Int) + 53) (-p1) ((G 1 ((b : Int) + 53) (-p1)) + 1)
    have h := h G6 rfl
    refine e_iload_n d_C_refuse_22 rfl ?_
    exact e_iret d_C_refuse_23 rfl h
set_option maxRecDepth 20000 in
set_option maxHeartbeats 4000000 in
theorem sg_C_thingAt_0 {e : gE} {b : Nat} {m : Int} {Z : Int → gH → Prop} {kc ks : Nat} {G : gH} {p1 : Int} (h : (G 0 ((b : Int) + 2) 0 = 1) ∧ ((inI ((G 18 ((b : Int) + 2) 0) - 1)) ∧ (((¬ (0 ≤ p1 ∧ p1 ≤ ((G 18 ((b : Int) + 2) 0) - 1))) → Z 0 G) ∧ ((0 ≤ p1 ∧ p1 ≤ ((G 18 ((b : Int) + 2) 0) - 1)) → (G 0 (G 17 ((b : Int) + 2) 0) 0 = 103) ∧ (0 ≤ p1 ∧ p1 < G 18 ((b : Int) + 2) 0) ∧ (G 18 ((b : Int) + 2) 0 ≤ G 0 (G 17 ((b : Int) + 2) 0) 1) ∧ (G 0 (G 3 (G 17 ((b : Int) + 2) 0) p1) 0 = 10) ∧ Z (G 3 (G 17 ((b : Int) + 2) 0) p1) G)))) : EX e b m m_C_thingAt Z kc ks 0 [(2, ((b : Int) + 1)), (0, p1)] [] G := by
  refine e_iload_n d_C_thingAt_0 rfl ?_
  refine e_iconst d_C_thingAt_1 (by decide) ?_
  refine e_aload_n d_C_thingAt_2 rfl ?_
  refine gx_C_12 d_C_thingAt_3 rfl ?_
  refine EV.inv fun hFf1 => ?_
  have f1 := (fx_ct 1 rfl hFf1).1
  obtain ⟨o2, h⟩ := h
  refine e_callV m_AL_size 0 lw_good d_C_thingAt_6 (k_AL_size _) ⟨Nat.le_of_ble_eq_true rfl, Nat.le_of_ble_eq_true rfl⟩ w_421 w_330 w_331 (q_AL _) rfl f1 (args := []) rfl rfl (Nat.le_of_ble_eq_true rfl) (kc' := kc) (ks' := ks) (mc := 0) (ms := 0) rfl rfl (c_AL_size o2) (pureK ?_)
  refine e_iconst d_C_thingAt_9 (by decide) ?_
  obtain ⟨o3, h⟩ := h
  refine e_isub d_C_thingAt_10 o3 ?_
  refine e_callS m_C_within lw_good d_C_thingAt_11 (k_C_within _) ⟨Nat.le_of_ble_eq_true rfl, Nat.le_of_ble_eq_true rfl⟩ w_294 w_295 (args := [(0, p1), (0, 0), (0, ((G 18 ((b : Int) + 2) 0) - 1))]) rfl rfl (Nat.le_of_ble_eq_true rfl) (kc' := kc) (ks' := ks) (mc := 0) (ms := 0) rfl rfl (c_C_within) (pureK ?_)
  refine e_if_eq (tgt := 31) d_C_thingAt_14 (by decide) (fun q4 => ?_) (fun q5 => ?_)
  · replace q4 := gb0.mp q4
    have h := h.1 q4
    refine e_null d_C_thingAt_31 ?_
    exact e_aret d_C_thingAt_32 (Or.inl ⟨_, rfl⟩) h
  · replace q5 := gb1.mp q5
    have h := h.2 q5
    refine e_aload_n d_C_thingAt_17 rfl ?_
    refine gx_C_12 d_C_thingAt_18 rfl ?_
    refine e_iload_n d_C_thingAt_21 rfl ?_
    refine EV.inv fun hFf6 => ?_
    have f6 := (fx_ct 1 rfl hFf6).1
    obtain ⟨o7, o8, o9, h⟩ := h
    refine e_callV m_AL_get 0 lw_good d_C_thingAt_22 (k_AL_get _) ⟨Nat.le_of_ble_eq_true rfl, Nat.le_of_ble_eq_true rfl⟩ w_850 w_607 w_608 (q_AL _) rfl f6 (args := [(0, p1)]) rfl rfl (Nat.le_of_ble_eq_true rfl) (kc' := kc) (ks' := ks) (mc := 0) (ms := 0) rfl rfl (c_AL_get o2 o7 o8 o9) (pureK ?_)
    obtain ⟨o10, h⟩ := h
    refine e_cast 9 d_C_thingAt_25 (q_Thing _) w_422 (Or.inr o10) ?_
    refine e_goto (tgt := 32) d_C_thingAt_28 (by decide) ?_
    exact e_aret d_C_thingAt_32 (Or.inl ⟨_, rfl⟩) h
