/-! THE REFERENCE, 10: labels -/
set_option maxRecDepth 20000 in
set_option maxHeartbeats 4000000 in
theorem sg_M_letter_0 {e : gE} {b : Nat} {m : Int} {Z : Int → gH → Prop} {kc ks : Nat} {G : gH} {p1 : Int} (h : (0 ≤ p1 ∧ p1 < 8) ∧ (((zM m G 20 p1) ≤ (G 841 (m + 0) 0) → Z (-2) G) ∧ ((G 841 (m + 0) 0) < (zM m G 20 p1) → (inI (60 * p1)) ∧ (inI ((60 * p1) + (G 841 (m + 0) 0))) ∧ (0 ≤ ((60 * p1) + (G 841 (m + 0) 0)) ∧ ((60 * p1) + (G 841 (m + 0) 0)) < 480) ∧ Z (w32 (zM m G 22 ((60 * p1) + (G 841 (m + 0) 0)))) G))) : EX e b m m_M_letter Z kc ks 0 [(2, (m + 0)), (0, p1)] [] G := by
  refine e_aload_n d_M_letter_0 rfl ?_
  refine gx_M_181 d_M_letter_1 rfl ?_
  refine e_aload_n d_M_letter_4 rfl ?_
  refine gx_M_72 d_M_letter_5 rfl ?_
  refine e_iload_n d_M_letter_8 rfl ?_
  obtain ⟨o1, h⟩ := h
  refine xM_iald 20 rfl d_M_letter_9 o1 ?_
  refine e_icmp_ge (tgt := 31) d_M_letter_10 (by decide) (fun q2 => ?_) (fun q3 => ?_)
  · have h := h.1 q2
    refine e_bipush d_M_letter_31 (by decide) (by decide) ?_
    exact e_iret d_M_letter_33 rfl h
  · have h := h.2 q3
    refine e_aload_n d_M_letter_13 rfl ?_
    refine gx_M_78 d_M_letter_14 rfl ?_
    refine e_bipush d_M_letter_17 (by decide) (by decide) ?_
    refine e_iload_n d_M_letter_19 rfl ?_
    obtain ⟨o4, h⟩ := h
    refine e_imul d_M_letter_20 o4 ?_
    refine e_aload_n d_M_letter_21 rfl ?_
    refine gx_M_181 d_M_letter_22 rfl ?_
    obtain ⟨o5, h⟩ := h
    refine e_iadd d_M_letter_25 o5 ?_
    obtain ⟨o6, h⟩ := h
    refine xM_lald 22 rfl d_M_letter_26 o6 ?_
    refine e_l2i d_M_letter_27 ?_
    refine e_goto (tgt := 33) d_M_letter_28 (by decide) ?_
    exact e_iret d_M_letter_33 rfl h
set_option maxRecDepth 20000 in
set_option maxHeartbeats 4000000 in
theorem sg_M_isEnd_0 {e : gE} {b : Nat} {m : Int} {Z : Int → gH → Prop} {kc ks : Nat} {G : gH} {p1 : Int} (h : (0 ≤ p1 ∧ p1 < 8) ∧ (((G 841 (m + 0) 0) < (zM m G 20 p1) → Z 0 G) ∧ ((zM m G 20 p1) ≤ (G 841 (m + 0) 0) → Z 1 G))) : EX e b m m_M_isEnd Z kc ks 0 [(2, (m + 0)), (0, p1)] [] G := by
  refine e_aload_n d_M_isEnd_0 rfl ?_
  refine gx_M_181 d_M_isEnd_1 rfl ?_
  refine e_aload_n d_M_isEnd_4 rfl ?_
  refine gx_M_72 d_M_isEnd_5 rfl ?_
  refine e_iload_n d_M_isEnd_8 rfl ?_
  obtain ⟨o1, h⟩ := h
  refine xM_iald 20 rfl d_M_isEnd_9 o1 ?_
  refine e_icmp_lt (tgt := 17) d_M_isEnd_10 (by decide) (fun q2 => ?_) (fun q3 => ?_)
  · have h := h.1 q2
    refine e_iconst d_M_isEnd_17 (by decide) ?_
    exact e_zret .boolean d_M_isEnd_18 rfl (by decide) h
  · have h := h.2 q3
    refine e_iconst d_M_isEnd_13 (by decide) ?_
    refine e_goto (tgt := 18) d_M_isEnd_14 (by decide) ?_
    exact e_zret .boolean d_M_isEnd_18 rfl (by decide) h
def zLet (A : zA) (s i : Int) : Int := if i < A 20 s then w32 (A 22 (60 * s + i)) else -2
theorem c_M_letter {e : gE} {b : Nat} {m : Int} {G : gH} {p1 : Int} (h1 : zSh p1 ∧ zM m G 20 p1 ≤ 60) (h2 : 0 ≤ G 841 (m + 0) 0) : GX e b m m_M_letter [(2, (m + 0)), (0, p1)] G 0 0 (fun v9 G9 => v9 = (zLet (zM m G) p1 (G 841 (m + 0) 0) : Int) ∧ G9 = G) := by
  refine GM.ofEV (by decide) (Nat.le_of_ble_eq_true rfl) (sg_M_letter_0 ?_)
  unfold zLet
  exact ⟨h1.1, fun q => ⟨by rw [if_neg (by omega)], rfl⟩, fun q => ⟨by omega, by omega, by omega, by rw [if_pos q], rfl⟩⟩
theorem c_M_isEnd {e : gE} {b : Nat} {m : Int} {G : gH} {p1 : Int} (h1 : zSh p1) : GX e b m m_M_isEnd [(2, (m + 0)), (0, p1)] G 0 0 (fun v9 G9 => v9 = ((if zM m G 20 p1 ≤ G 841 (m + 0) 0 then 1 else 0) : Int) ∧ G9 = G) := by
  refine GM.ofEV (by decide) (Nat.le_of_ble_eq_true rfl) (sg_M_isEnd_0 ?_)
  repeat' (first | apply And.intro | intro _)
  all_goals first | assumption | rfl | omega | (rw [if_pos (by omega)]) | (rw [if_neg (by omega)])
set_option maxRecDepth 20000 in
set_option maxHeartbeats 4000000 in
theorem sg_M_number_0 {e : gE} {b : Nat} {m : Int} {Z : Int → gH → Prop} {kc ks : Nat} {G : gH} {p1 p2 p3 p4 : Int} (h : ((zSh p1) ∧ ((¬ (zM m G 20 p1 ≤ G 841 (m + 0) 0)) → (zSh p1 ∧ zM m G 20 p1 ≤ 60) ∧ ((0 ≤ G 841 (m + 0) 0) ∧ ((zLet (zM m G) p1 (G 841 (m + 0) 0)) = p2 → (inI ((G 841 (m + 0) 0) + 1)) ∧ (∀ G11 : gH, G11 = gU G 841 (m + 0) 0 ((G 841 (m + 0) 0) + 1) → EX e b m m_M_number Z kc ks 35 [(2, (m + 0)), (0, p1), (9, 0), (0, p3), (0, p4), (0, 0), (0, 0), (9, 0)] [] G11))))) ∧ ((zM m G 20 p1 ≤ G 841 (m + 0) 0 ∨ ((¬ (zM m G 20 p1 ≤ G 841 (m + 0) 0)) ∧ (zLet (zM m G) p1 (G 841 (m + 0) 0)) ≠ p2)) → Z (-1) G)) : EX e b m m_M_number Z kc ks 0 [(2, (m + 0)), (0, p1), (0, p2), (0, p3), (0, p4), (9, 0), (9, 0), (9, 0)] [] G := by
  obtain ⟨h, hJ12⟩ := h
  have kJ12 : (zM m G 20 p1 ≤ G 841 (m + 0) 0 ∨ ((¬ (zM m G 20 p1 ≤ G 841 (m + 0) 0)) ∧ (zLet (zM m G) p1 (G 841 (m + 0) 0)) ≠ p2)) → EX e b m m_M_number Z kc ks 17 [(2, (m + 0)), (0, p1), (0, p2), (0, p3), (0, p4), (9, 0), (9, 0), (9, 0)] [] G := by
    intro rJ12
    have h := hJ12 rJ12
    refine e_iconst d_M_number_17 (by decide) ?_
    exact e_iret d_M_number_18 rfl h
  refine e_aload_n d_M_number_0 rfl ?_
  refine e_iload_n d_M_number_1 rfl ?_
  refine EV.inv fun hFf1 => ?_
  have f1 := (fx_mt 0 rfl hFf1).1
  obtain ⟨o2, h⟩ := h
  refine e_callV m_M_isEnd 12 lw_good d_M_number_2 (k_M_isEnd _) ⟨Nat.le_of_ble_eq_true rfl, Nat.le_of_ble_eq_true rfl⟩ w_1600 w_1602 w_s46 (q_M _) rfl f1 (args := [(0, p1)]) rfl rfl (Nat.le_of_ble_eq_true rfl) (kc' := kc) (ks' := ks) (mc := 0) (ms := 0) rfl rfl (c_M_isEnd o2) (pureK ?_)
  refine e_if_ne (tgt := 17) d_M_number_5 (by decide) (fun q3 => ?_) (fun q4 => ?_)
  · replace q3 := gb1.mp q3
    exact kJ12 (Or.inl q3)
  · replace q4 := gb0.mp q4
    have h := h q4
    refine e_aload_n d_M_number_8 rfl ?_
    refine e_iload_n d_M_number_9 rfl ?_
    refine EV.inv fun hFf5 => ?_
    have f5 := (fx_mt 0 rfl hFf5).1
    obtain ⟨o6, o7, h⟩ := h
    refine e_callV m_M_letter 12 lw_good d_M_number_10 (k_M_letter _) ⟨Nat.le_of_ble_eq_true rfl, Nat.le_of_ble_eq_true rfl⟩ w_1604 w_1606 w_s47 (q_M _) rfl f5 (args := [(0, p1)]) rfl rfl (Nat.le_of_ble_eq_true rfl) (kc' := kc) (ks' := ks) (mc := 0) (ms := 0) rfl rfl (c_M_letter o6 o7) (pureK ?_)
    refine e_iload_n d_M_number_13 rfl ?_
    refine e_icmp_eq (tgt := 19) d_M_number_14 (by decide) (fun q8 => ?_) (fun q9 => ?_)
    · have h := h q8
      refine e_aload_n d_M_number_19 rfl ?_
      refine e_dup d_M_number_20 (by simp) ?_
      refine gx_M_181 d_M_number_21 rfl ?_
      refine e_iconst d_M_number_24 (by decide) ?_
      obtain ⟨o10, h⟩ := h
      refine e_iadd d_M_number_25 o10 ?_
      refine px_M_181 d_M_number_26 rfl ?_
      let G11 : gH := gU G 841 (m + 0) 0 ((G 841 (m + 0) 0) + 1)
      have h := h G11 rfl
      refine e_iconst d_M_number_29 (by decide) ?_
      refine e_istore (ls' := [(2, (m + 0)), (0, p1), (0, p2), (0, p3), (0, p4), (0, 0), (9, 0), (9, 0)]) d_M_number_30 (by decide) rfl ?_
      refine e_iconst d_M_number_32 (by decide) ?_
      refine e_istore (ls' := [(2, (m + 0)), (0, p1), (0, p2), (0, p3), (0, p4), (0, 0), (0, 0), (9, 0)]) d_M_number_33 (by decide) rfl ?_
      exact e_forget (ls' := [(2, (m + 0)), (0, p1), (9, 0), (0, p3), (0, p4), (0, 0), (0, 0), (9, 0)]) ⟨Or.inr rfl, Or.inr rfl, Or.inl rfl, Or.inr rfl, Or.inr rfl, Or.inr rfl, Or.inr rfl, Or.inl rfl, trivial⟩ h
    · exact kJ12 (Or.inr ⟨q4, q9⟩)
set_option maxRecDepth 20000 in
set_option maxHeartbeats 4000000 in
theorem sg_M_number_35 {e : gE} {b : Nat} {m : Int} {Z : Int → gH → Prop} {kc ks : Nat} {G : gH} {p1 p3 p4 x5 x6 : Int} (h : ((zSh p1) ∧ ((¬ (zM m G 20 p1 ≤ G 841 (m + 0) 0)) → (zSh p1 ∧ zM m G 20 p1 ≤ 60) ∧ ((0 ≤ G 841 (m + 0) 0) ∧ (48 ≤ (zLet (zM m G) p1 (G 841 (m + 0) 0)) → ((zLet (zM m G) p1 (G 841 (m + 0) 0)) ≤ 57 → (inI (10 * x5)) ∧ (inI ((10 * x5) + (zLet (zM m G) p1 (G 841 (m + 0) 0)))) ∧ (inI (((10 * x5) + (zLet (zM m G) p1 (G 841 (m + 0) 0))) - 48))))))) ∧ ((((¬ (zM m G 20 p1 ≤ G 841 (m + 0) 0)) ∧ 48 ≤ (zLet (zM m G) p1 (G 841 (m + 0) 0)) ∧ (zLet (zM m G) p1 (G 841 (m + 0) 0)) ≤ 57 ∧ x6 ≤ 0) ∨ ((¬ (zM m G 20 p1 ≤ G 841 (m + 0) 0)) ∧ 48 ≤ (zLet (zM m G) p1 (G 841 (m + 0) 0)) ∧ (zLet (zM m G) p1 (G 841 (m + 0) 0)) ≤ 57 ∧ 0 < x6 ∧ x5 ≠ 0)) → True) ∧ ((((((¬ (zM m G 20 p1 ≤ G 841 (m + 0) 0)) ∧ 48 ≤ (zLet (zM m G) p1 (G 841 (m + 0) 0)) ∧ (zLet (zM m G) p1 (G 841 (m + 0) 0)) ≤ 57 ∧ x6 ≤ 0) ∨ ((¬ (zM m G 20 p1 ≤ G 841 (m + 0) 0)) ∧ 48 ≤ (zLet (zM m G) p1 (G 841 (m + 0) 0)) ∧ (zLet (zM m G) p1 (G 841 (m + 0) 0)) ≤ 57 ∧ 0 < x6 ∧ x5 ≠ 0)) ∧ (((10 * x5) + (zLet (zM m G) p1 (G 841 (m + 0) 0))) - 48) ≤ p4 ∧ x6 ≠ 0) ∨ ((((¬ (zM m G 20 p1 ≤ G 841 (m + 0) 0)) ∧ 48 ≤ (zLet (zM m G) p1 (G 841 (m + 0) 0)) ∧ (zLet (zM m G) p1 (G 841 (m + 0) 0)) ≤ 57 ∧ x6 ≤ 0) ∨ ((¬ (zM m G 20 p1 ≤ G 841 (m + 0) 0)) ∧ 48 ≤ (zLet (zM m G) p1 (G 841 (m + 0) 0)) ∧ (zLet (zM m G) p1 (G 841 (m + 0) 0)) ≤ 57 ∧ 0 < x6 ∧ x5 ≠ 0)) ∧ (((10 * x5) + (zLet (zM m G) p1 (G 841 (m + 0) 0))) - 48) ≤ p4 ∧ x6 = 0 ∧ (((10 * x5) + (zLet (zM m G) p1 (G 841 (m + 0) 0))) - 48) ≠ 0) ∨ ((((¬ (zM m G 20 p1 ≤ G 841 (m + 0) 0)) ∧ 48 ≤ (zLet (zM m G) p1 (G 841 (m + 0) 0)) ∧ (zLet (zM m G) p1 (G 841 (m + 0) 0)) ≤ 57 ∧ x6 ≤ 0) ∨ ((¬ (zM m G 20 p1 ≤ G 841 (m + 0) 0)) ∧ 48 ≤ (zLet (zM m G) p1 (G 841 (m + 0) 0)) ∧ (zLet (zM m G) p1 (G 841 (m + 0) 0)) ≤ 57 ∧ 0 < x6 ∧ x5 ≠ 0)) ∧ (((10 * x5) + (zLet (zM m G) p1 (G 841 (m + 0) 0))) - 48) ≤ p4 ∧ x6 = 0 ∧ (((10 * x5) + (zLet (zM m G) p1 (G 841 (m + 0) 0))) - 48) = 0 ∧ p3 ≤ 0)) → (inI (x6 + 1)) ∧ ((inI ((G 841 (m + 0) 0) + 1)) ∧ (∀ G33 : gH, G33 = gU G 841 (m + 0) 0 ((G 841 (m + 0) 0) + 1) → EX e b m m_M_number Z kc ks 35 [(2, (m + 0)), (0, p1), (9, 0), (0, p3), (0, p4), (0, (((10 * x5) + (zLet (zM m G) p1 (G 841 (m + 0) 0))) - 48)), (0, (x6 + 1)), (9, 0)] [] G33))) ∧ ((zM m G 20 p1 ≤ G 841 (m + 0) 0 ∨ ((¬ (zM m G 20 p1 ≤ G 841 (m + 0) 0)) ∧ (zLet (zM m G) p1 (G 841 (m + 0) 0)) < 48) ∨ ((¬ (zM m G 20 p1 ≤ G 841 (m + 0) 0)) ∧ 48 ≤ (zLet (zM m G) p1 (G 841 (m + 0) 0)) ∧ 57 < (zLet (zM m G) p1 (G 841 (m + 0) 0)))) → (x6 ≠ 0 → Z x5 G) ∧ (x6 = 0 → Z (-1) G)) ∧ ((((¬ (zM m G 20 p1 ≤ G 841 (m + 0) 0)) ∧ 48 ≤ (zLet (zM m G) p1 (G 841 (m + 0) 0)) ∧ (zLet (zM m G) p1 (G 841 (m + 0) 0)) ≤ 57 ∧ 0 < x6 ∧ x5 = 0) ∨ ((((¬ (zM m G 20 p1 ≤ G 841 (m + 0) 0)) ∧ 48 ≤ (zLet (zM m G) p1 (G 841 (m + 0) 0)) ∧ (zLet (zM m G) p1 (G 841 (m + 0) 0)) ≤ 57 ∧ x6 ≤ 0) ∨ ((¬ (zM m G 20 p1 ≤ G 841 (m + 0) 0)) ∧ 48 ≤ (zLet (zM m G) p1 (G 841 (m + 0) 0)) ∧ (zLet (zM m G) p1 (G 841 (m + 0) 0)) ≤ 57 ∧ 0 < x6 ∧ x5 ≠ 0)) ∧ (((10 * x5) + (zLet (zM m G) p1 (G 841 (m + 0) 0))) - 48) ≤ p4 ∧ x6 = 0 ∧ (((10 * x5) + (zLet (zM m G) p1 (G 841 (m + 0) 0))) - 48) = 0 ∧ 0 < p3) ∨ ((((¬ (zM m G 20 p1 ≤ G 841 (m + 0) 0)) ∧ 48 ≤ (zLet (zM m G) p1 (G 841 (m + 0) 0)) ∧ (zLet (zM m G) p1 (G 841 (m + 0) 0)) ≤ 57 ∧ x6 ≤ 0) ∨ ((¬ (zM m G 20 p1 ≤ G 841 (m + 0) 0)) ∧ 48 ≤ (zLet (zM m G) p1 (G 841 (m + 0) 0)) ∧ (zLet (zM m G) p1 (G 841 (m + 0) 0)) ≤ 57 ∧ 0 < x6 ∧ x5 ≠ 0)) ∧ p4 < (((10 * x5) + (zLet (zM m G) p1 (G 841 (m + 0) 0))) - 48))) → (x6 ≠ 0 → Z x5 G) ∧ (x6 = 0 → Z (-1) G))) : EX e b m m_M_number Z kc ks 35 [(2, (m + 0)), (0, p1), (9, 0), (0, p3), (0, p4), (0, x5), (0, x6), (9, 0)] [] G := by
  obtain ⟨h, hJ21, hJ30, hJ34, hJ37⟩ := h
  have kJ37 : (((¬ (zM m G 20 p1 ≤ G 841 (m + 0) 0)) ∧ 48 ≤ (zLet (zM m G) p1 (G 841 (m + 0) 0)) ∧ (zLet (zM m G) p1 (G 841 (m + 0) 0)) ≤ 57 ∧ 0 < x6 ∧ x5 = 0) ∨ ((((¬ (zM m G 20 p1 ≤ G 841 (m + 0) 0)) ∧ 48 ≤ (zLet (zM m G) p1 (G 841 (m + 0) 0)) ∧ (zLet (zM m G) p1 (G 841 (m + 0) 0)) ≤ 57 ∧ x6 ≤ 0) ∨ ((¬ (zM m G 20 p1 ≤ G 841 (m + 0) 0)) ∧ 48 ≤ (zLet (zM m G) p1 (G 841 (m + 0) 0)) ∧ (zLet (zM m G) p1 (G 841 (m + 0) 0)) ≤ 57 ∧ 0 < x6 ∧ x5 ≠ 0)) ∧ (((10 * x5) + (zLet (zM m G) p1 (G 841 (m + 0) 0))) - 48) ≤ p4 ∧ x6 = 0 ∧ (((10 * x5) + (zLet (zM m G) p1 (G 841 (m + 0) 0))) - 48) = 0 ∧ 0 < p3) ∨ ((((¬ (zM m G 20 p1 ≤ G 841 (m + 0) 0)) ∧ 48 ≤ (zLet (zM m G) p1 (G 841 (m + 0) 0)) ∧ (zLet (zM m G) p1 (G 841 (m + 0) 0)) ≤ 57 ∧ x6 ≤ 0) ∨ ((¬ (zM m G 20 p1 ≤ G 841 (m + 0) 0)) ∧ 48 ≤ (zLet (zM m G) p1 (G 841 (m + 0) 0)) ∧ (zLet (zM m G) p1 (G 841 (m + 0) 0)) ≤ 57 ∧ 0 < x6 ∧ x5 ≠ 0)) ∧ p4 < (((10 * x5) + (zLet (zM m G) p1 (G 841 (m + 0) 0))) - 48))) → EX e b m m_M_number Z kc ks 136 [(2, (m + 0)), (0, p1), (9, 0), (0, p3), (0, p4), (0, x5), (0, x6), (0, (((10 * x5) + (zLet (zM m G) p1 (G 841 (m + 0) 0))) - 48))] [] G := by
    intro rJ37
    have h := hJ37 rJ37
    refine e_iload d_M_number_136 rfl ?_
    refine e_if_ne (tgt := 145) d_M_number_138 (by decide) (fun q38 => ?_) (fun q39 => ?_)
    · have h := h.1 q38
      refine e_iload d_M_number_145 rfl ?_
      exact e_iret d_M_number_147 rfl h
    · have h := h.2 q39
      refine e_iconst d_M_number_141 (by decide) ?_
      refine e_goto (tgt := 147) d_M_number_142 (by decide) ?_
      exact e_iret d_M_number_147 rfl h
  have kJ34 : (zM m G 20 p1 ≤ G 841 (m + 0) 0 ∨ ((¬ (zM m G 20 p1 ≤ G 841 (m + 0) 0)) ∧ (zLet (zM m G) p1 (G 841 (m + 0) 0)) < 48) ∨ ((¬ (zM m G 20 p1 ≤ G 841 (m + 0) 0)) ∧ 48 ≤ (zLet (zM m G) p1 (G 841 (m + 0) 0)) ∧ 57 < (zLet (zM m G) p1 (G 841 (m + 0) 0)))) → EX e b m m_M_number Z kc ks 136 [(2, (m + 0)), (0, p1), (9, 0), (0, p3), (0, p4), (0, x5), (0, x6), (9, 0)] [] G := by
    intro rJ34
    have h := hJ34 rJ34
    refine e_iload d_M_number_136 rfl ?_
    refine e_if_ne (tgt := 145) d_M_number_138 (by decide) (fun q35 => ?_) (fun q36 => ?_)
    · have h := h.1 q35
      refine e_iload d_M_number_145 rfl ?_
      exact e_iret d_M_number_147 rfl h
    · have h := h.2 q36
      refine e_iconst d_M_number_141 (by decide) ?_
      refine e_goto (tgt := 147) d_M_number_142 (by decide) ?_
      exact e_iret d_M_number_147 rfl h
  have kJ30 : (((((¬ (zM m G 20 p1 ≤ G 841 (m + 0) 0)) ∧ 48 ≤ (zLet (zM m G) p1 (G 841 (m + 0) 0)) ∧ (zLet (zM m G) p1 (G 841 (m + 0) 0)) ≤ 57 ∧ x6 ≤ 0) ∨ ((¬ (zM m G 20 p1 ≤ G 841 (m + 0) 0)) ∧ 48 ≤ (zLet (zM m G) p1 (G 841 (m + 0) 0)) ∧ (zLet (zM m G) p1 (G 841 (m + 0) 0)) ≤ 57 ∧ 0 < x6 ∧ x5 ≠ 0)) ∧ (((10 * x5) + (zLet (zM m G) p1 (G 841 (m + 0) 0))) - 48) ≤ p4 ∧ x6 ≠ 0) ∨ ((((¬ (zM m G 20 p1 ≤ G 841 (m + 0) 0)) ∧ 48 ≤ (zLet (zM m G) p1 (G 841 (m + 0) 0)) ∧ (zLet (zM m G) p1 (G 841 (m + 0) 0)) ≤ 57 ∧ x6 ≤ 0) ∨ ((¬ (zM m G 20 p1 ≤ G 841 (m + 0) 0)) ∧ 48 ≤ (zLet (zM m G) p1 (G 841 (m + 0) 0)) ∧ (zLet (zM m G) p1 (G 841 (m + 0) 0)) ≤ 57 ∧ 0 < x6 ∧ x5 ≠ 0)) ∧ (((10 * x5) + (zLet (zM m G) p1 (G 841 (m + 0) 0))) - 48) ≤ p4 ∧ x6 = 0 ∧ (((10 * x5) + (zLet (zM m G) p1 (G 841 (m + 0) 0))) - 48) ≠ 0) ∨ ((((¬ (zM m G 20 p1 ≤ G 841 (m + 0) 0)) ∧ 48 ≤ (zLet (zM m G) p1 (G 841 (m + 0) 0)) ∧ (zLet (zM m G) p1 (G 841 (m + 0) 0)) ≤ 57 ∧ x6 ≤ 0) ∨ ((¬ (zM m G 20 p1 ≤ G 841 (m + 0) 0)) ∧ 48 ≤ (zLet (zM m G) p1 (G 841 (m + 0) 0)) ∧ (zLet (zM m G) p1 (G 841 (m + 0) 0)) ≤ 57 ∧ 0 < x6 ∧ x5 ≠ 0)) ∧ (((10 * x5) + (zLet (zM m G) p1 (G 841 (m + 0) 0))) - 48) ≤ p4 ∧ x6 = 0 ∧ (((10 * x5) + (zLet (zM m G) p1 (G 841 (m + 0) 0))) - 48) = 0 ∧ p3 ≤ 0)) → EX e b m m_M_number Z kc ks 116 [(2, (m + 0)), (0, p1), (9, 0), (0, p3), (0, p4), (0, x5), (0, x6), (0, (((10 * x5) + (zLet (zM m G) p1 (G 841 (m + 0) 0))) - 48))] [] G := by
    intro rJ30
    have h := hJ30 rJ30
    refine e_iload d_M_number_116 rfl ?_
    refine e_istore (ls' := [(2, (m + 0)), (0, p1), (9, 0), (0, p3), (0, p4), (0, (((10 * x5) + (zLet (zM m G) p1 (G 841 (m + 0) 0))) - 48)), (0, x6), (0, (((10 * x5) + (zLet (zM m G) p1 (G 841 (m + 0) 0))) - 48))]) d_M_number_118 (by decide) rfl ?_
    obtain ⟨o31, h⟩ := h
    refine e_iinc (ls' := [(2, (m + 0)), (0, p1), (9, 0), (0, p3), (0, p4), (0, (((10 * x5) + (zLet (zM m G) p1 (G 841 (m + 0) 0))) - 48)), (0, (x6 + 1)), (0, (((10 * x5) + (zLet (zM m G) p1 (G 841 (m + 0) 0))) - 48))]) d_M_number_120 rfl (by decide) o31 rfl ?_
    refine e_aload_n d_M_number_123 rfl ?_
    refine e_dup d_M_number_124 (by simp) ?_
    refine gx_M_181 d_M_number_125 rfl ?_
    refine e_iconst d_M_number_128 (by decide) ?_
    obtain ⟨o32, h⟩ := h
    refine e_iadd d_M_number_129 o32 ?_
    refine px_M_181 d_M_number_130 rfl ?_
    let G33 : gH := gU G 841 (m + 0) 0 ((G 841 (m + 0) 0) + 1)
    have h := h G33 rfl
    refine e_goto (tgt := 35) d_M_number_133 (by decide) ?_
    exact e_forget (ls' := [(2, (m + 0)), (0, p1), (9, 0), (0, p3), (0, p4), (0, (((10 * x5) + (zLet (zM m G) p1 (G 841 (m + 0) 0))) - 48)), (0, (x6 + 1)), (9, 0)]) ⟨Or.inr rfl, Or.inr rfl, Or.inl rfl, Or.inr rfl, Or.inr rfl, Or.inr rfl, Or.inr rfl, Or.inl rfl, trivial⟩ h
  have kJ21 : (((¬ (zM m G 20 p1 ≤ G 841 (m + 0) 0)) ∧ 48 ≤ (zLet (zM m G) p1 (G 841 (m + 0) 0)) ∧ (zLet (zM m G) p1 (G 841 (m + 0) 0)) ≤ 57 ∧ x6 ≤ 0) ∨ ((¬ (zM m G 20 p1 ≤ G 841 (m + 0) 0)) ∧ 48 ≤ (zLet (zM m G) p1 (G 841 (m + 0) 0)) ∧ (zLet (zM m G) p1 (G 841 (m + 0) 0)) ≤ 57 ∧ 0 < x6 ∧ x5 ≠ 0)) → EX e b m m_M_number Z kc ks 89 [(2, (m + 0)), (0, p1), (9, 0), (0, p3), (0, p4), (0, x5), (0, x6), (0, (((10 * x5) + (zLet (zM m G) p1 (G 841 (m + 0) 0))) - 48))] [] G := by
    intro rJ21
    refine e_iload d_M_number_89 rfl ?_
    refine e_iload d_M_number_91 rfl ?_
    refine e_icmp_le (tgt := 99) d_M_number_93 (by decide) (fun q22 => ?_) (fun q23 => ?_)
    · refine e_iload d_M_number_99 rfl ?_
      refine e_if_ne (tgt := 116) d_M_number_101 (by decide) (fun q24 => ?_) (fun q25 => ?_)
      · exact kJ30 (Or.inl ⟨rJ21, q22, q24⟩)
      · refine e_iload d_M_number_104 rfl ?_
        refine e_if_ne (tgt := 116) d_M_number_106 (by decide) (fun q26 => ?_) (fun q27 => ?_)
        · exact kJ30 (Or.inr (Or.inl ⟨rJ21, q22, q25, q26⟩))
        · refine e_iload_n d_M_number_109 rfl ?_
          refine e_if_le (tgt := 116) d_M_number_110 (by decide) (fun q28 => ?_) (fun q29 => ?_)
          · exact kJ30 (Or.inr (Or.inr ⟨rJ21, q22, q25, q27, q28⟩))
          · refine e_goto (tgt := 136) d_M_number_113 (by decide) ?_
            exact kJ37 (Or.inr (Or.inl ⟨rJ21, q22, q25, q27, q29⟩))
    · refine e_goto (tgt := 136) d_M_number_96 (by decide) ?_
      exact kJ37 (Or.inr (Or.inr ⟨rJ21, q23⟩))
  refine e_aload_n d_M_number_35 rfl ?_
  refine e_iload_n d_M_number_36 rfl ?_
  refine EV.inv fun hFf1 => ?_
  have f1 := (fx_mt 0 rfl hFf1).1
  obtain ⟨o2, h⟩ := h
  refine e_callV m_M_isEnd 12 lw_good d_M_number_37 (k_M_isEnd _) ⟨Nat.le_of_ble_eq_true rfl, Nat.le_of_ble_eq_true rfl⟩ w_1600 w_1602 w_s46 (q_M _) rfl f1 (args := [(0, p1)]) rfl rfl (Nat.le_of_ble_eq_true rfl) (kc' := kc) (ks' := ks) (mc := 0) (ms := 0) rfl rfl (c_M_isEnd o2) (pureK ?_)
  refine e_if_ne (tgt := 136) d_M_number_40 (by decide) (fun q3 => ?_) (fun q4 => ?_)
  · replace q3 := gb1.mp q3
    exact kJ34 (Or.inl q3)
  · replace q4 := gb0.mp q4
    have h := h q4
    refine e_aload_n d_M_number_43 rfl ?_
    refine e_iload_n d_M_number_44 rfl ?_
    refine EV.inv fun hFf5 => ?_
    have f5 := (fx_mt 0 rfl hFf5).1
    obtain ⟨o6, o7, h⟩ := h
    refine e_callV m_M_letter 12 lw_good d_M_number_45 (k_M_letter _) ⟨Nat.le_of_ble_eq_true rfl, Nat.le_of_ble_eq_true rfl⟩ w_1604 w_1606 w_s47 (q_M _) rfl f5 (args := [(0, p1)]) rfl rfl (Nat.le_of_ble_eq_true rfl) (kc' := kc) (ks' := ks) (mc := 0) (ms := 0) rfl rfl (c_M_letter o6 o7) (pureK ?_)
    refine e_bipush d_M_number_48 (by decide) (by decide) ?_
    refine e_icmp_lt (tgt := 136) d_M_number_50 (by decide) (fun q8 => ?_) (fun q9 => ?_)
    · exact kJ34 (Or.inr (Or.inl ⟨q4, q8⟩))
    · have h := h q9
      refine e_aload_n d_M_number_53 rfl ?_
      refine e_iload_n d_M_number_54 rfl ?_
      refine EV.inv fun hFf10 => ?_
      have f10 := (fx_mt 0 rfl hFf10).1
      refine e_callV m_M_letter 12 lw_good d_M_number_55 (k_M_letter _) ⟨Nat.le_of_ble_eq_true rfl, Nat.le_of_ble_eq_true rfl⟩ w_1604 w_1606 w_s47 (q_M _) rfl f10 (args := [(0, p1)]) rfl rfl (Nat.le_of_ble_eq_true rfl) (kc' := kc) (ks' := ks) (mc := 0) (ms := 0) rfl rfl (c_M_letter o6 o7) (pureK ?_)
      refine e_bipush d_M_number_58 (by decide) (by decide) ?_
      refine e_icmp_gt (tgt := 136) d_M_number_60 (by decide) (fun q11 => ?_) (fun q12 => ?_)
      · exact kJ34 (Or.inr (Or.inr ⟨q4, q9, q11⟩))
      · have h := h q12
        refine e_bipush d_M_number_63 (by decide) (by decide) ?_
        refine e_iload d_M_number_65 rfl ?_
        obtain ⟨o13, h⟩ := h
        refine e_imul d_M_number_67 o13 ?_
        refine e_aload_n d_M_number_68 rfl ?_
        refine e_iload_n d_M_number_69 rfl ?_
        refine EV.inv fun hFf14 => ?_
        have f14 := (fx_mt 0 rfl hFf14).1
        refine e_callV m_M_letter 12 lw_good d_M_number_70 (k_M_letter _) ⟨Nat.le_of_ble_eq_true rfl, Nat.le_of_ble_eq_true rfl⟩ w_1604 w_1606 w_s47 (q_M _) rfl f14 (args := [(0, p1)]) rfl rfl (Nat.le_of_ble_eq_true rfl) (kc' := kc) (ks' := ks) (mc := 0) (ms := 0) rfl rfl (c_M_letter o6 o7) (pureK ?_)
        obtain ⟨o15, h⟩ := h
        refine e_iadd d_M_number_73 o15 ?_
        refine e_bipush d_M_number_74 (by decide) (by decide) ?_
        have o16 := h
        refine e_isub d_M_number_76 o16 ?_
        refine e_istore (ls' := [(2, (m + 0)), (0, p1), (9, 0), (0, p3), (0, p4), (0, x5), (0, x6), (0, (((10 * x5) + (zLet (zM m G) p1 (G 841 (m + 0) 0))) - 48))]) d_M_number_77 (by decide) rfl ?_
        refine e_iload d_M_number_79 rfl ?_
        refine e_if_le (tgt := 89) d_M_number_81 (by decide) (fun q17 => ?_) (fun q18 => ?_)
        · exact kJ21 (Or.inl ⟨q4, q9, q12, q17⟩)
        · refine e_iload d_M_number_84 rfl ?_
          refine e_if_eq (tgt := 136) d_M_number_86 (by decide) (fun q19 => ?_) (fun q20 => ?_)
          · exact kJ37 (Or.inl ⟨q4, q9, q12, q18, q19⟩)
          · exact kJ21 (Or.inr ⟨q4, q9, q12, q18, q20⟩)
theorem zM_pl {m : Int} {G : gH} {v : Int} : zM m (gU G 841 (m + 0) 0 v) = zM m G := zM_n (Or.inr (by decide))
/-- the digits of a number: v of d digits so far, f more may come -/
def zDig (L : Int → Int) (n least most : Int) : Nat → Int → Int → Int → Int × Int
  | 0, p, v, d => (if d = 0 then -1 else v, p)
  | f + 1, p, v, d => if (p < n ∧ 48 ≤ L p ∧ L p ≤ 57) ∧ (d ≤ 0 ∨ v ≠ 0) ∧ 10 * v + L p - 48 ≤ most ∧ ¬ (d = 0 ∧ 10 * v + L p - 48 = 0 ∧ 0 < least) then zDig L n least most f (p + 1) (10 * v + L p - 48) (d + 1) else (if d = 0 then -1 else v, p)
def zNum (A : zA) (s sign least most p : Int) : Int × Int := if p < A 20 s ∧ zLet A s p = sign then zDig (zLet A s) (A 20 s) least most 3 (p + 1) 0 0 else (-1, p)
theorem l_M_number {e : gE} {b : Nat} {m : Int} {Z : Int → gH → Prop} {kc ks : Nat} {G0 : gH} {s lo hi : Int} (A : zA) (hs : zSh s) (hn : 0 ≤ A 20 s ∧ A 20 s ≤ 60) (hh : 0 ≤ hi ∧ hi ≤ 100) (f : Nat) : ∀ (p v d : Int) (G : gH), d + f = 3 → ((d = 0 ∧ v = 0) ∨ (d = 1 ∧ 0 ≤ v ∧ v ≤ hi) ∨ (d = 2 ∧ 10 ≤ v ∧ v ≤ hi) ∨ (d = 3 ∧ 100 ≤ v ∧ v ≤ hi)) → 0 ≤ p → p ≤ 61 → G 841 (m + 0) 0 = p → zM m G = A → zC m G0 G → (∀ G1, zM m G1 = A → zC m G0 G1 → G1 841 (m + 0) 0 = (zDig (zLet A s) (A 20 s) lo hi f p v d).2 → Z (zDig (zLet A s) (A 20 s) lo hi f p v d).1 G1) → EX e b m m_M_number Z kc ks 35 [(2, (m + 0)), (0, s), (9, 0), (0, lo), (0, hi), (0, v), (0, d), (9, 0)] [] G := by
  induction f with
  | zero =>
    intro p v d G hd hv hp hp2 hG hA hC hZ
    have out : (d ≠ 0 → Z v G) ∧ (d = 0 → Z (-1) G) := by
      have := hZ G hA hC hG
      simp only [zDig] at this
      rw [if_neg (by omega)] at this
      exact ⟨fun _ => this, fun q => by omega⟩
    refine sg_M_number_35 ?_
    rw [hG, hA]
    exact ⟨⟨hs, fun q => ⟨⟨hs, hn.2⟩, hp, fun q2 q3 => ⟨by omega, by omega, by omega⟩⟩⟩, fun _ => trivial, fun q => by omega, fun _ => out, fun _ => out⟩
  | succ f ih =>
    intro p v d G hd hv hp hp2 hG hA hC hZ
    simp only [zDig] at hZ
    by_cases q : (p < A 20 s ∧ 48 ≤ zLet A s p ∧ zLet A s p ≤ 57) ∧ (d ≤ 0 ∨ v ≠ 0) ∧ 10 * v + zLet A s p - 48 ≤ hi ∧ ¬ (d = 0 ∧ 10 * v + zLet A s p - 48 = 0 ∧ 0 < lo)
    · rw [if_pos q] at hZ
      refine sg_M_number_35 ?_
      rw [hG, hA]
      refine ⟨⟨hs, fun _ => ⟨⟨hs, hn.2⟩, hp, fun q2 q3 => ⟨by omega, by omega, by omega⟩⟩⟩, fun _ => trivial, fun _ => ⟨by omega, by omega, ?_⟩, fun z => by omega, fun z => by omega⟩
      rintro _ rfl
      exact ih (p + 1) _ _ _ (by omega) (by omega) (by omega) (by omega) gU_eq (zM_pl.trans hA) (zC_u hC (by decide)) hZ
    · rw [if_neg q] at hZ
      have out : (d ≠ 0 → Z v G) ∧ (d = 0 → Z (-1) G) := by
        have := hZ G hA hC hG
        exact ⟨fun z => by rw [if_neg z] at this; exact this, fun z => by rw [if_pos z] at this; exact this⟩
      refine sg_M_number_35 ?_
      rw [hG, hA]
      exact ⟨⟨hs, fun q => ⟨⟨hs, hn.2⟩, hp, fun q2 q3 => ⟨by omega, by omega, by omega⟩⟩⟩, fun _ => trivial, fun z => absurd q (by omega), fun _ => out, fun _ => out⟩
