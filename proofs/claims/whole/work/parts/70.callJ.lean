/-! THE CLASS, 21: air and weeks -/
set_option maxRecDepth 20000 in
set_option maxHeartbeats 4000000 in
theorem sg_Place_airOf_0 {e : gE} {b : Nat} {m : Int} {Z : Int → gH → Prop} {kc ks : Nat} {G : gH} {a0 p1 : Int} (t0 : G 0 a0 0 = 5) (h : (G 0 (G 275 a0 0) 0 = 7) ∧ (G 0 (G 275 a0 0) 0 = 7) ∧ (zEl G (G 275 a0 0)) ∧ (0 ≤ G 401 (G 275 a0 0) 0 ∧ G 401 (G 275 a0 0) 0 < 4) ∧ Z (if (0 < G 402 (G 275 a0 0) 0 ∧ 0 ≤ p1) ∧ G 2 (G 400 (G 275 a0 0) 0) (p1 % G 402 (G 275 a0 0) 0) ≠ gt11 (G 401 (G 275 a0 0) 0) then w32 (G 2 (G 400 (G 275 a0 0) 0) (p1 % G 402 (G 275 a0 0) 0)) else 1099511627776) G) : EX e b m m_Place_airOf Z kc ks 0 [(2, a0), (0, p1)] [] G := by
  refine e_aload_n d_Place_airOf_0 rfl ?_
  refine gf_Place_22 d_Place_airOf_1 rfl t0 ?_
  refine e_iload_n d_Place_airOf_4 rfl ?_
  obtain ⟨o1, o2, o3, o4, h⟩ := h
  refine e_callV m_Row_airOf 6 lw_good d_Place_airOf_5 (k_Row_airOf _) ⟨Nat.le_of_ble_eq_true rfl, Nat.le_of_ble_eq_true rfl⟩ w_1075 w_1076 w_1077 (q_Row _) rfl o1 (args := [(0, p1)]) rfl rfl (Nat.le_of_ble_eq_true rfl) (kc' := kc) (ks' := ks) (mc := 0) (ms := 0) rfl rfl (c_Row_airOf o2 o3 o4) (pureK ?_)
  exact e_lret d_Place_airOf_8 rfl h
def zAo (G : gH) (r w : Int) : Int := if (0 < G 402 r 0 ∧ 0 ≤ w) ∧ G 2 (G 400 r 0) (w % G 402 r 0) ≠ gt11 (G 401 r 0) then w32 (G 2 (G 400 r 0) (w % G 402 r 0)) else 1099511627776
theorem c_Place_airOf {e : gE} {b : Nat} {m : Int} {G : gH} {a0 p1 : Int} (h1 : G 0 a0 0 = 5) (h2 : G 0 (G 275 a0 0) 0 = 7) (h3 : zEl G (G 275 a0 0)) (h4 : 0 ≤ G 401 (G 275 a0 0) 0 ∧ G 401 (G 275 a0 0) 0 < 4) : GX e b m m_Place_airOf [(2, a0), (0, p1)] G 0 0 (fun v9 G9 => v9 = (zAo G (G 275 a0 0) p1 : Int) ∧ G9 = G) := by
  refine GM.ofEV (by decide) (Nat.le_of_ble_eq_true rfl) (sg_Place_airOf_0 h1 ?_)
  exact ⟨h2, h2, h3, h4, rfl, rfl⟩
theorem zAo_e {e : gE} {b : Nat} {m : Int} {G : gH} {A : zA} {P : Int → Int} {p w : Int} (hP : zRkP e b m G A P) (hB : zB 512 A) (hp : 0 ≤ p ∧ p < A 787 0) (hw : 0 ≤ w) : zAo G (G 275 (P p) 0) w = if zMiss A p w then 1099511627776 else zAir A p w := by
  obtain ⟨-, q2, q3, q4⟩ := hP.2.1 p hp.1 hp.2
  have bs : 0 ≤ A 26 p ∧ A 26 p ≤ 60 := hB 26 p
  have bo : 0 ≤ A 27 p ∧ A 27 p ≤ 3 := hB 27 p
  unfold zAo
  rw [q2.2.2.1, q2.2.2.2]
  by_cases z : A 26 p = 0
  · rw [if_neg (fun y => by omega), if_pos (Or.inl z)]
  · have md : 0 ≤ w % A 26 p ∧ w % A 26 p < A 26 p := ⟨Int.emod_nonneg _ z, Int.emod_lt_of_pos _ (by omega)⟩
    have e1 : G 2 (G 400 (G 275 (P p) 0) 0) (w % A 26 p) = zCl A p w := q4 _ md.1 md.2
    have e2 : gt11 (A 27 p) = zLst (A 27 p) := rfl
    rw [e1, e2]
    by_cases y : zCl A p w = zLst (A 27 p)
    · rw [if_neg (fun x => x.2 y), if_pos (Or.inr y)]
    · rw [if_pos ⟨⟨by omega, hw⟩, y⟩, if_neg (by rintro (x | x); exact z x; exact y x)]
      rfl
theorem zPl_pre {e : gE} {b : Nat} {m : Int} {G : gH} {A : zA} {P : Int → Int} {p : Int} (hP : zRkP e b m G A P) (hB : zB 512 A) (hp : 0 ≤ p ∧ p < A 787 0) : G 0 (P p) 0 = 5 ∧ G 0 (G 275 (P p) 0) 0 = 7 ∧ zEl G (G 275 (P p) 0) ∧ 0 ≤ G 401 (G 275 (P p) 0) 0 ∧ G 401 (G 275 (P p) 0) 0 < 4 := by
  obtain ⟨-, q2, q3, q4⟩ := hP.2.1 p hp.1 hp.2
  have bs : 0 ≤ A 26 p ∧ A 26 p ≤ 60 := hB 26 p
  have bo : 0 ≤ A 27 p ∧ A 27 p ≤ 3 := hB 27 p
  exact ⟨hP.1.2.2.1 p hp.1 hp.2, q2.2.1, ⟨q3.2.1, by rw [q2.2.2.2, q3.2.2]; exact bs.2⟩, by rw [q2.2.2.1]; omega, by rw [q2.2.2.1]; omega⟩
theorem zAir_n {A : zA} {p w : Int} : zAir A p w ≠ 1099511627776 := by
  have := zAir_b (A := A) (p := p) (w := w)
  intro z
  rw [z] at this
  exact absurd this (by decide)
set_option maxRecDepth 20000 in
set_option maxHeartbeats 4000000 in
theorem sg_C_airIn_0 {e : gE} {b : Nat} {m : Int} {Z : Int → gH → Prop} {kc ks : Nat} {G : gH} {p1 p2 : Int} (h : ((0 ≤ G 18 ((b : Int) + 19) 0 ∧ G 18 ((b : Int) + 19) 0 ≤ 5) ∧ ((G 0 ((b : Int) + 19) 0 = 1) ∧ ((0 ≤ p1 ∧ p1 < G 18 ((b : Int) + 19) 0 → G 0 (G 17 ((b : Int) + 19) 0) 0 = 103 ∧ G 18 ((b : Int) + 19) 0 ≤ G 0 (G 17 ((b : Int) + 19) 0) 1 ∧ G 0 (G 3 (G 17 ((b : Int) + 19) 0) p1) 0 = 5) ∧ (((if 0 ≤ p1 ∧ p1 < G 18 ((b : Int) + 19) 0 then G 3 (G 17 ((b : Int) + 19) 0) p1 else 0) ≠ 0) → (0 ≤ p2 → (G 0 (if 0 ≤ p1 ∧ p1 < G 18 ((b : Int) + 19) 0 then G 3 (G 17 ((b : Int) + 19) 0) p1 else 0) 0 = 5) ∧ ((G 0 (if 0 ≤ p1 ∧ p1 < G 18 ((b : Int) + 19) 0 then G 3 (G 17 ((b : Int) + 19) 0) p1 else 0) 0 = 5) ∧ ((G 0 (G 275 (if 0 ≤ p1 ∧ p1 < G 18 ((b : Int) + 19) 0 then G 3 (G 17 ((b : Int) + 19) 0) p1 else 0) 0) 0 = 7) ∧ ((zEl G (G 275 (if 0 ≤ p1 ∧ p1 < G 18 ((b : Int) + 19) 0 then G 3 (G 17 ((b : Int) + 19) 0) p1 else 0) 0)) ∧ ((0 ≤ G 401 (G 275 (if 0 ≤ p1 ∧ p1 < G 18 ((b : Int) + 19) 0 then G 3 (G 17 ((b : Int) + 19) 0) p1 else 0) 0) 0 ∧ G 401 (G 275 (if 0 ≤ p1 ∧ p1 < G 18 ((b : Int) + 19) 0 then G 3 (G 17 ((b : Int) + 19) 0) p1 else 0) 0) 0 < 4) ∧ ((((zAo G (G 275 (if 0 ≤ p1 ∧ p1 < G 18 ((b : Int) + 19) 0 then G 3 (G 17 ((b : Int) + 19) 0) p1 else 0) 0) p2) ≠ 1099511627776) → Z (w32 (zAo G (G 275 (if 0 ≤ p1 ∧ p1 < G 18 ((b : Int) + 19) 0 then G 3 (G 17 ((b : Int) + 19) 0) p1 else 0) 0) p2)) G) ∧ (((zAo G (G 275 (if 0 ≤ p1 ∧ p1 < G 18 ((b : Int) + 19) 0 then G 3 (G 17 ((b : Int) + 19) 0) p1 else 0) 0) p2) = 1099511627776) → Z (-2) G))))))))))) ∧ (((((if 0 ≤ p1 ∧ p1 < G 18 ((b : Int) + 19) 0 then G 3 (G 17 ((b : Int) + 19) 0) p1 else 0) = 0)) ∨ (((if 0 ≤ p1 ∧ p1 < G 18 ((b : Int) + 19) 0 then G 3 (G 17 ((b : Int) + 19) 0) p1 else 0) ≠ 0) ∧ p2 < 0)) → Z (-1) G)) : EX e b m m_C_airIn Z kc ks 0 [(2, ((b : Int) + 1)), (0, p1), (0, p2), (9, 0), (9, 0), (9, 0)] [] G := by
  obtain ⟨h, hJ16⟩ := h
  have kJ16 : ((((if 0 ≤ p1 ∧ p1 < G 18 ((b : Int) + 19) 0 then G 3 (G 17 ((b : Int) + 19) 0) p1 else 0) = 0)) ∨ (((if 0 ≤ p1 ∧ p1 < G 18 ((b : Int) + 19) 0 then G 3 (G 17 ((b : Int) + 19) 0) p1 else 0) ≠ 0) ∧ p2 < 0)) → EX e b m m_C_airIn Z kc ks 17 [(2, ((b : Int) + 1)), (0, p1), (0, p2), (2, (if 0 ≤ p1 ∧ p1 < G 18 ((b : Int) + 19) 0 then G 3 (G 17 ((b : Int) + 19) 0) p1 else 0)), (9, 0), (9, 0)] [] G := by
    intro rJ16
    have h := hJ16 rJ16
    refine e_iconst d_C_airIn_17 (by decide) ?_
    exact e_iret d_C_airIn_18 rfl h
  refine e_aload_n d_C_airIn_0 rfl ?_
  refine gx_C_37 d_C_airIn_1 rfl ?_
  refine e_iload_n d_C_airIn_4 rfl ?_
  refine EV.inv fun hFf1 => ?_
  have f1 := (fx_ct 17 rfl hFf1).1
  obtain ⟨o2, o3, o4, h⟩ := h
  refine e_callV m_Years_placeAt 10 lw_good d_C_airIn_5 (k_Years_placeAt _) ⟨Nat.le_of_ble_eq_true rfl, Nat.le_of_ble_eq_true rfl⟩ w_1048 w_1049 w_1050 (q_Years _) rfl f1 (args := [(0, p1)]) rfl rfl (Nat.le_of_ble_eq_true rfl) (kc' := kc) (ks' := ks) (mc := 0) (ms := 0) rfl rfl (c_Years_placeAt o2 o3 o4) (pureK ?_)
  refine e_astore_n (ls' := [(2, ((b : Int) + 1)), (0, p1), (0, p2), (2, (if 0 ≤ p1 ∧ p1 < G 18 ((b : Int) + 19) 0 then G 3 (G 17 ((b : Int) + 19) 0) p1 else 0)), (9, 0), (9, 0)]) d_C_airIn_8 (by decide) rfl ?_
  refine e_aload_n d_C_airIn_9 rfl ?_
  refine e_ifnull (tgt := 17) d_C_airIn_10 (by decide) (fun q5 => ?_) (fun q6 => ?_)
  · exact kJ16 (Or.inl q5)
  · have h := h q6
    refine e_iload_n d_C_airIn_13 rfl ?_
    refine e_if_ge (tgt := 19) d_C_airIn_14 (by decide) (fun q7 => ?_) (fun q8 => ?_)
    · have h := h q7
      refine e_aload_n d_C_airIn_19 rfl ?_
      refine e_iload_n d_C_airIn_20 rfl ?_
      obtain ⟨o9, o10, o11, o12, o13, h⟩ := h
      refine e_callV m_Place_airOf 4 lw_good d_C_airIn_21 (k_Place_airOf _) ⟨Nat.le_of_ble_eq_true rfl, Nat.le_of_ble_eq_true rfl⟩ w_1071 w_1072 w_1073 (q_Place _) rfl o9 (args := [(0, p2)]) rfl rfl (Nat.le_of_ble_eq_true rfl) (kc' := kc) (ks' := ks) (mc := 0) (ms := 0) rfl rfl (c_Place_airOf o10 o11 o12 o13) (pureK ?_)
      refine e_lstore (ls' := [(2, ((b : Int) + 1)), (0, p1), (0, p2), (2, (if 0 ≤ p1 ∧ p1 < G 18 ((b : Int) + 19) 0 then G 3 (G 17 ((b : Int) + 19) 0) p1 else 0)), (1, (zAo G (G 275 (if 0 ≤ p1 ∧ p1 < G 18 ((b : Int) + 19) 0 then G 3 (G 17 ((b : Int) + 19) 0) p1 else 0) 0) p2)), (9, 0)]) d_C_airIn_24 (by decide) rfl ?_
      refine e_lload d_C_airIn_26 rfl ?_
      refine e_ldc2 1099511627776 d_C_airIn_28 (by decide) w_1082 ?_
      refine e_lcmp_ne (tgt := 40) d_C_airIn_31 d_C_airIn_32 (by decide) (fun q14 => ?_) (fun q15 => ?_)
      · have h := h.1 q14
        refine e_lload d_C_airIn_40 rfl ?_
        refine e_l2i d_C_airIn_42 ?_
        exact e_iret d_C_airIn_43 rfl h
      · have h := h.2 q15
        refine e_bipush d_C_airIn_35 (by decide) (by decide) ?_
        refine e_goto (tgt := 43) d_C_airIn_37 (by decide) ?_
        exact e_iret d_C_airIn_43 rfl h
    · exact kJ16 (Or.inr ⟨q6, q8⟩)
set_option maxRecDepth 20000 in
set_option maxHeartbeats 4000000 in
theorem sg_Years_farFromBand_0 {e : gE} {b : Nat} {m : Int} {Z : Int → gH → Prop} {kc ks : Nat} {G : gH} {p1 p3 : Int} (h : ((0 ≤ p3 ∧ p3 < 4) → (0 ≤ p3 ∧ p3 < 4) ∧ (inL ((G 1 ((b : Int) + 20) p3) - p1)) ∧ (inL (p1 - (G 1 ((b : Int) + 21) p3))) ∧ Z (w32 (if (if 0 < (if ((G 1 ((b : Int) + 20) p3) - p1) < (p1 - (G 1 ((b : Int) + 21) p3)) then (p1 - (G 1 ((b : Int) + 21) p3)) else ((G 1 ((b : Int) + 20) p3) - p1)) then (if ((G 1 ((b : Int) + 20) p3) - p1) < (p1 - (G 1 ((b : Int) + 21) p3)) then (p1 - (G 1 ((b : Int) + 21) p3)) else ((G 1 ((b : Int) + 20) p3) - p1)) else 0) < 100 then (if 0 < (if ((G 1 ((b : Int) + 20) p3) - p1) < (p1 - (G 1 ((b : Int) + 21) p3)) then (p1 - (G 1 ((b : Int) + 21) p3)) else ((G 1 ((b : Int) + 20) p3) - p1)) then (if ((G 1 ((b : Int) + 20) p3) - p1) < (p1 - (G 1 ((b : Int) + 21) p3)) then (p1 - (G 1 ((b : Int) + 21) p3)) else ((G 1 ((b : Int) + 20) p3) - p1)) else 0) else 100)) G) ∧ ((¬ (0 ≤ p3 ∧ p3 < 4)) → Z 0 G)) : EX e b m m_Years_farFromBand Z kc ks 0 [(2, ((b : Int) + 18)), (1, p1), (9, 0), (0, p3), (9, 0), (9, 0)] [] G := by
  refine e_iload_n d_Years_farFromBand_0 rfl ?_
  refine e_callS m_Years_isKind lw_good d_Years_farFromBand_1 (k_Years_isKind _) ⟨Nat.le_of_ble_eq_true rfl, Nat.le_of_ble_eq_true rfl⟩ w_1091 w_1092 (args := [(0, p3)]) rfl rfl (Nat.le_of_ble_eq_true rfl) (kc' := kc) (ks' := ks) (mc := 0) (ms := 0) rfl rfl (c_Years_isKind) (pureK ?_)
  refine e_if_ne (tgt := 9) d_Years_farFromBand_4 (by decide) (fun q1 => ?_) (fun q2 => ?_)
  · replace q1 := gb1.mp q1
    have h := h.1 q1
    refine e_lconst 0 d_Years_farFromBand_9 (by decide) (by decide) ?_
    refine e_aload_n d_Years_farFromBand_10 rfl ?_
    refine gx_Years_21 d_Years_farFromBand_11 rfl ?_
    refine e_iload_n d_Years_farFromBand_14 rfl ?_
    obtain ⟨o3, h⟩ := h
    refine xC_iald 19 rfl d_Years_farFromBand_15 o3 ?_
    refine e_i2l d_Years_farFromBand_16 ?_
    refine e_lload_n d_Years_farFromBand_17 rfl ?_
    obtain ⟨o4, h⟩ := h
    refine e_lsub d_Years_farFromBand_18 o4 ?_
    refine e_lload_n d_Years_farFromBand_19 rfl ?_
    refine e_aload_n d_Years_farFromBand_20 rfl ?_
    refine gx_Years_25 d_Years_farFromBand_21 rfl ?_
    refine e_iload_n d_Years_farFromBand_24 rfl ?_
    refine xC_iald 20 rfl d_Years_farFromBand_25 o3 ?_
    refine e_i2l d_Years_farFromBand_26 ?_
    obtain ⟨o5, h⟩ := h
    refine e_lsub d_Years_farFromBand_27 o5 ?_
    refine e_callS m_Math_max_b lw_good d_Years_farFromBand_28 (k_Math_max_b _) ⟨Nat.le_of_ble_eq_true rfl, Nat.le_of_ble_eq_true rfl⟩ w_1163 w_751 (args := [(1, ((G 1 ((b : Int) + 20) p3) - p1)), (1, (p1 - (G 1 ((b : Int) + 21) p3)))]) rfl rfl (Nat.le_of_ble_eq_true rfl) (kc' := kc) (ks' := ks) (mc := 0) (ms := 0) rfl rfl (c_Math_max_b) (pureK ?_)
    refine e_callS m_Math_max_b lw_good d_Years_farFromBand_31 (k_Math_max_b _) ⟨Nat.le_of_ble_eq_true rfl, Nat.le_of_ble_eq_true rfl⟩ w_1163 w_751 (args := [(1, 0), (1, (if ((G 1 ((b : Int) + 20) p3) - p1) < (p1 - (G 1 ((b : Int) + 21) p3)) then (p1 - (G 1 ((b : Int) + 21) p3)) else ((G 1 ((b : Int) + 20) p3) - p1)))]) rfl rfl (Nat.le_of_ble_eq_true rfl) (kc' := kc) (ks' := ks) (mc := 0) (ms := 0) rfl rfl (c_Math_max_b) (pureK ?_)
    refine e_lstore (ls' := [(2, ((b : Int) + 18)), (1, p1), (9, 0), (0, p3), (1, (if 0 < (if ((G 1 ((b : Int) + 20) p3) - p1) < (p1 - (G 1 ((b : Int) + 21) p3)) then (p1 - (G 1 ((b : Int) + 21) p3)) else ((G 1 ((b : Int) + 20) p3) - p1)) then (if ((G 1 ((b : Int) + 20) p3) - p1) < (p1 - (G 1 ((b : Int) + 21) p3)) then (p1 - (G 1 ((b : Int) + 21) p3)) else ((G 1 ((b : Int) + 20) p3) - p1)) else 0)), (9, 0)]) d_Years_farFromBand_34 (by decide) rfl ?_
    refine e_ldc2 100 d_Years_farFromBand_36 (by decide) w_1164 ?_
    refine e_lload d_Years_farFromBand_39 rfl ?_
    refine e_callS m_Math_min_b lw_good d_Years_farFromBand_41 (k_Math_min_b _) ⟨Nat.le_of_ble_eq_true rfl, Nat.le_of_ble_eq_true rfl⟩ w_1165 w_1166 (args := [(1, 100), (1, (if 0 < (if ((G 1 ((b : Int) + 20) p3) - p1) < (p1 - (G 1 ((b : Int) + 21) p3)) then (p1 - (G 1 ((b : Int) + 21) p3)) else ((G 1 ((b : Int) + 20) p3) - p1)) then (if ((G 1 ((b : Int) + 20) p3) - p1) < (p1 - (G 1 ((b : Int) + 21) p3)) then (p1 - (G 1 ((b : Int) + 21) p3)) else ((G 1 ((b : Int) + 20) p3) - p1)) else 0))]) rfl rfl (Nat.le_of_ble_eq_true rfl) (kc' := kc) (ks' := ks) (mc := 0) (ms := 0) rfl rfl (c_Math_min_b) (pureK ?_)
    refine e_l2i d_Years_farFromBand_44 ?_
    exact e_iret d_Years_farFromBand_45 rfl h
  · replace q2 := gb0.mp q2
    have h := h.2 q2
    refine e_iconst d_Years_farFromBand_7 (by decide) ?_
    exact e_iret d_Years_farFromBand_8 rfl h
set_option maxRecDepth 20000 in
set_option maxHeartbeats 4000000 in
theorem sg_Years_harmOf_0 {e : gE} {b : Nat} {m : Int} {Z : Int → gH → Prop} {kc ks : Nat} {G : gH} {p1 : Int} (h : (G 0 p1 0 = 10) ∧ ((G 0 p1 0 = 10) ∧ ((inI (300 + 100)) ∧ (((¬ (300 ≤ G 598 p1 0 ∧ G 598 p1 0 < 300 + 100)) → (0 ≤ G 18 ((b : Int) + 19) 0 ∧ G 18 ((b : Int) + 19) 0 ≤ 5) ∧ ((G 0 ((b : Int) + 19) 0 = 1) ∧ ((0 ≤ (if 400 ≤ G 598 p1 0 ∧ G 598 p1 0 < 500 then G 598 p1 0 - 400 else -1) ∧ (if 400 ≤ G 598 p1 0 ∧ G 598 p1 0 < 500 then G 598 p1 0 - 400 else -1) < G 18 ((b : Int) + 19) 0 → G 0 (G 17 ((b : Int) + 19) 0) 0 = 103 ∧ G 18 ((b : Int) + 19) 0 ≤ G 0 (G 17 ((b : Int) + 19) 0) 1 ∧ G 0 (G 3 (G 17 ((b : Int) + 19) 0) (if 400 ≤ G 598 p1 0 ∧ G 598 p1 0 < 500 then G 598 p1 0 - 400 else -1)) 0 = 5) ∧ ((((if 0 ≤ (if 400 ≤ G 598 p1 0 ∧ G 598 p1 0 < 500 then G 598 p1 0 - 400 else -1) ∧ (if 400 ≤ G 598 p1 0 ∧ G 598 p1 0 < 500 then G 598 p1 0 - 400 else -1) < G 18 ((b : Int) + 19) 0 then G 3 (G 17 ((b : Int) + 19) 0) (if 400 ≤ G 598 p1 0 ∧ G 598 p1 0 < 500 then G 598 p1 0 - 400 else -1) else 0) ≠ 0) → (G 0 (if 0 ≤ (if 400 ≤ G 598 p1 0 ∧ G 598 p1 0 < 500 then G 598 p1 0 - 400 else -1) ∧ (if 400 ≤ G 598 p1 0 ∧ G 598 p1 0 < 500 then G 598 p1 0 - 400 else -1) < G 18 ((b : Int) + 19) 0 then G 3 (G 17 ((b : Int) + 19) 0) (if 400 ≤ G 598 p1 0 ∧ G 598 p1 0 < 500 then G 598 p1 0 - 400 else -1) else 0) 0 = 5) ∧ ((G 0 (if 0 ≤ (if 400 ≤ G 598 p1 0 ∧ G 598 p1 0 < 500 then G 598 p1 0 - 400 else -1) ∧ (if 400 ≤ G 598 p1 0 ∧ G 598 p1 0 < 500 then G 598 p1 0 - 400 else -1) < G 18 ((b : Int) + 19) 0 then G 3 (G 17 ((b : Int) + 19) 0) (if 400 ≤ G 598 p1 0 ∧ G 598 p1 0 < 500 then G 598 p1 0 - 400 else -1) else 0) 0 = 5) ∧ ((G 0 (G 275 (if 0 ≤ (if 400 ≤ G 598 p1 0 ∧ G 598 p1 0 < 500 then G 598 p1 0 - 400 else -1) ∧ (if 400 ≤ G 598 p1 0 ∧ G 598 p1 0 < 500 then G 598 p1 0 - 400 else -1) < G 18 ((b : Int) + 19) 0 then G 3 (G 17 ((b : Int) + 19) 0) (if 400 ≤ G 598 p1 0 ∧ G 598 p1 0 < 500 then G 598 p1 0 - 400 else -1) else 0) 0) 0 = 7) ∧ ((zEl G (G 275 (if 0 ≤ (if 400 ≤ G 598 p1 0 ∧ G 598 p1 0 < 500 then G 598 p1 0 - 400 else -1) ∧ (if 400 ≤ G 598 p1 0 ∧ G 598 p1 0 < 500 then G 598 p1 0 - 400 else -1) < G 18 ((b : Int) + 19) 0 then G 3 (G 17 ((b : Int) + 19) 0) (if 400 ≤ G 598 p1 0 ∧ G 598 p1 0 < 500 then G 598 p1 0 - 400 else -1) else 0) 0)) ∧ ((0 ≤ G 401 (G 275 (if 0 ≤ (if 400 ≤ G 598 p1 0 ∧ G 598 p1 0 < 500 then G 598 p1 0 - 400 else -1) ∧ (if 400 ≤ G 598 p1 0 ∧ G 598 p1 0 < 500 then G 598 p1 0 - 400 else -1) < G 18 ((b : Int) + 19) 0 then G 3 (G 17 ((b : Int) + 19) 0) (if 400 ≤ G 598 p1 0 ∧ G 598 p1 0 < 500 then G 598 p1 0 - 400 else -1) else 0) 0) 0 ∧ G 401 (G 275 (if 0 ≤ (if 400 ≤ G 598 p1 0 ∧ G 598 p1 0 < 500 then G 598 p1 0 - 400 else -1) ∧ (if 400 ≤ G 598 p1 0 ∧ G 598 p1 0 < 500 then G 598 p1 0 - 400 else -1) < G 18 ((b : Int) + 19) 0 then G 3 (G 17 ((b : Int) + 19) 0) (if 400 ≤ G 598 p1 0 ∧ G 598 p1 0 < 500 then G 598 p1 0 - 400 else -1) else 0) 0) 0 < 4) ∧ ((((zAo G (G 275 (if 0 ≤ (if 400 ≤ G 598 p1 0 ∧ G 598 p1 0 < 500 then G 598 p1 0 - 400 else -1) ∧ (if 400 ≤ G 598 p1 0 ∧ G 598 p1 0 < 500 then G 598 p1 0 - 400 else -1) < G 18 ((b : Int) + 19) 0 then G 3 (G 17 ((b : Int) + 19) 0) (if 400 ≤ G 598 p1 0 ∧ G 598 p1 0 < 500 then G 598 p1 0 - 400 else -1) else 0) 0) (G 661 ((b : Int) + 18) 0)) ≠ 1099511627776) → GX e b m m_Years_farFromBand [(2, ((b : Int) + 18)), (1, (zAo G (G 275 (if 0 ≤ (if 400 ≤ G 598 p1 0 ∧ G 598 p1 0 < 500 then G 598 p1 0 - 400 else -1) ∧ (if 400 ≤ G 598 p1 0 ∧ G 598 p1 0 < 500 then G 598 p1 0 - 400 else -1) < G 18 ((b : Int) + 19) 0 then G 3 (G 17 ((b : Int) + 19) 0) (if 400 ≤ G 598 p1 0 ∧ G 598 p1 0 < 500 then G 598 p1 0 - 400 else -1) else 0) 0) (G 661 ((b : Int) + 18) 0))), (0, (G 593 p1 0))] G 0 0 (fun v20 G21 => Z v20 G21)) ∧ (((zAo G (G 275 (if 0 ≤ (if 400 ≤ G 598 p1 0 ∧ G 598 p1 0 < 500 then G 598 p1 0 - 400 else -1) ∧ (if 400 ≤ G 598 p1 0 ∧ G 598 p1 0 < 500 then G 598 p1 0 - 400 else -1) < G 18 ((b : Int) + 19) 0 then G 3 (G 17 ((b : Int) + 19) 0) (if 400 ≤ G 598 p1 0 ∧ G 598 p1 0 < 500 then G 598 p1 0 - 400 else -1) else 0) 0) (G 661 ((b : Int) + 18) 0)) = 1099511627776) → Z 5 G))))))) ∧ (((if 0 ≤ (if 400 ≤ G 598 p1 0 ∧ G 598 p1 0 < 500 then G 598 p1 0 - 400 else -1) ∧ (if 400 ≤ G 598 p1 0 ∧ G 598 p1 0 < 500 then G 598 p1 0 - 400 else -1) < G 18 ((b : Int) + 19) 0 then G 3 (G 17 ((b : Int) + 19) 0) (if 400 ≤ G 598 p1 0 ∧ G 598 p1 0 < 500 then G 598 p1 0 - 400 else -1) else 0) = 0) → Z 0 G))))) ∧ ((300 ≤ G 598 p1 0 ∧ G 598 p1 0 < 300 + 100) → Z 10 G))))) : EX e b m m_Years_harmOf Z kc ks 0 [(2, ((b : Int) + 18)), (2, p1), (9, 0), (9, 0), (9, 0)] [] G := by
  refine e_aload_n d_Years_harmOf_0 rfl ?_
  refine e_sipush d_Years_harmOf_1 (by decide) (by decide) ?_
  obtain ⟨o1, o2, o3, h⟩ := h
  refine e_callV m_Thing_isAt 9 lw_good d_Years_harmOf_4 (k_Thing_isAt _) ⟨Nat.le_of_ble_eq_true rfl, Nat.le_of_ble_eq_true rfl⟩ w_1287 w_620 w_621 (q_Thing _) rfl o1 (args := [(0, 300)]) rfl rfl (Nat.le_of_ble_eq_true rfl) (kc' := kc) (ks' := ks) (mc := 0) (ms := 0) rfl rfl (c_Thing_isAt o2 o3) (pureK ?_)
  refine e_if_eq (tgt := 13) d_Years_harmOf_7 (by decide) (fun q4 => ?_) (fun q5 => ?_)
  · replace q4 := gb0.mp q4
    have h := h.1 q4
    refine e_aload_n d_Years_harmOf_13 rfl ?_
    refine e_aload_n d_Years_harmOf_14 rfl ?_
    refine e_callV m_Thing_placeNumber 9 lw_good d_Years_harmOf_15 (k_Thing_placeNumber _) ⟨Nat.le_of_ble_eq_true rfl, Nat.le_of_ble_eq_true rfl⟩ w_1200 w_1144 w_1145 (q_Thing _) rfl o1 (args := []) rfl rfl (Nat.le_of_ble_eq_true rfl) (kc' := kc) (ks' := ks) (mc := 0) (ms := 0) rfl rfl (c_Thing_placeNumber o2) (pureK ?_)
    refine EV.inv fun hFf6 => ?_
    have f6 := (fx_ct 17 rfl hFf6).1
    obtain ⟨o7, o8, o9, h⟩ := h
    refine e_callV m_Years_placeAt 10 lw_good d_Years_harmOf_18 (k_Years_placeAt _) ⟨Nat.le_of_ble_eq_true rfl, Nat.le_of_ble_eq_true rfl⟩ w_1201 w_1049 w_1050 (q_Years _) rfl f6 (args := [(0, (if 400 ≤ G 598 p1 0 ∧ G 598 p1 0 < 500 then G 598 p1 0 - 400 else -1))]) rfl rfl (Nat.le_of_ble_eq_true rfl) (kc' := kc) (ks' := ks) (mc := 0) (ms := 0) rfl rfl (c_Years_placeAt o7 o8 o9) (pureK ?_)
    refine e_astore_n (ls' := [(2, ((b : Int) + 18)), (2, p1), (2, (if 0 ≤ (if 400 ≤ G 598 p1 0 ∧ G 598 p1 0 < 500 then G 598 p1 0 - 400 else -1) ∧ (if 400 ≤ G 598 p1 0 ∧ G 598 p1 0 < 500 then G 598 p1 0 - 400 else -1) < G 18 ((b : Int) + 19) 0 then G 3 (G 17 ((b : Int) + 19) 0) (if 400 ≤ G 598 p1 0 ∧ G 598 p1 0 < 500 then G 598 p1 0 - 400 else -1) else 0)), (9, 0), (9, 0)]) d_Years_harmOf_21 (by decide) rfl ?_
    refine e_aload_n d_Years_harmOf_22 rfl ?_
    refine e_ifnonnull (tgt := 28) d_Years_harmOf_23 (by decide) (fun q10 => ?_) (fun q11 => ?_)
    · have h := h.1 q10
      refine e_aload_n d_Years_harmOf_28 rfl ?_
      refine e_aload_n d_Years_harmOf_29 rfl ?_
      refine gx_Years_58 d_Years_harmOf_30 rfl ?_
      obtain ⟨o12, o13, o14, o15, o16, h⟩ := h
      refine e_callV m_Place_airOf 4 lw_good d_Years_harmOf_33 (k_Place_airOf _) ⟨Nat.le_of_ble_eq_true rfl, Nat.le_of_ble_eq_true rfl⟩ w_1156 w_1072 w_1073 (q_Place _) rfl o12 (args := [(0, (G 661 ((b : Int) + 18) 0))]) rfl rfl (Nat.le_of_ble_eq_true rfl) (kc' := kc) (ks' := ks) (mc := 0) (ms := 0) rfl rfl (c_Place_airOf o13 o14 o15 o16) (pureK ?_)
      refine e_lstore_n (ls' := [(2, ((b : Int) + 18)), (2, p1), (2, (if 0 ≤ (if 400 ≤ G 598 p1 0 ∧ G 598 p1 0 < 500 then G 598 p1 0 - 400 else -1) ∧ (if 400 ≤ G 598 p1 0 ∧ G 598 p1 0 < 500 then G 598 p1 0 - 400 else -1) < G 18 ((b : Int) + 19) 0 then G 3 (G 17 ((b : Int) + 19) 0) (if 400 ≤ G 598 p1 0 ∧ G 598 p1 0 < 500 then G 598 p1 0 - 400 else -1) else 0)), (1, (zAo G (G 275 (if 0 ≤ (if 400 ≤ G 598 p1 0 ∧ G 598 p1 0 < 500 then G 598 p1 0 - 400 else -1) ∧ (if 400 ≤ G 598 p1 0 ∧ G 598 p1 0 < 500 then G 598 p1 0 - 400 else -1) < G 18 ((b : Int) + 19) 0 then G 3 (G 17 ((b : Int) + 19) 0) (if 400 ≤ G 598 p1 0 ∧ G 598 p1 0 < 500 then G 598 p1 0 - 400 else -1) else 0) 0) (G 661 ((b : Int) + 18) 0))), (9, 0)]) d_Years_harmOf_36 (by decide) rfl ?_
      refine e_lload_n d_Years_harmOf_37 rfl ?_
      refine e_ldc2 1099511627776 d_Years_harmOf_38 (by decide) w_1157 ?_
      refine e_lcmp_ne (tgt := 49) d_Years_harmOf_41 d_Years_harmOf_42 (by decide) (fun q17 => ?_) (fun q18 => ?_)
      · have h := h.1 q17
        refine e_aload_n d_Years_harmOf_49 rfl ?_
        refine e_lload_n d_Years_harmOf_50 rfl ?_
        refine e_aload_n d_Years_harmOf_51 rfl ?_
        refine e_callV m_Thing_kind 9 lw_good d_Years_harmOf_52 (k_Thing_kind _) ⟨Nat.le_of_ble_eq_true rfl, Nat.le_of_ble_eq_true rfl⟩ w_1158 w_1139 w_1140 (q_Thing _) rfl o1 (args := []) rfl rfl (Nat.le_of_ble_eq_true rfl) (kc' := kc) (ks' := ks) (mc := 0) (ms := 0) rfl rfl (c_Thing_kind o2) (pureK ?_)
        refine EV.inv fun hFf19 => ?_
        have f19 := (fx_ct 17 rfl hFf19).1
        refine e_callV m_Years_farFromBand 10 lw_good d_Years_harmOf_55 (k_Years_farFromBand _) ⟨Nat.le_of_ble_eq_true rfl, Nat.le_of_ble_eq_true rfl⟩ w_1159 w_1161 w_s32 (q_Years _) rfl f19 (args := [(1, (zAo G (G 275 (if 0 ≤ (if 400 ≤ G 598 p1 0 ∧ G 598 p1 0 < 500 then G 598 p1 0 - 400 else -1) ∧ (if 400 ≤ G 598 p1 0 ∧ G 598 p1 0 < 500 then G 598 p1 0 - 400 else -1) < G 18 ((b : Int) + 19) 0 then G 3 (G 17 ((b : Int) + 19) 0) (if 400 ≤ G 598 p1 0 ∧ G 598 p1 0 < 500 then G 598 p1 0 - 400 else -1) else 0) 0) (G 661 ((b : Int) + 18) 0))), (0, (G 593 p1 0))]) rfl rfl (Nat.le_of_ble_eq_true rfl) (kc' := kc) (ks' := ks) (mc := 0) (ms := 0) rfl rfl h ?_
        intro v20 G21 h
        exact e_iret d_Years_harmOf_58 rfl h
      · have h := h.2 q18
        refine e_iconst d_Years_harmOf_45 (by decide) ?_
        refine e_goto (tgt := 58) d_Years_harmOf_46 (by decide) ?_
        exact e_iret d_Years_harmOf_58 rfl h
    · have h := h.2 q11
      refine e_iconst d_Years_harmOf_26 (by decide) ?_
      exact e_iret d_Years_harmOf_27 rfl h
  · replace q5 := gb1.mp q5
    have h := h.2 q5
    refine e_bipush d_Years_harmOf_10 (by decide) (by decide) ?_
    exact e_iret d_Years_harmOf_12 rfl h
set_option maxRecDepth 20000 in
set_option maxHeartbeats 4000000 in
theorem sg_Thing_grow_0 {e : gE} {b : Nat} {m : Int} {Z : Int → gH → Prop} {kc ks : Nat} {G : gH} {a0 p1 : Int} (t0 : G 0 a0 0 = 10) (h : (inI ((G 599 a0 0) + p1)) ∧ (((b : Int) < a0) ∧ (∀ G3 : gH, G3 = gU G 599 a0 0 ((G 599 a0 0) + p1) → Z 0 G3))) : EX e b m m_Thing_grow Z kc ks 0 [(2, a0), (0, p1)] [] G := by
  refine e_aload_n d_Thing_grow_0 rfl ?_
  refine e_dup d_Thing_grow_1 (by simp) ?_
  refine gf_Thing_50 d_Thing_grow_2 rfl t0 ?_
  refine e_iload_n d_Thing_grow_5 rfl ?_
  obtain ⟨o1, h⟩ := h
  refine e_iadd d_Thing_grow_6 o1 ?_
  obtain ⟨o2, h⟩ := h
  refine gp_Thing_50 d_Thing_grow_7 rfl t0 o2 (fx_U (by decide)) ?_
  let G3 : gH := gU G 599 a0 0 ((G 599 a0 0) + p1)
  have h := h G3 rfl
  exact e_vret d_Thing_grow_10 rfl h
set_option maxRecDepth 20000 in
set_option maxHeartbeats 4000000 in
theorem sg_Years_liveWeek_0 {e : gE} {b : Nat} {m : Int} {Z : Int → gH → Prop} {kc ks : Nat} {G : gH} (h : EX e b m m_Years_liveWeek Z kc ks 2 [(2, ((b : Int) + 18)), (0, 0)] [] G) : EX e b m m_Years_liveWeek Z kc ks 0 [(2, ((b : Int) + 18)), (9, 0)] [] G := by
  refine e_iconst d_Years_liveWeek_0 (by decide) ?_
  refine e_istore_n (ls' := [(2, ((b : Int) + 18)), (0, 0)]) d_Years_liveWeek_1 (by decide) rfl ?_
  exact e_forget (ls' := [(2, ((b : Int) + 18)), (0, 0)]) ⟨Or.inr rfl, Or.inr rfl, trivial⟩ h
set_option maxRecDepth 20000 in
set_option maxHeartbeats 4000000 in
theorem sg_Years_liveWeek_2 {e : gE} {b : Nat} {m : Int} {Z : Int → gH → Prop} {kc ks : Nat} {G : gH} {x1 : Int} (h : (G 0 ((b : Int) + 2) 0 = 1) ∧ (((G 18 ((b : Int) + 2) 0) ≤ x1 → (inI ((G 661 ((b : Int) + 18) 0) + 1)) ∧ (∀ G6 : gH, G6 = gU G 661 ((b : Int) + 18) 0 ((G 661 ((b : Int) + 18) 0) + 1) → Z 0 G6)) ∧ (x1 < (G 18 ((b : Int) + 2) 0) → (G 0 (G 17 ((b : Int) + 2) 0) 0 = 103) ∧ (0 ≤ x1 ∧ x1 < G 18 ((b : Int) + 2) 0) ∧ (G 18 ((b : Int) + 2) 0 ≤ G 0 (G 17 ((b : Int) + 2) 0) 1) ∧ (G 0 (G 3 (G 17 ((b : Int) + 2) 0) x1) 0 = 10) ∧ GX e b m m_Years_harmOf [(2, ((b : Int) + 18)), (2, (G 3 (G 17 ((b : Int) + 2) 0) x1))] G 0 0 (fun v14 G15 => (G15 0 (G 3 (G 17 ((b : Int) + 2) 0) x1) 0 = 10) ∧ GX e b m m_Thing_grow [(2, (G 3 (G 17 ((b : Int) + 2) 0) x1)), (0, v14)] G15 0 0 (fun _ G18 => (inI (x1 + 1)) ∧ EX e b m m_Years_liveWeek Z kc ks 2 [(2, ((b : Int) + 18)), (0, (x1 + 1))] [] G18))))) : EX e b m m_Years_liveWeek Z kc ks 2 [(2, ((b : Int) + 18)), (0, x1)] [] G := by
  refine e_iload_n d_Years_liveWeek_2 rfl ?_
  refine e_aload_n d_Years_liveWeek_3 rfl ?_
  refine gx_Years_9 d_Years_liveWeek_4 rfl ?_
  refine EV.inv fun hFf1 => ?_
  have f1 := (fx_ct 1 rfl hFf1).1
  obtain ⟨o2, h⟩ := h
  refine e_callV m_AL_size 0 lw_good d_Years_liveWeek_7 (k_AL_size _) ⟨Nat.le_of_ble_eq_true rfl, Nat.le_of_ble_eq_true rfl⟩ w_1017 w_330 w_331 (q_AL _) rfl f1 (args := []) rfl rfl (Nat.le_of_ble_eq_true rfl) (kc' := kc) (ks' := ks) (mc := 0) (ms := 0) rfl rfl (c_AL_size o2) (pureK ?_)
  refine e_icmp_ge (tgt := 48) d_Years_liveWeek_10 (by decide) (fun q3 => ?_) (fun q4 => ?_)
  · have h := h.1 q3
    refine e_aload_n d_Years_liveWeek_48 rfl ?_
    refine e_dup d_Years_liveWeek_49 (by simp) ?_
    refine gx_Years_58 d_Years_liveWeek_50 rfl ?_
    refine e_iconst d_Years_liveWeek_53 (by decide) ?_
    obtain ⟨o5, h⟩ := h
    refine e_iadd d_Years_liveWeek_54 o5 ?_
    refine px_Years_58 d_Years_liveWeek_55 rfl ?_
    let G6 : gH := gU G 661 ((b : Int) + 18) 0 ((G 661 ((b : Int) + 18) 0) + 1)
    have h := h G6 rfl
    exact e_vret d_Years_liveWeek_58 rfl h
  · have h := h.2 q4
    refine e_aload_n d_Years_liveWeek_13 rfl ?_
    refine gx_Years_9 d_Years_liveWeek_14 rfl ?_
    refine e_iload_n d_Years_liveWeek_17 rfl ?_
    refine EV.inv fun hFf7 => ?_
    have f7 := (fx_ct 1 rfl hFf7).1
    obtain ⟨o8, o9, o10, h⟩ := h
    refine e_callV m_AL_get 0 lw_good d_Years_liveWeek_18 (k_AL_get _) ⟨Nat.le_of_ble_eq_true rfl, Nat.le_of_ble_eq_true rfl⟩ w_1053 w_607 w_608 (q_AL _) rfl f7 (args := [(0, x1)]) rfl rfl (Nat.le_of_ble_eq_true rfl) (kc' := kc) (ks' := ks) (mc := 0) (ms := 0) rfl rfl (c_AL_get o2 o8 o9 o10) (pureK ?_)
    obtain ⟨o11, h⟩ := h
    refine e_cast 9 d_Years_liveWeek_21 (q_Thing _) w_1266 (Or.inr o11) ?_
    refine e_aload_n d_Years_liveWeek_24 rfl ?_
    refine e_aload_n d_Years_liveWeek_25 rfl ?_
    refine gx_Years_9 d_Years_liveWeek_26 rfl ?_
    refine e_iload_n d_Years_liveWeek_29 rfl ?_
    refine EV.inv fun hFf12 => ?_
    have f12 := (fx_ct 1 rfl hFf12).1
    refine e_callV m_AL_get 0 lw_good d_Years_liveWeek_30 (k_AL_get _) ⟨Nat.le_of_ble_eq_true rfl, Nat.le_of_ble_eq_true rfl⟩ w_1053 w_607 w_608 (q_AL _) rfl f12 (args := [(0, x1)]) rfl rfl (Nat.le_of_ble_eq_true rfl) (kc' := kc) (ks' := ks) (mc := 0) (ms := 0) rfl rfl (c_AL_get o2 o8 o9 o10) (pureK ?_)
    refine e_cast 9 d_Years_liveWeek_33 (q_Thing _) w_1266 (Or.inr o11) ?_
    refine EV.inv fun hFf13 => ?_
    have f13 := (fx_ct 17 rfl hFf13).1
    refine e_callV m_Years_harmOf 10 lw_good d_Years_liveWeek_36 (k_Years_harmOf _) ⟨Nat.le_of_ble_eq_true rfl, Nat.le_of_ble_eq_true rfl⟩ w_1283 w_1285 w_s41 (q_Years _) rfl f13 (args := [(2, (G 3 (G 17 ((b : Int) + 2) 0) x1))]) rfl rfl (Nat.le_of_ble_eq_true rfl) (kc' := kc) (ks' := ks) (mc := 0) (ms := 0) rfl rfl h ?_
    intro v14 G15 h
    obtain ⟨o16, h⟩ := h
    refine e_callV m_Thing_grow 9 lw_good d_Years_liveWeek_39 (k_Thing_grow _) ⟨Nat.le_of_ble_eq_true rfl, Nat.le_of_ble_eq_true rfl⟩ w_1288 w_1289 w_1290 (q_Thing _) rfl o16 (args := [(0, v14)]) rfl rfl (Nat.le_of_ble_eq_true rfl) (kc' := kc) (ks' := ks) (mc := 0) (ms := 0) rfl rfl h ?_
    intro v17 G18 h
    obtain ⟨o19, h⟩ := h
    refine e_iinc (ls' := [(2, ((b : Int) + 18)), (0, (x1 + 1))]) d_Years_liveWeek_42 rfl (by decide) o19 rfl ?_
    refine e_goto (tgt := 2) d_Years_liveWeek_45 (by decide) ?_
    exact e_forget (ls' := [(2, ((b : Int) + 18)), (0, (x1 + 1))]) ⟨Or.inr rfl, Or.inr rfl, trivial⟩ h
set_option maxRecDepth 20000 in
set_option maxHeartbeats 4000000 in
theorem sg_C_weeks_0 {e : gE} {b : Nat} {m : Int} {Z : Int → gH → Prop} {kc ks : Nat} {G : gH} {p1 : Int} (h : ((1 ≤ p1 ∧ p1 ≤ 60) → ((G 730 ((b : Int) + 1) 0) = 2 → (inI ((G 661 ((b : Int) + 18) 0) + p1)) ∧ ((((G 661 ((b : Int) + 18) 0) + p1) ≤ 1000 → EX e b m m_C_weeks Z kc ks 49 [(2, ((b : Int) + 1)), (0, p1), (0, 0)] [] G) ∧ (1000 < ((G 661 ((b : Int) + 18) 0) + p1) → GX e b m m_C_refuse [(2, ((b : Int) + 1)), (0, (-7))] G 0 0 (fun v10 G11 => Z v10 G11))))) ∧ ((((¬ (1 ≤ p1 ∧ p1 ≤ 60))) ∨ ((1 ≤ p1 ∧ p1 ≤ 60) ∧ (G 730 ((b : Int) + 1) 0) ≠ 2)) → GX e b m m_C_refuse [(2, ((b : Int) + 1)), (0, (-6))] G 0 0 (fun v14 G15 => Z v14 G15))) : EX e b m m_C_weeks Z kc ks 0 [(2, ((b : Int) + 1)), (0, p1), (9, 0)] [] G := by
  obtain ⟨h, hJ12⟩ := h
  have kJ12 : (((¬ (1 ≤ p1 ∧ p1 ≤ 60))) ∨ ((1 ≤ p1 ∧ p1 ≤ 60) ∧ (G 730 ((b : Int) + 1) 0) ≠ 2)) → EX e b m m_C_weeks Z kc ks 18 [(2, ((b : Int) + 1)), (0, p1), (9, 0)] [] G := by
    intro rJ12
    have h := hJ12 rJ12
    refine e_aload_n d_C_weeks_18 rfl ?_
    refine e_bipush d_C_weeks_19 (by decide) (by decide) ?_
    refine EV.inv fun hFf13 => ?_
    have f13 := (fx_ct 0 rfl hFf13).1
    refine e_callV m_C_refuse 11 lw_good d_C_weeks_21 (k_C_refuse _) ⟨Nat.le_of_ble_eq_true rfl, Nat.le_of_ble_eq_true rfl⟩ w_297 w_299 w_s0 (q_C _) rfl f13 (args := [(0, (-6))]) rfl rfl (Nat.le_of_ble_eq_true rfl) (kc' := kc) (ks' := ks) (mc := 0) (ms := 0) rfl rfl h ?_
    intro v14 G15 h
    exact e_iret d_C_weeks_24 rfl h
  refine e_iload_n d_C_weeks_0 rfl ?_
  refine e_iconst d_C_weeks_1 (by decide) ?_
  refine e_bipush d_C_weeks_2 (by decide) (by decide) ?_
  refine e_callS m_C_within lw_good d_C_weeks_4 (k_C_within _) ⟨Nat.le_of_ble_eq_true rfl, Nat.le_of_ble_eq_true rfl⟩ w_294 w_295 (args := [(0, p1), (0, 1), (0, 60)]) rfl rfl (Nat.le_of_ble_eq_true rfl) (kc' := kc) (ks' := ks) (mc := 0) (ms := 0) rfl rfl (c_C_within) (pureK ?_)
  refine e_if_eq (tgt := 18) d_C_weeks_7 (by decide) (fun q1 => ?_) (fun q2 => ?_)
  · replace q1 := gb0.mp q1
    exact kJ12 (Or.inl q1)
  · replace q2 := gb1.mp q2
    have h := h q2
    refine e_aload_n d_C_weeks_10 rfl ?_
    refine gx_C_81 d_C_weeks_11 rfl ?_
    refine e_iconst d_C_weeks_14 (by decide) ?_
    refine e_icmp_eq (tgt := 25) d_C_weeks_15 (by decide) (fun q3 => ?_) (fun q4 => ?_)
    · have h := h q3
      refine e_aload_n d_C_weeks_25 rfl ?_
      refine gx_C_37 d_C_weeks_26 rfl ?_
      refine EV.inv fun hFf5 => ?_
      have f5 := (fx_ct 17 rfl hFf5).1
      refine e_callV m_Years_weekNow 10 lw_good d_C_weeks_29 (k_Years_weekNow _) ⟨Nat.le_of_ble_eq_true rfl, Nat.le_of_ble_eq_true rfl⟩ w_1275 w_1276 w_1277 (q_Years _) rfl f5 (args := []) rfl rfl (Nat.le_of_ble_eq_true rfl) (kc' := kc) (ks' := ks) (mc := 0) (ms := 0) rfl rfl (c_Years_weekNow) (pureK ?_)
      refine e_iload_n d_C_weeks_32 rfl ?_
      obtain ⟨o6, h⟩ := h
      refine e_iadd d_C_weeks_33 o6 ?_
      refine e_sipush d_C_weeks_34 (by decide) (by decide) ?_
      refine e_icmp_le (tgt := 47) d_C_weeks_37 (by decide) (fun q7 => ?_) (fun q8 => ?_)
      · have h := h.1 q7
        refine e_iconst d_C_weeks_47 (by decide) ?_
        refine e_istore_n (ls' := [(2, ((b : Int) + 1)), (0, p1), (0, 0)]) d_C_weeks_48 (by decide) rfl ?_
        exact e_forget (ls' := [(2, ((b : Int) + 1)), (0, p1), (0, 0)]) ⟨Or.inr rfl, Or.inr rfl, Or.inr rfl, trivial⟩ h
      · have h := h.2 q8
        refine e_aload_n d_C_weeks_40 rfl ?_
        refine e_bipush d_C_weeks_41 (by decide) (by decide) ?_
        refine EV.inv fun hFf9 => ?_
        have f9 := (fx_ct 0 rfl hFf9).1
        refine e_callV m_C_refuse 11 lw_good d_C_weeks_43 (k_C_refuse _) ⟨Nat.le_of_ble_eq_true rfl, Nat.le_of_ble_eq_true rfl⟩ w_297 w_299 w_s0 (q_C _) rfl f9 (args := [(0, (-7))]) rfl rfl (Nat.le_of_ble_eq_true rfl) (kc' := kc) (ks' := ks) (mc := 0) (ms := 0) rfl rfl h ?_
        intro v10 G11 h
        exact e_iret d_C_weeks_46 rfl h
    · exact kJ12 (Or.inr ⟨q2, q4⟩)
set_option maxRecDepth 20000 in
set_option maxHeartbeats 4000000 in
theorem sg_C_weeks_49 {e : gE} {b : Nat} {m : Int} {Z : Int → gH → Prop} {kc ks : Nat} {G : gH} {p1 x2 : Int} (h : (p1 ≤ x2 → Z (G 661 ((b : Int) + 18) 0) G) ∧ (x2 < p1 → GX e b m m_Years_liveWeek [(2, ((b : Int) + 18))] G 0 0 (fun _ G6 => (inI (x2 + 1)) ∧ EX e b m m_C_weeks Z kc ks 49 [(2, ((b : Int) + 1)), (0, p1), (0, (x2 + 1))] [] G6))) : EX e b m m_C_weeks Z kc ks 49 [(2, ((b : Int) + 1)), (0, p1), (0, x2)] [] G := by
  refine e_iload_n d_C_weeks_49 rfl ?_
  refine e_iload_n d_C_weeks_50 rfl ?_
  refine e_icmp_ge (tgt := 67) d_C_weeks_51 (by decide) (fun q1 => ?_) (fun q2 => ?_)
  · have h := h.1 q1
    refine e_aload_n d_C_weeks_67 rfl ?_
    refine gx_C_37 d_C_weeks_68 rfl ?_
    refine EV.inv fun hFf3 => ?_
    have f3 := (fx_ct 17 rfl hFf3).1
    refine e_callV m_Years_weekNow 10 lw_good d_C_weeks_71 (k_Years_weekNow _) ⟨Nat.le_of_ble_eq_true rfl, Nat.le_of_ble_eq_true rfl⟩ w_1275 w_1276 w_1277 (q_Years _) rfl f3 (args := []) rfl rfl (Nat.le_of_ble_eq_true rfl) (kc' := kc) (ks' := ks) (mc := 0) (ms := 0) rfl rfl (c_Years_weekNow) (pureK ?_)
    exact e_iret d_C_weeks_74 rfl h
  · have h := h.2 q2
    refine e_aload_n d_C_weeks_54 rfl ?_
    refine gx_C_37 d_C_weeks_55 rfl ?_
    refine EV.inv fun hFf4 => ?_
    have f4 := (fx_ct 17 rfl hFf4).1
    refine e_callV m_Years_liveWeek 10 lw_good d_C_weeks_58 (k_Years_liveWeek _) ⟨Nat.le_of_ble_eq_true rfl, Nat.le_of_ble_eq_true rfl⟩ w_1279 w_1280 w_1281 (q_Years _) rfl f4 (args := []) rfl rfl (Nat.le_of_ble_eq_true rfl) (kc' := kc) (ks' := ks) (mc := 0) (ms := 0) rfl rfl h ?_
    intro v5 G6 h
    obtain ⟨o7, h⟩ := h
    refine e_iinc (ls' := [(2, ((b : Int) + 1)), (0, p1), (0, (x2 + 1))]) d_C_weeks_61 rfl (by decide) o7 rfl ?_
    refine e_goto (tgt := 49) d_C_weeks_64 (by decide) ?_
    exact e_forget (ls' := [(2, ((b : Int) + 1)), (0, p1), (0, (x2 + 1))]) ⟨Or.inr rfl, Or.inr rfl, Or.inr rfl, trivial⟩ h
theorem zOff_e {f t a : Int} (hft : f ≤ t) (hf : 0 ≤ f ∧ f ≤ 100) (ht : 0 ≤ t ∧ t ≤ 100) (ha : inI a) : w32 (if (if 0 < (if f - a < a - t then a - t else f - a) then (if f - a < a - t then a - t else f - a) else 0) < 100 then (if 0 < (if f - a < a - t then a - t else f - a) then (if f - a < a - t then a - t else f - a) else 0) else 100) = if a < f then (if 100 < f - a then 100 else f - a) else if t < a then (if 100 < a - t then 100 else a - t) else 0 := by
  rw [w32_id]
  · (repeat' split) <;> omega
  · (repeat' split) <;> omega
/-- bands that end behind their beginnings -/
def zFt (A : zA) : Prop := ∀ k, 0 ≤ k → k < 4 → A 29 k ≤ A 30 k
theorem c_C_airIn {e : gE} {b : Nat} {m : Int} {G : gH} {A : zA} {p1 p2 : Int} (hR : zRel e b m G A) (hB : zB 512 A) : GX e b m m_C_airIn [(2, ((b : Int) + 1)), (0, p1), (0, p2)] G 0 0 (zCQ e b m G (zfAirIn A p1 p2, A)) := by
  refine GM.inv fun hF => ?_
  have hlo := fx_lo hF
  have hr := hR
  obtain ⟨T, Q, P, ⟨r1, r2, r3, r4⟩, hT, hQ, hP, hJ, hD⟩ := hr
  obtain ⟨x1, x2, x3⟩ := zPa_p hP hB
  refine GM.ofEV (by decide) (Nat.le_of_ble_eq_true rfl) (sg_C_airIn_0 ?_)
  rw [zPa_e hP]
  by_cases hp : 0 ≤ p1 ∧ p1 < A 787 0
  · have hq := hP.2.1 p1 hp.1 hp.2
    have t0 : P p1 ≠ 0 := by omega
    obtain ⟨u1, u2, u3, u4⟩ := zPl_pre hP hB hp
    rw [if_pos hp]
    refine ⟨⟨x1, x2, x3 p1, fun _ q => ⟨u1, u1, u2, u3, u4, fun z => zCQ_mk ?_ hR zRf_r, fun z => zCQ_mk ?_ hR zRf_r⟩⟩, fun z => zCQ_mk ?_ hR zRf_r⟩
    · rw [zAo_e hP hB hp q] at z ⊢
      have nm : ¬ zMiss A p1 p2 := fun y => by rw [if_pos y] at z; exact z rfl
      rw [if_neg nm]
      unfold zfAirIn
      rw [if_pos ⟨hp, q⟩, if_neg nm]
      exact w32_id zAir_b
    · rw [zAo_e hP hB hp q] at z
      have nm : zMiss A p1 p2 := by
        by_cases y : zMiss A p1 p2
        · exact y
        · rw [if_neg y] at z; exact absurd z zAir_n
      unfold zfAirIn
      rw [if_pos ⟨hp, q⟩, if_pos nm]
    · have : p2 < 0 := by rcases z with z | z; exact absurd z t0; exact z.2
      unfold zfAirIn
      rw [if_neg (by omega)]
  · rw [if_neg hp]
    refine ⟨⟨x1, x2, x3 p1, fun z => absurd rfl z⟩, fun z => zCQ_mk ?_ hR zRf_r⟩
    unfold zfAirIn
    rw [if_neg (fun y => hp y.1)]
theorem c_farFromBand {e : gE} {b : Nat} {m : Int} {G : gH} {A : zA} {a k : Int} (r4 : zR4 b G A) (hB : zB 512 A) (hft : zFt A) (hk : 0 ≤ k ∧ k < 4) (ha : inI a) : GX e b m m_Years_farFromBand [(2, ((b : Int) + 18)), (1, a), (0, k)] G 0 0 (fun v G1 => v = zOff A k a ∧ G1 = G) := by
  have bf : 0 ≤ A 29 k ∧ A 29 k ≤ 100 := hB 29 k
  have bt : 0 ≤ A 30 k ∧ A 30 k ≤ 100 := hB 30 k
  have w := r4.1 k hk.1 hk.2
  refine GM.ofEV (by decide) (Nat.le_of_ble_eq_true rfl) (sg_Years_farFromBand_0 ?_)
  rw [w.1, w.2.1]
  exact ⟨fun _ => ⟨hk, by omega, by omega, zOff_e (hft k hk.1 hk.2) bf bt ha, rfl⟩, fun q => absurd hk q⟩
theorem c_harmOf {e : gE} {b : Nat} {m : Int} {G : gH} {A : zA} {T P τ : Int → Int} {t : Int} (hlo : (b : Int) + 53 < m) (r4 : zR4 b G A) (hT : zRkT e b m G A T τ) (hP : zRkP e b m G A P) (hB : zB 512 A) (hft : zFt A) (hPl : zPl A) (hWv : zWv A) (ht : zTh A t) : GX e b m m_Years_harmOf [(2, ((b : Int) + 18)), (2, T t)] G 0 0 (fun v G1 => v = zHarm A t ∧ G1 = G) := by
  obtain ⟨x1, x2, x3⟩ := zPa_p hP hB
  have tt := (hT.2.1 t ht.1 ht.2).1
  have t1 := tt.1.1
  have tw := tt.2.2.2.2.2.2.1
  have tk := tt.2.2.1
  have hv := hWv t ht
  have bw : 0 ≤ A 791 0 ∧ A 791 0 ≤ 1000 := hB 791 0
  have bk : 0 ≤ A 7 t ∧ A 7 t ≤ 3 := hB 7 t
  refine GM.ofEV (by decide) (Nat.le_of_ble_eq_true rfl) (sg_Years_harmOf_0 ?_)
  rw [tw, zPa_e hP, r4.2.1, tk]
  refine ⟨t1, t1, by decide, fun n3 => ⟨x1, x2, x3 _, ?_⟩, fun q3 => ⟨?_, rfl⟩⟩
  · have n300 : A 11 t ≠ 300 := by omega
    by_cases z : zAt A t
    · have hq : 0 ≤ A 11 t - 400 ∧ A 11 t - 400 < A 787 0 := ⟨by omega, hPl t z⟩
      have wq := (hP.2.1 _ hq.1 hq.2).1.1
      obtain ⟨u1, u2, u3, u4⟩ := zPl_pre hP hB hq
      rw [if_pos z, if_pos hq, zAo_e hP hB hq bw.1]
      refine ⟨fun _ => ⟨u1, u1, u2, u3, u4, fun y => ?_, fun y => ⟨?_, rfl⟩⟩, fun y => by omega⟩
      · have nm : ¬ zMiss A (A 11 t - 400) (A 791 0) := fun x => by rw [if_pos x] at y; exact y rfl
        rw [if_neg nm]
        refine GM.mono (c_farFromBand r4 hB hft (by omega) zAir_b) ?_
        rintro v G1 ⟨rfl, rfl⟩
        refine ⟨?_, rfl⟩
        unfold zHarm
        rw [if_neg n300, if_pos z, if_neg nm]
      · have nm : zMiss A (A 11 t - 400) (A 791 0) := by
          by_cases x : zMiss A (A 11 t - 400) (A 791 0)
          · exact x
          · rw [if_neg x] at y; exact absurd y zAir_n
        unfold zHarm
        rw [if_neg n300, if_pos z, if_pos nm]
    · rw [if_neg z, if_neg (by omega)]
      refine ⟨fun y => absurd rfl y, fun _ => ⟨?_, rfl⟩⟩
      unfold zHarm
      rw [if_neg n300, if_neg z]
  · unfold zHarm
    rw [if_pos (by omega)]
