/-! THE CLASS, 19: move, lose -/
set_option maxRecDepth 20000 in
set_option maxHeartbeats 4000000 in
theorem sg_C_move_0 {e : gE} {b : Nat} {m : Int} {Z : Int → gH → Prop} {kc ks : Nat} {G : gH} {p1 p2 : Int} (h : ((0 ≤ G 18 ((b : Int) + 2) 0 ∧ G 18 ((b : Int) + 2) 0 ≤ 16) ∧ ((G 0 ((b : Int) + 2) 0 = 1) ∧ ((0 ≤ p1 ∧ p1 < G 18 ((b : Int) + 2) 0 → G 0 (G 17 ((b : Int) + 2) 0) 0 = 103 ∧ G 18 ((b : Int) + 2) 0 ≤ G 0 (G 17 ((b : Int) + 2) 0) 1 ∧ G 0 (G 3 (G 17 ((b : Int) + 2) 0) p1) 0 = 10) ∧ ((0 ≤ G 18 ((b : Int) + 19) 0 ∧ G 18 ((b : Int) + 19) 0 ≤ 5) ∧ ((G 0 ((b : Int) + 19) 0 = 1) ∧ ((0 ≤ p2 ∧ p2 < G 18 ((b : Int) + 19) 0 → G 0 (G 17 ((b : Int) + 19) 0) 0 = 103 ∧ G 18 ((b : Int) + 19) 0 ≤ G 0 (G 17 ((b : Int) + 19) 0) 1 ∧ G 0 (G 3 (G 17 ((b : Int) + 19) 0) p2) 0 = 5) ∧ (((if 0 ≤ p1 ∧ p1 < G 18 ((b : Int) + 2) 0 then G 3 (G 17 ((b : Int) + 2) 0) p1 else 0) ≠ 0) → (((if 0 ≤ p2 ∧ p2 < G 18 ((b : Int) + 19) 0 then G 3 (G 17 ((b : Int) + 19) 0) p2 else 0) ≠ 0) → ((G 730 ((b : Int) + 1) 0) = 2 → (G 0 (if 0 ≤ p1 ∧ p1 < G 18 ((b : Int) + 2) 0 then G 3 (G 17 ((b : Int) + 2) 0) p1 else 0) 0 = 10) ∧ ((G 0 (if 0 ≤ p1 ∧ p1 < G 18 ((b : Int) + 2) 0 then G 3 (G 17 ((b : Int) + 2) 0) p1 else 0) 0 = 10) ∧ ((300 ≤ G 598 (if 0 ≤ p1 ∧ p1 < G 18 ((b : Int) + 2) 0 then G 3 (G 17 ((b : Int) + 2) 0) p1 else 0) 0 ∧ G 598 (if 0 ≤ p1 ∧ p1 < G 18 ((b : Int) + 2) 0 then G 3 (G 17 ((b : Int) + 2) 0) p1 else 0) 0 < 500) → (((if 400 ≤ G 598 (if 0 ≤ p1 ∧ p1 < G 18 ((b : Int) + 2) 0 then G 3 (G 17 ((b : Int) + 2) 0) p1 else 0) 0 ∧ G 598 (if 0 ≤ p1 ∧ p1 < G 18 ((b : Int) + 2) 0 then G 3 (G 17 ((b : Int) + 2) 0) p1 else 0) 0 < 500 then G 598 (if 0 ≤ p1 ∧ p1 < G 18 ((b : Int) + 2) 0 then G 3 (G 17 ((b : Int) + 2) 0) p1 else 0) 0 - 400 else -1) ≠ p2) → GX e b m m_Years_handsIn [(2, ((b : Int) + 18)), (0, p2)] G 0 0 (fun v22 G23 => (G23 0 (if 0 ≤ p1 ∧ p1 < G 18 ((b : Int) + 2) 0 then G 3 (G 17 ((b : Int) + 2) 0) p1 else 0) 0 = 10) ∧ ((G23 0 (if 0 ≤ p1 ∧ p1 < G 18 ((b : Int) + 2) 0 then G 3 (G 17 ((b : Int) + 2) 0) p1 else 0) 0 = 10) ∧ ((inI (v22 + (G23 595 (if 0 ≤ p1 ∧ p1 < G 18 ((b : Int) + 2) 0 then G 3 (G 17 ((b : Int) + 2) 0) p1 else 0) 0))) ∧ ((G23 0 (if 0 ≤ p2 ∧ p2 < G 18 ((b : Int) + 19) 0 then G 3 (G 17 ((b : Int) + 19) 0) p2 else 0) 0 = 5) ∧ ((G23 0 (if 0 ≤ p2 ∧ p2 < G 18 ((b : Int) + 19) 0 then G 3 (G 17 ((b : Int) + 19) 0) p2 else 0) 0 = 5) ∧ ((((v22 + (G23 595 (if 0 ≤ p1 ∧ p1 < G 18 ((b : Int) + 2) 0 then G 3 (G 17 ((b : Int) + 2) 0) p1 else 0) 0)) ≤ (G23 272 (if 0 ≤ p2 ∧ p2 < G 18 ((b : Int) + 19) 0 then G 3 (G 17 ((b : Int) + 19) 0) p2 else 0) 0)) → GX e b m m_Years_costOf [(2, ((b : Int) + 18)), (2, (if 0 ≤ p1 ∧ p1 < G 18 ((b : Int) + 2) 0 then G 3 (G 17 ((b : Int) + 2) 0) p1 else 0)), (2, (if 0 ≤ p2 ∧ p2 < G 18 ((b : Int) + 19) 0 then G 3 (G 17 ((b : Int) + 19) 0) p2 else 0))] G23 0 0 (fun v32 G33 => (v32 ≤ G33 662 ((b : Int) + 18) 0 → ∃ kc40 ks41 mc42 ms43 : Nat, kc = kc40 + mc42 ∧ ks = ks41 + ms43 ∧ GX e b m m_Years_bring [(2, ((b : Int) + 18)), (2, (if 0 ≤ p1 ∧ p1 < G 18 ((b : Int) + 2) 0 then G 3 (G 17 ((b : Int) + 2) 0) p1 else 0)), (0, p2)] G33 mc42 ms43 (fun v38 G39 => Z v38 G39)) ∧ ((¬ (v32 ≤ G33 662 ((b : Int) + 18) 0)) → GX e b m m_C_refuse [(2, ((b : Int) + 1)), (0, (-7))] G33 0 0 (fun v45 G46 => Z v45 G46)))) ∧ (((G23 272 (if 0 ≤ p2 ∧ p2 < G 18 ((b : Int) + 19) 0 then G 3 (G 17 ((b : Int) + 19) 0) p2 else 0) 0) < (v22 + (G23 595 (if 0 ≤ p1 ∧ p1 < G 18 ((b : Int) + 2) 0 then G 3 (G 17 ((b : Int) + 2) 0) p1 else 0) 0))) → GX e b m m_C_refuse [(2, ((b : Int) + 1)), (0, (-6))] G23 0 0 (fun v48 G49 => Z v48 G49)))))))))))))))))))) ∧ (((((if 0 ≤ p1 ∧ p1 < G 18 ((b : Int) + 2) 0 then G 3 (G 17 ((b : Int) + 2) 0) p1 else 0) = 0)) ∨ (((if 0 ≤ p1 ∧ p1 < G 18 ((b : Int) + 2) 0 then G 3 (G 17 ((b : Int) + 2) 0) p1 else 0) ≠ 0) ∧ ((if 0 ≤ p2 ∧ p2 < G 18 ((b : Int) + 19) 0 then G 3 (G 17 ((b : Int) + 19) 0) p2 else 0) = 0))) → GX e b m m_C_refuse [(2, ((b : Int) + 1)), (0, (-1))] G 0 0 (fun v52 G53 => Z v52 G53)) ∧ (((((if 0 ≤ p1 ∧ p1 < G 18 ((b : Int) + 2) 0 then G 3 (G 17 ((b : Int) + 2) 0) p1 else 0) ≠ 0) ∧ ((if 0 ≤ p2 ∧ p2 < G 18 ((b : Int) + 19) 0 then G 3 (G 17 ((b : Int) + 19) 0) p2 else 0) ≠ 0) ∧ (G 730 ((b : Int) + 1) 0) ≠ 2) ∨ (((if 0 ≤ p1 ∧ p1 < G 18 ((b : Int) + 2) 0 then G 3 (G 17 ((b : Int) + 2) 0) p1 else 0) ≠ 0) ∧ ((if 0 ≤ p2 ∧ p2 < G 18 ((b : Int) + 19) 0 then G 3 (G 17 ((b : Int) + 19) 0) p2 else 0) ≠ 0) ∧ (G 730 ((b : Int) + 1) 0) = 2 ∧ (¬ (300 ≤ G 598 (if 0 ≤ p1 ∧ p1 < G 18 ((b : Int) + 2) 0 then G 3 (G 17 ((b : Int) + 2) 0) p1 else 0) 0 ∧ G 598 (if 0 ≤ p1 ∧ p1 < G 18 ((b : Int) + 2) 0 then G 3 (G 17 ((b : Int) + 2) 0) p1 else 0) 0 < 500))) ∨ (((if 0 ≤ p1 ∧ p1 < G 18 ((b : Int) + 2) 0 then G 3 (G 17 ((b : Int) + 2) 0) p1 else 0) ≠ 0) ∧ ((if 0 ≤ p2 ∧ p2 < G 18 ((b : Int) + 19) 0 then G 3 (G 17 ((b : Int) + 19) 0) p2 else 0) ≠ 0) ∧ (G 730 ((b : Int) + 1) 0) = 2 ∧ (300 ≤ G 598 (if 0 ≤ p1 ∧ p1 < G 18 ((b : Int) + 2) 0 then G 3 (G 17 ((b : Int) + 2) 0) p1 else 0) 0 ∧ G 598 (if 0 ≤ p1 ∧ p1 < G 18 ((b : Int) + 2) 0 then G 3 (G 17 ((b : Int) + 2) 0) p1 else 0) 0 < 500) ∧ ((if 400 ≤ G 598 (if 0 ≤ p1 ∧ p1 < G 18 ((b : Int) + 2) 0 then G 3 (G 17 ((b : Int) + 2) 0) p1 else 0) 0 ∧ G 598 (if 0 ≤ p1 ∧ p1 < G 18 ((b : Int) + 2) 0 then G 3 (G 17 ((b : Int) + 2) 0) p1 else 0) 0 < 500 then G 598 (if 0 ≤ p1 ∧ p1 < G 18 ((b : Int) + 2) 0 then G 3 (G 17 ((b : Int) + 2) 0) p1 else 0) 0 - 400 else -1) = p2))) → GX e b m m_C_refuse [(2, ((b : Int) + 1)), (0, (-6))] G 0 0 (fun v56 G57 => Z v56 G57))) : EX e b m m_C_move Z kc ks 0 [(2, ((b : Int) + 1)), (0, p1), (0, p2), (9, 0), (9, 0)] [] G := by
  obtain ⟨h, hJ50, hJ54⟩ := h
  have kJ54 : ((((if 0 ≤ p1 ∧ p1 < G 18 ((b : Int) + 2) 0 then G 3 (G 17 ((b : Int) + 2) 0) p1 else 0) ≠ 0) ∧ ((if 0 ≤ p2 ∧ p2 < G 18 ((b : Int) + 19) 0 then G 3 (G 17 ((b : Int) + 19) 0) p2 else 0) ≠ 0) ∧ (G 730 ((b : Int) + 1) 0) ≠ 2) ∨ (((if 0 ≤ p1 ∧ p1 < G 18 ((b : Int) + 2) 0 then G 3 (G 17 ((b : Int) + 2) 0) p1 else 0) ≠ 0) ∧ ((if 0 ≤ p2 ∧ p2 < G 18 ((b : Int) + 19) 0 then G 3 (G 17 ((b : Int) + 19) 0) p2 else 0) ≠ 0) ∧ (G 730 ((b : Int) + 1) 0) = 2 ∧ (¬ (300 ≤ G 598 (if 0 ≤ p1 ∧ p1 < G 18 ((b : Int) + 2) 0 then G 3 (G 17 ((b : Int) + 2) 0) p1 else 0) 0 ∧ G 598 (if 0 ≤ p1 ∧ p1 < G 18 ((b : Int) + 2) 0 then G 3 (G 17 ((b : Int) + 2) 0) p1 else 0) 0 < 500))) ∨ (((if 0 ≤ p1 ∧ p1 < G 18 ((b : Int) + 2) 0 then G 3 (G 17 ((b : Int) + 2) 0) p1 else 0) ≠ 0) ∧ ((if 0 ≤ p2 ∧ p2 < G 18 ((b : Int) + 19) 0 then G 3 (G 17 ((b : Int) + 19) 0) p2 else 0) ≠ 0) ∧ (G 730 ((b : Int) + 1) 0) = 2 ∧ (300 ≤ G 598 (if 0 ≤ p1 ∧ p1 < G 18 ((b : Int) + 2) 0 then G 3 (G 17 ((b : Int) + 2) 0) p1 else 0) 0 ∧ G 598 (if 0 ≤ p1 ∧ p1 < G 18 ((b : Int) + 2) 0 then G 3 (G 17 ((b : Int) + 2) 0) p1 else 0) 0 < 500) ∧ ((if 400 ≤ G 598 (if 0 ≤ p1 ∧ p1 < G 18 ((b : Int) + 2) 0 then G 3 (G 17 ((b : Int) + 2) 0) p1 else 0) 0 ∧ G 598 (if 0 ≤ p1 ∧ p1 < G 18 ((b : Int) + 2) 0 then G 3 (G 17 ((b : Int) + 2) 0) p1 else 0) 0 < 500 then G 598 (if 0 ≤ p1 ∧ p1 < G 18 ((b : Int) + 2) 0 then G 3 (G 17 ((b : Int) + 2) 0) p1 else 0) 0 - 400 else -1) = p2))) → EX e b m m_C_move Z kc ks 75 [(2, ((b : Int) + 1)), (0, p1), (0, p2), (2, (if 0 ≤ p1 ∧ p1 < G 18 ((b : Int) + 2) 0 then G 3 (G 17 ((b : Int) + 2) 0) p1 else 0)), (2, (if 0 ≤ p2 ∧ p2 < G 18 ((b : Int) + 19) 0 then G 3 (G 17 ((b : Int) + 19) 0) p2 else 0))] [] G := by
    intro rJ54
    have h := hJ54 rJ54
    refine e_aload_n d_C_move_75 rfl ?_
    refine e_bipush d_C_move_76 (by decide) (by decide) ?_
    refine EV.inv fun hFf55 => ?_
    have f55 := (fx_ct 0 rfl hFf55).1
    refine e_callV m_C_refuse 11 lw_good d_C_move_78 (k_C_refuse _) ⟨Nat.le_of_ble_eq_true rfl, Nat.le_of_ble_eq_true rfl⟩ w_297 w_299 w_s0 (q_C _) rfl f55 (args := [(0, (-6))]) rfl rfl (Nat.le_of_ble_eq_true rfl) (kc' := kc) (ks' := ks) (mc := 0) (ms := 0) rfl rfl h ?_
    intro v56 G57 h
    exact e_iret d_C_move_81 rfl h
  have kJ50 : ((((if 0 ≤ p1 ∧ p1 < G 18 ((b : Int) + 2) 0 then G 3 (G 17 ((b : Int) + 2) 0) p1 else 0) = 0)) ∨ (((if 0 ≤ p1 ∧ p1 < G 18 ((b : Int) + 2) 0 then G 3 (G 17 ((b : Int) + 2) 0) p1 else 0) ≠ 0) ∧ ((if 0 ≤ p2 ∧ p2 < G 18 ((b : Int) + 19) 0 then G 3 (G 17 ((b : Int) + 19) 0) p2 else 0) = 0))) → EX e b m m_C_move Z kc ks 25 [(2, ((b : Int) + 1)), (0, p1), (0, p2), (2, (if 0 ≤ p1 ∧ p1 < G 18 ((b : Int) + 2) 0 then G 3 (G 17 ((b : Int) + 2) 0) p1 else 0)), (2, (if 0 ≤ p2 ∧ p2 < G 18 ((b : Int) + 19) 0 then G 3 (G 17 ((b : Int) + 19) 0) p2 else 0))] [] G := by
    intro rJ50
    have h := hJ50 rJ50
    refine e_aload_n d_C_move_25 rfl ?_
    refine e_iconst d_C_move_26 (by decide) ?_
    refine EV.inv fun hFf51 => ?_
    have f51 := (fx_ct 0 rfl hFf51).1
    refine e_callV m_C_refuse 11 lw_good d_C_move_27 (k_C_refuse _) ⟨Nat.le_of_ble_eq_true rfl, Nat.le_of_ble_eq_true rfl⟩ w_297 w_299 w_s0 (q_C _) rfl f51 (args := [(0, (-1))]) rfl rfl (Nat.le_of_ble_eq_true rfl) (kc' := kc) (ks' := ks) (mc := 0) (ms := 0) rfl rfl h ?_
    intro v52 G53 h
    exact e_iret d_C_move_30 rfl h
  refine e_aload_n d_C_move_0 rfl ?_
  refine e_iload_n d_C_move_1 rfl ?_
  refine EV.inv fun hFf1 => ?_
  have f1 := (fx_ct 0 rfl hFf1).1
  obtain ⟨o2, o3, o4, h⟩ := h
  refine e_callV m_C_thingAt 11 lw_good d_C_move_2 (k_C_thingAt _) ⟨Nat.le_of_ble_eq_true rfl, Nat.le_of_ble_eq_true rfl⟩ w_846 w_848 w_s24 (q_C _) rfl f1 (args := [(0, p1)]) rfl rfl (Nat.le_of_ble_eq_true rfl) (kc' := kc) (ks' := ks) (mc := 0) (ms := 0) rfl rfl (c_C_thingAt o2 o3 o4) (pureK ?_)
  refine e_astore_n (ls' := [(2, ((b : Int) + 1)), (0, p1), (0, p2), (2, (if 0 ≤ p1 ∧ p1 < G 18 ((b : Int) + 2) 0 then G 3 (G 17 ((b : Int) + 2) 0) p1 else 0)), (9, 0)]) d_C_move_5 (by decide) rfl ?_
  refine e_aload_n d_C_move_6 rfl ?_
  refine gx_C_37 d_C_move_7 rfl ?_
  refine e_iload_n d_C_move_10 rfl ?_
  refine EV.inv fun hFf5 => ?_
  have f5 := (fx_ct 17 rfl hFf5).1
  obtain ⟨o6, o7, o8, h⟩ := h
  refine e_callV m_Years_placeAt 10 lw_good d_C_move_11 (k_Years_placeAt _) ⟨Nat.le_of_ble_eq_true rfl, Nat.le_of_ble_eq_true rfl⟩ w_1048 w_1049 w_1050 (q_Years _) rfl f5 (args := [(0, p2)]) rfl rfl (Nat.le_of_ble_eq_true rfl) (kc' := kc) (ks' := ks) (mc := 0) (ms := 0) rfl rfl (c_Years_placeAt o6 o7 o8) (pureK ?_)
  refine e_astore (ls' := [(2, ((b : Int) + 1)), (0, p1), (0, p2), (2, (if 0 ≤ p1 ∧ p1 < G 18 ((b : Int) + 2) 0 then G 3 (G 17 ((b : Int) + 2) 0) p1 else 0)), (2, (if 0 ≤ p2 ∧ p2 < G 18 ((b : Int) + 19) 0 then G 3 (G 17 ((b : Int) + 19) 0) p2 else 0))]) d_C_move_14 (by decide) rfl ?_
  refine e_aload_n d_C_move_16 rfl ?_
  refine e_ifnull (tgt := 25) d_C_move_17 (by decide) (fun q9 => ?_) (fun q10 => ?_)
  · exact kJ50 (Or.inl q9)
  · have h := h q10
    refine e_aload d_C_move_20 rfl ?_
    refine e_ifnonnull (tgt := 31) d_C_move_22 (by decide) (fun q11 => ?_) (fun q12 => ?_)
    · have h := h q11
      refine e_aload_n d_C_move_31 rfl ?_
      refine gx_C_81 d_C_move_32 rfl ?_
      refine e_iconst d_C_move_35 (by decide) ?_
      refine e_icmp_ne (tgt := 75) d_C_move_36 (by decide) (fun q13 => ?_) (fun q14 => ?_)
      · exact kJ54 (Or.inl ⟨q10, q11, q13⟩)
      · have h := h q14
        refine e_aload_n d_C_move_39 rfl ?_
        obtain ⟨o15, o16, h⟩ := h
        refine e_callV m_Thing_isKept 9 lw_good d_C_move_40 (k_Thing_isKept _) ⟨Nat.le_of_ble_eq_true rfl, Nat.le_of_ble_eq_true rfl⟩ w_1260 w_1134 w_1135 (q_Thing _) rfl o15 (args := []) rfl rfl (Nat.le_of_ble_eq_true rfl) (kc' := kc) (ks' := ks) (mc := 0) (ms := 0) rfl rfl (c_Thing_isKept o16) (pureK ?_)
        refine e_if_eq (tgt := 75) d_C_move_43 (by decide) (fun q17 => ?_) (fun q18 => ?_)
        · replace q17 := gb0.mp q17
          exact kJ54 (Or.inr (Or.inl ⟨q10, q11, q14, q17⟩))
        · replace q18 := gb1.mp q18
          have h := h q18
          refine e_aload_n d_C_move_46 rfl ?_
          refine e_callV m_Thing_placeNumber 9 lw_good d_C_move_47 (k_Thing_placeNumber _) ⟨Nat.le_of_ble_eq_true rfl, Nat.le_of_ble_eq_true rfl⟩ w_1261 w_1144 w_1145 (q_Thing _) rfl o15 (args := []) rfl rfl (Nat.le_of_ble_eq_true rfl) (kc' := kc) (ks' := ks) (mc := 0) (ms := 0) rfl rfl (c_Thing_placeNumber o16) (pureK ?_)
          refine e_iload_n d_C_move_50 rfl ?_
          refine e_icmp_eq (tgt := 75) d_C_move_51 (by decide) (fun q19 => ?_) (fun q20 => ?_)
          · exact kJ54 (Or.inr (Or.inr ⟨q10, q11, q14, q18, q19⟩))
          · have h := h q20
            refine e_aload_n d_C_move_54 rfl ?_
            refine gx_C_37 d_C_move_55 rfl ?_
            refine e_iload_n d_C_move_58 rfl ?_
            refine EV.inv fun hFf21 => ?_
            have f21 := (fx_ct 17 rfl hFf21).1
            refine e_callV m_Years_handsIn 10 lw_good d_C_move_59 (k_Years_handsIn _) ⟨Nat.le_of_ble_eq_true rfl, Nat.le_of_ble_eq_true rfl⟩ w_1262 w_1263 w_1264 (q_Years _) rfl f21 (args := [(0, p2)]) rfl rfl (Nat.le_of_ble_eq_true rfl) (kc' := kc) (ks' := ks) (mc := 0) (ms := 0) rfl rfl h ?_
            intro v22 G23 h
            refine e_aload_n d_C_move_62 rfl ?_
            obtain ⟨o24, o25, h⟩ := h
            refine e_callV m_Thing_hands 9 lw_good d_C_move_63 (k_Thing_hands _) ⟨Nat.le_of_ble_eq_true rfl, Nat.le_of_ble_eq_true rfl⟩ w_1267 w_709 w_710 (q_Thing _) rfl o24 (args := []) rfl rfl (Nat.le_of_ble_eq_true rfl) (kc' := kc) (ks' := ks) (mc := 0) (ms := 0) rfl rfl (c_Thing_hands o25) (pureK ?_)
            obtain ⟨o26, h⟩ := h
            refine e_iadd d_C_move_66 o26 ?_
            refine e_aload d_C_move_67 rfl ?_
            obtain ⟨o27, o28, h⟩ := h
            refine e_callV m_Place_hands 4 lw_good d_C_move_69 (k_Place_hands _) ⟨Nat.le_of_ble_eq_true rfl, Nat.le_of_ble_eq_true rfl⟩ w_1268 w_1189 w_1190 (q_Place _) rfl o27 (args := []) rfl rfl (Nat.le_of_ble_eq_true rfl) (kc' := kc) (ks' := ks) (mc := 0) (ms := 0) rfl rfl (c_Place_hands o28) (pureK ?_)
            refine e_icmp_le (tgt := 82) d_C_move_72 (by decide) (fun q29 => ?_) (fun q30 => ?_)
            · have h := h.1 q29
              refine e_aload_n d_C_move_82 rfl ?_
              refine gx_C_37 d_C_move_83 rfl ?_
              refine e_aload_n d_C_move_86 rfl ?_
              refine gx_C_37 d_C_move_87 rfl ?_
              refine e_aload_n d_C_move_90 rfl ?_
              refine e_aload d_C_move_91 rfl ?_
              refine EV.inv fun hFf31 => ?_
              have f31 := (fx_ct 17 rfl hFf31).1
              refine e_callV m_Years_costOf 10 lw_good d_C_move_93 (k_Years_costOf _) ⟨Nat.le_of_ble_eq_true rfl, Nat.le_of_ble_eq_true rfl⟩ w_1269 w_1197 w_1198 (q_Years _) rfl f31 (args := [(2, (if 0 ≤ p1 ∧ p1 < G 18 ((b : Int) + 2) 0 then G 3 (G 17 ((b : Int) + 2) 0) p1 else 0)), (2, (if 0 ≤ p2 ∧ p2 < G 18 ((b : Int) + 19) 0 then G 3 (G 17 ((b : Int) + 19) 0) p2 else 0))]) rfl rfl (Nat.le_of_ble_eq_true rfl) (kc' := kc) (ks' := ks) (mc := 0) (ms := 0) rfl rfl h ?_
              intro v32 G33 h
              refine EV.inv fun hFf34 => ?_
              have f34 := (fx_ct 17 rfl hFf34).1
              refine e_callV m_Years_canPay 10 lw_good d_C_move_96 (k_Years_canPay _) ⟨Nat.le_of_ble_eq_true rfl, Nat.le_of_ble_eq_true rfl⟩ w_1238 w_1239 w_1240 (q_Years _) rfl f34 (args := [(0, v32)]) rfl rfl (Nat.le_of_ble_eq_true rfl) (kc' := kc) (ks' := ks) (mc := 0) (ms := 0) rfl rfl (c_Years_canPay) (pureK ?_)
              refine e_if_ne (tgt := 109) d_C_move_99 (by decide) (fun q35 => ?_) (fun q36 => ?_)
              · replace q35 := gb1.mp q35
                have h := h.1 q35
                refine e_aload_n d_C_move_109 rfl ?_
                refine gx_C_37 d_C_move_110 rfl ?_
                refine e_aload_n d_C_move_113 rfl ?_
                refine e_iload_n d_C_move_114 rfl ?_
                refine EV.inv fun hFf37 => ?_
                have f37 := (fx_ct 17 rfl hFf37).1
                obtain ⟨kc40, ks41, mc42, ms43, hkc40, hks41, h⟩ := h
                refine e_callV m_Years_bring 10 lw_good d_C_move_115 (k_Years_bring _) ⟨Nat.le_of_ble_eq_true rfl, Nat.le_of_ble_eq_true rfl⟩ w_1270 w_1247 w_1248 (q_Years _) rfl f37 (args := [(2, (if 0 ≤ p1 ∧ p1 < G 18 ((b : Int) + 2) 0 then G 3 (G 17 ((b : Int) + 2) 0) p1 else 0)), (0, p2)]) rfl rfl (Nat.le_of_ble_eq_true rfl) (kc' := kc40) (ks' := ks41) (mc := mc42) (ms := ms43) hkc40 hks41 h ?_
                intro v38 G39 h
                exact e_iret d_C_move_118 rfl h
              · replace q36 := gb0.mp q36
                have h := h.2 q36
                refine e_aload_n d_C_move_102 rfl ?_
                refine e_bipush d_C_move_103 (by decide) (by decide) ?_
                refine EV.inv fun hFf44 => ?_
                have f44 := (fx_ct 0 rfl hFf44).1
                refine e_callV m_C_refuse 11 lw_good d_C_move_105 (k_C_refuse _) ⟨Nat.le_of_ble_eq_true rfl, Nat.le_of_ble_eq_true rfl⟩ w_297 w_299 w_s0 (q_C _) rfl f44 (args := [(0, (-7))]) rfl rfl (Nat.le_of_ble_eq_true rfl) (kc' := kc) (ks' := ks) (mc := 0) (ms := 0) rfl rfl h ?_
                intro v45 G46 h
                exact e_iret d_C_move_108 rfl h
            · have h := h.2 q30
              refine e_aload_n d_C_move_75 rfl ?_
              refine e_bipush d_C_move_76 (by decide) (by decide) ?_
              refine EV.inv fun hFf47 => ?_
              have f47 := (fx_ct 0 rfl hFf47).1
              refine e_callV m_C_refuse 11 lw_good d_C_move_78 (k_C_refuse _) ⟨Nat.le_of_ble_eq_true rfl, Nat.le_of_ble_eq_true rfl⟩ w_297 w_299 w_s0 (q_C _) rfl f47 (args := [(0, (-6))]) rfl rfl (Nat.le_of_ble_eq_true rfl) (kc' := kc) (ks' := ks) (mc := 0) (ms := 0) rfl rfl h ?_
              intro v48 G49 h
              exact e_iret d_C_move_81 rfl h
    · exact kJ50 (Or.inr ⟨q10, q12⟩)
theorem c_C_move {e : gE} {b : Nat} {m : Int} {G : gH} {A : zA} {p1 p2 : Int} (hR : zRel e b m G A) (hB : zB 512 A) (hPl : zPl A) (hWv : zWv A) (hc : ∀ t, zTh A t → zSeals A t < 1024) : GX e b m m_C_move [(2, ((b : Int) + 1)), (0, p1), (0, p2)] G 1 (zPsi (zfMove A p1 p2).2 - zPsi A).toNat (zCQ e b m G (zfMove A p1 p2)) := by
  refine GM.inv fun hF => ?_
  have hlo := fx_lo hF
  have hr := hR
  obtain ⟨T, Q, P, hRc⟩ := hr
  have hRc0 := hRc
  obtain ⟨⟨r1, r2, r3, r4⟩, hT, hQ, hP, hJ, hD⟩ := hRc
  obtain ⟨y1, y2, y3⟩ := zTa_p hT hB
  obtain ⟨x1, x2, x3⟩ := zPa_p hP hB
  have b1 : 0 ≤ A 787 0 ∧ A 787 0 ≤ 5 := hB 787 0
  refine GM.ofEV (by decide) (Nat.le_of_ble_eq_true rfl) (sg_C_move_0 ?_)
  rw [zTa_e hT, zPa_e hP, r2.2.2.2.1]
  by_cases ht : zTh A p1
  · have tt := hT.2.1 p1 ht.1 ht.2
    have t1 := tt.1.1.1
    have t2 := tt.1.1.2
    have th := tt.1.2.2.2.2.1
    have tw := tt.1.2.2.2.2.2.2.1
    have t0 : T p1 ≠ 0 := by omega
    have hv := hWv p1 ht
    rw [if_pos ht]
    by_cases hp : 0 ≤ p2 ∧ p2 < A 787 0
    · have tp := hP.1.2.2.1 p2 hp.1 hp.2
      have wp := (hP.2.1 p2 hp.1 hp.2).1
      have p0 : P p2 ≠ 0 := by omega
      have hn : ¬ (¬ zTh A p1 ∨ ¬ (0 ≤ p2 ∧ p2 < A 787 0)) := by rintro (z | z); exact z ht; exact z hp
      rw [if_pos hp, tw]
      have bu : 0 ≤ zUsed A p2 ∧ zUsed A p2 ≤ 64 := by
        have b0 : 0 ≤ A 785 0 ∧ A 785 0 ≤ 16 := hB 785 0
        have := zS_b (f := fun t => if A 11 t = 400 + p2 then A 9 t else 0) (c := 4) (A 785 0) (fun i _ _ => by
          have bh : 0 ≤ A 9 i ∧ A 9 i ≤ 4 := hB 9 i
          show 0 ≤ (if A 11 i = 400 + p2 then A 9 i else 0) ∧ (if A 11 i = 400 + p2 then A 9 i else 0) ≤ 4
          split <;> omega) b0.1 (by decide)
        unfold zUsed
        omega
      have bh : 0 ≤ A 9 p1 ∧ A 9 p1 ≤ 4 := hB 9 p1
      refine ⟨⟨y1, y2, y3 p1, x1, x2, x3 p2, fun _ _ q1 => ⟨t1, t1, fun q2 q3 => GM.mono (c_handsIn hT hB (by omega)) ?_⟩⟩, fun z => ?_, fun z => ?_⟩
      · rintro v G1 ⟨rfl, rfl⟩
        have q4 : ¬ A 11 p1 = 400 + p2 := by intro z; rw [if_pos (by omega)] at q3; omega
        have q5 : ¬ (A 11 p1 ≠ 300 ∧ ¬ zAt A p1) := by unfold zAt; omega
        rw [th, wp.2.1]
        refine ⟨t1, t1, by omega, tp, tp, fun q6 => GM.mono (c_costOf hlo.1 hT hP hB hPl ht hp) ?_, fun q6 => ?_⟩
        · rintro v G2 ⟨rfl, rfl⟩
          rw [r4.2.2]
          have n6 : ¬ (A 788 0 ≠ 2 ∨ (A 11 p1 ≠ 300 ∧ ¬ zAt A p1) ∨ A 11 p1 = 400 + p2 ∨ zUsed A p2 + A 9 p1 > A 23 p2) := by
            rintro (z | z | z | z)
            · exact z q1
            · exact q5 z
            · exact q4 z
            · omega
          refine ⟨fun q7 => ?_, fun q7 => ?_⟩
          · rw [show zfMove A p1 p2 = (A 792 0 - zPrice A p1 p2, zGo (zU A 792 0 (A 792 0 - zPrice A p1 p2)) p1 (400 + p2)) from by unfold zfMove; rw [if_neg hn, if_neg n6, if_neg (by omega)]]
            refine ⟨0, 0, 1, _, by omega, by rw [Nat.zero_add], GM.mono (c_bring hRc0 hB hPl (hc _ ht) ht hp q1 (by omega) q7) ?_⟩
            rintro v G3 ⟨k1, k2, k3⟩
            exact zCQ_mk k1 (zRc_r k2) k3
          · rw [show zfMove A p1 p2 = zNo A (-7) from by unfold zfMove; rw [if_neg hn, if_neg n6, if_pos (by omega)]]
            exact c_C_refuse hR hB (by decide)
        · rw [show zfMove A p1 p2 = zNo A (-6) from by unfold zfMove; rw [if_neg hn, if_pos (Or.inr (Or.inr (Or.inr (by omega))))]]
          exact c_C_refuse hR hB (by decide)
      · rcases z with z | z
        · exact absurd z t0
        · exact absurd z.2 p0
      · have z2 : A 788 0 ≠ 2 ∨ (A 11 p1 ≠ 300 ∧ ¬ zAt A p1) ∨ A 11 p1 = 400 + p2 ∨ zUsed A p2 + A 9 p1 > A 23 p2 := by
          rcases z with z | z | z
          · exact Or.inl z.2.2
          · refine Or.inr (Or.inl ?_)
            have := z.2.2.2
            unfold zAt
            omega
          · refine Or.inr (Or.inr (Or.inl ?_))
            have := z.2.2.2.2
            split at this <;> omega
        rw [show zfMove A p1 p2 = zNo A (-6) from by unfold zfMove; rw [if_neg hn, if_pos z2]]
        exact c_C_refuse hR hB (by decide)
    · have hn : ¬ zTh A p1 ∨ ¬ (0 ≤ p2 ∧ p2 < A 787 0) := Or.inr hp
      rw [if_neg hp, show zfMove A p1 p2 = zNo A (-1) from by unfold zfMove; rw [if_pos hn]]
      refine ⟨⟨y1, y2, y3 p1, x1, x2, x3 p2, fun _ z => absurd rfl z⟩, fun _ => c_C_refuse hR hB (by decide), fun z => ?_⟩
      rcases z with z | z | z <;> exact absurd rfl z.2.1
  · have hn : ¬ zTh A p1 ∨ ¬ (0 ≤ p2 ∧ p2 < A 787 0) := Or.inl ht
    rw [if_neg ht, show zfMove A p1 p2 = zNo A (-1) from by unfold zfMove; rw [if_pos hn]]
    refine ⟨⟨y1, y2, y3 p1, x1, x2, x3 p2, fun z => absurd rfl z⟩, fun _ => c_C_refuse hR hB (by decide), fun z => ?_⟩
    rcases z with z | z | z <;> exact absurd rfl z.1
