/-! THE CLASS, 55: the spread is carried out -/
set_option maxRecDepth 20000 in
set_option maxHeartbeats 4000000 in
theorem sg_Spread_carryOut_0 {e : gE} {b : Nat} {m : Int} {Z : Int → gH → Prop} {kc ks : Nat} {G : gH} (h : GX e b m m_Spread_scoreFound [(2, ((b : Int) + 23))] G 0 0 (fun v2 G3 => (inL (-v2)) ∧ EX e b m m_Spread_carryOut Z kc ks 8 [(2, ((b : Int) + 23)), (1, (-v2)), (9, 0), (0, 0), (9, 0)] [] G3)) : EX e b m m_Spread_carryOut Z kc ks 0 [(2, ((b : Int) + 23)), (9, 0), (9, 0), (9, 0), (9, 0)] [] G := by
  refine e_aload_n d_Spread_carryOut_0 rfl ?_
  refine EV.inv fun hFf1 => ?_
  have f1 := (fx_ct 22 rfl hFf1).1
  refine e_callV m_Spread_scoreFound 7 lw_good d_Spread_carryOut_1 (k_Spread_scoreFound _) ⟨Nat.le_of_ble_eq_true rfl, Nat.le_of_ble_eq_true rfl⟩ w_1234 w_1236 w_s40 (q_Spread _) rfl f1 (args := []) rfl rfl (Nat.le_of_ble_eq_true rfl) (kc' := kc) (ks' := ks) (mc := 0) (ms := 0) rfl rfl h ?_
  intro v2 G3 h
  obtain ⟨o4, h⟩ := h
  refine e_lneg d_Spread_carryOut_4 o4 ?_
  refine e_lstore_n (ls' := [(2, ((b : Int) + 23)), (1, (-v2)), (9, 0), (9, 0), (9, 0)]) d_Spread_carryOut_5 (by decide) rfl ?_
  refine e_iconst d_Spread_carryOut_6 (by decide) ?_
  refine e_istore_n (ls' := [(2, ((b : Int) + 23)), (1, (-v2)), (9, 0), (0, 0), (9, 0)]) d_Spread_carryOut_7 (by decide) rfl ?_
  exact e_forget (ls' := [(2, ((b : Int) + 23)), (1, (-v2)), (9, 0), (0, 0), (9, 0)]) ⟨Or.inr rfl, Or.inr rfl, Or.inl rfl, Or.inr rfl, Or.inl rfl, trivial⟩ h
set_option maxRecDepth 20000 in
set_option maxHeartbeats 4000000 in
theorem sg_Spread_carryOut_8 {e : gE} {b : Nat} {m : Int} {Z : Int → gH → Prop} {kc ks : Nat} {G : gH} {x1 x3 : Int} (h : (G 0 ((b : Int) + 24) 0 = 1) ∧ (((G 18 ((b : Int) + 24) 0) ≤ x3 → Z 0 G) ∧ (x3 < (G 18 ((b : Int) + 24) 0) → (G 0 (G 17 ((b : Int) + 24) 0) 0 = 103) ∧ (0 ≤ x3 ∧ x3 < G 18 ((b : Int) + 24) 0) ∧ (G 18 ((b : Int) + 24) 0 ≤ G 0 (G 17 ((b : Int) + 24) 0) 1) ∧ (G 0 (G 3 (G 17 ((b : Int) + 24) 0) x3) 0 = 10) ∧ (G 0 (G 3 (G 17 ((b : Int) + 24) 0) x3) 0 = 10) ∧ (0 ≤ G 592 (G 3 (G 17 ((b : Int) + 24) 0) x3) 0 ∧ G 592 (G 3 (G 17 ((b : Int) + 24) 0) x3) 0 ≤ 15) ∧ ∃ kc15 ks16 mc17 ms18 : Nat, kc = kc15 + mc17 ∧ ks = ks16 + ms18 ∧ GX e b m m_Years_bring [(2, ((b : Int) + 18)), (2, (G 3 (G 17 ((b : Int) + 24) 0) x3)), (0, (gand (w32 (glshr x1 (3 * (15 - G 592 (G 3 (G 17 ((b : Int) + 24) 0) x3) 0)))) 7))] G mc17 ms18 (fun v13 G14 => (inI (x3 + 1)) ∧ EX e b m m_Spread_carryOut Z kc15 ks16 8 [(2, ((b : Int) + 23)), (1, x1), (9, 0), (0, (x3 + 1)), (9, 0)] [] G14)))) : EX e b m m_Spread_carryOut Z kc ks 8 [(2, ((b : Int) + 23)), (1, x1), (9, 0), (0, x3), (9, 0)] [] G := by
  refine e_iload_n d_Spread_carryOut_8 rfl ?_
  refine e_aload_n d_Spread_carryOut_9 rfl ?_
  refine gx_Spread_22 d_Spread_carryOut_10 rfl ?_
  refine EV.inv fun hFf1 => ?_
  have f1 := (fx_ct 23 rfl hFf1).1
  obtain ⟨o2, h⟩ := h
  refine e_callV m_AL_size 0 lw_good d_Spread_carryOut_13 (k_AL_size _) ⟨Nat.le_of_ble_eq_true rfl, Nat.le_of_ble_eq_true rfl⟩ w_1130 w_330 w_331 (q_AL _) rfl f1 (args := []) rfl rfl (Nat.le_of_ble_eq_true rfl) (kc' := kc) (ks' := ks) (mc := 0) (ms := 0) rfl rfl (c_AL_size o2) (pureK ?_)
  refine e_icmp_ge (tgt := 59) d_Spread_carryOut_16 (by decide) (fun q3 => ?_) (fun q4 => ?_)
  · have h := h.1 q3
    exact e_vret d_Spread_carryOut_59 rfl h
  · have h := h.2 q4
    refine e_aload_n d_Spread_carryOut_19 rfl ?_
    refine gx_Spread_22 d_Spread_carryOut_20 rfl ?_
    refine e_iload_n d_Spread_carryOut_23 rfl ?_
    refine EV.inv fun hFf5 => ?_
    have f5 := (fx_ct 23 rfl hFf5).1
    obtain ⟨o6, o7, o8, h⟩ := h
    refine e_callV m_AL_get 0 lw_good d_Spread_carryOut_24 (k_AL_get _) ⟨Nat.le_of_ble_eq_true rfl, Nat.le_of_ble_eq_true rfl⟩ w_1131 w_607 w_608 (q_AL _) rfl f5 (args := [(0, x3)]) rfl rfl (Nat.le_of_ble_eq_true rfl) (kc' := kc) (ks' := ks) (mc := 0) (ms := 0) rfl rfl (c_AL_get o2 o6 o7 o8) (pureK ?_)
    obtain ⟨o9, h⟩ := h
    refine e_cast 9 d_Spread_carryOut_27 (q_Thing _) w_1132 (Or.inr o9) ?_
    refine e_astore (ls' := [(2, ((b : Int) + 23)), (1, x1), (9, 0), (0, x3), (2, (G 3 (G 17 ((b : Int) + 24) 0) x3))]) d_Spread_carryOut_30 (by decide) rfl ?_
    refine e_aload_n d_Spread_carryOut_32 rfl ?_
    refine gx_Spread_15 d_Spread_carryOut_33 rfl ?_
    refine e_aload d_Spread_carryOut_36 rfl ?_
    refine e_lload_n d_Spread_carryOut_38 rfl ?_
    refine e_aload d_Spread_carryOut_39 rfl ?_
    obtain ⟨o10, o11, h⟩ := h
    refine e_callS m_Spread_shiftOf lw_good d_Spread_carryOut_41 (k_Spread_shiftOf _) ⟨Nat.le_of_ble_eq_true rfl, Nat.le_of_ble_eq_true rfl⟩ w_1207 w_1208 (args := [(2, (G 3 (G 17 ((b : Int) + 24) 0) x3))]) rfl rfl (Nat.le_of_ble_eq_true rfl) (kc' := kc) (ks' := ks) (mc := 0) (ms := 0) rfl rfl (c_Spread_shiftOf o10 o11) (pureK ?_)
    refine e_lshr d_Spread_carryOut_44 ?_
    refine e_l2i d_Spread_carryOut_45 ?_
    refine e_bipush d_Spread_carryOut_46 (by decide) (by decide) ?_
    refine e_iand d_Spread_carryOut_48 ?_
    refine EV.inv fun hFf12 => ?_
    have f12 := (fx_ct 17 rfl hFf12).1
    obtain ⟨kc15, ks16, mc17, ms18, hkc15, hks16, h⟩ := h
    refine e_callV m_Years_bring 10 lw_good d_Spread_carryOut_49 (k_Years_bring _) ⟨Nat.le_of_ble_eq_true rfl, Nat.le_of_ble_eq_true rfl⟩ w_1246 w_1247 w_1248 (q_Years _) rfl f12 (args := [(2, (G 3 (G 17 ((b : Int) + 24) 0) x3)), (0, (gand (w32 (glshr x1 (3 * (15 - G 592 (G 3 (G 17 ((b : Int) + 24) 0) x3) 0)))) 7))]) rfl rfl (Nat.le_of_ble_eq_true rfl) (kc' := kc15) (ks' := ks16) (mc := mc17) (ms := ms18) hkc15 hks16 h ?_
    intro v13 G14 h
    refine e_pop d_Spread_carryOut_52 (by simp) ?_
    obtain ⟨o19, h⟩ := h
    refine e_iinc (ls' := [(2, ((b : Int) + 23)), (1, x1), (9, 0), (0, (x3 + 1)), (2, (G 3 (G 17 ((b : Int) + 24) 0) x3))]) d_Spread_carryOut_53 rfl (by decide) o19 rfl ?_
    refine e_goto (tgt := 8) d_Spread_carryOut_56 (by decide) ?_
    exact e_forget (ls' := [(2, ((b : Int) + 23)), (1, x1), (9, 0), (0, (x3 + 1)), (9, 0)]) ⟨Or.inr rfl, Or.inr rfl, Or.inl rfl, Or.inr rfl, Or.inl rfl, trivial⟩ h
set_option maxRecDepth 20000 in
set_option maxHeartbeats 4000000 in
theorem sg_C_spread_0 {e : gE} {b : Nat} {m : Int} {Z : Int → gH → Prop} {kc ks : Nat} {G : gH} {p1 : Int} (h : ((G 730 ((b : Int) + 1) 0) = 2 → ∃ kc6 ks7 mc8 ms9 : Nat, kc = kc6 + mc8 ∧ ks = ks7 + ms9 ∧ GX e b m m_Spread_find [(2, ((b : Int) + 23))] G mc8 ms9 (fun v4 G5 => ((0 ≤ v4 → (p1 ≠ 0 → ((¬ (v4 ≤ G5 662 ((b : Int) + 18) 0)) → GX e b m m_C_refuse [(2, ((b : Int) + 1)), (0, (-7))] G5 0 0 (fun v18 G19 => Z v18 G19)))) ∧ (v4 < 0 → GX e b m m_C_refuse [(2, ((b : Int) + 1)), (0, v4)] G5 0 0 (fun v21 G22 => Z v21 G22))) ∧ (((0 ≤ v4 ∧ p1 = 0) ∨ (0 ≤ v4 ∧ p1 ≠ 0 ∧ v4 ≤ G5 662 ((b : Int) + 18) 0)) → (p1 = 0 → Z v4 G5) ∧ (p1 ≠ 0 → ∃ kc29 ks30 mc31 ms32 : Nat, kc6 = kc29 + mc31 ∧ ks7 = ks30 + ms32 ∧ GX e b m m_Spread_carryOut [(2, ((b : Int) + 23))] G5 mc31 ms32 (fun _ G28 => Z v4 G28))))) ∧ ((G 730 ((b : Int) + 1) 0) ≠ 2 → GX e b m m_C_refuse [(2, ((b : Int) + 1)), (0, (-6))] G 0 0 (fun v34 G35 => Z v34 G35))) : EX e b m m_C_spread Z kc ks 0 [(2, ((b : Int) + 1)), (0, p1), (9, 0)] [] G := by
  refine e_aload_n d_C_spread_0 rfl ?_
  refine gx_C_81 d_C_spread_1 rfl ?_
  refine e_iconst d_C_spread_4 (by decide) ?_
  refine e_icmp_eq (tgt := 15) d_C_spread_5 (by decide) (fun q1 => ?_) (fun q2 => ?_)
  · have h := h.1 q1
    refine e_aload_n d_C_spread_15 rfl ?_
    refine gx_C_46 d_C_spread_16 rfl ?_
    refine EV.inv fun hFf3 => ?_
    have f3 := (fx_ct 22 rfl hFf3).1
    obtain ⟨kc6, ks7, mc8, ms9, hkc6, hks7, h⟩ := h
    refine e_callV m_Spread_find 7 lw_good d_C_spread_19 (k_Spread_find _) ⟨Nat.le_of_ble_eq_true rfl, Nat.le_of_ble_eq_true rfl⟩ w_1120 w_1121 w_1122 (q_Spread _) rfl f3 (args := []) rfl rfl (Nat.le_of_ble_eq_true rfl) (kc' := kc6) (ks' := ks7) (mc := mc8) (ms := ms9) hkc6 hks7 h ?_
    intro v4 G5 h
    obtain ⟨h, hJ23⟩ := h
    have kJ23 : ((0 ≤ v4 ∧ p1 = 0) ∨ (0 ≤ v4 ∧ p1 ≠ 0 ∧ v4 ≤ G5 662 ((b : Int) + 18) 0)) → EX e b m m_C_spread Z kc6 ks7 55 [(2, ((b : Int) + 1)), (0, p1), (0, v4)] [] G5 := by
      intro rJ23
      have h := hJ23 rJ23
      refine e_iload_n d_C_spread_55 rfl ?_
      refine e_if_eq (tgt := 66) d_C_spread_56 (by decide) (fun q24 => ?_) (fun q25 => ?_)
      · have h := h.1 q24
        refine e_iload_n d_C_spread_66 rfl ?_
        exact e_iret d_C_spread_67 rfl h
      · have h := h.2 q25
        refine e_aload_n d_C_spread_59 rfl ?_
        refine gx_C_46 d_C_spread_60 rfl ?_
        refine EV.inv fun hFf26 => ?_
        have f26 := (fx_ct 22 rfl hFf26).1
        obtain ⟨kc29, ks30, mc31, ms32, hkc29, hks30, h⟩ := h
        refine e_callV m_Spread_carryOut 7 lw_good d_C_spread_63 (k_Spread_carryOut _) ⟨Nat.le_of_ble_eq_true rfl, Nat.le_of_ble_eq_true rfl⟩ w_1242 w_1243 w_1244 (q_Spread _) rfl f26 (args := []) rfl rfl (Nat.le_of_ble_eq_true rfl) (kc' := kc29) (ks' := ks30) (mc := mc31) (ms := ms32) hkc29 hks30 h ?_
        intro v27 G28 h
        refine e_iload_n d_C_spread_66 rfl ?_
        exact e_iret d_C_spread_67 rfl h
    refine e_istore_n (ls' := [(2, ((b : Int) + 1)), (0, p1), (0, v4)]) d_C_spread_22 (by decide) rfl ?_
    refine e_iload_n d_C_spread_23 rfl ?_
    refine e_if_ge (tgt := 33) d_C_spread_24 (by decide) (fun q10 => ?_) (fun q11 => ?_)
    · have h := h.1 q10
      refine e_iload_n d_C_spread_33 rfl ?_
      refine e_if_eq (tgt := 55) d_C_spread_34 (by decide) (fun q12 => ?_) (fun q13 => ?_)
      · exact kJ23 (Or.inl ⟨q10, q12⟩)
      · have h := h q13
        refine e_aload_n d_C_spread_37 rfl ?_
        refine gx_C_37 d_C_spread_38 rfl ?_
        refine e_iload_n d_C_spread_41 rfl ?_
        refine EV.inv fun hFf14 => ?_
        have f14 := (fx_ct 17 rfl hFf14).1
        refine e_callV m_Years_canPay 10 lw_good d_C_spread_42 (k_Years_canPay _) ⟨Nat.le_of_ble_eq_true rfl, Nat.le_of_ble_eq_true rfl⟩ w_1238 w_1239 w_1240 (q_Years _) rfl f14 (args := [(0, v4)]) rfl rfl (Nat.le_of_ble_eq_true rfl) (kc' := kc6) (ks' := ks7) (mc := 0) (ms := 0) rfl rfl (c_Years_canPay) (pureK ?_)
        refine e_if_ne (tgt := 55) d_C_spread_45 (by decide) (fun q15 => ?_) (fun q16 => ?_)
        · replace q15 := gb1.mp q15
          exact kJ23 (Or.inr ⟨q10, q13, q15⟩)
        · replace q16 := gb0.mp q16
          have h := h q16
          refine e_aload_n d_C_spread_48 rfl ?_
          refine e_bipush d_C_spread_49 (by decide) (by decide) ?_
          refine EV.inv fun hFf17 => ?_
          have f17 := (fx_ct 0 rfl hFf17).1
          refine e_callV m_C_refuse 11 lw_good d_C_spread_51 (k_C_refuse _) ⟨Nat.le_of_ble_eq_true rfl, Nat.le_of_ble_eq_true rfl⟩ w_297 w_299 w_s0 (q_C _) rfl f17 (args := [(0, (-7))]) rfl rfl (Nat.le_of_ble_eq_true rfl) (kc' := kc6) (ks' := ks7) (mc := 0) (ms := 0) rfl rfl h ?_
          intro v18 G19 h
          exact e_iret d_C_spread_54 rfl h
    · have h := h.2 q11
      refine e_aload_n d_C_spread_27 rfl ?_
      refine e_iload_n d_C_spread_28 rfl ?_
      refine EV.inv fun hFf20 => ?_
      have f20 := (fx_ct 0 rfl hFf20).1
      refine e_callV m_C_refuse 11 lw_good d_C_spread_29 (k_C_refuse _) ⟨Nat.le_of_ble_eq_true rfl, Nat.le_of_ble_eq_true rfl⟩ w_297 w_299 w_s0 (q_C _) rfl f20 (args := [(0, v4)]) rfl rfl (Nat.le_of_ble_eq_true rfl) (kc' := kc6) (ks' := ks7) (mc := 0) (ms := 0) rfl rfl h ?_
      intro v21 G22 h
      exact e_iret d_C_spread_32 rfl h
  · have h := h.2 q2
    refine e_aload_n d_C_spread_8 rfl ?_
    refine e_bipush d_C_spread_9 (by decide) (by decide) ?_
    refine EV.inv fun hFf33 => ?_
    have f33 := (fx_ct 0 rfl hFf33).1
    refine e_callV m_C_refuse 11 lw_good d_C_spread_11 (k_C_refuse _) ⟨Nat.le_of_ble_eq_true rfl, Nat.le_of_ble_eq_true rfl⟩ w_297 w_299 w_s0 (q_C _) rfl f33 (args := [(0, (-6))]) rfl rfl (Nat.le_of_ble_eq_true rfl) (kc' := kc) (ks' := ks) (mc := 0) (ms := 0) rfl rfl h ?_
    intro v34 G35 h
    exact e_iret d_C_spread_14 rfl h
theorem c_goYears2 {e : gE} {b : Nat} {m : Int} {G : gH} {A : zA} {T Q P : Int → Int} {t w : Int} (r1 : zR1 b G A) (r2 : zR2 b G A) (r3 : zR3 b G A) (r4 : zR4 b G A) (tR : zRkT e b m G A T (zTau A)) (qR : zRkQ e b m G A T Q) (pR : zRkP e b m G A P) (jR : zRkJ e b m G A T) (dR : zDst b G) (hB : zB 512 A) (hc : zSeals A t < 1024) (ht : zTh A t) (hp : A 788 0 = 2) (hw : 300 ≤ w) (h0 : 300 ≤ A 11 t) : GX e b m m_Thing_goTo [(2, T t), (0, w), (0, (1000 + A 791 0))] G 1 (zPsi (zGo A t w) - zPsi A).toNat (fun _ G1 => (zRc e b m G1 (zGo A t w) T Q P ∧ zRf m G G1) ∧ zFW m [598, 604, 605, 1] G G1) := by
  refine GM.tg fun hTg => GM.inv fun hF => ?_
  have hlo := fx_lo hF
  have bs : 0 ≤ A 794 0 ∧ A 794 0 ≤ 16 * 512 + 32 := hB 794 0
  have k := c_goTo (w := w) tR bs.1 hc ht (by omega)
  rw [show zTime A = 1000 + A 791 0 from if_pos hp] at k
  rw [show zPsi (zGo A t w) - zPsi A = 2 * zSL (zSeals A t + 1) - 2 * zSL (zSeals A t) from by rw [zPsi_go bs.1 ht]; omega]
  refine GM.mono k ?_
  rintro v G1 ⟨k1, k2⟩
  refine ⟨⟨zRel_T hTg hlo r1 r2 r3 r4 tR qR pR jR dR k2 (by decide) zGo_ch (by decide) (zRkT_τ k1 (fun u u1 u2 => ?_)) ?_, zRf_fw hlo.2 k2⟩, k2⟩
  · unfold zTau zIn
    rw [zGo_w, zGo_k (by decide)]
    by_cases z : u = t
    · subst z
      rw [if_pos rfl, if_neg (by omega), if_neg (by omega), if_neg (by omega), if_neg (by omega)]
    · rw [if_neg z]
  · obtain ⟨⟨n, f, h1, -⟩, ⟨n2, f2, h3⟩, ⟨n3, f3, h4⟩⟩ := jR
    exact ⟨⟨n, f, zAL_fw hTg hlo (by decide) k2 (by decide) (by decide) h1, fun z => by rw [zGo_k (by decide)] at z; omega⟩, ⟨n2, f2, zAL_fw hTg hlo (by decide) k2 (by decide) (by decide) h3⟩, ⟨n3, f3, zAL_fw hTg hlo (by decide) k2 (by decide) (by decide) h4⟩⟩
theorem c_bring2 {e : gE} {b : Nat} {m : Int} {G : gH} {A : zA} {T Q P : Int → Int} {t p : Int} (hR : zRc e b m G A T Q P) (hB : zB 512 A) (hPl : zPl A) (hc : zSeals A t < 1024) (ht : zTh A t) (hp : 0 ≤ p ∧ p < A 787 0) (h2 : A 788 0 = 2) (h0 : 300 ≤ A 11 t) (hf : zPrice A t p ≤ A 792 0) : GX e b m m_Years_bring [(2, ((b : Int) + 18)), (2, T t), (0, p)] G 1 (zPsi (zGo (zU A 792 0 (A 792 0 - zPrice A t p)) t (400 + p)) - zPsi A).toNat (fun v G1 => v = A 792 0 - zPrice A t p ∧ (zRc e b m G1 (zGo (zU A 792 0 (A 792 0 - zPrice A t p)) t (400 + p)) T Q P ∧ zRf m G G1) ∧ G 9 0 0 ≤ G1 9 0 0 ∧ ∀ (c : Nat) (i j : Int), c ∈ [0, 3, 16, 17, 18] → i < G 9 0 0 → G1 c i j = G c i j) := by
  refine GM.inv fun hF => ?_
  have hlo := fx_lo hF
  have hR0 := hR
  obtain ⟨⟨r1, r2, r3, r4⟩, hT, hQ, hP, hJ, hD⟩ := hR
  have b1 : 0 ≤ A 787 0 ∧ A 787 0 ≤ 5 := hB 787 0
  have bf : 0 ≤ A 792 0 ∧ A 792 0 ≤ 1000000 := hB 792 0
  have bw : 0 ≤ A 791 0 ∧ A 791 0 ≤ 1000 := hB 791 0
  have bp := zPrice_b (t := t) (p := p) hB
  obtain ⟨y1, y2, y3⟩ := zPa_p hP hB
  have tt := (hT.2.1 t ht.1 ht.2).1.1.1
  have wp := (hP.2.1 p hp.1 hp.2).1.1
  refine GM.ofEV (by decide) (Nat.le_of_ble_eq_true rfl) (sg_Years_bring_0 ⟨y1, y2, y3 p, ?_⟩)
  rw [zPa_e hP, if_pos hp, r4.2.2]
  refine ⟨fun z => by omega, fun _ => GM.mono (c_costOf hlo.1 hT hP hB hPl ht hp) ?_⟩
  rintro v G1 ⟨rfl, rfl⟩
  refine ⟨by omega, ?_⟩
  rintro _ rfl
  have qc : zCh [792] A (zU A 792 0 (A 792 0 - zPrice A t p)) := zCh_u
  have hR1 : zRc e b m (gU G1 662 ((b : Int) + 18) 0 (A 792 0 - zPrice A t p)) (zU A 792 0 (A 792 0 - zPrice A t p)) T Q P := by
    refine zRc_st hR0 (zDyn_u (by omega) (by decide)) qc (by decide) (fun r1 r2 r3 r4 => ⟨zR1_A qc (by decide) (zR1_G zSx_u (by decide) r1), zR2_A qc (by decide) (zR2_G zSx_u (by decide) r2), zR3_A qc (by decide) (zR3_G zSx_u (by decide) r3), fun k k1 k2 => ?_, ?_⟩)
    · rw [gU_c _ (by decide), gU_c _ (by decide), gU_c _ (by decide), zU_k (by decide), zU_k (by decide), zU_k (by decide)]
      exact r4.1 k k1 k2
    · rw [gU_c _ (by decide), gU_eq, zU_k (by decide), zU_eq]
      exact ⟨r4.2.1, rfl⟩
  obtain ⟨⟨s1, s2, s3, s4⟩, tR, qR, pR, jR, dR⟩ := hR1
  have e661 : gU G1 662 ((b : Int) + 18) 0 (A 792 0 - zPrice A t p) 661 ((b : Int) + 18) 0 = A 791 0 := by rw [gU_c _ (by decide)]; exact r4.2.1
  have eS : zSeals (zU A 792 0 (A 792 0 - zPrice A t p)) t = zSeals A t := by unfold zSeals; rw [qc 794 (by decide), qc 35 (by decide)]
  have eP : zPsi (zU A 792 0 (A 792 0 - zPrice A t p)) = zPsi A := by unfold zPsi zSeals; rw [qc 794 (by decide), qc 35 (by decide), qc 785 (by decide)]
  have k := c_goYears2 (w := 400 + p) (t := t) s1 s2 s3 s4 tR qR pR jR dR (zB_u hB (by show 0 ≤ A 792 0 - zPrice A t p ∧ A 792 0 - zPrice A t p ≤ 1000000; omega)) (by rw [eS]; exact hc) (by unfold zTh; rw [qc 785 (by decide)]; exact ht) (by rw [qc 788 (by decide)]; exact h2) (by omega) (by rw [qc 11 (by decide)]; exact h0)
  rw [eP, qc 791 (by decide)] at k
  rw [e661]
  refine ⟨by omega, by omega, tt, 0, 0, 1, _, by omega, by rw [Nat.zero_add], GM.mono k ?_⟩
  rintro v2 G2 ⟨⟨k1, k2⟩, k3⟩
  have k9 : gU G1 662 ((b : Int) + 18) 0 (A 792 0 - zPrice A t p) 9 0 0 = G1 9 0 0 := gU_c _ (by decide)
  refine ⟨?_, ⟨k1, zRf_t (zRf_u (Or.inl (by omega))) k2⟩, by rw [← k9]; exact k3.1, fun c i j hc2 hi => ?_⟩
  rotate_left
  · have hcs : c ≠ 9 ∧ c ≠ 662 ∧ c ∉ [598, 604, 605, 1] := by revert hc2; revert c; decide
    rw [k3.2 c i j hcs.1 (by omega) (fun z => hcs.2.2 z.1)]
    exact gU_ne (fun z => hcs.2.1 z.1)
  rw [k1.1.2.2.2.2.2, zGo_k (by decide), zU_eq]
theorem zU_cm {A : zA} {k k' : Nat} {j v j' v' : Int} (h : k ≠ k') : zU (zU A k j v) k' j' v' = zU (zU A k' j' v') k j v := by
  funext x i
  unfold zU
  by_cases a : x = k ∧ i = j
  · rw [if_neg (fun z => h (by rw [← a.1, z.1])), if_pos a, if_pos a]
  · by_cases c : x = k' ∧ i = j'
    · simp only [if_neg a, if_pos c]
    · simp only [if_neg a, if_neg c]
theorem zU_zU {A : zA} {k : Nat} {j v v' : Int} : zU (zU A k j v) k j v' = zU A k j v' := by
  funext x i
  unfold zU
  split <;> rfl
theorem zGo_fuel {A : zA} {t w c : Int} : zGo (zU A 792 0 c) t w = zU (zGo A t w) 792 0 c := by
  unfold zGo zTime
  rw [zU_k (k' := 794) (k := 792) (by decide), zU_k (k' := 788) (k := 792) (by decide), zU_k (k' := 791) (k := 792) (by decide), zU_k (k' := 789) (k := 792) (by decide), zU_k (k' := 11) (k := 792) (by decide)]
  rw [zU_cm (k := 792) (k' := 35) (by decide), zU_cm (k := 792) (k' := 36) (by decide), zU_cm (k := 792) (k' := 37) (by decide), zU_cm (k := 792) (k' := 794) (by decide), zU_cm (k := 792) (k' := 38) (by decide), zU_cm (k := 792) (k' := 11) (by decide)]
theorem zGs_fuel {A : zA} {L F : Int → Int} {c : Int} (n : Int) (hn : 0 ≤ n) : (zF (zGs1 L F) (0, zU A 792 0 c) n).2 = zU (zF (zGs1 L F) (0, A) n).2 792 0 c := by
  refine zloopI (i := 0) (I := fun n => (zF (zGs1 L F) (0, zU A 792 0 c) n).2 = zU (zF (zGs1 L F) (0, A) n).2 792 0 c) (P := fun _ => (zF (zGs1 L F) (0, zU A 792 0 c) n).2 = zU (zF (zGs1 L F) (0, A) n).2 792 0 c) n hn rfl ?_ (fun q => q) (fun _ _ _ _ q => q)
  intro j h1 h2 hi
  rw [zF_s h1, zF_s h1]
  show zGo (zF (zGs1 L F) (0, zU A 792 0 c) j).2 (L j) (400 + F j) = zU (zGo (zF (zGs1 L F) (0, A) j).2 (L j) (400 + F j)) 792 0 c
  rw [hi, zGo_fuel]
theorem zGs_d {A : zA} {L F : Int → Int} {n : Int} (hB : zB 511 A) (hPl : zPl A) (hE : zEnum (zMv A) (fun _ => 0) (A 785 0) n L) (hn : n ≤ 8) (hF : ∀ k, 0 ≤ k → k < n → 0 ≤ F k ∧ F k < A 787 0) (j : Int) (hj : 0 ≤ j ∧ j ≤ n) : zB 512 (zF (zGs1 L F) (0, A) j).2 ∧ zCh [35, 36, 37, 794, 38, 11] A (zF (zGs1 L F) (0, A) j).2 ∧ (zF (zGs1 L F) (0, A) j).2 794 0 ≤ A 794 0 + j ∧ (∀ k, j ≤ k → k < n → (zF (zGs1 L F) (0, A) j).2 11 (L k) = A 11 (L k) ∧ zSeals (zF (zGs1 L F) (0, A) j).2 (L k) = zSeals A (L k)) ∧ zPl (zF (zGs1 L F) (0, A) j).2 := by
  have b0 : 0 ≤ A 785 0 ∧ A 785 0 ≤ 16 := hB 785 0
  have bpl : 0 ≤ A 787 0 ∧ A 787 0 ≤ 5 := hB 787 0
  have bs : 0 ≤ A 794 0 ∧ A 794 0 ≤ 16 * 511 + 32 := hB 794 0
  refine zF_i (I := fun j r => zB 512 r.2 ∧ zCh [35, 36, 37, 794, 38, 11] A r.2 ∧ r.2 794 0 ≤ A 794 0 + j ∧ (∀ k, j ≤ k → k < n → r.2 11 (L k) = A 11 (L k) ∧ zSeals r.2 (L k) = zSeals A (L k)) ∧ zPl r.2) j hj.1 ⟨zB_mono hB (by decide), fun _ _ => rfl, by show A 794 0 ≤ A 794 0 + 0; omega, fun _ _ _ => ⟨rfl, rfl⟩, hPl⟩ ?_
  rintro i ⟨v, C⟩ i1 i2 ⟨a1, a2, a3, a4, a5⟩
  dsimp only at a1 a2 a3 a4 a5
  have bC : 0 ≤ C 794 0 ∧ C 794 0 ≤ 16 * 512 + 32 := a1 794 0
  have o := (hE.2.1 i i1 (by omega)).1
  have f := hF i i1 (by omega)
  unfold zGs1
  dsimp only
  refine ⟨zGo_B a1 (by omega) (by omega) (by omega), fun k hk => (zGo_ch k hk).trans (a2 k hk), by rw [zGo_n]; omega, fun k k1 k2 => ?_, fun t h => ?_⟩
  · have ne : L k ≠ L i := fun z => by
      have := zEnum_inj hE ⟨by omega, k2⟩ ⟨i1, by omega⟩ z
      omega
    have w := a4 k (by omega) k2
    rw [zGo_w, if_neg ne, zGo_seals bC.1, if_neg (fun z => ne z.symm)]
    exact ⟨w.1, by rw [w.2]; omega⟩
  · unfold zAt at h
    rw [zGo_w] at h ⊢
    rw [zGo_k (by decide), a2 787 (by decide)]
    by_cases z : t = L i
    · rw [if_pos z]; omega
    · rw [if_neg z] at h ⊢
      have := a5 t h
      rw [a2 787 (by decide)] at this
      exact this
theorem zPrice_c {A B : zA} {ks : List Nat} {t p : Int} (q : zCh ks A B) (hk : ∀ k ∈ [9, 25], k ∉ ks) (hw : B 11 t = A 11 t) : zPrice B t p = zPrice A t p := by
  unfold zPrice zAt
  rw [hw, q 9 (hk 9 (by decide)), q 25 (hk 25 (by decide))]
theorem zCo_m {A : zA} {L F : Int → Int} {i n : Int} (hB : zB 512 A) (hi : 0 ≤ i ∧ i ≤ n) : zCo A i L F ≤ zCo A n L F := zS_up hi (fun k _ _ => (zPrice_b hB).1)
theorem zPsi_f {A : zA} {c : Int} : zPsi (zU A 792 0 c) = zPsi A := by
  have qc : zCh [792] A (zU A 792 0 c) := zCh_u
  unfold zPsi zSeals
  rw [qc 794 (by decide), qc 35 (by decide), qc 785 (by decide)]
theorem c_carryOut {e : gE} {b : Nat} {m : Int} {G : gH} {A : zA} {T Q P : Int → Int} (hc : zRc e b m G A T Q P) (hB : zB 511 A) (hPl : zPl A) (hS : ∀ t, zTh A t → zSeals A t < 1024) (hph : A 788 0 = 2) (hfd : zFd e b m G A T) (hcost : zCo A (zMn A).1 (zMn A).2 (zSp A).1 ≤ A 792 0) : GX e b m m_Spread_carryOut [(2, ((b : Int) + 23))] G 8 (zPsi (zF (zGs1 (zMn A).2 (zSp A).1) (0, A) (zMn A).1).2 - zPsi A).toNat (fun _ G1 => zRc e b m G1 (zU (zF (zGs1 (zMn A).2 (zSp A).1) (0, A) (zMn A).1).2 792 0 (A 792 0 - zCo A (zMn A).1 (zMn A).2 (zSp A).1)) T Q P ∧ zRf m G G1) := by
  have hB2 : zB 512 A := zB_mono hB (by decide)
  have b0 : 0 ≤ A 785 0 ∧ A 785 0 ≤ 16 := hB 785 0
  have bf : 0 ≤ A 792 0 ∧ A 792 0 ≤ 1000000 := hB 792 0
  obtain ⟨l, hE, hn, x, hx, bx, hd⟩ := hfd
  generalize (zMn A).2 = L at *
  generalize (zMn A).1 = n at *
  generalize hF' : (zSp A).1 = F at *
  have n0 := hE.1.1
  have hF : ∀ k, 0 ≤ k → k < n → 0 ≤ F k ∧ F k < A 787 0 := fun k k1 k2 => (hd k k1 k2).2
  have D := zGs_d hB hPl hE hn hF
  have psi : ∀ i, 0 ≤ i → i ≤ n → zPsi (zF (zGs1 L F) (0, A) i).2 ≤ zPsi (zF (zGs1 L F) (0, A) n).2 := fun i i1 i2 => by
    refine zloopI (i := i) (I := fun n' => zPsi (zF (zGs1 L F) (0, A) i).2 ≤ zPsi (zF (zGs1 L F) (0, A) n').2) (P := fun _ => zPsi (zF (zGs1 L F) (0, A) i).2 ≤ zPsi (zF (zGs1 L F) (0, A) n).2) n i2 (Int.le_refl _) ?_ (fun q => q) (fun _ _ _ _ q => q)
    intro j h1 h2 hi
    have d := D j ⟨by omega, by omega⟩
    have bC : 0 ≤ (zF (zGs1 L F) (0, A) j).2 794 0 ∧ _ := d.1 794 0
    rw [zF_s (by omega)]
    have o := (hE.2.1 j (by omega) h2).1
    refine Int.le_trans hi (zPsi_m bC.1 (by unfold zTh; rw [d.2.1 785 (by decide)]; exact o) ?_)
    rw [(d.2.2.2.1 j (Int.le_refl _) h2).2]
    exact hS _ o
  refine GM.ofEV (by decide) (Nat.le_of_ble_eq_true rfl) (sg_Spread_carryOut_0 (GM.mono (c_scoreFound l ⟨n0, hn⟩) ?_))
  rintro v G1 ⟨rfl, rfl⟩
  rw [hx]
  refine ⟨⟨by omega, by omega⟩, ?_⟩
  refine zloop (P := fun i => ∀ (G : gH) (kc ks : Nat), zRc e b m G (zU (zF (zGs1 L F) (0, A) i).2 792 0 (A 792 0 - zCo A i L F)) T Q P → zRf m G1 G → zAL e b m G ((b : Int) + 24) 10 n (fun k => T (L k)) → n - i ≤ kc → zPsi (zF (zGs1 L F) (0, A) n).2 - zPsi (zF (zGs1 L F) (0, A) i).2 ≤ ks → EX e b m m_Spread_carryOut _ kc ks 8 [(2, ((b : Int) + 23)), (1, -x), (9, 0), (0, i), (9, 0)] [] G) (i := 0) n n0 ?_ ?_ G1 8 _ ?_ zRf_r l (by omega) (by show zPsi _ - zPsi A ≤ _; omega)
  · intro G kc ks hcG rf l2 _ _
    refine sg_Spread_carryOut_8 ?_
    rw [l2.2.1]
    exact ⟨l2.1, fun _ => ⟨hcG, rf⟩, fun z => absurd z (by omega)⟩
  · intro i i1 i2 st G kc ks hcG rf l2 hkc hks
    have d := D i ⟨i1, by omega⟩
    have d1 := D (i + 1) ⟨by omega, by omega⟩
    have p1 := psi (i + 1) (by omega) (by omega)
    have p2 : zPsi (zF (zGs1 L F) (0, A) i).2 ≤ zPsi (zF (zGs1 L F) (0, A) (i + 1)).2 := by
      have bC : 0 ≤ (zF (zGs1 L F) (0, A) i).2 794 0 ∧ _ := d.1 794 0
      rw [zF_s i1]
      have o := (hE.2.1 i i1 i2).1
      refine zPsi_m bC.1 (by unfold zTh; rw [d.2.1 785 (by decide)]; exact o) ?_
      rw [(d.2.2.2.1 i (Int.le_refl _) i2).2]
      exact hS _ o
    have w := zAL_g l2 ⟨i1, i2⟩
    obtain ⟨⟨o1, o2⟩, om⟩ := hE.2.1 i i1 i2
    have dd := hd i i1 i2
    have eX : (zF (zGs1 L F) (0, A) (i + 1)).2 = zGo (zF (zGs1 L F) (0, A) i).2 (L i) (400 + F i) := by rw [zF_s i1]; rfl
    rw [eX] at st p1 p2 d1
    generalize hgX : (zF (zGs1 L F) (0, A) i).2 = X at *
    have qf : zCh [792] X (zU X 792 0 (A 792 0 - zCo A i L F)) := zCh_u
    have e785 : X 785 0 = A 785 0 := by rw [d.2.1 785 (by decide)]
    have e787 : X 787 0 = A 787 0 := by rw [d.2.1 787 (by decide)]
    have wX := d.2.2.2.1 i (Int.le_refl _) i2
    have hw : X 11 (L i) = A 11 (L i) := wX.1
    have pr : zPrice (zU X 792 0 (A 792 0 - zCo A i L F)) (L i) (F i) = zPrice A (L i) (F i) := (zPrice_c qf (by decide) (by rw [qf 11 (by decide)])).trans (zPrice_c d.2.1 (by decide) hw)
    have cs := zCo_s (A := A) (L := L) (f := F) i1
    have cm := zCo_m (A := A) (L := L) (F := F) (i := i + 1) (n := n) hB2 ⟨by omega, by omega⟩
    have cb := zCo_b (L := L) (f := F) (n := i) hB2 ⟨i1, by omega⟩
    have pb := zPrice_b (t := L i) (p := F i) hB2
    have kept : 300 ≤ A 11 (L i) := om.elim (fun z => by omega) (fun z => by have := z.1.1; omega)
    have hBs : zB 512 (zU X 792 0 (A 792 0 - zCo A i L F)) := zB_u d.1 ⟨by show 0 ≤ A 792 0 - zCo A i L F; omega, by show A 792 0 - zCo A i L F ≤ 1000000; omega⟩
    have hT := hcG.2.1
    have tt := (hT.2.1 (L i) o1 (by rw [qf 785 (by decide), e785]; exact o2)).1
    refine sg_Spread_carryOut_8 ?_
    rw [l2.2.1, w.2.2.1, tt.2.1, zlshrI (P := zP8 (L i)) bx (by omega) (zP8_2 ⟨o1, by omega⟩), zg7, dd.1]
    have br := c_bring2 (t := L i) (p := F i) hcG hBs (fun t h => by
      unfold zAt at h
      rw [qf 11 (by decide)] at h ⊢
      rw [qf 787 (by decide)]
      exact d.2.2.2.2 t h) (by rw [zSeals_c (qf 35 (by decide)) (qf 794 (by decide)), wX.2]; exact hS _ ⟨o1, o2⟩) (by unfold zTh; rw [qf 785 (by decide), e785]; exact ⟨o1, o2⟩) (by rw [qf 787 (by decide), e787]; exact dd.2) (by rw [qf 788 (by decide), d.2.1 788 (by decide)]; exact hph) (by rw [qf 11 (by decide), hw]; exact kept) (by rw [pr, zU_eq]; omega)
    have e9 : zU (zU X 792 0 (A 792 0 - zCo A i L F)) 792 0 (zU X 792 0 (A 792 0 - zCo A i L F) 792 0 - zPrice (zU X 792 0 (A 792 0 - zCo A i L F)) (L i) (F i)) = zU X 792 0 (A 792 0 - zCo A (i + 1) L F) := by
      rw [zU_zU, pr, zU_eq, cs]
      congr 1
      omega
    rw [e9, zGo_fuel, zPsi_f, zPsi_f] at br
    refine ⟨l2.1, fun z => absurd z (by omega), fun _ => ⟨w.1, ⟨i1, i2⟩, w.2.1, w.2.2.2, w.2.2.2, ⟨o1, by omega⟩, kc - 1, ks - (zPsi (zGo X (L i) (400 + F i)) - zPsi X).toNat, 1, _, by omega, by omega, GM.tg fun hTg => GM.inv fun hFG => GM.mono br ?_⟩⟩
    rintro v G2 ⟨-, ⟨k1, k2⟩, k3, k4⟩
    have hlo := fx_lo hFG
    refine ⟨by omega, st G2 _ _ k1 (zRf_t rf k2) (zAL_fr (by decide) l2 (fun i j z => k4 0 i j (by decide) (hTg i z).2) (k4 17 _ _ (by decide) (by omega)) (k4 18 _ _ (by decide) (by omega)) (fun z j => k4 3 _ j (by decide) (hTg _ (by omega)).2)) (by omega) (by omega)⟩
  · have e0 : zU (zF (zGs1 L F) (0, A) 0).2 792 0 (A 792 0 - zCo A 0 L F) = A := by
      have c0 : zCo A 0 L F = 0 := zS_0
      rw [c0, Int.sub_zero]
      exact zU_same rfl
    rw [e0]
    exact hc
theorem zSp_co {A : zA} (h : (zSp A).2 ≠ -1) : zCo A (zMn A).1 (zMn A).2 (zSp A).1 = (zSp A).2 := by
  by_cases hx : ∃ f, zIsS A (zMn A).1 (zMn A).2 f
  · have e : zSp A = (Classical.choose hx, zCo A (zMn A).1 (zMn A).2 (Classical.choose hx)) := dif_pos hx
    rw [e]
  · have e : zSp A = (fun _ => -1, -1) := dif_neg hx
    rw [e] at h
    exact absurd rfl h
theorem c_C_spread {e : gE} {b : Nat} {m : Int} {G : gH} {A : zA} {p1 : Int} (hR : zRel e b m G A) (hB : zB 511 A) (hft : zFt A) (hPl : zPl A) (hWv : zWv A) (hS : ∀ t, zTh A t → zSeals A t < 1024) : GX e b m m_C_spread [(2, ((b : Int) + 1)), (0, p1)] G 24 ((zPsi (zfSpread A p1).2 - zPsi A).toNat + 640) (zCQ e b m G (zfSpread A p1)) := by
  have hB2 : zB 512 A := zB_mono hB (by decide)
  have hr := hR
  obtain ⟨T, Q, P, hc⟩ := hr
  have r2 := hc.1.2.1
  refine GM.ofEV (by decide) (Nat.le_of_ble_eq_true rfl) (sg_C_spread_0 ?_)
  rw [r2.2.2.2.1]
  refine ⟨fun q1 => ⟨8, _, 16, 640, rfl, rfl, GM.mono (c_find hc hB2 hft hPl hWv) ?_⟩, fun q1 => ?_⟩
  · rintro v G1 ⟨⟨hc1, rf⟩, hv⟩
    have hR1 := zRc_r hc1
    have rq := hc1.1.2.2.2.2.2
    rcases hv with ⟨n8, rfl⟩ | ⟨n8, no, rfl⟩ | ⟨n8, ⟨rfl, v0, v1⟩, fd⟩
    · rw [show zfSpread A p1 = zNo A (-7) from by unfold zfSpread; rw [if_neg (fun z => z q1), if_pos n8]]
      refine ⟨⟨fun z => by omega, fun _ => GM.mono (c_C_refuse hR1 hB2 (by decide)) (fun v G' h => zCQ_t rf h)⟩, fun z => by omega⟩
    · rw [show zfSpread A p1 = zNo A (-6) from by unfold zfSpread; rw [if_neg (fun z => z q1), if_neg (by omega), if_pos no]]
      refine ⟨⟨fun z => by omega, fun _ => GM.mono (c_C_refuse hR1 hB2 (by decide)) (fun v G' h => zCQ_t rf h)⟩, fun z => by omega⟩
    · have n1 : (zSp A).2 ≠ -1 := by omega
      have co := zSp_co n1
      rw [rq]
      by_cases p0 : p1 = 0
      · rw [show zfSpread A p1 = ((zSp A).2, A) from by unfold zfSpread; rw [if_neg (fun z => z q1), if_neg (by omega), if_neg n1, if_pos p0]]
        exact ⟨⟨fun _ z => absurd p0 z, fun z => by omega⟩, fun _ => ⟨fun _ => zCQ_mk rfl hR1 rf, fun z => absurd p0 z⟩⟩
      · by_cases pf : A 792 0 < (zSp A).2
        · rw [show zfSpread A p1 = zNo A (-7) from by unfold zfSpread; rw [if_neg (fun z => z q1), if_neg (by omega), if_neg n1, if_neg p0, if_pos pf]]
          exact ⟨⟨fun _ _ _ => GM.mono (c_C_refuse hR1 hB2 (by decide)) (fun v G' h => zCQ_t rf h), fun z => by omega⟩, fun z => by omega⟩
        · rw [show zfSpread A p1 = ((zSp A).2, zU (zF (zGs1 (zMn A).2 (zSp A).1) (0, A) (zMn A).1).2 792 0 (A 792 0 - (zSp A).2)) from by unfold zfSpread; rw [if_neg (fun z => z q1), if_neg (by omega), if_neg n1, if_neg p0, if_neg pf, zGs_fuel _ fd.2.1.1.1]]
          have k := c_carryOut hc1 hB hPl hS q1 fd (by omega)
          rw [co] at k
          refine ⟨⟨fun _ _ z => absurd (show (zSp A).2 ≤ A 792 0 by omega) z, fun z => by omega⟩, fun _ => ⟨fun z => absurd z p0, fun _ => ⟨0, 0, 8, _, rfl, by rw [Nat.zero_add]; show _ = (zPsi (zF (zGs1 (zMn A).2 (zSp A).1) (0, A) (zMn A).1).2 - zPsi A).toNat; rw [zPsi_f], GM.mono k ?_⟩⟩⟩
          rintro _ G2 ⟨k1, k2⟩
          exact zCQ_mk rfl (zRc_r k1) (zRf_t rf k2)
  · rw [show zfSpread A p1 = zNo A (-6) from by unfold zfSpread; rw [if_pos q1]]
    exact c_C_refuse hR hB2 (by decide)
