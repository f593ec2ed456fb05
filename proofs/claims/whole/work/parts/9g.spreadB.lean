/-! THE CLASS, 51: movers and stayers -/
abbrev zKe (A : zA) (t : Int) : Prop := 300 ≤ A 11 t ∧ A 11 t < 500
/-- a thing that stays where it is -/
abbrev zSy (A : zA) (t : Int) : Prop := zAt A t ∧ zGood A (A 11 t - 400) (A 7 t)
def zTot (A : zA) (k i : Int) : Int := zS (fun t => if zKe A t ∧ A 7 t = k then 1 else 0) i
def zSta (A : zA) (g k i : Int) : Int := zS (fun t => if zSy A t ∧ A 24 (A 11 t - 400) = g ∧ A 7 t = k then 1 else 0) i
def zTak (A : zA) (p i : Int) : Int := zS (fun t => if zSy A t ∧ A 11 t = 400 + p then A 9 t else 0) i
theorem zTak_b {A : zA} {p i : Int} (hB : zB 512 A) (hi : 0 ≤ i ∧ i ≤ 16) : (0 ≤ zTak A p i ∧ zTak A p i ≤ 64) ∧ (∀ k, 0 ≤ zTot A k i ∧ zTot A k i ≤ 16) ∧ ∀ g k, 0 ≤ zSta A g k i ∧ zSta A g k i ≤ 16 := by
  have a := zS_b (f := fun t => if zSy A t ∧ A 11 t = 400 + p then A 9 t else 0) (c := 4) i (fun t _ _ => by
    have b : 0 ≤ A 9 t ∧ A 9 t ≤ 4 := hB 9 t
    show 0 ≤ (if zSy A t ∧ A 11 t = 400 + p then A 9 t else 0) ∧ (if zSy A t ∧ A 11 t = 400 + p then A 9 t else 0) ≤ 4
    split <;> omega) hi.1 (by decide)
  refine ⟨by unfold zTak; omega, fun k => ?_, fun g k => ?_⟩
  · have := zS_b (f := fun t => if zKe A t ∧ A 7 t = k then (1 : Int) else 0) (c := 1) i (fun _ _ _ => z01) hi.1 (by decide)
    unfold zTot
    omega
  · have := zS_b (f := fun t => if zSy A t ∧ A 24 (A 11 t - 400) = g ∧ A 7 t = k then (1 : Int) else 0) (c := 1) i (fun _ _ _ => z01) hi.1 (by decide)
    unfold zSta
    omega
def zGs (e : gE) (b : Nat) (m : Int) (G0 G : gH) (A : zA) (T : Int → Int) (i n : Int) (L : Int → Int) : Prop := (zSF b m G0 G ∧ zDst b G) ∧ zAL e b m G ((b : Int) + 24) 10 n (fun k => T (L k)) ∧ zEnum (zMv A) (fun _ => 0) i n L ∧ (∀ k, 0 ≤ k → k < 4 → G 1 ((b : Int) + 30) k = zTot A k i) ∧ (∀ g k, 0 ≤ g → g < 4 → 0 ≤ k → k < 4 → G 1 ((b : Int) + 31) (g * 4 + k) = zSta A g k i) ∧ ∀ p, 0 ≤ p → p < 5 → G 1 ((b : Int) + 32) p = zTak A p i
set_option maxRecDepth 20000 in
set_option maxHeartbeats 4000000 in
theorem sg_Spread_moveOrStay_0 {e : gE} {b : Nat} {m : Int} {Z : Int → gH → Prop} {kc ks : Nat} {G : gH} {p1 p2 : Int} (h : (p2 = 0 → ∃ kc40 ks41 mc42 ms43 : Nat, kc = kc40 + mc42 ∧ ks = ks41 + ms43 ∧ GX e b m m_AL_add_b [(2, ((b : Int) + 24)), (2, p1)] G mc42 ms43 (fun v38 G39 => Z 0 G39)) ∧ (p2 ≠ 0 → GX e b m m_Years_suits [(2, ((b : Int) + 18)), (2, p2), (2, p1)] G 0 0 (fun v4 G5 => (v4 ≠ 0 → (G5 0 p2 0 = 5) ∧ ((G5 0 p2 0 = 5) ∧ ((inI ((G5 273 p2 0) * 4)) ∧ ((G5 0 p1 0 = 10) ∧ ((G5 0 p1 0 = 10) ∧ ((inI (((G5 273 p2 0) * 4) + (G5 593 p1 0))) ∧ (((¬ (0 ≤ (((G5 273 p2 0) * 4) + (G5 593 p1 0)) ∧ (((G5 273 p2 0) * 4) + (G5 593 p1 0)) ≤ (16 - 1))) → ((¬ (0 ≤ (if 400 ≤ G5 598 p1 0 ∧ G5 598 p1 0 < 500 then G5 598 p1 0 - 400 else -1) ∧ (if 400 ≤ G5 598 p1 0 ∧ G5 598 p1 0 < 500 then G5 598 p1 0 - 400 else -1) ≤ 4)) → Z 0 G5) ∧ ((0 ≤ (if 400 ≤ G5 598 p1 0 ∧ G5 598 p1 0 < 500 then G5 598 p1 0 - 400 else -1) ∧ (if 400 ≤ G5 598 p1 0 ∧ G5 598 p1 0 < 500 then G5 598 p1 0 - 400 else -1) ≤ 4) → (0 ≤ (if 400 ≤ G5 598 p1 0 ∧ G5 598 p1 0 < 500 then G5 598 p1 0 - 400 else -1) ∧ (if 400 ≤ G5 598 p1 0 ∧ G5 598 p1 0 < 500 then G5 598 p1 0 - 400 else -1) < 5) ∧ ((inI ((G5 1 ((b : Int) + 32) (if 400 ≤ G5 598 p1 0 ∧ G5 598 p1 0 < 500 then G5 598 p1 0 - 400 else -1)) + (G5 595 p1 0))) ∧ (∀ G30 : gH, G30 = gU G5 1 ((b : Int) + 32) (if 400 ≤ G5 598 p1 0 ∧ G5 598 p1 0 < 500 then G5 598 p1 0 - 400 else -1) ((G5 1 ((b : Int) + 32) (if 400 ≤ G5 598 p1 0 ∧ G5 598 p1 0 < 500 then G5 598 p1 0 - 400 else -1)) + (G5 595 p1 0)) → Z 0 G30)))) ∧ ((0 ≤ (((G5 273 p2 0) * 4) + (G5 593 p1 0)) ∧ (((G5 273 p2 0) * 4) + (G5 593 p1 0)) ≤ (16 - 1)) → (0 ≤ (((G5 273 p2 0) * 4) + (G5 593 p1 0)) ∧ (((G5 273 p2 0) * 4) + (G5 593 p1 0)) < 16) ∧ ((inI ((G5 1 ((b : Int) + 31) (((G5 273 p2 0) * 4) + (G5 593 p1 0))) + 1)) ∧ (∀ G18 : gH, G18 = gU G5 1 ((b : Int) + 31) (((G5 273 p2 0) * 4) + (G5 593 p1 0)) ((G5 1 ((b : Int) + 31) (((G5 273 p2 0) * 4) + (G5 593 p1 0))) + 1) → (G18 0 p1 0 = 10) ∧ (((¬ (0 ≤ (if 400 ≤ G18 598 p1 0 ∧ G18 598 p1 0 < 500 then G18 598 p1 0 - 400 else -1) ∧ (if 400 ≤ G18 598 p1 0 ∧ G18 598 p1 0 < 500 then G18 598 p1 0 - 400 else -1) ≤ 4)) → Z 0 G18) ∧ ((0 ≤ (if 400 ≤ G18 598 p1 0 ∧ G18 598 p1 0 < 500 then G18 598 p1 0 - 400 else -1) ∧ (if 400 ≤ G18 598 p1 0 ∧ G18 598 p1 0 < 500 then G18 598 p1 0 - 400 else -1) ≤ 4) → (0 ≤ (if 400 ≤ G18 598 p1 0 ∧ G18 598 p1 0 < 500 then G18 598 p1 0 - 400 else -1) ∧ (if 400 ≤ G18 598 p1 0 ∧ G18 598 p1 0 < 500 then G18 598 p1 0 - 400 else -1) < 5) ∧ ((inI ((G18 1 ((b : Int) + 32) (if 400 ≤ G18 598 p1 0 ∧ G18 598 p1 0 < 500 then G18 598 p1 0 - 400 else -1)) + (G18 595 p1 0))) ∧ (∀ G36 : gH, G36 = gU G18 1 ((b : Int) + 32) (if 400 ≤ G18 598 p1 0 ∧ G18 598 p1 0 < 500 then G18 598 p1 0 - 400 else -1) ((G18 1 ((b : Int) + 32) (if 400 ≤ G18 598 p1 0 ∧ G18 598 p1 0 < 500 then G18 598 p1 0 - 400 else -1)) + (G18 595 p1 0)) → Z 0 G36)))))))))))))) ∧ (v4 = 0 → ∃ kc22 ks23 mc24 ms25 : Nat, kc = kc22 + mc24 ∧ ks = ks23 + ms25 ∧ GX e b m m_AL_add_b [(2, ((b : Int) + 24)), (2, p1)] G5 mc24 ms25 (fun v20 G21 => Z 0 G21))))) : EX e b m m_Spread_moveOrStay Z kc ks 0 [(2, ((b : Int) + 23)), (2, p1), (2, p2), (9, 0)] [] G := by
  refine e_aload_n d_Spread_moveOrStay_0 rfl ?_
  refine e_ifnull (tgt := 16) d_Spread_moveOrStay_1 (by decide) (fun q1 => ?_) (fun q2 => ?_)
  · have h := h.1 q1
    refine e_aload_n d_Spread_moveOrStay_16 rfl ?_
    refine gx_Spread_22 d_Spread_moveOrStay_17 rfl ?_
    refine e_aload_n d_Spread_moveOrStay_20 rfl ?_
    refine EV.inv fun hFf37 => ?_
    have f37 := (fx_ct 23 rfl hFf37).1
    obtain ⟨kc40, ks41, mc42, ms43, hkc40, hks41, h⟩ := h
    refine e_callV m_AL_add_b 0 lw_good d_Spread_moveOrStay_21 (k_AL_add_b _) ⟨Nat.le_of_ble_eq_true rfl, Nat.le_of_ble_eq_true rfl⟩ w_1168 w_354 w_355 (q_AL _) rfl f37 (args := [(2, p1)]) rfl rfl (Nat.le_of_ble_eq_true rfl) (kc' := kc40) (ks' := ks41) (mc := mc42) (ms := ms43) hkc40 hks41 h ?_
    intro v38 G39 h
    refine e_pop d_Spread_moveOrStay_24 (by simp) ?_
    exact e_vret d_Spread_moveOrStay_25 rfl h
  · have h := h.2 q2
    refine e_aload_n d_Spread_moveOrStay_4 rfl ?_
    refine gx_Spread_15 d_Spread_moveOrStay_5 rfl ?_
    refine e_aload_n d_Spread_moveOrStay_8 rfl ?_
    refine e_aload_n d_Spread_moveOrStay_9 rfl ?_
    refine EV.inv fun hFf3 => ?_
    have f3 := (fx_ct 17 rfl hFf3).1
    refine e_callV m_Years_suits 10 lw_good d_Spread_moveOrStay_10 (k_Years_suits _) ⟨Nat.le_of_ble_eq_true rfl, Nat.le_of_ble_eq_true rfl⟩ w_1152 w_1153 w_1154 (q_Years _) rfl f3 (args := [(2, p2), (2, p1)]) rfl rfl (Nat.le_of_ble_eq_true rfl) (kc' := kc) (ks' := ks) (mc := 0) (ms := 0) rfl rfl h ?_
    intro v4 G5 h
    refine e_if_ne (tgt := 26) d_Spread_moveOrStay_13 (by decide) (fun q6 => ?_) (fun q7 => ?_)
    · have h := h.1 q6
      refine e_aload_n d_Spread_moveOrStay_26 rfl ?_
      obtain ⟨o8, o9, h⟩ := h
      refine e_callV m_Place_group 4 lw_good d_Spread_moveOrStay_27 (k_Place_group _) ⟨Nat.le_of_ble_eq_true rfl, Nat.le_of_ble_eq_true rfl⟩ w_1169 w_1170 w_1171 (q_Place _) rfl o8 (args := []) rfl rfl (Nat.le_of_ble_eq_true rfl) (kc' := kc) (ks' := ks) (mc := 0) (ms := 0) rfl rfl (c_Place_group o9) (pureK ?_)
      refine e_iconst d_Spread_moveOrStay_30 (by decide) ?_
      obtain ⟨o10, h⟩ := h
      refine e_imul d_Spread_moveOrStay_31 o10 ?_
      refine e_aload_n d_Spread_moveOrStay_32 rfl ?_
      obtain ⟨o11, o12, h⟩ := h
      refine e_callV m_Thing_kind 9 lw_good d_Spread_moveOrStay_33 (k_Thing_kind _) ⟨Nat.le_of_ble_eq_true rfl, Nat.le_of_ble_eq_true rfl⟩ w_1138 w_1139 w_1140 (q_Thing _) rfl o11 (args := []) rfl rfl (Nat.le_of_ble_eq_true rfl) (kc' := kc) (ks' := ks) (mc := 0) (ms := 0) rfl rfl (c_Thing_kind o12) (pureK ?_)
      obtain ⟨o13, h⟩ := h
      refine e_iadd d_Spread_moveOrStay_36 o13 ?_
      refine e_istore_n (ls' := [(2, ((b : Int) + 23)), (2, p1), (2, p2), (0, (((G5 273 p2 0) * 4) + (G5 593 p1 0)))]) d_Spread_moveOrStay_37 (by decide) rfl ?_
      refine e_iload_n d_Spread_moveOrStay_38 rfl ?_
      refine e_iconst d_Spread_moveOrStay_39 (by decide) ?_
      refine e_aload_n d_Spread_moveOrStay_40 rfl ?_
      refine gx_Spread_45 d_Spread_moveOrStay_41 rfl ?_
      refine xC_alen 30 rfl d_Spread_moveOrStay_44 (by decide) ?_
      refine e_iconst d_Spread_moveOrStay_45 (by decide) ?_
      refine e_isub d_Spread_moveOrStay_46 (by decide) ?_
      refine e_callSN m_C_within "MuseumFlight" lw_good d_Spread_moveOrStay_47 (k_C_within _) ⟨Nat.le_of_ble_eq_true rfl, Nat.le_of_ble_eq_true rfl⟩ w_1142 w_295 (args := [(0, (((G5 273 p2 0) * 4) + (G5 593 p1 0))), (0, 0), (0, (16 - 1))]) rfl rfl (Nat.le_of_ble_eq_true rfl) (kc' := kc) (ks' := ks) (mc := 0) (ms := 0) rfl rfl (c_C_within) (pureK ?_)
      refine e_if_eq (tgt := 63) d_Spread_moveOrStay_50 (by decide) (fun q14 => ?_) (fun q15 => ?_)
      · replace q14 := gb0.mp q14
        have h := h.1 q14
        refine e_aload_n d_Spread_moveOrStay_63 rfl ?_
        refine e_callV m_Thing_placeNumber 9 lw_good d_Spread_moveOrStay_64 (k_Thing_placeNumber _) ⟨Nat.le_of_ble_eq_true rfl, Nat.le_of_ble_eq_true rfl⟩ w_1143 w_1144 w_1145 (q_Thing _) rfl o11 (args := []) rfl rfl (Nat.le_of_ble_eq_true rfl) (kc' := kc) (ks' := ks) (mc := 0) (ms := 0) rfl rfl (c_Thing_placeNumber o12) (pureK ?_)
        refine e_iconst d_Spread_moveOrStay_67 (by decide) ?_
        refine e_iconst d_Spread_moveOrStay_68 (by decide) ?_
        refine e_callSN m_C_within "MuseumFlight" lw_good d_Spread_moveOrStay_69 (k_C_within _) ⟨Nat.le_of_ble_eq_true rfl, Nat.le_of_ble_eq_true rfl⟩ w_1142 w_295 (args := [(0, (if 400 ≤ G5 598 p1 0 ∧ G5 598 p1 0 < 500 then G5 598 p1 0 - 400 else -1)), (0, 0), (0, 4)]) rfl rfl (Nat.le_of_ble_eq_true rfl) (kc' := kc) (ks' := ks) (mc := 0) (ms := 0) rfl rfl (c_C_within) (pureK ?_)
        refine e_if_eq (tgt := 91) d_Spread_moveOrStay_72 (by decide) (fun q26 => ?_) (fun q27 => ?_)
        · replace q26 := gb0.mp q26
          have h := h.1 q26
          exact e_vret d_Spread_moveOrStay_91 rfl h
        · replace q27 := gb1.mp q27
          have h := h.2 q27
          refine e_aload_n d_Spread_moveOrStay_75 rfl ?_
          refine gx_Spread_48 d_Spread_moveOrStay_76 rfl ?_
          refine e_aload_n d_Spread_moveOrStay_79 rfl ?_
          refine e_callV m_Thing_placeNumber 9 lw_good d_Spread_moveOrStay_80 (k_Thing_placeNumber _) ⟨Nat.le_of_ble_eq_true rfl, Nat.le_of_ble_eq_true rfl⟩ w_1143 w_1144 w_1145 (q_Thing _) rfl o11 (args := []) rfl rfl (Nat.le_of_ble_eq_true rfl) (kc' := kc) (ks' := ks) (mc := 0) (ms := 0) rfl rfl (c_Thing_placeNumber o12) (pureK ?_)
          refine e_dup2 d_Spread_moveOrStay_83 (by simp) (by simp) ?_
          obtain ⟨o28, h⟩ := h
          refine xC_iald 31 rfl d_Spread_moveOrStay_84 o28 ?_
          refine e_aload_n d_Spread_moveOrStay_85 rfl ?_
          refine e_callV m_Thing_hands 9 lw_good d_Spread_moveOrStay_86 (k_Thing_hands _) ⟨Nat.le_of_ble_eq_true rfl, Nat.le_of_ble_eq_true rfl⟩ w_1173 w_709 w_710 (q_Thing _) rfl o11 (args := []) rfl rfl (Nat.le_of_ble_eq_true rfl) (kc' := kc) (ks' := ks) (mc := 0) (ms := 0) rfl rfl (c_Thing_hands o12) (pureK ?_)
          obtain ⟨o29, h⟩ := h
          refine e_iadd d_Spread_moveOrStay_89 o29 ?_
          refine xC_iast 31 rfl d_Spread_moveOrStay_90 o28 ?_
          let G30 : gH := gU G5 1 ((b : Int) + 32) (if 400 ≤ G5 598 p1 0 ∧ G5 598 p1 0 < 500 then G5 598 p1 0 - 400 else -1) ((G5 1 ((b : Int) + 32) (if 400 ≤ G5 598 p1 0 ∧ G5 598 p1 0 < 500 then G5 598 p1 0 - 400 else -1)) + (G5 595 p1 0))
          have h := h G30 rfl
          exact e_vret d_Spread_moveOrStay_91 rfl h
      · replace q15 := gb1.mp q15
        have h := h.2 q15
        refine e_aload_n d_Spread_moveOrStay_53 rfl ?_
        refine gx_Spread_45 d_Spread_moveOrStay_54 rfl ?_
        refine e_iload_n d_Spread_moveOrStay_57 rfl ?_
        refine e_dup2 d_Spread_moveOrStay_58 (by simp) (by simp) ?_
        obtain ⟨o16, h⟩ := h
        refine xC_iald 30 rfl d_Spread_moveOrStay_59 o16 ?_
        refine e_iconst d_Spread_moveOrStay_60 (by decide) ?_
        obtain ⟨o17, h⟩ := h
        refine e_iadd d_Spread_moveOrStay_61 o17 ?_
        refine xC_iast 30 rfl d_Spread_moveOrStay_62 o16 ?_
        let G18 : gH := gU G5 1 ((b : Int) + 31) (((G5 273 p2 0) * 4) + (G5 593 p1 0)) ((G5 1 ((b : Int) + 31) (((G5 273 p2 0) * 4) + (G5 593 p1 0))) + 1)
        have h := h G18 rfl
        refine e_aload_n d_Spread_moveOrStay_63 rfl ?_
        obtain ⟨o31, h⟩ := h
        refine e_callV m_Thing_placeNumber 9 lw_good d_Spread_moveOrStay_64 (k_Thing_placeNumber _) ⟨Nat.le_of_ble_eq_true rfl, Nat.le_of_ble_eq_true rfl⟩ w_1143 w_1144 w_1145 (q_Thing _) rfl o11 (args := []) rfl rfl (Nat.le_of_ble_eq_true rfl) (kc' := kc) (ks' := ks) (mc := 0) (ms := 0) rfl rfl (c_Thing_placeNumber o31) (pureK ?_)
        refine e_iconst d_Spread_moveOrStay_67 (by decide) ?_
        refine e_iconst d_Spread_moveOrStay_68 (by decide) ?_
        refine e_callSN m_C_within "MuseumFlight" lw_good d_Spread_moveOrStay_69 (k_C_within _) ⟨Nat.le_of_ble_eq_true rfl, Nat.le_of_ble_eq_true rfl⟩ w_1142 w_295 (args := [(0, (if 400 ≤ G18 598 p1 0 ∧ G18 598 p1 0 < 500 then G18 598 p1 0 - 400 else -1)), (0, 0), (0, 4)]) rfl rfl (Nat.le_of_ble_eq_true rfl) (kc' := kc) (ks' := ks) (mc := 0) (ms := 0) rfl rfl (c_C_within) (pureK ?_)
        refine e_if_eq (tgt := 91) d_Spread_moveOrStay_72 (by decide) (fun q32 => ?_) (fun q33 => ?_)
        · replace q32 := gb0.mp q32
          have h := h.1 q32
          exact e_vret d_Spread_moveOrStay_91 rfl h
        · replace q33 := gb1.mp q33
          have h := h.2 q33
          refine e_aload_n d_Spread_moveOrStay_75 rfl ?_
          refine gx_Spread_48 d_Spread_moveOrStay_76 rfl ?_
          refine e_aload_n d_Spread_moveOrStay_79 rfl ?_
          refine e_callV m_Thing_placeNumber 9 lw_good d_Spread_moveOrStay_80 (k_Thing_placeNumber _) ⟨Nat.le_of_ble_eq_true rfl, Nat.le_of_ble_eq_true rfl⟩ w_1143 w_1144 w_1145 (q_Thing _) rfl o11 (args := []) rfl rfl (Nat.le_of_ble_eq_true rfl) (kc' := kc) (ks' := ks) (mc := 0) (ms := 0) rfl rfl (c_Thing_placeNumber o31) (pureK ?_)
          refine e_dup2 d_Spread_moveOrStay_83 (by simp) (by simp) ?_
          obtain ⟨o34, h⟩ := h
          refine xC_iald 31 rfl d_Spread_moveOrStay_84 o34 ?_
          refine e_aload_n d_Spread_moveOrStay_85 rfl ?_
          refine e_callV m_Thing_hands 9 lw_good d_Spread_moveOrStay_86 (k_Thing_hands _) ⟨Nat.le_of_ble_eq_true rfl, Nat.le_of_ble_eq_true rfl⟩ w_1173 w_709 w_710 (q_Thing _) rfl o11 (args := []) rfl rfl (Nat.le_of_ble_eq_true rfl) (kc' := kc) (ks' := ks) (mc := 0) (ms := 0) rfl rfl (c_Thing_hands o31) (pureK ?_)
          obtain ⟨o35, h⟩ := h
          refine e_iadd d_Spread_moveOrStay_89 o35 ?_
          refine xC_iast 31 rfl d_Spread_moveOrStay_90 o34 ?_
          let G36 : gH := gU G18 1 ((b : Int) + 32) (if 400 ≤ G18 598 p1 0 ∧ G18 598 p1 0 < 500 then G18 598 p1 0 - 400 else -1) ((G18 1 ((b : Int) + 32) (if 400 ≤ G18 598 p1 0 ∧ G18 598 p1 0 < 500 then G18 598 p1 0 - 400 else -1)) + (G18 595 p1 0))
          have h := h G36 rfl
          exact e_vret d_Spread_moveOrStay_91 rfl h
    · have h := h.2 q7
      refine e_aload_n d_Spread_moveOrStay_16 rfl ?_
      refine gx_Spread_22 d_Spread_moveOrStay_17 rfl ?_
      refine e_aload_n d_Spread_moveOrStay_20 rfl ?_
      refine EV.inv fun hFf19 => ?_
      have f19 := (fx_ct 23 rfl hFf19).1
      obtain ⟨kc22, ks23, mc24, ms25, hkc22, hks23, h⟩ := h
      refine e_callV m_AL_add_b 0 lw_good d_Spread_moveOrStay_21 (k_AL_add_b _) ⟨Nat.le_of_ble_eq_true rfl, Nat.le_of_ble_eq_true rfl⟩ w_1168 w_354 w_355 (q_AL _) rfl f19 (args := [(2, p1)]) rfl rfl (Nat.le_of_ble_eq_true rfl) (kc' := kc22) (ks' := ks23) (mc := mc24) (ms := ms25) hkc22 hks23 h ?_
      intro v20 G21 h
      refine e_pop d_Spread_moveOrStay_24 (by simp) ?_
      exact e_vret d_Spread_moveOrStay_25 rfl h
set_option maxRecDepth 20000 in
set_option maxHeartbeats 4000000 in
theorem sg_Spread_gather_0 {e : gE} {b : Nat} {m : Int} {Z : Int → gH → Prop} {kc ks : Nat} {G : gH} (h : GX e b m m_AL_clear [(2, ((b : Int) + 24))] G 0 0 (fun _ G3 => GX e b m m_Arrays_fill_a [(2, ((b : Int) + 30)), (0, 0)] G3 0 0 (fun _ G5 => GX e b m m_Arrays_fill_a [(2, ((b : Int) + 31)), (0, 0)] G5 0 0 (fun _ G7 => GX e b m m_Arrays_fill_a [(2, ((b : Int) + 32)), (0, 0)] G7 0 0 (fun _ G9 => EX e b m m_Spread_gather Z kc ks 33 [(2, ((b : Int) + 23)), (0, 0), (9, 0)] [] G9))))) : EX e b m m_Spread_gather Z kc ks 0 [(2, ((b : Int) + 23)), (9, 0), (9, 0)] [] G := by
  refine e_aload_n d_Spread_gather_0 rfl ?_
  refine gx_Spread_22 d_Spread_gather_1 rfl ?_
  refine EV.inv fun hFf1 => ?_
  have f1 := (fx_ct 23 rfl hFf1).1
  refine e_callV m_AL_clear 0 lw_good d_Spread_gather_4 (k_AL_clear _) ⟨Nat.le_of_ble_eq_true rfl, Nat.le_of_ble_eq_true rfl⟩ w_1128 w_632 w_633 (q_AL _) rfl f1 (args := []) rfl rfl (Nat.le_of_ble_eq_true rfl) (kc' := kc) (ks' := ks) (mc := 0) (ms := 0) rfl rfl h ?_
  intro v2 G3 h
  refine e_aload_n d_Spread_gather_7 rfl ?_
  refine gx_Spread_42 d_Spread_gather_8 rfl ?_
  refine e_iconst d_Spread_gather_11 (by decide) ?_
  refine e_callS m_Arrays_fill_a lw_good d_Spread_gather_12 (k_Arrays_fill_a _) ⟨Nat.le_of_ble_eq_true rfl, Nat.le_of_ble_eq_true rfl⟩ w_1129 w_68 (args := [(2, ((b : Int) + 30)), (0, 0)]) rfl rfl (Nat.le_of_ble_eq_true rfl) (kc' := kc) (ks' := ks) (mc := 0) (ms := 0) rfl rfl h ?_
  intro v4 G5 h
  refine e_aload_n d_Spread_gather_15 rfl ?_
  refine gx_Spread_45 d_Spread_gather_16 rfl ?_
  refine e_iconst d_Spread_gather_19 (by decide) ?_
  refine e_callS m_Arrays_fill_a lw_good d_Spread_gather_20 (k_Arrays_fill_a _) ⟨Nat.le_of_ble_eq_true rfl, Nat.le_of_ble_eq_true rfl⟩ w_1129 w_68 (args := [(2, ((b : Int) + 31)), (0, 0)]) rfl rfl (Nat.le_of_ble_eq_true rfl) (kc' := kc) (ks' := ks) (mc := 0) (ms := 0) rfl rfl h ?_
  intro v6 G7 h
  refine e_aload_n d_Spread_gather_23 rfl ?_
  refine gx_Spread_48 d_Spread_gather_24 rfl ?_
  refine e_iconst d_Spread_gather_27 (by decide) ?_
  refine e_callS m_Arrays_fill_a lw_good d_Spread_gather_28 (k_Arrays_fill_a _) ⟨Nat.le_of_ble_eq_true rfl, Nat.le_of_ble_eq_true rfl⟩ w_1129 w_68 (args := [(2, ((b : Int) + 32)), (0, 0)]) rfl rfl (Nat.le_of_ble_eq_true rfl) (kc' := kc) (ks' := ks) (mc := 0) (ms := 0) rfl rfl h ?_
  intro v8 G9 h
  refine e_iconst d_Spread_gather_31 (by decide) ?_
  refine e_istore_n (ls' := [(2, ((b : Int) + 23)), (0, 0), (9, 0)]) d_Spread_gather_32 (by decide) rfl ?_
  exact e_forget (ls' := [(2, ((b : Int) + 23)), (0, 0), (9, 0)]) ⟨Or.inr rfl, Or.inr rfl, Or.inl rfl, trivial⟩ h
set_option maxRecDepth 20000 in
set_option maxHeartbeats 4000000 in
theorem sg_Spread_gather_33 {e : gE} {b : Nat} {m : Int} {Z : Int → gH → Prop} {kc ks : Nat} {G : gH} {x1 : Int} (h : ((G 0 ((b : Int) + 2) 0 = 1) ∧ (((G 18 ((b : Int) + 2) 0) ≤ x1 → Z 0 G) ∧ (x1 < (G 18 ((b : Int) + 2) 0) → (G 0 (G 17 ((b : Int) + 2) 0) 0 = 103) ∧ ((0 ≤ x1 ∧ x1 < G 18 ((b : Int) + 2) 0) ∧ ((G 18 ((b : Int) + 2) 0 ≤ G 0 (G 17 ((b : Int) + 2) 0) 1) ∧ ((G 0 (G 3 (G 17 ((b : Int) + 2) 0) x1) 0 = 10) ∧ ((G 0 (G 3 (G 17 ((b : Int) + 2) 0) x1) 0 = 10) ∧ ((300 ≤ G 598 (G 3 (G 17 ((b : Int) + 2) 0) x1) 0 ∧ G 598 (G 3 (G 17 ((b : Int) + 2) 0) x1) 0 < 500) → ((0 ≤ (G 593 (G 3 (G 17 ((b : Int) + 2) 0) x1) 0) ∧ (G 593 (G 3 (G 17 ((b : Int) + 2) 0) x1) 0) ≤ 3) → (0 ≤ (G 593 (G 3 (G 17 ((b : Int) + 2) 0) x1) 0) ∧ (G 593 (G 3 (G 17 ((b : Int) + 2) 0) x1) 0) < 4) ∧ ((inI ((G 1 ((b : Int) + 30) (G 593 (G 3 (G 17 ((b : Int) + 2) 0) x1) 0)) + 1)) ∧ (∀ G17 : gH, G17 = gU G 1 ((b : Int) + 30) (G 593 (G 3 (G 17 ((b : Int) + 2) 0) x1) 0) ((G 1 ((b : Int) + 30) (G 593 (G 3 (G 17 ((b : Int) + 2) 0) x1) 0)) + 1) → (G17 0 (G 3 (G 17 ((b : Int) + 2) 0) x1) 0 = 10) ∧ ((0 ≤ G17 18 ((b : Int) + 19) 0 ∧ G17 18 ((b : Int) + 19) 0 ≤ 5) ∧ ((G17 0 ((b : Int) + 19) 0 = 1) ∧ ((0 ≤ (if 400 ≤ G17 598 (G 3 (G 17 ((b : Int) + 2) 0) x1) 0 ∧ G17 598 (G 3 (G 17 ((b : Int) + 2) 0) x1) 0 < 500 then G17 598 (G 3 (G 17 ((b : Int) + 2) 0) x1) 0 - 400 else -1) ∧ (if 400 ≤ G17 598 (G 3 (G 17 ((b : Int) + 2) 0) x1) 0 ∧ G17 598 (G 3 (G 17 ((b : Int) + 2) 0) x1) 0 < 500 then G17 598 (G 3 (G 17 ((b : Int) + 2) 0) x1) 0 - 400 else -1) < G17 18 ((b : Int) + 19) 0 → G17 0 (G17 17 ((b : Int) + 19) 0) 0 = 103 ∧ G17 18 ((b : Int) + 19) 0 ≤ G17 0 (G17 17 ((b : Int) + 19) 0) 1 ∧ G17 0 (G17 3 (G17 17 ((b : Int) + 19) 0) (if 400 ≤ G17 598 (G 3 (G 17 ((b : Int) + 2) 0) x1) 0 ∧ G17 598 (G 3 (G 17 ((b : Int) + 2) 0) x1) 0 < 500 then G17 598 (G 3 (G 17 ((b : Int) + 2) 0) x1) 0 - 400 else -1)) 0 = 5) ∧ ∃ kc26 ks27 mc28 ms29 : Nat, kc = kc26 + mc28 ∧ ks = ks27 + ms29 ∧ GX e b m m_Spread_moveOrStay [(2, ((b : Int) + 23)), (2, (G 3 (G 17 ((b : Int) + 2) 0) x1)), (2, (if 0 ≤ (if 400 ≤ G17 598 (G 3 (G 17 ((b : Int) + 2) 0) x1) 0 ∧ G17 598 (G 3 (G 17 ((b : Int) + 2) 0) x1) 0 < 500 then G17 598 (G 3 (G 17 ((b : Int) + 2) 0) x1) 0 - 400 else -1) ∧ (if 400 ≤ G17 598 (G 3 (G 17 ((b : Int) + 2) 0) x1) 0 ∧ G17 598 (G 3 (G 17 ((b : Int) + 2) 0) x1) 0 < 500 then G17 598 (G 3 (G 17 ((b : Int) + 2) 0) x1) 0 - 400 else -1) < G17 18 ((b : Int) + 19) 0 then G17 3 (G17 17 ((b : Int) + 19) 0) (if 400 ≤ G17 598 (G 3 (G 17 ((b : Int) + 2) 0) x1) 0 ∧ G17 598 (G 3 (G 17 ((b : Int) + 2) 0) x1) 0 < 500 then G17 598 (G 3 (G 17 ((b : Int) + 2) 0) x1) 0 - 400 else -1) else 0))] G17 mc28 ms29 (fun _ G25 => (inI (x1 + 1)) ∧ EX e b m m_Spread_gather Z kc26 ks27 33 [(2, ((b : Int) + 23)), (0, (x1 + 1)), (9, 0)] [] G25))))))))))))))) ∧ (((x1 < (G 18 ((b : Int) + 2) 0) ∧ (¬ (300 ≤ G 598 (G 3 (G 17 ((b : Int) + 2) 0) x1) 0 ∧ G 598 (G 3 (G 17 ((b : Int) + 2) 0) x1) 0 < 500))) ∨ (x1 < (G 18 ((b : Int) + 2) 0) ∧ (300 ≤ G 598 (G 3 (G 17 ((b : Int) + 2) 0) x1) 0 ∧ G 598 (G 3 (G 17 ((b : Int) + 2) 0) x1) 0 < 500) ∧ (¬ (0 ≤ (G 593 (G 3 (G 17 ((b : Int) + 2) 0) x1) 0) ∧ (G 593 (G 3 (G 17 ((b : Int) + 2) 0) x1) 0) ≤ 3)))) → (inI (x1 + 1)) ∧ EX e b m m_Spread_gather Z kc ks 33 [(2, ((b : Int) + 23)), (0, (x1 + 1)), (9, 0)] [] G)) : EX e b m m_Spread_gather Z kc ks 33 [(2, ((b : Int) + 23)), (0, x1), (9, 0)] [] G := by
  obtain ⟨h, hJ31⟩ := h
  have kJ31 : ((x1 < (G 18 ((b : Int) + 2) 0) ∧ (¬ (300 ≤ G 598 (G 3 (G 17 ((b : Int) + 2) 0) x1) 0 ∧ G 598 (G 3 (G 17 ((b : Int) + 2) 0) x1) 0 < 500))) ∨ (x1 < (G 18 ((b : Int) + 2) 0) ∧ (300 ≤ G 598 (G 3 (G 17 ((b : Int) + 2) 0) x1) 0 ∧ G 598 (G 3 (G 17 ((b : Int) + 2) 0) x1) 0 < 500) ∧ (¬ (0 ≤ (G 593 (G 3 (G 17 ((b : Int) + 2) 0) x1) 0) ∧ (G 593 (G 3 (G 17 ((b : Int) + 2) 0) x1) 0) ≤ 3)))) → EX e b m m_Spread_gather Z kc ks 104 [(2, ((b : Int) + 23)), (0, x1), (2, (G 3 (G 17 ((b : Int) + 2) 0) x1))] [] G := by
    intro rJ31
    have h := hJ31 rJ31
    obtain ⟨o32, h⟩ := h
    refine e_iinc (ls' := [(2, ((b : Int) + 23)), (0, (x1 + 1)), (2, (G 3 (G 17 ((b : Int) + 2) 0) x1))]) d_Spread_gather_104 rfl (by decide) o32 rfl ?_
    refine e_goto (tgt := 33) d_Spread_gather_107 (by decide) ?_
    exact e_forget (ls' := [(2, ((b : Int) + 23)), (0, (x1 + 1)), (9, 0)]) ⟨Or.inr rfl, Or.inr rfl, Or.inl rfl, trivial⟩ h
  refine e_iload_n d_Spread_gather_33 rfl ?_
  refine e_aload_n d_Spread_gather_34 rfl ?_
  refine gx_Spread_11 d_Spread_gather_35 rfl ?_
  refine EV.inv fun hFf1 => ?_
  have f1 := (fx_ct 1 rfl hFf1).1
  obtain ⟨o2, h⟩ := h
  refine e_callV m_AL_size 0 lw_good d_Spread_gather_38 (k_AL_size _) ⟨Nat.le_of_ble_eq_true rfl, Nat.le_of_ble_eq_true rfl⟩ w_1130 w_330 w_331 (q_AL _) rfl f1 (args := []) rfl rfl (Nat.le_of_ble_eq_true rfl) (kc' := kc) (ks' := ks) (mc := 0) (ms := 0) rfl rfl (c_AL_size o2) (pureK ?_)
  refine e_icmp_ge (tgt := 110) d_Spread_gather_41 (by decide) (fun q3 => ?_) (fun q4 => ?_)
  · have h := h.1 q3
    exact e_vret d_Spread_gather_110 rfl h
  · have h := h.2 q4
    refine e_aload_n d_Spread_gather_44 rfl ?_
    refine gx_Spread_11 d_Spread_gather_45 rfl ?_
    refine e_iload_n d_Spread_gather_48 rfl ?_
    refine EV.inv fun hFf5 => ?_
    have f5 := (fx_ct 1 rfl hFf5).1
    obtain ⟨o6, o7, o8, h⟩ := h
    refine e_callV m_AL_get 0 lw_good d_Spread_gather_49 (k_AL_get _) ⟨Nat.le_of_ble_eq_true rfl, Nat.le_of_ble_eq_true rfl⟩ w_1131 w_607 w_608 (q_AL _) rfl f5 (args := [(0, x1)]) rfl rfl (Nat.le_of_ble_eq_true rfl) (kc' := kc) (ks' := ks) (mc := 0) (ms := 0) rfl rfl (c_AL_get o2 o6 o7 o8) (pureK ?_)
    obtain ⟨o9, h⟩ := h
    refine e_cast 9 d_Spread_gather_52 (q_Thing _) w_1132 (Or.inr o9) ?_
    refine e_astore_n (ls' := [(2, ((b : Int) + 23)), (0, x1), (2, (G 3 (G 17 ((b : Int) + 2) 0) x1))]) d_Spread_gather_55 (by decide) rfl ?_
    refine e_aload_n d_Spread_gather_56 rfl ?_
    obtain ⟨o10, h⟩ := h
    refine e_callV m_Thing_isKept 9 lw_good d_Spread_gather_57 (k_Thing_isKept _) ⟨Nat.le_of_ble_eq_true rfl, Nat.le_of_ble_eq_true rfl⟩ w_1133 w_1134 w_1135 (q_Thing _) rfl o9 (args := []) rfl rfl (Nat.le_of_ble_eq_true rfl) (kc' := kc) (ks' := ks) (mc := 0) (ms := 0) rfl rfl (c_Thing_isKept o10) (pureK ?_)
    refine e_if_eq (tgt := 104) d_Spread_gather_60 (by decide) (fun q11 => ?_) (fun q12 => ?_)
    · replace q11 := gb0.mp q11
      exact kJ31 (Or.inl ⟨q4, q11⟩)
    · replace q12 := gb1.mp q12
      have h := h q12
      refine e_aload_n d_Spread_gather_63 rfl ?_
      refine e_callV m_Thing_kind 9 lw_good d_Spread_gather_64 (k_Thing_kind _) ⟨Nat.le_of_ble_eq_true rfl, Nat.le_of_ble_eq_true rfl⟩ w_1138 w_1139 w_1140 (q_Thing _) rfl o9 (args := []) rfl rfl (Nat.le_of_ble_eq_true rfl) (kc' := kc) (ks' := ks) (mc := 0) (ms := 0) rfl rfl (c_Thing_kind o10) (pureK ?_)
      refine e_iconst d_Spread_gather_67 (by decide) ?_
      refine e_iconst d_Spread_gather_68 (by decide) ?_
      refine e_callSN m_C_within "MuseumFlight" lw_good d_Spread_gather_69 (k_C_within _) ⟨Nat.le_of_ble_eq_true rfl, Nat.le_of_ble_eq_true rfl⟩ w_1142 w_295 (args := [(0, (G 593 (G 3 (G 17 ((b : Int) + 2) 0) x1) 0)), (0, 0), (0, 3)]) rfl rfl (Nat.le_of_ble_eq_true rfl) (kc' := kc) (ks' := ks) (mc := 0) (ms := 0) rfl rfl (c_C_within) (pureK ?_)
      refine e_if_eq (tgt := 104) d_Spread_gather_72 (by decide) (fun q13 => ?_) (fun q14 => ?_)
      · replace q13 := gb0.mp q13
        exact kJ31 (Or.inr ⟨q4, q12, q13⟩)
      · replace q14 := gb1.mp q14
        have h := h q14
        refine e_aload_n d_Spread_gather_75 rfl ?_
        refine gx_Spread_42 d_Spread_gather_76 rfl ?_
        refine e_aload_n d_Spread_gather_79 rfl ?_
        refine e_callV m_Thing_kind 9 lw_good d_Spread_gather_80 (k_Thing_kind _) ⟨Nat.le_of_ble_eq_true rfl, Nat.le_of_ble_eq_true rfl⟩ w_1138 w_1139 w_1140 (q_Thing _) rfl o9 (args := []) rfl rfl (Nat.le_of_ble_eq_true rfl) (kc' := kc) (ks' := ks) (mc := 0) (ms := 0) rfl rfl (c_Thing_kind o10) (pureK ?_)
        refine e_dup2 d_Spread_gather_83 (by simp) (by simp) ?_
        obtain ⟨o15, h⟩ := h
        refine xC_iald 29 rfl d_Spread_gather_84 o15 ?_
        refine e_iconst d_Spread_gather_85 (by decide) ?_
        obtain ⟨o16, h⟩ := h
        refine e_iadd d_Spread_gather_86 o16 ?_
        refine xC_iast 29 rfl d_Spread_gather_87 o15 ?_
        let G17 : gH := gU G 1 ((b : Int) + 30) (G 593 (G 3 (G 17 ((b : Int) + 2) 0) x1) 0) ((G 1 ((b : Int) + 30) (G 593 (G 3 (G 17 ((b : Int) + 2) 0) x1) 0)) + 1)
        have h := h G17 rfl
        refine e_aload_n d_Spread_gather_88 rfl ?_
        refine e_aload_n d_Spread_gather_89 rfl ?_
        refine e_aload_n d_Spread_gather_90 rfl ?_
        refine gx_Spread_15 d_Spread_gather_91 rfl ?_
        refine e_aload_n d_Spread_gather_94 rfl ?_
        obtain ⟨o18, h⟩ := h
        refine e_callV m_Thing_placeNumber 9 lw_good d_Spread_gather_95 (k_Thing_placeNumber _) ⟨Nat.le_of_ble_eq_true rfl, Nat.le_of_ble_eq_true rfl⟩ w_1143 w_1144 w_1145 (q_Thing _) rfl o9 (args := []) rfl rfl (Nat.le_of_ble_eq_true rfl) (kc' := kc) (ks' := ks) (mc := 0) (ms := 0) rfl rfl (c_Thing_placeNumber o18) (pureK ?_)
        refine EV.inv fun hFf19 => ?_
        have f19 := (fx_ct 17 rfl hFf19).1
        obtain ⟨o20, o21, o22, h⟩ := h
        refine e_callV m_Years_placeAt 10 lw_good d_Spread_gather_98 (k_Years_placeAt _) ⟨Nat.le_of_ble_eq_true rfl, Nat.le_of_ble_eq_true rfl⟩ w_1147 w_1049 w_1050 (q_Years _) rfl f19 (args := [(0, (if 400 ≤ G17 598 (G 3 (G 17 ((b : Int) + 2) 0) x1) 0 ∧ G17 598 (G 3 (G 17 ((b : Int) + 2) 0) x1) 0 < 500 then G17 598 (G 3 (G 17 ((b : Int) + 2) 0) x1) 0 - 400 else -1))]) rfl rfl (Nat.le_of_ble_eq_true rfl) (kc' := kc) (ks' := ks) (mc := 0) (ms := 0) rfl rfl (c_Years_placeAt o20 o21 o22) (pureK ?_)
        refine EV.inv fun hFf23 => ?_
        have f23 := (fx_ct 22 rfl hFf23).1
        obtain ⟨kc26, ks27, mc28, ms29, hkc26, hks27, h⟩ := h
        refine e_callV m_Spread_moveOrStay 7 lw_good d_Spread_gather_101 (k_Spread_moveOrStay _) ⟨Nat.le_of_ble_eq_true rfl, Nat.le_of_ble_eq_true rfl⟩ w_1148 w_1150 w_s31 (q_Spread _) rfl f23 (args := [(2, (G 3 (G 17 ((b : Int) + 2) 0) x1)), (2, (if 0 ≤ (if 400 ≤ G17 598 (G 3 (G 17 ((b : Int) + 2) 0) x1) 0 ∧ G17 598 (G 3 (G 17 ((b : Int) + 2) 0) x1) 0 < 500 then G17 598 (G 3 (G 17 ((b : Int) + 2) 0) x1) 0 - 400 else -1) ∧ (if 400 ≤ G17 598 (G 3 (G 17 ((b : Int) + 2) 0) x1) 0 ∧ G17 598 (G 3 (G 17 ((b : Int) + 2) 0) x1) 0 < 500 then G17 598 (G 3 (G 17 ((b : Int) + 2) 0) x1) 0 - 400 else -1) < G17 18 ((b : Int) + 19) 0 then G17 3 (G17 17 ((b : Int) + 19) 0) (if 400 ≤ G17 598 (G 3 (G 17 ((b : Int) + 2) 0) x1) 0 ∧ G17 598 (G 3 (G 17 ((b : Int) + 2) 0) x1) 0 < 500 then G17 598 (G 3 (G 17 ((b : Int) + 2) 0) x1) 0 - 400 else -1) else 0))]) rfl rfl (Nat.le_of_ble_eq_true rfl) (kc' := kc26) (ks' := ks27) (mc := mc28) (ms := ms29) hkc26 hks27 h ?_
        intro v24 G25 h
        obtain ⟨o30, h⟩ := h
        refine e_iinc (ls' := [(2, ((b : Int) + 23)), (0, (x1 + 1)), (2, (G 3 (G 17 ((b : Int) + 2) 0) x1))]) d_Spread_gather_104 rfl (by decide) o30 rfl ?_
        refine e_goto (tgt := 33) d_Spread_gather_107 (by decide) ?_
        exact e_forget (ls' := [(2, ((b : Int) + 23)), (0, (x1 + 1)), (9, 0)]) ⟨Or.inr rfl, Or.inr rfl, Or.inl rfl, trivial⟩ h
theorem c_moveOrStay {e : gE} {b : Nat} {m : Int} {G : gH} {A : zA} {T Q P L : Int → Int} {n x : Int} (hc : zRc e b m G A T Q P) (hB : zB 512 A) (hft : zFt A) (hPl : zPl A) (hl : zAL e b m G ((b : Int) + 24) 10 n (fun k => T (L k))) (hn : n ≤ 16) (hx : zTh A x) (hk : zKe A x) (hy : A 11 x < 400 → A 11 x = 300) (b31 : ∀ j, 0 ≤ j → j < 16 → -100 ≤ G 1 ((b : Int) + 31) j ∧ G 1 ((b : Int) + 31) j ≤ 100) (b32 : ∀ j, 0 ≤ j → j < 5 → -100 ≤ G 1 ((b : Int) + 32) j ∧ G 1 ((b : Int) + 32) j ≤ 100) : GX e b m m_Spread_moveOrStay [(2, ((b : Int) + 23)), (2, T x), (2, if zAt A x then P (A 11 x - 400) else 0)] G 1 40 (fun _ G1 => (zMv A x ∧ zAL e b m G1 ((b : Int) + 24) 10 (n + 1) (zPut (fun k => T (L k)) n (T x)) ∧ zAF ((b : Int) + 24) G G1) ∨ (zSy A x ∧ G1 = gU (gU G 1 ((b : Int) + 31) (A 24 (A 11 x - 400) * 4 + A 7 x) (G 1 ((b : Int) + 31) (A 24 (A 11 x - 400) * 4 + A 7 x) + 1)) 1 ((b : Int) + 32) (A 11 x - 400) (G 1 ((b : Int) + 32) (A 11 x - 400) + A 9 x))) := by
  refine GM.inv fun hF => ?_
  have hlo := fx_lo hF
  have hc2 := hc
  obtain ⟨⟨r1, r2, r3, r4⟩, hT, hQ, hP, hJ, hD⟩ := hc2
  have tt := (hT.2.1 x hx.1 hx.2).1
  have bk : 0 ≤ A 7 x ∧ A 7 x ≤ 3 := hB 7 x
  have bh : 0 ≤ A 9 x ∧ A 9 x ≤ 4 := hB 9 x
  have bpl : 0 ≤ A 787 0 ∧ A 787 0 ≤ 5 := hB 787 0
  refine GM.ofEV (by decide) (Nat.le_of_ble_eq_true rfl) (sg_Spread_moveOrStay_0 ?_)
  by_cases ha : zAt A x
  · have hpp : 0 ≤ A 11 x - 400 ∧ A 11 x - 400 < A 787 0 := ⟨by have := ha.1; omega, hPl x ha⟩
    have q := hP.2.1 _ hpp.1 hpp.2
    have bg : 0 ≤ A 24 (A 11 x - 400) ∧ A 24 (A 11 x - 400) ≤ 3 := hB 24 _
    have p5 := hP.1.2.2.1 _ hpp.1 hpp.2
    have q1 := q.1.1
    rw [if_pos ha]
    refine ⟨fun z => by omega, fun _ => GM.mono (c_suits hc hB hft hpp hx) ?_⟩
    rintro v G1 ⟨hv, rfl⟩
    rw [q.1.2.2.1, tt.2.2.1, tt.2.2.2.2.2.2.1, tt.2.2.2.2.1, if_pos (show 400 ≤ A 11 x ∧ A 11 x < 500 from ha)]
    refine ⟨fun v1 => ?_, fun v0 => ?_⟩
    · have hs : zSy A x := hv.elim (fun z => ⟨ha, z.2⟩) (fun z => absurd z.1 v1)
      have b1 := b31 (A 24 (A 11 x - 400) * 4 + A 7 x) (by omega) (by omega)
      have b2 := b32 (A 11 x - 400) (by omega) (by omega)
      refine ⟨p5, p5, by omega, tt.1.1, tt.1.1, by omega, fun z => absurd z (by omega), fun _ => ⟨⟨by omega, by omega⟩, by omega, ?_⟩⟩
      rintro _ rfl
      have ew : gU G1 1 ((b : Int) + 31) (A 24 (A 11 x - 400) * 4 + A 7 x) (G1 1 ((b : Int) + 31) (A 24 (A 11 x - 400) * 4 + A 7 x) + 1) 598 (T x) 0 = A 11 x := (gU_c _ (by decide)).trans tt.2.2.2.2.2.2.1
      have eh : gU G1 1 ((b : Int) + 31) (A 24 (A 11 x - 400) * 4 + A 7 x) (G1 1 ((b : Int) + 31) (A 24 (A 11 x - 400) * 4 + A 7 x) + 1) 595 (T x) 0 = A 9 x := (gU_c _ (by decide)).trans tt.2.2.2.2.1
      have e32 : gU G1 1 ((b : Int) + 31) (A 24 (A 11 x - 400) * 4 + A 7 x) (G1 1 ((b : Int) + 31) (A 24 (A 11 x - 400) * 4 + A 7 x) + 1) 1 ((b : Int) + 32) (A 11 x - 400) = G1 1 ((b : Int) + 32) (A 11 x - 400) := gU_k (by decide)
      rw [ew, eh, if_pos (show 400 ≤ A 11 x ∧ A 11 x < 500 from ha), e32]
      refine ⟨(gU_c _ (by decide)).trans tt.1.1, fun z => absurd z (by omega), fun _ => ⟨⟨by omega, by omega⟩, by omega, ?_⟩⟩
      rintro _ rfl
      exact Or.inr ⟨hs, rfl⟩
    · have hm : zMv A x := Or.inr ⟨ha, hv.elim (fun z => by omega) (fun z => z.2)⟩
      refine ⟨0, 0, 1, 40, by omega, by omega, GM.mono (c_AL_add_b gr_Thing (by decide) hl (by omega) tt.1.1 (by omega)) ?_⟩
      rintro v2 G2 ⟨k1, k2⟩
      exact Or.inl ⟨hm, k1, k2⟩
  · rw [if_neg ha]
    have hm : zMv A x := Or.inl (hy (by
      by_cases z : A 11 x < 400
      · exact z
      · exact absurd ⟨by omega, hk.2⟩ ha))
    refine ⟨fun _ => ⟨0, 0, 1, 40, by omega, by omega, GM.mono (c_AL_add_b gr_Thing (by decide) hl (by omega) tt.1.1 (by omega)) ?_⟩, fun z => absurd rfl z⟩
    rintro v2 G2 ⟨k1, k2⟩
    exact Or.inl ⟨hm, k1, k2⟩
theorem c_gatherS {e : gE} {b : Nat} {m : Int} {G0 : gH} {A : zA} {T Q P : Int → Int} (hc : zRc e b m G0 A T Q P) (hB : zB 512 A) (hft : zFt A) (hPl : zPl A) (hWv : zWv A) : GX e b m m_Spread_gather [(2, ((b : Int) + 23))] G0 16 640 (fun _ G1 => ∃ n L, zGs e b m G0 G1 A T (A 785 0) n L) := by
  refine GM.tg fun hTg => GM.inv fun hF => ?_
  have hlo := fx_lo hF
  have b0 : 0 ≤ A 785 0 ∧ A 785 0 ≤ 16 := hB 785 0
  have hc2 := hc
  obtain ⟨⟨r1, r2, r3, r4⟩, hT, hQ, hP, hJ, hD⟩ := hc2
  have hL := zLs_0 hT hQ hP hJ
  obtain ⟨-, -, ⟨n3, f3, h4⟩⟩ := hJ
  refine GM.ofEV (by decide) (Nat.le_of_ble_eq_true rfl) (sg_Spread_gather_0 (GM.mono (c_AL_clear (by decide) h4 (by omega) (fun k => T k)) ?_))
  rintro _ G1 ⟨l1, af1⟩
  have w1 : zSF b m G0 G1 := zSF_af af1
  have d1 : zDst b G1 := zDst_af hTg hlo hL (by decide) af1 hD
  refine GM.inv fun hF1 => ?_
  have f30 : ∀ (k t n : Int), (k, t, n) ∈ ([(30, 100, 4), (31, 100, 16), (32, 100, 5)] : List (Int × Int × Int)) → G1 0 ((b : Int) + k) 0 = t ∧ G1 0 ((b : Int) + k) 1 = n := fun k t n hm => by
    obtain ⟨⟨h1, -⟩, -⟩ := hF1
    simp only [List.mem_cons, List.mem_nil_iff, Prod.mk.injEq, or_false] at hm
    rcases hm with ⟨rfl, rfl, rfl⟩ | ⟨rfl, rfl, rfl⟩ | ⟨rfl, rfl, rfl⟩
    · exact h1 (30, 100, 4) (by decide)
    · exact h1 (31, 100, 16) (by decide)
    · exact h1 (32, 100, 5) (by decide)
  have g30 := f30 30 100 4 (by decide)
  have g31 := f30 31 100 16 (by decide)
  have g32 := f30 32 100 5 (by decide)
  refine GM.mono (c_Arrays_fill_a g30.1 (by omega) (by omega)) ?_
  rintro _ G2 ⟨o2, v2⟩
  have z2 : ∀ (i j : Int), G2 0 i j = G1 0 i j := fun i j => o2 0 i j (fun z => absurd z (by decide))
  refine GM.mono (c_Arrays_fill_a (by rw [z2]; exact g31.1) (by rw [z2]; omega) (by omega)) ?_
  rintro _ G3 ⟨o3, v3⟩
  have z3 : ∀ (i j : Int), G3 0 i j = G1 0 i j := fun i j => (o3 0 i j (fun z => absurd z (by decide))).trans (z2 i j)
  refine GM.mono (c_Arrays_fill_a (by rw [z3]; exact g32.1) (by rw [z3]; omega) (by omega)) ?_
  rintro _ G4 ⟨o4, v4⟩
  have o : ∀ (c : Nat) (i j : Int), ¬ (c = 1 ∧ ((b : Int) + 30 ≤ i ∧ i ≤ (b : Int) + 32)) → G4 c i j = G1 c i j := fun c i j z => by rw [o4 c i j (by omega), o3 c i j (by omega), o2 c i j (by omega)]
  have w4 : zSF b m G0 G4 := zSF_t w1 (zSF_sc (fun c i j z => o c i j (by omega)))
  have d4 : zDst b G4 := fun i j i1 j1 ne z => by
    rw [o 17 _ _ (by omega), o 17 _ _ (by omega)]
    rw [o 0 _ _ (by omega), o 17 _ _ (by omega)] at z
    exact d1 i j i1 j1 ne z
  have l4 : zAL e b m G4 ((b : Int) + 24) 10 0 (fun k => T k) := zAL_fr (by decide) l1 (fun i j _ => o _ _ _ (by omega)) (o _ _ _ (by omega)) (o _ _ _ (by omega)) (fun _ j => o _ _ _ (by omega))
  have s4 : zGs e b m G0 G4 A T 0 0 (fun k => k) := ⟨⟨w4, d4⟩, l4, zEnum_0, fun k k1 k2 => by rw [o4 1 _ _ (by omega), o3 1 _ _ (by omega), v2 k k1 (by omega)]; rfl, fun g k g1 g2 k1 k2 => by rw [o4 1 _ _ (by omega), v3 _ (by omega) (by rw [z2]; omega)]; rfl, fun p p1 p2 => by rw [v4 p p1 (by rw [z3]; omega)]; rfl⟩
  refine zloop (P := fun i => ∀ (G : gH) (kc ks : Nat) (n : Int) (L : Int → Int), A 785 0 - i ≤ kc → 40 * (A 785 0 - i) ≤ ks → zGs e b m G0 G A T i n L → EX e b m m_Spread_gather _ kc ks 33 [(2, ((b : Int) + 23)), (0, i), (9, 0)] [] G) (i := 0) (A 785 0) b0.1 ?_ ?_ G4 16 640 0 (fun k => k) (by omega) (by omega) s4
  · intro G kc ks n L _ _ hs
    have hT1 := zSF_T hTg hlo hD hs.1.1 hT
    refine sg_Spread_gather_33 ?_
    rw [hT1.1.2.1]
    exact ⟨⟨hT1.1.1, fun _ => ⟨n, L, hs⟩, fun z => absurd z (by omega)⟩, fun z => absurd z (by omega)⟩
  · intro x x1 x2 st G kc ks n L hkc hks hs
    obtain ⟨⟨w, d⟩, l, en, t30, t31, t32⟩ := hs
    obtain ⟨hcG, -⟩ := zSF_rc hTg hF hc w l d
    have hT1 := hcG.2.1
    have hP1 := hcG.2.2.2.1
    have v := zAL_g hT1.1 ⟨x1, x2⟩
    have tt := (hT1.2.1 x x1 x2).1
    have bk : 0 ≤ A 7 x ∧ A 7 x ≤ 3 := hB 7 x
    have bb := zTak_b (p := 0) hB (i := x) ⟨x1, by omega⟩
    have hv := hWv x ⟨x1, x2⟩
    have n16 := en.1
    refine sg_Spread_gather_33 ?_
    rw [hT1.1.2.1, v.2.2.1, tt.2.2.2.2.2.2.1, tt.2.2.1]
    refine ⟨⟨hT1.1.1, fun z => absurd z (by omega), fun _ => ⟨v.1, ⟨x1, x2⟩, v.2.1, v.2.2.2, v.2.2.2, fun hk hkd => ?_⟩⟩, fun z => ⟨by omega, ?_⟩⟩
    · have bt := bb.2.1 (A 7 x)
      rw [t30 _ bk.1 (by omega)]
      refine ⟨⟨bk.1, by omega⟩, by omega, ?_⟩
      intro G5 hG5
      have o5 : ∀ (c : Nat) (i j : Int), ¬ (c = 1 ∧ i = (b : Int) + 30) → G5 c i j = G c i j := fun c i j z => by rw [hG5]; exact gU_ne (fun y => z ⟨y.1, y.2.1⟩)
      have w5 : zSF b m G0 G5 := zSF_t w (zSF_sc (fun c i j z => o5 c i j (by omega)))
      have d5 : zDst b G5 := fun i j i1 j1 ne z => by
        rw [o5 17 _ _ (by omega), o5 17 _ _ (by omega)]
        rw [o5 0 _ _ (by omega), o5 17 _ _ (by omega)] at z
        exact d i j i1 j1 ne z
      have l5 : zAL e b m G5 ((b : Int) + 24) 10 n (fun k => T (L k)) := zAL_fr (by decide) l (fun i j _ => o5 _ _ _ (by omega)) (o5 _ _ _ (by omega)) (o5 _ _ _ (by omega)) (fun _ j => o5 _ _ _ (by omega))
      obtain ⟨hc5, -⟩ := zSF_rc hTg hF hc w5 l5 d5
      have hT5 := hc5.2.1
      have hP5 := hc5.2.2.2.1
      have tt5 := (hT5.2.1 x x1 x2).1
      have pp := zPa_p hP5 hB
      have e30 : ∀ k, G5 1 ((b : Int) + 30) k = if k = A 7 x then zTot A k x + 1 else G 1 ((b : Int) + 30) k := fun k => by
        rw [hG5]
        by_cases z : k = A 7 x
        · rw [z, gU_eq, if_pos rfl]
        · rw [gU_j z, if_neg z]
      have tot : ∀ k, 0 ≤ k → k < 4 → G5 1 ((b : Int) + 30) k = zTot A k (x + 1) := fun k k1 k2 => by
        rw [e30]
        by_cases z : k = A 7 x
        · rw [if_pos z]
          have e : zTot A k (x + 1) = zTot A k x + if zKe A x ∧ A 7 x = k then 1 else 0 := zS_s x1
          rw [e, if_pos ⟨hk, z.symm⟩, z]
        · rw [if_neg z, t30 k k1 k2]
          exact (zS_z x1 (if_neg (fun y => z y.2.symm))).symm
      have e0 : (if 0 ≤ (if 400 ≤ A 11 x ∧ A 11 x < 500 then A 11 x - 400 else -1) ∧ (if 400 ≤ A 11 x ∧ A 11 x < 500 then A 11 x - 400 else -1) < A 787 0 then P (if 400 ≤ A 11 x ∧ A 11 x < 500 then A 11 x - 400 else -1) else 0) = if zAt A x then P (A 11 x - 400) else 0 := by
        by_cases z : zAt A x
        · have := hPl x z
          have := z.1
          rw [if_pos z, if_pos (show 400 ≤ A 11 x ∧ A 11 x < 500 from z), if_pos (by omega)]
        · rw [if_neg z, if_neg (show ¬ (400 ≤ A 11 x ∧ A 11 x < 500) from z), if_neg (by omega)]
      rw [tt5.2.2.2.2.2.2.1, zPa_e hP5, e0]
      refine ⟨tt5.1.1, pp.1, pp.2.1, pp.2.2 _, kc - 1, ks - 40, 1, 40, by omega, by omega, GM.tg fun hTg5 => GM.inv fun hF5 => GM.mono (c_moveOrStay hc5 hB hft hPl l5 (by omega) ⟨x1, x2⟩ hk (fun z => hv.2.1 hk.1 z) (fun j j1 j2 => ?_) (fun j j1 j2 => ?_)) ?_⟩
      · have y := t31 (j / 4) (j % 4) (by omega) (by omega) (by omega) (by omega)
        have y2 := bb.2.2 (j / 4) (j % 4)
        rw [show j / 4 * 4 + j % 4 = j from by omega] at y
        rw [o5 1 _ _ (by omega), y]
        omega
      · have y := t32 j j1 j2
        have y2 := (zTak_b (p := j) hB (i := x) ⟨x1, by omega⟩).1
        rw [o5 1 _ _ (by omega), y]
        omega
      · have hlo5 := fx_lo hF5
        have hL5 := zLs_0 hT5 hc5.2.2.1 hP5 hc5.2.2.2.2.1
        rintro _ G6 (⟨hm, l6, af6⟩ | ⟨hs, rfl⟩)
        · rw [zPut_f] at l6
          have ns : ¬ zSy A x := fun y => hm.elim (fun z => by have := y.1.1; omega) (fun z => z.2 y.2)
          have a6 : ∀ k : Int, 30 ≤ k → k ≤ 32 → ∀ j, G6 1 ((b : Int) + k) j = G5 1 ((b : Int) + k) j := fun k k1 k2 j => af6.2.2 1 _ j (by decide) (by omega) (by omega) (fun z => absurd z.1 (by decide))
          refine ⟨by omega, st G6 (kc - 1) (ks - 40) (n + 1) (zPut L n x) (by omega) (by omega) ⟨⟨zSF_t w5 (zSF_af af6), zDst_af hTg5 hlo5 hL5 (by decide) af6 d5⟩, l6, zEnum_put en hm ⟨en.1.1, Int.le_refl _⟩ (fun _ _ _ => Int.le_refl 0) (fun i i1 i2 => by omega), fun k k1 k2 => ?_, fun g k g1 g2 k1 k2 => ?_, fun p p1 p2 => ?_⟩⟩
          · rw [a6 30 (by decide) (by decide)]
            exact tot k k1 k2
          · rw [a6 31 (by decide) (by decide), o5 1 _ _ (by omega), t31 g k g1 g2 k1 k2]
            exact (zS_z x1 (if_neg (fun y => ns y.1))).symm
          · rw [a6 32 (by decide) (by decide), o5 1 _ _ (by omega), t32 p p1 p2]
            exact (zS_z x1 (if_neg (fun y => ns y.1))).symm
        · have nm : ¬ zMv A x := fun y => y.elim (fun z => by have := hs.1.1; omega) (fun z => z.2 hs.2)
          have bg : 0 ≤ A 24 (A 11 x - 400) ∧ A 24 (A 11 x - 400) ≤ 3 := hB 24 _
          have ip := hPl x hs.1
          have ip0 := hs.1.1
          have bpl : 0 ≤ A 787 0 ∧ A 787 0 ≤ 5 := hB 787 0
          generalize hv31 : G5 1 ((b : Int) + 31) (A 24 (A 11 x - 400) * 4 + A 7 x) + 1 = v31
          generalize hv32 : G5 1 ((b : Int) + 32) (A 11 x - 400) + A 9 x = v32
          have o6 : ∀ (c : Nat) (i j : Int), ¬ (c = 1 ∧ (i = (b : Int) + 31 ∨ i = (b : Int) + 32)) → gU (gU G5 1 ((b : Int) + 31) (A 24 (A 11 x - 400) * 4 + A 7 x) v31) 1 ((b : Int) + 32) (A 11 x - 400) v32 c i j = G5 c i j := fun c i j z => by rw [gU_ne (by omega), gU_ne (by omega)]
          refine ⟨by omega, st _ (kc - 1) (ks - 40) n L (by omega) (by omega) ⟨⟨zSF_t w5 (zSF_sc (fun c i j z => o6 c i j (by omega))), fun i j i1 j1 ne z => ?_⟩, zAL_fr (by decide) l5 (fun i j _ => o6 _ _ _ (by omega)) (o6 _ _ _ (by omega)) (o6 _ _ _ (by omega)) (fun _ j => o6 _ _ _ (by omega)), zEnum_skip en nm, fun k k1 k2 => ?_, fun g k g1 g2 k1 k2 => ?_, fun p p1 p2 => ?_⟩⟩
          · rw [o6 17 _ _ (by omega), o6 17 _ _ (by omega)]
            rw [o6 0 _ _ (by omega), o6 17 _ _ (by omega)] at z
            exact d5 i j i1 j1 ne z
          · rw [o6 1 _ _ (by omega)]
            exact tot k k1 k2
          · rw [gU_k (by decide)]
            by_cases z : g = A 24 (A 11 x - 400) ∧ k = A 7 x
            · rw [z.1, z.2, gU_eq, ← hv31, o5 1 _ _ (by omega), t31 _ _ bg.1 (by omega) bk.1 (by omega)]
              have e : ∀ g k, zSta A g k (x + 1) = zSta A g k x + if zSy A x ∧ A 24 (A 11 x - 400) = g ∧ A 7 x = k then 1 else 0 := fun g k => zS_s x1
              rw [e, if_pos ⟨hs, rfl, rfl⟩]
            · rw [gU_j (by omega), o5 1 _ _ (by omega), t31 g k g1 g2 k1 k2]
              exact (zS_z x1 (if_neg (fun y => z ⟨y.2.1.symm, y.2.2.symm⟩))).symm
          · by_cases z : p = A 11 x - 400
            · rw [z, gU_eq, ← hv32, o5 1 _ _ (by omega), t32 _ (by omega) (by omega)]
              have e : ∀ p, zTak A p (x + 1) = zTak A p x + if zSy A x ∧ A 11 x = 400 + p then A 9 x else 0 := fun p => zS_s x1
              rw [e, if_pos ⟨hs, by omega⟩]
            · rw [gU_j z, gU_k (by decide), o5 1 _ _ (by omega), t32 p p1 p2]
              exact (zS_z x1 (if_neg (fun y => z (by omega)))).symm
    · have nk : ¬ zKe A x := fun y => by omega
      have nm : ¬ zMv A x := fun y => nk (y.elim (fun z => ⟨by omega, by omega⟩) (fun z => ⟨by have := z.1.1; omega, z.1.2⟩))
      have ns : ¬ zSy A x := fun y => nk ⟨by have := y.1.1; omega, y.1.2⟩
      refine st G kc ks n L (by omega) (by omega) ⟨⟨w, d⟩, l, zEnum_skip en nm, fun k k1 k2 => ?_, fun g k g1 g2 k1 k2 => ?_, fun p p1 p2 => ?_⟩
      · rw [t30 k k1 k2]
        exact (zS_z x1 (if_neg (fun y => nk y.1))).symm
      · rw [t31 g k g1 g2 k1 k2]
        exact (zS_z x1 (if_neg (fun y => ns y.1))).symm
      · rw [t32 p p1 p2]
        exact (zS_z x1 (if_neg (fun y => ns y.1))).symm
