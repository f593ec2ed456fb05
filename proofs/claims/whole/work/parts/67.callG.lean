/-! THE CLASS, 18: places and what moves cost -/
set_option maxRecDepth 20000 in
set_option maxHeartbeats 4000000 in
theorem sg_Place_hands_0 {e : gE} {b : Nat} {m : Int} {Z : Int → gH → Prop} {kc ks : Nat} {G : gH} {a0 : Int} (t0 : G 0 a0 0 = 5) (h : Z (G 272 a0 0) G) : EX e b m m_Place_hands Z kc ks 0 [(2, a0)] [] G := by
  refine e_aload_n d_Place_hands_0 rfl ?_
  refine gf_Place_7 d_Place_hands_1 rfl t0 ?_
  exact e_iret d_Place_hands_4 rfl h
set_option maxRecDepth 20000 in
set_option maxHeartbeats 4000000 in
theorem sg_Place_group_0 {e : gE} {b : Nat} {m : Int} {Z : Int → gH → Prop} {kc ks : Nat} {G : gH} {a0 : Int} (t0 : G 0 a0 0 = 5) (h : Z (G 273 a0 0) G) : EX e b m m_Place_group Z kc ks 0 [(2, a0)] [] G := by
  refine e_aload_n d_Place_group_0 rfl ?_
  refine gf_Place_13 d_Place_group_1 rfl t0 ?_
  exact e_iret d_Place_group_4 rfl h
set_option maxRecDepth 20000 in
set_option maxHeartbeats 4000000 in
theorem sg_Place_miles_0 {e : gE} {b : Nat} {m : Int} {Z : Int → gH → Prop} {kc ks : Nat} {G : gH} {a0 : Int} (t0 : G 0 a0 0 = 5) (h : Z (G 274 a0 0) G) : EX e b m m_Place_miles Z kc ks 0 [(2, a0)] [] G := by
  refine e_aload_n d_Place_miles_0 rfl ?_
  refine gf_Place_16 d_Place_miles_1 rfl t0 ?_
  exact e_iret d_Place_miles_4 rfl h
set_option maxRecDepth 20000 in
set_option maxHeartbeats 4000000 in
theorem sg_Years_canPay_0 {e : gE} {b : Nat} {m : Int} {Z : Int → gH → Prop} {kc ks : Nat} {G : gH} {p1 : Int} (h : ((G 662 ((b : Int) + 18) 0) < p1 → Z 0 G) ∧ (p1 ≤ (G 662 ((b : Int) + 18) 0) → Z 1 G)) : EX e b m m_Years_canPay Z kc ks 0 [(2, ((b : Int) + 18)), (0, p1)] [] G := by
  refine e_iload_n d_Years_canPay_0 rfl ?_
  refine e_aload_n d_Years_canPay_1 rfl ?_
  refine gx_Years_70 d_Years_canPay_2 rfl ?_
  refine e_icmp_gt (tgt := 12) d_Years_canPay_5 (by decide) (fun q1 => ?_) (fun q2 => ?_)
  · have h := h.1 q1
    refine e_iconst d_Years_canPay_12 (by decide) ?_
    exact e_zret .boolean d_Years_canPay_13 rfl (by decide) h
  · have h := h.2 q2
    refine e_iconst d_Years_canPay_8 (by decide) ?_
    refine e_goto (tgt := 13) d_Years_canPay_9 (by decide) ?_
    exact e_zret .boolean d_Years_canPay_13 rfl (by decide) h
theorem c_Place_hands {e : gE} {b : Nat} {m : Int} {G : gH} {a0 : Int} (h1 : G 0 a0 0 = 5) : GX e b m m_Place_hands [(2, a0)] G 0 0 (fun v9 G9 => v9 = (G 272 a0 0 : Int) ∧ G9 = G) := by
  refine GM.ofEV (by decide) (Nat.le_of_ble_eq_true rfl) (sg_Place_hands_0 h1 ?_)
  repeat' (first | apply And.intro | intro _)
  all_goals first | assumption | rfl | omega | (rw [if_pos (by omega)]) | (rw [if_neg (by omega)])
theorem c_Place_group {e : gE} {b : Nat} {m : Int} {G : gH} {a0 : Int} (h1 : G 0 a0 0 = 5) : GX e b m m_Place_group [(2, a0)] G 0 0 (fun v9 G9 => v9 = (G 273 a0 0 : Int) ∧ G9 = G) := by
  refine GM.ofEV (by decide) (Nat.le_of_ble_eq_true rfl) (sg_Place_group_0 h1 ?_)
  repeat' (first | apply And.intro | intro _)
  all_goals first | assumption | rfl | omega | (rw [if_pos (by omega)]) | (rw [if_neg (by omega)])
theorem c_Place_miles {e : gE} {b : Nat} {m : Int} {G : gH} {a0 : Int} (h1 : G 0 a0 0 = 5) : GX e b m m_Place_miles [(2, a0)] G 0 0 (fun v9 G9 => v9 = (G 274 a0 0 : Int) ∧ G9 = G) := by
  refine GM.ofEV (by decide) (Nat.le_of_ble_eq_true rfl) (sg_Place_miles_0 h1 ?_)
  repeat' (first | apply And.intro | intro _)
  all_goals first | assumption | rfl | omega | (rw [if_pos (by omega)]) | (rw [if_neg (by omega)])
theorem c_Years_canPay {e : gE} {b : Nat} {m : Int} {G : gH} {p1 : Int} : GX e b m m_Years_canPay [(2, ((b : Int) + 18)), (0, p1)] G 0 0 (fun v9 G9 => v9 = ((if p1 ≤ G 662 ((b : Int) + 18) 0 then 1 else 0) : Int) ∧ G9 = G) := by
  refine GM.ofEV (by decide) (Nat.le_of_ble_eq_true rfl) (sg_Years_canPay_0 ?_)
  exact ⟨fun q => ⟨(if_neg (by omega)).symm, rfl⟩, fun q => ⟨(if_pos q).symm, rfl⟩⟩
set_option maxRecDepth 20000 in
set_option maxHeartbeats 4000000 in
theorem sg_Years_placeAt_0 {e : gE} {b : Nat} {m : Int} {Z : Int → gH → Prop} {kc ks : Nat} {G : gH} {p1 : Int} (h : (G 0 ((b : Int) + 19) 0 = 1) ∧ ((inI ((G 18 ((b : Int) + 19) 0) - 1)) ∧ (((¬ (0 ≤ p1 ∧ p1 ≤ ((G 18 ((b : Int) + 19) 0) - 1))) → Z 0 G) ∧ ((0 ≤ p1 ∧ p1 ≤ ((G 18 ((b : Int) + 19) 0) - 1)) → (G 0 (G 17 ((b : Int) + 19) 0) 0 = 103) ∧ (0 ≤ p1 ∧ p1 < G 18 ((b : Int) + 19) 0) ∧ (G 18 ((b : Int) + 19) 0 ≤ G 0 (G 17 ((b : Int) + 19) 0) 1) ∧ (G 0 (G 3 (G 17 ((b : Int) + 19) 0) p1) 0 = 5) ∧ Z (G 3 (G 17 ((b : Int) + 19) 0) p1) G)))) : EX e b m m_Years_placeAt Z kc ks 0 [(2, ((b : Int) + 18)), (0, p1)] [] G := by
  refine e_iload_n d_Years_placeAt_0 rfl ?_
  refine e_iconst d_Years_placeAt_1 (by decide) ?_
  refine e_aload_n d_Years_placeAt_2 rfl ?_
  refine gx_Years_18 d_Years_placeAt_3 rfl ?_
  refine EV.inv fun hFf1 => ?_
  have f1 := (fx_ct 18 rfl hFf1).1
  obtain ⟨o2, h⟩ := h
  refine e_callV m_AL_size 0 lw_good d_Years_placeAt_6 (k_AL_size _) ⟨Nat.le_of_ble_eq_true rfl, Nat.le_of_ble_eq_true rfl⟩ w_1017 w_330 w_331 (q_AL _) rfl f1 (args := []) rfl rfl (Nat.le_of_ble_eq_true rfl) (kc' := kc) (ks' := ks) (mc := 0) (ms := 0) rfl rfl (c_AL_size o2) (pureK ?_)
  refine e_iconst d_Years_placeAt_9 (by decide) ?_
  obtain ⟨o3, h⟩ := h
  refine e_isub d_Years_placeAt_10 o3 ?_
  refine e_callSN m_C_within "MuseumFlight" lw_good d_Years_placeAt_11 (k_C_within _) ⟨Nat.le_of_ble_eq_true rfl, Nat.le_of_ble_eq_true rfl⟩ w_1052 w_295 (args := [(0, p1), (0, 0), (0, ((G 18 ((b : Int) + 19) 0) - 1))]) rfl rfl (Nat.le_of_ble_eq_true rfl) (kc' := kc) (ks' := ks) (mc := 0) (ms := 0) rfl rfl (c_C_within) (pureK ?_)
  refine e_if_eq (tgt := 31) d_Years_placeAt_14 (by decide) (fun q4 => ?_) (fun q5 => ?_)
  · replace q4 := gb0.mp q4
    have h := h.1 q4
    refine e_null d_Years_placeAt_31 ?_
    exact e_aret d_Years_placeAt_32 (Or.inl ⟨_, rfl⟩) h
  · replace q5 := gb1.mp q5
    have h := h.2 q5
    refine e_aload_n d_Years_placeAt_17 rfl ?_
    refine gx_Years_18 d_Years_placeAt_18 rfl ?_
    refine e_iload_n d_Years_placeAt_21 rfl ?_
    refine EV.inv fun hFf6 => ?_
    have f6 := (fx_ct 18 rfl hFf6).1
    obtain ⟨o7, o8, o9, h⟩ := h
    refine e_callV m_AL_get 0 lw_good d_Years_placeAt_22 (k_AL_get _) ⟨Nat.le_of_ble_eq_true rfl, Nat.le_of_ble_eq_true rfl⟩ w_1053 w_607 w_608 (q_AL _) rfl f6 (args := [(0, p1)]) rfl rfl (Nat.le_of_ble_eq_true rfl) (kc' := kc) (ks' := ks) (mc := 0) (ms := 0) rfl rfl (c_AL_get o2 o7 o8 o9) (pureK ?_)
    obtain ⟨o10, h⟩ := h
    refine e_cast 4 d_Years_placeAt_25 (q_Place _) w_1022 (Or.inr o10) ?_
    refine e_goto (tgt := 32) d_Years_placeAt_28 (by decide) ?_
    exact e_aret d_Years_placeAt_32 (Or.inl ⟨_, rfl⟩) h
theorem c_Years_placeAt {e : gE} {b : Nat} {m : Int} {G : gH} {p1 : Int} (h1 : 0 ≤ G 18 ((b : Int) + 19) 0 ∧ G 18 ((b : Int) + 19) 0 ≤ 5) (h2 : G 0 ((b : Int) + 19) 0 = 1) (h3 : 0 ≤ p1 ∧ p1 < G 18 ((b : Int) + 19) 0 → G 0 (G 17 ((b : Int) + 19) 0) 0 = 103 ∧ G 18 ((b : Int) + 19) 0 ≤ G 0 (G 17 ((b : Int) + 19) 0) 1 ∧ G 0 (G 3 (G 17 ((b : Int) + 19) 0) p1) 0 = 5) : GX e b m m_Years_placeAt [(2, ((b : Int) + 18)), (0, p1)] G 0 0 (fun v9 G9 => v9 = (if 0 ≤ p1 ∧ p1 < G 18 ((b : Int) + 19) 0 then G 3 (G 17 ((b : Int) + 19) 0) p1 else 0 : Int) ∧ G9 = G) := by
  refine GM.ofEV (by decide) (Nat.le_of_ble_eq_true rfl) (sg_Years_placeAt_0 ?_)
  exact ⟨h2, by omega, fun q => ⟨(if_neg (by omega)).symm, rfl⟩, fun q => ⟨(h3 (by omega)).1, by omega, (h3 (by omega)).2.1, (h3 (by omega)).2.2, (if_pos (by omega)).symm, rfl⟩⟩
theorem zPa_e {e : gE} {b : Nat} {m : Int} {G : gH} {A : zA} {P : Int → Int} (hP : zRkP e b m G A P) (p : Int) : (if 0 ≤ p ∧ p < G 18 ((b : Int) + 19) 0 then G 3 (G 17 ((b : Int) + 19) 0) p else 0) = if 0 ≤ p ∧ p < A 787 0 then P p else 0 := by
  rw [hP.1.2.1]
  by_cases q : 0 ≤ p ∧ p < A 787 0
  · rw [if_pos q, if_pos q]
    rcases hP.1.2.2.2 with w | w
    · omega
    · exact w.2.2.2 p q.1 q.2
  · rw [if_neg q, if_neg q]
theorem zPa_p {e : gE} {b : Nat} {m : Int} {G : gH} {A : zA} {P : Int → Int} (hP : zRkP e b m G A P) (hB : zB 512 A) : (0 ≤ G 18 ((b : Int) + 19) 0 ∧ G 18 ((b : Int) + 19) 0 ≤ 5) ∧ G 0 ((b : Int) + 19) 0 = 1 ∧ ∀ p, (0 ≤ p ∧ p < G 18 ((b : Int) + 19) 0 → G 0 (G 17 ((b : Int) + 19) 0) 0 = 103 ∧ G 18 ((b : Int) + 19) 0 ≤ G 0 (G 17 ((b : Int) + 19) 0) 1 ∧ G 0 (G 3 (G 17 ((b : Int) + 19) 0) p) 0 = 5) := by
  have b0 : 0 ≤ A 787 0 ∧ A 787 0 ≤ 5 := hB 787 0
  rw [hP.1.2.1]
  refine ⟨b0, hP.1.1, fun p q => ?_⟩
  rcases hP.1.2.2.2 with w | w
  · omega
  · refine ⟨w.2.1, w.2.2.1.2.1, ?_⟩
    rw [w.2.2.2 p q.1 q.2]
    exact hP.1.2.2.1 p q.1 q.2
set_option maxRecDepth 20000 in
set_option maxHeartbeats 4000000 in
theorem sg_Years_costOf_0 {e : gE} {b : Nat} {m : Int} {Z : Int → gH → Prop} {kc ks : Nat} {G : gH} {p1 p2 : Int} (h : (G 0 p1 0 = 10) ∧ ((G 0 p1 0 = 10) ∧ ((0 ≤ G 18 ((b : Int) + 19) 0 ∧ G 18 ((b : Int) + 19) 0 ≤ 5) ∧ ((G 0 ((b : Int) + 19) 0 = 1) ∧ ((0 ≤ (if 400 ≤ G 598 p1 0 ∧ G 598 p1 0 < 500 then G 598 p1 0 - 400 else -1) ∧ (if 400 ≤ G 598 p1 0 ∧ G 598 p1 0 < 500 then G 598 p1 0 - 400 else -1) < G 18 ((b : Int) + 19) 0 → G 0 (G 17 ((b : Int) + 19) 0) 0 = 103 ∧ G 18 ((b : Int) + 19) 0 ≤ G 0 (G 17 ((b : Int) + 19) 0) 1 ∧ G 0 (G 3 (G 17 ((b : Int) + 19) 0) (if 400 ≤ G 598 p1 0 ∧ G 598 p1 0 < 500 then G 598 p1 0 - 400 else -1)) 0 = 5) ∧ ((G 0 p2 0 = 5) ∧ ((G 0 p2 0 = 5) ∧ ((((if 0 ≤ (if 400 ≤ G 598 p1 0 ∧ G 598 p1 0 < 500 then G 598 p1 0 - 400 else -1) ∧ (if 400 ≤ G 598 p1 0 ∧ G 598 p1 0 < 500 then G 598 p1 0 - 400 else -1) < G 18 ((b : Int) + 19) 0 then G 3 (G 17 ((b : Int) + 19) 0) (if 400 ≤ G 598 p1 0 ∧ G 598 p1 0 < 500 then G 598 p1 0 - 400 else -1) else 0) ≠ 0) → (G 0 (if 0 ≤ (if 400 ≤ G 598 p1 0 ∧ G 598 p1 0 < 500 then G 598 p1 0 - 400 else -1) ∧ (if 400 ≤ G 598 p1 0 ∧ G 598 p1 0 < 500 then G 598 p1 0 - 400 else -1) < G 18 ((b : Int) + 19) 0 then G 3 (G 17 ((b : Int) + 19) 0) (if 400 ≤ G 598 p1 0 ∧ G 598 p1 0 < 500 then G 598 p1 0 - 400 else -1) else 0) 0 = 5) ∧ (G 0 (if 0 ≤ (if 400 ≤ G 598 p1 0 ∧ G 598 p1 0 < 500 then G 598 p1 0 - 400 else -1) ∧ (if 400 ≤ G 598 p1 0 ∧ G 598 p1 0 < 500 then G 598 p1 0 - 400 else -1) < G 18 ((b : Int) + 19) 0 then G 3 (G 17 ((b : Int) + 19) 0) (if 400 ≤ G 598 p1 0 ∧ G 598 p1 0 < 500 then G 598 p1 0 - 400 else -1) else 0) 0 = 5) ∧ (inI ((G 274 p2 0) + (G 274 (if 0 ≤ (if 400 ≤ G 598 p1 0 ∧ G 598 p1 0 < 500 then G 598 p1 0 - 400 else -1) ∧ (if 400 ≤ G 598 p1 0 ∧ G 598 p1 0 < 500 then G 598 p1 0 - 400 else -1) < G 18 ((b : Int) + 19) 0 then G 3 (G 17 ((b : Int) + 19) 0) (if 400 ≤ G 598 p1 0 ∧ G 598 p1 0 < 500 then G 598 p1 0 - 400 else -1) else 0) 0))) ∧ (inI ((G 595 p1 0) * ((G 274 p2 0) + (G 274 (if 0 ≤ (if 400 ≤ G 598 p1 0 ∧ G 598 p1 0 < 500 then G 598 p1 0 - 400 else -1) ∧ (if 400 ≤ G 598 p1 0 ∧ G 598 p1 0 < 500 then G 598 p1 0 - 400 else -1) < G 18 ((b : Int) + 19) 0 then G 3 (G 17 ((b : Int) + 19) 0) (if 400 ≤ G 598 p1 0 ∧ G 598 p1 0 < 500 then G 598 p1 0 - 400 else -1) else 0) 0)))) ∧ Z ((G 595 p1 0) * ((G 274 p2 0) + (G 274 (if 0 ≤ (if 400 ≤ G 598 p1 0 ∧ G 598 p1 0 < 500 then G 598 p1 0 - 400 else -1) ∧ (if 400 ≤ G 598 p1 0 ∧ G 598 p1 0 < 500 then G 598 p1 0 - 400 else -1) < G 18 ((b : Int) + 19) 0 then G 3 (G 17 ((b : Int) + 19) 0) (if 400 ≤ G 598 p1 0 ∧ G 598 p1 0 < 500 then G 598 p1 0 - 400 else -1) else 0) 0))) G) ∧ (((if 0 ≤ (if 400 ≤ G 598 p1 0 ∧ G 598 p1 0 < 500 then G 598 p1 0 - 400 else -1) ∧ (if 400 ≤ G 598 p1 0 ∧ G 598 p1 0 < 500 then G 598 p1 0 - 400 else -1) < G 18 ((b : Int) + 19) 0 then G 3 (G 17 ((b : Int) + 19) 0) (if 400 ≤ G 598 p1 0 ∧ G 598 p1 0 < 500 then G 598 p1 0 - 400 else -1) else 0) = 0) → (inI ((G 274 p2 0) + 0)) ∧ (inI ((G 595 p1 0) * ((G 274 p2 0) + 0))) ∧ Z ((G 595 p1 0) * ((G 274 p2 0) + 0)) G))))))))) : EX e b m m_Years_costOf Z kc ks 0 [(2, ((b : Int) + 18)), (2, p1), (2, p2), (9, 0)] [] G := by
  refine e_aload_n d_Years_costOf_0 rfl ?_
  refine e_aload_n d_Years_costOf_1 rfl ?_
  obtain ⟨o1, o2, h⟩ := h
  refine e_callV m_Thing_placeNumber 9 lw_good d_Years_costOf_2 (k_Thing_placeNumber _) ⟨Nat.le_of_ble_eq_true rfl, Nat.le_of_ble_eq_true rfl⟩ w_1200 w_1144 w_1145 (q_Thing _) rfl o1 (args := []) rfl rfl (Nat.le_of_ble_eq_true rfl) (kc' := kc) (ks' := ks) (mc := 0) (ms := 0) rfl rfl (c_Thing_placeNumber o2) (pureK ?_)
  refine EV.inv fun hFf3 => ?_
  have f3 := (fx_ct 17 rfl hFf3).1
  obtain ⟨o4, o5, o6, h⟩ := h
  refine e_callV m_Years_placeAt 10 lw_good d_Years_costOf_5 (k_Years_placeAt _) ⟨Nat.le_of_ble_eq_true rfl, Nat.le_of_ble_eq_true rfl⟩ w_1201 w_1049 w_1050 (q_Years _) rfl f3 (args := [(0, (if 400 ≤ G 598 p1 0 ∧ G 598 p1 0 < 500 then G 598 p1 0 - 400 else -1))]) rfl rfl (Nat.le_of_ble_eq_true rfl) (kc' := kc) (ks' := ks) (mc := 0) (ms := 0) rfl rfl (c_Years_placeAt o4 o5 o6) (pureK ?_)
  refine e_astore_n (ls' := [(2, ((b : Int) + 18)), (2, p1), (2, p2), (2, (if 0 ≤ (if 400 ≤ G 598 p1 0 ∧ G 598 p1 0 < 500 then G 598 p1 0 - 400 else -1) ∧ (if 400 ≤ G 598 p1 0 ∧ G 598 p1 0 < 500 then G 598 p1 0 - 400 else -1) < G 18 ((b : Int) + 19) 0 then G 3 (G 17 ((b : Int) + 19) 0) (if 400 ≤ G 598 p1 0 ∧ G 598 p1 0 < 500 then G 598 p1 0 - 400 else -1) else 0))]) d_Years_costOf_8 (by decide) rfl ?_
  refine e_aload_n d_Years_costOf_9 rfl ?_
  refine e_callV m_Thing_hands 9 lw_good d_Years_costOf_10 (k_Thing_hands _) ⟨Nat.le_of_ble_eq_true rfl, Nat.le_of_ble_eq_true rfl⟩ w_1202 w_709 w_710 (q_Thing _) rfl o1 (args := []) rfl rfl (Nat.le_of_ble_eq_true rfl) (kc' := kc) (ks' := ks) (mc := 0) (ms := 0) rfl rfl (c_Thing_hands o2) (pureK ?_)
  refine e_aload_n d_Years_costOf_13 rfl ?_
  obtain ⟨o7, o8, h⟩ := h
  refine e_callV m_Place_miles 4 lw_good d_Years_costOf_14 (k_Place_miles _) ⟨Nat.le_of_ble_eq_true rfl, Nat.le_of_ble_eq_true rfl⟩ w_1203 w_1204 w_1205 (q_Place _) rfl o7 (args := []) rfl rfl (Nat.le_of_ble_eq_true rfl) (kc' := kc) (ks' := ks) (mc := 0) (ms := 0) rfl rfl (c_Place_miles o8) (pureK ?_)
  refine e_aload_n d_Years_costOf_17 rfl ?_
  refine e_ifnonnull (tgt := 25) d_Years_costOf_18 (by decide) (fun q9 => ?_) (fun q10 => ?_)
  · have h := h.1 q9
    refine e_aload_n d_Years_costOf_25 rfl ?_
    obtain ⟨o11, o12, h⟩ := h
    refine e_callV m_Place_miles 4 lw_good d_Years_costOf_26 (k_Place_miles _) ⟨Nat.le_of_ble_eq_true rfl, Nat.le_of_ble_eq_true rfl⟩ w_1203 w_1204 w_1205 (q_Place _) rfl o11 (args := []) rfl rfl (Nat.le_of_ble_eq_true rfl) (kc' := kc) (ks' := ks) (mc := 0) (ms := 0) rfl rfl (c_Place_miles o12) (pureK ?_)
    obtain ⟨o13, h⟩ := h
    refine e_iadd d_Years_costOf_29 o13 ?_
    obtain ⟨o14, h⟩ := h
    refine e_imul d_Years_costOf_30 o14 ?_
    exact e_iret d_Years_costOf_31 rfl h
  · have h := h.2 q10
    refine e_iconst d_Years_costOf_21 (by decide) ?_
    refine e_goto (tgt := 29) d_Years_costOf_22 (by decide) ?_
    obtain ⟨o15, h⟩ := h
    refine e_iadd d_Years_costOf_29 o15 ?_
    obtain ⟨o16, h⟩ := h
    refine e_imul d_Years_costOf_30 o16 ?_
    exact e_iret d_Years_costOf_31 rfl h
set_option maxRecDepth 20000 in
set_option maxHeartbeats 4000000 in
theorem sg_Years_handsIn_0 {e : gE} {b : Nat} {m : Int} {Z : Int → gH → Prop} {kc ks : Nat} {G : gH} {p1 : Int} (h : EX e b m m_Years_handsIn Z kc ks 4 [(2, ((b : Int) + 18)), (0, p1), (0, 0), (0, 0)] [] G) : EX e b m m_Years_handsIn Z kc ks 0 [(2, ((b : Int) + 18)), (0, p1), (9, 0), (9, 0)] [] G := by
  refine e_iconst d_Years_handsIn_0 (by decide) ?_
  refine e_istore_n (ls' := [(2, ((b : Int) + 18)), (0, p1), (0, 0), (9, 0)]) d_Years_handsIn_1 (by decide) rfl ?_
  refine e_iconst d_Years_handsIn_2 (by decide) ?_
  refine e_istore_n (ls' := [(2, ((b : Int) + 18)), (0, p1), (0, 0), (0, 0)]) d_Years_handsIn_3 (by decide) rfl ?_
  exact e_forget (ls' := [(2, ((b : Int) + 18)), (0, p1), (0, 0), (0, 0)]) ⟨Or.inr rfl, Or.inr rfl, Or.inr rfl, Or.inr rfl, trivial⟩ h
set_option maxRecDepth 20000 in
set_option maxHeartbeats 4000000 in
theorem sg_Years_handsIn_4 {e : gE} {b : Nat} {m : Int} {Z : Int → gH → Prop} {kc ks : Nat} {G : gH} {p1 x2 x3 : Int} (h : (G 0 ((b : Int) + 2) 0 = 1) ∧ (((G 18 ((b : Int) + 2) 0) ≤ x3 → Z x2 G) ∧ (x3 < (G 18 ((b : Int) + 2) 0) → (G 0 (G 17 ((b : Int) + 2) 0) 0 = 103) ∧ ((0 ≤ x3 ∧ x3 < G 18 ((b : Int) + 2) 0) ∧ ((G 18 ((b : Int) + 2) 0 ≤ G 0 (G 17 ((b : Int) + 2) 0) 1) ∧ ((G 0 (G 3 (G 17 ((b : Int) + 2) 0) x3) 0 = 10) ∧ ((G 0 (G 3 (G 17 ((b : Int) + 2) 0) x3) 0 = 10) ∧ ((((if 400 ≤ G 598 (G 3 (G 17 ((b : Int) + 2) 0) x3) 0 ∧ G 598 (G 3 (G 17 ((b : Int) + 2) 0) x3) 0 < 500 then G 598 (G 3 (G 17 ((b : Int) + 2) 0) x3) 0 - 400 else -1) ≠ p1) → (inI (x2 + 0)) ∧ (inI (x3 + 1)) ∧ EX e b m m_Years_handsIn Z kc ks 4 [(2, ((b : Int) + 18)), (0, p1), (0, (x2 + 0)), (0, (x3 + 1))] [] G) ∧ (((if 400 ≤ G 598 (G 3 (G 17 ((b : Int) + 2) 0) x3) 0 ∧ G 598 (G 3 (G 17 ((b : Int) + 2) 0) x3) 0 < 500 then G 598 (G 3 (G 17 ((b : Int) + 2) 0) x3) 0 - 400 else -1) = p1) → (inI (x2 + (G 595 (G 3 (G 17 ((b : Int) + 2) 0) x3) 0))) ∧ (inI (x3 + 1)) ∧ EX e b m m_Years_handsIn Z kc ks 4 [(2, ((b : Int) + 18)), (0, p1), (0, (x2 + (G 595 (G 3 (G 17 ((b : Int) + 2) 0) x3) 0))), (0, (x3 + 1))] [] G))))))))) : EX e b m m_Years_handsIn Z kc ks 4 [(2, ((b : Int) + 18)), (0, p1), (0, x2), (0, x3)] [] G := by
  refine e_iload_n d_Years_handsIn_4 rfl ?_
  refine e_aload_n d_Years_handsIn_5 rfl ?_
  refine gx_Years_9 d_Years_handsIn_6 rfl ?_
  refine EV.inv fun hFf1 => ?_
  have f1 := (fx_ct 1 rfl hFf1).1
  obtain ⟨o2, h⟩ := h
  refine e_callV m_AL_size 0 lw_good d_Years_handsIn_9 (k_AL_size _) ⟨Nat.le_of_ble_eq_true rfl, Nat.le_of_ble_eq_true rfl⟩ w_1017 w_330 w_331 (q_AL _) rfl f1 (args := []) rfl rfl (Nat.le_of_ble_eq_true rfl) (kc' := kc) (ks' := ks) (mc := 0) (ms := 0) rfl rfl (c_AL_size o2) (pureK ?_)
  refine e_icmp_ge (tgt := 60) d_Years_handsIn_12 (by decide) (fun q3 => ?_) (fun q4 => ?_)
  · have h := h.1 q3
    refine e_iload_n d_Years_handsIn_60 rfl ?_
    exact e_iret d_Years_handsIn_61 rfl h
  · have h := h.2 q4
    refine e_iload_n d_Years_handsIn_15 rfl ?_
    refine e_aload_n d_Years_handsIn_16 rfl ?_
    refine gx_Years_9 d_Years_handsIn_17 rfl ?_
    refine e_iload_n d_Years_handsIn_20 rfl ?_
    refine EV.inv fun hFf5 => ?_
    have f5 := (fx_ct 1 rfl hFf5).1
    obtain ⟨o6, o7, o8, h⟩ := h
    refine e_callV m_AL_get 0 lw_good d_Years_handsIn_21 (k_AL_get _) ⟨Nat.le_of_ble_eq_true rfl, Nat.le_of_ble_eq_true rfl⟩ w_1053 w_607 w_608 (q_AL _) rfl f5 (args := [(0, x3)]) rfl rfl (Nat.le_of_ble_eq_true rfl) (kc' := kc) (ks' := ks) (mc := 0) (ms := 0) rfl rfl (c_AL_get o2 o6 o7 o8) (pureK ?_)
    obtain ⟨o9, h⟩ := h
    refine e_cast 9 d_Years_handsIn_24 (q_Thing _) w_1266 (Or.inr o9) ?_
    obtain ⟨o10, h⟩ := h
    refine e_callV m_Thing_placeNumber 9 lw_good d_Years_handsIn_27 (k_Thing_placeNumber _) ⟨Nat.le_of_ble_eq_true rfl, Nat.le_of_ble_eq_true rfl⟩ w_1200 w_1144 w_1145 (q_Thing _) rfl o9 (args := []) rfl rfl (Nat.le_of_ble_eq_true rfl) (kc' := kc) (ks' := ks) (mc := 0) (ms := 0) rfl rfl (c_Thing_placeNumber o10) (pureK ?_)
    refine e_iload_n d_Years_handsIn_30 rfl ?_
    refine e_icmp_ne (tgt := 51) d_Years_handsIn_31 (by decide) (fun q11 => ?_) (fun q12 => ?_)
    · have h := h.1 q11
      refine e_iconst d_Years_handsIn_51 (by decide) ?_
      obtain ⟨o14, h⟩ := h
      refine e_iadd d_Years_handsIn_52 o14 ?_
      refine e_istore_n (ls' := [(2, ((b : Int) + 18)), (0, p1), (0, (x2 + 0)), (0, x3)]) d_Years_handsIn_53 (by decide) rfl ?_
      obtain ⟨o15, h⟩ := h
      refine e_iinc (ls' := [(2, ((b : Int) + 18)), (0, p1), (0, (x2 + 0)), (0, (x3 + 1))]) d_Years_handsIn_54 rfl (by decide) o15 rfl ?_
      refine e_goto (tgt := 4) d_Years_handsIn_57 (by decide) ?_
      exact e_forget (ls' := [(2, ((b : Int) + 18)), (0, p1), (0, (x2 + 0)), (0, (x3 + 1))]) ⟨Or.inr rfl, Or.inr rfl, Or.inr rfl, Or.inr rfl, trivial⟩ h
    · have h := h.2 q12
      refine e_aload_n d_Years_handsIn_34 rfl ?_
      refine gx_Years_9 d_Years_handsIn_35 rfl ?_
      refine e_iload_n d_Years_handsIn_38 rfl ?_
      refine EV.inv fun hFf13 => ?_
      have f13 := (fx_ct 1 rfl hFf13).1
      refine e_callV m_AL_get 0 lw_good d_Years_handsIn_39 (k_AL_get _) ⟨Nat.le_of_ble_eq_true rfl, Nat.le_of_ble_eq_true rfl⟩ w_1053 w_607 w_608 (q_AL _) rfl f13 (args := [(0, x3)]) rfl rfl (Nat.le_of_ble_eq_true rfl) (kc' := kc) (ks' := ks) (mc := 0) (ms := 0) rfl rfl (c_AL_get o2 o6 o7 o8) (pureK ?_)
      refine e_cast 9 d_Years_handsIn_42 (q_Thing _) w_1266 (Or.inr o9) ?_
      refine e_callV m_Thing_hands 9 lw_good d_Years_handsIn_45 (k_Thing_hands _) ⟨Nat.le_of_ble_eq_true rfl, Nat.le_of_ble_eq_true rfl⟩ w_1202 w_709 w_710 (q_Thing _) rfl o9 (args := []) rfl rfl (Nat.le_of_ble_eq_true rfl) (kc' := kc) (ks' := ks) (mc := 0) (ms := 0) rfl rfl (c_Thing_hands o10) (pureK ?_)
      refine e_goto (tgt := 52) d_Years_handsIn_48 (by decide) ?_
      obtain ⟨o16, h⟩ := h
      refine e_iadd d_Years_handsIn_52 o16 ?_
      refine e_istore_n (ls' := [(2, ((b : Int) + 18)), (0, p1), (0, (x2 + (G 595 (G 3 (G 17 ((b : Int) + 2) 0) x3) 0))), (0, x3)]) d_Years_handsIn_53 (by decide) rfl ?_
      obtain ⟨o17, h⟩ := h
      refine e_iinc (ls' := [(2, ((b : Int) + 18)), (0, p1), (0, (x2 + (G 595 (G 3 (G 17 ((b : Int) + 2) 0) x3) 0))), (0, (x3 + 1))]) d_Years_handsIn_54 rfl (by decide) o17 rfl ?_
      refine e_goto (tgt := 4) d_Years_handsIn_57 (by decide) ?_
      exact e_forget (ls' := [(2, ((b : Int) + 18)), (0, p1), (0, (x2 + (G 595 (G 3 (G 17 ((b : Int) + 2) 0) x3) 0))), (0, (x3 + 1))]) ⟨Or.inr rfl, Or.inr rfl, Or.inr rfl, Or.inr rfl, trivial⟩ h
set_option maxRecDepth 20000 in
set_option maxHeartbeats 4000000 in
theorem sg_Years_bring_0 {e : gE} {b : Nat} {m : Int} {Z : Int → gH → Prop} {kc ks : Nat} {G : gH} {p1 p2 : Int} (h : (0 ≤ G 18 ((b : Int) + 19) 0 ∧ G 18 ((b : Int) + 19) 0 ≤ 5) ∧ ((G 0 ((b : Int) + 19) 0 = 1) ∧ ((0 ≤ p2 ∧ p2 < G 18 ((b : Int) + 19) 0 → G 0 (G 17 ((b : Int) + 19) 0) 0 = 103 ∧ G 18 ((b : Int) + 19) 0 ≤ G 0 (G 17 ((b : Int) + 19) 0) 1 ∧ G 0 (G 3 (G 17 ((b : Int) + 19) 0) p2) 0 = 5) ∧ ((((if 0 ≤ p2 ∧ p2 < G 18 ((b : Int) + 19) 0 then G 3 (G 17 ((b : Int) + 19) 0) p2 else 0) = 0) → Z (G 662 ((b : Int) + 18) 0) G) ∧ (((if 0 ≤ p2 ∧ p2 < G 18 ((b : Int) + 19) 0 then G 3 (G 17 ((b : Int) + 19) 0) p2 else 0) ≠ 0) → GX e b m m_Years_costOf [(2, ((b : Int) + 18)), (2, p1), (2, (if 0 ≤ p2 ∧ p2 < G 18 ((b : Int) + 19) 0 then G 3 (G 17 ((b : Int) + 19) 0) p2 else 0))] G 0 0 (fun v8 G9 => (inI ((G 662 ((b : Int) + 18) 0) - v8)) ∧ (∀ G11 : gH, G11 = gU G9 662 ((b : Int) + 18) 0 ((G 662 ((b : Int) + 18) 0) - v8) → (inI (400 + p2)) ∧ (inI (1000 + G11 661 ((b : Int) + 18) 0)) ∧ (G9 0 p1 0 = 10) ∧ ∃ kc18 ks19 mc20 ms21 : Nat, kc = kc18 + mc20 ∧ ks = ks19 + ms21 ∧ GX e b m m_Thing_goTo [(2, p1), (0, (400 + p2)), (0, (1000 + G11 661 ((b : Int) + 18) 0))] G11 mc20 ms21 (fun _ G17 => Z (G17 662 ((b : Int) + 18) 0) G17)))))))) : EX e b m m_Years_bring Z kc ks 0 [(2, ((b : Int) + 18)), (2, p1), (0, p2), (9, 0)] [] G := by
  refine e_aload_n d_Years_bring_0 rfl ?_
  refine e_iload_n d_Years_bring_1 rfl ?_
  refine EV.inv fun hFf1 => ?_
  have f1 := (fx_ct 17 rfl hFf1).1
  obtain ⟨o2, o3, o4, h⟩ := h
  refine e_callV m_Years_placeAt 10 lw_good d_Years_bring_2 (k_Years_placeAt _) ⟨Nat.le_of_ble_eq_true rfl, Nat.le_of_ble_eq_true rfl⟩ w_1201 w_1049 w_1050 (q_Years _) rfl f1 (args := [(0, p2)]) rfl rfl (Nat.le_of_ble_eq_true rfl) (kc' := kc) (ks' := ks) (mc := 0) (ms := 0) rfl rfl (c_Years_placeAt o2 o3 o4) (pureK ?_)
  refine e_astore_n (ls' := [(2, ((b : Int) + 18)), (2, p1), (0, p2), (2, (if 0 ≤ p2 ∧ p2 < G 18 ((b : Int) + 19) 0 then G 3 (G 17 ((b : Int) + 19) 0) p2 else 0))]) d_Years_bring_5 (by decide) rfl ?_
  refine e_aload_n d_Years_bring_6 rfl ?_
  refine e_ifnull (tgt := 38) d_Years_bring_7 (by decide) (fun q5 => ?_) (fun q6 => ?_)
  · have h := h.1 q5
    refine e_aload_n d_Years_bring_38 rfl ?_
    refine gx_Years_70 d_Years_bring_39 rfl ?_
    exact e_iret d_Years_bring_42 rfl h
  · have h := h.2 q6
    refine e_aload_n d_Years_bring_10 rfl ?_
    refine e_dup d_Years_bring_11 (by simp) ?_
    refine gx_Years_70 d_Years_bring_12 rfl ?_
    refine e_aload_n d_Years_bring_15 rfl ?_
    refine e_aload_n d_Years_bring_16 rfl ?_
    refine e_aload_n d_Years_bring_17 rfl ?_
    refine EV.inv fun hFf7 => ?_
    have f7 := (fx_ct 17 rfl hFf7).1
    refine e_callV m_Years_costOf 10 lw_good d_Years_bring_18 (k_Years_costOf _) ⟨Nat.le_of_ble_eq_true rfl, Nat.le_of_ble_eq_true rfl⟩ w_1250 w_1197 w_1198 (q_Years _) rfl f7 (args := [(2, p1), (2, (if 0 ≤ p2 ∧ p2 < G 18 ((b : Int) + 19) 0 then G 3 (G 17 ((b : Int) + 19) 0) p2 else 0))]) rfl rfl (Nat.le_of_ble_eq_true rfl) (kc' := kc) (ks' := ks) (mc := 0) (ms := 0) rfl rfl h ?_
    intro v8 G9 h
    obtain ⟨o10, h⟩ := h
    refine e_isub d_Years_bring_21 o10 ?_
    refine px_Years_70 d_Years_bring_22 rfl ?_
    let G11 : gH := gU G9 662 ((b : Int) + 18) 0 ((G 662 ((b : Int) + 18) 0) - v8)
    have h := h G11 rfl
    refine e_aload_n d_Years_bring_25 rfl ?_
    refine e_sipush d_Years_bring_26 (by decide) (by decide) ?_
    refine e_iload_n d_Years_bring_29 rfl ?_
    obtain ⟨o12, h⟩ := h
    refine e_iadd d_Years_bring_30 o12 ?_
    refine e_aload_n d_Years_bring_31 rfl ?_
    refine EV.inv fun hFf13 => ?_
    have f13 := (fx_ct 17 rfl hFf13).1
    obtain ⟨o14, h⟩ := h
    refine e_callV m_Years_timeNow 10 lw_good d_Years_bring_32 (k_Years_timeNow _) ⟨Nat.le_of_ble_eq_true rfl, Nat.le_of_ble_eq_true rfl⟩ w_1251 w_1252 w_1253 (q_Years _) rfl f13 (args := []) rfl rfl (Nat.le_of_ble_eq_true rfl) (kc' := kc) (ks' := ks) (mc := 0) (ms := 0) rfl rfl (c_Years_timeNow o14) (pureK ?_)
    obtain ⟨o15, h⟩ := h
    obtain ⟨kc18, ks19, mc20, ms21, hkc18, hks19, h⟩ := h
    refine e_callV m_Thing_goTo 9 lw_good d_Years_bring_35 (k_Thing_goTo _) ⟨Nat.le_of_ble_eq_true rfl, Nat.le_of_ble_eq_true rfl⟩ w_1255 w_966 w_967 (q_Thing _) rfl o15 (args := [(0, (400 + p2)), (0, (1000 + G11 661 ((b : Int) + 18) 0))]) rfl rfl (Nat.le_of_ble_eq_true rfl) (kc' := kc18) (ks' := ks19) (mc := mc20) (ms := ms21) hkc18 hks19 h ?_
    intro v16 G17 h
    refine e_aload_n d_Years_bring_38 rfl ?_
    refine gx_Years_70 d_Years_bring_39 rfl ?_
    exact e_iret d_Years_bring_42 rfl h
theorem c_costOf {e : gE} {b : Nat} {m : Int} {G : gH} {A : zA} {T P τ : Int → Int} {t p : Int} (hlo : (b : Int) + 53 < m) (hT : zRkT e b m G A T τ) (hP : zRkP e b m G A P) (hB : zB 512 A) (hPl : zPl A) (ht : zTh A t) (hp : 0 ≤ p ∧ p < A 787 0) : GX e b m m_Years_costOf [(2, ((b : Int) + 18)), (2, T t), (2, P p)] G 0 0 (fun v G1 => v = zPrice A t p ∧ G1 = G) := by
  obtain ⟨⟨⟨t1, t2⟩, -, -, -, t3, -, t4, -⟩, -⟩ := hT.2.1 t ht.1 ht.2
  obtain ⟨y1, y2, y3⟩ := zPa_p hP hB
  have tp := hP.1.2.2.1 p hp.1 hp.2
  have wp := (hP.2.1 p hp.1 hp.2).1
  have bh : 0 ≤ A 9 t ∧ A 9 t ≤ 4 := hB 9 t
  have bm : 0 ≤ A 25 p ∧ A 25 p ≤ 9 := hB 25 p
  refine GM.ofEV (by decide) (Nat.le_of_ble_eq_true rfl) (sg_Years_costOf_0 ⟨t1, t1, y1, y2, y3 _, tp, tp, ?_⟩)
  rw [zPa_e hP, t3, t4, wp.2.2.2]
  by_cases z : zAt A t
  · have hq : 0 ≤ A 11 t - 400 ∧ A 11 t - 400 < A 787 0 := ⟨by omega, hPl t z⟩
    have tq := hP.1.2.2.1 _ hq.1 hq.2
    have wq := (hP.2.1 _ hq.1 hq.2).1
    have bq : 0 ≤ A 25 (A 11 t - 400) ∧ A 25 (A 11 t - 400) ≤ 9 := hB 25 (A 11 t - 400)
    have bz := zmul_b (a := A 9 t) (b := A 25 p + A 25 (A 11 t - 400)) (c := 4) (d := 18) bh (by omega)
    rw [if_pos z, if_pos hq, wq.2.2.2]
    refine ⟨fun _ => ⟨tq, tq, by omega, by omega, ?_, rfl⟩, fun y => by omega⟩
    unfold zPrice
    rw [if_pos z]
  · have bz := zmul_b (a := A 9 t) (b := A 25 p + 0) (c := 4) (d := 18) bh (by omega)
    rw [if_neg z, if_neg (by omega)]
    refine ⟨fun y => absurd rfl y, fun _ => ⟨by omega, by omega, ?_, rfl⟩⟩
    unfold zPrice
    rw [if_neg z]
theorem c_handsIn {e : gE} {b : Nat} {m : Int} {G : gH} {A : zA} {T τ : Int → Int} {p : Int} (hT : zRkT e b m G A T τ) (hB : zB 512 A) (hp : 0 ≤ p ∧ p < 5) : GX e b m m_Years_handsIn [(2, ((b : Int) + 18)), (0, p)] G 0 0 (fun v G1 => v = zUsed A p ∧ G1 = G) := by
  have b0 : 0 ≤ A 785 0 ∧ A 785 0 ≤ 16 := hB 785 0
  obtain ⟨y1, y2, y3⟩ := zTa_p hT hB
  refine GM.ofEV (by decide) (Nat.le_of_ble_eq_true rfl) (sg_Years_handsIn_0 ?_)
  refine zloop (P := fun i => EX e b m m_Years_handsIn (fun v G1 => v = zUsed A p ∧ G1 = G) 0 0 4 [(2, ((b : Int) + 18)), (0, p), (0, zS (fun t => if A 11 t = 400 + p then A 9 t else 0) i), (0, i)] [] G) (i := 0) (A 785 0) b0.1 ?_ ?_
  · refine sg_Years_handsIn_4 ?_
    rw [hT.1.2.1]
    exact ⟨y2, fun _ => ⟨rfl, rfl⟩, fun q => absurd q (by omega)⟩
  · intro j j1 j2 st
    have bs := zS_b (f := fun t => if A 11 t = 400 + p then A 9 t else 0) (c := 4) j (fun i _ _ => by
      have bh : 0 ≤ A 9 i ∧ A 9 i ≤ 4 := hB 9 i
      show 0 ≤ (if A 11 i = 400 + p then A 9 i else 0) ∧ (if A 11 i = 400 + p then A 9 i else 0) ≤ 4
      split <;> omega) j1 (by decide)
    have bh : 0 ≤ A 9 j ∧ A 9 j ≤ 4 := hB 9 j
    have ye := zTa_e hT j
    rw [hT.1.2.1] at y3 ye
    have y4 := y3 j ⟨j1, j2⟩
    rw [if_pos ⟨j1, j2⟩, if_pos ⟨j1, j2⟩] at ye
    have tt := (hT.2.1 j j1 j2).1
    rw [ye] at y4
    refine sg_Years_handsIn_4 ?_
    rw [hT.1.2.1, ye, tt.2.2.2.2.2.2.1, tt.2.2.2.2.1]
    rw [zS_s j1] at st
    refine ⟨y2, fun q => absurd q (by omega), fun _ => ⟨y4.1, ⟨j1, j2⟩, y4.2.1, y4.2.2, y4.2.2, fun q => ⟨by omega, by omega, ?_⟩, fun q => ⟨by omega, by omega, ?_⟩⟩⟩
    · have q2 : ¬ A 11 j = 400 + p := by split at q <;> omega
      rw [if_neg q2] at st
      exact st
    · have q2 : A 11 j = 400 + p := by split at q <;> omega
      rw [if_pos q2] at st
      exact st
theorem c_bring {e : gE} {b : Nat} {m : Int} {G : gH} {A : zA} {T Q P : Int → Int} {t p : Int} (hR : zRc e b m G A T Q P) (hB : zB 512 A) (hPl : zPl A) (hc : zSeals A t < 1024) (ht : zTh A t) (hp : 0 ≤ p ∧ p < A 787 0) (h2 : A 788 0 = 2) (h0 : 300 ≤ A 11 t) (hf : zPrice A t p ≤ A 792 0) : GX e b m m_Years_bring [(2, ((b : Int) + 18)), (2, T t), (0, p)] G 1 (zPsi (zGo (zU A 792 0 (A 792 0 - zPrice A t p)) t (400 + p)) - zPsi A).toNat (fun v G1 => v = A 792 0 - zPrice A t p ∧ zRc e b m G1 (zGo (zU A 792 0 (A 792 0 - zPrice A t p)) t (400 + p)) T Q P ∧ zRf m G G1) := by
  refine GM.inv fun hF => ?_
  have hlo := fx_lo hF
  have hR0 := hR
  obtain ⟨⟨r1, r2, r3, r4⟩, hT, hQ, hP, hJ, hD⟩ := hR
  have b1 : 0 ≤ A 787 0 ∧ A 787 0 ≤ 5 := hB 787 0
  have bf : 0 ≤ A 792 0 ∧ A 792 0 ≤ 1000000 := hB 792 0
  have bw : 0 ≤ A 791 0 ∧ A 791 0 ≤ 1000 := hB 791 0
  have bp := zPrice_b (t := t) (p := p) hB
  obtain ⟨y1, y2, y3⟩ := zPa_p hP hB
  have tt := (hT.2.1 t ht.1 ht.2).1.1.1
  have wp := (hP.2.1 p hp.1 hp.2).1.1
  refine GM.ofEV (by decide) (Nat.le_of_ble_eq_true rfl) (sg_Years_bring_0 ⟨y1, y2, y3 p, ?_⟩)
  rw [zPa_e hP, if_pos hp, r4.2.2]
  refine ⟨fun z => by omega, fun _ => GM.mono (c_costOf hlo.1 hT hP hB hPl ht hp) ?_⟩
  rintro v G1 ⟨rfl, rfl⟩
  refine ⟨by omega, ?_⟩
  rintro _ rfl
  have qc : zCh [792] A (zU A 792 0 (A 792 0 - zPrice A t p)) := zCh_u
  have hR1 : zRc e b m (gU G1 662 ((b : Int) + 18) 0 (A 792 0 - zPrice A t p)) (zU A 792 0 (A 792 0 - zPrice A t p)) T Q P := by
    refine zRc_st hR0 (zDyn_u (by omega) (by decide)) qc (by decide) (fun r1 r2 r3 r4 => ⟨zR1_A qc (by decide) (zR1_G zSx_u (by decide) r1), zR2_A qc (by decide) (zR2_G zSx_u (by decide) r2), zR3_A qc (by decide) (zR3_G zSx_u (by decide) r3), fun k k1 k2 => ?_, ?_⟩)
    · rw [gU_c _ (by decide), gU_c _ (by decide), gU_c _ (by decide), zU_k (by decide), zU_k (by decide), zU_k (by decide)]
      exact r4.1 k k1 k2
    · rw [gU_c _ (by decide), gU_eq, zU_k (by decide), zU_eq]
      exact ⟨r4.2.1, rfl⟩
  obtain ⟨⟨s1, s2, s3, s4⟩, tR, qR, pR, jR, dR⟩ := hR1
  have e661 : gU G1 662 ((b : Int) + 18) 0 (A 792 0 - zPrice A t p) 661 ((b : Int) + 18) 0 = A 791 0 := by rw [gU_c _ (by decide)]; exact r4.2.1
  have eS : zSeals (zU A 792 0 (A 792 0 - zPrice A t p)) t = zSeals A t := by unfold zSeals; rw [qc 794 (by decide), qc 35 (by decide)]
  have eP : zPsi (zU A 792 0 (A 792 0 - zPrice A t p)) = zPsi A := by unfold zPsi zSeals; rw [qc 794 (by decide), qc 35 (by decide), qc 785 (by decide)]
  have k := c_goYears (w := 400 + p) (t := t) s1 s2 s3 s4 tR qR pR jR dR (zB_u hB (by show 0 ≤ A 792 0 - zPrice A t p ∧ A 792 0 - zPrice A t p ≤ 1000000; omega)) (by rw [eS]; exact hc) (by unfold zTh; rw [qc 785 (by decide)]; exact ht) (by rw [qc 788 (by decide)]; exact h2) (by omega) (by rw [qc 11 (by decide)]; exact h0)
  rw [eP, qc 791 (by decide)] at k
  rw [e661]
  refine ⟨by omega, by omega, tt, 0, 0, 1, _, by omega, by rw [Nat.zero_add], GM.mono k ?_⟩
  rintro v2 G2 ⟨k1, k2⟩
  refine ⟨?_, k1, zRf_t (zRf_u (Or.inl (by omega))) k2⟩
  rw [k1.1.2.2.2.2.2, zGo_k (by decide), zU_eq]
