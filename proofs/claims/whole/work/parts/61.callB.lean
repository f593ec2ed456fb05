/-! THE CLASS, 12: calls that look at a thing -/
theorem zTa_e {e : gE} {b : Nat} {m : Int} {G : gH} {A : zA} {T τ : Int → Int} (hT : zRkT e b m G A T τ) (p : Int) : (if 0 ≤ p ∧ p < G 18 ((b : Int) + 2) 0 then G 3 (G 17 ((b : Int) + 2) 0) p else 0) = if zTh A p then T p else 0 := by
  rw [hT.1.2.1]
  by_cases q : 0 ≤ p ∧ p < A 785 0
  · rw [if_pos q, if_pos q]
    rcases hT.1.2.2.2 with w | w
    · omega
    · exact w.2.2.2 p q.1 q.2
  · rw [if_neg q, if_neg q]
theorem zTa_p {e : gE} {b : Nat} {m : Int} {G : gH} {A : zA} {T τ : Int → Int} (hT : zRkT e b m G A T τ) (hB : zB 512 A) : (0 ≤ G 18 ((b : Int) + 2) 0 ∧ G 18 ((b : Int) + 2) 0 ≤ 16) ∧ G 0 ((b : Int) + 2) 0 = 1 ∧ ∀ p, (0 ≤ p ∧ p < G 18 ((b : Int) + 2) 0 → G 0 (G 17 ((b : Int) + 2) 0) 0 = 103 ∧ G 18 ((b : Int) + 2) 0 ≤ G 0 (G 17 ((b : Int) + 2) 0) 1 ∧ G 0 (G 3 (G 17 ((b : Int) + 2) 0) p) 0 = 10) := by
  have b0 : 0 ≤ A 785 0 ∧ A 785 0 ≤ 16 := hB 785 0
  rw [hT.1.2.1]
  refine ⟨b0, hT.1.1, fun p q => ?_⟩
  rcases hT.1.2.2.2 with w | w
  · omega
  · refine ⟨w.2.1, w.2.2.1.2.1, ?_⟩
    rw [w.2.2.2 p q.1 q.2]
    exact hT.1.2.2.1 p q.1 q.2
set_option maxRecDepth 20000 in
set_option maxHeartbeats 4000000 in
theorem sg_Thing_tell_0 {e : gE} {b : Nat} {m : Int} {Z : Int → gH → Prop} {kc ks : Nat} {G : gH} {a0 p1 : Int} (t0 : G 0 a0 0 = 10) (h : (p1 = 0 → Z (G 598 a0 0) G) ∧ (p1 = 1 → Z (G 593 a0 0) G) ∧ (p1 = 2 → Z (G 594 a0 0) G) ∧ (p1 = 3 → Z (G 595 a0 0) G) ∧ (p1 = 4 → Z (G 597 a0 0) G) ∧ (p1 = 5 → Z (G 599 a0 0) G) ∧ (p1 = 6 → Z (G 605 a0 0) G) ∧ (p1 = 7 → Z (G 607 a0 0) G) ∧ ((p1 ≠ 0 ∧ p1 ≠ 1 ∧ p1 ≠ 2 ∧ p1 ≠ 3 ∧ p1 ≠ 4 ∧ p1 ≠ 5 ∧ p1 ≠ 6 ∧ p1 ≠ 7) → Z (-1) G)) : EX e b m m_Thing_tell Z kc ks 0 [(2, a0), (0, p1)] [] G := by
  refine e_iload_n d_Thing_tell_0 rfl ?_
  obtain ⟨hs0, hs1, hs2, hs3, hs4, hs5, hs6, hs7, hs8⟩ := h
  by_cases q1 : p1 = 0
  · have h := hs0 q1
    refine e_tableIn (tgt := 48) d_Thing_tell_1 (by omega) (by omega) (by rw [show p1 = 0 from q1]; rfl) (by decide) ?_
    refine e_aload_n d_Thing_tell_48 rfl ?_
    refine gf_Thing_30 d_Thing_tell_49 rfl t0 ?_
    exact e_iret d_Thing_tell_52 rfl h
  by_cases q2 : p1 = 1
  · have h := hs1 q2
    refine e_tableIn (tgt := 53) d_Thing_tell_1 (by omega) (by omega) (by rw [show p1 = 1 from q2]; rfl) (by decide) ?_
    refine e_aload_n d_Thing_tell_53 rfl ?_
    refine gf_Thing_15 d_Thing_tell_54 rfl t0 ?_
    exact e_iret d_Thing_tell_57 rfl h
  by_cases q3 : p1 = 2
  · have h := hs2 q3
    refine e_tableIn (tgt := 58) d_Thing_tell_1 (by omega) (by omega) (by rw [show p1 = 2 from q3]; rfl) (by decide) ?_
    refine e_aload_n d_Thing_tell_58 rfl ?_
    refine gf_Thing_18 d_Thing_tell_59 rfl t0 ?_
    exact e_iret d_Thing_tell_62 rfl h
  by_cases q4 : p1 = 3
  · have h := hs3 q4
    refine e_tableIn (tgt := 63) d_Thing_tell_1 (by omega) (by omega) (by rw [show p1 = 3 from q4]; rfl) (by decide) ?_
    refine e_aload_n d_Thing_tell_63 rfl ?_
    refine gf_Thing_21 d_Thing_tell_64 rfl t0 ?_
    exact e_iret d_Thing_tell_67 rfl h
  by_cases q5 : p1 = 4
  · have h := hs4 q5
    refine e_tableIn (tgt := 68) d_Thing_tell_1 (by omega) (by omega) (by rw [show p1 = 4 from q5]; rfl) (by decide) ?_
    refine e_aload_n d_Thing_tell_68 rfl ?_
    refine gf_Thing_27 d_Thing_tell_69 rfl t0 ?_
    exact e_iret d_Thing_tell_72 rfl h
  by_cases q6 : p1 = 5
  · have h := hs5 q6
    refine e_tableIn (tgt := 73) d_Thing_tell_1 (by omega) (by omega) (by rw [show p1 = 5 from q6]; rfl) (by decide) ?_
    refine e_aload_n d_Thing_tell_73 rfl ?_
    refine gf_Thing_50 d_Thing_tell_74 rfl t0 ?_
    exact e_iret d_Thing_tell_77 rfl h
  by_cases q7 : p1 = 6
  · have h := hs6 q7
    refine e_tableIn (tgt := 78) d_Thing_tell_1 (by omega) (by omega) (by rw [show p1 = 6 from q7]; rfl) (by decide) ?_
    refine e_aload_n d_Thing_tell_78 rfl ?_
    refine gf_Thing_59 d_Thing_tell_79 rfl t0 ?_
    exact e_iret d_Thing_tell_82 rfl h
  by_cases q8 : p1 = 7
  · have h := hs7 q8
    refine e_tableIn (tgt := 83) d_Thing_tell_1 (by omega) (by omega) (by rw [show p1 = 7 from q8]; rfl) (by decide) ?_
    refine e_aload_n d_Thing_tell_83 rfl ?_
    refine gf_Thing_76 d_Thing_tell_84 rfl t0 ?_
    exact e_iret d_Thing_tell_87 rfl h
  have q9 : p1 ≠ 0 ∧ p1 ≠ 1 ∧ p1 ≠ 2 ∧ p1 ≠ 3 ∧ p1 ≠ 4 ∧ p1 ≠ 5 ∧ p1 ≠ 6 ∧ p1 ≠ 7 := ⟨q1, q2, q3, q4, q5, q6, q7, q8⟩
  have h := hs8 q9
  have hout : (p1 < 0 ∨ 7 < p1) := by omega
  refine e_tableOut (tgt := 88) d_Thing_tell_1 hout (by decide) ?_
  refine e_iconst d_Thing_tell_88 (by decide) ?_
  exact e_iret d_Thing_tell_89 rfl h
def zTell (G : gH) (a w : Int) : Int := if w = 0 then G 598 a 0 else if w = 1 then G 593 a 0 else if w = 2 then G 594 a 0 else if w = 3 then G 595 a 0 else if w = 4 then G 597 a 0 else if w = 5 then G 599 a 0 else if w = 6 then G 605 a 0 else if w = 7 then G 607 a 0 else -1
theorem c_Thing_tell {e : gE} {b : Nat} {m : Int} {G : gH} {a0 p1 : Int} (h1 : G 0 a0 0 = 10) : GX e b m m_Thing_tell [(2, a0), (0, p1)] G 0 0 (fun v9 G9 => v9 = (zTell G a0 p1 : Int) ∧ G9 = G) := by
  refine GM.ofEV (by decide) (Nat.le_of_ble_eq_true rfl) (sg_Thing_tell_0 h1 ?_)
  unfold zTell
  refine ⟨fun q => ⟨?_, rfl⟩, fun q => ⟨?_, rfl⟩, fun q => ⟨?_, rfl⟩, fun q => ⟨?_, rfl⟩, fun q => ⟨?_, rfl⟩, fun q => ⟨?_, rfl⟩, fun q => ⟨?_, rfl⟩, fun q => ⟨?_, rfl⟩, fun q => ⟨?_, rfl⟩⟩
  · rw [if_pos q]
  · rw [if_neg (by omega), if_pos q]
  · rw [if_neg (by omega), if_neg (by omega), if_pos q]
  · rw [if_neg (by omega), if_neg (by omega), if_neg (by omega), if_pos q]
  · rw [if_neg (by omega), if_neg (by omega), if_neg (by omega), if_neg (by omega), if_pos q]
  · rw [if_neg (by omega), if_neg (by omega), if_neg (by omega), if_neg (by omega), if_neg (by omega), if_pos q]
  · rw [if_neg (by omega), if_neg (by omega), if_neg (by omega), if_neg (by omega), if_neg (by omega), if_neg (by omega), if_pos q]
  · rw [if_neg (by omega), if_neg (by omega), if_neg (by omega), if_neg (by omega), if_neg (by omega), if_neg (by omega), if_neg (by omega), if_pos q]
  · rw [if_neg (by omega), if_neg (by omega), if_neg (by omega), if_neg (by omega), if_neg (by omega), if_neg (by omega), if_neg (by omega), if_neg (by omega)]
set_option maxRecDepth 20000 in
set_option maxHeartbeats 4000000 in
theorem sg_C_given_0 {e : gE} {b : Nat} {m : Int} {Z : Int → gH → Prop} {kc ks : Nat} {G : gH} {p1 : Int} (h : (0 ≤ G 18 ((b : Int) + 2) 0 ∧ G 18 ((b : Int) + 2) 0 ≤ 16) ∧ ((G 0 ((b : Int) + 2) 0 = 1) ∧ ((0 ≤ p1 ∧ p1 < G 18 ((b : Int) + 2) 0 → G 0 (G 17 ((b : Int) + 2) 0) 0 = 103 ∧ G 18 ((b : Int) + 2) 0 ≤ G 0 (G 17 ((b : Int) + 2) 0) 1 ∧ G 0 (G 3 (G 17 ((b : Int) + 2) 0) p1) 0 = 10) ∧ ((((if 0 ≤ p1 ∧ p1 < G 18 ((b : Int) + 2) 0 then G 3 (G 17 ((b : Int) + 2) 0) p1 else 0) ≠ 0) → (G 0 (if 0 ≤ p1 ∧ p1 < G 18 ((b : Int) + 2) 0 then G 3 (G 17 ((b : Int) + 2) 0) p1 else 0) 0 = 10) ∧ (G 0 (if 0 ≤ p1 ∧ p1 < G 18 ((b : Int) + 2) 0 then G 3 (G 17 ((b : Int) + 2) 0) p1 else 0) 0 = 10) ∧ Z (G 600 (if 0 ≤ p1 ∧ p1 < G 18 ((b : Int) + 2) 0 then G 3 (G 17 ((b : Int) + 2) 0) p1 else 0) 0) G) ∧ (((if 0 ≤ p1 ∧ p1 < G 18 ((b : Int) + 2) 0 then G 3 (G 17 ((b : Int) + 2) 0) p1 else 0) = 0) → Z (-1) G))))) : EX e b m m_C_given Z kc ks 0 [(2, ((b : Int) + 1)), (0, p1), (9, 0)] [] G := by
  refine e_aload_n d_C_given_0 rfl ?_
  refine e_iload_n d_C_given_1 rfl ?_
  refine EV.inv fun hFf1 => ?_
  have f1 := (fx_ct 0 rfl hFf1).1
  obtain ⟨o2, o3, o4, h⟩ := h
  refine e_callV m_C_thingAt 11 lw_good d_C_given_2 (k_C_thingAt _) ⟨Nat.le_of_ble_eq_true rfl, Nat.le_of_ble_eq_true rfl⟩ w_846 w_848 w_s24 (q_C _) rfl f1 (args := [(0, p1)]) rfl rfl (Nat.le_of_ble_eq_true rfl) (kc' := kc) (ks' := ks) (mc := 0) (ms := 0) rfl rfl (c_C_thingAt o2 o3 o4) (pureK ?_)
  refine e_astore_n (ls' := [(2, ((b : Int) + 1)), (0, p1), (2, (if 0 ≤ p1 ∧ p1 < G 18 ((b : Int) + 2) 0 then G 3 (G 17 ((b : Int) + 2) 0) p1 else 0))]) d_C_given_5 (by decide) rfl ?_
  refine e_aload_n d_C_given_6 rfl ?_
  refine e_ifnonnull (tgt := 14) d_C_given_7 (by decide) (fun q5 => ?_) (fun q6 => ?_)
  · have h := h.1 q5
    refine e_aload_n d_C_given_14 rfl ?_
    obtain ⟨o7, o8, h⟩ := h
    refine e_callV m_Thing_givenTo 9 lw_good d_C_given_15 (k_Thing_givenTo _) ⟨Nat.le_of_ble_eq_true rfl, Nat.le_of_ble_eq_true rfl⟩ w_999 w_957 w_958 (q_Thing _) rfl o7 (args := []) rfl rfl (Nat.le_of_ble_eq_true rfl) (kc' := kc) (ks' := ks) (mc := 0) (ms := 0) rfl rfl (c_Thing_givenTo o8) (pureK ?_)
    exact e_iret d_C_given_18 rfl h
  · have h := h.2 q6
    refine e_iconst d_C_given_10 (by decide) ?_
    refine e_goto (tgt := 18) d_C_given_11 (by decide) ?_
    exact e_iret d_C_given_18 rfl h
set_option maxRecDepth 20000 in
set_option maxHeartbeats 4000000 in
theorem sg_C_about_0 {e : gE} {b : Nat} {m : Int} {Z : Int → gH → Prop} {kc ks : Nat} {G : gH} {p1 p2 : Int} (h : (0 ≤ G 18 ((b : Int) + 2) 0 ∧ G 18 ((b : Int) + 2) 0 ≤ 16) ∧ ((G 0 ((b : Int) + 2) 0 = 1) ∧ ((0 ≤ p1 ∧ p1 < G 18 ((b : Int) + 2) 0 → G 0 (G 17 ((b : Int) + 2) 0) 0 = 103 ∧ G 18 ((b : Int) + 2) 0 ≤ G 0 (G 17 ((b : Int) + 2) 0) 1 ∧ G 0 (G 3 (G 17 ((b : Int) + 2) 0) p1) 0 = 10) ∧ ((((if 0 ≤ p1 ∧ p1 < G 18 ((b : Int) + 2) 0 then G 3 (G 17 ((b : Int) + 2) 0) p1 else 0) ≠ 0) → (G 0 (if 0 ≤ p1 ∧ p1 < G 18 ((b : Int) + 2) 0 then G 3 (G 17 ((b : Int) + 2) 0) p1 else 0) 0 = 10) ∧ (G 0 (if 0 ≤ p1 ∧ p1 < G 18 ((b : Int) + 2) 0 then G 3 (G 17 ((b : Int) + 2) 0) p1 else 0) 0 = 10) ∧ Z (zTell G (if 0 ≤ p1 ∧ p1 < G 18 ((b : Int) + 2) 0 then G 3 (G 17 ((b : Int) + 2) 0) p1 else 0) p2) G) ∧ (((if 0 ≤ p1 ∧ p1 < G 18 ((b : Int) + 2) 0 then G 3 (G 17 ((b : Int) + 2) 0) p1 else 0) = 0) → Z (-1) G))))) : EX e b m m_C_about Z kc ks 0 [(2, ((b : Int) + 1)), (0, p1), (0, p2), (9, 0)] [] G := by
  refine e_aload_n d_C_about_0 rfl ?_
  refine e_iload_n d_C_about_1 rfl ?_
  refine EV.inv fun hFf1 => ?_
  have f1 := (fx_ct 0 rfl hFf1).1
  obtain ⟨o2, o3, o4, h⟩ := h
  refine e_callV m_C_thingAt 11 lw_good d_C_about_2 (k_C_thingAt _) ⟨Nat.le_of_ble_eq_true rfl, Nat.le_of_ble_eq_true rfl⟩ w_846 w_848 w_s24 (q_C _) rfl f1 (args := [(0, p1)]) rfl rfl (Nat.le_of_ble_eq_true rfl) (kc' := kc) (ks' := ks) (mc := 0) (ms := 0) rfl rfl (c_C_thingAt o2 o3 o4) (pureK ?_)
  refine e_astore_n (ls' := [(2, ((b : Int) + 1)), (0, p1), (0, p2), (2, (if 0 ≤ p1 ∧ p1 < G 18 ((b : Int) + 2) 0 then G 3 (G 17 ((b : Int) + 2) 0) p1 else 0))]) d_C_about_5 (by decide) rfl ?_
  refine e_aload_n d_C_about_6 rfl ?_
  refine e_ifnonnull (tgt := 14) d_C_about_7 (by decide) (fun q5 => ?_) (fun q6 => ?_)
  · have h := h.1 q5
    refine e_aload_n d_C_about_14 rfl ?_
    refine e_iload_n d_C_about_15 rfl ?_
    obtain ⟨o7, o8, h⟩ := h
    refine e_callV m_Thing_tell 9 lw_good d_C_about_16 (k_Thing_tell _) ⟨Nat.le_of_ble_eq_true rfl, Nat.le_of_ble_eq_true rfl⟩ w_1340 w_1341 w_1342 (q_Thing _) rfl o7 (args := [(0, p2)]) rfl rfl (Nat.le_of_ble_eq_true rfl) (kc' := kc) (ks' := ks) (mc := 0) (ms := 0) rfl rfl (c_Thing_tell o8) (pureK ?_)
    exact e_iret d_C_about_19 rfl h
  · have h := h.2 q6
    refine e_iconst d_C_about_10 (by decide) ?_
    refine e_goto (tgt := 19) d_C_about_11 (by decide) ?_
    exact e_iret d_C_about_19 rfl h
set_option maxRecDepth 20000 in
set_option maxHeartbeats 4000000 in
theorem sg_C_worthIn_0 {e : gE} {b : Nat} {m : Int} {Z : Int → gH → Prop} {kc ks : Nat} {G : gH} {p1 : Int} (h : (zSh p1 → (0 ≤ p1 ∧ p1 < 8) ∧ (((G 1 ((b : Int) + 50) p1) ≠ (-1) → (0 ≤ G 18 ((b : Int) + 2) 0 ∧ G 18 ((b : Int) + 2) 0 ≤ 16) ∧ ((G 0 ((b : Int) + 2) 0 = 1) ∧ ((0 ≤ (G 1 ((b : Int) + 50) p1) ∧ (G 1 ((b : Int) + 50) p1) < G 18 ((b : Int) + 2) 0 → G 0 (G 17 ((b : Int) + 2) 0) 0 = 103 ∧ G 18 ((b : Int) + 2) 0 ≤ G 0 (G 17 ((b : Int) + 2) 0) 1 ∧ G 0 (G 3 (G 17 ((b : Int) + 2) 0) (G 1 ((b : Int) + 50) p1)) 0 = 10) ∧ ((((if 0 ≤ (G 1 ((b : Int) + 50) p1) ∧ (G 1 ((b : Int) + 50) p1) < G 18 ((b : Int) + 2) 0 then G 3 (G 17 ((b : Int) + 2) 0) (G 1 ((b : Int) + 50) p1) else 0) ≠ 0) → (G 0 (if 0 ≤ (G 1 ((b : Int) + 50) p1) ∧ (G 1 ((b : Int) + 50) p1) < G 18 ((b : Int) + 2) 0 then G 3 (G 17 ((b : Int) + 2) 0) (G 1 ((b : Int) + 50) p1) else 0) 0 = 10) ∧ (G 0 (if 0 ≤ (G 1 ((b : Int) + 50) p1) ∧ (G 1 ((b : Int) + 50) p1) < G 18 ((b : Int) + 2) 0 then G 3 (G 17 ((b : Int) + 2) 0) (G 1 ((b : Int) + 50) p1) else 0) 0 = 10) ∧ Z (G 594 (if 0 ≤ (G 1 ((b : Int) + 50) p1) ∧ (G 1 ((b : Int) + 50) p1) < G 18 ((b : Int) + 2) 0 then G 3 (G 17 ((b : Int) + 2) 0) (G 1 ((b : Int) + 50) p1) else 0) 0) G) ∧ (((if 0 ≤ (G 1 ((b : Int) + 50) p1) ∧ (G 1 ((b : Int) + 50) p1) < G 18 ((b : Int) + 2) 0 then G 3 (G 17 ((b : Int) + 2) 0) (G 1 ((b : Int) + 50) p1) else 0) = 0) → GX e b m m_C_refuse [(2, ((b : Int) + 1)), (0, (-2))] G 0 0 (fun v15 G16 => Z v15 G16)))))) ∧ ((G 1 ((b : Int) + 50) p1) = (-1) → GX e b m m_C_refuse [(2, ((b : Int) + 1)), (0, (-3))] G 0 0 (fun v18 G19 => Z v18 G19)))) ∧ ((¬ (zSh p1)) → GX e b m m_C_refuse [(2, ((b : Int) + 1)), (0, (-1))] G 0 0 (fun v21 G22 => Z v21 G22))) : EX e b m m_C_worthIn Z kc ks 0 [(2, ((b : Int) + 1)), (0, p1), (9, 0)] [] G := by
  refine e_iload_n d_C_worthIn_0 rfl ?_
  refine e_callS m_C_isShelf lw_good d_C_worthIn_1 (k_C_isShelf _) ⟨Nat.le_of_ble_eq_true rfl, Nat.le_of_ble_eq_true rfl⟩ w_486 w_487 (args := [(0, p1)]) rfl rfl (Nat.le_of_ble_eq_true rfl) (kc' := kc) (ks' := ks) (mc := 0) (ms := 0) rfl rfl (c_C_isShelf) (pureK ?_)
  refine e_if_ne (tgt := 13) d_C_worthIn_4 (by decide) (fun q1 => ?_) (fun q2 => ?_)
  · replace q1 := gb1.mp q1
    have h := h.1 q1
    refine e_aload_n d_C_worthIn_13 rfl ?_
    refine gx_C_57 d_C_worthIn_14 rfl ?_
    refine e_iload_n d_C_worthIn_17 rfl ?_
    obtain ⟨o3, h⟩ := h
    refine xC_iald 49 rfl d_C_worthIn_18 o3 ?_
    refine e_iconst d_C_worthIn_19 (by decide) ?_
    refine e_icmp_ne (tgt := 30) d_C_worthIn_20 (by decide) (fun q4 => ?_) (fun q5 => ?_)
    · have h := h.1 q4
      refine e_aload_n d_C_worthIn_30 rfl ?_
      refine e_aload_n d_C_worthIn_31 rfl ?_
      refine gx_C_57 d_C_worthIn_32 rfl ?_
      refine e_iload_n d_C_worthIn_35 rfl ?_
      refine xC_iald 49 rfl d_C_worthIn_36 o3 ?_
      refine EV.inv fun hFf6 => ?_
      have f6 := (fx_ct 0 rfl hFf6).1
      obtain ⟨o7, o8, o9, h⟩ := h
      refine e_callV m_C_thingAt 11 lw_good d_C_worthIn_37 (k_C_thingAt _) ⟨Nat.le_of_ble_eq_true rfl, Nat.le_of_ble_eq_true rfl⟩ w_846 w_848 w_s24 (q_C _) rfl f6 (args := [(0, (G 1 ((b : Int) + 50) p1))]) rfl rfl (Nat.le_of_ble_eq_true rfl) (kc' := kc) (ks' := ks) (mc := 0) (ms := 0) rfl rfl (c_C_thingAt o7 o8 o9) (pureK ?_)
      refine e_astore_n (ls' := [(2, ((b : Int) + 1)), (0, p1), (2, (if 0 ≤ (G 1 ((b : Int) + 50) p1) ∧ (G 1 ((b : Int) + 50) p1) < G 18 ((b : Int) + 2) 0 then G 3 (G 17 ((b : Int) + 2) 0) (G 1 ((b : Int) + 50) p1) else 0))]) d_C_worthIn_40 (by decide) rfl ?_
      refine e_aload_n d_C_worthIn_41 rfl ?_
      refine e_ifnonnull (tgt := 54) d_C_worthIn_42 (by decide) (fun q10 => ?_) (fun q11 => ?_)
      · have h := h.1 q10
        refine e_aload_n d_C_worthIn_54 rfl ?_
        obtain ⟨o12, o13, h⟩ := h
        refine e_callV m_Thing_worth 9 lw_good d_C_worthIn_55 (k_Thing_worth _) ⟨Nat.le_of_ble_eq_true rfl, Nat.le_of_ble_eq_true rfl⟩ w_859 w_721 w_722 (q_Thing _) rfl o12 (args := []) rfl rfl (Nat.le_of_ble_eq_true rfl) (kc' := kc) (ks' := ks) (mc := 0) (ms := 0) rfl rfl (c_Thing_worth o13) (pureK ?_)
        exact e_iret d_C_worthIn_58 rfl h
      · have h := h.2 q11
        refine e_aload_n d_C_worthIn_45 rfl ?_
        refine e_bipush d_C_worthIn_46 (by decide) (by decide) ?_
        refine EV.inv fun hFf14 => ?_
        have f14 := (fx_ct 0 rfl hFf14).1
        refine e_callV m_C_refuse 11 lw_good d_C_worthIn_48 (k_C_refuse _) ⟨Nat.le_of_ble_eq_true rfl, Nat.le_of_ble_eq_true rfl⟩ w_297 w_299 w_s0 (q_C _) rfl f14 (args := [(0, (-2))]) rfl rfl (Nat.le_of_ble_eq_true rfl) (kc' := kc) (ks' := ks) (mc := 0) (ms := 0) rfl rfl h ?_
        intro v15 G16 h
        refine e_goto (tgt := 58) d_C_worthIn_51 (by decide) ?_
        exact e_iret d_C_worthIn_58 rfl h
    · have h := h.2 q5
      refine e_aload_n d_C_worthIn_23 rfl ?_
      refine e_bipush d_C_worthIn_24 (by decide) (by decide) ?_
      refine EV.inv fun hFf17 => ?_
      have f17 := (fx_ct 0 rfl hFf17).1
      refine e_callV m_C_refuse 11 lw_good d_C_worthIn_26 (k_C_refuse _) ⟨Nat.le_of_ble_eq_true rfl, Nat.le_of_ble_eq_true rfl⟩ w_297 w_299 w_s0 (q_C _) rfl f17 (args := [(0, (-3))]) rfl rfl (Nat.le_of_ble_eq_true rfl) (kc' := kc) (ks' := ks) (mc := 0) (ms := 0) rfl rfl h ?_
      intro v18 G19 h
      exact e_iret d_C_worthIn_29 rfl h
  · replace q2 := gb0.mp q2
    have h := h.2 q2
    refine e_aload_n d_C_worthIn_7 rfl ?_
    refine e_iconst d_C_worthIn_8 (by decide) ?_
    refine EV.inv fun hFf20 => ?_
    have f20 := (fx_ct 0 rfl hFf20).1
    refine e_callV m_C_refuse 11 lw_good d_C_worthIn_9 (k_C_refuse _) ⟨Nat.le_of_ble_eq_true rfl, Nat.le_of_ble_eq_true rfl⟩ w_297 w_299 w_s0 (q_C _) rfl f20 (args := [(0, (-1))]) rfl rfl (Nat.le_of_ble_eq_true rfl) (kc' := kc) (ks' := ks) (mc := 0) (ms := 0) rfl rfl h ?_
    intro v21 G22 h
    exact e_iret d_C_worthIn_12 rfl h
set_option maxRecDepth 20000 in
set_option maxHeartbeats 4000000 in
theorem sg_C_show_0 {e : gE} {b : Nat} {m : Int} {Z : Int → gH → Prop} {kc ks : Nat} {G : gH} {p1 p2 : Int} (h : (zSh p1 → (p2 ≠ (-1) → (0 ≤ G 18 ((b : Int) + 2) 0 ∧ G 18 ((b : Int) + 2) 0 ≤ 16) ∧ ((G 0 ((b : Int) + 2) 0 = 1) ∧ (0 ≤ p2 ∧ p2 < G 18 ((b : Int) + 2) 0 → G 0 (G 17 ((b : Int) + 2) 0) 0 = 103 ∧ G 18 ((b : Int) + 2) 0 ≤ G 0 (G 17 ((b : Int) + 2) 0) 1 ∧ G 0 (G 3 (G 17 ((b : Int) + 2) 0) p2) 0 = 10)))) ∧ (((¬ (zSh p1)) ∨ (zSh p1 ∧ p2 ≠ (-1) ∧ ((if 0 ≤ p2 ∧ p2 < G 18 ((b : Int) + 2) 0 then G 3 (G 17 ((b : Int) + 2) 0) p2 else 0) = 0))) → GX e b m m_C_refuse [(2, ((b : Int) + 1)), (0, (-1))] G 0 0 (fun v13 G14 => Z v13 G14)) ∧ (((zSh p1 ∧ p2 = (-1)) ∨ (zSh p1 ∧ p2 ≠ (-1) ∧ ((if 0 ≤ p2 ∧ p2 < G 18 ((b : Int) + 2) 0 then G 3 (G 17 ((b : Int) + 2) 0) p2 else 0) ≠ 0))) → (0 ≤ p1 ∧ p1 < 8) ∧ (∀ G17 : gH, G17 = gU G 1 ((b : Int) + 50) p1 p2 → (p2 ≠ (-1) → Z 1 G17) ∧ (p2 = (-1) → Z 0 G17)))) : EX e b m m_C_show Z kc ks 0 [(2, ((b : Int) + 1)), (0, p1), (0, p2)] [] G := by
  obtain ⟨h, hJ11, hJ15⟩ := h
  have kJ15 : ((zSh p1 ∧ p2 = (-1)) ∨ (zSh p1 ∧ p2 ≠ (-1) ∧ ((if 0 ≤ p2 ∧ p2 < G 18 ((b : Int) + 2) 0 then G 3 (G 17 ((b : Int) + 2) 0) p2 else 0) ≠ 0))) → EX e b m m_C_show Z kc ks 26 [(2, ((b : Int) + 1)), (0, p1), (0, p2)] [] G := by
    intro rJ15
    have h := hJ15 rJ15
    refine e_aload_n d_C_show_26 rfl ?_
    refine gx_C_57 d_C_show_27 rfl ?_
    refine e_iload_n d_C_show_30 rfl ?_
    refine e_iload_n d_C_show_31 rfl ?_
    obtain ⟨o16, h⟩ := h
    refine xC_iast 49 rfl d_C_show_32 o16 ?_
    let G17 : gH := gU G 1 ((b : Int) + 50) p1 p2
    have h := h G17 rfl
    refine e_iload_n d_C_show_33 rfl ?_
    refine e_iconst d_C_show_34 (by decide) ?_
    refine e_icmp_ne (tgt := 42) d_C_show_35 (by decide) (fun q18 => ?_) (fun q19 => ?_)
    · have h := h.1 q18
      refine e_iconst d_C_show_42 (by decide) ?_
      exact e_iret d_C_show_43 rfl h
    · have h := h.2 q19
      refine e_iconst d_C_show_38 (by decide) ?_
      refine e_goto (tgt := 43) d_C_show_39 (by decide) ?_
      exact e_iret d_C_show_43 rfl h
  have kJ11 : ((¬ (zSh p1)) ∨ (zSh p1 ∧ p2 ≠ (-1) ∧ ((if 0 ≤ p2 ∧ p2 < G 18 ((b : Int) + 2) 0 then G 3 (G 17 ((b : Int) + 2) 0) p2 else 0) = 0))) → EX e b m m_C_show Z kc ks 20 [(2, ((b : Int) + 1)), (0, p1), (0, p2)] [] G := by
    intro rJ11
    have h := hJ11 rJ11
    refine e_aload_n d_C_show_20 rfl ?_
    refine e_iconst d_C_show_21 (by decide) ?_
    refine EV.inv fun hFf12 => ?_
    have f12 := (fx_ct 0 rfl hFf12).1
    refine e_callV m_C_refuse 11 lw_good d_C_show_22 (k_C_refuse _) ⟨Nat.le_of_ble_eq_true rfl, Nat.le_of_ble_eq_true rfl⟩ w_297 w_299 w_s0 (q_C _) rfl f12 (args := [(0, (-1))]) rfl rfl (Nat.le_of_ble_eq_true rfl) (kc' := kc) (ks' := ks) (mc := 0) (ms := 0) rfl rfl h ?_
    intro v13 G14 h
    exact e_iret d_C_show_25 rfl h
  refine e_iload_n d_C_show_0 rfl ?_
  refine e_callS m_C_isShelf lw_good d_C_show_1 (k_C_isShelf _) ⟨Nat.le_of_ble_eq_true rfl, Nat.le_of_ble_eq_true rfl⟩ w_486 w_487 (args := [(0, p1)]) rfl rfl (Nat.le_of_ble_eq_true rfl) (kc' := kc) (ks' := ks) (mc := 0) (ms := 0) rfl rfl (c_C_isShelf) (pureK ?_)
  refine e_if_eq (tgt := 20) d_C_show_4 (by decide) (fun q1 => ?_) (fun q2 => ?_)
  · replace q1 := gb0.mp q1
    exact kJ11 (Or.inl q1)
  · replace q2 := gb1.mp q2
    have h := h q2
    refine e_iload_n d_C_show_7 rfl ?_
    refine e_iconst d_C_show_8 (by decide) ?_
    refine e_icmp_eq (tgt := 26) d_C_show_9 (by decide) (fun q3 => ?_) (fun q4 => ?_)
    · exact kJ15 (Or.inl ⟨q2, q3⟩)
    · have h := h q4
      refine e_aload_n d_C_show_12 rfl ?_
      refine e_iload_n d_C_show_13 rfl ?_
      refine EV.inv fun hFf5 => ?_
      have f5 := (fx_ct 0 rfl hFf5).1
      obtain ⟨o6, o7, o8⟩ := h
      refine e_callV m_C_thingAt 11 lw_good d_C_show_14 (k_C_thingAt _) ⟨Nat.le_of_ble_eq_true rfl, Nat.le_of_ble_eq_true rfl⟩ w_846 w_848 w_s24 (q_C _) rfl f5 (args := [(0, p2)]) rfl rfl (Nat.le_of_ble_eq_true rfl) (kc' := kc) (ks' := ks) (mc := 0) (ms := 0) rfl rfl (c_C_thingAt o6 o7 o8) (pureK ?_)
      refine e_ifnonnull (tgt := 26) d_C_show_17 (by decide) (fun q9 => ?_) (fun q10 => ?_)
      · exact kJ15 (Or.inr ⟨q2, q4, q9⟩)
      · exact kJ11 (Or.inr ⟨q2, q4, q10⟩)
set_option maxRecDepth 20000 in
set_option maxHeartbeats 4000000 in
theorem sg_Thing_holderIn_0 {e : gE} {b : Nat} {m : Int} {Z : Int → gH → Prop} {kc ks : Nat} {G : gH} {a0 p1 : Int} (t0 : G 0 a0 0 = 10) (h : EX e b m m_Thing_holderIn Z kc ks 4 [(2, a0), (0, p1), (0, (-1)), (0, 0)] [] G) : EX e b m m_Thing_holderIn Z kc ks 0 [(2, a0), (0, p1), (9, 0), (9, 0)] [] G := by
  refine e_iconst d_Thing_holderIn_0 (by decide) ?_
  refine e_istore_n (ls' := [(2, a0), (0, p1), (0, (-1)), (9, 0)]) d_Thing_holderIn_1 (by decide) rfl ?_
  refine e_iconst d_Thing_holderIn_2 (by decide) ?_
  refine e_istore_n (ls' := [(2, a0), (0, p1), (0, (-1)), (0, 0)]) d_Thing_holderIn_3 (by decide) rfl ?_
  exact e_forget (ls' := [(2, a0), (0, p1), (0, (-1)), (0, 0)]) ⟨Or.inr rfl, Or.inr rfl, Or.inr rfl, Or.inr rfl, trivial⟩ h
set_option maxRecDepth 20000 in
set_option maxHeartbeats 4000000 in
theorem sg_Thing_holderIn_4 {e : gE} {b : Nat} {m : Int} {Z : Int → gH → Prop} {kc ks : Nat} {G : gH} {a0 p1 x2 x3 : Int} (t0 : G 0 a0 0 = 10) (h : ((inI (x3 + 3)) ∧ ((100 ≤ G 0 (G 606 a0 0) 0 ∧ G 0 (G 606 a0 0) 0 ≤ 105) ∧ ((x3 + 3) ≤ (G 0 (G 606 a0 0) 1) → (inI ((G 607 a0 0) * 3)) ∧ (x3 < ((G 607 a0 0) * 3) → (inI (x3 + 1)) ∧ ((G 0 (G 606 a0 0) 0 = 100) ∧ ((0 ≤ (x3 + 1)) ∧ (((x3 + 1) < G 0 (G 606 a0 0) 1) ∧ ((inI (x3 + 2)) ∧ ((0 ≤ (x3 + 2)) ∧ (((x3 + 2) < G 0 (G 606 a0 0) 1) ∧ (((¬ ((G 1 (G 606 a0 0) (x3 + 1)) ≤ p1 ∧ p1 ≤ (G 1 (G 606 a0 0) (x3 + 2)))) → EX e b m m_Thing_holderIn Z kc ks 4 [(2, a0), (0, p1), (0, x2), (0, (x3 + 3))] [] G) ∧ (((G 1 (G 606 a0 0) (x3 + 1)) ≤ p1 ∧ p1 ≤ (G 1 (G 606 a0 0) (x3 + 2))) → (x2 ≠ (-1) → (0 ≤ x3) ∧ ((x3 < G 0 (G 606 a0 0) 1) ∧ (x2 ≠ (G 1 (G 606 a0 0) x3) → EX e b m m_Thing_holderIn Z kc ks 4 [(2, a0), (0, p1), (0, 100), (0, (x3 + 3))] [] G))))))))))))))) ∧ ((((x3 + 3) ≤ (G 0 (G 606 a0 0) 1) ∧ x3 < ((G 607 a0 0) * 3) ∧ ((G 1 (G 606 a0 0) (x3 + 1)) ≤ p1 ∧ p1 ≤ (G 1 (G 606 a0 0) (x3 + 2))) ∧ x2 = (-1)) ∨ ((x3 + 3) ≤ (G 0 (G 606 a0 0) 1) ∧ x3 < ((G 607 a0 0) * 3) ∧ ((G 1 (G 606 a0 0) (x3 + 1)) ≤ p1 ∧ p1 ≤ (G 1 (G 606 a0 0) (x3 + 2))) ∧ x2 ≠ (-1) ∧ x2 = (G 1 (G 606 a0 0) x3))) → (G 0 (G 606 a0 0) 0 = 100) ∧ (0 ≤ x3) ∧ (x3 < G 0 (G 606 a0 0) 1) ∧ (inI (x3 + 3)) ∧ EX e b m m_Thing_holderIn Z kc ks 4 [(2, a0), (0, p1), (0, (G 1 (G 606 a0 0) x3)), (0, (x3 + 3))] [] G) ∧ (((G 0 (G 606 a0 0) 1) < (x3 + 3) ∨ ((x3 + 3) ≤ (G 0 (G 606 a0 0) 1) ∧ ((G 607 a0 0) * 3) ≤ x3)) → Z x2 G)) : EX e b m m_Thing_holderIn Z kc ks 4 [(2, a0), (0, p1), (0, x2), (0, x3)] [] G := by
  obtain ⟨h, hJ23, hJ28⟩ := h
  have kJ28 : ((G 0 (G 606 a0 0) 1) < (x3 + 3) ∨ ((x3 + 3) ≤ (G 0 (G 606 a0 0) 1) ∧ ((G 607 a0 0) * 3) ≤ x3)) → EX e b m m_Thing_holderIn Z kc ks 81 [(2, a0), (0, p1), (0, x2), (0, x3)] [] G := by
    intro rJ28
    have h := hJ28 rJ28
    refine e_iload_n d_Thing_holderIn_81 rfl ?_
    exact e_iret d_Thing_holderIn_82 rfl h
  have kJ23 : (((x3 + 3) ≤ (G 0 (G 606 a0 0) 1) ∧ x3 < ((G 607 a0 0) * 3) ∧ ((G 1 (G 606 a0 0) (x3 + 1)) ≤ p1 ∧ p1 ≤ (G 1 (G 606 a0 0) (x3 + 2))) ∧ x2 = (-1)) ∨ ((x3 + 3) ≤ (G 0 (G 606 a0 0) 1) ∧ x3 < ((G 607 a0 0) * 3) ∧ ((G 1 (G 606 a0 0) (x3 + 1)) ≤ p1 ∧ p1 ≤ (G 1 (G 606 a0 0) (x3 + 2))) ∧ x2 ≠ (-1) ∧ x2 = (G 1 (G 606 a0 0) x3))) → EX e b m m_Thing_holderIn Z kc ks 63 [(2, a0), (0, p1), (0, x2), (0, x3)] [] G := by
    intro rJ23
    have h := hJ23 rJ23
    refine e_aload_n d_Thing_holderIn_63 rfl ?_
    refine gf_Thing_43 d_Thing_holderIn_64 rfl t0 ?_
    refine e_iload_n d_Thing_holderIn_67 rfl ?_
    obtain ⟨o24, o25, o26, h⟩ := h
    refine e_iald d_Thing_holderIn_68 o24 o25 o26 ?_
    refine e_goto (tgt := 74) d_Thing_holderIn_69 (by decide) ?_
    refine e_istore_n (ls' := [(2, a0), (0, p1), (0, (G 1 (G 606 a0 0) x3)), (0, x3)]) d_Thing_holderIn_74 (by decide) rfl ?_
    obtain ⟨o27, h⟩ := h
    refine e_iinc (ls' := [(2, a0), (0, p1), (0, (G 1 (G 606 a0 0) x3)), (0, (x3 + 3))]) d_Thing_holderIn_75 rfl (by decide) o27 rfl ?_
    refine e_goto (tgt := 4) d_Thing_holderIn_78 (by decide) ?_
    exact e_forget (ls' := [(2, a0), (0, p1), (0, (G 1 (G 606 a0 0) x3)), (0, (x3 + 3))]) ⟨Or.inr rfl, Or.inr rfl, Or.inr rfl, Or.inr rfl, trivial⟩ h
  refine e_iload_n d_Thing_holderIn_4 rfl ?_
  refine e_iconst d_Thing_holderIn_5 (by decide) ?_
  obtain ⟨o1, h⟩ := h
  refine e_iadd d_Thing_holderIn_6 o1 ?_
  refine e_aload_n d_Thing_holderIn_7 rfl ?_
  refine gf_Thing_43 d_Thing_holderIn_8 rfl t0 ?_
  obtain ⟨o2, h⟩ := h
  refine e_alen d_Thing_holderIn_11 o2 ?_
  refine e_icmp_gt (tgt := 81) d_Thing_holderIn_12 (by decide) (fun q3 => ?_) (fun q4 => ?_)
  · exact kJ28 (Or.inl q3)
  · have h := h q4
    refine e_iload_n d_Thing_holderIn_15 rfl ?_
    refine e_aload_n d_Thing_holderIn_16 rfl ?_
    refine gf_Thing_76 d_Thing_holderIn_17 rfl t0 ?_
    refine e_iconst d_Thing_holderIn_20 (by decide) ?_
    obtain ⟨o5, h⟩ := h
    refine e_imul d_Thing_holderIn_21 o5 ?_
    refine e_icmp_ge (tgt := 81) d_Thing_holderIn_22 (by decide) (fun q6 => ?_) (fun q7 => ?_)
    · exact kJ28 (Or.inr ⟨q4, q6⟩)
    · have h := h q7
      refine e_iload_n d_Thing_holderIn_25 rfl ?_
      refine e_aload_n d_Thing_holderIn_26 rfl ?_
      refine gf_Thing_43 d_Thing_holderIn_27 rfl t0 ?_
      refine e_iload_n d_Thing_holderIn_30 rfl ?_
      refine e_iconst d_Thing_holderIn_31 (by decide) ?_
      obtain ⟨o8, h⟩ := h
      refine e_iadd d_Thing_holderIn_32 o8 ?_
      obtain ⟨o9, o10, o11, h⟩ := h
      refine e_iald d_Thing_holderIn_33 o9 o10 o11 ?_
      refine e_aload_n d_Thing_holderIn_34 rfl ?_
      refine gf_Thing_43 d_Thing_holderIn_35 rfl t0 ?_
      refine e_iload_n d_Thing_holderIn_38 rfl ?_
      refine e_iconst d_Thing_holderIn_39 (by decide) ?_
      obtain ⟨o12, h⟩ := h
      refine e_iadd d_Thing_holderIn_40 o12 ?_
      obtain ⟨o13, o14, h⟩ := h
      refine e_iald d_Thing_holderIn_41 o9 o13 o14 ?_
      refine e_callSN m_C_within "MuseumFlight" lw_good d_Thing_holderIn_42 (k_C_within _) ⟨Nat.le_of_ble_eq_true rfl, Nat.le_of_ble_eq_true rfl⟩ w_1331 w_295 (args := [(0, p1), (0, (G 1 (G 606 a0 0) (x3 + 1))), (0, (G 1 (G 606 a0 0) (x3 + 2)))]) rfl rfl (Nat.le_of_ble_eq_true rfl) (kc' := kc) (ks' := ks) (mc := 0) (ms := 0) rfl rfl (c_C_within) (pureK ?_)
      refine e_if_eq (tgt := 75) d_Thing_holderIn_45 (by decide) (fun q15 => ?_) (fun q16 => ?_)
      · replace q15 := gb0.mp q15
        have h := h.1 q15
        refine e_iinc (ls' := [(2, a0), (0, p1), (0, x2), (0, (x3 + 3))]) d_Thing_holderIn_75 rfl (by decide) o1 rfl ?_
        refine e_goto (tgt := 4) d_Thing_holderIn_78 (by decide) ?_
        exact e_forget (ls' := [(2, a0), (0, p1), (0, x2), (0, (x3 + 3))]) ⟨Or.inr rfl, Or.inr rfl, Or.inr rfl, Or.inr rfl, trivial⟩ h
      · replace q16 := gb1.mp q16
        have h := h.2 q16
        refine e_iload_n d_Thing_holderIn_48 rfl ?_
        refine e_iconst d_Thing_holderIn_49 (by decide) ?_
        refine e_icmp_eq (tgt := 63) d_Thing_holderIn_50 (by decide) (fun q17 => ?_) (fun q18 => ?_)
        · exact kJ23 (Or.inl ⟨q4, q7, q16, q17⟩)
        · have h := h q18
          refine e_iload_n d_Thing_holderIn_53 rfl ?_
          refine e_aload_n d_Thing_holderIn_54 rfl ?_
          refine gf_Thing_43 d_Thing_holderIn_55 rfl t0 ?_
          refine e_iload_n d_Thing_holderIn_58 rfl ?_
          obtain ⟨o19, o20, h⟩ := h
          refine e_iald d_Thing_holderIn_59 o9 o19 o20 ?_
          refine e_icmp_ne (tgt := 72) d_Thing_holderIn_60 (by decide) (fun q21 => ?_) (fun q22 => ?_)
          · have h := h q21
            refine e_bipush d_Thing_holderIn_72 (by decide) (by decide) ?_
            refine e_istore_n (ls' := [(2, a0), (0, p1), (0, 100), (0, x3)]) d_Thing_holderIn_74 (by decide) rfl ?_
            refine e_iinc (ls' := [(2, a0), (0, p1), (0, 100), (0, (x3 + 3))]) d_Thing_holderIn_75 rfl (by decide) o1 rfl ?_
            refine e_goto (tgt := 4) d_Thing_holderIn_78 (by decide) ?_
            exact e_forget (ls' := [(2, a0), (0, p1), (0, 100), (0, (x3 + 3))]) ⟨Or.inr rfl, Or.inr rfl, Or.inr rfl, Or.inr rfl, trivial⟩ h
          · exact kJ23 (Or.inr ⟨q4, q7, q16, q18, q22⟩)
set_option maxRecDepth 20000 in
set_option maxHeartbeats 4000000 in
theorem sg_Thing_tellSeal_0 {e : gE} {b : Nat} {m : Int} {Z : Int → gH → Prop} {kc ks : Nat} {G : gH} {a0 p1 p2 : Int} (t0 : G 0 a0 0 = 10) (h : ((inI ((G 605 a0 0) - 1)) ∧ ((0 ≤ p1 ∧ p1 ≤ ((G 605 a0 0) - 1)) → ((0 ≤ p2 ∧ p2 ≤ 2) → (inI (p1 * 3)) ∧ ((inI ((p1 * 3) + p2)) ∧ ((100 ≤ G 0 (G 604 a0 0) 0 ∧ G 0 (G 604 a0 0) 0 ≤ 105) ∧ ((inI ((G 0 (G 604 a0 0) 1) - 1)) ∧ (((¬ (0 ≤ ((p1 * 3) + p2) ∧ ((p1 * 3) + p2) ≤ ((G 0 (G 604 a0 0) 1) - 1))) → Z (-1) G) ∧ ((0 ≤ ((p1 * 3) + p2) ∧ ((p1 * 3) + p2) ≤ ((G 0 (G 604 a0 0) 1) - 1)) → (G 0 (G 604 a0 0) 0 = 100) ∧ (0 ≤ ((p1 * 3) + p2)) ∧ (((p1 * 3) + p2) < G 0 (G 604 a0 0) 1) ∧ Z (G 1 (G 604 a0 0) ((p1 * 3) + p2)) G)))))))) ∧ ((((¬ (0 ≤ p1 ∧ p1 ≤ ((G 605 a0 0) - 1)))) ∨ ((0 ≤ p1 ∧ p1 ≤ ((G 605 a0 0) - 1)) ∧ (¬ (0 ≤ p2 ∧ p2 ≤ 2)))) → (100 ≤ G 0 (G 604 a0 0) 0 ∧ G 0 (G 604 a0 0) 0 ≤ 105) ∧ ((inI ((G 0 (G 604 a0 0) 1) - 1)) ∧ (((¬ (0 ≤ (-1) ∧ (-1) ≤ ((G 0 (G 604 a0 0) 1) - 1))) → Z (-1) G) ∧ ((0 ≤ (-1) ∧ (-1) ≤ ((G 0 (G 604 a0 0) 1) - 1)) → (G 0 (G 604 a0 0) 0 = 100) ∧ ((0 : Int) ≤ (-1)) ∧ ((-1) < G 0 (G 604 a0 0) 1) ∧ Z (G 1 (G 604 a0 0) (-1)) G))))) : EX e b m m_Thing_tellSeal Z kc ks 0 [(2, a0), (0, p1), (0, p2), (9, 0), (9, 0)] [] G := by
  obtain ⟨h, hJ6⟩ := h
  have kJ6 : (((¬ (0 ≤ p1 ∧ p1 ≤ ((G 605 a0 0) - 1)))) ∨ ((0 ≤ p1 ∧ p1 ≤ ((G 605 a0 0) - 1)) ∧ (¬ (0 ≤ p2 ∧ p2 ≤ 2)))) → EX e b m m_Thing_tellSeal Z kc ks 27 [(2, a0), (0, p1), (0, p2), (9, 0), (9, 0)] [] G := by
    intro rJ6
    have h := hJ6 rJ6
    refine e_iconst d_Thing_tellSeal_27 (by decide) ?_
    refine e_istore_n (ls' := [(2, a0), (0, p1), (0, p2), (0, 0), (9, 0)]) d_Thing_tellSeal_28 (by decide) rfl ?_
    refine e_iload_n d_Thing_tellSeal_29 rfl ?_
    refine e_if_eq (tgt := 41) d_Thing_tellSeal_30 (by decide) (fun q11 => ?_) (fun q12 => ?_)
    · refine e_iconst d_Thing_tellSeal_41 (by decide) ?_
      refine e_istore (ls' := [(2, a0), (0, p1), (0, p2), (0, 0), (0, (-1))]) d_Thing_tellSeal_42 (by decide) rfl ?_
      refine e_iload d_Thing_tellSeal_44 rfl ?_
      refine e_iconst d_Thing_tellSeal_46 (by decide) ?_
      refine e_aload_n d_Thing_tellSeal_47 rfl ?_
      refine gf_Thing_39 d_Thing_tellSeal_48 rfl t0 ?_
      obtain ⟨o20, h⟩ := h
      refine e_alen d_Thing_tellSeal_51 o20 ?_
      refine e_iconst d_Thing_tellSeal_52 (by decide) ?_
      obtain ⟨o21, h⟩ := h
      refine e_isub d_Thing_tellSeal_53 o21 ?_
      refine e_callSN m_C_within "MuseumFlight" lw_good d_Thing_tellSeal_54 (k_C_within _) ⟨Nat.le_of_ble_eq_true rfl, Nat.le_of_ble_eq_true rfl⟩ w_1331 w_295 (args := [(0, (-1)), (0, 0), (0, ((G 0 (G 604 a0 0) 1) - 1))]) rfl rfl (Nat.le_of_ble_eq_true rfl) (kc' := kc) (ks' := ks) (mc := 0) (ms := 0) rfl rfl (c_C_within) (pureK ?_)
      refine e_if_eq (tgt := 70) d_Thing_tellSeal_57 (by decide) (fun q22 => ?_) (fun q23 => ?_)
      · replace q22 := gb0.mp q22
        have h := h.1 q22
        refine e_iconst d_Thing_tellSeal_70 (by decide) ?_
        exact e_iret d_Thing_tellSeal_71 rfl h
      · replace q23 := gb1.mp q23
        have h := h.2 q23
        refine e_aload_n d_Thing_tellSeal_60 rfl ?_
        refine gf_Thing_39 d_Thing_tellSeal_61 rfl t0 ?_
        refine e_iload d_Thing_tellSeal_64 rfl ?_
        obtain ⟨o24, o25, o26, h⟩ := h
        refine e_iald d_Thing_tellSeal_66 o24 o25 o26 ?_
        refine e_goto (tgt := 71) d_Thing_tellSeal_67 (by decide) ?_
        exact e_iret d_Thing_tellSeal_71 rfl h
    · exact absurd q12 (by decide)
  refine e_iload_n d_Thing_tellSeal_0 rfl ?_
  refine e_iconst d_Thing_tellSeal_1 (by decide) ?_
  refine e_aload_n d_Thing_tellSeal_2 rfl ?_
  refine gf_Thing_59 d_Thing_tellSeal_3 rfl t0 ?_
  refine e_iconst d_Thing_tellSeal_6 (by decide) ?_
  obtain ⟨o1, h⟩ := h
  refine e_isub d_Thing_tellSeal_7 o1 ?_
  refine e_callSN m_C_within "MuseumFlight" lw_good d_Thing_tellSeal_8 (k_C_within _) ⟨Nat.le_of_ble_eq_true rfl, Nat.le_of_ble_eq_true rfl⟩ w_1331 w_295 (args := [(0, p1), (0, 0), (0, ((G 605 a0 0) - 1))]) rfl rfl (Nat.le_of_ble_eq_true rfl) (kc' := kc) (ks' := ks) (mc := 0) (ms := 0) rfl rfl (c_C_within) (pureK ?_)
  refine e_if_eq (tgt := 27) d_Thing_tellSeal_11 (by decide) (fun q2 => ?_) (fun q3 => ?_)
  · replace q2 := gb0.mp q2
    exact kJ6 (Or.inl q2)
  · replace q3 := gb1.mp q3
    have h := h q3
    refine e_iload_n d_Thing_tellSeal_14 rfl ?_
    refine e_iconst d_Thing_tellSeal_15 (by decide) ?_
    refine e_iconst d_Thing_tellSeal_16 (by decide) ?_
    refine e_callSN m_C_within "MuseumFlight" lw_good d_Thing_tellSeal_17 (k_C_within _) ⟨Nat.le_of_ble_eq_true rfl, Nat.le_of_ble_eq_true rfl⟩ w_1331 w_295 (args := [(0, p2), (0, 0), (0, 2)]) rfl rfl (Nat.le_of_ble_eq_true rfl) (kc' := kc) (ks' := ks) (mc := 0) (ms := 0) rfl rfl (c_C_within) (pureK ?_)
    refine e_if_eq (tgt := 27) d_Thing_tellSeal_20 (by decide) (fun q4 => ?_) (fun q5 => ?_)
    · replace q4 := gb0.mp q4
      exact kJ6 (Or.inr ⟨q3, q4⟩)
    · replace q5 := gb1.mp q5
      have h := h q5
      refine e_iconst d_Thing_tellSeal_23 (by decide) ?_
      refine e_goto (tgt := 28) d_Thing_tellSeal_24 (by decide) ?_
      refine e_istore_n (ls' := [(2, a0), (0, p1), (0, p2), (0, 1), (9, 0)]) d_Thing_tellSeal_28 (by decide) rfl ?_
      refine e_iload_n d_Thing_tellSeal_29 rfl ?_
      refine e_if_eq (tgt := 41) d_Thing_tellSeal_30 (by decide) (fun q7 => ?_) (fun q8 => ?_)
      · exact absurd q7 (by decide)
      · refine e_iload_n d_Thing_tellSeal_33 rfl ?_
        refine e_iconst d_Thing_tellSeal_34 (by decide) ?_
        obtain ⟨o9, h⟩ := h
        refine e_imul d_Thing_tellSeal_35 o9 ?_
        refine e_iload_n d_Thing_tellSeal_36 rfl ?_
        obtain ⟨o10, h⟩ := h
        refine e_iadd d_Thing_tellSeal_37 o10 ?_
        refine e_goto (tgt := 42) d_Thing_tellSeal_38 (by decide) ?_
        refine e_istore (ls' := [(2, a0), (0, p1), (0, p2), (0, 1), (0, ((p1 * 3) + p2))]) d_Thing_tellSeal_42 (by decide) rfl ?_
        refine e_iload d_Thing_tellSeal_44 rfl ?_
        refine e_iconst d_Thing_tellSeal_46 (by decide) ?_
        refine e_aload_n d_Thing_tellSeal_47 rfl ?_
        refine gf_Thing_39 d_Thing_tellSeal_48 rfl t0 ?_
        obtain ⟨o13, h⟩ := h
        refine e_alen d_Thing_tellSeal_51 o13 ?_
        refine e_iconst d_Thing_tellSeal_52 (by decide) ?_
        obtain ⟨o14, h⟩ := h
        refine e_isub d_Thing_tellSeal_53 o14 ?_
        refine e_callSN m_C_within "MuseumFlight" lw_good d_Thing_tellSeal_54 (k_C_within _) ⟨Nat.le_of_ble_eq_true rfl, Nat.le_of_ble_eq_true rfl⟩ w_1331 w_295 (args := [(0, ((p1 * 3) + p2)), (0, 0), (0, ((G 0 (G 604 a0 0) 1) - 1))]) rfl rfl (Nat.le_of_ble_eq_true rfl) (kc' := kc) (ks' := ks) (mc := 0) (ms := 0) rfl rfl (c_C_within) (pureK ?_)
        refine e_if_eq (tgt := 70) d_Thing_tellSeal_57 (by decide) (fun q15 => ?_) (fun q16 => ?_)
        · replace q15 := gb0.mp q15
          have h := h.1 q15
          refine e_iconst d_Thing_tellSeal_70 (by decide) ?_
          exact e_iret d_Thing_tellSeal_71 rfl h
        · replace q16 := gb1.mp q16
          have h := h.2 q16
          refine e_aload_n d_Thing_tellSeal_60 rfl ?_
          refine gf_Thing_39 d_Thing_tellSeal_61 rfl t0 ?_
          refine e_iload d_Thing_tellSeal_64 rfl ?_
          obtain ⟨o17, o18, o19, h⟩ := h
          refine e_iald d_Thing_tellSeal_66 o17 o18 o19 ?_
          refine e_goto (tgt := 71) d_Thing_tellSeal_67 (by decide) ?_
          exact e_iret d_Thing_tellSeal_71 rfl h
theorem c_C_given {e : gE} {b : Nat} {m : Int} {G : gH} {A : zA} {p1 : Int} (hR : zRel e b m G A) (hB : zB 512 A) (h0 : A 788 0 ≠ 1 → ∀ t, 0 ≤ t → t < A 785 0 → zIn A t → A 14 t = -1) : GX e b m m_C_given [(2, ((b : Int) + 1)), (0, p1)] G 0 0 (zCQ e b m G (zfGiven A p1, A)) := by
  refine GM.inv fun hF => ?_
  have hlo := fx_lo hF
  have hr := hR
  obtain ⟨T, Q, P, -, hT, -⟩ := hr
  obtain ⟨y1, y2, y3⟩ := zTa_p hT hB
  refine GM.ofEV (by decide) (Nat.le_of_ble_eq_true rfl) (sg_C_given_0 ⟨y1, y2, y3 p1, ?_⟩)
  rw [zTa_e hT]
  by_cases q : zTh A p1
  · obtain ⟨w1, -, -⟩ := hT.2.1 p1 q.1 q.2
    obtain ⟨⟨w2, w3⟩, -, -, -, -, -, -, -, w4, -⟩ := w1
    rw [if_pos q]
    refine ⟨fun _ => ⟨w2, w2, ?_, hR, zRf_r⟩, fun z => by omega⟩
    rw [w4]
    show zTau A p1 = zfGiven A p1
    unfold zTau zfGiven
    rw [if_pos q]
    have := h0
    by_cases z1 : 200 ≤ A 11 p1 ∧ A 11 p1 < 300
    · rw [if_pos z1, if_pos z1]
    · rw [if_neg z1, if_neg z1]
      by_cases z2 : zIn A p1
      · by_cases z3 : A 788 0 = 1
        · rw [if_pos z2, if_pos ⟨z3, z2⟩]
        · rw [if_pos z2, if_neg (fun z => z3 z.1), h0 z3 p1 q.1 q.2 z2]
      · rw [if_neg z2, if_neg (fun z => z2 z.2)]
  · rw [if_neg q]
    refine ⟨fun z => absurd rfl z, fun _ => ⟨?_, hR, zRf_r⟩⟩
    show -1 = zfGiven A p1
    unfold zfGiven
    rw [if_neg q]
theorem c_C_about {e : gE} {b : Nat} {m : Int} {G : gH} {A : zA} {p1 p2 : Int} (hR : zRel e b m G A) (hB : zB 512 A) : GX e b m m_C_about [(2, ((b : Int) + 1)), (0, p1), (0, p2)] G 0 0 (zCQ e b m G (zfAbout A p1 p2, A)) := by
  refine GM.inv fun hF => ?_
  have hlo := fx_lo hF
  have hr := hR
  obtain ⟨T, Q, P, -, hT, -⟩ := hr
  obtain ⟨y1, y2, y3⟩ := zTa_p hT hB
  refine GM.ofEV (by decide) (Nat.le_of_ble_eq_true rfl) (sg_C_about_0 ⟨y1, y2, y3 p1, ?_⟩)
  rw [zTa_e hT]
  by_cases q : zTh A p1
  · obtain ⟨⟨⟨w2, w3⟩, u1, u2, u3, u4, u5, u6, u7, -⟩, ⟨⟨u8, -⟩, -⟩, ⟨⟨u9, -⟩, -⟩⟩ := hT.2.1 p1 q.1 q.2
    rw [if_pos q]
    refine ⟨fun _ => ⟨w2, w2, ?_, hR, zRf_r⟩, fun z => by omega⟩
    show zTell G (T p1) p2 = zfAbout A p1 p2
    unfold zTell zfAbout
    rw [if_pos q, u2, u3, u4, u5, u6, u7, u8, u9]
  · rw [if_neg q]
    refine ⟨fun z => absurd rfl z, fun _ => ⟨?_, hR, zRf_r⟩⟩
    show -1 = zfAbout A p1 p2
    unfold zfAbout
    rw [if_neg q]
/-- a shelf shows a thing that there is -/
def zShw (A : zA) : Prop := ∀ s, zSh s → A 18 s = 2 → zTh A (A 21 s)
theorem c_C_worthIn {e : gE} {b : Nat} {m : Int} {G : gH} {A : zA} {p1 : Int} (hR : zRel e b m G A) (hB : zB 512 A) (hS : zShw A) : GX e b m m_C_worthIn [(2, ((b : Int) + 1)), (0, p1)] G 0 0 (zCQ e b m G (zfWorthIn A p1)) := by
  refine GM.inv fun hF => ?_
  have hlo := fx_lo hF
  have b0 : 0 ≤ A 785 0 ∧ A 785 0 ≤ 16 := hB 785 0
  have hr := hR
  obtain ⟨T, Q, P, ⟨-, -, r3, -⟩, hT, -⟩ := hr
  obtain ⟨y1, y2, y3⟩ := zTa_p hT hB
  refine GM.ofEV (by decide) (Nat.le_of_ble_eq_true rfl) (sg_C_worthIn_0 ⟨fun hs => ⟨hs, fun q => ⟨y1, y2, y3 _, ?_⟩, fun q => ?_⟩, fun q => ?_⟩)
  · rw [zTa_e hT]
    have hh := zHr_h r3 hB hs
    have b1 : 0 ≤ A 18 p1 ∧ A 18 p1 ≤ 2 := hB 18 p1
    have bs : 0 ≤ A 19 p1 ∧ A 19 p1 ≤ 3 := hB 19 p1
    have eh := (r3.1 p1 hs).2.2.1
    unfold zfHolds at eh
    rw [if_pos hs] at eh
    unfold zfWorthIn
    rw [if_pos hs]
    by_cases h1 : A 18 p1 = 1
    · rw [if_neg (by omega), if_pos h1] at eh
      rw [eh, if_neg (by omega), if_pos h1]
      exact ⟨fun z => absurd rfl z, fun _ => c_C_refuse hR hB (by decide)⟩
    · by_cases h0 : A 18 p1 = 0
      · rw [if_pos h0] at eh
        exact absurd eh q
      · rw [if_neg h0, if_neg h1] at eh
        have ht := hS p1 hs (by omega)
        obtain ⟨⟨⟨w2, w3⟩, u1, u2, u3, -⟩, -, -⟩ := hT.2.1 _ ht.1 ht.2
        rw [eh, if_pos ht, if_neg h1, if_neg h0]
        exact ⟨fun _ => ⟨w2, w2, u3, hR, zRf_r⟩, fun z => by omega⟩
  · have hh := zHr_h r3 hB hs
    have h0 : A 18 p1 = 0 := by
      rcases hh.2.2.mp q with z | z
      · exact z
      · have := hS p1 hs z.1; omega
    unfold zfWorthIn
    rw [if_pos hs, if_neg (by omega), if_pos h0]
    exact c_C_refuse hR hB (by decide)
  · unfold zfWorthIn
    rw [if_neg q]
    exact c_C_refuse hR hB (by decide)
theorem c_C_show {e : gE} {b : Nat} {m : Int} {G : gH} {A : zA} {p1 p2 : Int} (hR : zRel e b m G A) (hB : zB 512 A) : GX e b m m_C_show [(2, ((b : Int) + 1)), (0, p1), (0, p2)] G 0 0 (zCQ e b m G (zfShow A p1 p2)) := by
  refine GM.inv fun hF => ?_
  have hlo := fx_lo hF
  have hr := hR
  obtain ⟨T, Q, P, -, hT, -⟩ := hr
  obtain ⟨y1, y2, y3⟩ := zTa_p hT hB
  have e1 := zTa_e hT p2
  have t0 : zTh A p2 → T p2 ≠ 0 := fun q => by have := (hT.2.1 p2 q.1 q.2).1.1.2; omega
  refine GM.ofEV (by decide) (Nat.le_of_ble_eq_true rfl) (sg_C_show_0 ⟨fun hs q => ⟨y1, y2, y3 p2⟩, fun q => ?_, fun q => ?_⟩)
  · rw [e1] at q
    unfold zfShow
    rw [if_pos ?_]
    · exact c_C_refuse hR hB (by decide)
    · rcases q with q | q
      · exact Or.inl q
      · refine Or.inr ⟨q.2.1, fun z => ?_⟩
        have := q.2.2
        rw [if_pos z] at this
        exact t0 z this
  · rw [e1] at q
    have hs : zSh p1 := by rcases q with q | q <;> exact q.1
    refine ⟨hs, ?_⟩
    rintro _ rfl
    have qn : ¬ (¬ zSh p1 ∨ (p2 ≠ -1 ∧ ¬ zTh A p2)) := by
      rintro (z | z)
      · exact z hs
      · rcases q with q | q
        · exact z.1 q.2
        · have := q.2.2
          rw [if_neg z.2] at this
          exact this rfl
    have go : ∀ x v, x = (if p2 = -1 then 0 else 2) → v = (if p2 = -1 then 0 else 1) → zCQ e b m G (v, zU (zU A 18 p1 x) 21 p1 p2) v (gU G 1 ((b : Int) + 50) p1 p2) := by
      intro x v hx hv
      have qc : zCh ([18] ++ [21]) A (zU (zU A 18 p1 x) 21 p1 p2) := zCh_t zCh_u zCh_u
      refine zCQ_mk rfl ?_ (zRf_u (Or.inl (by omega)))
      refine zRel_st hR (zDyn_u (by omega) (by decide)) qc (by decide) (fun r1 r2 r3 r4 => ⟨zR1_A qc (by decide) (zR1_G zSx_u (by decide) r1), zR2_A qc (by decide) (zR2_G zSx_u (by decide) r2), ⟨fun s h2 => ?_, fun i i1 i2 => ?_⟩, zR4_A qc (by decide) (zR4_G zSx_u (by decide) r4)⟩)
      · have w := r3.1 s h2
        rw [gU_c _ (by decide), gU_c _ (by decide), zU_k (by decide), zU_k (by decide), zU_k (by decide), zU_k (by decide)]
        refine ⟨w.1, w.2.1, ?_, fun i i1 i2 => ?_⟩
        · by_cases z : s = p1
          · subst z
            rw [gU_eq]
            unfold zfHolds
            rw [if_pos h2, zU_k (by decide), zU_eq, zU_eq]
            subst hx
            by_cases y : p2 = -1
            · rw [if_pos y, if_pos rfl]; exact y
            · rw [if_neg y, if_neg (by decide), if_neg (by decide)]
          · rw [gU_j z]
            unfold zfHolds
            simp only [zU_i z]
            exact w.2.2.1
        · rw [gU_c _ (by decide), zU_k (by decide), zU_k (by decide)]
          exact w.2.2.2 i i1 i2
      · rw [gU_k (by decide), zU_k (by decide), zU_k (by decide)]
        exact r3.2 i i1 i2
    unfold zfShow
    rw [if_neg qn]
    have g1 := go (if p2 = -1 then 0 else 2) (if p2 = -1 then 0 else 1) rfl rfl
    refine ⟨fun z => ?_, fun z => ?_⟩
    · rw [if_neg z] at g1 ⊢
      rw [if_neg z] at g1 ⊢
      exact g1
    · rw [if_pos z] at g1 ⊢
      rw [if_pos z] at g1 ⊢
      exact g1
theorem zHold_b2 {A : zA} {t y : Int} (h : zB 512 A) (n : Int) (hn : 0 ≤ n) : zHold A t y n = -1 ∨ (0 ≤ zHold A t y n ∧ zHold A t y n ≤ 9) ∨ zHold A t y n = 100 := by
  refine zloopI (i := 0) (I := fun n => zHold A t y n = -1 ∨ (0 ≤ zHold A t y n ∧ zHold A t y n ≤ 9) ∨ zHold A t y n = 100) (P := fun _ => zHold A t y n = -1 ∨ (0 ≤ zHold A t y n ∧ zHold A t y n ≤ 9) ∨ zHold A t y n = 100) n hn (Or.inl rfl) ?_ (fun q => q) (fun j h1 h2 hi q => q)
  intro j h1 h2 hi
  have bw : 0 ≤ A 32 (6 * t + j) ∧ A 32 (6 * t + j) ≤ 9 := h 32 (6 * t + j)
  show zHold A t y (j + 1) = -1 ∨ (0 ≤ zHold A t y (j + 1) ∧ zHold A t y (j + 1) ≤ 9) ∨ zHold A t y (j + 1) = 100
  rw [zHold_s h1]
  (repeat' split) <;> omega
theorem c_Thing_holderIn {e : gE} {b : Nat} {m : Int} {G : gH} {A : zA} {a t y : Int} (hB : zB 512 A) (h0 : G 0 a 0 = 10) (hP : zPpR m G A t a) : GX e b m m_Thing_holderIn [(2, a), (0, y)] G 0 0 (fun v G1 => v = zHold A t y (A 13 t) ∧ G1 = G) := by
  obtain ⟨⟨p1, p2⟩, ⟨p3, p4⟩, p5⟩ := hP
  have bp : 0 ≤ A 13 t ∧ A 13 t ≤ 6 := hB 13 t
  refine GM.ofEV (by decide) (Nat.le_of_ble_eq_true rfl) (sg_Thing_holderIn_0 h0 ?_)
  have := zloop (P := fun i => EX e b m m_Thing_holderIn (fun v G1 => v = zHold A t y (A 13 t) ∧ G1 = G) 0 0 4 [(2, a), (0, y), (0, zHold A t y i), (0, 3 * i)] [] G) (i := 0) (A 13 t) bp.1 ?_ ?_
  · exact this
  · refine sg_Thing_holderIn_4 h0 ?_
    rw [p1, p3, p4]
    exact ⟨⟨by omega, by decide, fun _ => ⟨by omega, fun q => absurd q (by omega)⟩⟩, fun q => absurd q (by omega), fun _ => ⟨rfl, rfl⟩⟩
  · intro j j1 j2 st
    have w := p5 j j1 j2
    rw [zHold_s j1, show 3 * (j + 1) = 3 * j + 3 from by omega] at st
    refine sg_Thing_holderIn_4 h0 ?_
    rw [p1, p3, p4, w.1, w.2.1, w.2.2]
    refine ⟨⟨by omega, by decide, fun _ => ⟨by omega, fun _ => ⟨by omega, rfl, by omega, by omega, by omega, by omega, by omega, fun q => ?_, fun q1 q2 => ⟨by omega, by omega, fun q3 => ?_⟩⟩⟩⟩, fun q => ⟨rfl, by omega, by omega, by omega, ?_⟩, fun q => absurd q (by omega)⟩
    · rw [if_neg q] at st; exact st
    · rw [if_pos q1, if_neg (by omega)] at st; exact st
    · have q1 : A 33 (6 * t + j) ≤ y ∧ y ≤ A 34 (6 * t + j) := by rcases q with q | q <;> exact q.2.2.1
      rw [if_pos q1, if_pos (by omega)] at st
      exact st
set_option maxRecDepth 20000 in
set_option maxHeartbeats 4000000 in
theorem sg_C_holder_0 {e : gE} {b : Nat} {m : Int} {Z : Int → gH → Prop} {kc ks : Nat} {G : gH} {p1 p2 : Int} (h : (0 ≤ G 18 ((b : Int) + 2) 0 ∧ G 18 ((b : Int) + 2) 0 ≤ 16) ∧ ((G 0 ((b : Int) + 2) 0 = 1) ∧ ((0 ≤ p1 ∧ p1 < G 18 ((b : Int) + 2) 0 → G 0 (G 17 ((b : Int) + 2) 0) 0 = 103 ∧ G 18 ((b : Int) + 2) 0 ≤ G 0 (G 17 ((b : Int) + 2) 0) 1 ∧ G 0 (G 3 (G 17 ((b : Int) + 2) 0) p1) 0 = 10) ∧ ((((if 0 ≤ p1 ∧ p1 < G 18 ((b : Int) + 2) 0 then G 3 (G 17 ((b : Int) + 2) 0) p1 else 0) ≠ 0) → (G 0 (if 0 ≤ p1 ∧ p1 < G 18 ((b : Int) + 2) 0 then G 3 (G 17 ((b : Int) + 2) 0) p1 else 0) 0 = 10) ∧ GX e b m m_Thing_holderIn [(2, (if 0 ≤ p1 ∧ p1 < G 18 ((b : Int) + 2) 0 then G 3 (G 17 ((b : Int) + 2) 0) p1 else 0)), (0, p2)] G 0 0 (fun v8 G9 => Z v8 G9)) ∧ (((if 0 ≤ p1 ∧ p1 < G 18 ((b : Int) + 2) 0 then G 3 (G 17 ((b : Int) + 2) 0) p1 else 0) = 0) → Z (-1) G))))) : EX e b m m_C_holder Z kc ks 0 [(2, ((b : Int) + 1)), (0, p1), (0, p2), (9, 0)] [] G := by
  refine e_aload_n d_C_holder_0 rfl ?_
  refine e_iload_n d_C_holder_1 rfl ?_
  refine EV.inv fun hFf1 => ?_
  have f1 := (fx_ct 0 rfl hFf1).1
  obtain ⟨o2, o3, o4, h⟩ := h
  refine e_callV m_C_thingAt 11 lw_good d_C_holder_2 (k_C_thingAt _) ⟨Nat.le_of_ble_eq_true rfl, Nat.le_of_ble_eq_true rfl⟩ w_846 w_848 w_s24 (q_C _) rfl f1 (args := [(0, p1)]) rfl rfl (Nat.le_of_ble_eq_true rfl) (kc' := kc) (ks' := ks) (mc := 0) (ms := 0) rfl rfl (c_C_thingAt o2 o3 o4) (pureK ?_)
  refine e_astore_n (ls' := [(2, ((b : Int) + 1)), (0, p1), (0, p2), (2, (if 0 ≤ p1 ∧ p1 < G 18 ((b : Int) + 2) 0 then G 3 (G 17 ((b : Int) + 2) 0) p1 else 0))]) d_C_holder_5 (by decide) rfl ?_
  refine e_aload_n d_C_holder_6 rfl ?_
  refine e_ifnonnull (tgt := 14) d_C_holder_7 (by decide) (fun q5 => ?_) (fun q6 => ?_)
  · have h := h.1 q5
    refine e_aload_n d_C_holder_14 rfl ?_
    refine e_iload_n d_C_holder_15 rfl ?_
    obtain ⟨o7, h⟩ := h
    refine e_callV m_Thing_holderIn 9 lw_good d_C_holder_16 (k_Thing_holderIn _) ⟨Nat.le_of_ble_eq_true rfl, Nat.le_of_ble_eq_true rfl⟩ w_1327 w_1328 w_1329 (q_Thing _) rfl o7 (args := [(0, p2)]) rfl rfl (Nat.le_of_ble_eq_true rfl) (kc' := kc) (ks' := ks) (mc := 0) (ms := 0) rfl rfl h ?_
    intro v8 G9 h
    exact e_iret d_C_holder_19 rfl h
  · have h := h.2 q6
    refine e_iconst d_C_holder_10 (by decide) ?_
    refine e_goto (tgt := 19) d_C_holder_11 (by decide) ?_
    exact e_iret d_C_holder_19 rfl h
set_option maxRecDepth 20000 in
set_option maxHeartbeats 4000000 in
theorem sg_C_seal_0 {e : gE} {b : Nat} {m : Int} {Z : Int → gH → Prop} {kc ks : Nat} {G : gH} {p1 p2 p3 : Int} (h : (0 ≤ G 18 ((b : Int) + 2) 0 ∧ G 18 ((b : Int) + 2) 0 ≤ 16) ∧ ((G 0 ((b : Int) + 2) 0 = 1) ∧ ((0 ≤ p1 ∧ p1 < G 18 ((b : Int) + 2) 0 → G 0 (G 17 ((b : Int) + 2) 0) 0 = 103 ∧ G 18 ((b : Int) + 2) 0 ≤ G 0 (G 17 ((b : Int) + 2) 0) 1 ∧ G 0 (G 3 (G 17 ((b : Int) + 2) 0) p1) 0 = 10) ∧ ((((if 0 ≤ p1 ∧ p1 < G 18 ((b : Int) + 2) 0 then G 3 (G 17 ((b : Int) + 2) 0) p1 else 0) ≠ 0) → (G 0 (if 0 ≤ p1 ∧ p1 < G 18 ((b : Int) + 2) 0 then G 3 (G 17 ((b : Int) + 2) 0) p1 else 0) 0 = 10) ∧ GX e b m m_Thing_tellSeal [(2, (if 0 ≤ p1 ∧ p1 < G 18 ((b : Int) + 2) 0 then G 3 (G 17 ((b : Int) + 2) 0) p1 else 0)), (0, p2), (0, p3)] G 0 0 (fun v8 G9 => Z v8 G9)) ∧ (((if 0 ≤ p1 ∧ p1 < G 18 ((b : Int) + 2) 0 then G 3 (G 17 ((b : Int) + 2) 0) p1 else 0) = 0) → Z (-1) G))))) : EX e b m m_C_seal Z kc ks 0 [(2, ((b : Int) + 1)), (0, p1), (0, p2), (0, p3), (9, 0)] [] G := by
  refine e_aload_n d_C_seal_0 rfl ?_
  refine e_iload_n d_C_seal_1 rfl ?_
  refine EV.inv fun hFf1 => ?_
  have f1 := (fx_ct 0 rfl hFf1).1
  obtain ⟨o2, o3, o4, h⟩ := h
  refine e_callV m_C_thingAt 11 lw_good d_C_seal_2 (k_C_thingAt _) ⟨Nat.le_of_ble_eq_true rfl, Nat.le_of_ble_eq_true rfl⟩ w_846 w_848 w_s24 (q_C _) rfl f1 (args := [(0, p1)]) rfl rfl (Nat.le_of_ble_eq_true rfl) (kc' := kc) (ks' := ks) (mc := 0) (ms := 0) rfl rfl (c_C_thingAt o2 o3 o4) (pureK ?_)
  refine e_astore (ls' := [(2, ((b : Int) + 1)), (0, p1), (0, p2), (0, p3), (2, (if 0 ≤ p1 ∧ p1 < G 18 ((b : Int) + 2) 0 then G 3 (G 17 ((b : Int) + 2) 0) p1 else 0))]) d_C_seal_5 (by decide) rfl ?_
  refine e_aload d_C_seal_7 rfl ?_
  refine e_ifnonnull (tgt := 16) d_C_seal_9 (by decide) (fun q5 => ?_) (fun q6 => ?_)
  · have h := h.1 q5
    refine e_aload d_C_seal_16 rfl ?_
    refine e_iload_n d_C_seal_18 rfl ?_
    refine e_iload_n d_C_seal_19 rfl ?_
    obtain ⟨o7, h⟩ := h
    refine e_callV m_Thing_tellSeal 9 lw_good d_C_seal_20 (k_Thing_tellSeal _) ⟨Nat.le_of_ble_eq_true rfl, Nat.le_of_ble_eq_true rfl⟩ w_1348 w_1349 w_1350 (q_Thing _) rfl o7 (args := [(0, p2), (0, p3)]) rfl rfl (Nat.le_of_ble_eq_true rfl) (kc' := kc) (ks' := ks) (mc := 0) (ms := 0) rfl rfl h ?_
    intro v8 G9 h
    exact e_iret d_C_seal_23 rfl h
  · have h := h.2 q6
    refine e_iconst d_C_seal_12 (by decide) ?_
    refine e_goto (tgt := 23) d_C_seal_13 (by decide) ?_
    exact e_iret d_C_seal_23 rfl h
theorem c_C_holder {e : gE} {b : Nat} {m : Int} {G : gH} {A : zA} {p1 p2 : Int} (hR : zRel e b m G A) (hB : zB 512 A) : GX e b m m_C_holder [(2, ((b : Int) + 1)), (0, p1), (0, p2)] G 0 0 (zCQ e b m G (zfHolder A p1 p2, A)) := by
  refine GM.inv fun hF => ?_
  have hlo := fx_lo hF
  have hr := hR
  obtain ⟨T, Q, P, -, hT, -⟩ := hr
  obtain ⟨y1, y2, y3⟩ := zTa_p hT hB
  refine GM.ofEV (by decide) (Nat.le_of_ble_eq_true rfl) (sg_C_holder_0 ⟨y1, y2, y3 p1, ?_⟩)
  rw [zTa_e hT]
  by_cases q : zTh A p1
  · obtain ⟨⟨⟨w2, w3⟩, -⟩, -, w4⟩ := hT.2.1 p1 q.1 q.2
    rw [if_pos q]
    refine ⟨fun _ => ⟨w2, GM.mono (c_Thing_holderIn hB w2 w4) ?_⟩, fun z => by omega⟩
    rintro v G1 ⟨rfl, rfl⟩
    refine ⟨?_, hR, zRf_r⟩
    show _ = zfHolder A p1 p2
    unfold zfHolder
    rw [if_pos q]
  · rw [if_neg q]
    refine ⟨fun z => absurd rfl z, fun _ => ⟨?_, hR, zRf_r⟩⟩
    show -1 = zfHolder A p1 p2
    unfold zfHolder
    rw [if_neg q]
/-- each of a thing's seals has its place among all -/
theorem zRank_ex {A : zA} {t : Int} (n : Int) (hn : 0 ≤ n) : ∀ i, 0 ≤ i → i < zRank A t n → ∃ k, (0 ≤ k ∧ k < n) ∧ A 35 k = t ∧ zRank A t k = i := by
  refine zloopI (i := 0) (I := fun n => ∀ i, 0 ≤ i → i < zRank A t n → ∃ k, (0 ≤ k ∧ k < n) ∧ A 35 k = t ∧ zRank A t k = i) (P := fun _ => ∀ i, 0 ≤ i → i < zRank A t n → ∃ k, (0 ≤ k ∧ k < n) ∧ A 35 k = t ∧ zRank A t k = i) n hn ?_ ?_ (fun q => q) (fun j h1 h2 hi q => q)
  · intro i i1 i2
    have : zRank A t 0 = 0 := rfl
    omega
  · intro j h1 h2 hi i i1 i2
    rw [zRank_s h1] at i2
    by_cases q : i < zRank A t j
    · obtain ⟨k, hk, k2⟩ := hi i i1 q
      exact ⟨k, ⟨hk.1, by omega⟩, k2⟩
    · by_cases z : A 35 j = t
      · rw [if_pos z] at i2
        exact ⟨j, ⟨h1, by omega⟩, z, by omega⟩
      · rw [if_neg z] at i2
        omega
/-- what the i-th seal of a thing tells -/
noncomputable def zfSeal (A : zA) (t i w : Int) : Int := @dite _ (∃ v, zSealQ A t i w v) (Classical.propDecidable _) (fun h => Classical.choose h) (fun _ => -1)
theorem zfSeal_u {A : zA} {t i w v : Int} (hs : 0 ≤ A 794 0) (h : zSealQ A t i w v) : v = zfSeal A t i w := by
  have hx : ∃ v, zSealQ A t i w v := ⟨v, h⟩
  have e : zfSeal A t i w = Classical.choose hx := dif_pos hx
  rw [e]
  have h2 := Classical.choose_spec hx
  by_cases q : zTh A t ∧ 0 ≤ i ∧ 0 ≤ w ∧ w ≤ 2
  · by_cases q2 : zSeals A t ≤ i
    · rw [(h.2 q).1 q2, (h2.2 q).1 q2]
    · obtain ⟨k, hk, k1, k2⟩ := zRank_ex (A := A) (t := t) (A 794 0) hs i q.2.1 (by show i < zSeals A t; omega)
      rw [(h.2 q).2 k hk.1 hk.2 k1 k2, (h2.2 q).2 k hk.1 hk.2 k1 k2]
  · rw [h.1 q, h2.1 q]
theorem c_Thing_tellSeal {e : gE} {b : Nat} {m : Int} {G : gH} {A : zA} {a t i w : Int} (ht : zTh A t) (hs : 0 ≤ A 794 0) (hc : zSeals A t ≤ 1024) (h0 : G 0 a 0 = 10) (hS : zSlR m G A t a) : GX e b m m_Thing_tellSeal [(2, a), (0, i), (0, w)] G 0 0 (fun v G1 => v = zfSeal A t i w ∧ G1 = G) := by
  obtain ⟨⟨p1, p2⟩, ⟨p3, p4⟩, p5⟩ := hS
  have bs := zRkB (A := A) (t := t) hs
  have bs2 : 0 ≤ zSeals A t := bs.1
  have bl := zSL_b (zSeals A t) hc
  refine GM.ofEV (by decide) (Nat.le_of_ble_eq_true rfl) (sg_Thing_tellSeal_0 h0 ?_)
  rw [p1, p3, p4]
  have non : ¬ (0 ≤ i ∧ i < zSeals A t) ∨ ¬ (0 ≤ w ∧ w ≤ 2) → zSealQ A t i w (-1) := fun q => by
    refine ⟨fun _ => rfl, fun z => ⟨fun _ => rfl, fun k k1 k2 k3 k4 => ?_⟩⟩
    have := zRkM k1 k2 k3
    omega
  refine ⟨⟨by omega, fun q1 q2 => ⟨by omega, by omega, by decide, by omega, fun q => absurd q (by omega), fun _ => ⟨rfl, by omega, by omega, zfSeal_u hs ?_, rfl⟩⟩⟩, fun q => ⟨by decide, by omega, fun _ => ⟨zfSeal_u hs (non (by omega)), rfl⟩, fun z => absurd z.1 (by decide)⟩⟩
  obtain ⟨k, hk, k1, k2⟩ := zRank_ex (A := A) (t := t) (A 794 0) hs i q1.1 (by show i < zSeals A t; omega)
  have w5 := p5 k hk.1 hk.2 k1
  rw [k2] at w5
  refine ⟨fun z => absurd ⟨ht, q1.1, q2⟩ z, fun _ => ⟨fun z => by omega, fun l l1 l2 l3 l4 => ?_⟩⟩
  have el := zRank_i l1 hk.1 l3 k1 (l4.trans k2.symm)
  subst el
  unfold zSealOf
  have hw : w = 0 ∨ w = 1 ∨ w = 2 := by omega
  rcases hw with z | z | z <;> subst z
  · rw [if_pos rfl, show i * 3 + 0 = 3 * i from by omega]; exact w5.1
  · rw [if_neg (by decide), if_pos rfl, show i * 3 + 1 = 3 * i + 1 from by omega]; exact w5.2.1
  · rw [if_neg (by decide), if_neg (by decide), show i * 3 + 2 = 3 * i + 2 from by omega]; exact w5.2.2
theorem c_C_seal {e : gE} {b : Nat} {m : Int} {G : gH} {A : zA} {p1 p2 p3 : Int} (hR : zRel e b m G A) (hB : zB 512 A) (hc : ∀ t, zTh A t → zSeals A t ≤ 1024) : GX e b m m_C_seal [(2, ((b : Int) + 1)), (0, p1), (0, p2), (0, p3)] G 0 0 (zCQ e b m G (zfSeal A p1 p2 p3, A)) := by
  refine GM.inv fun hF => ?_
  have hlo := fx_lo hF
  have bs : 0 ≤ A 794 0 ∧ A 794 0 ≤ 16 * 512 + 32 := hB 794 0
  have hr := hR
  obtain ⟨T, Q, P, -, hT, -⟩ := hr
  obtain ⟨y1, y2, y3⟩ := zTa_p hT hB
  refine GM.ofEV (by decide) (Nat.le_of_ble_eq_true rfl) (sg_C_seal_0 ⟨y1, y2, y3 p1, ?_⟩)
  rw [zTa_e hT]
  by_cases q : zTh A p1
  · obtain ⟨⟨⟨w2, w3⟩, -⟩, w4, -⟩ := hT.2.1 p1 q.1 q.2
    rw [if_pos q]
    refine ⟨fun _ => ⟨w2, GM.mono (c_Thing_tellSeal q bs.1 (hc _ q) w2 w4) ?_⟩, fun z => by omega⟩
    rintro v G1 ⟨rfl, rfl⟩
    exact ⟨rfl, hR, zRf_r⟩
  · rw [if_neg q]
    refine ⟨fun z => absurd rfl z, fun _ => ⟨zfSeal_u bs.1 ⟨fun _ => rfl, fun z => absurd z.1 q⟩, hR, zRf_r⟩⟩
