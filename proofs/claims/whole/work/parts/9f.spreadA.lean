/-! THE CLASS, 50: what the search for the spread changes -/
def zSF (b : Nat) (m : Int) (G G1 : gH) : Prop := G 9 0 0 ≤ G1 9 0 0 ∧ (G1 17 ((b : Int) + 24) 0 = G 17 ((b : Int) + 24) 0 ∨ G 9 0 0 ≤ G1 17 ((b : Int) + 24) 0) ∧ ∀ (c : Nat) (i j : Int), c ≠ 9 → i < G 9 0 0 → ¬ (i = (b : Int) + 24 ∧ (16 ≤ c ∧ c ≤ 18)) → ¬ (c = 3 ∧ i = G 17 ((b : Int) + 24) 0) → ¬ ((c = 1 ∨ c = 2) ∧ ((b : Int) + 25 ≤ i ∧ i ≤ (b : Int) + 32)) → G1 c i j = G c i j
theorem zSF_r {b : Nat} {m : Int} {G : gH} : zSF b m G G := ⟨Int.le_refl _, Or.inl rfl, fun _ _ _ _ _ _ _ _ => rfl⟩
theorem zSF_t {b : Nat} {m : Int} {G G1 G2 : gH} (h : zSF b m G G1) (h2 : zSF b m G1 G2) : zSF b m G G2 := by
  have e := h.2.1
  have e2 := h2.2.1
  have h1 := h.1
  refine ⟨Int.le_trans h.1 h2.1, by omega, fun c i j c9 i1 a2 a3 a4 => ?_⟩
  rw [h2.2.2 c i j c9 (by omega) a2 (by omega) a4, h.2.2 c i j c9 i1 a2 a3 a4]
theorem zSF_af {b : Nat} {m : Int} {G G1 : gH} (h : zAF ((b : Int) + 24) G G1) : zSF b m G G1 := ⟨h.1, h.2.1, fun c i j c9 i1 a2 a3 a4 => h.2.2 c i j c9 i1 (fun z => a2 ⟨z.1, by omega⟩) a3⟩
theorem zSF_sc {b : Nat} {m : Int} {G G1 : gH} (o : ∀ (c : Nat) (i j : Int), ¬ ((c = 1 ∨ c = 2) ∧ ((b : Int) + 25 ≤ i ∧ i ≤ (b : Int) + 32)) → G1 c i j = G c i j) : zSF b m G G1 := ⟨Int.le_of_eq (o 9 0 0 (by omega)).symm, Or.inl (o _ _ _ (by omega)), fun c i j c9 i1 a2 a3 a4 => o c i j a4⟩
theorem zSF_T {e : gE} {b : Nat} {m : Int} {G G1 : gH} {A : zA} {T τ : Int → Int} (hT : ∀ a : Int, G 0 a 0 ≠ 0 → 0 < a ∧ a < G 9 0 0) (hlo : (b : Int) + 53 < m ∧ m + 45 < G 9 0 0) (hD : zDst b G) (w : zSF b m G G1) (h : zRkT e b m G A T τ) : zRkT e b m G1 A T τ := by
  refine zRkT_fr h ⟨fun i j z => w.2.2 0 i j (by decide) (hT i z).2 (by omega) (by omega) (by omega), ⟨w.2.2 _ _ _ (by decide) (by omega) (by omega) (fun z => absurd z.1 (by decide)) (by omega), w.2.2 _ _ _ (by decide) (by omega) (by omega) (fun z => absurd z.1 (by decide)) (by omega)⟩, fun z j => ?_, fun t t1 t2 => ?_⟩
  · rcases h.1.2.2.2 with y | y
    · omega
    · exact w.2.2 3 _ j (by decide) (hT _ (by omega)).2 (by omega) (fun y => hD 2 24 (by decide) (by decide) (by decide) z y.2) (by omega)
  · obtain ⟨h1, h2, h3⟩ := h.2.1 t t1 t2
    have a1 := (hT (T t) (by have := h1.1.1; omega)).2
    have a2 := (hT _ (by have := h2.2.1.1; omega : G 0 (G 604 (T t) 0) 0 ≠ 0)).2
    have a3 := (hT _ (by have := h3.2.1.1; omega : G 0 (G 606 (T t) 0) 0 ≠ 0)).2
    have m1 := h1.1.2
    have m2 := h2.1.2
    have m3 := h3.1.2
    exact ⟨fun c hc => w.2.2 c _ _ (by omega) a1 (by omega) (by omega) (by omega), fun j => w.2.2 1 _ j (by decide) a2 (by omega) (by omega) (by omega), fun j => w.2.2 1 _ j (by decide) a3 (by omega) (by omega) (by omega)⟩
theorem zSF_L {e : gE} {b : Nat} {m : Int} {G G1 : gH} {k tg n : Int} {f : Int → Int} (hT : ∀ a : Int, G 0 a 0 ≠ 0 → 0 < a ∧ a < G 9 0 0) (hlo : (b : Int) + 53 < m ∧ m + 45 < G 9 0 0) (hD : zDst b G) (w : zSF b m G G1) (hk : zLs k) (q : k ≠ 24) (ht : tg ≠ 0) (h : zAL e b m G ((b : Int) + k) tg n f) : zAL e b m G1 ((b : Int) + k) tg n f := by
  refine zAL_fr ht h (fun i j z => w.2.2 0 i j (by decide) (hT i z).2 (by omega) (by omega) (by omega)) (w.2.2 _ _ _ (by decide) (by omega) (by omega) (fun z => absurd z.1 (by decide)) (by omega)) (w.2.2 _ _ _ (by decide) (by omega) (by omega) (fun z => absurd z.1 (by decide)) (by omega)) (fun z j => ?_)
  rcases h.2.2.2 with y | y
  · omega
  · exact w.2.2 3 _ j (by decide) (hT _ (by omega)).2 (by omega) (fun y => hD k 24 hk (by decide) q z y.2) (by omega)
theorem zSF_Q {e : gE} {b : Nat} {m : Int} {G G1 : gH} {A : zA} {T Q : Int → Int} (hT : ∀ a : Int, G 0 a 0 ≠ 0 → 0 < a ∧ a < G 9 0 0) (hlo : (b : Int) + 53 < m ∧ m + 45 < G 9 0 0) (hD : zDst b G) (w : zSF b m G G1) (h : zRkQ e b m G A T Q) : zRkQ e b m G1 A T Q := by
  refine ⟨zSF_L hT hlo hD w (by decide) (by decide) (by decide) h.1, fun k k1 k2 => ?_, h.2.2⟩
  have q := h.2.1 k k1 k2
  have hk := (hT (Q k) (by have := h.1.2.2.1 k k1 k2; omega)).2
  rw [w.2.2 528 _ _ (by decide) hk (by omega) (by omega) (by omega), w.2.2 529 _ _ (by decide) hk (by omega) (by omega) (by omega), w.2.2 530 _ _ (by decide) hk (by omega) (by omega) (by omega)]
  exact q
theorem zSF_P {e : gE} {b : Nat} {m : Int} {G G1 : gH} {A : zA} {P : Int → Int} (hT : ∀ a : Int, G 0 a 0 ≠ 0 → 0 < a ∧ a < G 9 0 0) (hlo : (b : Int) + 53 < m ∧ m + 45 < G 9 0 0) (hD : zDst b G) (w : zSF b m G G1) (h : zRkP e b m G A P) : zRkP e b m G1 A P := by
  have hl : ∀ c ∈ [0, 2, 272, 273, 274, 275, 400, 401, 402], c ≠ 9 ∧ c ≠ 3 := by decide
  have o : ∀ (c : Nat) (i j : Int), c ∈ [0, 2, 272, 273, 274, 275, 400, 401, 402] → m + 45 < i → i < G 9 0 0 → G1 c i j = G c i j := fun c i j hc hm hi => w.2.2 c i j (hl c hc).1 hi (fun z => by have := z.1; omega) (fun z => (hl c hc).2 z.1) (fun z => by have := z.2; omega)
  have a1 : ∀ p, 0 ≤ p → p < A 787 0 → P p < G 9 0 0 := fun p p1 p2 => (hT _ (by have := h.1.2.2.1 p p1 p2; omega)).2
  have a2 : ∀ p, 0 ≤ p → p < A 787 0 → G 275 (P p) 0 < G 9 0 0 := fun p p1 p2 => (hT _ (by have := (h.2.1 p p1 p2).2.1.2.1; omega)).2
  have a3 : ∀ p, 0 ≤ p → p < A 787 0 → G 400 (G 275 (P p) 0) 0 < G 9 0 0 := fun p p1 p2 => (hT _ (by have := (h.2.1 p p1 p2).2.2.1.2.1; omega)).2
  refine ⟨zSF_L hT hlo hD w (by decide) (by decide) (by decide) h.1, fun p p1 p2 => ?_, fun j k j1 j2 k1 k2 => ?_⟩
  · have q := h.2.1 p p1 p2
    have m1 := q.1.1
    have m2 := q.2.1.1
    have m3 := q.2.2.1.1
    rw [o 275 _ _ (by decide) m1 (a1 p p1 p2), o 400 _ _ (by decide) m2 (a2 p p1 p2), o 272 _ _ (by decide) m1 (a1 p p1 p2), o 273 _ _ (by decide) m1 (a1 p p1 p2), o 274 _ _ (by decide) m1 (a1 p p1 p2), o 0 _ _ (by decide) m2 (a2 p p1 p2), o 0 _ _ (by decide) m3 (a3 p p1 p2), o 0 _ _ (by decide) m3 (a3 p p1 p2), o 401 _ _ (by decide) m2 (a2 p p1 p2), o 402 _ _ (by decide) m2 (a2 p p1 p2)]
    exact ⟨q.1, q.2.1, q.2.2.1, fun i i1 i2 => by rw [o 2 _ _ (by decide) m3 (a3 p p1 p2)]; exact q.2.2.2 i i1 i2⟩
  · have m1 := (h.2.1 j j1 j2).1.1
    have m2 := (h.2.1 j j1 j2).2.1.1
    have m3 := (h.2.1 k k1 k2).1.1
    have m4 := (h.2.1 k k1 k2).2.1.1
    rw [o 275 _ _ (by decide) m1 (a1 j j1 j2), o 275 _ _ (by decide) m3 (a1 k k1 k2), o 400 _ _ (by decide) m2 (a2 j j1 j2), o 400 _ _ (by decide) m4 (a2 k k1 k2)]
    exact h.2.2 j k j1 j2 k1 k2
def zLq : List (Nat × Int) := [(16, 24), (17, 24), (18, 24)] ++ (List.range 8).map (fun i : Nat => ((1 : Nat), ((25 + i : Nat) : Int))) ++ (List.range 8).map (fun i : Nat => ((2 : Nat), ((25 + i : Nat) : Int))) ++ (List.range 54).map (fun i : Nat => ((3 : Nat), (i : Int)))
theorem zSF_x {b : Nat} {m : Int} {G G1 : gH} (hlo : (b : Int) + 53 < m ∧ m + 45 < G 9 0 0) (w : zSF b m G G1) : zSx b zLq G G1 := fun c k j c9 k0 k1 q => by
  have q2 : c ≠ 3 := fun z => q (List.mem_append_right _ (List.mem_map.mpr ⟨k.toNat, List.mem_range.mpr (show k.toNat < 54 by omega), by rw [z, show ((k.toNat : Nat) : Int) = k from by omega]⟩))
  refine w.2.2 c _ j c9 (by omega) (fun z => ?_) (fun z => q2 z.1) (fun z => ?_)
  · have hk : k = 24 := by have := z.1; omega
    have hc : c = 16 ∨ c = 17 ∨ c = 18 := by have := z.2; omega
    refine q (List.mem_append_left _ (List.mem_append_left _ (List.mem_append_left _ ?_)))
    rcases hc with hc | hc | hc <;> subst hk <;> subst hc <;> decide
  · have hk : 25 ≤ k ∧ k ≤ 32 := by have := z.2; omega
    refine q (List.mem_append_left _ ?_)
    rcases z.1 with y | y
    · exact List.mem_append_left _ (List.mem_append_right _ (List.mem_map.mpr ⟨(k - 25).toNat, List.mem_range.mpr (show (k - 25).toNat < 8 by omega), by rw [y, show ((25 + (k - 25).toNat : Nat) : Int) = k from by omega]⟩))
    · exact List.mem_append_right _ (List.mem_map.mpr ⟨(k - 25).toNat, List.mem_range.mpr (show (k - 25).toNat < 8 by omega), by rw [y, show ((25 + (k - 25).toNat : Nat) : Int) = k from by omega]⟩)
theorem zSF_rc {e : gE} {b : Nat} {m : Int} {G G1 : gH} {A : zA} {T Q P f : Int → Int} {n : Int} (hTg : ∀ a : Int, G 0 a 0 ≠ 0 → 0 < a ∧ a < G 9 0 0) (hF : gFix b m G) (hc : zRc e b m G A T Q P) (w : zSF b m G G1) (hl : zAL e b m G1 ((b : Int) + 24) 10 n f) (hd : zDst b G1) : zRc e b m G1 A T Q P ∧ zRf m G G1 := by
  have hlo := fx_lo hF
  obtain ⟨⟨r1, r2, r3, r4⟩, hT, hQ, hP, hJ, hD⟩ := hc
  have sx := zSF_x hlo w
  obtain ⟨⟨n1, f1, h1, h2⟩, ⟨n2, f2, h3⟩, ⟨n3, f3, h4⟩⟩ := hJ
  refine ⟨⟨⟨zR1_G sx (by decide +kernel) r1, zR2_G sx (by decide +kernel) r2, zR3_G sx ⟨by decide +kernel, by decide +kernel, by decide +kernel⟩ r3, zR4_G sx (by decide +kernel) r4⟩, zSF_T hTg hlo hD w hT, zSF_Q hTg hlo hD w hQ, zSF_P hTg hlo hD w hP, ⟨⟨n1, f1, zSF_L hTg hlo hD w (by decide) (by decide) (by decide) h1, fun q => ?_⟩, ⟨n2, f2, zSF_L hTg hlo hD w (by decide) (by decide) (by decide) h3⟩, ⟨n, f, hl⟩⟩, hd⟩, fun c i j c9 i1 i2 => ?_⟩
  · obtain ⟨J, O, w1, w2, w3⟩ := h2 q
    have eT : ∀ t, 0 ≤ t → t < A 785 0 → G1 603 (T t) 0 = G 603 (T t) 0 ∧ G1 602 (T t) 0 = G 602 (T t) 0 := fun t t1 t2 => by
      have := (hTg _ (by have := (hT.2.1 t t1 t2).1.1.1; omega : G 0 (T t) 0 ≠ 0)).2
      have m1 := (hT.2.1 t t1 t2).1.1.2
      exact ⟨w.2.2 603 _ _ (by decide) this (by omega) (by omega) (by omega), w.2.2 602 _ _ (by decide) this (by omega) (by omega) (by omega)⟩
    refine ⟨J, O, zEnum_congr w1 (fun _ _ _ => Iff.rfl) (fun t t1 t2 _ => by rw [(eT t t1 t2).1, (eT t t1 t2).2]), w2, fun t t1 t2 q2 => ?_⟩
    rw [(eT t t1 t2).1, (eT t t1 t2).2]
    exact w3 t t1 t2 q2
  · refine w.2.2 c i j c9 (by omega) (by omega) (fun z => ?_) (by omega)
    have x := fx_mt5 hF i1 i2
    have y := h4.2.2.2
    rw [← z.2] at y
    omega
set_option maxRecDepth 20000 in
set_option maxHeartbeats 4000000 in
theorem sg_Years_suits_0 {e : gE} {b : Nat} {m : Int} {Z : Int → gH → Prop} {kc ks : Nat} {G : gH} {p1 p2 : Int} (h : (G 0 p1 0 = 5) ∧ ((G 0 p1 0 = 5) ∧ ((G 0 (G 275 p1 0) 0 = 7) ∧ ((zEl G (G 275 p1 0)) ∧ ((0 ≤ G 401 (G 275 p1 0) 0 ∧ G 401 (G 275 p1 0) 0 < 4) ∧ (((zAo G (G 275 p1 0) (G 661 ((b : Int) + 18) 0)) = 1099511627776 → Z 0 G) ∧ ((zAo G (G 275 p1 0) (G 661 ((b : Int) + 18) 0)) ≠ 1099511627776 → (G 0 p2 0 = 10) ∧ ((G 0 p2 0 = 10) ∧ (GX e b m m_Years_farFromBand [(2, ((b : Int) + 18)), (1, (zAo G (G 275 p1 0) (G 661 ((b : Int) + 18) 0))), (0, (G 593 p2 0))] G 0 0 (fun v11 G12 => (v11 ≠ 0 → Z 0 G12) ∧ (v11 = 0 → Z 1 G12))))))))))) : EX e b m m_Years_suits Z kc ks 0 [(2, ((b : Int) + 18)), (2, p1), (2, p2), (9, 0), (9, 0)] [] G := by
  refine e_aload_n d_Years_suits_0 rfl ?_
  refine e_aload_n d_Years_suits_1 rfl ?_
  refine gx_Years_58 d_Years_suits_2 rfl ?_
  obtain ⟨o1, o2, o3, o4, o5, h⟩ := h
  refine e_callV m_Place_airOf 4 lw_good d_Years_suits_5 (k_Place_airOf _) ⟨Nat.le_of_ble_eq_true rfl, Nat.le_of_ble_eq_true rfl⟩ w_1156 w_1072 w_1073 (q_Place _) rfl o1 (args := [(0, (G 661 ((b : Int) + 18) 0))]) rfl rfl (Nat.le_of_ble_eq_true rfl) (kc' := kc) (ks' := ks) (mc := 0) (ms := 0) rfl rfl (c_Place_airOf o2 o3 o4 o5) (pureK ?_)
  refine e_lstore_n (ls' := [(2, ((b : Int) + 18)), (2, p1), (2, p2), (1, (zAo G (G 275 p1 0) (G 661 ((b : Int) + 18) 0))), (9, 0)]) d_Years_suits_8 (by decide) rfl ?_
  refine e_lload_n d_Years_suits_9 rfl ?_
  refine e_ldc2 1099511627776 d_Years_suits_10 (by decide) w_1157 ?_
  refine e_lcmp_eq (tgt := 33) d_Years_suits_13 d_Years_suits_14 (by decide) (fun q6 => ?_) (fun q7 => ?_)
  · have h := h.1 q6
    refine e_iconst d_Years_suits_33 (by decide) ?_
    exact e_zret .boolean d_Years_suits_34 rfl (by decide) h
  · have h := h.2 q7
    refine e_aload_n d_Years_suits_17 rfl ?_
    refine e_lload_n d_Years_suits_18 rfl ?_
    refine e_aload_n d_Years_suits_19 rfl ?_
    obtain ⟨o8, o9, h⟩ := h
    refine e_callV m_Thing_kind 9 lw_good d_Years_suits_20 (k_Thing_kind _) ⟨Nat.le_of_ble_eq_true rfl, Nat.le_of_ble_eq_true rfl⟩ w_1158 w_1139 w_1140 (q_Thing _) rfl o8 (args := []) rfl rfl (Nat.le_of_ble_eq_true rfl) (kc' := kc) (ks' := ks) (mc := 0) (ms := 0) rfl rfl (c_Thing_kind o9) (pureK ?_)
    refine EV.inv fun hFf10 => ?_
    have f10 := (fx_ct 17 rfl hFf10).1
    refine e_callV m_Years_farFromBand 10 lw_good d_Years_suits_23 (k_Years_farFromBand _) ⟨Nat.le_of_ble_eq_true rfl, Nat.le_of_ble_eq_true rfl⟩ w_1159 w_1161 w_s32 (q_Years _) rfl f10 (args := [(1, (zAo G (G 275 p1 0) (G 661 ((b : Int) + 18) 0))), (0, (G 593 p2 0))]) rfl rfl (Nat.le_of_ble_eq_true rfl) (kc' := kc) (ks' := ks) (mc := 0) (ms := 0) rfl rfl h ?_
    intro v11 G12 h
    refine e_if_ne (tgt := 33) d_Years_suits_26 (by decide) (fun q13 => ?_) (fun q14 => ?_)
    · have h := h.1 q13
      refine e_iconst d_Years_suits_33 (by decide) ?_
      exact e_zret .boolean d_Years_suits_34 rfl (by decide) h
    · have h := h.2 q14
      refine e_iconst d_Years_suits_29 (by decide) ?_
      refine e_goto (tgt := 34) d_Years_suits_30 (by decide) ?_
      exact e_zret .boolean d_Years_suits_34 rfl (by decide) h
theorem c_suits {e : gE} {b : Nat} {m : Int} {G : gH} {A : zA} {T Q P : Int → Int} {p t : Int} (hc : zRc e b m G A T Q P) (hB : zB 512 A) (hft : zFt A) (hp : 0 ≤ p ∧ p < A 787 0) (ht : zTh A t) : GX e b m m_Years_suits [(2, ((b : Int) + 18)), (2, P p), (2, T t)] G 0 0 (fun v G1 => ((v = 1 ∧ zGood A p (A 7 t)) ∨ (v = 0 ∧ ¬ zGood A p (A 7 t))) ∧ G1 = G) := by
  obtain ⟨⟨r1, r2, r3, r4⟩, hT, hQ, hP, hJ, hD⟩ := hc
  have q := hP.2.1 p hp.1 hp.2
  have q5 := hP.1.2.2.1 p hp.1 hp.2
  have tt := (hT.2.1 t ht.1 ht.2).1
  have bw : 0 ≤ A 791 0 ∧ A 791 0 ≤ 1000 := hB 791 0
  have bk : 0 ≤ A 7 t ∧ A 7 t ≤ 3 := hB 7 t
  have bo : 0 ≤ A 27 p ∧ A 27 p ≤ 3 := hB 27 p
  have bz : 0 ≤ A 26 p ∧ A 26 p ≤ 60 := hB 26 p
  refine GM.ofEV (by decide) (Nat.le_of_ble_eq_true rfl) (sg_Years_suits_0 ?_)
  rw [r4.2.1, zAo_e hP hB hp bw.1, tt.2.2.1, q.2.1.2.2.1]
  refine ⟨q5, q5, q.2.1.2.1, ⟨q.2.2.1.2.1, by rw [q.2.1.2.2.2, q.2.2.1.2.2]; exact bz.2⟩, ⟨bo.1, by omega⟩, fun z => ?_, fun z => ⟨tt.1.1, tt.1.1, ?_⟩⟩
  · refine ⟨Or.inr ⟨rfl, fun y => ?_⟩, rfl⟩
    have ai := zAir_b (A := A) (p := p) (w := A 791 0)
    rw [if_neg y.1] at z
    obtain ⟨a1, a2⟩ := ai
    omega
  · have nm : ¬ zMiss A p (A 791 0) := fun y => z (by rw [if_pos y])
    rw [if_neg nm]
    refine GM.mono (c_farFromBand r4 hB hft ⟨bk.1, by omega⟩ zAir_b) ?_
    rintro v G1 ⟨rfl, rfl⟩
    have hf := hft (A 7 t)
    refine ⟨fun y => ⟨Or.inr ⟨rfl, fun x => y ?_⟩, rfl⟩, fun y => ⟨Or.inl ⟨rfl, nm, ?_⟩, rfl⟩⟩
    · unfold zOff
      rw [if_neg (by omega), if_neg (by omega)]
    · unfold zOff at y
      (repeat' split at y) <;> omega
