/-! THE CLASS, 24: air -/
theorem zRkT_fw {e : gE} {b : Nat} {m : Int} {G G1 : gH} {S : List Nat} {A : zA} {T τ : Int → Int} (hT : ∀ a : Int, G 0 a 0 ≠ 0 → 0 < a ∧ a < G 9 0 0) (hlo : (b : Int) + 53 < m ∧ m + 45 < G 9 0 0) (w : zFW m S G G1) (hS : ∀ c ∈ [0, 1, 3, 592, 593, 594, 595, 596, 597, 598, 599, 600, 604, 605, 606, 607], c ∉ S) (h : zRkT e b m G A T τ) : zRkT e b m G1 A T τ := by
  have o : ∀ (c : Nat) (i j : Int), c ∈ [0, 1, 3, 592, 593, 594, 595, 596, 597, 598, 599, 600, 604, 605, 606, 607] → i < G 9 0 0 → G1 c i j = G c i j := fun c i j hc hi => w.2 c i j (by rintro rfl; exact absurd hc (by decide)) hi (fun z => hS c hc z.1)
  refine zRkT_fr h ⟨fun i j q => o 0 i j (by decide) (hT i q).2, ⟨w.2 _ _ _ (by decide) (by omega) (by omega), w.2 _ _ _ (by decide) (by omega) (by omega)⟩, fun q j => o 3 _ j (by decide) (hT _ (by omega)).2, fun t t1 t2 => ?_⟩
  obtain ⟨h1, h2, h3⟩ := h.2.1 t t1 t2
  have a1 := (hT (T t) (by have := h1.1.1; omega)).2
  have a2 := (hT _ (by have := h2.2.1.1; omega : G 0 (G 604 (T t) 0) 0 ≠ 0)).2
  have a3 := (hT _ (by have := h3.2.1.1; omega : G 0 (G 606 (T t) 0) 0 ≠ 0)).2
  refine ⟨fun c hc => o c _ _ ?_ a1, fun j => o 1 _ j (by decide) a2, fun j => o 1 _ j (by decide) a3⟩
  simp only [List.mem_cons, List.mem_nil_iff]
  omega
set_option maxRecDepth 20000 in
set_option maxHeartbeats 4000000 in
theorem sg_C_air_0 {e : gE} {b : Nat} {m : Int} {Z : Int → gH → Prop} {kc ks : Nat} {G : gH} {p1 p2 : Int} (h : (0 ≤ G 18 ((b : Int) + 19) 0 ∧ G 18 ((b : Int) + 19) 0 ≤ 5) ∧ ((G 0 ((b : Int) + 19) 0 = 1) ∧ ((0 ≤ p1 ∧ p1 < G 18 ((b : Int) + 19) 0 → G 0 (G 17 ((b : Int) + 19) 0) 0 = 103 ∧ G 18 ((b : Int) + 19) 0 ≤ G 0 (G 17 ((b : Int) + 19) 0) 1 ∧ G 0 (G 3 (G 17 ((b : Int) + 19) 0) p1) 0 = 5) ∧ ((((if 0 ≤ p1 ∧ p1 < G 18 ((b : Int) + 19) 0 then G 3 (G 17 ((b : Int) + 19) 0) p1 else 0) ≠ 0) → ((if zHr b G p2 then G 3 ((b : Int) + 33) p2 else 0) ≠ 0 → (G 0 (if 0 ≤ p1 ∧ p1 < G 18 ((b : Int) + 19) 0 then G 3 (G 17 ((b : Int) + 19) 0) p1 else 0) 0 = 5) ∧ GX e b m m_Place_takeAir [(2, (if 0 ≤ p1 ∧ p1 < G 18 ((b : Int) + 19) 0 then G 3 (G 17 ((b : Int) + 19) 0) p1 else 0)), (2, (if zHr b G p2 then G 3 ((b : Int) + 33) p2 else 0))] G 0 0 (fun v11 G12 => Z v11 G12)) ∧ ((if zHr b G p2 then G 3 ((b : Int) + 33) p2 else 0) = 0 → GX e b m m_C_refuse [(2, ((b : Int) + 1)), (0, (zWhy b G p2 p2 p2))] G 0 0 (fun v15 G16 => Z v15 G16))) ∧ (((if 0 ≤ p1 ∧ p1 < G 18 ((b : Int) + 19) 0 then G 3 (G 17 ((b : Int) + 19) 0) p1 else 0) = 0) → GX e b m m_C_refuse [(2, ((b : Int) + 1)), (0, (-1))] G 0 0 (fun v18 G19 => Z v18 G19)))))) : EX e b m m_C_air Z kc ks 0 [(2, ((b : Int) + 1)), (0, p1), (0, p2), (9, 0), (9, 0)] [] G := by
  refine e_aload_n d_C_air_0 rfl ?_
  refine gx_C_37 d_C_air_1 rfl ?_
  refine e_iload_n d_C_air_4 rfl ?_
  refine EV.inv fun hFf1 => ?_
  have f1 := (fx_ct 17 rfl hFf1).1
  obtain ⟨o2, o3, o4, h⟩ := h
  refine e_callV m_Years_placeAt 10 lw_good d_C_air_5 (k_Years_placeAt _) ⟨Nat.le_of_ble_eq_true rfl, Nat.le_of_ble_eq_true rfl⟩ w_1048 w_1049 w_1050 (q_Years _) rfl f1 (args := [(0, p1)]) rfl rfl (Nat.le_of_ble_eq_true rfl) (kc' := kc) (ks' := ks) (mc := 0) (ms := 0) rfl rfl (c_Years_placeAt o2 o3 o4) (pureK ?_)
  refine e_astore_n (ls' := [(2, ((b : Int) + 1)), (0, p1), (0, p2), (2, (if 0 ≤ p1 ∧ p1 < G 18 ((b : Int) + 19) 0 then G 3 (G 17 ((b : Int) + 19) 0) p1 else 0)), (9, 0)]) d_C_air_8 (by decide) rfl ?_
  refine e_aload_n d_C_air_9 rfl ?_
  refine e_ifnonnull (tgt := 19) d_C_air_10 (by decide) (fun q5 => ?_) (fun q6 => ?_)
  · have h := h.1 q5
    refine e_aload_n d_C_air_19 rfl ?_
    refine e_iload_n d_C_air_20 rfl ?_
    refine EV.inv fun hFf7 => ?_
    have f7 := (fx_ct 0 rfl hFf7).1
    refine e_callV m_C_rowIn 11 lw_good d_C_air_21 (k_C_rowIn _) ⟨Nat.le_of_ble_eq_true rfl, Nat.le_of_ble_eq_true rfl⟩ w_482 w_484 w_s7 (q_C _) rfl f7 (args := [(0, p2)]) rfl rfl (Nat.le_of_ble_eq_true rfl) (kc' := kc) (ks' := ks) (mc := 0) (ms := 0) rfl rfl (c_C_rowIn) (pureK ?_)
    refine e_astore (ls' := [(2, ((b : Int) + 1)), (0, p1), (0, p2), (2, (if 0 ≤ p1 ∧ p1 < G 18 ((b : Int) + 19) 0 then G 3 (G 17 ((b : Int) + 19) 0) p1 else 0)), (2, (if zHr b G p2 then G 3 ((b : Int) + 33) p2 else 0))]) d_C_air_24 (by decide) rfl ?_
    refine e_aload d_C_air_26 rfl ?_
    refine e_ifnonnull (tgt := 41) d_C_air_28 (by decide) (fun q8 => ?_) (fun q9 => ?_)
    · have h := h.1 q8
      refine e_aload_n d_C_air_41 rfl ?_
      refine e_aload d_C_air_42 rfl ?_
      obtain ⟨o10, h⟩ := h
      refine e_callV m_Place_takeAir 4 lw_good d_C_air_44 (k_Place_takeAir _) ⟨Nat.le_of_ble_eq_true rfl, Nat.le_of_ble_eq_true rfl⟩ w_1054 w_1055 w_1056 (q_Place _) rfl o10 (args := [(2, (if zHr b G p2 then G 3 ((b : Int) + 33) p2 else 0))]) rfl rfl (Nat.le_of_ble_eq_true rfl) (kc' := kc) (ks' := ks) (mc := 0) (ms := 0) rfl rfl h ?_
      intro v11 G12 h
      exact e_iret d_C_air_47 rfl h
    · have h := h.2 q9
      refine e_aload_n d_C_air_31 rfl ?_
      refine e_aload_n d_C_air_32 rfl ?_
      refine e_iload_n d_C_air_33 rfl ?_
      refine EV.inv fun hFf13 => ?_
      have f13 := (fx_ct 0 rfl hFf13).1
      refine e_callV m_C_whyNoRow 11 lw_good d_C_air_34 (k_C_whyNoRow _) ⟨Nat.le_of_ble_eq_true rfl, Nat.le_of_ble_eq_true rfl⟩ w_489 w_491 w_s8 (q_C _) rfl f13 (args := [(0, p2)]) rfl rfl (Nat.le_of_ble_eq_true rfl) (kc' := kc) (ks' := ks) (mc := 0) (ms := 0) rfl rfl (c_C_whyNoRow) (pureK ?_)
      refine EV.inv fun hFf14 => ?_
      have f14 := (fx_ct 0 rfl hFf14).1
      refine e_callV m_C_refuse 11 lw_good d_C_air_37 (k_C_refuse _) ⟨Nat.le_of_ble_eq_true rfl, Nat.le_of_ble_eq_true rfl⟩ w_297 w_299 w_s0 (q_C _) rfl f14 (args := [(0, (zWhy b G p2 p2 p2))]) rfl rfl (Nat.le_of_ble_eq_true rfl) (kc' := kc) (ks' := ks) (mc := 0) (ms := 0) rfl rfl h ?_
      intro v15 G16 h
      exact e_iret d_C_air_40 rfl h
  · have h := h.2 q6
    refine e_aload_n d_C_air_13 rfl ?_
    refine e_iconst d_C_air_14 (by decide) ?_
    refine EV.inv fun hFf17 => ?_
    have f17 := (fx_ct 0 rfl hFf17).1
    refine e_callV m_C_refuse 11 lw_good d_C_air_15 (k_C_refuse _) ⟨Nat.le_of_ble_eq_true rfl, Nat.le_of_ble_eq_true rfl⟩ w_297 w_299 w_s0 (q_C _) rfl f17 (args := [(0, (-1))]) rfl rfl (Nat.le_of_ble_eq_true rfl) (kc' := kc) (ks' := ks) (mc := 0) (ms := 0) rfl rfl h ?_
    intro v18 G19 h
    exact e_iret d_C_air_18 rfl h
set_option maxRecDepth 20000 in
set_option maxHeartbeats 4000000 in
theorem sg_Place_takeAir_0 {e : gE} {b : Nat} {m : Int} {Z : Int → gH → Prop} {kc ks : Nat} {G : gH} {a0 p1 : Int} (t0 : G 0 a0 0 = 5) (h : (G 0 (G 275 a0 0) 0 = 7) ∧ GX e b m m_Row_takeOver [(2, (G 275 a0 0)), (2, p1)] G 0 0 (fun _ G3 => (G3 0 a0 0 = 5) ∧ (G3 0 (G3 275 a0 0) 0 = 7) ∧ (G3 0 (G3 275 a0 0) 0 = 7) ∧ Z (G3 402 (G3 275 a0 0) 0) G3)) : EX e b m m_Place_takeAir Z kc ks 0 [(2, a0), (2, p1)] [] G := by
  refine e_aload_n d_Place_takeAir_0 rfl ?_
  refine gf_Place_22 d_Place_takeAir_1 rfl t0 ?_
  refine e_aload_n d_Place_takeAir_4 rfl ?_
  obtain ⟨o1, h⟩ := h
  refine e_callV m_Row_takeOver 6 lw_good d_Place_takeAir_5 (k_Row_takeOver _) ⟨Nat.le_of_ble_eq_true rfl, Nat.le_of_ble_eq_true rfl⟩ w_1058 w_1059 w_1060 (q_Row _) rfl o1 (args := [(2, p1)]) rfl rfl (Nat.le_of_ble_eq_true rfl) (kc' := kc) (ks' := ks) (mc := 0) (ms := 0) rfl rfl h ?_
  intro v2 G3 h
  refine e_aload_n d_Place_takeAir_8 rfl ?_
  obtain ⟨o4, h⟩ := h
  refine gf_Place_22 d_Place_takeAir_9 rfl o4 ?_
  obtain ⟨o5, o6, h⟩ := h
  refine e_callV m_Row_size 6 lw_good d_Place_takeAir_12 (k_Row_size _) ⟨Nat.le_of_ble_eq_true rfl, Nat.le_of_ble_eq_true rfl⟩ w_1063 w_1064 w_1065 (q_Row _) rfl o5 (args := []) rfl rfl (Nat.le_of_ble_eq_true rfl) (kc' := kc) (ks' := ks) (mc := 0) (ms := 0) rfl rfl (c_Row_size o6) (pureK ?_)
  exact e_iret d_Place_takeAir_15 rfl h
set_option maxRecDepth 20000 in
set_option maxHeartbeats 4000000 in
theorem sg_Row_takeOver_0 {e : gE} {b : Nat} {m : Int} {Z : Int → gH → Prop} {kc ks : Nat} {G : gH} {a0 p1 : Int} (t0 : G 0 a0 0 = 7) (h : (G 0 p1 0 = 7) ∧ (GX e b m m_Row_renew [(2, a0), (0, (G 401 p1 0)), (0, (G 402 p1 0))] G 0 0 (fun _ G3 => (G3 0 p1 0 = 7) ∧ ((G3 0 a0 0 = 7) ∧ ((G3 0 (G3 400 p1 0) 0 = 101) ∧ ((G3 0 (G3 400 a0 0) 0 = 101) ∧ (((b : Int) < (G3 400 a0 0)) ∧ ((0 ≤ (0 : Int) ∧ 0 ≤ (0 : Int) ∧ 0 ≤ (60 : Int) ∧ 0 + 60 ≤ G3 0 (G3 400 p1 0) 1 ∧ 0 + 60 ≤ G3 0 (G3 400 a0 0) 1) ∧ (∀ G10 : gH, G10 = gCp G3 2 (G3 400 p1 0) 0 (G3 400 a0 0) 0 60 → Z 0 G10))))))))) : EX e b m m_Row_takeOver Z kc ks 0 [(2, a0), (2, p1)] [] G := by
  refine e_aload_n d_Row_takeOver_0 rfl ?_
  refine e_aload_n d_Row_takeOver_1 rfl ?_
  obtain ⟨o1, h⟩ := h
  refine gf_Row_19 d_Row_takeOver_2 rfl o1 ?_
  refine e_aload_n d_Row_takeOver_5 rfl ?_
  refine gf_Row_32 d_Row_takeOver_6 rfl o1 ?_
  refine e_callV m_Row_renew 6 lw_good d_Row_takeOver_9 (k_Row_renew _) ⟨Nat.le_of_ble_eq_true rfl, Nat.le_of_ble_eq_true rfl⟩ w_1062 w_799 w_800 (q_Row _) rfl t0 (args := [(0, (G 401 p1 0)), (0, (G 402 p1 0))]) rfl rfl (Nat.le_of_ble_eq_true rfl) (kc' := kc) (ks' := ks) (mc := 0) (ms := 0) rfl rfl h ?_
  intro v2 G3 h
  refine e_aload_n d_Row_takeOver_12 rfl ?_
  obtain ⟨o4, h⟩ := h
  refine gf_Row_9 d_Row_takeOver_13 rfl o4 ?_
  refine e_iconst d_Row_takeOver_16 (by decide) ?_
  refine e_aload_n d_Row_takeOver_17 rfl ?_
  obtain ⟨o5, h⟩ := h
  refine gf_Row_9 d_Row_takeOver_18 rfl o5 ?_
  refine e_iconst d_Row_takeOver_21 (by decide) ?_
  refine e_bipush d_Row_takeOver_22 (by decide) (by decide) ?_
  obtain ⟨o6, o7, o8, o9, h⟩ := h
  refine e_copyl d_Row_takeOver_24 w_836 w_410 w_409 w_17 (by decide) (Nat.le_of_ble_eq_true rfl) (by first | simp | decide | exact Nat.le_of_ble_eq_true rfl) o6 o7 o8 o9.1 o9.2.1 o9.2.2.1 o9.2.2.2.1 o9.2.2.2.2 (fx_Cp (Or.inl (by decide))) ?_
  let G10 : gH := gCp G3 2 (G3 400 p1 0) 0 (G3 400 a0 0) 0 60
  have h := h G10 rfl
  exact e_vret d_Row_takeOver_27 rfl h
theorem zAL_st {e : gE} {b : Nat} {m : Int} {G : gH} {a tg n : Int} {f : Int → Int} (h : zAL e b m G a tg n f) : G 0 a 0 = 1 := h.1
theorem c_C_air {e : gE} {b : Nat} {m : Int} {G : gH} {A : zA} {p1 p2 : Int} (hR : zRel e b m G A) (hB : zB 512 A) (hS : zShw A) : GX e b m m_C_air [(2, ((b : Int) + 1)), (0, p1), (0, p2)] G 0 0 (zCQ e b m G (zfAir A p1 p2)) := by
  refine GM.tg fun hTg => GM.inv fun hF => ?_
  have hlo := fx_lo hF
  have hr := hR
  obtain ⟨T, Q, P, ⟨r1, r2, r3, r4⟩, hT, hQ, hP, hJ, hD⟩ := hr
  obtain ⟨x1, x2, x3⟩ := zPa_p hP hB
  refine GM.ofEV (by decide) (Nat.le_of_ble_eq_true rfl) (sg_C_air_0 ?_)
  rw [zPa_e hP]
  refine ⟨x1, x2, x3 p1, ?_⟩
  by_cases hp : 0 ≤ p1 ∧ p1 < A 787 0
  · have tp := hP.1.2.2.1 p1 hp.1 hp.2
    obtain ⟨⟨w1, w2, w3, w4⟩, ⟨a1, a2, a3, a4⟩, ⟨v1, v2, v3⟩, v4⟩ := hP.2.1 p1 hp.1 hp.2
    have p0 : P p1 ≠ 0 := by omega
    rw [if_pos hp]
    refine ⟨fun _ => ?_, fun z => absurd z p0⟩
    by_cases q : zSh p2 ∧ A 18 p2 = 1
    · obtain ⟨hs, h1⟩ := q
      have k := zHk r3 hB hS hs
      obtain ⟨y1, y2, y3, y4, y5⟩ := fx_row hF hs
      have w := r3.1 p2 hs
      have bs : 0 ≤ A 20 p2 ∧ A 20 p2 ≤ 60 := hB 20 p2
      have bo : 0 ≤ A 19 p2 ∧ A 19 p2 ≤ 3 := hB 19 p2
      rw [if_pos (k.1.mpr h1), y1, show zfAir A p1 p2 = (A 20 p2, zV (zU (zU A 26 p1 (A 20 p2)) 27 p1 (A 19 p2)) 28 (60 * p1) (60 * p1 + A 20 p2) (fun x => A 22 (x - 60 * p1 + 60 * p2))) from by unfold zfAir; rw [if_neg (show ¬ (¬ (0 ≤ p1 ∧ p1 < A 787 0) ∨ ¬ zSh p2) from fun z => z.elim (fun z => z hp) (fun z => z hs)), if_neg (show ¬ A 18 p2 = 2 by omega), if_neg (show ¬ A 18 p2 = 0 by omega)]]
      refine ⟨fun _ => ⟨tp, ?_⟩, fun z => by omega⟩
      refine GM.ofEV (by decide) (Nat.le_of_ble_eq_true rfl) (sg_Place_takeAir_0 tp ⟨a2, ?_⟩)
      refine GM.ofEV (by decide) (Nat.le_of_ble_eq_true rfl) (sg_Row_takeOver_0 a2 ⟨y2, ?_⟩)
      rw [w.1, w.2.1]
      refine GM.mono (c_Row_renew a2 bo bs ⟨v2, v3⟩ ⟨by omega, by omega⟩) ?_
      rintro _ G1 ⟨k1, k2, k3, k4⟩
      have o1 : ∀ (c : Nat) (i j : Int), i ≤ m + 45 → G1 c i j = G c i j := fun c i j hi => k4 c i j (by omega) (by omega)
      have o2 : ∀ (c : Nat) (i j : Int), c ≠ 401 → c ≠ 402 → c ≠ 2 → G1 c i j = G c i j := fun c i j c1 c2 c3 => k4 c i j (by omega) (by omega)
      rw [o2 0 _ _ (by decide) (by decide) (by decide), o2 0 _ _ (by decide) (by decide) (by decide), o2 400 _ _ (by decide) (by decide) (by decide), o2 400 _ _ (by decide) (by decide) (by decide), o2 0 _ _ (by decide) (by decide) (by decide), o2 0 _ _ (by decide) (by decide) (by decide), o2 0 _ _ (by decide) (by decide) (by decide), o2 0 _ _ (by decide) (by decide) (by decide), y3]
      refine ⟨y2, a2, y4, v2, by omega, ⟨by decide, by decide, by decide, by omega, by omega⟩, ?_⟩
      rintro G2 h2
      have o3 : ∀ (c : Nat) (i j : Int), ¬ (i = G 275 (P p1) 0 ∧ (c = 401 ∨ c = 402)) → ¬ (c = 2 ∧ i = G 400 (G 275 (P p1) 0) 0) → G2 c i j = G c i j := fun c i j c1 c2 => by
        rw [h2]
        unfold gCp
        rw [if_neg (fun z => c2 ⟨z.1, z.2.1⟩)]
        exact k4 c i j c1 c2
      have o4 : ∀ (c : Nat) (i j : Int), c ≠ 401 → c ≠ 402 → c ≠ 2 → G2 c i j = G c i j := fun c i j c1 c2 c3 => o3 c i j (by omega) (by omega)
      have ee : ∀ i, 0 ≤ i → i < 60 → G2 2 (G 400 (G 275 (P p1) 0) 0) i = A 22 (60 * p2 + i) := fun i i1 i2 => by
        rw [h2]
        unfold gCp
        rw [if_pos ⟨rfl, rfl, i1, by omega⟩, o1 _ _ _ (by omega)]
        have := w.2.2.2 i i1 i2
        rw [← this]
        congr 1
        omega
      have es : G2 401 (G 275 (P p1) 0) 0 = A 19 p2 := by rw [h2]; exact k1
      have ez : G2 402 (G 275 (P p1) 0) 0 = A 20 p2 := by rw [h2]; exact k2
      have fw : zFW m [401, 402, 2] G G2 := ⟨by rw [o4 9 _ _ (by decide) (by decide) (by decide)]; exact Int.le_refl _, fun c i j c9 i1 c1 => o3 c i j (fun z => c1 ⟨by rcases z.2 with y | y <;> rw [y] <;> decide, by omega⟩) (fun z => c1 ⟨by rw [z.1]; decide, by omega⟩)⟩
      have qc : zCh [26, 27, 28] A (zV (zU (zU A 26 p1 (A 20 p2)) 27 p1 (A 19 p2)) 28 (60 * p1) (60 * p1 + A 20 p2) (fun x => A 22 (x - 60 * p1 + 60 * p2))) := zCh_m (zCh_t (zCh_t zCh_u zCh_u) zCh_V) (by decide)
      have sx := zSx_fw hlo fw
      rw [o4 0 _ _ (by decide) (by decide) (by decide), o4 275 _ _ (by decide) (by decide) (by decide), o4 0 _ _ (by decide) (by decide) (by decide)]
      refine ⟨tp, a2, a2, ?_⟩
      refine zCQ_mk ez ⟨T, Q, P, ⟨zR1_A qc (by decide) (zR1_G sx (by simp) r1), zR2_A qc (by decide) (zR2_G sx (by simp) r2), zR3_A qc (by decide) (zR3_G sx (by simp) r3), zR4_A qc (by decide) (zR4_G sx (by simp) r4)⟩, ?_, zRkQ_A qc (by decide) (zRkQ_fw hTg hlo fw (by decide) hQ), ?_, zRkJ_A qc (by decide) (zRkJ_fw hTg hlo fw (by decide) hT hJ), zDst_fw hTg hlo fw (by decide) (zLs_0 hT hQ hP hJ) hD⟩ (zRf_fw hlo.2 fw)
      · rw [zTau_c qc (by decide)]
        exact zRkT_B qc (by decide) (zRkT_fw hTg hlo fw (by decide) hT)
      · have e787 : (zV (zU (zU A 26 p1 (A 20 p2)) 27 p1 (A 19 p2)) 28 (60 * p1) (60 * p1 + A 20 p2) (fun x => A 22 (x - 60 * p1 + 60 * p2))) 787 0 = A 787 0 := by rw [qc 787 (by decide)]
        refine ⟨by rw [e787]; exact zAL_fw hTg hlo (by decide) fw (by decide) (by decide) hP.1, fun p q1 q2 => ?_, fun j k j1 j2 k1 k2 => ?_⟩
        · rw [e787] at q2
          obtain ⟨⟨g1, g2, g3, g4⟩, ⟨f1, f2, f3, f4⟩, ⟨u1, u2, u3⟩, u4⟩ := hP.2.1 p q1 q2
          rw [o4 272 _ _ (by decide) (by decide) (by decide), o4 273 _ _ (by decide) (by decide) (by decide), o4 274 _ _ (by decide) (by decide) (by decide), o4 275 _ _ (by decide) (by decide) (by decide), o4 400 _ _ (by decide) (by decide) (by decide), o4 0 _ _ (by decide) (by decide) (by decide), o4 0 _ _ (by decide) (by decide) (by decide), o4 0 _ _ (by decide) (by decide) (by decide), qc 23 (by decide), qc 24 (by decide), qc 25 (by decide)]
          by_cases z : p = p1
          · subst z
            rw [es, ez, zV_k (by decide), zU_eq, zV_k (by decide), zU_k (by decide), zU_eq]
            refine ⟨⟨g1, g2, g3, g4⟩, ⟨f1, f2, rfl, rfl⟩, ⟨u1, u2, u3⟩, fun i i1 i2 => ?_⟩
            rw [ee i i1 (by omega), zV_in (by omega)]
            show A 22 (60 * p2 + i) = A 22 (60 * p + i - 60 * p + 60 * p2)
            congr 1
            omega
          · have n1 : G 275 (P p) 0 ≠ G 275 (P p1) 0 := fun y => z ((hP.2.2 p p1 q1 q2 hp.1 hp.2).2.1 y)
            have n2 : G 400 (G 275 (P p) 0) 0 ≠ G 400 (G 275 (P p1) 0) 0 := fun y => z ((hP.2.2 p p1 q1 q2 hp.1 hp.2).2.2 y)
            rw [o3 401 _ _ (fun y => n1 y.1) (by omega), o3 402 _ _ (fun y => n1 y.1) (by omega), zV_k (show (27 : Nat) ≠ 28 by decide), zU_i z, zU_k (show (27 : Nat) ≠ 26 by decide), zV_k (show (26 : Nat) ≠ 28 by decide), zU_k (show (26 : Nat) ≠ 27 by decide), zU_i z]
            have ba : 0 ≤ A 26 p ∧ A 26 p ≤ 60 := hB 26 p
            refine ⟨⟨g1, g2, g3, g4⟩, ⟨f1, f2, f3, f4⟩, ⟨u1, u2, u3⟩, fun i i1 i2 => ?_⟩
            rw [o3 2 _ _ (by omega) (fun y => n2 y.2), zV_out (by omega), zU_k (by decide), zU_k (by decide)]
            exact u4 i i1 i2
        · rw [e787] at j2 k2
          rw [o4 275 _ _ (by decide) (by decide) (by decide), o4 275 _ _ (by decide) (by decide) (by decide), o4 400 _ _ (by decide) (by decide) (by decide), o4 400 _ _ (by decide) (by decide) (by decide)]
          exact hP.2.2 j k j1 j2 k1 k2
    · have ew := zWhy_1 r3 hB hS q
      have hn : ¬ zHr b G p2 := fun z => q ⟨z.1, (zHk r3 hB hS z.1).1.mp z⟩
      rw [if_neg hn, ew]
      refine ⟨fun z => absurd rfl z, fun _ => ?_⟩
      unfold zfAir
      by_cases hs : zSh p2
      · have b1 : 0 ≤ A 18 p2 ∧ A 18 p2 ≤ 2 := hB 18 p2
        have n1 : A 18 p2 ≠ 1 := fun z => q ⟨hs, z⟩
        rw [if_pos hs, if_neg (show ¬ (¬ (0 ≤ p1 ∧ p1 < A 787 0) ∨ ¬ zSh p2) from fun z => z.elim (fun z => z hp) (fun z => z hs))]
        by_cases h2 : A 18 p2 = 2
        · rw [if_pos h2, if_pos h2]; exact c_C_refuse hR hB (by decide)
        · rw [if_neg h2, if_neg h2, if_pos (by omega)]; exact c_C_refuse hR hB (by decide)
      · rw [if_neg hs, if_pos (Or.inr hs)]; exact c_C_refuse hR hB (by decide)
  · rw [if_neg hp, show zfAir A p1 p2 = zNo A (-1) from by unfold zfAir; rw [if_pos (Or.inl hp)]]
    exact ⟨fun z => absurd rfl z, fun _ => c_C_refuse hR hB (by decide)⟩
