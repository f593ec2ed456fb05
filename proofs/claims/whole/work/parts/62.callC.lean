/-! THE CLASS, 13: rows -/
theorem c_Row_renew {e : gE} {b : Nat} {m : Int} {G : gH} {a o n : Int} (h0 : G 0 a 0 = 7) (ho : 0 ≤ o ∧ o ≤ 3) (hn : 0 ≤ n ∧ n ≤ 60) (he : G 0 (G 400 a 0) 0 = 101 ∧ G 0 (G 400 a 0) 1 = 60) (hb : (b : Int) < a ∧ (b : Int) < G 400 a 0) : GX e b m m_Row_renew [(2, a), (0, o), (0, n)] G 0 0 (fun _ G1 => G1 401 a 0 = o ∧ G1 402 a 0 = n ∧ (∀ i, 0 ≤ i → i < 60 → G1 2 (G 400 a 0) i = 0) ∧ ∀ (c : Nat) (i j : Int), ¬ (i = a ∧ (c = 401 ∨ c = 402)) → ¬ (c = 2 ∧ i = G 400 a 0) → G1 c i j = G c i j) := by
  refine GM.ofEV (by decide) (Nat.le_of_ble_eq_true rfl) (sg_Row_renew_0 h0 ⟨fun q => absurd ho q, fun _ => ⟨hb.1, ?_⟩⟩)
  rintro _ rfl _ rfl
  have en : (if 0 < (if 60 < n then 60 else n) then (if 60 < n then 60 else n) else 0) = n := by (repeat' split) <;> omega
  rw [en]
  have t0 : gU (gU G 401 a 0 o) 402 a 0 n 0 (G 400 a 0) 0 = 101 := by rw [gU_c _ (by decide), gU_c _ (by decide)]; exact he.1
  have t1 : gU (gU G 401 a 0 o) 402 a 0 n 0 (G 400 a 0) 1 = 60 := by rw [gU_c _ (by decide), gU_c _ (by decide)]; exact he.2
  refine GM.mono (c_Arrays_fill_b t0 (by rw [t1]; decide) hb.2) ?_
  rintro v G1 ⟨k1, k2⟩
  rw [t1] at k2
  refine ⟨?_, ?_, k2, fun c i j c1 c2 => ?_⟩
  · rw [k1 _ _ _ (fun z => absurd z (by decide)), gU_c _ (by decide), gU_eq]
  · rw [k1 _ _ _ (fun z => absurd z (by decide)), gU_eq]
  · rw [k1 c i j (fun z y => c2 ⟨z, y⟩), gU_ne (fun z => c1 ⟨z.2.1, Or.inr z.1⟩), gU_ne (fun z => c1 ⟨z.2.1, Or.inl z.1⟩)]
theorem zR3_row {b : Nat} {G G1 : gH} {A B : zA} {s : Int} (h : zR3 b G A) (hs : zSh s) (q : zCh [18, 19, 20, 22] A B) (k : ∀ t, t ≠ s → B 18 t = A 18 t ∧ B 19 t = A 19 t ∧ B 20 t = A 20 t ∧ ∀ i, 0 ≤ i → i < 60 → B 22 (60 * t + i) = A 22 (60 * t + i)) (g : zSx b [(401, 34 + 2 * s), (402, 34 + 2 * s), (2, 35 + 2 * s), (1, 50)] G G1) (g50 : ∀ t, t ≠ s → G1 1 ((b : Int) + 50) t = G 1 ((b : Int) + 50) t) (n : G1 401 ((b : Int) + (34 + 2 * s)) 0 = B 19 s ∧ G1 402 ((b : Int) + (34 + 2 * s)) 0 = B 20 s ∧ G1 1 ((b : Int) + 50) s = zfHolds B s ∧ ∀ i, 0 ≤ i → i < 60 → G1 2 ((b : Int) + (35 + 2 * s)) i = B 22 (60 * s + i)) : zR3 b G1 B := by
  refine ⟨fun t ht => ?_, fun i i1 i2 => ?_⟩
  · by_cases z : t = s
    · rw [z]; exact n
    · have w := h.1 t ht
      have y := k t z
      rw [g 401 (34 + 2 * t) 0 (by decide) (by omega) (by omega) (by simp; omega), g 402 (34 + 2 * t) 0 (by decide) (by omega) (by omega) (by simp; omega), g50 t z, y.2.1, y.2.2.1]
      refine ⟨w.1, w.2.1, ?_, fun i i1 i2 => ?_⟩
      · unfold zfHolds at *
        rw [y.1, y.2.1, q 21 (by decide)]
        exact w.2.2.1
      · rw [g 2 (35 + 2 * t) i (by decide) (by omega) (by omega) (by simp; omega), y.2.2.2 i i1 i2]
        exact w.2.2.2 i i1 i2
  · rw [g 1 53 i (by decide) (by decide) (by decide) (by simp), q 39 (by decide)]
    exact h.2 i i1 i2
theorem zDyn_st {b : Nat} {m : Int} {G G1 : gH} (hlo : (b : Int) + 53 < m) (h : ∀ (c : Nat) (i j : Int), ¬ ((b : Int) ≤ i ∧ i ≤ (b : Int) + 53 ∧ ¬ (c = 0 ∨ c = 9 ∨ c = 16 ∨ c = 17 ∨ c = 18)) → G1 c i j = G c i j) : zDyn m G G1 := ⟨fun c i j q => h c i j (by omega), fun c i j q => h c i j (fun z => z.2.2 q)⟩
theorem zCh_V {A : zA} {k : Nat} {lo hi : Int} {f : Int → Int} : zCh [k] A (zV A k lo hi f) := fun k' h => funext fun i => zV_k (fun z => h (by rw [z]; exact List.mem_cons_self))
theorem c_C_row {e : gE} {b : Nat} {m : Int} {G : gH} {A : zA} {p1 p2 p3 : Int} (hR : zRel e b m G A) (hB : zB 512 A) : GX e b m m_C_row [(2, ((b : Int) + 1)), (0, p1), (0, p2), (0, p3)] G 0 0 (zCQ e b m G (zfRow A p1 p2 p3)) := by
  refine GM.inv fun hF => ?_
  have hlo := fx_lo hF
  refine GM.ofEV (by decide) (Nat.le_of_ble_eq_true rfl) (sg_C_row_0 ?_)
  unfold zfRow
  refine ⟨fun hs => ⟨fun q1 => ⟨fun q2 => ⟨fun q3 => ⟨hs, ?_⟩, fun q3 => ?_⟩, fun q2 => ?_⟩, fun q1 => ?_⟩, fun hs => ?_⟩
  · obtain ⟨x1, x2, x3, x4, x5⟩ := fx_row hF hs
    rw [x1, if_neg (fun z => z hs), if_neg (by omega), if_neg (by omega), if_neg (by omega)]
    refine ⟨x2, GM.mono (c_Row_renew x2 q2 ⟨q1, q3⟩ ⟨by rw [x3]; exact x4, by rw [x3]; exact x5⟩ ⟨by omega, by rw [x3]; omega⟩) ?_⟩
    rintro v G1 ⟨k1, k2, k3, k4⟩
    rw [x3] at k3 k4
    refine ⟨by omega, ?_⟩
    rintro _ rfl
    have qc : zCh [18, 19, 20, 22] A (zV (zU (zU (zU A 18 p1 1) 19 p1 p2) 20 p1 p3) 22 (60 * p1) (60 * p1 + 60) (fun _ => 0)) := zCh_m (zCh_t (zCh_t (zCh_t zCh_u zCh_u) zCh_u) zCh_V) (by decide)
    have qx : zSx b [(401, 34 + 2 * p1), (402, 34 + 2 * p1), (2, 35 + 2 * p1), (1, 50)] G (gU G1 1 ((b : Int) + 50) p1 (100 + p2)) := fun c k j c9 k0 kk hn => by
      simp only [List.mem_cons, List.mem_nil_iff, Prod.mk.injEq, or_false, not_or, not_and] at hn
      have e1 : gU G1 1 ((b : Int) + 50) p1 (100 + p2) c ((b : Int) + k) j = G1 c ((b : Int) + k) j := gU_ne (fun z => by have := hn.2.2.2 z.1; omega)
      rw [e1]
      refine k4 c _ j (fun z => ?_) (fun z => ?_)
      · rcases z.2 with y | y
        · have := hn.1 y; omega
        · have := hn.2.1 y; omega
      · have := hn.2.2.1 z.1; omega
    have o : ∀ (c : Nat) (i j : Int), ¬ (c = 1 ∧ i = (b : Int) + 50) → ¬ (i = (b : Int) + (34 + 2 * p1) ∧ (c = 401 ∨ c = 402)) → ¬ (c = 2 ∧ i = (b : Int) + (35 + 2 * p1)) → gU G1 1 ((b : Int) + 50) p1 (100 + p2) c i j = G c i j := fun c i j c1 c2 c3 => by rw [gU_ne (by omega), k4 c i j c2 c3]
    refine zCQ_mk rfl ?_ (fun c i j _ i1 i2 => o c i j (by omega) (by omega) (by omega))
    refine zRel_st hR (zDyn_st hlo.1 (fun c i j q => o c i j (by omega) (by omega) (by omega))) qc (by decide) (fun r1 r2 r3 r4 => ⟨zR1_A qc (by decide) (zR1_G qx (by simp) r1), zR2_A qc (by decide) (zR2_G qx (by simp) r2), zR3_row r3 hs qc (fun t z => ⟨?_, ?_, ?_, fun i i1 i2 => ?_⟩) qx (fun t z => ?_) ⟨?_, ?_, ?_, fun i i1 i2 => ?_⟩, zR4_A qc (by decide) (zR4_G qx (by simp) r4)⟩)
    · rw [zV_k (by decide), zU_k (by decide), zU_k (by decide), zU_i z]
    · rw [zV_k (by decide), zU_k (by decide), zU_i z, zU_k (by decide)]
    · rw [zV_k (by decide), zU_i z, zU_k (by decide), zU_k (by decide)]
    · rw [zV_out (by omega), zU_k (by decide), zU_k (by decide), zU_k (by decide)]
    · rw [gU_j z, k4 _ _ _ (by omega) (by omega)]
    · rw [gU_c _ (by decide), k1, zV_k (by decide), zU_k (by decide), zU_eq]
    · rw [gU_c _ (by decide), k2, zV_k (by decide), zU_eq]
    · rw [gU_eq]
      unfold zfHolds
      rw [if_pos hs, zV_k (by decide), zU_k (by decide), zU_k (by decide), zU_eq, zV_k (by decide), zU_k (by decide), zU_eq, if_neg (by decide), if_pos rfl]
    · rw [gU_c _ (by decide), zV_in (by omega)]
      exact k3 i i1 i2
  · rw [if_neg (fun z => z hs), if_neg (by omega), if_neg (by omega), if_pos (by omega)]; exact c_C_refuse hR hB (by decide)
  · rw [if_neg (fun z => z hs), if_neg (by omega), if_pos (by omega)]; exact c_C_refuse hR hB (by decide)
  · rw [if_neg (fun z => z hs), if_pos (by omega)]; exact c_C_refuse hR hB (by decide)
  · rw [if_pos hs]; exact c_C_refuse hR hB (by decide)
theorem zHk {b : Nat} {G : gH} {A : zA} {s : Int} (r3 : zR3 b G A) (hB : zB 512 A) (hS : zShw A) (hs : zSh s) : (zHr b G s ↔ A 18 s = 1) ∧ (zShT b G s ↔ A 18 s = 2) ∧ (zEm b G s ↔ A 18 s = 0) := by
  have h := zHr_h r3 hB hs
  have b1 : 0 ≤ A 18 s ∧ A 18 s ≤ 2 := hB 18 s
  refine ⟨⟨fun z => h.1.mp z.2, fun z => ⟨hs, h.1.mpr z⟩⟩, ⟨fun z => (h.2.1.mp z.2).1, fun z => ⟨hs, h.2.1.mpr ⟨z, ?_⟩⟩⟩, ⟨fun z => ?_, fun z => ⟨hs, h.2.2.mpr (Or.inl z)⟩⟩⟩
  · have := hS s hs z; omega
  · rcases h.2.2.mp z.2 with y | y
    · exact y
    · have := hS s hs y.1; omega
theorem zWhy_1 {b : Nat} {G : gH} {A : zA} {s : Int} (r3 : zR3 b G A) (hB : zB 512 A) (hS : zShw A) (hn : ¬ (zSh s ∧ A 18 s = 1)) : zWhy b G s s s = if zSh s then (if A 18 s = 2 then -2 else -3) else -1 := by
  unfold zWhy
  by_cases hs : zSh s
  · have b1 : 0 ≤ A 18 s ∧ A 18 s ≤ 2 := hB 18 s
    have k := zHk r3 hB hS hs
    have n1 : A 18 s ≠ 1 := fun z => hn ⟨hs, z⟩
    rw [if_neg (fun z => z ⟨hs, hs, hs⟩), if_pos hs]
    by_cases h2 : A 18 s = 2
    · rw [if_pos (Or.inl (k.2.1.mpr h2)), if_pos h2]
    · rw [if_neg (by rintro (z | z | z) <;> exact h2 (k.2.1.mp z)), if_neg h2, if_pos (Or.inl (k.2.2.mpr (by omega)))]
  · rw [if_pos (fun z => hs z.1), if_neg hs]
set_option maxRecDepth 20000 in
set_option maxHeartbeats 4000000 in
theorem sg_C_set_0 {e : gE} {b : Nat} {m : Int} {Z : Int → gH → Prop} {kc ks : Nat} {G : gH} {p1 p2 p3 : Int} (h : ((if zHr b G p1 then G 3 ((b : Int) + 33) p1 else 0) ≠ 0 → (G 0 (if zHr b G p1 then G 3 ((b : Int) + 33) p1 else 0) 0 = 7) ∧ ((G 0 (if zHr b G p1 then G 3 ((b : Int) + 33) p1 else 0) 0 = 7) ∧ ((zHs G (if zHr b G p1 then G 3 ((b : Int) + 33) p1 else 0) p2 → GX e b m m_Row_put [(2, (if zHr b G p1 then G 3 ((b : Int) + 33) p1 else 0)), (0, p2), (1, p3)] G 0 0 (fun _ G9 => Z 1 G9)) ∧ ((¬ (zHs G (if zHr b G p1 then G 3 ((b : Int) + 33) p1 else 0) p2)) → GX e b m m_C_refuse [(2, ((b : Int) + 1)), (0, (-5))] G 0 0 (fun v11 G12 => Z v11 G12))))) ∧ ((if zHr b G p1 then G 3 ((b : Int) + 33) p1 else 0) = 0 → GX e b m m_C_refuse [(2, ((b : Int) + 1)), (0, (zWhy b G p1 p1 p1))] G 0 0 (fun v15 G16 => Z v15 G16))) : EX e b m m_C_set Z kc ks 0 [(2, ((b : Int) + 1)), (0, p1), (0, p2), (1, p3), (9, 0), (9, 0)] [] G := by
  refine e_aload_n d_C_set_0 rfl ?_
  refine e_iload_n d_C_set_1 rfl ?_
  refine EV.inv fun hFf1 => ?_
  have f1 := (fx_ct 0 rfl hFf1).1
  refine e_callV m_C_rowIn 11 lw_good d_C_set_2 (k_C_rowIn _) ⟨Nat.le_of_ble_eq_true rfl, Nat.le_of_ble_eq_true rfl⟩ w_482 w_484 w_s7 (q_C _) rfl f1 (args := [(0, p1)]) rfl rfl (Nat.le_of_ble_eq_true rfl) (kc' := kc) (ks' := ks) (mc := 0) (ms := 0) rfl rfl (c_C_rowIn) (pureK ?_)
  refine e_astore (ls' := [(2, ((b : Int) + 1)), (0, p1), (0, p2), (1, p3), (9, 0), (2, (if zHr b G p1 then G 3 ((b : Int) + 33) p1 else 0))]) d_C_set_5 (by decide) rfl ?_
  refine e_aload d_C_set_7 rfl ?_
  refine e_ifnonnull (tgt := 22) d_C_set_9 (by decide) (fun q2 => ?_) (fun q3 => ?_)
  · have h := h.1 q2
    refine e_aload d_C_set_22 rfl ?_
    refine e_iload_n d_C_set_24 rfl ?_
    obtain ⟨o4, o5, h⟩ := h
    refine e_callV m_Row_has 6 lw_good d_C_set_25 (k_Row_has _) ⟨Nat.le_of_ble_eq_true rfl, Nat.le_of_ble_eq_true rfl⟩ w_810 w_513 w_514 (q_Row _) rfl o4 (args := [(0, p2)]) rfl rfl (Nat.le_of_ble_eq_true rfl) (kc' := kc) (ks' := ks) (mc := 0) (ms := 0) rfl rfl (c_Row_has o5) (pureK ?_)
    refine e_if_ne (tgt := 38) d_C_set_28 (by decide) (fun q6 => ?_) (fun q7 => ?_)
    · replace q6 := gb1.mp q6
      have h := h.1 q6
      refine e_aload d_C_set_38 rfl ?_
      refine e_iload_n d_C_set_40 rfl ?_
      refine e_lload_n d_C_set_41 rfl ?_
      refine e_callV m_Row_put 6 lw_good d_C_set_42 (k_Row_put _) ⟨Nat.le_of_ble_eq_true rfl, Nat.le_of_ble_eq_true rfl⟩ w_811 w_812 w_813 (q_Row _) rfl o4 (args := [(0, p2), (1, p3)]) rfl rfl (Nat.le_of_ble_eq_true rfl) (kc' := kc) (ks' := ks) (mc := 0) (ms := 0) rfl rfl h ?_
      intro v8 G9 h
      refine e_iconst d_C_set_45 (by decide) ?_
      exact e_iret d_C_set_46 rfl h
    · replace q7 := gb0.mp q7
      have h := h.2 q7
      refine e_aload_n d_C_set_31 rfl ?_
      refine e_bipush d_C_set_32 (by decide) (by decide) ?_
      refine EV.inv fun hFf10 => ?_
      have f10 := (fx_ct 0 rfl hFf10).1
      refine e_callV m_C_refuse 11 lw_good d_C_set_34 (k_C_refuse _) ⟨Nat.le_of_ble_eq_true rfl, Nat.le_of_ble_eq_true rfl⟩ w_297 w_299 w_s0 (q_C _) rfl f10 (args := [(0, (-5))]) rfl rfl (Nat.le_of_ble_eq_true rfl) (kc' := kc) (ks' := ks) (mc := 0) (ms := 0) rfl rfl h ?_
      intro v11 G12 h
      exact e_iret d_C_set_37 rfl h
  · have h := h.2 q3
    refine e_aload_n d_C_set_12 rfl ?_
    refine e_aload_n d_C_set_13 rfl ?_
    refine e_iload_n d_C_set_14 rfl ?_
    refine EV.inv fun hFf13 => ?_
    have f13 := (fx_ct 0 rfl hFf13).1
    refine e_callV m_C_whyNoRow 11 lw_good d_C_set_15 (k_C_whyNoRow _) ⟨Nat.le_of_ble_eq_true rfl, Nat.le_of_ble_eq_true rfl⟩ w_489 w_491 w_s8 (q_C _) rfl f13 (args := [(0, p1)]) rfl rfl (Nat.le_of_ble_eq_true rfl) (kc' := kc) (ks' := ks) (mc := 0) (ms := 0) rfl rfl (c_C_whyNoRow) (pureK ?_)
    refine EV.inv fun hFf14 => ?_
    have f14 := (fx_ct 0 rfl hFf14).1
    refine e_callV m_C_refuse 11 lw_good d_C_set_18 (k_C_refuse _) ⟨Nat.le_of_ble_eq_true rfl, Nat.le_of_ble_eq_true rfl⟩ w_297 w_299 w_s0 (q_C _) rfl f14 (args := [(0, (zWhy b G p1 p1 p1))]) rfl rfl (Nat.le_of_ble_eq_true rfl) (kc' := kc) (ks' := ks) (mc := 0) (ms := 0) rfl rfl h ?_
    intro v15 G16 h
    exact e_iret d_C_set_21 rfl h
set_option maxRecDepth 20000 in
set_option maxHeartbeats 4000000 in
theorem sg_Row_put_0 {e : gE} {b : Nat} {m : Int} {Z : Int → gH → Prop} {kc ks : Nat} {G : gH} {a0 p1 p2 : Int} (t0 : G 0 a0 0 = 7) (h : (G 0 a0 0 = 7) ∧ (((¬ (zHs G a0 p1)) → Z 0 G) ∧ (zHs G a0 p1 → (G 0 (G 400 a0 0) 0 = 101) ∧ ((0 ≤ p1) ∧ ((p1 < G 0 (G 400 a0 0) 1) ∧ (((b : Int) < (G 400 a0 0)) ∧ (∀ G8 : gH, G8 = gU G 2 (G 400 a0 0) p1 (zLow (G 401 a0 0) p2) → Z 0 G8))))))) : EX e b m m_Row_put Z kc ks 0 [(2, a0), (0, p1), (1, p2), (9, 0)] [] G := by
  refine e_aload_n d_Row_put_0 rfl ?_
  refine e_iload_n d_Row_put_1 rfl ?_
  obtain ⟨o1, h⟩ := h
  refine e_callV m_Row_has 6 lw_good d_Row_put_2 (k_Row_has _) ⟨Nat.le_of_ble_eq_true rfl, Nat.le_of_ble_eq_true rfl⟩ w_523 w_513 w_514 (q_Row _) rfl t0 (args := [(0, p1)]) rfl rfl (Nat.le_of_ble_eq_true rfl) (kc' := kc) (ks' := ks) (mc := 0) (ms := 0) rfl rfl (c_Row_has o1) (pureK ?_)
  refine e_if_eq (tgt := 19) d_Row_put_5 (by decide) (fun q2 => ?_) (fun q3 => ?_)
  · replace q2 := gb0.mp q2
    have h := h.1 q2
    exact e_vret d_Row_put_19 rfl h
  · replace q3 := gb1.mp q3
    have h := h.2 q3
    refine e_aload_n d_Row_put_8 rfl ?_
    refine gf_Row_9 d_Row_put_9 rfl t0 ?_
    refine e_iload_n d_Row_put_12 rfl ?_
    refine e_aload_n d_Row_put_13 rfl ?_
    refine e_lload_n d_Row_put_14 rfl ?_
    refine e_callV m_Row_lowestBits 6 lw_good d_Row_put_15 (k_Row_lowestBits _) ⟨Nat.le_of_ble_eq_true rfl, Nat.le_of_ble_eq_true rfl⟩ w_815 w_817 w_s23 (q_Row _) rfl t0 (args := [(1, p2)]) rfl rfl (Nat.le_of_ble_eq_true rfl) (kc' := kc) (ks' := ks) (mc := 0) (ms := 0) rfl rfl (c_Row_lowestBits o1) (pureK ?_)
    obtain ⟨o4, o5, o6, o7, h⟩ := h
    refine e_last d_Row_put_18 o4 o5 o6 o7 (fx_U (by decide)) ?_
    let G8 : gH := gU G 2 (G 400 a0 0) p1 (zLow (G 401 a0 0) p2)
    have h := h G8 rfl
    exact e_vret d_Row_put_19 rfl h
set_option maxRecDepth 20000 in
set_option maxHeartbeats 4000000 in
theorem sg_Row_putPart_0 {e : gE} {b : Nat} {m : Int} {Z : Int → gH → Prop} {kc ks : Nat} {G : gH} {a0 p1 p2 p3 p4 : Int} (t0 : G 0 a0 0 = 7) (h : ((G 0 p2 0 = 7) ∧ ((G 0 p2 0 = 7) ∧ ((inL (p3 + p4)) ∧ ((0 ≤ p3 ∧ 0 ≤ p4 ∧ p3 + p4 ≤ G 402 p2 0) → (G 0 a0 0 = 7) ∧ ((inL (p1 + p4)) ∧ ((0 ≤ p1 ∧ 0 ≤ p4 ∧ p1 + p4 ≤ G 402 a0 0) → (G 0 (G 400 p2 0) 0 = 101) ∧ ((G 0 (G 400 a0 0) 0 = 101) ∧ (((b : Int) < (G 400 a0 0)) ∧ ((0 ≤ p3 ∧ 0 ≤ p1 ∧ 0 ≤ p4 ∧ p3 + p4 ≤ G 0 (G 400 p2 0) 1 ∧ p1 + p4 ≤ G 0 (G 400 a0 0) 1) ∧ (∀ G14 : gH, G14 = gCp G 2 (G 400 p2 0) p3 (G 400 a0 0) p1 p4 → Z 0 G14)))))))))) ∧ ((((¬ (0 ≤ p3 ∧ 0 ≤ p4 ∧ p3 + p4 ≤ G 402 p2 0))) ∨ ((0 ≤ p3 ∧ 0 ≤ p4 ∧ p3 + p4 ≤ G 402 p2 0) ∧ (¬ (0 ≤ p1 ∧ 0 ≤ p4 ∧ p1 + p4 ≤ G 402 a0 0)))) → Z 0 G)) : EX e b m m_Row_putPart Z kc ks 0 [(2, a0), (0, p1), (2, p2), (0, p3), (0, p4)] [] G := by
  obtain ⟨h, hJ15⟩ := h
  have kJ15 : (((¬ (0 ≤ p3 ∧ 0 ≤ p4 ∧ p3 + p4 ≤ G 402 p2 0))) ∨ ((0 ≤ p3 ∧ 0 ≤ p4 ∧ p3 + p4 ≤ G 402 p2 0) ∧ (¬ (0 ≤ p1 ∧ 0 ≤ p4 ∧ p1 + p4 ≤ G 402 a0 0)))) → EX e b m m_Row_putPart Z kc ks 35 [(2, a0), (0, p1), (2, p2), (0, p3), (0, p4)] [] G := by
    intro rJ15
    have h := hJ15 rJ15
    exact e_vret d_Row_putPart_35 rfl h
  refine e_aload_n d_Row_putPart_0 rfl ?_
  refine e_iload_n d_Row_putPart_1 rfl ?_
  refine e_iload d_Row_putPart_2 rfl ?_
  obtain ⟨o1, o2, o3, h⟩ := h
  refine e_callV m_Row_hasPart 6 lw_good d_Row_putPart_4 (k_Row_hasPart _) ⟨Nat.le_of_ble_eq_true rfl, Nat.le_of_ble_eq_true rfl⟩ w_835 w_828 w_829 (q_Row _) rfl o1 (args := [(0, p3), (0, p4)]) rfl rfl (Nat.le_of_ble_eq_true rfl) (kc' := kc) (ks' := ks) (mc := 0) (ms := 0) rfl rfl (c_Row_hasPart o2 o3) (pureK ?_)
  refine e_if_eq (tgt := 35) d_Row_putPart_7 (by decide) (fun q4 => ?_) (fun q5 => ?_)
  · replace q4 := gb0.mp q4
    exact kJ15 (Or.inl q4)
  · replace q5 := gb1.mp q5
    have h := h q5
    refine e_aload_n d_Row_putPart_10 rfl ?_
    refine e_iload_n d_Row_putPart_11 rfl ?_
    refine e_iload d_Row_putPart_12 rfl ?_
    obtain ⟨o6, o7, h⟩ := h
    refine e_callV m_Row_hasPart 6 lw_good d_Row_putPart_14 (k_Row_hasPart _) ⟨Nat.le_of_ble_eq_true rfl, Nat.le_of_ble_eq_true rfl⟩ w_835 w_828 w_829 (q_Row _) rfl t0 (args := [(0, p1), (0, p4)]) rfl rfl (Nat.le_of_ble_eq_true rfl) (kc' := kc) (ks' := ks) (mc := 0) (ms := 0) rfl rfl (c_Row_hasPart o6 o7) (pureK ?_)
    refine e_if_eq (tgt := 35) d_Row_putPart_17 (by decide) (fun q8 => ?_) (fun q9 => ?_)
    · replace q8 := gb0.mp q8
      exact kJ15 (Or.inr ⟨q5, q8⟩)
    · replace q9 := gb1.mp q9
      have h := h q9
      refine e_aload_n d_Row_putPart_20 rfl ?_
      refine gf_Row_9 d_Row_putPart_21 rfl o1 ?_
      refine e_iload_n d_Row_putPart_24 rfl ?_
      refine e_aload_n d_Row_putPart_25 rfl ?_
      refine gf_Row_9 d_Row_putPart_26 rfl t0 ?_
      refine e_iload_n d_Row_putPart_29 rfl ?_
      refine e_iload d_Row_putPart_30 rfl ?_
      obtain ⟨o10, o11, o12, o13, h⟩ := h
      refine e_copyl d_Row_putPart_32 w_836 w_410 w_409 w_17 (by decide) (Nat.le_of_ble_eq_true rfl) (by first | simp | decide | exact Nat.le_of_ble_eq_true rfl) o10 o11 o12 o13.1 o13.2.1 o13.2.2.1 o13.2.2.2.1 o13.2.2.2.2 (fx_Cp (Or.inl (by decide))) ?_
      let G14 : gH := gCp G 2 (G 400 p2 0) p3 (G 400 a0 0) p1 p4
      have h := h G14 rfl
      exact e_vret d_Row_putPart_35 rfl h
set_option maxRecDepth 20000 in
set_option maxHeartbeats 4000000 in
theorem sg_C_copy_0 {e : gE} {b : Nat} {m : Int} {Z : Int → gH → Prop} {kc ks : Nat} {G : gH} {p1 p2 p3 p4 p5 : Int} (h : ((zWhy b G p1 p2 p2) ≠ (-1) → ((zWhy b G p1 p2 p2) ≠ (-2) → ((if zHr b G p1 then G 3 ((b : Int) + 33) p1 else 0) ≠ 0 → ((if zHr b G p2 then G 3 ((b : Int) + 33) p2 else 0) ≠ 0 → (G 0 (if zHr b G p1 then G 3 ((b : Int) + 33) p1 else 0) 0 = 7) ∧ ((G 0 (if zHr b G p1 then G 3 ((b : Int) + 33) p1 else 0) 0 = 7) ∧ ((G 0 (if zHr b G p2 then G 3 ((b : Int) + 33) p2 else 0) 0 = 7) ∧ ((G 0 (if zHr b G p2 then G 3 ((b : Int) + 33) p2 else 0) 0 = 7) ∧ (((G 401 (if zHr b G p1 then G 3 ((b : Int) + 33) p1 else 0) 0) = (G 401 (if zHr b G p2 then G 3 ((b : Int) + 33) p2 else 0) 0) → (0 ≤ p5 → (inL (p3 + p5)) ∧ ((0 ≤ p3 ∧ 0 ≤ p5 ∧ p3 + p5 ≤ G 402 (if zHr b G p1 then G 3 ((b : Int) + 33) p1 else 0) 0) → (inL (p4 + p5)) ∧ ((0 ≤ p4 ∧ 0 ≤ p5 ∧ p4 + p5 ≤ G 402 (if zHr b G p2 then G 3 ((b : Int) + 33) p2 else 0) 0) → GX e b m m_Row_putPart [(2, (if zHr b G p2 then G 3 ((b : Int) + 33) p2 else 0)), (0, p4), (2, (if zHr b G p1 then G 3 ((b : Int) + 33) p1 else 0)), (0, p3), (0, p5)] G 0 0 (fun _ G27 => Z 1 G27)))) ∧ (p5 < 0 → GX e b m m_C_refuse [(2, ((b : Int) + 1)), (0, (-4))] G 0 0 (fun v29 G30 => Z v29 G30))) ∧ ((G 401 (if zHr b G p1 then G 3 ((b : Int) + 33) p1 else 0) 0) ≠ (G 401 (if zHr b G p2 then G 3 ((b : Int) + 33) p2 else 0) 0) → GX e b m m_C_refuse [(2, ((b : Int) + 1)), (0, (-2))] G 0 0 (fun v32 G33 => Z v32 G33)))))))))) ∧ (((zWhy b G p1 p2 p2) = (-1) ∨ ((zWhy b G p1 p2 p2) ≠ (-1) ∧ (zWhy b G p1 p2 p2) = (-2))) → GX e b m m_C_refuse [(2, ((b : Int) + 1)), (0, (zWhy b G p1 p2 p2))] G 0 0 (fun v36 G37 => Z v36 G37)) ∧ ((((zWhy b G p1 p2 p2) ≠ (-1) ∧ (zWhy b G p1 p2 p2) ≠ (-2) ∧ (if zHr b G p1 then G 3 ((b : Int) + 33) p1 else 0) = 0) ∨ ((zWhy b G p1 p2 p2) ≠ (-1) ∧ (zWhy b G p1 p2 p2) ≠ (-2) ∧ (if zHr b G p1 then G 3 ((b : Int) + 33) p1 else 0) ≠ 0 ∧ (if zHr b G p2 then G 3 ((b : Int) + 33) p2 else 0) = 0)) → GX e b m m_C_refuse [(2, ((b : Int) + 1)), (0, (-3))] G 0 0 (fun v40 G41 => Z v40 G41)) ∧ ((((zWhy b G p1 p2 p2) ≠ (-1) ∧ (zWhy b G p1 p2 p2) ≠ (-2) ∧ (if zHr b G p1 then G 3 ((b : Int) + 33) p1 else 0) ≠ 0 ∧ (if zHr b G p2 then G 3 ((b : Int) + 33) p2 else 0) ≠ 0 ∧ (G 401 (if zHr b G p1 then G 3 ((b : Int) + 33) p1 else 0) 0) = (G 401 (if zHr b G p2 then G 3 ((b : Int) + 33) p2 else 0) 0) ∧ 0 ≤ p5 ∧ (¬ (0 ≤ p3 ∧ 0 ≤ p5 ∧ p3 + p5 ≤ G 402 (if zHr b G p1 then G 3 ((b : Int) + 33) p1 else 0) 0))) ∨ ((zWhy b G p1 p2 p2) ≠ (-1) ∧ (zWhy b G p1 p2 p2) ≠ (-2) ∧ (if zHr b G p1 then G 3 ((b : Int) + 33) p1 else 0) ≠ 0 ∧ (if zHr b G p2 then G 3 ((b : Int) + 33) p2 else 0) ≠ 0 ∧ (G 401 (if zHr b G p1 then G 3 ((b : Int) + 33) p1 else 0) 0) = (G 401 (if zHr b G p2 then G 3 ((b : Int) + 33) p2 else 0) 0) ∧ 0 ≤ p5 ∧ (0 ≤ p3 ∧ 0 ≤ p5 ∧ p3 + p5 ≤ G 402 (if zHr b G p1 then G 3 ((b : Int) + 33) p1 else 0) 0) ∧ (¬ (0 ≤ p4 ∧ 0 ≤ p5 ∧ p4 + p5 ≤ G 402 (if zHr b G p2 then G 3 ((b : Int) + 33) p2 else 0) 0)))) → GX e b m m_C_refuse [(2, ((b : Int) + 1)), (0, (-5))] G 0 0 (fun v44 G45 => Z v44 G45))) : EX e b m m_C_copy Z kc ks 0 [(2, ((b : Int) + 1)), (0, p1), (0, p2), (0, p3), (0, p4), (0, p5), (9, 0), (9, 0), (9, 0)] [] G := by
  obtain ⟨h, hJ34, hJ38, hJ42⟩ := h
  have kJ42 : (((zWhy b G p1 p2 p2) ≠ (-1) ∧ (zWhy b G p1 p2 p2) ≠ (-2) ∧ (if zHr b G p1 then G 3 ((b : Int) + 33) p1 else 0) ≠ 0 ∧ (if zHr b G p2 then G 3 ((b : Int) + 33) p2 else 0) ≠ 0 ∧ (G 401 (if zHr b G p1 then G 3 ((b : Int) + 33) p1 else 0) 0) = (G 401 (if zHr b G p2 then G 3 ((b : Int) + 33) p2 else 0) 0) ∧ 0 ≤ p5 ∧ (¬ (0 ≤ p3 ∧ 0 ≤ p5 ∧ p3 + p5 ≤ G 402 (if zHr b G p1 then G 3 ((b : Int) + 33) p1 else 0) 0))) ∨ ((zWhy b G p1 p2 p2) ≠ (-1) ∧ (zWhy b G p1 p2 p2) ≠ (-2) ∧ (if zHr b G p1 then G 3 ((b : Int) + 33) p1 else 0) ≠ 0 ∧ (if zHr b G p2 then G 3 ((b : Int) + 33) p2 else 0) ≠ 0 ∧ (G 401 (if zHr b G p1 then G 3 ((b : Int) + 33) p1 else 0) 0) = (G 401 (if zHr b G p2 then G 3 ((b : Int) + 33) p2 else 0) 0) ∧ 0 ≤ p5 ∧ (0 ≤ p3 ∧ 0 ≤ p5 ∧ p3 + p5 ≤ G 402 (if zHr b G p1 then G 3 ((b : Int) + 33) p1 else 0) 0) ∧ (¬ (0 ≤ p4 ∧ 0 ≤ p5 ∧ p4 + p5 ≤ G 402 (if zHr b G p2 then G 3 ((b : Int) + 33) p2 else 0) 0)))) → EX e b m m_C_copy Z kc ks 115 [(2, ((b : Int) + 1)), (0, p1), (0, p2), (0, p3), (0, p4), (0, p5), (0, (zWhy b G p1 p2 p2)), (2, (if zHr b G p1 then G 3 ((b : Int) + 33) p1 else 0)), (2, (if zHr b G p2 then G 3 ((b : Int) + 33) p2 else 0))] [] G := by
    intro rJ42
    have h := hJ42 rJ42
    refine e_aload_n d_C_copy_115 rfl ?_
    refine e_bipush d_C_copy_116 (by decide) (by decide) ?_
    refine EV.inv fun hFf43 => ?_
    have f43 := (fx_ct 0 rfl hFf43).1
    refine e_callV m_C_refuse 11 lw_good d_C_copy_118 (k_C_refuse _) ⟨Nat.le_of_ble_eq_true rfl, Nat.le_of_ble_eq_true rfl⟩ w_297 w_299 w_s0 (q_C _) rfl f43 (args := [(0, (-5))]) rfl rfl (Nat.le_of_ble_eq_true rfl) (kc' := kc) (ks' := ks) (mc := 0) (ms := 0) rfl rfl h ?_
    intro v44 G45 h
    exact e_iret d_C_copy_121 rfl h
  have kJ38 : (((zWhy b G p1 p2 p2) ≠ (-1) ∧ (zWhy b G p1 p2 p2) ≠ (-2) ∧ (if zHr b G p1 then G 3 ((b : Int) + 33) p1 else 0) = 0) ∨ ((zWhy b G p1 p2 p2) ≠ (-1) ∧ (zWhy b G p1 p2 p2) ≠ (-2) ∧ (if zHr b G p1 then G 3 ((b : Int) + 33) p1 else 0) ≠ 0 ∧ (if zHr b G p2 then G 3 ((b : Int) + 33) p2 else 0) = 0)) → EX e b m m_C_copy Z kc ks 53 [(2, ((b : Int) + 1)), (0, p1), (0, p2), (0, p3), (0, p4), (0, p5), (0, (zWhy b G p1 p2 p2)), (2, (if zHr b G p1 then G 3 ((b : Int) + 33) p1 else 0)), (2, (if zHr b G p2 then G 3 ((b : Int) + 33) p2 else 0))] [] G := by
    intro rJ38
    have h := hJ38 rJ38
    refine e_aload_n d_C_copy_53 rfl ?_
    refine e_bipush d_C_copy_54 (by decide) (by decide) ?_
    refine EV.inv fun hFf39 => ?_
    have f39 := (fx_ct 0 rfl hFf39).1
    refine e_callV m_C_refuse 11 lw_good d_C_copy_56 (k_C_refuse _) ⟨Nat.le_of_ble_eq_true rfl, Nat.le_of_ble_eq_true rfl⟩ w_297 w_299 w_s0 (q_C _) rfl f39 (args := [(0, (-3))]) rfl rfl (Nat.le_of_ble_eq_true rfl) (kc' := kc) (ks' := ks) (mc := 0) (ms := 0) rfl rfl h ?_
    intro v40 G41 h
    exact e_iret d_C_copy_59 rfl h
  have kJ34 : ((zWhy b G p1 p2 p2) = (-1) ∨ ((zWhy b G p1 p2 p2) ≠ (-1) ∧ (zWhy b G p1 p2 p2) = (-2))) → EX e b m m_C_copy Z kc ks 22 [(2, ((b : Int) + 1)), (0, p1), (0, p2), (0, p3), (0, p4), (0, p5), (0, (zWhy b G p1 p2 p2)), (9, 0), (9, 0)] [] G := by
    intro rJ34
    have h := hJ34 rJ34
    refine e_aload_n d_C_copy_22 rfl ?_
    refine e_iload d_C_copy_23 rfl ?_
    refine EV.inv fun hFf35 => ?_
    have f35 := (fx_ct 0 rfl hFf35).1
    refine e_callV m_C_refuse 11 lw_good d_C_copy_25 (k_C_refuse _) ⟨Nat.le_of_ble_eq_true rfl, Nat.le_of_ble_eq_true rfl⟩ w_297 w_299 w_s0 (q_C _) rfl f35 (args := [(0, (zWhy b G p1 p2 p2))]) rfl rfl (Nat.le_of_ble_eq_true rfl) (kc' := kc) (ks' := ks) (mc := 0) (ms := 0) rfl rfl h ?_
    intro v36 G37 h
    exact e_iret d_C_copy_28 rfl h
  refine e_aload_n d_C_copy_0 rfl ?_
  refine e_iload_n d_C_copy_1 rfl ?_
  refine e_iload_n d_C_copy_2 rfl ?_
  refine e_iload_n d_C_copy_3 rfl ?_
  refine EV.inv fun hFf1 => ?_
  have f1 := (fx_ct 0 rfl hFf1).1
  refine e_callV m_C_whyNoRows 11 lw_good d_C_copy_4 (k_C_whyNoRows _) ⟨Nat.le_of_ble_eq_true rfl, Nat.le_of_ble_eq_true rfl⟩ w_493 w_495 w_s9 (q_C _) rfl f1 (args := [(0, p1), (0, p2), (0, p2)]) rfl rfl (Nat.le_of_ble_eq_true rfl) (kc' := kc) (ks' := ks) (mc := 0) (ms := 0) rfl rfl (c_C_whyNoRows) (pureK ?_)
  refine e_istore (ls' := [(2, ((b : Int) + 1)), (0, p1), (0, p2), (0, p3), (0, p4), (0, p5), (0, (zWhy b G p1 p2 p2)), (9, 0), (9, 0)]) d_C_copy_7 (by decide) rfl ?_
  refine e_iload d_C_copy_9 rfl ?_
  refine e_iconst d_C_copy_11 (by decide) ?_
  refine e_icmp_eq (tgt := 22) d_C_copy_12 (by decide) (fun q2 => ?_) (fun q3 => ?_)
  · exact kJ34 (Or.inl q2)
  · have h := h q3
    refine e_iload d_C_copy_15 rfl ?_
    refine e_bipush d_C_copy_17 (by decide) (by decide) ?_
    refine e_icmp_ne (tgt := 29) d_C_copy_19 (by decide) (fun q4 => ?_) (fun q5 => ?_)
    · have h := h q4
      refine e_aload_n d_C_copy_29 rfl ?_
      refine e_iload_n d_C_copy_30 rfl ?_
      refine EV.inv fun hFf6 => ?_
      have f6 := (fx_ct 0 rfl hFf6).1
      refine e_callV m_C_rowIn 11 lw_good d_C_copy_31 (k_C_rowIn _) ⟨Nat.le_of_ble_eq_true rfl, Nat.le_of_ble_eq_true rfl⟩ w_482 w_484 w_s7 (q_C _) rfl f6 (args := [(0, p1)]) rfl rfl (Nat.le_of_ble_eq_true rfl) (kc' := kc) (ks' := ks) (mc := 0) (ms := 0) rfl rfl (c_C_rowIn) (pureK ?_)
      refine e_astore (ls' := [(2, ((b : Int) + 1)), (0, p1), (0, p2), (0, p3), (0, p4), (0, p5), (0, (zWhy b G p1 p2 p2)), (2, (if zHr b G p1 then G 3 ((b : Int) + 33) p1 else 0)), (9, 0)]) d_C_copy_34 (by decide) rfl ?_
      refine e_aload_n d_C_copy_36 rfl ?_
      refine e_iload_n d_C_copy_37 rfl ?_
      refine EV.inv fun hFf7 => ?_
      have f7 := (fx_ct 0 rfl hFf7).1
      refine e_callV m_C_rowIn 11 lw_good d_C_copy_38 (k_C_rowIn _) ⟨Nat.le_of_ble_eq_true rfl, Nat.le_of_ble_eq_true rfl⟩ w_482 w_484 w_s7 (q_C _) rfl f7 (args := [(0, p2)]) rfl rfl (Nat.le_of_ble_eq_true rfl) (kc' := kc) (ks' := ks) (mc := 0) (ms := 0) rfl rfl (c_C_rowIn) (pureK ?_)
      refine e_astore (ls' := [(2, ((b : Int) + 1)), (0, p1), (0, p2), (0, p3), (0, p4), (0, p5), (0, (zWhy b G p1 p2 p2)), (2, (if zHr b G p1 then G 3 ((b : Int) + 33) p1 else 0)), (2, (if zHr b G p2 then G 3 ((b : Int) + 33) p2 else 0))]) d_C_copy_41 (by decide) rfl ?_
      refine e_aload d_C_copy_43 rfl ?_
      refine e_ifnull (tgt := 53) d_C_copy_45 (by decide) (fun q8 => ?_) (fun q9 => ?_)
      · exact kJ38 (Or.inl ⟨q3, q4, q8⟩)
      · have h := h q9
        refine e_aload d_C_copy_48 rfl ?_
        refine e_ifnonnull (tgt := 60) d_C_copy_50 (by decide) (fun q10 => ?_) (fun q11 => ?_)
        · have h := h q10
          refine e_aload d_C_copy_60 rfl ?_
          obtain ⟨o12, o13, h⟩ := h
          refine e_callV m_Row_sort 6 lw_good d_C_copy_62 (k_Row_sort _) ⟨Nat.le_of_ble_eq_true rfl, Nat.le_of_ble_eq_true rfl⟩ w_823 w_824 w_825 (q_Row _) rfl o12 (args := []) rfl rfl (Nat.le_of_ble_eq_true rfl) (kc' := kc) (ks' := ks) (mc := 0) (ms := 0) rfl rfl (c_Row_sort o13) (pureK ?_)
          refine e_aload d_C_copy_65 rfl ?_
          obtain ⟨o14, o15, h⟩ := h
          refine e_callV m_Row_sort 6 lw_good d_C_copy_67 (k_Row_sort _) ⟨Nat.le_of_ble_eq_true rfl, Nat.le_of_ble_eq_true rfl⟩ w_823 w_824 w_825 (q_Row _) rfl o14 (args := []) rfl rfl (Nat.le_of_ble_eq_true rfl) (kc' := kc) (ks' := ks) (mc := 0) (ms := 0) rfl rfl (c_Row_sort o15) (pureK ?_)
          refine e_icmp_eq (tgt := 80) d_C_copy_70 (by decide) (fun q16 => ?_) (fun q17 => ?_)
          · have h := h.1 q16
            refine e_iload d_C_copy_80 rfl ?_
            refine e_if_ge (tgt := 92) d_C_copy_82 (by decide) (fun q18 => ?_) (fun q19 => ?_)
            · have h := h.1 q18
              refine e_aload d_C_copy_92 rfl ?_
              refine e_iload_n d_C_copy_94 rfl ?_
              refine e_iload d_C_copy_95 rfl ?_
              obtain ⟨o20, h⟩ := h
              refine e_callV m_Row_hasPart 6 lw_good d_C_copy_97 (k_Row_hasPart _) ⟨Nat.le_of_ble_eq_true rfl, Nat.le_of_ble_eq_true rfl⟩ w_827 w_828 w_829 (q_Row _) rfl o12 (args := [(0, p3), (0, p5)]) rfl rfl (Nat.le_of_ble_eq_true rfl) (kc' := kc) (ks' := ks) (mc := 0) (ms := 0) rfl rfl (c_Row_hasPart o13 o20) (pureK ?_)
              refine e_if_eq (tgt := 115) d_C_copy_100 (by decide) (fun q21 => ?_) (fun q22 => ?_)
              · replace q21 := gb0.mp q21
                exact kJ42 (Or.inl ⟨q3, q4, q9, q10, q16, q18, q21⟩)
              · replace q22 := gb1.mp q22
                have h := h q22
                refine e_aload d_C_copy_103 rfl ?_
                refine e_iload d_C_copy_105 rfl ?_
                refine e_iload d_C_copy_107 rfl ?_
                obtain ⟨o23, h⟩ := h
                refine e_callV m_Row_hasPart 6 lw_good d_C_copy_109 (k_Row_hasPart _) ⟨Nat.le_of_ble_eq_true rfl, Nat.le_of_ble_eq_true rfl⟩ w_827 w_828 w_829 (q_Row _) rfl o14 (args := [(0, p4), (0, p5)]) rfl rfl (Nat.le_of_ble_eq_true rfl) (kc' := kc) (ks' := ks) (mc := 0) (ms := 0) rfl rfl (c_Row_hasPart o15 o23) (pureK ?_)
                refine e_if_ne (tgt := 122) d_C_copy_112 (by decide) (fun q24 => ?_) (fun q25 => ?_)
                · replace q24 := gb1.mp q24
                  have h := h q24
                  refine e_aload d_C_copy_122 rfl ?_
                  refine e_iload d_C_copy_124 rfl ?_
                  refine e_aload d_C_copy_126 rfl ?_
                  refine e_iload_n d_C_copy_128 rfl ?_
                  refine e_iload d_C_copy_129 rfl ?_
                  refine e_callV m_Row_putPart 6 lw_good d_C_copy_131 (k_Row_putPart _) ⟨Nat.le_of_ble_eq_true rfl, Nat.le_of_ble_eq_true rfl⟩ w_831 w_832 w_833 (q_Row _) rfl o14 (args := [(0, p4), (2, (if zHr b G p1 then G 3 ((b : Int) + 33) p1 else 0)), (0, p3), (0, p5)]) rfl rfl (Nat.le_of_ble_eq_true rfl) (kc' := kc) (ks' := ks) (mc := 0) (ms := 0) rfl rfl h ?_
                  intro v26 G27 h
                  refine e_iconst d_C_copy_134 (by decide) ?_
                  exact e_iret d_C_copy_135 rfl h
                · replace q25 := gb0.mp q25
                  exact kJ42 (Or.inr ⟨q3, q4, q9, q10, q16, q18, q22, q25⟩)
            · have h := h.2 q19
              refine e_aload_n d_C_copy_85 rfl ?_
              refine e_bipush d_C_copy_86 (by decide) (by decide) ?_
              refine EV.inv fun hFf28 => ?_
              have f28 := (fx_ct 0 rfl hFf28).1
              refine e_callV m_C_refuse 11 lw_good d_C_copy_88 (k_C_refuse _) ⟨Nat.le_of_ble_eq_true rfl, Nat.le_of_ble_eq_true rfl⟩ w_297 w_299 w_s0 (q_C _) rfl f28 (args := [(0, (-4))]) rfl rfl (Nat.le_of_ble_eq_true rfl) (kc' := kc) (ks' := ks) (mc := 0) (ms := 0) rfl rfl h ?_
              intro v29 G30 h
              exact e_iret d_C_copy_91 rfl h
          · have h := h.2 q17
            refine e_aload_n d_C_copy_73 rfl ?_
            refine e_bipush d_C_copy_74 (by decide) (by decide) ?_
            refine EV.inv fun hFf31 => ?_
            have f31 := (fx_ct 0 rfl hFf31).1
            refine e_callV m_C_refuse 11 lw_good d_C_copy_76 (k_C_refuse _) ⟨Nat.le_of_ble_eq_true rfl, Nat.le_of_ble_eq_true rfl⟩ w_297 w_299 w_s0 (q_C _) rfl f31 (args := [(0, (-2))]) rfl rfl (Nat.le_of_ble_eq_true rfl) (kc' := kc) (ks' := ks) (mc := 0) (ms := 0) rfl rfl h ?_
            intro v32 G33 h
            exact e_iret d_C_copy_79 rfl h
        · exact kJ38 (Or.inr ⟨q3, q4, q9, q11⟩)
    · exact kJ34 (Or.inr ⟨q3, q5⟩)
theorem c_C_set {e : gE} {b : Nat} {m : Int} {G : gH} {A : zA} {p1 p2 p3 : Int} (hR : zRel e b m G A) (hB : zB 512 A) (hS : zShw A) : GX e b m m_C_set [(2, ((b : Int) + 1)), (0, p1), (0, p2), (1, p3)] G 0 0 (zCQ e b m G (zfSet A p1 p2 p3)) := by
  refine GM.inv fun hF => ?_
  have hlo := fx_lo hF
  have hr := hR
  obtain ⟨T, Q, P, ⟨-, -, r3, -⟩, -⟩ := hr
  refine GM.ofEV (by decide) (Nat.le_of_ble_eq_true rfl) (sg_C_set_0 ?_)
  unfold zfSet
  by_cases q : zSh p1 ∧ A 18 p1 = 1
  · obtain ⟨hs, h1⟩ := q
    have k := zHk r3 hB hS hs
    obtain ⟨x1, x2, x3, x4, x5⟩ := fx_row hF hs
    have w := r3.1 p1 hs
    have bs : 0 ≤ A 20 p1 ∧ A 20 p1 ≤ 60 := hB 20 p1
    rw [if_pos (k.1.mpr h1), x1, if_pos hs, if_neg (by omega), if_neg (by omega)]
    unfold zHs zHas
    rw [w.2.1]
    refine ⟨fun _ => ⟨x2, x2, fun q => ?_, fun q => ?_⟩, fun z => by omega⟩
    · rw [if_pos q]
      refine GM.ofEV (by decide) (Nat.le_of_ble_eq_true rfl) (sg_Row_put_0 x2 ⟨x2, fun z => absurd (by unfold zHs; rw [w.2.1]; exact q) z, fun _ => ?_⟩)
      rw [x3, w.1, x4, x5]
      refine ⟨rfl, q.1, by omega, by omega, ?_⟩
      rintro _ rfl
      have qc : zCh [22] A (zU A 22 (60 * p1 + p2) (zLow (A 19 p1) p3)) := zCh_u
      have qx : zSx b [(2, 35 + 2 * p1)] G (gU G 2 ((b : Int) + (35 + 2 * p1)) p2 (zLow (A 19 p1) p3)) := zSx_u
      refine zCQ_mk rfl ?_ (zRf_u (Or.inl (by omega)))
      refine zRel_st hR (zDyn_u (by omega) (by decide)) qc (by decide) (fun r1 r2 r3 r4 => ⟨zR1_A qc (by decide) (zR1_G qx (by simp) r1), zR2_A qc (by decide) (zR2_G qx (by simp) r2), zR3_row (s := p1) r3 hs (zCh_m qc (by decide)) (fun t z => ⟨rfl, rfl, rfl, fun i i1 i2 => zU_i (by omega)⟩) (zSx_m qx (by simp)) (fun t z => gU_c _ (by decide)) ⟨?_, ?_, ?_, fun i i1 i2 => ?_⟩, zR4_A qc (by decide) (zR4_G qx (by simp) r4)⟩)
      · rw [gU_c _ (by decide), zU_k (by decide)]; exact w.1
      · rw [gU_c _ (by decide), zU_k (by decide)]; exact w.2.1
      · rw [gU_c _ (by decide)]; exact w.2.2.1
      · by_cases z : i = p2
        · subst z; rw [gU_eq, zU_eq]
        · rw [gU_j z, zU_i (by omega)]; exact w.2.2.2 i i1 i2
    · rw [if_neg q]; exact c_C_refuse hR hB (by decide)
  · have ew := zWhy_1 r3 hB hS q
    have hn : ¬ zHr b G p1 := fun z => q ⟨z.1, (zHk r3 hB hS z.1).1.mp z⟩
    rw [if_neg hn, ew]
    refine ⟨fun z => absurd rfl z, fun _ => ?_⟩
    by_cases hs : zSh p1
    · have b1 : 0 ≤ A 18 p1 ∧ A 18 p1 ≤ 2 := hB 18 p1
      have n1 : A 18 p1 ≠ 1 := fun z => q ⟨hs, z⟩
      rw [if_pos hs, if_pos hs]
      by_cases h2 : A 18 p1 = 2
      · rw [if_pos h2, if_pos h2]; exact c_C_refuse hR hB (by decide)
      · rw [if_neg h2, if_neg h2, if_pos (by omega)]; exact c_C_refuse hR hB (by decide)
    · rw [if_neg hs, if_neg hs]; exact c_C_refuse hR hB (by decide)
theorem zWhy_3 {b : Nat} {G : gH} {A : zA} {s t u : Int} (r3 : zR3 b G A) (hB : zB 512 A) (hS : zShw A) : zWhy b G s t u = if ¬ (zSh s ∧ zSh t ∧ zSh u) then -1 else if A 18 s = 2 ∨ A 18 t = 2 ∨ A 18 u = 2 then -2 else if A 18 s = 0 ∨ A 18 t = 0 ∨ A 18 u = 0 then -3 else 0 := by
  unfold zWhy
  by_cases h : zSh s ∧ zSh t ∧ zSh u
  · have k1 := zHk r3 hB hS h.1
    have k2 := zHk r3 hB hS h.2.1
    have k3 := zHk r3 hB hS h.2.2
    rw [if_neg (fun z : ¬ (zSh s ∧ zSh t ∧ zSh u) => z h)]
    rw [if_neg (fun z : ¬ (zSh s ∧ zSh t ∧ zSh u) => z h)]
    simp only [k1.2.1, k2.2.1, k3.2.1, k1.2.2, k2.2.2, k3.2.2]
  · rw [if_pos h, if_pos h]
theorem c_C_copy {e : gE} {b : Nat} {m : Int} {G : gH} {A : zA} {p1 p2 p3 p4 p5 : Int} (hR : zRel e b m G A) (hB : zB 512 A) (hS : zShw A) : GX e b m m_C_copy [(2, ((b : Int) + 1)), (0, p1), (0, p2), (0, p3), (0, p4), (0, p5)] G 0 0 (zCQ e b m G (zfCopy A p1 p2 p3 p4 p5)) := by
  refine GM.ar fun hV => GM.inv fun hF => ?_
  have hlo := fx_lo hF
  have i3 : inI p3 := okV_i.mp (hV (0, p3) (by simp))
  have i4 : inI p4 := okV_i.mp (hV (0, p4) (by simp))
  have i5 : inI p5 := okV_i.mp (hV (0, p5) (by simp))
  have hr := hR
  obtain ⟨T, Q, P, ⟨-, -, r3, -⟩, -⟩ := hr
  have ew := zWhy_3 (s := p1) (t := p2) (u := p2) r3 hB hS
  refine GM.ofEV (by decide) (Nat.le_of_ble_eq_true rfl) (sg_C_copy_0 ?_)
  by_cases hs : zSh p1 ∧ zSh p2
  · have hq : ¬ ¬ (zSh p1 ∧ zSh p2 ∧ zSh p2) := fun z => z ⟨hs.1, hs.2, hs.2⟩
    have hq3 : ¬ (¬ zSh p1 ∨ ¬ zSh p2) := by rintro (z | z); exact z hs.1; exact z hs.2
    have b1 : 0 ≤ A 18 p1 ∧ A 18 p1 ≤ 2 := hB 18 p1
    have b2 : 0 ≤ A 18 p2 ∧ A 18 p2 ≤ 2 := hB 18 p2
    rw [if_neg hq] at ew
    by_cases h2 : A 18 p1 = 2 ∨ A 18 p2 = 2
    · have c2 : A 18 p1 = 2 ∨ A 18 p2 = 2 ∨ A 18 p2 = 2 := by omega
      have d2 : A 18 p1 = 2 ∨ A 18 p2 = 2 ∨ (A 18 p1 = 1 ∧ A 18 p2 = 1 ∧ A 19 p1 ≠ A 19 p2) := by omega
      rw [if_pos c2] at ew
      rw [ew, show zfCopy A p1 p2 p3 p4 p5 = zNo A (-2) from by unfold zfCopy; rw [if_neg hq3, if_pos d2]]
      exact ⟨fun _ z => absurd rfl z, fun _ => c_C_refuse hR hB (by decide), fun z => absurd z (by omega), fun z => absurd z (by omega)⟩
    · have c2 : ¬ (A 18 p1 = 2 ∨ A 18 p2 = 2 ∨ A 18 p2 = 2) := by omega
      rw [if_neg c2] at ew
      have k1 := zHk r3 hB hS hs.1
      have k2 := zHk r3 hB hS hs.2
      obtain ⟨x1, x2, x3, x4, x5⟩ := fx_row hF hs.1
      obtain ⟨y1, y2, y3, y4, y5⟩ := fx_row hF hs.2
      by_cases h0 : A 18 p1 = 0 ∨ A 18 p2 = 0
      · have c3 : A 18 p1 = 0 ∨ A 18 p2 = 0 ∨ A 18 p2 = 0 := by omega
        have d2 : ¬ (A 18 p1 = 2 ∨ A 18 p2 = 2 ∨ (A 18 p1 = 1 ∧ A 18 p2 = 1 ∧ A 19 p1 ≠ A 19 p2)) := by omega
        rw [if_pos c3] at ew
        rw [ew, show zfCopy A p1 p2 p3 p4 p5 = zNo A (-3) from by unfold zfCopy; rw [if_neg hq3, if_neg d2, if_pos h0]]
        have rf := c_C_refuse (k := -3) hR hB (by decide)
        have non : (if zHr b G p1 then G 3 ((b : Int) + 33) p1 else 0) ≠ 0 → (if zHr b G p2 then G 3 ((b : Int) + 33) p2 else 0) ≠ 0 → False := fun z1 z2 => by
          rcases h0 with h0 | h0
          · rw [if_neg (fun w => by have := k1.1.mp w; omega)] at z1; exact z1 rfl
          · rw [if_neg (fun w => by have := k2.1.mp w; omega)] at z2; exact z2 rfl
        exact ⟨fun _ _ z1 z2 => (non z1 z2).elim, fun z => absurd z (by omega), fun _ => rf, fun z => z.elim (fun w => (non w.2.2.1 w.2.2.2.1).elim) (fun w => (non w.2.2.1 w.2.2.2.1).elim)⟩
      · have g1 := k1.1.mpr (by omega)
        have g2 := k2.1.mpr (by omega)
        have w1 := r3.1 p1 hs.1
        have w2 := r3.1 p2 hs.2
        have bs1 : 0 ≤ A 20 p1 ∧ A 20 p1 ≤ 60 := hB 20 p1
        have bs2 : 0 ≤ A 20 p2 ∧ A 20 p2 ≤ 60 := hB 20 p2
        have c3 : ¬ (A 18 p1 = 0 ∨ A 18 p2 = 0 ∨ A 18 p2 = 0) := by omega
        rw [if_neg c3] at ew
        rw [ew, if_pos g1, if_pos g2, x1, y1, w1.1, w2.1, w1.2.1, w2.2.1]
        refine ⟨fun _ _ _ _ => ⟨x2, x2, y2, y2, fun q1 => ⟨fun q2 => ⟨by omega, fun q3 => ⟨by omega, fun q4 => ?_⟩⟩, fun q2 => ?_⟩, fun q1 => ?_⟩, fun z => absurd z (by omega), fun z => absurd z (by omega), fun z => ?_⟩
        · unfold zfCopy
          rw [if_neg hq3, if_neg (show ¬ (A 18 p1 = 2 ∨ A 18 p2 = 2 ∨ (A 18 p1 = 1 ∧ A 18 p2 = 1 ∧ A 19 p1 ≠ A 19 p2)) by omega), if_neg h0, if_neg (show ¬ p5 < 0 by omega), if_neg (show ¬ (p3 < 0 ∨ p4 < 0 ∨ p3 > A 20 p1 - p5 ∨ p4 > A 20 p2 - p5) by omega)]
          refine GM.ofEV (by decide) (Nat.le_of_ble_eq_true rfl) (sg_Row_putPart_0 y2 ?_)
          rw [x3, y3, w1.2.1, w2.2.1, x4, y4, x5, y5]
          refine ⟨⟨x2, x2, by omega, fun _ => ⟨y2, by omega, fun _ => ⟨rfl, rfl, by omega, by omega, ?_⟩⟩⟩, fun z => absurd z (by omega)⟩
          rintro _ rfl
          have o : ∀ (c : Nat) (i j : Int), ¬ (c = 2 ∧ i = (b : Int) + (35 + 2 * p2)) → gCp G 2 ((b : Int) + (35 + 2 * p1)) p3 ((b : Int) + (35 + 2 * p2)) p4 p5 c i j = G c i j := fun c i j c1 => by unfold gCp; rw [if_neg (by omega)]
          have qc : zCh [22] A (zV A 22 (60 * p2 + p4) (60 * p2 + p4 + p5) (fun x => A 22 (x - (60 * p2 + p4) + (60 * p1 + p3)))) := zCh_V
          have qx : zSx b [(2, 35 + 2 * p2)] G (gCp G 2 ((b : Int) + (35 + 2 * p1)) p3 ((b : Int) + (35 + 2 * p2)) p4 p5) := fun c k j c9 k0 kk hn => o c _ j (fun z => hn (by rw [z.1, show k = 35 + 2 * p2 from by omega]; exact List.mem_cons_self))
          refine zCQ_mk rfl ?_ (fun c i j _ i1 i2 => o c i j (by omega))
          refine zRel_st hR (zDyn_st hlo.1 (fun c i j q => o c i j (by omega))) qc (by decide) (fun r1 r2 r3 r4 => ⟨zR1_A qc (by decide) (zR1_G qx (by simp) r1), zR2_A qc (by decide) (zR2_G qx (by simp) r2), zR3_row (s := p2) r3 hs.2 (zCh_m qc (by decide)) (fun t z => ⟨rfl, rfl, rfl, fun i i1 i2 => zV_out (by omega)⟩) (zSx_m qx (by simp)) (fun t z => o _ _ _ (by omega)) ⟨?_, ?_, ?_, fun i i1 i2 => ?_⟩, zR4_A qc (by decide) (zR4_G qx (by simp) r4)⟩)
          · rw [o _ _ _ (by omega), zV_k (by decide)]; exact w2.1
          · rw [o _ _ _ (by omega), zV_k (by decide)]; exact w2.2.1
          · rw [o _ _ _ (by omega)]; exact w2.2.2.1
          · by_cases z : p4 ≤ i ∧ i < p4 + p5
            · have e1 : gCp G 2 ((b : Int) + (35 + 2 * p1)) p3 ((b : Int) + (35 + 2 * p2)) p4 p5 2 ((b : Int) + (35 + 2 * p2)) i = G 2 ((b : Int) + (35 + 2 * p1)) (p3 + (i - p4)) := if_pos ⟨rfl, rfl, z⟩
              rw [e1, zV_in (by omega), w1.2.2.2 _ (by omega) (by omega), show 60 * p2 + i - (60 * p2 + p4) + (60 * p1 + p3) = 60 * p1 + (p3 + (i - p4)) from by omega]
            · have e1 : gCp G 2 ((b : Int) + (35 + 2 * p1)) p3 ((b : Int) + (35 + 2 * p2)) p4 p5 2 ((b : Int) + (35 + 2 * p2)) i = G 2 ((b : Int) + (35 + 2 * p2)) i := if_neg (by omega)
              rw [e1, zV_out (by omega)]
              exact w2.2.2.2 i i1 i2
        · unfold zfCopy
          rw [if_neg hq3, if_neg (show ¬ (A 18 p1 = 2 ∨ A 18 p2 = 2 ∨ (A 18 p1 = 1 ∧ A 18 p2 = 1 ∧ A 19 p1 ≠ A 19 p2)) by omega), if_neg h0, if_pos q2]; exact c_C_refuse hR hB (by decide)
        · unfold zfCopy
          rw [if_neg hq3, if_pos (show A 18 p1 = 2 ∨ A 18 p2 = 2 ∨ (A 18 p1 = 1 ∧ A 18 p2 = 1 ∧ A 19 p1 ≠ A 19 p2) by omega)]; exact c_C_refuse hR hB (by decide)
        · have zz : A 19 p1 = A 19 p2 ∧ 0 ≤ p5 ∧ (¬ (0 ≤ p3 ∧ 0 ≤ p5 ∧ p3 + p5 ≤ A 20 p1) ∨ ¬ (0 ≤ p4 ∧ 0 ≤ p5 ∧ p4 + p5 ≤ A 20 p2)) := by
            rcases z with z | z
            · exact ⟨z.2.2.2.2.1, z.2.2.2.2.2.1, Or.inl z.2.2.2.2.2.2⟩
            · exact ⟨z.2.2.2.2.1, z.2.2.2.2.2.1, Or.inr z.2.2.2.2.2.2.2⟩
          unfold zfCopy
          rw [if_neg hq3, if_neg (show ¬ (A 18 p1 = 2 ∨ A 18 p2 = 2 ∨ (A 18 p1 = 1 ∧ A 18 p2 = 1 ∧ A 19 p1 ≠ A 19 p2)) by omega), if_neg h0, if_neg (show ¬ p5 < 0 by omega), if_pos (show p3 < 0 ∨ p4 < 0 ∨ p3 > A 20 p1 - p5 ∨ p4 > A 20 p2 - p5 by omega)]; exact c_C_refuse hR hB (by decide)
  · have hq : ¬ (zSh p1 ∧ zSh p2 ∧ zSh p2) := fun z => hs ⟨z.1, z.2.1⟩
    have hq2 : ¬ zSh p1 ∨ ¬ zSh p2 := by
      by_cases z : zSh p1
      · exact Or.inr (fun y => hs ⟨z, y⟩)
      · exact Or.inl z
    rw [if_pos hq] at ew
    rw [ew, show zfCopy A p1 p2 p3 p4 p5 = zNo A (-1) from by unfold zfCopy; rw [if_pos hq2]]
    exact ⟨fun z => absurd rfl z, fun _ => c_C_refuse hR hB (by decide), fun z => absurd z (by omega), fun z => absurd z (by omega)⟩
