/-! THE CLASS, 33: doors -/
theorem zRkJ_0 {e : gE} {b : Nat} {m : Int} {G : gH} {A B : zA} {T U : Int → Int} (h : zRkJ e b m G A T) (hp : B 788 0 ≠ 1) : zRkJ e b m G B U := by
  obtain ⟨⟨n, f, h1, h2⟩, h3, h4⟩ := h
  exact ⟨⟨n, f, h1, fun q => absurd q hp⟩, h3, h4⟩
/-- a call that changes only cells of the class itself, while no plan stands -/
theorem zRel_s2 {e : gE} {b : Nat} {m : Int} {G G1 : gH} {A B : zA} {ks : List Nat} (hR : zRel e b m G A) (d : zDyn m G G1) (q : zCh ks A B) (hk : ∀ k ∈ [785, 794, 7, 8, 9, 10, 11, 12, 13, 32, 33, 34, 35, 36, 37, 38, 14, 786, 15, 16, 17, 787, 23, 24, 25, 26, 27, 28], k ∉ ks) (hp : B 788 0 ≠ 1) (K : zR1 b G A → zR2 b G A → zR3 b G A → zR4 b G A → zR1 b G1 B ∧ zR2 b G1 B ∧ zR3 b G1 B ∧ zR4 b G1 B) : zRel e b m G1 B := by
  obtain ⟨T, Q, P, ⟨r1, r2, r3, r4⟩, hT, hQ, hP, hJ, hD⟩ := hR
  have sub : ∀ l : List Nat, (∀ k ∈ l, k ∈ [785, 794, 7, 8, 9, 10, 11, 12, 13, 32, 33, 34, 35, 36, 37, 38, 14, 786, 15, 16, 17, 787, 23, 24, 25, 26, 27, 28]) → ∀ k ∈ l, k ∉ ks := fun l w k z => hk k (w k z)
  refine ⟨T, Q, P, K r1 r2 r3 r4, ?_, zRkQ_A q (sub _ (by decide)) (zRkQ_dyn d hQ), zRkP_A q (sub _ (by decide)) (zRkP_dyn d hP), zRkJ_0 (zRkJ_dyn d hT hJ) hp, zDst_dyn d hD⟩
  rw [zTau_c q (sub _ (by decide))]
  exact zRkT_B q (sub _ (by decide)) (zRkT_dyn d hT)
theorem zWay_s {A : zA} : zWay (zWs A) = zWay A := zWay_c (fun k z => funext fun i => zV_k (by rcases z with z | z | z | z | z <;> rw [z] <;> decide))
theorem zCh_Ws {A : zA} : zCh [6] A (zWs A) := zCh_V
theorem zDyn_wx {b : Nat} {m : Int} {G G1 : gH} (hlo : (b : Int) + 53 < m) (h : zWx b G G1) : zDyn m G G1 := ⟨fun c i j q => h c i j (by omega), fun c i j q => h c i j (by omega)⟩
theorem zSx_wx {b : Nat} {G G1 : gH} (h : zWx b G G1) : zSx b [(1, 8)] G G1 := fun c k j c9 k0 k1 hn => h c _ j (fun z => hn (by rw [z.1, show k = 8 by omega]; exact List.mem_cons_self))
set_option maxRecDepth 20000 in
set_option maxHeartbeats 4000000 in
theorem sg_House_hasDoor_0 {e : gE} {b : Nat} {m : Int} {Z : Int → gH → Prop} {kc ks : Nat} {G : gH} {p1 : Int} (h : (inI ((G 150 ((b : Int) + 3) 0) - 1)) ∧ Z (if 0 ≤ p1 ∧ p1 ≤ ((G 150 ((b : Int) + 3) 0) - 1) then 1 else 0) G) : EX e b m m_House_hasDoor Z kc ks 0 [(2, ((b : Int) + 3)), (0, p1)] [] G := by
  refine e_iload_n d_House_hasDoor_0 rfl ?_
  refine e_iconst d_House_hasDoor_1 (by decide) ?_
  refine e_aload_n d_House_hasDoor_2 rfl ?_
  refine gx_House_37 d_House_hasDoor_3 rfl ?_
  refine e_iconst d_House_hasDoor_6 (by decide) ?_
  obtain ⟨o1, h⟩ := h
  refine e_isub d_House_hasDoor_7 o1 ?_
  refine e_callSN m_C_within "MuseumFlight" lw_good d_House_hasDoor_8 (k_C_within _) ⟨Nat.le_of_ble_eq_true rfl, Nat.le_of_ble_eq_true rfl⟩ w_309 w_295 (args := [(0, p1), (0, 0), (0, ((G 150 ((b : Int) + 3) 0) - 1))]) rfl rfl (Nat.le_of_ble_eq_true rfl) (kc' := kc) (ks' := ks) (mc := 0) (ms := 0) rfl rfl (c_C_within) (pureK ?_)
  exact e_zret .boolean d_House_hasDoor_11 rfl (Or.inl ⟨rfl, gb01 _⟩) h
set_option maxRecDepth 20000 in
set_option maxHeartbeats 4000000 in
theorem sg_House_isBlocked_0 {e : gE} {b : Nat} {m : Int} {Z : Int → gH → Prop} {kc ks : Nat} {G : gH} {p1 : Int} (h : ((0 ≤ p1 ∧ p1 ≤ 19) → (0 ≤ p1 ∧ p1 < 20) ∧ ((G 1 ((b : Int) + 7) p1) ≠ 0 → Z 1 G)) ∧ ((((¬ (0 ≤ p1 ∧ p1 ≤ 19))) ∨ ((0 ≤ p1 ∧ p1 ≤ 19) ∧ (G 1 ((b : Int) + 7) p1) = 0)) → Z 0 G)) : EX e b m m_House_isBlocked Z kc ks 0 [(2, ((b : Int) + 3)), (0, p1)] [] G := by
  obtain ⟨h, hJ6⟩ := h
  have kJ6 : (((¬ (0 ≤ p1 ∧ p1 ≤ 19))) ∨ ((0 ≤ p1 ∧ p1 ≤ 19) ∧ (G 1 ((b : Int) + 7) p1) = 0)) → EX e b m m_House_isBlocked Z kc ks 23 [(2, ((b : Int) + 3)), (0, p1)] [] G := by
    intro rJ6
    have h := hJ6 rJ6
    refine e_iconst d_House_isBlocked_23 (by decide) ?_
    exact e_zret .boolean d_House_isBlocked_24 rfl (by decide) h
  refine e_iload_n d_House_isBlocked_0 rfl ?_
  refine e_iconst d_House_isBlocked_1 (by decide) ?_
  refine e_bipush d_House_isBlocked_2 (by decide) (by decide) ?_
  refine e_callSN m_C_within "MuseumFlight" lw_good d_House_isBlocked_4 (k_C_within _) ⟨Nat.le_of_ble_eq_true rfl, Nat.le_of_ble_eq_true rfl⟩ w_309 w_295 (args := [(0, p1), (0, 0), (0, 19)]) rfl rfl (Nat.le_of_ble_eq_true rfl) (kc' := kc) (ks' := ks) (mc := 0) (ms := 0) rfl rfl (c_C_within) (pureK ?_)
  refine e_if_eq (tgt := 23) d_House_isBlocked_7 (by decide) (fun q1 => ?_) (fun q2 => ?_)
  · replace q1 := gb0.mp q1
    exact kJ6 (Or.inl q1)
  · replace q2 := gb1.mp q2
    have h := h q2
    refine e_aload_n d_House_isBlocked_10 rfl ?_
    refine gx_House_21 d_House_isBlocked_11 rfl ?_
    refine e_iload_n d_House_isBlocked_14 rfl ?_
    obtain ⟨o3, h⟩ := h
    refine xC_zald 6 rfl d_House_isBlocked_15 o3 ?_
    refine e_if_eq (tgt := 23) d_House_isBlocked_16 (by decide) (fun q4 => ?_) (fun q5 => ?_)
    · exact kJ6 (Or.inr ⟨q2, q4⟩)
    · have h := h q5
      refine e_iconst d_House_isBlocked_19 (by decide) ?_
      refine e_goto (tgt := 24) d_House_isBlocked_20 (by decide) ?_
      exact e_zret .boolean d_House_isBlocked_24 rfl (by decide) h
set_option maxRecDepth 20000 in
set_option maxHeartbeats 4000000 in
theorem sg_House_changeDanger_0 {e : gE} {b : Nat} {m : Int} {Z : Int → gH → Prop} {kc ks : Nat} {G : gH} {p1 p2 : Int} (h : ((0 ≤ p1 ∧ p1 < 12) → (0 ≤ p1 ∧ p1 < 12) ∧ (∀ G4 : gH, G4 = gU G 1 ((b : Int) + 9) p1 p2 → Z (G 1 ((b : Int) + 9) p1) G4)) ∧ ((¬ (0 ≤ p1 ∧ p1 < 12)) → Z (-1) G)) : EX e b m m_House_changeDanger Z kc ks 0 [(2, ((b : Int) + 3)), (0, p1), (0, p2), (9, 0)] [] G := by
  refine e_iload_n d_House_changeDanger_0 rfl ?_
  refine e_callS m_House_isRoom lw_good d_House_changeDanger_1 (k_House_isRoom _) ⟨Nat.le_of_ble_eq_true rfl, Nat.le_of_ble_eq_true rfl⟩ w_310 w_311 (args := [(0, p1)]) rfl rfl (Nat.le_of_ble_eq_true rfl) (kc' := kc) (ks' := ks) (mc := 0) (ms := 0) rfl rfl (c_House_isRoom) (pureK ?_)
  refine e_if_ne (tgt := 9) d_House_changeDanger_4 (by decide) (fun q1 => ?_) (fun q2 => ?_)
  · replace q1 := gb1.mp q1
    have h := h.1 q1
    refine e_aload_n d_House_changeDanger_9 rfl ?_
    refine gx_House_34 d_House_changeDanger_10 rfl ?_
    refine e_iload_n d_House_changeDanger_13 rfl ?_
    obtain ⟨o3, h⟩ := h
    refine xC_iald 8 rfl d_House_changeDanger_14 o3 ?_
    refine e_istore_n (ls' := [(2, ((b : Int) + 3)), (0, p1), (0, p2), (0, (G 1 ((b : Int) + 9) p1))]) d_House_changeDanger_15 (by decide) rfl ?_
    refine e_aload_n d_House_changeDanger_16 rfl ?_
    refine gx_House_34 d_House_changeDanger_17 rfl ?_
    refine e_iload_n d_House_changeDanger_20 rfl ?_
    refine e_iload_n d_House_changeDanger_21 rfl ?_
    refine xC_iast 8 rfl d_House_changeDanger_22 o3 ?_
    let G4 : gH := gU G 1 ((b : Int) + 9) p1 p2
    have h := h G4 rfl
    refine e_iload_n d_House_changeDanger_23 rfl ?_
    exact e_iret d_House_changeDanger_24 rfl h
  · replace q2 := gb0.mp q2
    have h := h.2 q2
    refine e_iconst d_House_changeDanger_7 (by decide) ?_
    exact e_iret d_House_changeDanger_8 rfl h
set_option maxRecDepth 20000 in
set_option maxHeartbeats 4000000 in
theorem sg_House_blockDoor_0 {e : gE} {b : Nat} {m : Int} {Z : Int → gH → Prop} {kc ks : Nat} {G : gH} {p1 : Int} (h : ((¬ (0 ≤ p1 ∧ p1 ≤ 19)) → Z 0 G) ∧ ((0 ≤ p1 ∧ p1 ≤ 19) → (0 ≤ p1 ∧ p1 < 20) ∧ (∀ G4 : gH, G4 = gU G 1 ((b : Int) + 7) p1 1 → GX e b m m_House_findWays [(2, ((b : Int) + 3))] G4 0 0 (fun _ G7 => Z 0 G7)))) : EX e b m m_House_blockDoor Z kc ks 0 [(2, ((b : Int) + 3)), (0, p1)] [] G := by
  refine e_iload_n d_House_blockDoor_0 rfl ?_
  refine e_iconst d_House_blockDoor_1 (by decide) ?_
  refine e_bipush d_House_blockDoor_2 (by decide) (by decide) ?_
  refine e_callSN m_C_within "MuseumFlight" lw_good d_House_blockDoor_4 (k_C_within _) ⟨Nat.le_of_ble_eq_true rfl, Nat.le_of_ble_eq_true rfl⟩ w_309 w_295 (args := [(0, p1), (0, 0), (0, 19)]) rfl rfl (Nat.le_of_ble_eq_true rfl) (kc' := kc) (ks' := ks) (mc := 0) (ms := 0) rfl rfl (c_C_within) (pureK ?_)
  refine e_if_eq (tgt := 21) d_House_blockDoor_7 (by decide) (fun q1 => ?_) (fun q2 => ?_)
  · replace q1 := gb0.mp q1
    have h := h.1 q1
    exact e_vret d_House_blockDoor_21 rfl h
  · replace q2 := gb1.mp q2
    have h := h.2 q2
    refine e_aload_n d_House_blockDoor_10 rfl ?_
    refine gx_House_21 d_House_blockDoor_11 rfl ?_
    refine e_iload_n d_House_blockDoor_14 rfl ?_
    refine e_iconst d_House_blockDoor_15 (by decide) ?_
    obtain ⟨o3, h⟩ := h
    refine xC_zast 6 rfl d_House_blockDoor_16 o3 (by decide) ?_
    let G4 : gH := gU G 1 ((b : Int) + 7) p1 1
    have h := h G4 rfl
    refine e_aload_n d_House_blockDoor_17 rfl ?_
    refine EV.inv fun hFf5 => ?_
    have f5 := (fx_ct 2 rfl hFf5).1
    refine e_callV m_House_findWays 2 lw_good d_House_blockDoor_18 (k_House_findWays _) ⟨Nat.le_of_ble_eq_true rfl, Nat.le_of_ble_eq_true rfl⟩ w_313 w_315 w_s1 (q_House _) rfl f5 (args := []) rfl rfl (Nat.le_of_ble_eq_true rfl) (kc' := kc) (ks' := ks) (mc := 0) (ms := 0) rfl rfl h ?_
    intro v6 G7 h
    exact e_vret d_House_blockDoor_21 rfl h
set_option maxRecDepth 20000 in
set_option maxHeartbeats 4000000 in
theorem sg_House_addDoor_0 {e : gE} {b : Nat} {m : Int} {Z : Int → gH → Prop} {kc ks : Nat} {G : gH} {p1 p2 p3 : Int} (h : ((0 ≤ (G 150 ((b : Int) + 3) 0) ∧ (G 150 ((b : Int) + 3) 0) ≤ 19) → ((0 ≤ p1 ∧ p1 < 12) → ((0 ≤ p2 ∧ p2 < 12) → (0 ≤ (G 150 ((b : Int) + 3) 0) ∧ (G 150 ((b : Int) + 3) 0) < 20) ∧ (∀ G8 : gH, G8 = gU G 1 ((b : Int) + 4) (G 150 ((b : Int) + 3) 0) p1 → ∀ G9 : gH, G9 = gU G8 1 ((b : Int) + 5) (G 150 ((b : Int) + 3) 0) p2 → ∀ G10 : gH, G10 = gU G9 1 ((b : Int) + 6) (G 150 ((b : Int) + 3) 0) p3 → (inI ((G 150 ((b : Int) + 3) 0) + 1)) ∧ (∀ G12 : gH, G12 = gU G10 150 ((b : Int) + 3) 0 ((G 150 ((b : Int) + 3) 0) + 1) → GX e b m m_House_findWays [(2, ((b : Int) + 3))] G12 0 0 (fun _ G15 => (inI ((G15 150 ((b : Int) + 3) 0) - 1)) ∧ Z ((G15 150 ((b : Int) + 3) 0) - 1) G15)))))) ∧ ((((¬ (0 ≤ (G 150 ((b : Int) + 3) 0) ∧ (G 150 ((b : Int) + 3) 0) ≤ 19))) ∨ ((0 ≤ (G 150 ((b : Int) + 3) 0) ∧ (G 150 ((b : Int) + 3) 0) ≤ 19) ∧ (¬ (0 ≤ p1 ∧ p1 < 12))) ∨ ((0 ≤ (G 150 ((b : Int) + 3) 0) ∧ (G 150 ((b : Int) + 3) 0) ≤ 19) ∧ (0 ≤ p1 ∧ p1 < 12) ∧ (¬ (0 ≤ p2 ∧ p2 < 12)))) → Z (-1) G)) : EX e b m m_House_addDoor Z kc ks 0 [(2, ((b : Int) + 3)), (0, p1), (0, p2), (0, p3)] [] G := by
  obtain ⟨h, hJ17⟩ := h
  have kJ17 : (((¬ (0 ≤ (G 150 ((b : Int) + 3) 0) ∧ (G 150 ((b : Int) + 3) 0) ≤ 19))) ∨ ((0 ≤ (G 150 ((b : Int) + 3) 0) ∧ (G 150 ((b : Int) + 3) 0) ≤ 19) ∧ (¬ (0 ≤ p1 ∧ p1 < 12))) ∨ ((0 ≤ (G 150 ((b : Int) + 3) 0) ∧ (G 150 ((b : Int) + 3) 0) ≤ 19) ∧ (0 ≤ p1 ∧ p1 < 12) ∧ (¬ (0 ≤ p2 ∧ p2 < 12)))) → EX e b m m_House_addDoor Z kc ks 27 [(2, ((b : Int) + 3)), (0, p1), (0, p2), (0, p3)] [] G := by
    intro rJ17
    have h := hJ17 rJ17
    refine e_iconst d_House_addDoor_27 (by decide) ?_
    exact e_iret d_House_addDoor_28 rfl h
  refine e_aload_n d_House_addDoor_0 rfl ?_
  refine gx_House_37 d_House_addDoor_1 rfl ?_
  refine e_iconst d_House_addDoor_4 (by decide) ?_
  refine e_bipush d_House_addDoor_5 (by decide) (by decide) ?_
  refine e_callSN m_C_within "MuseumFlight" lw_good d_House_addDoor_7 (k_C_within _) ⟨Nat.le_of_ble_eq_true rfl, Nat.le_of_ble_eq_true rfl⟩ w_309 w_295 (args := [(0, (G 150 ((b : Int) + 3) 0)), (0, 0), (0, 19)]) rfl rfl (Nat.le_of_ble_eq_true rfl) (kc' := kc) (ks' := ks) (mc := 0) (ms := 0) rfl rfl (c_C_within) (pureK ?_)
  refine e_if_eq (tgt := 27) d_House_addDoor_10 (by decide) (fun q1 => ?_) (fun q2 => ?_)
  · replace q1 := gb0.mp q1
    exact kJ17 (Or.inl q1)
  · replace q2 := gb1.mp q2
    have h := h q2
    refine e_iload_n d_House_addDoor_13 rfl ?_
    refine e_callS m_House_isRoom lw_good d_House_addDoor_14 (k_House_isRoom _) ⟨Nat.le_of_ble_eq_true rfl, Nat.le_of_ble_eq_true rfl⟩ w_310 w_311 (args := [(0, p1)]) rfl rfl (Nat.le_of_ble_eq_true rfl) (kc' := kc) (ks' := ks) (mc := 0) (ms := 0) rfl rfl (c_House_isRoom) (pureK ?_)
    refine e_if_eq (tgt := 27) d_House_addDoor_17 (by decide) (fun q3 => ?_) (fun q4 => ?_)
    · replace q3 := gb0.mp q3
      exact kJ17 (Or.inr (Or.inl ⟨q2, q3⟩))
    · replace q4 := gb1.mp q4
      have h := h q4
      refine e_iload_n d_House_addDoor_20 rfl ?_
      refine e_callS m_House_isRoom lw_good d_House_addDoor_21 (k_House_isRoom _) ⟨Nat.le_of_ble_eq_true rfl, Nat.le_of_ble_eq_true rfl⟩ w_310 w_311 (args := [(0, p2)]) rfl rfl (Nat.le_of_ble_eq_true rfl) (kc' := kc) (ks' := ks) (mc := 0) (ms := 0) rfl rfl (c_House_isRoom) (pureK ?_)
      refine e_if_ne (tgt := 29) d_House_addDoor_24 (by decide) (fun q5 => ?_) (fun q6 => ?_)
      · replace q5 := gb1.mp q5
        have h := h q5
        refine e_aload_n d_House_addDoor_29 rfl ?_
        refine gx_House_9 d_House_addDoor_30 rfl ?_
        refine e_aload_n d_House_addDoor_33 rfl ?_
        refine gx_House_37 d_House_addDoor_34 rfl ?_
        refine e_iload_n d_House_addDoor_37 rfl ?_
        obtain ⟨o7, h⟩ := h
        refine xC_iast 3 rfl d_House_addDoor_38 o7 ?_
        let G8 : gH := gU G 1 ((b : Int) + 4) (G 150 ((b : Int) + 3) 0) p1
        have h := h G8 rfl
        refine e_aload_n d_House_addDoor_39 rfl ?_
        refine gx_House_15 d_House_addDoor_40 rfl ?_
        refine e_aload_n d_House_addDoor_43 rfl ?_
        refine gx_House_37 d_House_addDoor_44 rfl ?_
        refine e_iload_n d_House_addDoor_47 rfl ?_
        refine xC_iast 4 rfl d_House_addDoor_48 o7 ?_
        let G9 : gH := gU G8 1 ((b : Int) + 5) (G 150 ((b : Int) + 3) 0) p2
        have h := h G9 rfl
        refine e_aload_n d_House_addDoor_49 rfl ?_
        refine gx_House_18 d_House_addDoor_50 rfl ?_
        refine e_aload_n d_House_addDoor_53 rfl ?_
        refine gx_House_37 d_House_addDoor_54 rfl ?_
        refine e_iload_n d_House_addDoor_57 rfl ?_
        refine xC_iast 5 rfl d_House_addDoor_58 o7 ?_
        let G10 : gH := gU G9 1 ((b : Int) + 6) (G 150 ((b : Int) + 3) 0) p3
        have h := h G10 rfl
        refine e_aload_n d_House_addDoor_59 rfl ?_
        refine e_dup d_House_addDoor_60 (by simp) ?_
        refine gx_House_37 d_House_addDoor_61 rfl ?_
        refine e_iconst d_House_addDoor_64 (by decide) ?_
        obtain ⟨o11, h⟩ := h
        refine e_iadd d_House_addDoor_65 o11 ?_
        refine px_House_37 d_House_addDoor_66 rfl ?_
        let G12 : gH := gU G10 150 ((b : Int) + 3) 0 ((G 150 ((b : Int) + 3) 0) + 1)
        have h := h G12 rfl
        refine e_aload_n d_House_addDoor_69 rfl ?_
        refine EV.inv fun hFf13 => ?_
        have f13 := (fx_ct 2 rfl hFf13).1
        refine e_callV m_House_findWays 2 lw_good d_House_addDoor_70 (k_House_findWays _) ⟨Nat.le_of_ble_eq_true rfl, Nat.le_of_ble_eq_true rfl⟩ w_313 w_315 w_s1 (q_House _) rfl f13 (args := []) rfl rfl (Nat.le_of_ble_eq_true rfl) (kc' := kc) (ks' := ks) (mc := 0) (ms := 0) rfl rfl h ?_
        intro v14 G15 h
        refine e_aload_n d_House_addDoor_73 rfl ?_
        refine gx_House_37 d_House_addDoor_74 rfl ?_
        refine e_iconst d_House_addDoor_77 (by decide) ?_
        obtain ⟨o16, h⟩ := h
        refine e_isub d_House_addDoor_78 o16 ?_
        exact e_iret d_House_addDoor_79 rfl h
      · replace q6 := gb0.mp q6
        exact kJ17 (Or.inr (Or.inr ⟨q2, q4, q6⟩))
set_option maxRecDepth 20000 in
set_option maxHeartbeats 4000000 in
theorem sg_C_door_0 {e : gE} {b : Nat} {m : Int} {Z : Int → gH → Prop} {kc ks : Nat} {G : gH} {p1 p2 p3 : Int} (h : ((0 ≤ p1 ∧ p1 ≤ 11) → ((0 ≤ p2 ∧ p2 ≤ 11) → (p1 ≠ p2 → ((1 ≤ p3 ∧ p3 ≤ 9) → ((G 730 ((b : Int) + 1) 0) = 0 → ((G 150 ((b : Int) + 3) 0) < 20 → GX e b m m_House_addDoor [(2, ((b : Int) + 3)), (0, p1), (0, p2), (0, p3)] G 0 0 (fun v15 G16 => Z v15 G16)) ∧ (20 ≤ (G 150 ((b : Int) + 3) 0) → GX e b m m_C_refuse [(2, ((b : Int) + 1)), (0, (-7))] G 0 0 (fun v18 G19 => Z v18 G19))))))) ∧ ((((¬ (0 ≤ p1 ∧ p1 ≤ 11))) ∨ ((0 ≤ p1 ∧ p1 ≤ 11) ∧ (¬ (0 ≤ p2 ∧ p2 ≤ 11)))) → GX e b m m_C_refuse [(2, ((b : Int) + 1)), (0, (-1))] G 0 0 (fun v22 G23 => Z v22 G23)) ∧ ((((0 ≤ p1 ∧ p1 ≤ 11) ∧ (0 ≤ p2 ∧ p2 ≤ 11) ∧ p1 = p2) ∨ ((0 ≤ p1 ∧ p1 ≤ 11) ∧ (0 ≤ p2 ∧ p2 ≤ 11) ∧ p1 ≠ p2 ∧ (¬ (1 ≤ p3 ∧ p3 ≤ 9))) ∨ ((0 ≤ p1 ∧ p1 ≤ 11) ∧ (0 ≤ p2 ∧ p2 ≤ 11) ∧ p1 ≠ p2 ∧ (1 ≤ p3 ∧ p3 ≤ 9) ∧ (G 730 ((b : Int) + 1) 0) ≠ 0)) → GX e b m m_C_refuse [(2, ((b : Int) + 1)), (0, (-6))] G 0 0 (fun v26 G27 => Z v26 G27))) : EX e b m m_C_door Z kc ks 0 [(2, ((b : Int) + 1)), (0, p1), (0, p2), (0, p3)] [] G := by
  obtain ⟨h, hJ20, hJ24⟩ := h
  have kJ24 : (((0 ≤ p1 ∧ p1 ≤ 11) ∧ (0 ≤ p2 ∧ p2 ≤ 11) ∧ p1 = p2) ∨ ((0 ≤ p1 ∧ p1 ≤ 11) ∧ (0 ≤ p2 ∧ p2 ≤ 11) ∧ p1 ≠ p2 ∧ (¬ (1 ≤ p3 ∧ p3 ≤ 9))) ∨ ((0 ≤ p1 ∧ p1 ≤ 11) ∧ (0 ≤ p2 ∧ p2 ≤ 11) ∧ p1 ≠ p2 ∧ (1 ≤ p3 ∧ p3 ≤ 9) ∧ (G 730 ((b : Int) + 1) 0) ≠ 0)) → EX e b m m_C_door Z kc ks 48 [(2, ((b : Int) + 1)), (0, p1), (0, p2), (0, p3)] [] G := by
    intro rJ24
    have h := hJ24 rJ24
    refine e_aload_n d_C_door_48 rfl ?_
    refine e_bipush d_C_door_49 (by decide) (by decide) ?_
    refine EV.inv fun hFf25 => ?_
    have f25 := (fx_ct 0 rfl hFf25).1
    refine e_callV m_C_refuse 11 lw_good d_C_door_51 (k_C_refuse _) ⟨Nat.le_of_ble_eq_true rfl, Nat.le_of_ble_eq_true rfl⟩ w_297 w_299 w_s0 (q_C _) rfl f25 (args := [(0, (-6))]) rfl rfl (Nat.le_of_ble_eq_true rfl) (kc' := kc) (ks' := ks) (mc := 0) (ms := 0) rfl rfl h ?_
    intro v26 G27 h
    exact e_iret d_C_door_54 rfl h
  have kJ20 : (((¬ (0 ≤ p1 ∧ p1 ≤ 11))) ∨ ((0 ≤ p1 ∧ p1 ≤ 11) ∧ (¬ (0 ≤ p2 ∧ p2 ≤ 11)))) → EX e b m m_C_door Z kc ks 20 [(2, ((b : Int) + 1)), (0, p1), (0, p2), (0, p3)] [] G := by
    intro rJ20
    have h := hJ20 rJ20
    refine e_aload_n d_C_door_20 rfl ?_
    refine e_iconst d_C_door_21 (by decide) ?_
    refine EV.inv fun hFf21 => ?_
    have f21 := (fx_ct 0 rfl hFf21).1
    refine e_callV m_C_refuse 11 lw_good d_C_door_22 (k_C_refuse _) ⟨Nat.le_of_ble_eq_true rfl, Nat.le_of_ble_eq_true rfl⟩ w_297 w_299 w_s0 (q_C _) rfl f21 (args := [(0, (-1))]) rfl rfl (Nat.le_of_ble_eq_true rfl) (kc' := kc) (ks' := ks) (mc := 0) (ms := 0) rfl rfl h ?_
    intro v22 G23 h
    exact e_iret d_C_door_25 rfl h
  refine e_iload_n d_C_door_0 rfl ?_
  refine e_iconst d_C_door_1 (by decide) ?_
  refine e_bipush d_C_door_2 (by decide) (by decide) ?_
  refine e_callS m_C_within lw_good d_C_door_4 (k_C_within _) ⟨Nat.le_of_ble_eq_true rfl, Nat.le_of_ble_eq_true rfl⟩ w_294 w_295 (args := [(0, p1), (0, 0), (0, 11)]) rfl rfl (Nat.le_of_ble_eq_true rfl) (kc' := kc) (ks' := ks) (mc := 0) (ms := 0) rfl rfl (c_C_within) (pureK ?_)
  refine e_if_eq (tgt := 20) d_C_door_7 (by decide) (fun q1 => ?_) (fun q2 => ?_)
  · replace q1 := gb0.mp q1
    exact kJ20 (Or.inl q1)
  · replace q2 := gb1.mp q2
    have h := h q2
    refine e_iload_n d_C_door_10 rfl ?_
    refine e_iconst d_C_door_11 (by decide) ?_
    refine e_bipush d_C_door_12 (by decide) (by decide) ?_
    refine e_callS m_C_within lw_good d_C_door_14 (k_C_within _) ⟨Nat.le_of_ble_eq_true rfl, Nat.le_of_ble_eq_true rfl⟩ w_294 w_295 (args := [(0, p2), (0, 0), (0, 11)]) rfl rfl (Nat.le_of_ble_eq_true rfl) (kc' := kc) (ks' := ks) (mc := 0) (ms := 0) rfl rfl (c_C_within) (pureK ?_)
    refine e_if_ne (tgt := 26) d_C_door_17 (by decide) (fun q3 => ?_) (fun q4 => ?_)
    · replace q3 := gb1.mp q3
      have h := h q3
      refine e_iload_n d_C_door_26 rfl ?_
      refine e_iload_n d_C_door_27 rfl ?_
      refine e_icmp_eq (tgt := 48) d_C_door_28 (by decide) (fun q5 => ?_) (fun q6 => ?_)
      · exact kJ24 (Or.inl ⟨q2, q3, q5⟩)
      · have h := h q6
        refine e_iload_n d_C_door_31 rfl ?_
        refine e_iconst d_C_door_32 (by decide) ?_
        refine e_bipush d_C_door_33 (by decide) (by decide) ?_
        refine e_callS m_C_within lw_good d_C_door_35 (k_C_within _) ⟨Nat.le_of_ble_eq_true rfl, Nat.le_of_ble_eq_true rfl⟩ w_294 w_295 (args := [(0, p3), (0, 1), (0, 9)]) rfl rfl (Nat.le_of_ble_eq_true rfl) (kc' := kc) (ks' := ks) (mc := 0) (ms := 0) rfl rfl (c_C_within) (pureK ?_)
        refine e_if_eq (tgt := 48) d_C_door_38 (by decide) (fun q7 => ?_) (fun q8 => ?_)
        · replace q7 := gb0.mp q7
          exact kJ24 (Or.inr (Or.inl ⟨q2, q3, q6, q7⟩))
        · replace q8 := gb1.mp q8
          have h := h q8
          refine e_aload_n d_C_door_41 rfl ?_
          refine gx_C_81 d_C_door_42 rfl ?_
          refine e_if_eq (tgt := 55) d_C_door_45 (by decide) (fun q9 => ?_) (fun q10 => ?_)
          · have h := h q9
            refine e_aload_n d_C_door_55 rfl ?_
            refine gx_C_19 d_C_door_56 rfl ?_
            refine EV.inv fun hFf11 => ?_
            have f11 := (fx_ct 2 rfl hFf11).1
            refine e_callV m_House_doorCount 2 lw_good d_C_door_59 (k_House_doorCount _) ⟨Nat.le_of_ble_eq_true rfl, Nat.le_of_ble_eq_true rfl⟩ w_301 w_302 w_303 (q_House _) rfl f11 (args := []) rfl rfl (Nat.le_of_ble_eq_true rfl) (kc' := kc) (ks' := ks) (mc := 0) (ms := 0) rfl rfl (c_House_doorCount) (pureK ?_)
            refine e_bipush d_C_door_62 (by decide) (by decide) ?_
            refine e_icmp_lt (tgt := 74) d_C_door_64 (by decide) (fun q12 => ?_) (fun q13 => ?_)
            · have h := h.1 q12
              refine e_aload_n d_C_door_74 rfl ?_
              refine gx_C_19 d_C_door_75 rfl ?_
              refine e_iload_n d_C_door_78 rfl ?_
              refine e_iload_n d_C_door_79 rfl ?_
              refine e_iload_n d_C_door_80 rfl ?_
              refine EV.inv fun hFf14 => ?_
              have f14 := (fx_ct 2 rfl hFf14).1
              refine e_callV m_House_addDoor 2 lw_good d_C_door_81 (k_House_addDoor _) ⟨Nat.le_of_ble_eq_true rfl, Nat.le_of_ble_eq_true rfl⟩ w_305 w_306 w_307 (q_House _) rfl f14 (args := [(0, p1), (0, p2), (0, p3)]) rfl rfl (Nat.le_of_ble_eq_true rfl) (kc' := kc) (ks' := ks) (mc := 0) (ms := 0) rfl rfl h ?_
              intro v15 G16 h
              exact e_iret d_C_door_84 rfl h
            · have h := h.2 q13
              refine e_aload_n d_C_door_67 rfl ?_
              refine e_bipush d_C_door_68 (by decide) (by decide) ?_
              refine EV.inv fun hFf17 => ?_
              have f17 := (fx_ct 0 rfl hFf17).1
              refine e_callV m_C_refuse 11 lw_good d_C_door_70 (k_C_refuse _) ⟨Nat.le_of_ble_eq_true rfl, Nat.le_of_ble_eq_true rfl⟩ w_297 w_299 w_s0 (q_C _) rfl f17 (args := [(0, (-7))]) rfl rfl (Nat.le_of_ble_eq_true rfl) (kc' := kc) (ks' := ks) (mc := 0) (ms := 0) rfl rfl h ?_
              intro v18 G19 h
              exact e_iret d_C_door_73 rfl h
          · exact kJ24 (Or.inr (Or.inr ⟨q2, q3, q6, q8, q10⟩))
    · replace q4 := gb0.mp q4
      exact kJ20 (Or.inr ⟨q2, q4⟩)
theorem c_House_hasDoor {e : gE} {b : Nat} {m : Int} {G : gH} {p1 : Int} (h1 : 0 ≤ G 150 ((b : Int) + 3) 0 ∧ G 150 ((b : Int) + 3) 0 ≤ 20) : GX e b m m_House_hasDoor [(2, ((b : Int) + 3)), (0, p1)] G 0 0 (fun v9 G9 => v9 = ((if 0 ≤ p1 ∧ p1 < G 150 ((b : Int) + 3) 0 then 1 else 0) : Int) ∧ G9 = G) := by
  refine GM.ofEV (by decide) (Nat.le_of_ble_eq_true rfl) (sg_House_hasDoor_0 ?_)
  repeat' (first | apply And.intro | intro _)
  all_goals first | assumption | rfl | omega | (rw [if_pos (by omega)]) | (rw [if_neg (by omega)])
theorem c_addDoor {e : gE} {b : Nat} {m : Int} {G : gH} {A : zA} {p1 p2 p3 : Int} (hB : zB 512 A) (hM : zDr A) (hd : zDoo b G A) (hn : A 784 0 < 20) (h1 : 0 ≤ p1 ∧ p1 < 12) (h2 : 0 ≤ p2 ∧ p2 < 12) (h3 : 1 ≤ p3 ∧ p3 ≤ 9) : GX e b m m_House_addDoor [(2, ((b : Int) + 3)), (0, p1), (0, p2), (0, p3)] G 0 0 (fun v G1 => v = A 784 0 ∧ zDoo b G1 (zU (zU (zU (zU A 1 (A 784 0) p1) 2 (A 784 0) p2) 3 (A 784 0) p3) 784 0 (A 784 0 + 1)) ∧ (∀ r, 0 ≤ r → r < 12 → G1 1 ((b : Int) + 8) r = zWay (zU (zU (zU (zU A 1 (A 784 0) p1) 2 (A 784 0) p2) 3 (A 784 0) p3) 784 0 (A 784 0 + 1)) r) ∧ ∀ (c : Nat) (i j : Int), ¬ (c = 1 ∧ ((b : Int) + 4 ≤ i ∧ i ≤ (b : Int) + 6 ∨ i = (b : Int) + 8)) → ¬ (c = 150 ∧ i = (b : Int) + 3) → G1 c i j = G c i j) := by
  have bd : 0 ≤ A 784 0 ∧ A 784 0 ≤ 20 := hB 784 0
  have e2 := hd.2
  refine GM.ofEV (by decide) (Nat.le_of_ble_eq_true rfl) (sg_House_addDoor_0 ?_)
  rw [e2]
  refine ⟨fun _ _ _ => ⟨⟨by omega, by omega⟩, ?_⟩, fun z => by omega⟩
  rintro _ rfl _ rfl _ rfl
  refine ⟨by omega, ?_⟩
  rintro G2 hG2
  have o : ∀ (c : Nat) (i j : Int), ¬ (c = 1 ∧ ((b : Int) + 4 ≤ i ∧ i ≤ (b : Int) + 6)) → ¬ (c = 150 ∧ i = (b : Int) + 3) → G2 c i j = G c i j := fun c i j c1 c2 => by rw [hG2, gU_ne (by omega), gU_ne (by omega), gU_ne (by omega), gU_ne (by omega)]
  have e4 : ∀ i, G2 1 ((b : Int) + 4) i = if i = A 784 0 then p1 else G 1 ((b : Int) + 4) i := fun i => by
    rw [hG2, gU_c _ (by decide), gU_ne (by omega), gU_ne (by omega)]
    by_cases z : i = A 784 0
    · rw [z, gU_eq, if_pos rfl]
    · rw [gU_j z, if_neg z]
  have e5 : ∀ i, G2 1 ((b : Int) + 5) i = if i = A 784 0 then p2 else G 1 ((b : Int) + 5) i := fun i => by
    rw [hG2, gU_c _ (by decide), gU_ne (by omega)]
    by_cases z : i = A 784 0
    · rw [z, gU_eq, if_pos rfl]
    · rw [gU_j z, gU_ne (by omega), if_neg z]
  have e6 : ∀ i, G2 1 ((b : Int) + 6) i = if i = A 784 0 then p3 else G 1 ((b : Int) + 6) i := fun i => by
    rw [hG2, gU_c _ (by decide)]
    by_cases z : i = A 784 0
    · rw [z, gU_eq, if_pos rfl]
    · rw [gU_j z, gU_ne (by omega), gU_ne (by omega), if_neg z]
  have s1 : ∀ i, (zU (zU (zU (zU A 1 (A 784 0) p1) 2 (A 784 0) p2) 3 (A 784 0) p3) 784 0 (A 784 0 + 1)) 1 i = if i = A 784 0 then p1 else A 1 i := fun i => by
    rw [zU_k (by decide), zU_k (by decide), zU_k (by decide)]
    by_cases z : i = A 784 0
    · rw [z, zU_eq, if_pos rfl]
    · rw [zU_i z, if_neg z]
  have s2 : ∀ i, (zU (zU (zU (zU A 1 (A 784 0) p1) 2 (A 784 0) p2) 3 (A 784 0) p3) 784 0 (A 784 0 + 1)) 2 i = if i = A 784 0 then p2 else A 2 i := fun i => by
    rw [zU_k (by decide), zU_k (by decide)]
    by_cases z : i = A 784 0
    · rw [z, zU_eq, if_pos rfl]
    · rw [zU_i z, zU_k (by decide), if_neg z]
  have s3 : ∀ i, (zU (zU (zU (zU A 1 (A 784 0) p1) 2 (A 784 0) p2) 3 (A 784 0) p3) 784 0 (A 784 0 + 1)) 3 i = if i = A 784 0 then p3 else A 3 i := fun i => by
    rw [zU_k (by decide)]
    by_cases z : i = A 784 0
    · rw [z, zU_eq, if_pos rfl]
    · rw [zU_i z, zU_k (by decide), zU_k (by decide), if_neg z]
  have hd2 : zDoo b G2 (zU (zU (zU (zU A 1 (A 784 0) p1) 2 (A 784 0) p2) 3 (A 784 0) p3) 784 0 (A 784 0 + 1)) := by
    refine ⟨fun i i1 i2 => ?_, by rw [hG2, gU_eq, zU_eq]⟩
    have w := hd.1 i i1 i2
    rw [o 1 ((b : Int) + 7) i (by omega) (fun z => absurd z.1 (by decide)), zU_k (show (4 : Nat) ≠ 784 by decide), zU_k (show (4 : Nat) ≠ 3 by decide), zU_k (show (4 : Nat) ≠ 2 by decide), zU_k (show (4 : Nat) ≠ 1 by decide)]
    rw [e4, e5, e6, s1, s2, s3, w.1, w.2.1, w.2.2.1]
    exact ⟨rfl, rfl, rfl, w.2.2.2⟩
  have hB2 : zB 512 (zU (zU (zU (zU A 1 (A 784 0) p1) 2 (A 784 0) p2) 3 (A 784 0) p3) 784 0 (A 784 0 + 1)) := zB_u (zB_u (zB_u (zB_u hB ⟨h1.1, by show p1 ≤ 11; omega⟩) ⟨h2.1, by show p2 ≤ 11; omega⟩) ⟨by show 0 ≤ p3; omega, h3.2⟩) ⟨by show 0 ≤ A 784 0 + 1; omega, by show A 784 0 + 1 ≤ 20; omega⟩
  have hM2 : zDr (zU (zU (zU (zU A 1 (A 784 0) p1) 2 (A 784 0) p2) 3 (A 784 0) p3) 784 0 (A 784 0 + 1)) := fun d d1 d2 => by
    rw [zU_eq] at d2
    rw [zU_k (show (3 : Nat) ≠ 784 by decide)]
    by_cases z : d = A 784 0
    · rw [z, zU_eq]; exact h3.1
    · rw [zU_i z, zU_k (show (3 : Nat) ≠ 2 by decide), zU_k (show (3 : Nat) ≠ 1 by decide)]; exact hM d d1 (by omega)
  refine GM.mono (c_findWays hB2 hM2 hd2) ?_
  rintro _ G3 ⟨k1, k2⟩
  have hd3 := zDoo_x k1 hd2
  rw [hd3.2, zU_eq]
  exact ⟨by omega, by omega, hd3, k2, fun c i j c1 c2 => by rw [k1 c i j (by omega), o c i j (by omega) c2]⟩
theorem zfDoor_a {A : zA} {a r n : Int} (h : ¬ (¬ (0 ≤ a ∧ a < 12) ∨ ¬ (0 ≤ r ∧ r < 12))) (h2 : ¬ (a = r ∨ n < 1 ∨ n > 9 ∨ A 788 0 ≠ 0)) (h3 : ¬ A 784 0 = 20) : zfDoor A a r n = (A 784 0, zWs (zU (zU (zU (zU A 1 (A 784 0) a) 2 (A 784 0) r) 3 (A 784 0) n) 784 0 (A 784 0 + 1))) := by
  unfold zfDoor
  rw [if_neg h, if_neg h2, if_neg h3]
theorem c_C_door {e : gE} {b : Nat} {m : Int} {G : gH} {A : zA} {p1 p2 p3 : Int} (hR : zRel e b m G A) (hB : zB 512 A) (hM : zDr A) : GX e b m m_C_door [(2, ((b : Int) + 1)), (0, p1), (0, p2), (0, p3)] G 0 0 (zCQ e b m G (zfDoor A p1 p2 p3)) := by
  refine GM.inv fun hF => ?_
  have hlo := fx_lo hF
  have hr := hR
  obtain ⟨T, Q, P, ⟨r1, r2, r3, r4⟩, -⟩ := hr
  have bd : 0 ≤ A 784 0 ∧ A 784 0 ≤ 20 := hB 784 0
  refine GM.ofEV (by decide) (Nat.le_of_ble_eq_true rfl) (sg_C_door_0 ?_)
  rw [r1.2.2, r2.2.2.2.1]
  refine ⟨fun q1 q2 q3 q4 q5 => ⟨fun q6 => ?_, fun q6 => ?_⟩, fun q => ?_, fun q => ?_⟩
  · rw [zfDoor_a (by omega) (by omega) (by omega)]
    refine GM.mono (c_addDoor hB hM ⟨r1.1, r1.2.2⟩ q6 (by omega) (by omega) q4) ?_
    rintro v G1 ⟨k1, k2, k3, k4⟩
    have qc1 : zCh [1, 2, 3, 784] A (zU (zU (zU (zU A 1 (A 784 0) p1) 2 (A 784 0) p2) 3 (A 784 0) p3) 784 0 (A 784 0 + 1)) := zCh_m (zCh_t (zCh_t (zCh_t zCh_u zCh_u) zCh_u) zCh_u) (by decide)
    have qc : zCh [1, 2, 3, 784, 6] A (zWs (zU (zU (zU (zU A 1 (A 784 0) p1) 2 (A 784 0) p2) 3 (A 784 0) p3) 784 0 (A 784 0 + 1))) := zCh_t qc1 zCh_Ws
    have sx : zSx b [(1, 4), (1, 5), (1, 6), (1, 8), (150, 3)] G G1 := fun c k j c9 k0 k1 hn => by
      simp only [List.mem_cons, List.mem_nil_iff, Prod.mk.injEq, or_false, not_or, not_and] at hn
      refine k4 c _ j (fun z => ?_) (fun z => hn.2.2.2.2 z.1 (by omega))
      have h1 := hn.1 z.1
      have h2 := hn.2.1 z.1
      have h3 := hn.2.2.1 z.1
      have h4 := hn.2.2.2.1 z.1
      omega
    refine zCQ_mk k1 ?_ (fun c i j _ i1 i2 => k4 c i j (by omega) (by omega))
    refine zRel_s2 hR (zDyn_st hlo.1 (fun c i j z => k4 c i j (by omega) (by omega))) qc (by decide) (by rw [qc 788 (by decide)]; omega) (fun r1 r2 r3 r4 => ⟨⟨fun i i1 i2 => ?_, fun r y1 y2 => ?_, ?_⟩, zR2_A qc (by decide) (zR2_G sx (by decide) r2), zR3_A qc (by decide) (zR3_G sx (by decide) r3), zR4_A qc (by decide) (zR4_G sx (by decide) r4)⟩)
    · rw [zWs_k (by decide), zWs_k (by decide), zWs_k (by decide), zWs_k (by decide)]
      exact k2.1 i i1 i2
    · rw [zWay_s, k3 r y1 y2, qc 5 (by decide), sx 1 9 r (by decide) (by decide) (by decide) (by decide)]
      exact ⟨rfl, (r1.2.1 r y1 y2).2⟩
    · rw [zWs_k (by decide)]; exact k2.2
  · rw [show zfDoor A p1 p2 p3 = zNo A (-7) from by unfold zfDoor; rw [if_neg (show ¬ (¬ (0 ≤ p1 ∧ p1 < 12) ∨ ¬ (0 ≤ p2 ∧ p2 < 12)) by omega), if_neg (show ¬ (p1 = p2 ∨ p3 < 1 ∨ p3 > 9 ∨ A 788 0 ≠ 0) by omega), if_pos (show A 784 0 = 20 by omega)]]
    exact c_C_refuse hR hB (by decide)
  · rw [show zfDoor A p1 p2 p3 = zNo A (-1) from by unfold zfDoor; rw [if_pos (show (¬ (0 ≤ p1 ∧ p1 < 12) ∨ ¬ (0 ≤ p2 ∧ p2 < 12)) by omega)]]
    exact c_C_refuse hR hB (by decide)
  · rw [show zfDoor A p1 p2 p3 = zNo A (-6) from by unfold zfDoor; rw [if_neg (show ¬ (¬ (0 ≤ p1 ∧ p1 < 12) ∨ ¬ (0 ≤ p2 ∧ p2 < 12)) by omega), if_pos (show (p1 = p2 ∨ p3 < 1 ∨ p3 > 9 ∨ A 788 0 ≠ 0) by omega)]]
    exact c_C_refuse hR hB (by decide)
