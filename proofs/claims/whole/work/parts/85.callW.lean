/-! THE CLASS, 36: jobs gathered -/
set_option maxRecDepth 20000 in
set_option maxHeartbeats 4000000 in
theorem sg_Planner_gather_0 {e : gE} {b : Nat} {m : Int} {Z : Int → gH → Prop} {kc ks : Nat} {G : gH} {p1 : Int} (h : GX e b m m_AL_clear [(2, ((b : Int) + 13))] G 0 0 (fun _ G3 => GX e b m m_AL_clear [(2, ((b : Int) + 14))] G3 0 0 (fun _ G6 => EX e b m m_Planner_gather Z kc ks 16 [(2, ((b : Int) + 12)), (0, p1), (0, 0), (9, 0)] [] G6))) : EX e b m m_Planner_gather Z kc ks 0 [(2, ((b : Int) + 12)), (0, p1), (9, 0), (9, 0)] [] G := by
  refine e_aload_n d_Planner_gather_0 rfl ?_
  refine gx_Planner_25 d_Planner_gather_1 rfl ?_
  refine EV.inv fun hFf1 => ?_
  have f1 := (fx_ct 12 rfl hFf1).1
  refine e_callV m_AL_clear 0 lw_good d_Planner_gather_4 (k_AL_clear _) ⟨Nat.le_of_ble_eq_true rfl, Nat.le_of_ble_eq_true rfl⟩ w_631 w_632 w_633 (q_AL _) rfl f1 (args := []) rfl rfl (Nat.le_of_ble_eq_true rfl) (kc' := kc) (ks' := ks) (mc := 0) (ms := 0) rfl rfl h ?_
  intro v2 G3 h
  refine e_aload_n d_Planner_gather_7 rfl ?_
  refine gx_Planner_28 d_Planner_gather_8 rfl ?_
  refine EV.inv fun hFf4 => ?_
  have f4 := (fx_ct 13 rfl hFf4).1
  refine e_callV m_AL_clear 0 lw_good d_Planner_gather_11 (k_AL_clear _) ⟨Nat.le_of_ble_eq_true rfl, Nat.le_of_ble_eq_true rfl⟩ w_631 w_632 w_633 (q_AL _) rfl f4 (args := []) rfl rfl (Nat.le_of_ble_eq_true rfl) (kc' := kc) (ks' := ks) (mc := 0) (ms := 0) rfl rfl h ?_
  intro v5 G6 h
  refine e_iconst d_Planner_gather_14 (by decide) ?_
  refine e_istore_n (ls' := [(2, ((b : Int) + 12)), (0, p1), (0, 0), (9, 0)]) d_Planner_gather_15 (by decide) rfl ?_
  exact e_forget (ls' := [(2, ((b : Int) + 12)), (0, p1), (0, 0), (9, 0)]) ⟨Or.inr rfl, Or.inr rfl, Or.inr rfl, Or.inl rfl, trivial⟩ h
set_option maxRecDepth 20000 in
set_option maxHeartbeats 4000000 in
theorem sg_Planner_gather_16 {e : gE} {b : Nat} {m : Int} {Z : Int → gH → Prop} {kc ks : Nat} {G : gH} {p1 x2 : Int} (h : (G 0 ((b : Int) + 2) 0 = 1) ∧ (((G 18 ((b : Int) + 2) 0) ≤ x2 → Z 0 G) ∧ (x2 < (G 18 ((b : Int) + 2) 0) → (G 0 (G 17 ((b : Int) + 2) 0) 0 = 103) ∧ ((0 ≤ x2 ∧ x2 < G 18 ((b : Int) + 2) 0) ∧ ((G 18 ((b : Int) + 2) 0 ≤ G 0 (G 17 ((b : Int) + 2) 0) 1) ∧ ((G 0 (G 3 (G 17 ((b : Int) + 2) 0) x2) 0 = 10) ∧ ((G 0 (G 3 (G 17 ((b : Int) + 2) 0) x2) 0 = 10) ∧ ((inI (100 + 100)) ∧ (((¬ (100 ≤ G 598 (G 3 (G 17 ((b : Int) + 2) 0) x2) 0 ∧ G 598 (G 3 (G 17 ((b : Int) + 2) 0) x2) 0 < 100 + 100)) → (inI (x2 + 1)) ∧ EX e b m m_Planner_gather Z kc ks 16 [(2, ((b : Int) + 12)), (0, p1), (0, (x2 + 1)), (9, 0)] [] G) ∧ ((100 ≤ G 598 (G 3 (G 17 ((b : Int) + 2) 0) x2) 0 ∧ G 598 (G 3 (G 17 ((b : Int) + 2) 0) x2) 0 < 100 + 100) → GX e b m m_House_measure [(2, ((b : Int) + 3)), (2, (G 3 (G 17 ((b : Int) + 2) 0) x2)), (0, p1)] G 0 0 (fun v15 G16 => (v15 = 0 → (inI (x2 + 1)) ∧ EX e b m m_Planner_gather Z kc ks 16 [(2, ((b : Int) + 12)), (0, p1), (0, (x2 + 1)), (9, 0)] [] G16) ∧ (v15 ≠ 0 → GX e b m m_Planner_rankByDue [(2, ((b : Int) + 12)), (2, (G 3 (G 17 ((b : Int) + 2) 0) x2))] G16 0 0 (fun v20 G21 => ∃ kc25 ks26 mc27 ms28 : Nat, kc = kc25 + mc27 ∧ ks = ks26 + ms28 ∧ GX e b m m_AL_add_a [(2, ((b : Int) + 13)), (0, v20), (2, (G 3 (G 17 ((b : Int) + 2) 0) x2))] G21 mc27 ms28 (fun _ G24 => GX e b m m_Planner_rankByRate [(2, ((b : Int) + 12)), (2, (G 3 (G 17 ((b : Int) + 2) 0) x2))] G24 0 0 (fun v30 G31 => ∃ kc35 ks36 mc37 ms38 : Nat, kc25 = kc35 + mc37 ∧ ks26 = ks36 + ms38 ∧ GX e b m m_AL_add_a [(2, ((b : Int) + 14)), (0, v30), (2, (G 3 (G 17 ((b : Int) + 2) 0) x2))] G31 mc37 ms38 (fun _ G34 => (inI (x2 + 1)) ∧ EX e b m m_Planner_gather Z kc35 ks36 16 [(2, ((b : Int) + 12)), (0, p1), (0, (x2 + 1)), (9, 0)] [] G34)))))))))))))))) : EX e b m m_Planner_gather Z kc ks 16 [(2, ((b : Int) + 12)), (0, p1), (0, x2), (9, 0)] [] G := by
  refine e_iload_n d_Planner_gather_16 rfl ?_
  refine e_aload_n d_Planner_gather_17 rfl ?_
  refine gx_Planner_9 d_Planner_gather_18 rfl ?_
  refine EV.inv fun hFf1 => ?_
  have f1 := (fx_ct 1 rfl hFf1).1
  obtain ⟨o2, h⟩ := h
  refine e_callV m_AL_size 0 lw_good d_Planner_gather_21 (k_AL_size _) ⟨Nat.le_of_ble_eq_true rfl, Nat.le_of_ble_eq_true rfl⟩ w_635 w_330 w_331 (q_AL _) rfl f1 (args := []) rfl rfl (Nat.le_of_ble_eq_true rfl) (kc' := kc) (ks' := ks) (mc := 0) (ms := 0) rfl rfl (c_AL_size o2) (pureK ?_)
  refine e_icmp_ge (tgt := 92) d_Planner_gather_24 (by decide) (fun q3 => ?_) (fun q4 => ?_)
  · have h := h.1 q3
    exact e_vret d_Planner_gather_92 rfl h
  · have h := h.2 q4
    refine e_aload_n d_Planner_gather_27 rfl ?_
    refine gx_Planner_9 d_Planner_gather_28 rfl ?_
    refine e_iload_n d_Planner_gather_31 rfl ?_
    refine EV.inv fun hFf5 => ?_
    have f5 := (fx_ct 1 rfl hFf5).1
    obtain ⟨o6, o7, o8, h⟩ := h
    refine e_callV m_AL_get 0 lw_good d_Planner_gather_32 (k_AL_get _) ⟨Nat.le_of_ble_eq_true rfl, Nat.le_of_ble_eq_true rfl⟩ w_636 w_607 w_608 (q_AL _) rfl f5 (args := [(0, x2)]) rfl rfl (Nat.le_of_ble_eq_true rfl) (kc' := kc) (ks' := ks) (mc := 0) (ms := 0) rfl rfl (c_AL_get o2 o6 o7 o8) (pureK ?_)
    obtain ⟨o9, h⟩ := h
    refine e_cast 9 d_Planner_gather_35 (q_Thing _) w_637 (Or.inr o9) ?_
    refine e_astore_n (ls' := [(2, ((b : Int) + 12)), (0, p1), (0, x2), (2, (G 3 (G 17 ((b : Int) + 2) 0) x2))]) d_Planner_gather_38 (by decide) rfl ?_
    refine e_aload_n d_Planner_gather_39 rfl ?_
    refine e_bipush d_Planner_gather_40 (by decide) (by decide) ?_
    obtain ⟨o10, o11, h⟩ := h
    refine e_callV m_Thing_isAt 9 lw_good d_Planner_gather_42 (k_Thing_isAt _) ⟨Nat.le_of_ble_eq_true rfl, Nat.le_of_ble_eq_true rfl⟩ w_638 w_620 w_621 (q_Thing _) rfl o9 (args := [(0, 100)]) rfl rfl (Nat.le_of_ble_eq_true rfl) (kc' := kc) (ks' := ks) (mc := 0) (ms := 0) rfl rfl (c_Thing_isAt o10 o11) (pureK ?_)
    refine e_if_eq (tgt := 86) d_Planner_gather_45 (by decide) (fun q12 => ?_) (fun q13 => ?_)
    · replace q12 := gb0.mp q12
      have h := h.1 q12
      obtain ⟨o41, h⟩ := h
      refine e_iinc (ls' := [(2, ((b : Int) + 12)), (0, p1), (0, (x2 + 1)), (2, (G 3 (G 17 ((b : Int) + 2) 0) x2))]) d_Planner_gather_86 rfl (by decide) o41 rfl ?_
      refine e_goto (tgt := 16) d_Planner_gather_89 (by decide) ?_
      exact e_forget (ls' := [(2, ((b : Int) + 12)), (0, p1), (0, (x2 + 1)), (9, 0)]) ⟨Or.inr rfl, Or.inr rfl, Or.inr rfl, Or.inl rfl, trivial⟩ h
    · replace q13 := gb1.mp q13
      have h := h.2 q13
      refine e_aload_n d_Planner_gather_48 rfl ?_
      refine gx_Planner_18 d_Planner_gather_49 rfl ?_
      refine e_aload_n d_Planner_gather_52 rfl ?_
      refine e_iload_n d_Planner_gather_53 rfl ?_
      refine EV.inv fun hFf14 => ?_
      have f14 := (fx_ct 2 rfl hFf14).1
      refine e_callV m_House_measure 2 lw_good d_Planner_gather_54 (k_House_measure _) ⟨Nat.le_of_ble_eq_true rfl, Nat.le_of_ble_eq_true rfl⟩ w_639 w_640 w_641 (q_House _) rfl f14 (args := [(2, (G 3 (G 17 ((b : Int) + 2) 0) x2)), (0, p1)]) rfl rfl (Nat.le_of_ble_eq_true rfl) (kc' := kc) (ks' := ks) (mc := 0) (ms := 0) rfl rfl h ?_
      intro v15 G16 h
      refine e_if_eq (tgt := 86) d_Planner_gather_57 (by decide) (fun q17 => ?_) (fun q18 => ?_)
      · have h := h.1 q17
        obtain ⟨o40, h⟩ := h
        refine e_iinc (ls' := [(2, ((b : Int) + 12)), (0, p1), (0, (x2 + 1)), (2, (G 3 (G 17 ((b : Int) + 2) 0) x2))]) d_Planner_gather_86 rfl (by decide) o40 rfl ?_
        refine e_goto (tgt := 16) d_Planner_gather_89 (by decide) ?_
        exact e_forget (ls' := [(2, ((b : Int) + 12)), (0, p1), (0, (x2 + 1)), (9, 0)]) ⟨Or.inr rfl, Or.inr rfl, Or.inr rfl, Or.inl rfl, trivial⟩ h
      · have h := h.2 q18
        refine e_aload_n d_Planner_gather_60 rfl ?_
        refine gx_Planner_25 d_Planner_gather_61 rfl ?_
        refine e_aload_n d_Planner_gather_64 rfl ?_
        refine e_aload_n d_Planner_gather_65 rfl ?_
        refine EV.inv fun hFf19 => ?_
        have f19 := (fx_ct 11 rfl hFf19).1
        refine e_callV m_Planner_rankByDue 5 lw_good d_Planner_gather_66 (k_Planner_rankByDue _) ⟨Nat.le_of_ble_eq_true rfl, Nat.le_of_ble_eq_true rfl⟩ w_657 w_659 w_s15 (q_Planner _) rfl f19 (args := [(2, (G 3 (G 17 ((b : Int) + 2) 0) x2))]) rfl rfl (Nat.le_of_ble_eq_true rfl) (kc' := kc) (ks' := ks) (mc := 0) (ms := 0) rfl rfl h ?_
        intro v20 G21 h
        refine e_aload_n d_Planner_gather_69 rfl ?_
        refine EV.inv fun hFf22 => ?_
        have f22 := (fx_ct 12 rfl hFf22).1
        obtain ⟨kc25, ks26, mc27, ms28, hkc25, hks26, h⟩ := h
        refine e_callV m_AL_add_a 0 lw_good d_Planner_gather_70 (k_AL_add_a _) ⟨Nat.le_of_ble_eq_true rfl, Nat.le_of_ble_eq_true rfl⟩ w_665 w_666 w_667 (q_AL _) rfl f22 (args := [(0, v20), (2, (G 3 (G 17 ((b : Int) + 2) 0) x2))]) rfl rfl (Nat.le_of_ble_eq_true rfl) (kc' := kc25) (ks' := ks26) (mc := mc27) (ms := ms28) hkc25 hks26 h ?_
        intro v23 G24 h
        refine e_aload_n d_Planner_gather_73 rfl ?_
        refine gx_Planner_28 d_Planner_gather_74 rfl ?_
        refine e_aload_n d_Planner_gather_77 rfl ?_
        refine e_aload_n d_Planner_gather_78 rfl ?_
        refine EV.inv fun hFf29 => ?_
        have f29 := (fx_ct 11 rfl hFf29).1
        refine e_callV m_Planner_rankByRate 5 lw_good d_Planner_gather_79 (k_Planner_rankByRate _) ⟨Nat.le_of_ble_eq_true rfl, Nat.le_of_ble_eq_true rfl⟩ w_674 w_676 w_s17 (q_Planner _) rfl f29 (args := [(2, (G 3 (G 17 ((b : Int) + 2) 0) x2))]) rfl rfl (Nat.le_of_ble_eq_true rfl) (kc' := kc25) (ks' := ks26) (mc := 0) (ms := 0) rfl rfl h ?_
        intro v30 G31 h
        refine e_aload_n d_Planner_gather_82 rfl ?_
        refine EV.inv fun hFf32 => ?_
        have f32 := (fx_ct 13 rfl hFf32).1
        obtain ⟨kc35, ks36, mc37, ms38, hkc35, hks36, h⟩ := h
        refine e_callV m_AL_add_a 0 lw_good d_Planner_gather_83 (k_AL_add_a _) ⟨Nat.le_of_ble_eq_true rfl, Nat.le_of_ble_eq_true rfl⟩ w_665 w_666 w_667 (q_AL _) rfl f32 (args := [(0, v30), (2, (G 3 (G 17 ((b : Int) + 2) 0) x2))]) rfl rfl (Nat.le_of_ble_eq_true rfl) (kc' := kc35) (ks' := ks36) (mc := mc37) (ms := ms38) hkc35 hks36 h ?_
        intro v33 G34 h
        obtain ⟨o39, h⟩ := h
        refine e_iinc (ls' := [(2, ((b : Int) + 12)), (0, p1), (0, (x2 + 1)), (2, (G 3 (G 17 ((b : Int) + 2) 0) x2))]) d_Planner_gather_86 rfl (by decide) o39 rfl ?_
        refine e_goto (tgt := 16) d_Planner_gather_89 (by decide) ?_
        exact e_forget (ls' := [(2, ((b : Int) + 12)), (0, p1), (0, (x2 + 1)), (9, 0)]) ⟨Or.inr rfl, Or.inr rfl, Or.inr rfl, Or.inl rfl, trivial⟩ h
def zMe (A : zA) (G : gH) (T : Int → Int) (t : Int) : Prop := G 602 (T t) 0 = zLen A t ∧ G 603 (T t) 0 = zLat A t ∧ G 601 (T t) 0 = -1
def zGat (e : gE) (b : Nat) (m : Int) (G0 G : gH) (A : zA) (T : Int → Int) (i n1 : Int) (O1 : Int → Int) (n2 : Int) (O2 : Int → Int) : Prop := (zPF b m G0 G ∧ zDst b G) ∧ (zAL e b m G ((b : Int) + 13) 10 n1 (fun k => T (O1 k)) ∧ zAL e b m G ((b : Int) + 14) 10 n2 (fun k => T (O2 k))) ∧ (zEnum (zJb A) (zDue A) i n1 O1 ∧ zEnum (zJb A) (fun t => -zRt A t) i n2 O2) ∧ ∀ t, 0 ≤ t → t < i → zJb A t → zMe A G T t
theorem zEnum_s {P : Int → Prop} {D O : Int → Int} {T n : Int} (h : zEnum P D T n O) {i j : Int} (h1 : 0 ≤ i) (h2 : i ≤ j) (h3 : j < n) : D (O i) ≤ D (O j) := by
  by_cases z : i = j
  · rw [z]; exact Int.le_refl _
  · have := h.2.2.1 i j h1 (by omega) h3
    rcases this with q | q
    · omega
    · omega
theorem zPut_f {T O : Int → Int} {k x : Int} : zPut (fun i => T (O i)) k (T x) = fun i => T (zPut O k x i) := by
  funext i
  unfold zPut
  (repeat' split) <;> rfl
theorem zJb_b {A : zA} {t : Int} (hB : zB 512 A) (h : zJb A t) : (1 ≤ zLen A t ∧ zLen A t ≤ 300) ∧ (-700 ≤ zLat A t ∧ zLat A t ≤ 500) ∧ 0 ≤ zFar A t := by
  have bf : -1 ≤ zFar A t ∧ zFar A t ≤ 99 := hB 6 (A 11 t - 100)
  have bp : 0 ≤ A 10 t ∧ A 10 t ≤ 20 := hB 10 t
  have bd : -1 ≤ zDng A t ∧ zDng A t ≤ 240 := hB 5 (A 11 t - 100)
  have be : 0 ≤ A 790 0 ∧ A 790 0 ≤ 240 := hB 790 0
  have hf := h.2
  have bl : 1 ≤ zLen A t ∧ zLen A t ≤ 300 := by
    unfold zLen
    (repeat' split) <;> omega
  refine ⟨bl, ?_, by omega⟩
  unfold zLat
  (repeat' split) <;> omega
/-- insertion keeps the enumeration -/
theorem zEnum_put {P : Int → Prop} {D O : Int → Int} {T n k : Int} (h : zEnum P D T n O) (hP : P T) (hk : 0 ≤ k ∧ k ≤ n) (h1 : ∀ i, 0 ≤ i → i < k → D (O i) ≤ D T) (h2 : ∀ i, k ≤ i → i < n → D T < D (O i)) : zEnum P D (T + 1) (n + 1) (zPut O k T) :=
  zEnum_ins h hP hk h1 h2 (fun i i1 i2 => zPut_lt i2) zPut_eq (fun i i1 i2 => by unfold zPut; rw [if_neg (by omega), if_neg (by omega)])
theorem zPF_h {e : gE} {b : Nat} {m : Int} {G G1 : gH} {n1 n2 : Int} {f1 f2 : Int → Int} (hT : ∀ a : Int, G 0 a 0 ≠ 0 → 0 < a ∧ a < G 9 0 0) (hlo : (b : Int) + 53 < m ∧ m + 45 < G 9 0 0) (hL : ∀ k, zLs k → G 0 (G 17 ((b : Int) + k) 0) 0 ≠ 0) (w : zPF b m G G1) (l1 : zAL e b m G1 ((b : Int) + 13) 10 n1 f1) (l2 : zAL e b m G1 ((b : Int) + 14) 10 n2 f2) : ∀ k, zLs k → G1 0 (G1 17 ((b : Int) + k) 0) 0 ≠ 0 := fun k hk => by
  by_cases z : k = 13
  · rw [z]; exact zAL_0 l1
  · by_cases z2 : k = 14
    · rw [z2]; exact zAL_0 l2
    · have e1 : G1 17 ((b : Int) + k) 0 = G 17 ((b : Int) + k) 0 := w.2.2 _ _ _ (by decide) (by omega) (by omega) (by omega) (fun z => absurd z.1 (by decide)) (by omega)
      have h := hL k hk
      rw [e1, w.2.2 0 _ _ (by decide) (hT _ h).2 (by omega) (by omega) (by omega) (by omega)]
      exact h
theorem l_gather {e : gE} {b : Nat} {m : Int} {G0 : gH} {A : zA} {T τ : Int → Int} {Z : Int → gH → Prop} (hTg : ∀ a : Int, G0 0 a 0 ≠ 0 → 0 < a ∧ a < G0 9 0 0) (hF : gFix b m G0) (hB : zB 512 A) (hI : zIr A) (hWf : zWf A) (hph : A 788 0 = 1) (r1 : zR1 b G0 A) (hT : zRkT e b m G0 A T τ) (hD : zDst b G0) (hL : ∀ k, zLs k → G0 0 (G0 17 ((b : Int) + k) 0) 0 ≠ 0) (K : ∀ G n1 O1 n2 O2, zGat e b m G0 G A T (A 785 0) n1 O1 n2 O2 → Z 0 G) : ∀ (i : Int) (G : gH) (kc ks : Nat) (n1 : Int) (O1 : Int → Int) (n2 : Int) (O2 : Int → Int), 0 ≤ i → i ≤ A 785 0 → 2 * (A 785 0 - i) ≤ kc → 80 * (A 785 0 - i) ≤ ks → zGat e b m G0 G A T i n1 O1 n2 O2 → EX e b m m_Planner_gather Z kc ks 16 [(2, ((b : Int) + 12)), (0, A 790 0), (0, i), (9, 0)] [] G := by
  have hlo := fx_lo hF
  have b0 : 0 ≤ A 785 0 ∧ A 785 0 ≤ 16 := hB 785 0
  intro i0 G kc0 ks0 n10 O10 n20 O20 h0 h1 hkc0 hks0 hg0
  refine zloop (P := fun i => ∀ (G : gH) (kc ks : Nat) (n1 : Int) (O1 : Int → Int) (n2 : Int) (O2 : Int → Int), 2 * (A 785 0 - i) ≤ kc → 80 * (A 785 0 - i) ≤ ks → zGat e b m G0 G A T i n1 O1 n2 O2 → EX e b m m_Planner_gather Z kc ks 16 [(2, ((b : Int) + 12)), (0, A 790 0), (0, i), (9, 0)] [] G) (i := i0) (A 785 0) h1 ?_ ?_ G kc0 ks0 n10 O10 n20 O20 hkc0 hks0 hg0
  · intro G kc ks n1 O1 n2 O2 _ _ hg
    have hT1 := zPF_T hTg hlo hD hg.1.1 hT
    refine sg_Planner_gather_16 ⟨hT1.1.1, fun _ => K G n1 O1 n2 O2 hg, fun z => ?_⟩
    rw [hT1.1.2.1] at z
    omega
  · intro x x1 x2 st G kc ks n1 O1 n2 O2 hkc hks hg
    have x0 : 0 ≤ x := by omega
    have hT1 := zPF_T hTg hlo hD hg.1.1 hT
    have w := zAL_g hT1.1 ⟨x0, x2⟩
    obtain ⟨⟨pf, dst⟩, ⟨l1, l2⟩, ⟨en1, en2⟩, me⟩ := hg
    obtain ⟨⟨⟨t1, t2⟩, t3, t4, t5, t6, t7, t8, t9, t10, t11⟩, -⟩ := hT1.2.1 x x0 x2
    have ht : zTh A x := ⟨x0, x2⟩
    refine sg_Planner_gather_16 ⟨hT1.1.1, ?_⟩
    rw [hT1.1.2.1, w.2.2.1]
    refine ⟨fun z => by omega, fun _ => ⟨w.1, ⟨x0, x2⟩, w.2.1, t1, t1, ?_⟩⟩
    rw [t8]
    have bw : 0 ≤ A 11 x ∧ A 11 x ≤ 609 := hB 11 x
    refine ⟨by omega, fun q => ⟨by omega, st G kc ks n1 O1 n2 O2 (by omega) (by omega) ⟨⟨pf, dst⟩, ⟨l1, l2⟩, ⟨zEnum_skip en1 (fun z => q ⟨z.1.1, by have := z.1.2; omega⟩), zEnum_skip en2 (fun z => q ⟨z.1.1, by have := z.1.2; omega⟩)⟩, fun t y1 y2 y3 => ?_⟩⟩, fun q => ?_⟩
    · by_cases z : t = x
      · rw [z] at y3; exact absurd ⟨y3.1.1, by have := y3.1.2; omega⟩ q
      · exact me t y1 (by omega) y3
    · have hi : zIn A x := ⟨q.1, by omega⟩
      have sx := zPF_x hlo pf
      have r11 : zR1 b G A := zR1_G sx (by decide +kernel) r1
      refine GM.mono (c_House_measure t1 (by omega) hB hI hWf hph ht hi (t11 hi) t7 r11) ?_
      rintro v G2 (⟨k1, rfl, rfl⟩ | ⟨k1, rfl, k2, k3, k4, k5⟩)
      · refine ⟨fun _ => ⟨by omega, st G2 kc ks n1 O1 n2 O2 (by omega) (by omega) ⟨⟨pf, dst⟩, ⟨l1, l2⟩, ⟨zEnum_skip en1 (fun z => z.2 k1), zEnum_skip en2 (fun z => z.2 k1)⟩, fun t y1 y2 y3 => ?_⟩⟩, fun z => absurd rfl z⟩
        by_cases z : t = x
        · rw [z] at y3; exact absurd k1 y3.2
        · exact me t y1 (by omega) y3
      · refine ⟨fun z => absurd z (by decide), fun _ => ?_⟩
        have hj : zJb A x := ⟨hi, k1⟩
        refine GM.tg fun hTg2 => GM.inv fun hF2 => ?_
        have hlo2 := fx_lo hF2
        have pf2 : zPF b m G0 G2 := zPF_t pf (zPF_ms hlo.1 t2 k2)
        have oth : ∀ t, 0 ≤ t → t < x → T t ≠ T x := fun t y1 y2 z => by have := zRkT_i hT1 ⟨y1, by omega⟩ ht z; omega
        have me2 : ∀ t, 0 ≤ t → t < x + 1 → zJb A t → zMe A G2 T t := fun t y1 y2 y3 => by
          by_cases z : t = x
          · rw [z]; exact ⟨k3, k4, k5⟩
          · have := me t y1 (by omega) y3
            have o := oth t y1 (by omega)
            unfold zMe at *
            rw [k2 _ _ _ (fun z => o z.1), k2 _ _ _ (fun z => o z.1), k2 _ _ _ (fun z => o z.1)]
            exact this
        have l1' : zAL e b m G2 ((b : Int) + 13) 10 n1 (fun k => T (O1 k)) := zAL_fr (by decide) l1 (fun i j _ => k2 _ _ _ (by omega)) (k2 _ _ _ (by omega)) (k2 _ _ _ (by omega)) (fun _ j => k2 _ _ _ (by omega))
        have l2' : zAL e b m G2 ((b : Int) + 14) 10 n2 (fun k => T (O2 k)) := zAL_fr (by decide) l2 (fun i j _ => k2 _ _ _ (by omega)) (k2 _ _ _ (by omega)) (k2 _ _ _ (by omega)) (fun _ j => k2 _ _ _ (by omega))
        have d2 : zDst b G2 := fun i j i1 j1 ne z => by
          rw [k2 17 _ _ (by omega)] at z ⊢
          rw [k2 17 _ _ (by omega)]
          rw [k2 0 _ _ (by omega)] at z
          exact dst i j i1 j1 ne z
        have hT2 := zPF_T hTg hlo hD pf2 hT
        obtain ⟨⟨⟨u1, u2⟩, u3, u4, u5, -⟩, -⟩ := hT2.2.1 x x0 x2
        have bj := zJb_b hB hj
        have bo1 : ∀ i, 0 ≤ i → i < n1 → (0 ≤ O1 i ∧ O1 i < x) ∧ zJb A (O1 i) := en1.2.1
        have bo2 : ∀ i, 0 ≤ i → i < n2 → (0 ≤ O2 i ∧ O2 i < x) ∧ zJb A (O2 i) := en2.2.1
        refine GM.mono (c_rankByDue (D := fun i => zDue A (O1 i)) (d := zDue A x) l1' ⟨en1.1.1, by have := en1.1.2; omega⟩ u1 (by rw [k3, k4]; rfl) (fun i i1 i2 => ?_) (by unfold zDue; omega) (fun i i1 i2 => ?_) (fun i j i1 i2 i3 => zEnum_s en1 i1 i2 i3)) ?_
        · have q1 := bo1 i i1 i2
          have q2 := me2 _ q1.1.1 (by omega) q1.2
          show G2 603 (T (O1 i)) 0 + G2 602 (T (O1 i)) 0 = zDue A (O1 i)
          rw [q2.1, q2.2.1]; rfl
        · have q1 := zJb_b hB (bo1 i i1 i2).2
          show -2000 ≤ zDue A (O1 i) ∧ zDue A (O1 i) ≤ 2000
          unfold zDue
          omega
        rintro v G3 ⟨rfl, v1, v2, v3⟩
        have c1 : 1 ≤ kc := by omega
        refine ⟨kc - 1, ks - 40, 1, 40, by omega, by omega, GM.mono (c_AL_add_a gr_Thing (by decide) l1' (by have := en1.1.2; omega) v1 u1 (by omega)) ?_⟩
        rintro _ G4 ⟨l3, af3⟩
        rw [zPut_f] at l3
        refine GM.tg fun hTg4 => GM.inv fun hF4 => ?_
        have hlo4 := fx_lo hF4
        have aT : ∀ t, 0 ≤ t → t < A 785 0 → T t < G3 9 0 0 := fun t y1 y2 => (hTg2 _ (by have := hT2.1.2.2.1 t y1 y2; omega)).2
        have pf4 : zPF b m G0 G4 := zPF_t pf2 (zPF_af hlo2 (Or.inl rfl) af3)
        have d4 : zDst b G4 := zDst_af hTg2 hlo2 (zPF_h hTg hlo hL pf2 l1' l2') (by decide) af3 d2
        have l4 : zAL e b m G4 ((b : Int) + 14) 10 n2 (fun k => T (O2 k)) := zAL_af hTg2 hlo2 d2 (by decide) (by decide) (by decide) af3 (by decide) l2'
        have me4 : ∀ t, 0 ≤ t → t < x + 1 → zJb A t → zMe A G4 T t := fun t y1 y2 y3 => by
          have := me2 t y1 y2 y3
          have o := aT t y1 (by omega)
          unfold zMe at *
          rw [af3.2.2 _ _ _ (by decide) o (by omega) (by omega), af3.2.2 _ _ _ (by decide) o (by omega) (by omega), af3.2.2 _ _ _ (by decide) o (by omega) (by omega)]
          exact this
        have hT4 := zPF_T hTg hlo hD pf4 hT
        have wv : ∀ t, 0 ≤ t → t < A 785 0 → G4 594 (T t) 0 = A 8 t := fun t y1 y2 => (hT4.2.1 t y1 y2).1.2.2.2.1
        have bwo : ∀ t, 0 ≤ A 8 t ∧ A 8 t ≤ 100 := fun t => hB 8 t
        have q0 := me4 x x0 (by omega) hj
        refine GM.mono (c_rankByRate (D := fun i => -zRt A (O2 i)) (d := -zRt A x) l4 ⟨en2.1.1, by have := en2.1.2; omega⟩ (hT4.2.1 x x0 x2).1.1.1 (by rw [q0.1, wv x x0 x2]; exact ⟨by omega, rfl⟩) (fun i i1 i2 => ?_) (by rw [wv x x0 x2]; exact bwo x) (fun i i1 i2 => ?_) (fun i j i1 i2 i3 => zEnum_s en2 i1 i2 i3)) ?_
        · have q1 := bo2 i i1 i2
          have q2 := me4 _ q1.1.1 (by omega) q1.2
          have q3 := zJb_b hB q1.2
          show 0 < G4 602 (T (O2 i)) 0 ∧ -(G4 594 (T (O2 i)) 0 * 1000 / G4 602 (T (O2 i)) 0) = -zRt A (O2 i)
          rw [q2.1, wv _ q1.1.1 (by omega)]
          exact ⟨by omega, rfl⟩
        · have q1 := bo2 i i1 i2
          show 0 ≤ G4 594 (T (O2 i)) 0 ∧ G4 594 (T (O2 i)) 0 ≤ 100
          rw [wv _ q1.1.1 (by omega)]
          exact bwo _
        rintro v' G5 ⟨rfl, y1, y2, y3⟩
        refine ⟨kc - 2, ks - 80, 1, 40, by omega, by omega, GM.mono (c_AL_add_a gr_Thing (by decide) l4 (by have := en2.1.2; omega) y1 (hT4.2.1 x x0 x2).1.1.1 (by omega)) ?_⟩
        rintro _ G6 ⟨l6, af6⟩
        rw [zPut_f] at l6
        have aT4 : ∀ t, 0 ≤ t → t < A 785 0 → T t < G5 9 0 0 := fun t y1 y2 => (hTg4 _ (by have := hT4.1.2.2.1 t y1 y2; omega)).2
        refine ⟨by omega, st G6 (kc - 2) (ks - 80) (n1 + 1) (zPut O1 v x) (n2 + 1) (zPut O2 v' x) (by omega) (by omega) ⟨⟨zPF_t pf4 (zPF_af hlo4 (Or.inr rfl) af6), zDst_af hTg4 hlo4 (zPF_h hTg hlo hL pf4 l3 l4) (by decide) af6 d4⟩, ⟨zAL_af hTg4 hlo4 d4 (by decide) (by decide) (by decide) af6 (by decide) l3, l6⟩, ⟨zEnum_put en1 hj v1 v2 v3, zEnum_put en2 hj y1 y2 y3⟩, fun t z1 z2 z3 => ?_⟩⟩
        have := me4 t z1 z2 z3
        have o := aT4 t z1 (by omega)
        unfold zMe at *
        rw [af6.2.2 _ _ _ (by decide) o (by omega) (by omega), af6.2.2 _ _ _ (by decide) o (by omega) (by omega), af6.2.2 _ _ _ (by decide) o (by omega) (by omega)]
        exact this
/-- the lists of the planner are there -/
def zRj0 (e : gE) (b : Nat) (m : Int) (G : gH) : Prop := (∃ (n : Int) (f : Int → Int), zAL e b m G ((b : Int) + 13) 10 n f) ∧ (∃ (n : Int) (f : Int → Int), zAL e b m G ((b : Int) + 14) 10 n f) ∧ ∃ (n : Int) (f : Int → Int), zAL e b m G ((b : Int) + 24) 10 n f
theorem zRj0_J {e : gE} {b : Nat} {m : Int} {G : gH} {A : zA} {T : Int → Int} (h : zRkJ e b m G A T) : zRj0 e b m G := by
  obtain ⟨⟨n, f, h1, -⟩, h3, h4⟩ := h
  exact ⟨⟨n, f, h1⟩, h3, h4⟩
/-- the class's state, but for what the jobs are -/
def zRo (e : gE) (b : Nat) (m : Int) (G : gH) (A : zA) (T Q P : Int → Int) : Prop := (zR1 b G A ∧ zR2 b G A ∧ zR3 b G A ∧ zR4 b G A) ∧ zRkT e b m G A T (zTau A) ∧ zRkQ e b m G A T Q ∧ zRkP e b m G A P ∧ zRj0 e b m G ∧ zDst b G
theorem zRo_c {e : gE} {b : Nat} {m : Int} {G : gH} {A : zA} {T Q P : Int → Int} (h : zRc e b m G A T Q P) : zRo e b m G A T Q P := ⟨h.1, h.2.1, h.2.2.1, h.2.2.2.1, zRj0_J h.2.2.2.2.1, h.2.2.2.2.2⟩
theorem zLs_1 {e : gE} {b : Nat} {m : Int} {G : gH} {A : zA} {T Q P τ : Int → Int} (hT : zRkT e b m G A T τ) (hQ : zRkQ e b m G A T Q) (hP : zRkP e b m G A P) (hJ : zRj0 e b m G) : ∀ k, zLs k → G 0 (G 17 ((b : Int) + k) 0) 0 ≠ 0 := by
  obtain ⟨⟨n, f, h1⟩, ⟨n2, f2, h3⟩, ⟨n3, f3, h4⟩⟩ := hJ
  rintro k (z | z | z | z | z | z) <;> subst z
  · exact zAL_0 hT.1
  · exact zAL_0 hQ.1
  · exact zAL_0 h1
  · exact zAL_0 h3
  · exact zAL_0 hP.1
  · exact zAL_0 h4
theorem c_gather {e : gE} {b : Nat} {m : Int} {G : gH} {A : zA} {T Q P : Int → Int} (hR : zRo e b m G A T Q P) (hB : zB 512 A) (hI : zIr A) (hWf : zWf A) (hph : A 788 0 = 1) : GX e b m m_Planner_gather [(2, ((b : Int) + 12)), (0, A 790 0)] G 32 1280 (fun _ G1 => ∃ n1 O1 n2 O2, zGat e b m G G1 A T (A 785 0) n1 O1 n2 O2) := by
  refine GM.tg fun hTg => GM.inv fun hF => ?_
  have hlo := fx_lo hF
  have b0 : 0 ≤ A 785 0 ∧ A 785 0 ≤ 16 := hB 785 0
  obtain ⟨⟨r1, -⟩, hT, hQ, hP, hJ, hD⟩ := hR
  have hL := zLs_1 hT hQ hP hJ
  obtain ⟨⟨n, f, h1⟩, ⟨n2, f2, h3⟩, -⟩ := hJ
  refine GM.ofEV (by decide) (Nat.le_of_ble_eq_true rfl) (sg_Planner_gather_0 ?_)
  refine GM.mono (c_AL_clear (by decide) h1 (by omega) (fun k => T k)) ?_
  rintro _ G1 ⟨l1, af1⟩
  refine GM.tg fun hTg1 => GM.inv fun hF1 => ?_
  have hlo1 := fx_lo hF1
  have pf1 : zPF b m G G1 := zPF_af hlo (Or.inl rfl) af1
  have h3' := zAL_af hTg hlo hD (by decide) (by decide) (by decide) af1 (by decide) h3
  have d1 : zDst b G1 := zDst_af hTg hlo hL (by decide) af1 hD
  have hL1 := zPF_h hTg hlo hL pf1 l1 h3'
  refine GM.mono (c_AL_clear (by decide) h3' (by omega) (fun k => T k)) ?_
  rintro _ G2 ⟨l2, af2⟩
  have l1' := zAL_af hTg1 hlo1 d1 (by decide) (by decide) (by decide) af2 (by decide) l1
  have d2 : zDst b G2 := zDst_af hTg1 hlo1 hL1 (by decide) af2 d1
  refine l_gather hTg hF hB hI hWf hph r1 hT hD hL (fun G n1 O1 n2 O2 h => ⟨n1, O1, n2, O2, h⟩) 0 G2 32 1280 0 (fun k => k) 0 (fun k => k) (by decide) b0.1 (by omega) (by omega) ⟨⟨zPF_t pf1 (zPF_af hlo1 (Or.inr rfl) af2), d2⟩, ⟨l1', l2⟩, ⟨zEnum_0, zEnum_0⟩, fun t t1 t2 => by omega⟩
