/-! THE CLASS, 45: a job is begun -/
def zHo (A : zA) : Prop := zHI A ∧ A 788 0 = 1 ∧ zTeam A ∧ zS2 A
/-- what teams have in hand ends so much later -/
def zFn (c : Int) (A : zA) : Prop := ∀ k, 0 ≤ k → k < A 786 0 → A 17 k ≠ -1 → A 789 0 + c ≤ A 16 k
abbrev zB1 (A : zA) (k t : Int) : zA := zU (zU A 16 k (A 789 0 + zLen A t)) 17 k t
theorem zB1_ch {A : zA} {k t : Int} : zCh [16, 17] A (zB1 A k t) := zCh_t zCh_u zCh_u
theorem zB1_16 {A : zA} {k t j : Int} : zB1 A k t 16 j = if j = k then A 789 0 + zLen A t else A 16 j := by
  show zU (zU A 16 k (A 789 0 + zLen A t)) 17 k t 16 j = _
  rw [zU_k (by decide)]
  by_cases z : j = k
  · rw [z, zU_eq, if_pos rfl]
  · rw [zU_i z, if_neg z]
theorem zB1_17 {A : zA} {k t j : Int} : zB1 A k t 17 j = if j = k then t else A 17 j := by
  show zU (zU A 16 k (A 789 0 + zLen A t)) 17 k t 17 j = _
  by_cases z : j = k
  · rw [z, zU_eq, if_pos rfl]
  · rw [zU_i z, if_neg z, zU_k (by decide)]
theorem zGo_ch2 {A : zA} {t w : Int} : zCh [35, 36, 37, 794, 38, 11] A (zGo A t w) := zGo_ch
theorem zTeam_c {A B : zA} {ks : List Nat} (h : zTeam A) (q : zCh ks A B) (hk : ∀ k ∈ [785, 788, 786, 6, 14], k ∉ ks) (hw : ∀ t, zTh A t → zIn B t → B 11 t = A 11 t) : zTeam B := fun t ht hi => by
  unfold zTh at ht
  rw [q 785 (hk 785 (by decide))] at ht
  have ew := hw t ht hi
  have hA : zIn A t := by unfold zIn at hi ⊢; rw [← ew]; exact hi
  have w := h t ht hA
  rw [q 14 (hk 14 (by decide)), q 788 (hk 788 (by decide)), q 786 (hk 786 (by decide))]
  refine w.imp id (fun z => ⟨z.1, z.2.1, ?_⟩)
  unfold zFar at z ⊢
  rw [ew, q 6 (hk 6 (by decide))]
  exact z.2.2
theorem zPw_2 {A : zA} {t : Int} (h : zIn A t) : zPw (A 11 t) = 2 := by unfold zPw; exact if_pos h
theorem zPw_1 {w : Int} (h : 200 ≤ w ∧ w < 300) : zPw w = 1 := by unfold zPw; rw [if_neg (by omega), if_pos h]
theorem zPw_0 {w : Int} (h : 300 ≤ w) : zPw w = 0 := by unfold zPw; rw [if_neg (by omega), if_neg (by omega)]
theorem zBg1_go {A : zA} {k t v : Int} (h1 : A 17 k = -1) (h2 : ¬ A 789 0 < A 16 k) (h3 : zNxt A k = t) (h4 : t ≠ -1) : (zBg1 k (v, A)).2 = zGo (zB1 A k t) t (200 + k) := by
  unfold zBg1
  dsimp only
  rw [if_neg (by rw [h3]; omega), h3]
theorem zBg1_h {A : zA} {k v : Int} (hk : 0 ≤ k ∧ k < A 786 0) (h : zHo A) (hf : zFn 1 A) : zHo (zBg1 k (v, A)).2 ∧ zFn 1 (zBg1 k (v, A)).2 ∧ zPP (zBg1 k (v, A)).2 ≤ zPP A := by
  obtain ⟨hi, hp, hm, hs⟩ := h
  have bt : 0 ≤ A 786 0 ∧ A 786 0 ≤ 3 := hi.1 786 0
  have b0 : 0 ≤ A 785 0 ∧ A 785 0 ≤ 16 := hi.1 785 0
  have bs : 0 ≤ A 794 0 ∧ A 794 0 ≤ 16 * 512 + 32 := hi.1 794 0
  have w := zBg1_w (k := k) (r := (v, A)) ⟨hk.1, by omega⟩ hi
  have wm := w.2
  by_cases q : A 17 k ≠ -1 ∨ A 789 0 < A 16 k ∨ zNxt A k = -1
  · have e : (zBg1 k (v, A)).2 = A := by unfold zBg1; dsimp only; rw [if_pos q]
    rw [e]
    exact ⟨⟨hi, hp, hm, hs⟩, hf, Int.le_refl _⟩
  · have e := zBg1_go (A := A) (k := k) (t := zNxt A k) (v := v) (by omega) (by omega) rfl (by omega)
    have n := zNxt_w b0.1 (show zNxt A k ≠ -1 by omega)
    have qc : zCh ([16, 17] ++ [35, 36, 37, 794, 38, 11]) A (zGo (zB1 A k (zNxt A k)) (zNxt A k) (200 + k)) := zCh_t zB1_ch zGo_ch2
    have ew : ∀ i, zB1 A k (zNxt A k) 11 i = A 11 i := fun i => by rw [zB1_ch 11 (by decide)]
    have hz := zLen_b (zR_of hi.1 hi.2.1 (t := zNxt A k) (by omega) n.2.2)
    have pw : zPw (200 + k) < zPw (zB1 A k (zNxt A k) 11 (zNxt A k)) := by
      rw [ew, zPw_2 n.2.2, zPw_1 (by omega)]
      decide
    rw [e] at w wm ⊢
    refine ⟨⟨w.1, by rw [qc 788 (by decide)]; exact hp, zTeam_c hm qc (by decide) (fun u u1 u2 => ?_), zS2_go (by rw [zB1_ch 794 (by decide)]; exact bs.1) (zS2_c hs (zB1_ch 35 (by decide)) (zB1_ch 794 (by decide)) (zB1_ch 11 (by decide)) (zB1_ch 785 (by decide))) pw⟩, fun j j1 j2 j3 => ?_, ?_⟩
    · unfold zIn at u2
      rw [zGo_w] at u2 ⊢
      by_cases z : u = zNxt A k
      · rw [if_pos z] at u2; omega
      · rw [if_neg z]; exact ew u
    · rw [qc 786 (by decide)] at j2
      rw [zGo_k (by decide)] at j3
      rw [qc 789 (by decide), zGo_k (by decide), zB1_16]
      rw [zB1_17] at j3
      by_cases z : j = k
      · rw [if_pos z]; omega
      · rw [if_neg z] at j3 ⊢
        exact hf j j1 j2 j3
    · have p := zPP_go (A := zB1 A k (zNxt A k)) (t := zNxt A k) (w := 200 + k) (by unfold zTh; rw [zB1_ch 785 (by decide)]; exact n.1) pw
      have p2 := zPP_c (zB1_ch (A := A) (k := k) (t := zNxt A k) 11 (by decide)) (zB1_ch 785 (by decide))
      omega
set_option maxRecDepth 20000 in
set_option maxHeartbeats 4000000 in
theorem sg_Team_begin_0 {e : gE} {b : Nat} {m : Int} {Z : Int → gH → Prop} {kc ks : Nat} {G : gH} {a0 p1 p2 p3 : Int} (t0 : G 0 a0 0 = 9) (h : ((b : Int) < a0) ∧ (∀ G2 : gH, G2 = gU G 530 a0 0 p1 → (G 0 p1 0 = 10) ∧ ((G2 0 p1 0 = 10) ∧ ((inI (p3 + (G2 602 p1 0))) ∧ (∀ G6 : gH, G6 = gU G2 529 a0 0 (p3 + (G2 602 p1 0)) → (inI (200 + p2)) ∧ ∃ kc10 ks11 mc12 ms13 : Nat, kc = kc10 + mc12 ∧ ks = ks11 + ms13 ∧ GX e b m m_Thing_goTo [(2, p1), (0, (200 + p2)), (0, p3)] G6 mc12 ms13 (fun _ G9 => Z 0 G9)))))) : EX e b m m_Team_begin Z kc ks 0 [(2, a0), (2, p1), (0, p2), (0, p3)] [] G := by
  refine e_aload_n d_Team_begin_0 rfl ?_
  refine e_aload_n d_Team_begin_1 rfl ?_
  obtain ⟨o1, h⟩ := h
  refine gp_Team_24 d_Team_begin_2 rfl t0 o1 (fx_U (by decide)) ?_
  let G2 : gH := gU G 530 a0 0 p1
  have h := h G2 rfl
  refine e_aload_n d_Team_begin_5 rfl ?_
  refine e_iload_n d_Team_begin_6 rfl ?_
  refine e_aload_n d_Team_begin_7 rfl ?_
  obtain ⟨o3, o4, h⟩ := h
  refine e_callV m_Thing_length 9 lw_good d_Team_begin_8 (k_Thing_length _) ⟨Nat.le_of_ble_eq_true rfl, Nat.le_of_ble_eq_true rfl⟩ w_964 w_688 w_689 (q_Thing _) rfl o3 (args := []) rfl rfl (Nat.le_of_ble_eq_true rfl) (kc' := kc) (ks' := ks) (mc := 0) (ms := 0) rfl rfl (c_Thing_length o4) (pureK ?_)
  obtain ⟨o5, h⟩ := h
  refine e_iadd d_Team_begin_11 o5 ?_
  refine gp_Team_15 d_Team_begin_12 rfl t0 o1 (fx_U (by decide)) ?_
  let G6 : gH := gU G2 529 a0 0 (p3 + (G2 602 p1 0))
  have h := h G6 rfl
  refine e_aload_n d_Team_begin_15 rfl ?_
  refine e_sipush d_Team_begin_16 (by decide) (by decide) ?_
  refine e_iload_n d_Team_begin_19 rfl ?_
  obtain ⟨o7, h⟩ := h
  refine e_iadd d_Team_begin_20 o7 ?_
  refine e_iload_n d_Team_begin_21 rfl ?_
  obtain ⟨kc10, ks11, mc12, ms13, hkc10, hks11, h⟩ := h
  refine e_callV m_Thing_goTo 9 lw_good d_Team_begin_22 (k_Thing_goTo _) ⟨Nat.le_of_ble_eq_true rfl, Nat.le_of_ble_eq_true rfl⟩ w_965 w_966 w_967 (q_Thing _) rfl o3 (args := [(0, (200 + p2)), (0, p3)]) rfl rfl (Nat.le_of_ble_eq_true rfl) (kc' := kc10) (ks' := ks11) (mc := mc12) (ms := ms13) hkc10 hks11 h ?_
  intro v8 G9 h
  exact e_vret d_Team_begin_25 rfl h
set_option maxRecDepth 20000 in
set_option maxHeartbeats 4000000 in
theorem sg_Team_bringOut_0 {e : gE} {b : Nat} {m : Int} {Z : Int → gH → Prop} {kc ks : Nat} {G : gH} {a0 p1 : Int} (t0 : G 0 a0 0 = 9) (h : ((G 530 a0 0) ≠ 0 → ((G 529 a0 0) ≤ p1 → (G 0 (G 530 a0 0) 0 = 10) ∧ (∃ kc8 ks9 mc10 ms11 : Nat, kc = kc8 + mc10 ∧ ks = ks9 + ms11 ∧ GX e b m m_Thing_goTo [(2, (G 530 a0 0)), (0, 300), (0, p1)] G mc10 ms11 (fun _ G7 => (G7 0 a0 0 = 9) ∧ ((G7 0 (G7 530 a0 0) 0 = 10) ∧ (GX e b m m_Thing_giveTo [(2, (G7 530 a0 0)), (0, (-1))] G7 0 0 (fun _ G15 => (G15 0 a0 0 = 9) ∧ (((b : Int) < a0) ∧ (∀ G18 : gH, G18 = gU G15 530 a0 0 0 → Z 0 G18))))))))) ∧ (((G 530 a0 0) = 0 ∨ ((G 530 a0 0) ≠ 0 ∧ p1 < (G 529 a0 0))) → Z 0 G)) : EX e b m m_Team_bringOut Z kc ks 0 [(2, a0), (0, p1)] [] G := by
  obtain ⟨h, hJ19⟩ := h
  have kJ19 : ((G 530 a0 0) = 0 ∨ ((G 530 a0 0) ≠ 0 ∧ p1 < (G 529 a0 0))) → EX e b m m_Team_bringOut Z kc ks 39 [(2, a0), (0, p1)] [] G := by
    intro rJ19
    have h := hJ19 rJ19
    exact e_vret d_Team_bringOut_39 rfl h
  refine e_aload_n d_Team_bringOut_0 rfl ?_
  refine gf_Team_24 d_Team_bringOut_1 rfl t0 ?_
  refine e_ifnull (tgt := 39) d_Team_bringOut_4 (by decide) (fun q1 => ?_) (fun q2 => ?_)
  · exact kJ19 (Or.inl q1)
  · have h := h q2
    refine e_aload_n d_Team_bringOut_7 rfl ?_
    refine gf_Team_15 d_Team_bringOut_8 rfl t0 ?_
    refine e_iload_n d_Team_bringOut_11 rfl ?_
    refine e_icmp_gt (tgt := 39) d_Team_bringOut_12 (by decide) (fun q3 => ?_) (fun q4 => ?_)
    · exact kJ19 (Or.inr ⟨q2, q3⟩)
    · have h := h q4
      refine e_aload_n d_Team_bringOut_15 rfl ?_
      refine gf_Team_24 d_Team_bringOut_16 rfl t0 ?_
      refine e_sipush d_Team_bringOut_19 (by decide) (by decide) ?_
      refine e_iload_n d_Team_bringOut_22 rfl ?_
      obtain ⟨o5, h⟩ := h
      obtain ⟨kc8, ks9, mc10, ms11, hkc8, hks9, h⟩ := h
      refine e_callV m_Thing_goTo 9 lw_good d_Team_bringOut_23 (k_Thing_goTo _) ⟨Nat.le_of_ble_eq_true rfl, Nat.le_of_ble_eq_true rfl⟩ w_965 w_966 w_967 (q_Thing _) rfl o5 (args := [(0, 300), (0, p1)]) rfl rfl (Nat.le_of_ble_eq_true rfl) (kc' := kc8) (ks' := ks9) (mc := mc10) (ms := ms11) hkc8 hks9 h ?_
      intro v6 G7 h
      refine e_aload_n d_Team_bringOut_26 rfl ?_
      obtain ⟨o12, h⟩ := h
      refine gf_Team_24 d_Team_bringOut_27 rfl o12 ?_
      refine e_iconst d_Team_bringOut_30 (by decide) ?_
      obtain ⟨o13, h⟩ := h
      refine e_callV m_Thing_giveTo 9 lw_good d_Team_bringOut_31 (k_Thing_giveTo _) ⟨Nat.le_of_ble_eq_true rfl, Nat.le_of_ble_eq_true rfl⟩ w_987 w_783 w_784 (q_Thing _) rfl o13 (args := [(0, (-1))]) rfl rfl (Nat.le_of_ble_eq_true rfl) (kc' := kc8) (ks' := ks9) (mc := 0) (ms := 0) rfl rfl h ?_
      intro v14 G15 h
      refine e_aload_n d_Team_bringOut_34 rfl ?_
      refine e_null d_Team_bringOut_35 ?_
      obtain ⟨o16, o17, h⟩ := h
      refine gp_Team_24 d_Team_bringOut_36 rfl o16 o17 (fx_U (by decide)) ?_
      let G18 : gH := gU G15 530 a0 0 0
      have h := h G18 rfl
      exact e_vret d_Team_bringOut_39 rfl h
set_option maxRecDepth 20000 in
set_option maxHeartbeats 4000000 in
theorem sg_Hours_beginNext_0 {e : gE} {b : Nat} {m : Int} {Z : Int → gH → Prop} {kc ks : Nat} {G : gH} {p1 p2 : Int} (h : ((G 0 p2 0 = 9) ∧ ((G 0 p2 0 = 9) ∧ ((¬ (G 530 p2 0 ≠ 0)) → ((if G 529 p2 0 < (G 83 ((b : Int) + 10) 0) then (G 83 ((b : Int) + 10) 0) else G 529 p2 0) = (G 83 ((b : Int) + 10) 0) → EX e b m m_Hours_beginNext Z kc ks 34 [(2, ((b : Int) + 10)), (0, p1), (2, p2), (2, ((b : Int) + 13)), (0, 0)] [] G)))) ∧ ((G 530 p2 0 ≠ 0 ∨ ((¬ (G 530 p2 0 ≠ 0)) ∧ (if G 529 p2 0 < (G 83 ((b : Int) + 10) 0) then (G 83 ((b : Int) + 10) 0) else G 529 p2 0) ≠ (G 83 ((b : Int) + 10) 0))) → Z 0 G)) : EX e b m m_Hours_beginNext Z kc ks 0 [(2, ((b : Int) + 10)), (0, p1), (2, p2), (9, 0), (9, 0)] [] G := by
  obtain ⟨h, hJ8⟩ := h
  have kJ8 : (G 530 p2 0 ≠ 0 ∨ ((¬ (G 530 p2 0 ≠ 0)) ∧ (if G 529 p2 0 < (G 83 ((b : Int) + 10) 0) then (G 83 ((b : Int) + 10) 0) else G 529 p2 0) ≠ (G 83 ((b : Int) + 10) 0))) → EX e b m m_Hours_beginNext Z kc ks 22 [(2, ((b : Int) + 10)), (0, p1), (2, p2), (9, 0), (9, 0)] [] G := by
    intro rJ8
    have h := hJ8 rJ8
    exact e_vret d_Hours_beginNext_22 rfl h
  refine e_aload_n d_Hours_beginNext_0 rfl ?_
  obtain ⟨o1, o2, h⟩ := h
  refine e_callV m_Team_isBusy 8 lw_good d_Hours_beginNext_1 (k_Team_isBusy _) ⟨Nat.le_of_ble_eq_true rfl, Nat.le_of_ble_eq_true rfl⟩ w_919 w_920 w_921 (q_Team _) rfl o1 (args := []) rfl rfl (Nat.le_of_ble_eq_true rfl) (kc' := kc) (ks' := ks) (mc := 0) (ms := 0) rfl rfl (c_Team_isBusy o2) (pureK ?_)
  refine e_if_ne (tgt := 22) d_Hours_beginNext_4 (by decide) (fun q3 => ?_) (fun q4 => ?_)
  · replace q3 := gb1.mp q3
    exact kJ8 (Or.inl q3)
  · replace q4 := gb0.mp q4
    have h := h q4
    refine e_aload_n d_Hours_beginNext_7 rfl ?_
    refine e_aload_n d_Hours_beginNext_8 rfl ?_
    refine gx_Hours_43 d_Hours_beginNext_9 rfl ?_
    refine e_callV m_Team_freeFrom 8 lw_good d_Hours_beginNext_12 (k_Team_freeFrom _) ⟨Nat.le_of_ble_eq_true rfl, Nat.le_of_ble_eq_true rfl⟩ w_948 w_704 w_705 (q_Team _) rfl o1 (args := [(0, (G 83 ((b : Int) + 10) 0))]) rfl rfl (Nat.le_of_ble_eq_true rfl) (kc' := kc) (ks' := ks) (mc := 0) (ms := 0) rfl rfl (c_Team_freeFrom o2) (pureK ?_)
    refine e_aload_n d_Hours_beginNext_15 rfl ?_
    refine gx_Hours_43 d_Hours_beginNext_16 rfl ?_
    refine e_icmp_eq (tgt := 23) d_Hours_beginNext_19 (by decide) (fun q5 => ?_) (fun q6 => ?_)
    · have h := h q5
      refine e_aload_n d_Hours_beginNext_23 rfl ?_
      refine gx_Hours_26 d_Hours_beginNext_24 rfl ?_
      refine EV.inv fun hFf7 => ?_
      have f7 := (fx_ct 11 rfl hFf7).1
      refine e_callV m_Planner_jobs 5 lw_good d_Hours_beginNext_27 (k_Planner_jobs _) ⟨Nat.le_of_ble_eq_true rfl, Nat.le_of_ble_eq_true rfl⟩ w_949 w_950 w_951 (q_Planner _) rfl f7 (args := []) rfl rfl (Nat.le_of_ble_eq_true rfl) (kc' := kc) (ks' := ks) (mc := 0) (ms := 0) rfl rfl (c_Planner_jobs) (pureK ?_)
      refine e_astore_n (ls' := [(2, ((b : Int) + 10)), (0, p1), (2, p2), (2, ((b : Int) + 13)), (9, 0)]) d_Hours_beginNext_30 (by decide) rfl ?_
      refine e_iconst d_Hours_beginNext_31 (by decide) ?_
      refine e_istore (ls' := [(2, ((b : Int) + 10)), (0, p1), (2, p2), (2, ((b : Int) + 13)), (0, 0)]) d_Hours_beginNext_32 (by decide) rfl ?_
      exact e_forget (ls' := [(2, ((b : Int) + 10)), (0, p1), (2, p2), (2, ((b : Int) + 13)), (0, 0)]) ⟨Or.inr rfl, Or.inr rfl, Or.inr rfl, Or.inr rfl, Or.inr rfl, trivial⟩ h
    · exact kJ8 (Or.inr ⟨q4, q6⟩)
set_option maxRecDepth 20000 in
set_option maxHeartbeats 4000000 in
theorem sg_Hours_beginNext_34 {e : gE} {b : Nat} {m : Int} {Z : Int → gH → Prop} {kc ks : Nat} {G : gH} {p1 p2 x3 x4 : Int} (h : (G 0 x3 0 = 1) ∧ ((G 0 x3 0 = 1) ∧ (((G 18 x3 0) ≤ x4 → Z 0 G) ∧ (x4 < (G 18 x3 0) → (G 0 (G 17 x3 0) 0 = 103) ∧ ((0 ≤ x4 ∧ x4 < G 18 x3 0) ∧ ((G 18 x3 0 ≤ G 0 (G 17 x3 0) 1) ∧ ((G 0 (G 3 (G 17 x3 0) x4) 0 = 10) ∧ ((G 0 (G 3 (G 17 x3 0) x4) 0 = 10) ∧ (((¬ ((100 ≤ G 598 (G 3 (G 17 x3 0) x4) 0 ∧ G 598 (G 3 (G 17 x3 0) x4) 0 < 200) ∧ G 600 (G 3 (G 17 x3 0) x4) 0 = p1)) → (inI (x4 + 1)) ∧ EX e b m m_Hours_beginNext Z kc ks 34 [(2, ((b : Int) + 10)), (0, p1), (2, p2), (2, x3), (0, (x4 + 1))] [] G) ∧ (((100 ≤ G 598 (G 3 (G 17 x3 0) x4) 0 ∧ G 598 (G 3 (G 17 x3 0) x4) 0 < 200) ∧ G 600 (G 3 (G 17 x3 0) x4) 0 = p1) → (G 0 p2 0 = 9) ∧ ∃ kc16 ks17 mc18 ms19 : Nat, kc = kc16 + mc18 ∧ ks = ks17 + ms19 ∧ GX e b m m_Team_begin [(2, p2), (2, (G 3 (G 17 x3 0) x4)), (0, p1), (0, (G 83 ((b : Int) + 10) 0))] G mc18 ms19 (fun _ G15 => Z 0 G15))))))))))) : EX e b m m_Hours_beginNext Z kc ks 34 [(2, ((b : Int) + 10)), (0, p1), (2, p2), (2, x3), (0, x4)] [] G := by
  refine e_iload d_Hours_beginNext_34 rfl ?_
  refine e_aload_n d_Hours_beginNext_36 rfl ?_
  obtain ⟨o1, o2, h⟩ := h
  refine e_callV m_AL_size 0 lw_good d_Hours_beginNext_37 (k_AL_size _) ⟨Nat.le_of_ble_eq_true rfl, Nat.le_of_ble_eq_true rfl⟩ w_329 w_330 w_331 (q_AL _) rfl o1 (args := []) rfl rfl (Nat.le_of_ble_eq_true rfl) (kc' := kc) (ks' := ks) (mc := 0) (ms := 0) rfl rfl (c_AL_size o2) (pureK ?_)
  refine e_icmp_ge (tgt := 84) d_Hours_beginNext_40 (by decide) (fun q3 => ?_) (fun q4 => ?_)
  · have h := h.1 q3
    exact e_vret d_Hours_beginNext_84 rfl h
  · have h := h.2 q4
    refine e_aload_n d_Hours_beginNext_43 rfl ?_
    refine e_iload d_Hours_beginNext_44 rfl ?_
    obtain ⟨o5, o6, o7, h⟩ := h
    refine e_callV m_AL_get 0 lw_good d_Hours_beginNext_46 (k_AL_get _) ⟨Nat.le_of_ble_eq_true rfl, Nat.le_of_ble_eq_true rfl⟩ w_606 w_607 w_608 (q_AL _) rfl o1 (args := [(0, x4)]) rfl rfl (Nat.le_of_ble_eq_true rfl) (kc' := kc) (ks' := ks) (mc := 0) (ms := 0) rfl rfl (c_AL_get o2 o5 o6 o7) (pureK ?_)
    obtain ⟨o8, h⟩ := h
    refine e_cast 9 d_Hours_beginNext_49 (q_Thing _) w_618 (Or.inr o8) ?_
    refine e_iload_n d_Hours_beginNext_52 rfl ?_
    obtain ⟨o9, h⟩ := h
    refine e_callS m_Hours_isLeft lw_good d_Hours_beginNext_53 (k_Hours_isLeft _) ⟨Nat.le_of_ble_eq_true rfl, Nat.le_of_ble_eq_true rfl⟩ w_953 w_954 (args := [(2, (G 3 (G 17 x3 0) x4)), (0, p1)]) rfl rfl (Nat.le_of_ble_eq_true rfl) (kc' := kc) (ks' := ks) (mc := 0) (ms := 0) rfl rfl (c_Hours_isLeft o9) (pureK ?_)
    refine e_if_eq (tgt := 78) d_Hours_beginNext_56 (by decide) (fun q10 => ?_) (fun q11 => ?_)
    · replace q10 := gb0.mp q10
      have h := h.1 q10
      obtain ⟨o12, h⟩ := h
      refine e_iinc (ls' := [(2, ((b : Int) + 10)), (0, p1), (2, p2), (2, x3), (0, (x4 + 1))]) d_Hours_beginNext_78 rfl (by decide) o12 rfl ?_
      refine e_goto (tgt := 34) d_Hours_beginNext_81 (by decide) ?_
      exact e_forget (ls' := [(2, ((b : Int) + 10)), (0, p1), (2, p2), (2, x3), (0, (x4 + 1))]) ⟨Or.inr rfl, Or.inr rfl, Or.inr rfl, Or.inr rfl, Or.inr rfl, trivial⟩ h
    · replace q11 := gb1.mp q11
      have h := h.2 q11
      refine e_aload_n d_Hours_beginNext_59 rfl ?_
      refine e_aload_n d_Hours_beginNext_60 rfl ?_
      refine e_iload d_Hours_beginNext_61 rfl ?_
      refine e_callV m_AL_get 0 lw_good d_Hours_beginNext_63 (k_AL_get _) ⟨Nat.le_of_ble_eq_true rfl, Nat.le_of_ble_eq_true rfl⟩ w_606 w_607 w_608 (q_AL _) rfl o1 (args := [(0, x4)]) rfl rfl (Nat.le_of_ble_eq_true rfl) (kc' := kc) (ks' := ks) (mc := 0) (ms := 0) rfl rfl (c_AL_get o2 o5 o6 o7) (pureK ?_)
      refine e_cast 9 d_Hours_beginNext_66 (q_Thing _) w_618 (Or.inr o8) ?_
      refine e_iload_n d_Hours_beginNext_69 rfl ?_
      refine e_aload_n d_Hours_beginNext_70 rfl ?_
      refine gx_Hours_43 d_Hours_beginNext_71 rfl ?_
      obtain ⟨o13, h⟩ := h
      obtain ⟨kc16, ks17, mc18, ms19, hkc16, hks17, h⟩ := h
      refine e_callV m_Team_begin 8 lw_good d_Hours_beginNext_74 (k_Team_begin _) ⟨Nat.le_of_ble_eq_true rfl, Nat.le_of_ble_eq_true rfl⟩ w_960 w_961 w_962 (q_Team _) rfl o13 (args := [(2, (G 3 (G 17 x3 0) x4)), (0, p1), (0, (G 83 ((b : Int) + 10) 0))]) rfl rfl (Nat.le_of_ble_eq_true rfl) (kc' := kc16) (ks' := ks17) (mc := mc18) (ms := ms19) hkc16 hks17 h ?_
      intro v14 G15 h
      exact e_vret d_Hours_beginNext_77 rfl h
set_option maxRecDepth 20000 in
set_option maxHeartbeats 4000000 in
theorem sg_Hours_loseTheRest_0 {e : gE} {b : Nat} {m : Int} {Z : Int → gH → Prop} {kc ks : Nat} {G : gH} (h : EX e b m m_Hours_loseTheRest Z kc ks 2 [(2, ((b : Int) + 10)), (0, 0), (9, 0)] [] G) : EX e b m m_Hours_loseTheRest Z kc ks 0 [(2, ((b : Int) + 10)), (9, 0), (9, 0)] [] G := by
  refine e_iconst d_Hours_loseTheRest_0 (by decide) ?_
  refine e_istore_n (ls' := [(2, ((b : Int) + 10)), (0, 0), (9, 0)]) d_Hours_loseTheRest_1 (by decide) rfl ?_
  exact e_forget (ls' := [(2, ((b : Int) + 10)), (0, 0), (9, 0)]) ⟨Or.inr rfl, Or.inr rfl, Or.inl rfl, trivial⟩ h
set_option maxRecDepth 20000 in
set_option maxHeartbeats 4000000 in
theorem sg_Hours_loseTheRest_2 {e : gE} {b : Nat} {m : Int} {Z : Int → gH → Prop} {kc ks : Nat} {G : gH} {x1 : Int} (h : (G 0 ((b : Int) + 2) 0 = 1) ∧ (((G 18 ((b : Int) + 2) 0) ≤ x1 → Z 0 G) ∧ (x1 < (G 18 ((b : Int) + 2) 0) → (G 0 (G 17 ((b : Int) + 2) 0) 0 = 103) ∧ ((0 ≤ x1 ∧ x1 < G 18 ((b : Int) + 2) 0) ∧ ((G 18 ((b : Int) + 2) 0 ≤ G 0 (G 17 ((b : Int) + 2) 0) 1) ∧ ((G 0 (G 3 (G 17 ((b : Int) + 2) 0) x1) 0 = 10) ∧ ((G 0 (G 3 (G 17 ((b : Int) + 2) 0) x1) 0 = 10) ∧ ((inI (100 + 100)) ∧ (((¬ (100 ≤ G 598 (G 3 (G 17 ((b : Int) + 2) 0) x1) 0 ∧ G 598 (G 3 (G 17 ((b : Int) + 2) 0) x1) 0 < 100 + 100)) → (inI (x1 + 1)) ∧ EX e b m m_Hours_loseTheRest Z kc ks 2 [(2, ((b : Int) + 10)), (0, (x1 + 1)), (9, 0)] [] G) ∧ ((100 ≤ G 598 (G 3 (G 17 ((b : Int) + 2) 0) x1) 0 ∧ G 598 (G 3 (G 17 ((b : Int) + 2) 0) x1) 0 < 100 + 100) → ∃ kc16 ks17 mc18 ms19 : Nat, kc = kc16 + mc18 ∧ ks = ks17 + ms19 ∧ GX e b m m_Thing_goTo [(2, (G 3 (G 17 ((b : Int) + 2) 0) x1)), (0, 500), (0, (G 83 ((b : Int) + 10) 0))] G mc18 ms19 (fun _ G15 => (G15 0 (G 3 (G 17 ((b : Int) + 2) 0) x1) 0 = 10) ∧ GX e b m m_Thing_giveTo [(2, (G 3 (G 17 ((b : Int) + 2) 0) x1)), (0, (-1))] G15 0 0 (fun _ G22 => (inI (x1 + 1)) ∧ EX e b m m_Hours_loseTheRest Z kc16 ks17 2 [(2, ((b : Int) + 10)), (0, (x1 + 1)), (9, 0)] [] G22)))))))))))) : EX e b m m_Hours_loseTheRest Z kc ks 2 [(2, ((b : Int) + 10)), (0, x1), (9, 0)] [] G := by
  refine e_iload_n d_Hours_loseTheRest_2 rfl ?_
  refine e_aload_n d_Hours_loseTheRest_3 rfl ?_
  refine gx_Hours_9 d_Hours_loseTheRest_4 rfl ?_
  refine EV.inv fun hFf1 => ?_
  have f1 := (fx_ct 1 rfl hFf1).1
  obtain ⟨o2, h⟩ := h
  refine e_callV m_AL_size 0 lw_good d_Hours_loseTheRest_7 (k_AL_size _) ⟨Nat.le_of_ble_eq_true rfl, Nat.le_of_ble_eq_true rfl⟩ w_329 w_330 w_331 (q_AL _) rfl f1 (args := []) rfl rfl (Nat.le_of_ble_eq_true rfl) (kc' := kc) (ks' := ks) (mc := 0) (ms := 0) rfl rfl (c_AL_size o2) (pureK ?_)
  refine e_icmp_ge (tgt := 56) d_Hours_loseTheRest_10 (by decide) (fun q3 => ?_) (fun q4 => ?_)
  · have h := h.1 q3
    exact e_vret d_Hours_loseTheRest_56 rfl h
  · have h := h.2 q4
    refine e_aload_n d_Hours_loseTheRest_13 rfl ?_
    refine gx_Hours_9 d_Hours_loseTheRest_14 rfl ?_
    refine e_iload_n d_Hours_loseTheRest_17 rfl ?_
    refine EV.inv fun hFf5 => ?_
    have f5 := (fx_ct 1 rfl hFf5).1
    obtain ⟨o6, o7, o8, h⟩ := h
    refine e_callV m_AL_get 0 lw_good d_Hours_loseTheRest_18 (k_AL_get _) ⟨Nat.le_of_ble_eq_true rfl, Nat.le_of_ble_eq_true rfl⟩ w_606 w_607 w_608 (q_AL _) rfl f5 (args := [(0, x1)]) rfl rfl (Nat.le_of_ble_eq_true rfl) (kc' := kc) (ks' := ks) (mc := 0) (ms := 0) rfl rfl (c_AL_get o2 o6 o7 o8) (pureK ?_)
    obtain ⟨o9, h⟩ := h
    refine e_cast 9 d_Hours_loseTheRest_21 (q_Thing _) w_618 (Or.inr o9) ?_
    refine e_astore_n (ls' := [(2, ((b : Int) + 10)), (0, x1), (2, (G 3 (G 17 ((b : Int) + 2) 0) x1))]) d_Hours_loseTheRest_24 (by decide) rfl ?_
    refine e_aload_n d_Hours_loseTheRest_25 rfl ?_
    refine e_bipush d_Hours_loseTheRest_26 (by decide) (by decide) ?_
    obtain ⟨o10, o11, h⟩ := h
    refine e_callV m_Thing_isAt 9 lw_good d_Hours_loseTheRest_28 (k_Thing_isAt _) ⟨Nat.le_of_ble_eq_true rfl, Nat.le_of_ble_eq_true rfl⟩ w_619 w_620 w_621 (q_Thing _) rfl o9 (args := [(0, 100)]) rfl rfl (Nat.le_of_ble_eq_true rfl) (kc' := kc) (ks' := ks) (mc := 0) (ms := 0) rfl rfl (c_Thing_isAt o10 o11) (pureK ?_)
    refine e_if_eq (tgt := 50) d_Hours_loseTheRest_31 (by decide) (fun q12 => ?_) (fun q13 => ?_)
    · replace q12 := gb0.mp q12
      have h := h.1 q12
      obtain ⟨o24, h⟩ := h
      refine e_iinc (ls' := [(2, ((b : Int) + 10)), (0, (x1 + 1)), (2, (G 3 (G 17 ((b : Int) + 2) 0) x1))]) d_Hours_loseTheRest_50 rfl (by decide) o24 rfl ?_
      refine e_goto (tgt := 2) d_Hours_loseTheRest_53 (by decide) ?_
      exact e_forget (ls' := [(2, ((b : Int) + 10)), (0, (x1 + 1)), (9, 0)]) ⟨Or.inr rfl, Or.inr rfl, Or.inl rfl, trivial⟩ h
    · replace q13 := gb1.mp q13
      have h := h.2 q13
      refine e_aload_n d_Hours_loseTheRest_34 rfl ?_
      refine e_sipush d_Hours_loseTheRest_35 (by decide) (by decide) ?_
      refine e_aload_n d_Hours_loseTheRest_38 rfl ?_
      refine gx_Hours_43 d_Hours_loseTheRest_39 rfl ?_
      obtain ⟨kc16, ks17, mc18, ms19, hkc16, hks17, h⟩ := h
      refine e_callV m_Thing_goTo 9 lw_good d_Hours_loseTheRest_42 (k_Thing_goTo _) ⟨Nat.le_of_ble_eq_true rfl, Nat.le_of_ble_eq_true rfl⟩ w_993 w_966 w_967 (q_Thing _) rfl o9 (args := [(0, 500), (0, (G 83 ((b : Int) + 10) 0))]) rfl rfl (Nat.le_of_ble_eq_true rfl) (kc' := kc16) (ks' := ks17) (mc := mc18) (ms := ms19) hkc16 hks17 h ?_
      intro v14 G15 h
      refine e_aload_n d_Hours_loseTheRest_45 rfl ?_
      refine e_iconst d_Hours_loseTheRest_46 (by decide) ?_
      obtain ⟨o20, h⟩ := h
      refine e_callV m_Thing_giveTo 9 lw_good d_Hours_loseTheRest_47 (k_Thing_giveTo _) ⟨Nat.le_of_ble_eq_true rfl, Nat.le_of_ble_eq_true rfl⟩ w_994 w_783 w_784 (q_Thing _) rfl o20 (args := [(0, (-1))]) rfl rfl (Nat.le_of_ble_eq_true rfl) (kc' := kc16) (ks' := ks17) (mc := 0) (ms := 0) rfl rfl h ?_
      intro v21 G22 h
      obtain ⟨o23, h⟩ := h
      refine e_iinc (ls' := [(2, ((b : Int) + 10)), (0, (x1 + 1)), (2, (G 3 (G 17 ((b : Int) + 2) 0) x1))]) d_Hours_loseTheRest_50 rfl (by decide) o23 rfl ?_
      refine e_goto (tgt := 2) d_Hours_loseTheRest_53 (by decide) ?_
      exact e_forget (ls' := [(2, ((b : Int) + 10)), (0, (x1 + 1)), (9, 0)]) ⟨Or.inr rfl, Or.inr rfl, Or.inl rfl, trivial⟩ h
set_option maxRecDepth 20000 in
set_option maxHeartbeats 4000000 in
theorem sg_Hours_over_0 {e : gE} {b : Nat} {m : Int} {Z : Int → gH → Prop} {kc ks : Nat} {G : gH} (h : ((G 83 ((b : Int) + 10) 0) < (G 84 ((b : Int) + 10) 0) → Z 0 G) ∧ ((G 84 ((b : Int) + 10) 0) ≤ (G 83 ((b : Int) + 10) 0) → Z 1 G)) : EX e b m m_Hours_over Z kc ks 0 [(2, ((b : Int) + 10))] [] G := by
  refine e_aload_n d_Hours_over_0 rfl ?_
  refine gx_Hours_43 d_Hours_over_1 rfl ?_
  refine e_aload_n d_Hours_over_4 rfl ?_
  refine gx_Hours_47 d_Hours_over_5 rfl ?_
  refine e_icmp_lt (tgt := 15) d_Hours_over_8 (by decide) (fun q1 => ?_) (fun q2 => ?_)
  · have h := h.1 q1
    refine e_iconst d_Hours_over_15 (by decide) ?_
    exact e_zret .boolean d_Hours_over_16 rfl (by decide) h
  · have h := h.2 q2
    refine e_iconst d_Hours_over_11 (by decide) ?_
    refine e_goto (tgt := 16) d_Hours_over_12 (by decide) ?_
    exact e_zret .boolean d_Hours_over_16 rfl (by decide) h
set_option maxRecDepth 20000 in
set_option maxHeartbeats 4000000 in
theorem sg_Hours_liveMinute_0 {e : gE} {b : Nat} {m : Int} {Z : Int → gH → Prop} {kc ks : Nat} {G : gH} (h : EX e b m m_Hours_liveMinute Z kc ks 2 [(2, ((b : Int) + 10)), (0, 0)] [] G) : EX e b m m_Hours_liveMinute Z kc ks 0 [(2, ((b : Int) + 10)), (9, 0)] [] G := by
  refine e_iconst d_Hours_liveMinute_0 (by decide) ?_
  refine e_istore_n (ls' := [(2, ((b : Int) + 10)), (0, 0)]) d_Hours_liveMinute_1 (by decide) rfl ?_
  exact e_forget (ls' := [(2, ((b : Int) + 10)), (0, 0)]) ⟨Or.inr rfl, Or.inr rfl, trivial⟩ h
set_option maxRecDepth 20000 in
set_option maxHeartbeats 4000000 in
theorem sg_Hours_liveMinute_2 {e : gE} {b : Nat} {m : Int} {Z : Int → gH → Prop} {kc ks : Nat} {G : gH} {x1 : Int} (h : (G 0 ((b : Int) + 11) 0 = 1) ∧ (((G 18 ((b : Int) + 11) 0) ≤ x1 → (inI ((G 83 ((b : Int) + 10) 0) + 1)) ∧ (∀ G6 : gH, G6 = gU G 83 ((b : Int) + 10) 0 ((G 83 ((b : Int) + 10) 0) + 1) → EX e b m m_Hours_liveMinute Z kc ks 47 [(2, ((b : Int) + 10)), (0, 0)] [] G6)) ∧ (x1 < (G 18 ((b : Int) + 11) 0) → (G 0 (G 17 ((b : Int) + 11) 0) 0 = 103) ∧ (0 ≤ x1 ∧ x1 < G 18 ((b : Int) + 11) 0) ∧ (G 18 ((b : Int) + 11) 0 ≤ G 0 (G 17 ((b : Int) + 11) 0) 1) ∧ (G 0 (G 3 (G 17 ((b : Int) + 11) 0) x1) 0 = 9) ∧ ∃ kc15 ks16 mc17 ms18 : Nat, kc = kc15 + mc17 ∧ ks = ks16 + ms18 ∧ GX e b m m_Hours_beginNext [(2, ((b : Int) + 10)), (0, x1), (2, (G 3 (G 17 ((b : Int) + 11) 0) x1))] G mc17 ms18 (fun _ G14 => (inI (x1 + 1)) ∧ EX e b m m_Hours_liveMinute Z kc15 ks16 2 [(2, ((b : Int) + 10)), (0, (x1 + 1))] [] G14)))) : EX e b m m_Hours_liveMinute Z kc ks 2 [(2, ((b : Int) + 10)), (0, x1)] [] G := by
  refine e_iload_n d_Hours_liveMinute_2 rfl ?_
  refine e_aload_n d_Hours_liveMinute_3 rfl ?_
  refine gx_Hours_18 d_Hours_liveMinute_4 rfl ?_
  refine EV.inv fun hFf1 => ?_
  have f1 := (fx_ct 10 rfl hFf1).1
  obtain ⟨o2, h⟩ := h
  refine e_callV m_AL_size 0 lw_good d_Hours_liveMinute_7 (k_AL_size _) ⟨Nat.le_of_ble_eq_true rfl, Nat.le_of_ble_eq_true rfl⟩ w_329 w_330 w_331 (q_AL _) rfl f1 (args := []) rfl rfl (Nat.le_of_ble_eq_true rfl) (kc' := kc) (ks' := ks) (mc := 0) (ms := 0) rfl rfl (c_AL_size o2) (pureK ?_)
  refine e_icmp_ge (tgt := 35) d_Hours_liveMinute_10 (by decide) (fun q3 => ?_) (fun q4 => ?_)
  · have h := h.1 q3
    refine e_aload_n d_Hours_liveMinute_35 rfl ?_
    refine e_dup d_Hours_liveMinute_36 (by simp) ?_
    refine gx_Hours_43 d_Hours_liveMinute_37 rfl ?_
    refine e_iconst d_Hours_liveMinute_40 (by decide) ?_
    obtain ⟨o5, h⟩ := h
    refine e_iadd d_Hours_liveMinute_41 o5 ?_
    refine px_Hours_43 d_Hours_liveMinute_42 rfl ?_
    let G6 : gH := gU G 83 ((b : Int) + 10) 0 ((G 83 ((b : Int) + 10) 0) + 1)
    have h := h G6 rfl
    refine e_iconst d_Hours_liveMinute_45 (by decide) ?_
    refine e_istore_n (ls' := [(2, ((b : Int) + 10)), (0, 0)]) d_Hours_liveMinute_46 (by decide) rfl ?_
    exact e_forget (ls' := [(2, ((b : Int) + 10)), (0, 0)]) ⟨Or.inr rfl, Or.inr rfl, trivial⟩ h
  · have h := h.2 q4
    refine e_aload_n d_Hours_liveMinute_13 rfl ?_
    refine e_iload_n d_Hours_liveMinute_14 rfl ?_
    refine e_aload_n d_Hours_liveMinute_15 rfl ?_
    refine gx_Hours_18 d_Hours_liveMinute_16 rfl ?_
    refine e_iload_n d_Hours_liveMinute_19 rfl ?_
    refine EV.inv fun hFf7 => ?_
    have f7 := (fx_ct 10 rfl hFf7).1
    obtain ⟨o8, o9, o10, h⟩ := h
    refine e_callV m_AL_get 0 lw_good d_Hours_liveMinute_20 (k_AL_get _) ⟨Nat.le_of_ble_eq_true rfl, Nat.le_of_ble_eq_true rfl⟩ w_606 w_607 w_608 (q_AL _) rfl f7 (args := [(0, x1)]) rfl rfl (Nat.le_of_ble_eq_true rfl) (kc' := kc) (ks' := ks) (mc := 0) (ms := 0) rfl rfl (c_AL_get o2 o8 o9 o10) (pureK ?_)
    obtain ⟨o11, h⟩ := h
    refine e_cast 8 d_Hours_liveMinute_23 (q_Team _) w_337 (Or.inr o11) ?_
    refine EV.inv fun hFf12 => ?_
    have f12 := (fx_ct 9 rfl hFf12).1
    obtain ⟨kc15, ks16, mc17, ms18, hkc15, hks16, h⟩ := h
    refine e_callV m_Hours_beginNext 1 lw_good d_Hours_liveMinute_26 (k_Hours_beginNext _) ⟨Nat.le_of_ble_eq_true rfl, Nat.le_of_ble_eq_true rfl⟩ w_944 w_946 w_s27 (q_Hours _) rfl f12 (args := [(0, x1), (2, (G 3 (G 17 ((b : Int) + 11) 0) x1))]) rfl rfl (Nat.le_of_ble_eq_true rfl) (kc' := kc15) (ks' := ks16) (mc := mc17) (ms := ms18) hkc15 hks16 h ?_
    intro v13 G14 h
    obtain ⟨o19, h⟩ := h
    refine e_iinc (ls' := [(2, ((b : Int) + 10)), (0, (x1 + 1))]) d_Hours_liveMinute_29 rfl (by decide) o19 rfl ?_
    refine e_goto (tgt := 2) d_Hours_liveMinute_32 (by decide) ?_
    exact e_forget (ls' := [(2, ((b : Int) + 10)), (0, (x1 + 1))]) ⟨Or.inr rfl, Or.inr rfl, trivial⟩ h
set_option maxRecDepth 20000 in
set_option maxHeartbeats 4000000 in
theorem sg_Hours_liveMinute_47 {e : gE} {b : Nat} {m : Int} {Z : Int → gH → Prop} {kc ks : Nat} {G : gH} {x1 : Int} (h : (G 0 ((b : Int) + 11) 0 = 1) ∧ (((G 18 ((b : Int) + 11) 0) ≤ x1 → GX e b m m_Hours_over [(2, ((b : Int) + 10))] G 0 0 (fun v6 G7 => (v6 = 0 → Z 0 G7) ∧ (v6 ≠ 0 → ∃ kc13 ks14 mc15 ms16 : Nat, kc = kc13 + mc15 ∧ ks = ks14 + ms16 ∧ GX e b m m_Hours_loseTheRest [(2, ((b : Int) + 10))] G7 mc15 ms16 (fun _ G12 => Z 0 G12)))) ∧ (x1 < (G 18 ((b : Int) + 11) 0) → (G 0 (G 17 ((b : Int) + 11) 0) 0 = 103) ∧ (0 ≤ x1 ∧ x1 < G 18 ((b : Int) + 11) 0) ∧ (G 18 ((b : Int) + 11) 0 ≤ G 0 (G 17 ((b : Int) + 11) 0) 1) ∧ (G 0 (G 3 (G 17 ((b : Int) + 11) 0) x1) 0 = 9) ∧ ∃ kc24 ks25 mc26 ms27 : Nat, kc = kc24 + mc26 ∧ ks = ks25 + ms27 ∧ GX e b m m_Team_bringOut [(2, (G 3 (G 17 ((b : Int) + 11) 0) x1)), (0, (G 83 ((b : Int) + 10) 0))] G mc26 ms27 (fun _ G23 => (inI (x1 + 1)) ∧ EX e b m m_Hours_liveMinute Z kc24 ks25 47 [(2, ((b : Int) + 10)), (0, (x1 + 1))] [] G23)))) : EX e b m m_Hours_liveMinute Z kc ks 47 [(2, ((b : Int) + 10)), (0, x1)] [] G := by
  refine e_iload_n d_Hours_liveMinute_47 rfl ?_
  refine e_aload_n d_Hours_liveMinute_48 rfl ?_
  refine gx_Hours_18 d_Hours_liveMinute_49 rfl ?_
  refine EV.inv fun hFf1 => ?_
  have f1 := (fx_ct 10 rfl hFf1).1
  obtain ⟨o2, h⟩ := h
  refine e_callV m_AL_size 0 lw_good d_Hours_liveMinute_52 (k_AL_size _) ⟨Nat.le_of_ble_eq_true rfl, Nat.le_of_ble_eq_true rfl⟩ w_329 w_330 w_331 (q_AL _) rfl f1 (args := []) rfl rfl (Nat.le_of_ble_eq_true rfl) (kc' := kc) (ks' := ks) (mc := 0) (ms := 0) rfl rfl (c_AL_size o2) (pureK ?_)
  refine e_icmp_ge (tgt := 82) d_Hours_liveMinute_55 (by decide) (fun q3 => ?_) (fun q4 => ?_)
  · have h := h.1 q3
    refine e_aload_n d_Hours_liveMinute_82 rfl ?_
    refine EV.inv fun hFf5 => ?_
    have f5 := (fx_ct 9 rfl hFf5).1
    refine e_callV m_Hours_over 1 lw_good d_Hours_liveMinute_83 (k_Hours_over _) ⟨Nat.le_of_ble_eq_true rfl, Nat.le_of_ble_eq_true rfl⟩ w_988 w_937 w_938 (q_Hours _) rfl f5 (args := []) rfl rfl (Nat.le_of_ble_eq_true rfl) (kc' := kc) (ks' := ks) (mc := 0) (ms := 0) rfl rfl h ?_
    intro v6 G7 h
    refine e_if_eq (tgt := 93) d_Hours_liveMinute_86 (by decide) (fun q8 => ?_) (fun q9 => ?_)
    · have h := h.1 q8
      exact e_vret d_Hours_liveMinute_93 rfl h
    · have h := h.2 q9
      refine e_aload_n d_Hours_liveMinute_89 rfl ?_
      refine EV.inv fun hFf10 => ?_
      have f10 := (fx_ct 9 rfl hFf10).1
      obtain ⟨kc13, ks14, mc15, ms16, hkc13, hks14, h⟩ := h
      refine e_callV m_Hours_loseTheRest 1 lw_good d_Hours_liveMinute_90 (k_Hours_loseTheRest _) ⟨Nat.le_of_ble_eq_true rfl, Nat.le_of_ble_eq_true rfl⟩ w_989 w_991 w_s29 (q_Hours _) rfl f10 (args := []) rfl rfl (Nat.le_of_ble_eq_true rfl) (kc' := kc13) (ks' := ks14) (mc := mc15) (ms := ms16) hkc13 hks14 h ?_
      intro v11 G12 h
      exact e_vret d_Hours_liveMinute_93 rfl h
  · have h := h.2 q4
    refine e_aload_n d_Hours_liveMinute_58 rfl ?_
    refine gx_Hours_18 d_Hours_liveMinute_59 rfl ?_
    refine e_iload_n d_Hours_liveMinute_62 rfl ?_
    refine EV.inv fun hFf17 => ?_
    have f17 := (fx_ct 10 rfl hFf17).1
    obtain ⟨o18, o19, o20, h⟩ := h
    refine e_callV m_AL_get 0 lw_good d_Hours_liveMinute_63 (k_AL_get _) ⟨Nat.le_of_ble_eq_true rfl, Nat.le_of_ble_eq_true rfl⟩ w_606 w_607 w_608 (q_AL _) rfl f17 (args := [(0, x1)]) rfl rfl (Nat.le_of_ble_eq_true rfl) (kc' := kc) (ks' := ks) (mc := 0) (ms := 0) rfl rfl (c_AL_get o2 o18 o19 o20) (pureK ?_)
    obtain ⟨o21, h⟩ := h
    refine e_cast 8 d_Hours_liveMinute_66 (q_Team _) w_337 (Or.inr o21) ?_
    refine e_aload_n d_Hours_liveMinute_69 rfl ?_
    refine gx_Hours_43 d_Hours_liveMinute_70 rfl ?_
    obtain ⟨kc24, ks25, mc26, ms27, hkc24, hks25, h⟩ := h
    refine e_callV m_Team_bringOut 8 lw_good d_Hours_liveMinute_73 (k_Team_bringOut _) ⟨Nat.le_of_ble_eq_true rfl, Nat.le_of_ble_eq_true rfl⟩ w_983 w_984 w_985 (q_Team _) rfl o21 (args := [(0, (G 83 ((b : Int) + 10) 0))]) rfl rfl (Nat.le_of_ble_eq_true rfl) (kc' := kc24) (ks' := ks25) (mc := mc26) (ms := ms27) hkc24 hks25 h ?_
    intro v22 G23 h
    obtain ⟨o28, h⟩ := h
    refine e_iinc (ls' := [(2, ((b : Int) + 10)), (0, (x1 + 1))]) d_Hours_liveMinute_76 rfl (by decide) o28 rfl ?_
    refine e_goto (tgt := 47) d_Hours_liveMinute_79 (by decide) ?_
    exact e_forget (ls' := [(2, ((b : Int) + 10)), (0, (x1 + 1))]) ⟨Or.inr rfl, Or.inr rfl, trivial⟩ h
set_option maxRecDepth 20000 in
set_option maxHeartbeats 4000000 in
theorem sg_C_minutes_0 {e : gE} {b : Nat} {m : Int} {Z : Int → gH → Prop} {kc ks : Nat} {G : gH} {p1 : Int} (h : ((1 ≤ p1 ∧ p1 ≤ 240) → ((G 730 ((b : Int) + 1) 0) = 1 → EX e b m m_C_minutes Z kc ks 28 [(2, ((b : Int) + 1)), (0, p1), (0, 0)] [] G)) ∧ ((((¬ (1 ≤ p1 ∧ p1 ≤ 240))) ∨ ((1 ≤ p1 ∧ p1 ≤ 240) ∧ (G 730 ((b : Int) + 1) 0) ≠ 1)) → GX e b m m_C_refuse [(2, ((b : Int) + 1)), (0, (-6))] G 0 0 (fun v7 G8 => Z v7 G8))) : EX e b m m_C_minutes Z kc ks 0 [(2, ((b : Int) + 1)), (0, p1), (9, 0)] [] G := by
  obtain ⟨h, hJ5⟩ := h
  have kJ5 : (((¬ (1 ≤ p1 ∧ p1 ≤ 240))) ∨ ((1 ≤ p1 ∧ p1 ≤ 240) ∧ (G 730 ((b : Int) + 1) 0) ≠ 1)) → EX e b m m_C_minutes Z kc ks 19 [(2, ((b : Int) + 1)), (0, p1), (9, 0)] [] G := by
    intro rJ5
    have h := hJ5 rJ5
    refine e_aload_n d_C_minutes_19 rfl ?_
    refine e_bipush d_C_minutes_20 (by decide) (by decide) ?_
    refine EV.inv fun hFf6 => ?_
    have f6 := (fx_ct 0 rfl hFf6).1
    refine e_callV m_C_refuse 11 lw_good d_C_minutes_22 (k_C_refuse _) ⟨Nat.le_of_ble_eq_true rfl, Nat.le_of_ble_eq_true rfl⟩ w_297 w_299 w_s0 (q_C _) rfl f6 (args := [(0, (-6))]) rfl rfl (Nat.le_of_ble_eq_true rfl) (kc' := kc) (ks' := ks) (mc := 0) (ms := 0) rfl rfl h ?_
    intro v7 G8 h
    exact e_iret d_C_minutes_25 rfl h
  refine e_iload_n d_C_minutes_0 rfl ?_
  refine e_iconst d_C_minutes_1 (by decide) ?_
  refine e_sipush d_C_minutes_2 (by decide) (by decide) ?_
  refine e_callS m_C_within lw_good d_C_minutes_5 (k_C_within _) ⟨Nat.le_of_ble_eq_true rfl, Nat.le_of_ble_eq_true rfl⟩ w_294 w_295 (args := [(0, p1), (0, 1), (0, 240)]) rfl rfl (Nat.le_of_ble_eq_true rfl) (kc' := kc) (ks' := ks) (mc := 0) (ms := 0) rfl rfl (c_C_within) (pureK ?_)
  refine e_if_eq (tgt := 19) d_C_minutes_8 (by decide) (fun q1 => ?_) (fun q2 => ?_)
  · replace q1 := gb0.mp q1
    exact kJ5 (Or.inl q1)
  · replace q2 := gb1.mp q2
    have h := h q2
    refine e_aload_n d_C_minutes_11 rfl ?_
    refine gx_C_81 d_C_minutes_12 rfl ?_
    refine e_iconst d_C_minutes_15 (by decide) ?_
    refine e_icmp_eq (tgt := 26) d_C_minutes_16 (by decide) (fun q3 => ?_) (fun q4 => ?_)
    · have h := h q3
      refine e_iconst d_C_minutes_26 (by decide) ?_
      refine e_istore_n (ls' := [(2, ((b : Int) + 1)), (0, p1), (0, 0)]) d_C_minutes_27 (by decide) rfl ?_
      exact e_forget (ls' := [(2, ((b : Int) + 1)), (0, p1), (0, 0)]) ⟨Or.inr rfl, Or.inr rfl, Or.inr rfl, trivial⟩ h
    · exact kJ5 (Or.inr ⟨q2, q4⟩)
set_option maxRecDepth 20000 in
set_option maxHeartbeats 4000000 in
theorem sg_C_minutes_28 {e : gE} {b : Nat} {m : Int} {Z : Int → gH → Prop} {kc ks : Nat} {G : gH} {p1 x2 : Int} (h : (p1 ≤ x2 → GX e b m m_Hours_over [(2, ((b : Int) + 10))] G 0 0 (fun v25 G26 => (v25 = 0 → Z (G26 83 ((b : Int) + 10) 0) G26) ∧ (v25 ≠ 0 → ∀ G29 : gH, G29 = gU G26 730 ((b : Int) + 1) 0 2 → Z (G29 83 ((b : Int) + 10) 0) G29))) ∧ (x2 < p1 → GX e b m m_Hours_over [(2, ((b : Int) + 10))] G 0 0 (fun v4 G5 => (v4 ≠ 0 → GX e b m m_Hours_over [(2, ((b : Int) + 10))] G5 0 0 (fun v17 G18 => (v17 = 0 → Z (G18 83 ((b : Int) + 10) 0) G18) ∧ (v17 ≠ 0 → ∀ G21 : gH, G21 = gU G18 730 ((b : Int) + 1) 0 2 → Z (G21 83 ((b : Int) + 10) 0) G21))) ∧ (v4 = 0 → ∃ kc11 ks12 mc13 ms14 : Nat, kc = kc11 + mc13 ∧ ks = ks12 + ms14 ∧ GX e b m m_Hours_liveMinute [(2, ((b : Int) + 10))] G5 mc13 ms14 (fun _ G10 => (inI (x2 + 1)) ∧ EX e b m m_C_minutes Z kc11 ks12 28 [(2, ((b : Int) + 1)), (0, p1), (0, (x2 + 1))] [] G10))))) : EX e b m m_C_minutes Z kc ks 28 [(2, ((b : Int) + 1)), (0, p1), (0, x2)] [] G := by
  refine e_iload_n d_C_minutes_28 rfl ?_
  refine e_iload_n d_C_minutes_29 rfl ?_
  refine e_icmp_ge (tgt := 56) d_C_minutes_30 (by decide) (fun q1 => ?_) (fun q2 => ?_)
  · have h := h.1 q1
    refine e_aload_n d_C_minutes_56 rfl ?_
    refine gx_C_28 d_C_minutes_57 rfl ?_
    refine EV.inv fun hFf24 => ?_
    have f24 := (fx_ct 9 rfl hFf24).1
    refine e_callV m_Hours_over 1 lw_good d_C_minutes_60 (k_Hours_over _) ⟨Nat.le_of_ble_eq_true rfl, Nat.le_of_ble_eq_true rfl⟩ w_936 w_937 w_938 (q_Hours _) rfl f24 (args := []) rfl rfl (Nat.le_of_ble_eq_true rfl) (kc' := kc) (ks' := ks) (mc := 0) (ms := 0) rfl rfl h ?_
    intro v25 G26 h
    refine e_if_eq (tgt := 71) d_C_minutes_63 (by decide) (fun q27 => ?_) (fun q28 => ?_)
    · have h := h.1 q27
      refine e_aload_n d_C_minutes_71 rfl ?_
      refine gx_C_28 d_C_minutes_72 rfl ?_
      refine EV.inv fun hFf30 => ?_
      have f30 := (fx_ct 9 rfl hFf30).1
      refine e_callV m_Hours_minuteNow 1 lw_good d_C_minutes_75 (k_Hours_minuteNow _) ⟨Nat.le_of_ble_eq_true rfl, Nat.le_of_ble_eq_true rfl⟩ w_590 w_591 w_592 (q_Hours _) rfl f30 (args := []) rfl rfl (Nat.le_of_ble_eq_true rfl) (kc' := kc) (ks' := ks) (mc := 0) (ms := 0) rfl rfl (c_Hours_minuteNow) (pureK ?_)
      exact e_iret d_C_minutes_78 rfl h
    · have h := h.2 q28
      refine e_aload_n d_C_minutes_66 rfl ?_
      refine e_iconst d_C_minutes_67 (by decide) ?_
      refine px_C_81 d_C_minutes_68 rfl ?_
      let G29 : gH := gU G26 730 ((b : Int) + 1) 0 2
      have h := h G29 rfl
      refine e_aload_n d_C_minutes_71 rfl ?_
      refine gx_C_28 d_C_minutes_72 rfl ?_
      refine EV.inv fun hFf31 => ?_
      have f31 := (fx_ct 9 rfl hFf31).1
      refine e_callV m_Hours_minuteNow 1 lw_good d_C_minutes_75 (k_Hours_minuteNow _) ⟨Nat.le_of_ble_eq_true rfl, Nat.le_of_ble_eq_true rfl⟩ w_590 w_591 w_592 (q_Hours _) rfl f31 (args := []) rfl rfl (Nat.le_of_ble_eq_true rfl) (kc' := kc) (ks' := ks) (mc := 0) (ms := 0) rfl rfl (c_Hours_minuteNow) (pureK ?_)
      exact e_iret d_C_minutes_78 rfl h
  · have h := h.2 q2
    refine e_aload_n d_C_minutes_33 rfl ?_
    refine gx_C_28 d_C_minutes_34 rfl ?_
    refine EV.inv fun hFf3 => ?_
    have f3 := (fx_ct 9 rfl hFf3).1
    refine e_callV m_Hours_over 1 lw_good d_C_minutes_37 (k_Hours_over _) ⟨Nat.le_of_ble_eq_true rfl, Nat.le_of_ble_eq_true rfl⟩ w_936 w_937 w_938 (q_Hours _) rfl f3 (args := []) rfl rfl (Nat.le_of_ble_eq_true rfl) (kc' := kc) (ks' := ks) (mc := 0) (ms := 0) rfl rfl h ?_
    intro v4 G5 h
    refine e_if_ne (tgt := 56) d_C_minutes_40 (by decide) (fun q6 => ?_) (fun q7 => ?_)
    · have h := h.1 q6
      refine e_aload_n d_C_minutes_56 rfl ?_
      refine gx_C_28 d_C_minutes_57 rfl ?_
      refine EV.inv fun hFf16 => ?_
      have f16 := (fx_ct 9 rfl hFf16).1
      refine e_callV m_Hours_over 1 lw_good d_C_minutes_60 (k_Hours_over _) ⟨Nat.le_of_ble_eq_true rfl, Nat.le_of_ble_eq_true rfl⟩ w_936 w_937 w_938 (q_Hours _) rfl f16 (args := []) rfl rfl (Nat.le_of_ble_eq_true rfl) (kc' := kc) (ks' := ks) (mc := 0) (ms := 0) rfl rfl h ?_
      intro v17 G18 h
      refine e_if_eq (tgt := 71) d_C_minutes_63 (by decide) (fun q19 => ?_) (fun q20 => ?_)
      · have h := h.1 q19
        refine e_aload_n d_C_minutes_71 rfl ?_
        refine gx_C_28 d_C_minutes_72 rfl ?_
        refine EV.inv fun hFf22 => ?_
        have f22 := (fx_ct 9 rfl hFf22).1
        refine e_callV m_Hours_minuteNow 1 lw_good d_C_minutes_75 (k_Hours_minuteNow _) ⟨Nat.le_of_ble_eq_true rfl, Nat.le_of_ble_eq_true rfl⟩ w_590 w_591 w_592 (q_Hours _) rfl f22 (args := []) rfl rfl (Nat.le_of_ble_eq_true rfl) (kc' := kc) (ks' := ks) (mc := 0) (ms := 0) rfl rfl (c_Hours_minuteNow) (pureK ?_)
        exact e_iret d_C_minutes_78 rfl h
      · have h := h.2 q20
        refine e_aload_n d_C_minutes_66 rfl ?_
        refine e_iconst d_C_minutes_67 (by decide) ?_
        refine px_C_81 d_C_minutes_68 rfl ?_
        let G21 : gH := gU G18 730 ((b : Int) + 1) 0 2
        have h := h G21 rfl
        refine e_aload_n d_C_minutes_71 rfl ?_
        refine gx_C_28 d_C_minutes_72 rfl ?_
        refine EV.inv fun hFf23 => ?_
        have f23 := (fx_ct 9 rfl hFf23).1
        refine e_callV m_Hours_minuteNow 1 lw_good d_C_minutes_75 (k_Hours_minuteNow _) ⟨Nat.le_of_ble_eq_true rfl, Nat.le_of_ble_eq_true rfl⟩ w_590 w_591 w_592 (q_Hours _) rfl f23 (args := []) rfl rfl (Nat.le_of_ble_eq_true rfl) (kc' := kc) (ks' := ks) (mc := 0) (ms := 0) rfl rfl (c_Hours_minuteNow) (pureK ?_)
        exact e_iret d_C_minutes_78 rfl h
    · have h := h.2 q7
      refine e_aload_n d_C_minutes_43 rfl ?_
      refine gx_C_28 d_C_minutes_44 rfl ?_
      refine EV.inv fun hFf8 => ?_
      have f8 := (fx_ct 9 rfl hFf8).1
      obtain ⟨kc11, ks12, mc13, ms14, hkc11, hks12, h⟩ := h
      refine e_callV m_Hours_liveMinute 1 lw_good d_C_minutes_47 (k_Hours_liveMinute _) ⟨Nat.le_of_ble_eq_true rfl, Nat.le_of_ble_eq_true rfl⟩ w_940 w_941 w_942 (q_Hours _) rfl f8 (args := []) rfl rfl (Nat.le_of_ble_eq_true rfl) (kc' := kc11) (ks' := ks12) (mc := mc13) (ms := ms14) hkc11 hks12 h ?_
      intro v9 G10 h
      obtain ⟨o15, h⟩ := h
      refine e_iinc (ls' := [(2, ((b : Int) + 1)), (0, p1), (0, (x2 + 1))]) d_C_minutes_50 rfl (by decide) o15 rfl ?_
      refine e_goto (tgt := 28) d_C_minutes_53 (by decide) ?_
      exact e_forget (ls' := [(2, ((b : Int) + 1)), (0, p1), (0, (x2 + 1))]) ⟨Or.inr rfl, Or.inr rfl, Or.inr rfl, trivial⟩ h
theorem c_begin {e : gE} {b : Nat} {m : Int} {G : gH} {A : zA} {T Q P : Int → Int} {k t : Int} (hc : zRc e b m G A T Q P) (h : zHo A) (hk : 0 ≤ k ∧ k < A 786 0) (ht : zTh A t) (hg : zGv A (A 14) k t) (hl : G 602 (T t) 0 = zLen A t) : GX e b m m_Team_begin [(2, Q k), (2, T t), (0, k), (0, A 789 0)] G 1 0 (fun _ G1 => zRc e b m G1 (zGo (zB1 A k t) t (200 + k)) T Q P ∧ zRf m G G1) := by
  refine GM.tg fun hTg => GM.inv fun hF => ?_
  have hlo := fx_lo hF
  obtain ⟨hi, hp, hm, hs⟩ := h
  have hc2 := hc
  obtain ⟨⟨r1, r2, r3, r4⟩, hT, hQ, hP, hJ, hD⟩ := hc2
  have bt : 0 ≤ A 786 0 ∧ A 786 0 ≤ 3 := hi.1 786 0
  have b0 : 0 ≤ A 785 0 ∧ A 785 0 ≤ 16 := hi.1 785 0
  have bn : 0 ≤ A 789 0 ∧ A 789 0 ≤ 240 := hi.1 789 0
  have q := hQ.2.1 k hk.1 hk.2
  have q9 := hQ.1.2.2.1 k hk.1 hk.2
  have tt := (hT.2.1 t ht.1 ht.2).1
  have hz := zLen_b (zR_of hi.1 hi.2.1 (t := t) ⟨ht.1, by have := ht.2; omega⟩ hg.2)
  have pw2 := zPw_2 hg.2
  have hq := q.1
  refine GM.ofEV (by decide) (Nat.le_of_ble_eq_true rfl) (sg_Team_begin_0 q9 ⟨by omega, ?_⟩)
  rintro _ rfl
  have el : gU G 530 (Q k) 0 (T t) 602 (T t) 0 = zLen A t := (gU_c _ (by decide)).trans hl
  rw [el]
  refine ⟨tt.1.1, (gU_c _ (by decide)).trans tt.1.1, by omega, ?_⟩
  rintro _ rfl
  have hT6 : zRkT e b m (gU (gU G 530 (Q k) 0 (T t)) 529 (Q k) 0 (A 789 0 + zLen A t)) (zB1 A k t) T (zTau A) := zRkT_B zB1_ch (by decide) (zRkT_fr (zRkT_fr hT ⟨fun i j _ => gU_c _ (by decide), ⟨gU_c _ (by decide), gU_c _ (by decide)⟩, fun _ j => gU_c _ (by decide), fun t t1 t2 => ⟨fun c hc => gU_c _ (by omega), fun j => gU_c _ (by decide), fun j => gU_c _ (by decide)⟩⟩) ⟨fun i j _ => gU_c _ (by decide), ⟨gU_c _ (by decide), gU_c _ (by decide)⟩, fun _ j => gU_c _ (by decide), fun t t1 t2 => ⟨fun c hc => gU_c _ (by omega), fun j => gU_c _ (by decide), fun j => gU_c _ (by decide)⟩⟩)
  have hB6 : zB 512 (zB1 A k t) := zB_u (zB_u hi.1 ⟨by show (0 : Int) ≤ A 789 0 + zLen A t; omega, by show A 789 0 + zLen A t ≤ 500 + 60 * 512; omega⟩) ⟨by show (-1 : Int) ≤ t; have := ht.1; omega, by show t ≤ 15; have := ht.2; omega⟩
  have e11 : zB1 A k t 11 t = A 11 t := by rw [zB1_ch 11 (by decide)]
  have go := c_goH (w := 200 + k) hB6 (zS2_c hs (zB1_ch 35 (by decide)) (zB1_ch 794 (by decide)) (zB1_ch 11 (by decide)) (zB1_ch 785 (by decide))) hT6 (by rw [zB1_ch 788 (by decide)]; exact hp) (by unfold zTh; rw [zB1_ch 785 (by decide)]; exact ht) (by omega) (by rw [e11, pw2]; decide)
  rw [zB1_ch 789 (by decide)] at go
  refine ⟨by omega, 0, 0, 1, 0, rfl, rfl, GM.mono go ?_⟩
  rintro _ G9 ⟨k1, k2⟩
  have w1 : zFW m [530, 529, 598, 604, 605, 1] G (gU G 530 (Q k) 0 (T t)) := zFW_u (by decide) (by decide) hq
  have w2 : zFW m [530, 529, 598, 604, 605, 1] (gU G 530 (Q k) 0 (T t)) (gU (gU G 530 (Q k) 0 (T t)) 529 (Q k) 0 (A 789 0 + zLen A t)) := zFW_u (by decide) (by decide) hq
  have w := zFW_t (zFW_t w1 w2) (zFW_m k2 (S' := [530, 529, 598, 604, 605, 1]) (by decide))
  have qc : zCh ([16, 17] ++ [35, 36, 37, 794, 38, 11]) A (zGo (zB1 A k t) t (200 + k)) := zCh_t zB1_ch zGo_ch2
  refine ⟨zRc_h hTg hlo hc w (by decide) qc (by decide) (zRkT_τ k1 (fun u u1 u2 => ?_)) ⟨?_, fun j j1 j2 => ?_, ?_⟩ (fun u u1 u2 => ?_), zRf_fw hlo.2 w⟩
  · unfold zTau zIn
    rw [zGo_w, qc 14 (by decide), zB1_ch 11 (by decide)]
    by_cases z : u = t
    · rw [if_pos z, if_pos (by omega), z, if_neg (by have := hg.2; omega), if_pos hg.2, hg.1]
      omega
    · rw [if_neg z]
  · rw [qc 786 (by decide)]
    exact zAL_fw hTg hlo (by decide) w (by decide) (by decide) hQ.1
  · rw [qc 786 (by decide)] at j2
    have x := hQ.2.1 j j1 j2
    have hj := (hTg (Q j) (by have := hQ.1.2.2.1 j j1 j2; omega)).2
    have e9 : gU (gU G 530 (Q k) 0 (T t)) 529 (Q k) 0 (A 789 0 + zLen A t) 9 0 0 = G 9 0 0 := (gU_c _ (by decide)).trans (gU_c _ (by decide))
    rw [w.2 528 _ _ (by decide) hj (fun z => absurd z.1 (by decide)), qc 15 (by decide), k2.2 529 _ _ (by decide) (by omega) (fun z => absurd z.1 (by decide)), k2.2 530 _ _ (by decide) (by omega) (fun z => absurd z.1 (by decide)), zGo_k (k := 16) (by decide), zGo_k (k := 17) (by decide), zB1_16, zB1_17, gU_c 530 (c := 529) (by decide)]
    refine ⟨x.1, x.2.1, ?_⟩
    by_cases z : j = k
    · rw [z, gU_eq, gU_eq, if_pos rfl, if_pos rfl, if_neg (by have := ht.1; omega)]
      exact ⟨rfl, rfl⟩
    · have nz : Q j ≠ Q k := fun y => z (hQ.2.2 j k j1 j2 hk.1 hk.2 y)
      rw [gU_ne (fun y => nz y.2.1), gU_ne (fun y => nz y.2.1), gU_ne (fun y => nz y.2.1), if_neg z, if_neg z]
      exact x.2.2
  · rw [qc 786 (by decide)]
    exact hQ.2.2
  · unfold zIn at u2
    rw [zGo_w] at u2 ⊢
    by_cases z : u = t
    · rw [if_pos z] at u2; omega
    · rw [if_neg z, zB1_ch 11 (by decide)]
