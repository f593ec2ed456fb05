/-! THE REFERENCE, 20: plans, and the calls that make one -/
theorem zVd_0 {A : zA} {F : Int → Int} (h : ∀ t, 0 ≤ t → t < A 785 0 → F t = -1) : zVd A F :=
  ⟨fun t t1 t2 => Or.inl (h t t1 t2), fun k k1 k2 t t1 t2 q => by have := h t t1 t2; have := q.1; omega⟩
theorem zW_0 {A : zA} {F : Int → Int} (h0 : 0 ≤ A 785 0) (h : ∀ t, 0 ≤ t → t < A 785 0 → F t = -1) : zW A F = 0 := by
  have := zS_b (f := fun t => if F t = -1 then 0 else A 8 t) (c := 0) (A 785 0) (fun i i1 i2 => by show 0 ≤ (if F i = -1 then 0 else A 8 i) ∧ (if F i = -1 then 0 else A 8 i) ≤ 0; rw [if_pos (h i i1 i2)]; omega) h0 (Int.le_refl _)
  unfold zW
  omega
theorem zW_b {A : zA} {F : Int → Int} (h : zB 512 A) : 0 ≤ zW A F ∧ zW A F ≤ 1600 := by
  have b0 : 0 ≤ A 785 0 ∧ A 785 0 ≤ 16 := h 785 0
  have := zS_b (f := fun t => if F t = -1 then 0 else A 8 t) (c := 100) (A 785 0) (fun i i1 i2 => by
    have b2 : 0 ≤ A 8 i ∧ A 8 i ≤ 100 := h 8 i
    show 0 ≤ (if F i = -1 then 0 else A 8 i) ∧ (if F i = -1 then 0 else A 8 i) ≤ 100
    split <;> omega) b0.1 (by decide)
  unfold zW
  omega
theorem zIsB_of {A : zA} {L F F' R : Int → Int} {M' : Int} (h0 : 0 ≤ A 785 0) (h : zBt A (zXi A L 0 R) (-1) F M' F') : zIsB A F' ∧ zW A F' = M' := by
  have all : ∀ E, zVd A E → zXi A L 0 R E := fun E hE => ⟨hE, fun j j1 j2 => by omega⟩
  have z := h.1 (fun _ => -1) (all _ (zVd_0 (fun _ _ _ => rfl)))
  rw [zW_0 h0 (fun _ _ _ => rfl)] at z
  rcases h.2 with q | ⟨q1, q2, q3, q4⟩
  · omega
  · refine ⟨⟨q2.1, fun E hE => ?_⟩, q3⟩
    have w := h.1 E (all E hE)
    by_cases y : zW A E = M'
    · exact Or.inr ⟨by omega, q4 E (all E hE) y⟩
    · exact Or.inl (by omega)
theorem c_M_byAll {e : gE} {b : Nat} {m : Int} {G : gH} (h : zB 512 (zM m G)) (hI : zIr (zM m G)) : GX e b m m_M_byAll [(2, (m + 0))] G 0 0 (fun v G1 => v = (zBest (zM m G)).2 ∧ zFe (zM m G) (zBest (zM m G)).1 (G1 1 (m + 42)) ∧ zM m G1 = zM m G ∧ zC m G G1) := by
  generalize hA : zM m G = A at *
  have b0 : 0 ≤ A 785 0 ∧ A 785 0 ≤ 16 := h 785 0
  have b1 : 0 ≤ A 786 0 ∧ A 786 0 ≤ 3 := h 786 0
  refine GM.ofEV (by decide) (Nat.le_of_ble_eq_true rfl) (sg_M_byAll_0 ?_)
  refine zloop (P := fun T => ∀ (n : Int) (G1 : gH), zM m G1 = A → zC m G G1 → zEnum (zIn A) (fun _ => 0) T n (G1 1 (m + 43)) → (∀ t, 0 ≤ t → t < T → G1 1 (m + 41) t = -1) → EX e b m m_M_byAll _ _ _ 6 [(2, (m + 0)), (0, n), (0, zS (fun k => A 8 (G1 1 (m + 43) k)) n), (0, T), (9, 0), (9, 0), (9, 0), (9, 0)] [] G1) (i := 0) (A 785 0) b0.1 ?_ ?_ 0 G hA zC_r zEnum_0 (fun t t1 t2 => by omega)
  · intro n G1 k1 k2 k3 k4
    have hn := k3.1
    refine sg_M_byAll_6 ?_
    rw [k1]
    refine ⟨fun _ => ?_, fun q => absurd q (by omega)⟩
    refine zloop (P := fun i => ∀ G2, zO (m + 44) G1 G2 → (∀ k, 0 ≤ k → k < i → G2 1 (m + 44) k = -1) → EX e b m m_M_byAll _ _ _ 72 [(2, (m + 0)), (0, n), (0, zS (fun k => A 8 (G1 1 (m + 43) k)) n), (0, (-1)), (0, 0), (0, 0), (0, i), (9, 0)] [] G2) (i := 0) n hn.1 ?_ ?_ G1 zO_r (fun k q1 q2 => by omega)
    · intro G2 l1 l2
      refine sg_M_byAll_72 ⟨fun _ => ?_, fun q => absurd q (by omega)⟩
      have m2 := (zO_M l1 (by decide)).trans k1
      have L2 : ∀ k, G2 1 (m + 43) k = G1 1 (m + 43) k := fun k => l1 1 (m + 43) k (fun _ => by omega)
      have T2 : ∀ t, 0 ≤ t → t < A 785 0 → G2 1 (m + 41) t = -1 := fun t t1 t2 => by rw [l1 1 (m + 41) t (fun _ => by omega)]; exact k4 t t1 t2
      have hx := l_M_byAll_92 (e := e) (b := b) (m := m) (Z := fun v G1 => v = (zBest A).2 ∧ zFe A (zBest A).1 (G1 1 (m + 42)) ∧ zM m G1 = A ∧ zC m G G1) (kc := 0) (ks := 0) h hI k3 n.toNat 0 (-1) G2 (by omega) (Int.le_refl _) ⟨m2, fun k _ _ => L2 k, fun k q1 q2 => l2 k q1 q2, zVd_0 T2, fun k q1 q2 => T2 _ (k3.2.1 k q1 q2).1.1 (k3.2.1 k q1 q2).1.2⟩ (fun M' G' d w => ?_)
      · have eR : zRi A (G1 1 (m + 43)) n 0 = zS (fun k => A 8 (G1 1 (m + 43) k)) n := by unfold zRi; rw [zS_0]; omega
        rw [eR] at hx
        exact hx
      · refine sg_M_byAll_92 ⟨fun _ => ?_, fun q => absurd q (by decide)⟩
        have w2 := zIsB_of b0.1 w
        have w3 := zBest_u b0.2 b1.2 w2.1
        exact ⟨by omega, w3.1, d.1.trans m2, zC_t (zC_t k2 (zO_C l1 (by decide))) d.2.1⟩
    · intro i i1 i2 st G2 l1 l2
      refine sg_M_byAll_72 ⟨fun q => absurd q (by omega), fun _ => ⟨by omega, ?_⟩⟩
      rintro _ rfl
      refine ⟨by omega, st _ (zO_u l1) (fun k q1 q2 => ?_)⟩
      by_cases z : k = i
      · rw [z, gU_eq]
      · rw [gU_j z]; exact l2 k q1 (by omega)
  · intro T t1 t2 st n G1 k1 k2 k3 k4
    have hn := k3.1
    have bw : 0 ≤ A 8 T ∧ A 8 T ≤ 100 := h 8 T
    have bs := zS_b (f := fun k => A 8 (G1 1 (m + 43) k)) (c := 100) n (fun k _ _ => h 8 _) hn.1 (by decide)
    refine sg_M_byAll_6 ?_
    rw [k1]
    refine ⟨fun q => absurd q (by omega), fun _ => ⟨by omega, ?_⟩⟩
    rintro _ rfl _ rfl
    have e1 : zM m (gU (gU G1 1 (m + 42) T (-1)) 1 (m + 41) T (-1)) = A := by rw [zM_u41, zM_u42]; exact k1
    have C1 : zC m G (gU (gU G1 1 (m + 42) T (-1)) 1 (m + 41) T (-1)) := zC_u (zC_u k2 (by decide)) (by decide)
    have L1 : ∀ i, gU (gU G1 1 (m + 42) T (-1)) 1 (m + 41) T (-1) 1 (m + 43) i = G1 1 (m + 43) i := fun i => by rw [gU_k (by decide), gU_k (by decide)]
    have f1 : ∀ t, 0 ≤ t → t < T + 1 → gU (gU G1 1 (m + 42) T (-1)) 1 (m + 41) T (-1) 1 (m + 41) t = -1 := fun t q1 q2 => by
      by_cases z : t = T
      · rw [z, gU_eq]
      · rw [gU_j z, gU_k (by decide)]; exact k4 t q1 (by omega)
    rw [e1]
    refine ⟨fun q => ⟨by omega, ?_⟩, fun q => ⟨by omega, by omega, ?_⟩⟩
    · have := st n _ e1 C1 (zEnum_ext (zEnum_skip k3 q) (fun i _ _ => L1 i)) f1
      rw [zS_eq n hn.1 (f := fun k => A 8 (gU (gU G1 1 (m + 42) T (-1)) 1 (m + 41) T (-1) 1 (m + 43) k)) (g := fun k => A 8 (G1 1 (m + 43) k)) (fun i _ _ => by show A 8 (gU (gU G1 1 (m + 42) T (-1)) 1 (m + 41) T (-1) 1 (m + 43) i) = _; rw [L1])] at this
      exact this
    · rintro _ rfl
      have e2 : zM m (gU (gU (gU G1 1 (m + 42) T (-1)) 1 (m + 41) T (-1)) 1 (m + 43) n T) = A := by rw [zM_u43]; exact e1
      rw [e2]
      refine ⟨by omega, by omega, ?_⟩
      have L2 : ∀ i, 0 ≤ i → i < n → gU (gU (gU G1 1 (m + 42) T (-1)) 1 (m + 41) T (-1)) 1 (m + 43) n T 1 (m + 43) i = G1 1 (m + 43) i := fun i _ i2 => by rw [gU_j (by omega)]; exact L1 i
      have := st (n + 1) _ e2 (zC_u C1 (by decide)) (zEnum_ins k3 q (k := n) ⟨hn.1, Int.le_refl _⟩ (fun i _ _ => Int.le_refl _) (fun i i1 i2 => by omega) L2 gU_eq (fun i i1 i2 => by omega)) (fun t q1 q2 => by rw [gU_k (by decide)]; exact f1 t q1 q2)
      rw [zS_s hn.1, gU_eq, zS_eq n hn.1 (f := fun k => A 8 (gU (gU (gU G1 1 (m + 42) T (-1)) 1 (m + 41) T (-1)) 1 (m + 43) n T 1 (m + 43) k)) (g := fun k => A 8 (G1 1 (m + 43) k)) (fun i i1 i2 => by show A 8 (gU (gU (gU G1 1 (m + 42) T (-1)) 1 (m + 41) T (-1)) 1 (m + 43) n T 1 (m + 43) i) = _; rw [L2 i i1 i2])] at this
      exact this
/-- a plan is taken -/
def zTk (A : zA) (F : Int → Int) (n : Int) : zA := fun k i => if k = 14 ∧ (0 ≤ i ∧ i < n) ∧ zIn A i then F i else A k i
noncomputable def zPn (A : zA) : (Int → Int) × Int := if A 795 0 ≠ 0 ∧ zRooms A ≤ 8 then zBest A else zRule A
noncomputable def zfPlans (A : zA) : Int × zA := ((zPn A).2, zTk A (zPn A).1 (A 785 0))
theorem zTk_k {A : zA} {F : Int → Int} {n i : Int} {k : Nat} (h : k ≠ 14) : zTk A F n k i = A k i := if_neg (fun q => h q.1)
set_option maxRecDepth 20000 in
set_option maxHeartbeats 4000000 in
theorem sg_M_plans_0 {e : gE} {b : Nat} {m : Int} {Z : Int → gH → Prop} {kc ks : Nat} {G : gH} (h : ((zM m G 795 0) ≠ 0 → (zT (zM m G)) ∧ ((zRooms (zM m G)) ≤ 8 → GX e b m m_M_byAll [(2, (m + 0))] G 0 0 (fun v8 G9 => EX e b m m_M_plans Z kc ks 30 [(2, (m + 0)), (0, v8), (0, 0)] [] G9))) ∧ (((zM m G 795 0) = 0 ∨ ((zM m G 795 0) ≠ 0 ∧ 8 < (zRooms (zM m G)))) → GX e b m m_M_byRule [(2, (m + 0))] G 0 0 (fun v12 G13 => EX e b m m_M_plans Z kc ks 30 [(2, (m + 0)), (0, v12), (0, 0)] [] G13))) : EX e b m m_M_plans Z kc ks 0 [(2, (m + 0)), (9, 0), (9, 0)] [] G := by
  obtain ⟨h, hJ10⟩ := h
  have kJ10 : ((zM m G 795 0) = 0 ∨ ((zM m G 795 0) ≠ 0 ∧ 8 < (zRooms (zM m G)))) → EX e b m m_M_plans Z kc ks 23 [(2, (m + 0)), (9, 0), (9, 0)] [] G := by
    intro rJ10
    have h := hJ10 rJ10
    refine e_aload_n d_M_plans_23 rfl ?_
    refine EV.inv fun hFf11 => ?_
    have f11 := (fx_mt 0 rfl hFf11).1
    refine e_callV m_M_byRule 12 lw_good d_M_plans_24 (k_M_byRule _) ⟨Nat.le_of_ble_eq_true rfl, Nat.le_of_ble_eq_true rfl⟩ w_1664 w_1666 w_s60 (q_M _) rfl f11 (args := []) rfl rfl (Nat.le_of_ble_eq_true rfl) (kc' := kc) (ks' := ks) (mc := 0) (ms := 0) rfl rfl h ?_
    intro v12 G13 h
    refine e_istore_n (ls' := [(2, (m + 0)), (0, v12), (9, 0)]) d_M_plans_27 (by decide) rfl ?_
    refine e_iconst d_M_plans_28 (by decide) ?_
    refine e_istore_n (ls' := [(2, (m + 0)), (0, v12), (0, 0)]) d_M_plans_29 (by decide) rfl ?_
    exact e_forget (ls' := [(2, (m + 0)), (0, v12), (0, 0)]) ⟨Or.inr rfl, Or.inr rfl, Or.inr rfl, trivial⟩ h
  refine e_aload_n d_M_plans_0 rfl ?_
  refine gx_M_243 d_M_plans_1 rfl ?_
  refine e_if_eq (tgt := 23) d_M_plans_4 (by decide) (fun q1 => ?_) (fun q2 => ?_)
  · exact kJ10 (Or.inl q1)
  · have h := h q2
    refine e_aload_n d_M_plans_7 rfl ?_
    refine EV.inv fun hFf3 => ?_
    have f3 := (fx_mt 0 rfl hFf3).1
    obtain ⟨o4, h⟩ := h
    refine e_callV m_M_inRooms 12 lw_good d_M_plans_8 (k_M_inRooms _) ⟨Nat.le_of_ble_eq_true rfl, Nat.le_of_ble_eq_true rfl⟩ w_1620 w_1622 w_s49 (q_M _) rfl f3 (args := []) rfl rfl (Nat.le_of_ble_eq_true rfl) (kc' := kc) (ks' := ks) (mc := 0) (ms := 0) rfl rfl (c_M_inRooms o4) (pureK ?_)
    refine e_bipush d_M_plans_11 (by decide) (by decide) ?_
    refine e_icmp_gt (tgt := 23) d_M_plans_13 (by decide) (fun q5 => ?_) (fun q6 => ?_)
    · exact kJ10 (Or.inr ⟨q2, q5⟩)
    · have h := h q6
      refine e_aload_n d_M_plans_16 rfl ?_
      refine EV.inv fun hFf7 => ?_
      have f7 := (fx_mt 0 rfl hFf7).1
      refine e_callV m_M_byAll 12 lw_good d_M_plans_17 (k_M_byAll _) ⟨Nat.le_of_ble_eq_true rfl, Nat.le_of_ble_eq_true rfl⟩ w_1628 w_1630 w_s51 (q_M _) rfl f7 (args := []) rfl rfl (Nat.le_of_ble_eq_true rfl) (kc' := kc) (ks' := ks) (mc := 0) (ms := 0) rfl rfl h ?_
      intro v8 G9 h
      refine e_goto (tgt := 27) d_M_plans_20 (by decide) ?_
      refine e_istore_n (ls' := [(2, (m + 0)), (0, v8), (9, 0)]) d_M_plans_27 (by decide) rfl ?_
      refine e_iconst d_M_plans_28 (by decide) ?_
      refine e_istore_n (ls' := [(2, (m + 0)), (0, v8), (0, 0)]) d_M_plans_29 (by decide) rfl ?_
      exact e_forget (ls' := [(2, (m + 0)), (0, v8), (0, 0)]) ⟨Or.inr rfl, Or.inr rfl, Or.inr rfl, trivial⟩ h
set_option maxRecDepth 20000 in
set_option maxHeartbeats 4000000 in
theorem sg_M_plans_30 {e : gE} {b : Nat} {m : Int} {Z : Int → gH → Prop} {kc ks : Nat} {G : gH} {x1 x2 : Int} (h : ((zM m G 785 0) ≤ x2 → Z x1 G) ∧ (x2 < (zM m G 785 0) → (0 ≤ x2 ∧ x2 < 16) ∧ (((¬ (zIn (zM m G) x2)) → (inI (x2 + 1)) ∧ EX e b m m_M_plans Z kc ks 30 [(2, (m + 0)), (0, x1), (0, (x2 + 1))] [] G) ∧ (zIn (zM m G) x2 → ∀ G7 : gH, G7 = gU G 1 (m + 14) x2 (G 1 (m + 42) x2) → (inI (x2 + 1)) ∧ EX e b m m_M_plans Z kc ks 30 [(2, (m + 0)), (0, x1), (0, (x2 + 1))] [] G7)))) : EX e b m m_M_plans Z kc ks 30 [(2, (m + 0)), (0, x1), (0, x2)] [] G := by
  refine e_iload_n d_M_plans_30 rfl ?_
  refine e_aload_n d_M_plans_31 rfl ?_
  refine gx_M_151 d_M_plans_32 rfl ?_
  refine e_icmp_ge (tgt := 64) d_M_plans_35 (by decide) (fun q1 => ?_) (fun q2 => ?_)
  · have h := h.1 q1
    refine e_iload_n d_M_plans_64 rfl ?_
    exact e_iret d_M_plans_65 rfl h
  · have h := h.2 q2
    refine e_aload_n d_M_plans_38 rfl ?_
    refine e_iload_n d_M_plans_39 rfl ?_
    refine EV.inv fun hFf3 => ?_
    have f3 := (fx_mt 0 rfl hFf3).1
    obtain ⟨o4, h⟩ := h
    refine e_callV m_M_isInRoom 12 lw_good d_M_plans_40 (k_M_isInRoom _) ⟨Nat.le_of_ble_eq_true rfl, Nat.le_of_ble_eq_true rfl⟩ w_1624 w_1626 w_s50 (q_M _) rfl f3 (args := [(0, x2)]) rfl rfl (Nat.le_of_ble_eq_true rfl) (kc' := kc) (ks' := ks) (mc := 0) (ms := 0) rfl rfl (c_M_isInRoom o4) (pureK ?_)
    refine e_if_eq (tgt := 58) d_M_plans_43 (by decide) (fun q5 => ?_) (fun q6 => ?_)
    · replace q5 := gb0.mp q5
      have h := h.1 q5
      obtain ⟨o8, h⟩ := h
      refine e_iinc (ls' := [(2, (m + 0)), (0, x1), (0, (x2 + 1))]) d_M_plans_58 rfl (by decide) o8 rfl ?_
      refine e_goto (tgt := 30) d_M_plans_61 (by decide) ?_
      exact e_forget (ls' := [(2, (m + 0)), (0, x1), (0, (x2 + 1))]) ⟨Or.inr rfl, Or.inr rfl, Or.inr rfl, trivial⟩ h
    · replace q6 := gb1.mp q6
      have h := h.2 q6
      refine e_aload_n d_M_plans_46 rfl ?_
      refine gx_M_54 d_M_plans_47 rfl ?_
      refine e_iload_n d_M_plans_50 rfl ?_
      refine e_aload_n d_M_plans_51 rfl ?_
      refine gx_M_139 d_M_plans_52 rfl ?_
      refine e_iload_n d_M_plans_55 rfl ?_
      refine xM_iald 42 rfl d_M_plans_56 o4 ?_
      refine xM_iast 14 rfl d_M_plans_57 o4 ?_
      let G7 : gH := gU G 1 (m + 14) x2 (G 1 (m + 42) x2)
      have h := h G7 rfl
      obtain ⟨o9, h⟩ := h
      refine e_iinc (ls' := [(2, (m + 0)), (0, x1), (0, (x2 + 1))]) d_M_plans_58 rfl (by decide) o9 rfl ?_
      refine e_goto (tgt := 30) d_M_plans_61 (by decide) ?_
      exact e_forget (ls' := [(2, (m + 0)), (0, x1), (0, (x2 + 1))]) ⟨Or.inr rfl, Or.inr rfl, Or.inr rfl, trivial⟩ h
theorem l_M_plans {e : gE} {b : Nat} {m : Int} {kc ks : Nat} {G0 G : gH} {v : Int} {F : Int → Int} (A : zA) (h : zB 512 A) (hA : zM m G = A) (hC : zC m G0 G) (hF : zFe A F (G 1 (m + 42))) : EX e b m m_M_plans (zQ m G0 (v, zTk A F (A 785 0))) kc ks 30 [(2, (m + 0)), (0, v), (0, 0)] [] G := by
  have b0 : 0 ≤ A 785 0 ∧ A 785 0 ≤ 16 := h 785 0
  refine zloop (P := fun i => ∀ G1, zM m G1 = zTk A F i → zC m G0 G1 → (∀ j, G1 1 (m + 42) j = G 1 (m + 42) j) → EX e b m m_M_plans (zQ m G0 (v, zTk A F (A 785 0))) kc ks 30 [(2, (m + 0)), (0, v), (0, i)] [] G1) (i := 0) (A 785 0) b0.1 ?_ ?_ G ?_ hC (fun _ => rfl)
  · intro G1 k1 k2 k3
    refine sg_M_plans_30 ?_
    rw [k1, zTk_k (by decide)]
    exact ⟨fun _ => ⟨rfl, k1, k2⟩, fun q => absurd q (by omega)⟩
  · intro j j1 j2 st G1 k1 k2 k3
    have e1 : zTk A F j 11 j = A 11 j := zTk_k (by decide)
    refine sg_M_plans_30 ?_
    rw [k1, zTk_k (by decide)]
    unfold zIn
    rw [e1]
    refine ⟨fun q => absurd q (by omega), fun _ => ⟨by omega, fun q => ⟨by omega, st G1 ?_ k2 k3⟩, fun q => ?_⟩⟩
    · rw [k1]
      funext k i
      unfold zTk
      by_cases z : k = 14 ∧ (0 ≤ i ∧ i < j) ∧ zIn A i
      · rw [if_pos z, if_pos ⟨z.1, by omega, z.2.2⟩]
      · rw [if_neg z, if_neg (fun w => z ⟨w.1, ⟨w.2.1.1, by
          by_cases y : i = j
          · rw [y] at w; exact absurd w.2.2 q
          · omega⟩, w.2.2⟩)]
    · rintro _ rfl
      refine ⟨by omega, st _ ?_ (zC_u k2 (by decide)) (fun i => by rw [gU_k (by decide)]; exact k3 i)⟩
      rw [zM_u14, k1, k3, hF j j1 j2]
      funext k i
      unfold zU zTk
      by_cases z : k = 14 ∧ i = j
      · rw [if_pos z, z.2, if_pos ⟨z.1, by omega, q⟩]
      · rw [if_neg z]
        by_cases w : k = 14 ∧ (0 ≤ i ∧ i < j) ∧ zIn A i
        · rw [if_pos w, if_pos ⟨w.1, by omega, w.2.2⟩]
        · rw [if_neg w, if_neg (fun y => w ⟨y.1, by omega, y.2.2⟩)]
  · rw [hA]
    funext k i
    exact (if_neg (by omega)).symm
theorem c_M_plans {e : gE} {b : Nat} {m : Int} {G : gH} (h : zB 512 (zM m G)) (hI : zIr (zM m G)) : GX e b m m_M_plans [(2, (m + 0))] G 0 0 (zQ m G (zfPlans (zM m G))) := by
  have b0 : 0 ≤ zM m G 785 0 ∧ zM m G 785 0 ≤ 16 := h 785 0
  refine GM.ofEV (by decide) (Nat.le_of_ble_eq_true rfl) (sg_M_plans_0 ⟨fun q => ⟨b0, fun q2 => ?_⟩, fun q => ?_⟩)
  · refine GM.mono (c_M_byAll h hI) ?_
    rintro v G1 ⟨k1, k2, k3, k4⟩
    unfold zfPlans zPn
    rw [if_pos ⟨q, q2⟩, k1]
    exact l_M_plans (zM m G) h k3 k4 k2
  · refine GM.mono (c_M_byRule h hI) ?_
    rintro v G1 ⟨k1, k2, k3, k4⟩
    unfold zfPlans zPn
    rw [if_neg (by omega), k1]
    exact l_M_plans (zM m G) h k3 k4 k2
