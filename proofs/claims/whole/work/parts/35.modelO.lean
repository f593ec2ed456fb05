/-! THE REFERENCE, 15: begin, comes -/
def zNxt (A : zA) (k : Int) : Int := zArg (zGv A (A 14) k) (zDue A) (A 785 0)
def zBg1 (k : Int) (r : Int × zA) : Int × zA := if r.2 17 k ≠ -1 ∨ r.2 789 0 < r.2 16 k ∨ zNxt r.2 k = -1 then r else (r.1, zGo (zU (zU r.2 16 k (r.2 789 0 + zLen r.2 (zNxt r.2 k))) 17 k (zNxt r.2 k)) (zNxt r.2 k) (200 + k))
def zBegin (A : zA) : zA := (zF zBg1 (0, A) (A 786 0)).2
def zCm1 (k : Int) (r : Int × zA) : Int × zA := if r.2 17 k ≠ -1 ∧ r.2 16 k = r.2 789 0 then (r.1, zU (zGo r.2 (r.2 17 k) 300) 17 k (-1)) else r
def zComes (A : zA) : zA := (zF zCm1 (0, A) (A 786 0)).2
theorem zNxt_w {A : zA} {k : Int} (h : 0 ≤ A 785 0) (q : zNxt A k ≠ -1) : (0 ≤ zNxt A k ∧ zNxt A k < A 785 0) ∧ A 14 (zNxt A k) = k ∧ zIn A (zNxt A k) := by
  rcases zArg_w (P := zGv A (A 14) k) (D := zDue A) (A 785 0) h with w | w
  · exact absurd w.1 q
  · exact ⟨w.1, w.2.1⟩
theorem zHI_u {A : zA} {k : Nat} {i v : Int} (h : zHI A) (hk : k ≠ 11 ∧ k ≠ 17 ∧ k ≠ 785 ∧ k ≠ 794) (hv : zlo k ≤ v ∧ v ≤ zhi 512 k) : zHI (zU A k i v) := by
  obtain ⟨h1, h2, h3, h4⟩ := h
  obtain ⟨k1, k2, k3, k4⟩ := hk
  have e1 : ∀ i', zU A k i v 11 i' = A 11 i' := fun i' => zU_k (fun z => k1 z.symm)
  have e2 : ∀ i', zU A k i v 17 i' = A 17 i' := fun i' => zU_k (fun z => k2 z.symm)
  have e3 : ∀ i', zU A k i v 785 i' = A 785 i' := fun i' => zU_k (fun z => k3 z.symm)
  have e4 : ∀ i', zU A k i v 794 i' = A 794 i' := fun i' => zU_k (fun z => k4 z.symm)
  refine ⟨zB_u h1 hv, fun t t1 t2 q => ?_, fun j j1 j2 q => ?_, ?_⟩
  · have q2 : 100 ≤ zU A k i v 11 t ∧ zU A k i v 11 t < 200 := q
    rw [e1] at q2 ⊢
    exact h2 t t1 t2 q2
  · rw [e2] at q ⊢
    rw [e3, e1]
    exact h3 j j1 j2 q
  · unfold zPt at *
    rw [e4, e3]
    simp only [e1]
    exact h4
/-- what begin and comes keep -/
def zSm (A B : zA) : Prop := ∀ (k : Nat) (i : Int), (k = 785 ∨ k = 786 ∨ k = 789 ∨ k = 790 ∨ k = 788 ∨ k = 14 ∨ k = 791 ∨ k = 6 ∨ k = 10 ∨ k = 5 ∨ k = 9 ∨ k = 15) → A k i = B k i
theorem zBg1_w {k : Int} {r : Int × zA} (hk : 0 ≤ k ∧ k < 3) (h : zHI r.2) : zHI (zBg1 k r).2 ∧ zSm (zBg1 k r).2 r.2 := by
  unfold zBg1
  split
  · exact ⟨h, fun _ _ _ => rfl⟩
  · rename_i q
    obtain ⟨v, A⟩ := r
    dsimp only at *
    have h1 := h.1
    have b0 : 0 ≤ A 785 0 ∧ A 785 0 ≤ 16 := h1 785 0
    have b1 : 0 ≤ A 789 0 ∧ A 789 0 ≤ 240 := h1 789 0
    have hn := zNxt_w (A := A) (k := k) b0.1 (by omega)
    have hz := zLen_b (zR_of h1 h.2.1 (t := zNxt A k) (by omega) hn.2.2)
    generalize ht : zNxt A k = t at *
    have hA1 : zHI (zU A 16 k (A 789 0 + zLen A t)) := zHI_u h (by decide) (by show 0 ≤ A 789 0 + zLen A t ∧ A 789 0 + zLen A t ≤ 500 + 60 * 512; omega)
    have e1 : ∀ i, zU (zU A 16 k (A 789 0 + zLen A t)) 17 k t 11 i = A 11 i := fun i => by rw [zU_k (by decide), zU_k (by decide)]
    have e2 : zU (zU A 16 k (A 789 0 + zLen A t)) 17 k t 785 0 = A 785 0 := by rw [zU_k (by decide), zU_k (by decide)]
    have e3 : zU (zU A 16 k (A 789 0 + zLen A t)) 17 k t 794 0 = A 794 0 := by rw [zU_k (by decide), zU_k (by decide)]
    have hP : zPt 512 (zU (zU A 16 k (A 789 0 + zLen A t)) 17 k t) := by
      have := h.2.2.2
      unfold zPt at *
      rw [e3, e2]
      simp only [e1]
      exact this
    have hB2 : zB 512 (zU (zU A 16 k (A 789 0 + zLen A t)) 17 k t) := zB_u hA1.1 (by show -1 ≤ t ∧ t ≤ 15; omega)
    have hw : zPw (200 + k) < zPw (zU (zU A 16 k (A 789 0 + zLen A t)) 17 k t 11 t) := by
      rw [e1]
      have := hn.2.2
      unfold zPw
      rw [if_neg (by omega), if_pos (by omega), if_pos (by omega)]
      decide
    refine ⟨⟨zGo_B hB2 (zGo_s hB2 hP (by rw [e2]; exact hn.1) hw) (by omega) (by omega), zGo_I ?_ (by omega), ?_, zGo_P hP (by rw [e2]; exact hn.1) hw⟩, ?_⟩
    · intro i i1 i2 q2
      have q3 : 100 ≤ zU (zU A 16 k (A 789 0 + zLen A t)) 17 k t 11 i ∧ zU (zU A 16 k (A 789 0 + zLen A t)) 17 k t 11 i < 200 := q2
      rw [e1] at q3 ⊢
      exact h.2.1 i i1 i2 q3
    · intro j j1 j2 q2
      rw [zGo_k (by decide)] at q2 ⊢
      rw [zGo_k (by decide), e2, zGo_w, e1]
      by_cases z : j = k
      · subst z
        rw [zU_eq, if_pos rfl]
        exact ⟨hn.1, rfl⟩
      · rw [zU_i z, zU_k (by decide)] at q2 ⊢
        have := h.2.2.1 j j1 j2 q2
        refine ⟨this.1, ?_⟩
        split
        · rename_i w
          have h5 := hn.2.2
          rw [w] at this
          omega
        · exact this.2
    · intro k' i hk'
      show zGo _ t (200 + k) k' i = A k' i
      rw [zGo_k (by omega), zU_k (by omega), zU_k (by omega)]
theorem zCm1_w {k : Int} {r : Int × zA} (hk : 0 ≤ k ∧ k < 3) (h : zHI r.2) : zHI (zCm1 k r).2 ∧ zSm (zCm1 k r).2 r.2 := by
  unfold zCm1
  split
  · rename_i q
    obtain ⟨v, A⟩ := r
    dsimp only at *
    have h1 := h.1
    have b0 : 0 ≤ A 785 0 ∧ A 785 0 ≤ 16 := h1 785 0
    have hd := h.2.2.1 k hk.1 hk.2 q.1
    have hw : zPw 300 < zPw (A 11 (A 17 k)) := by
      rw [hd.2]
      unfold zPw
      rw [if_neg (by omega), if_neg (by omega), if_neg (by omega), if_pos (by omega)]
      decide
    have hB := zGo_B (t := A 17 k) (w := 300) h1 (zGo_s h1 h.2.2.2 hd.1 hw) (by omega) (by decide)
    have hP := zGo_P (t := A 17 k) (w := 300) h.2.2.2 hd.1 hw
    have hI := zGo_I (t := A 17 k) (w := 300) h.2.1 (by decide)
    have e1 : ∀ i, zU (zGo A (A 17 k) 300) 17 k (-1) 11 i = zGo A (A 17 k) 300 11 i := fun i => zU_k (by decide)
    refine ⟨⟨zB_u hB (by decide), fun i i1 i2 q2 => ?_, fun j j1 j2 q2 => ?_, ?_⟩, ?_⟩
    · have q3 : 100 ≤ zU (zGo A (A 17 k) 300) 17 k (-1) 11 i ∧ zU (zGo A (A 17 k) 300) 17 k (-1) 11 i < 200 := q2
      rw [e1] at q3 ⊢
      exact hI i i1 i2 q3
    · by_cases z : j = k
      · subst z
        rw [zU_eq] at q2
        exact absurd rfl q2
      · rw [zU_i z, zGo_k (by decide)] at q2 ⊢
        have := h.2.2.1 j j1 j2 q2
        rw [zU_k (by decide), zGo_k (by decide), e1, zGo_w]
        refine ⟨this.1, ?_⟩
        split
        · rename_i w
          have h5 := hd.2
          rw [w] at this
          omega
        · exact this.2
    · unfold zPt at *
      rw [zU_k (by decide), zU_k (by decide)]
      simp only [e1]
      exact hP
    · intro k' i hk'
      show zU (zGo A (A 17 k) 300) 17 k (-1) k' i = A k' i
      rw [zU_k (by omega), zGo_k (by omega)]
  · exact ⟨h, fun _ _ _ => rfl⟩
theorem zSm_t {A B C : zA} (h : zSm A B) (h2 : zSm B C) : zSm A C := fun k i q => (h k i q).trans (h2 k i q)
theorem zBg_w {A : zA} (h : zHI A) (v : Int) (n : Int) (hn : 0 ≤ n ∧ n ≤ 3) : zHI (zF zBg1 (v, A) n).2 ∧ zSm (zF zBg1 (v, A) n).2 A :=
  zF_i (I := fun _ q => zHI q.2 ∧ zSm q.2 A) n hn.1 ⟨h, fun _ _ _ => rfl⟩ (fun i q h1 h2 hi => by
    have := zBg1_w (k := i) (r := q) (by omega) hi.1
    exact ⟨this.1, zSm_t this.2 hi.2⟩)
theorem zCm_w {A : zA} (h : zHI A) (v : Int) (n : Int) (hn : 0 ≤ n ∧ n ≤ 3) : zHI (zF zCm1 (v, A) n).2 ∧ zSm (zF zCm1 (v, A) n).2 A :=
  zF_i (I := fun _ q => zHI q.2 ∧ zSm q.2 A) n hn.1 ⟨h, fun _ _ _ => rfl⟩ (fun i q h1 h2 hi => by
    have := zCm1_w (k := i) (r := q) (by omega) hi.1
    exact ⟨this.1, zSm_t this.2 hi.2⟩)
set_option maxRecDepth 20000 in
set_option maxHeartbeats 4000000 in
theorem sg_M_begin_0 {e : gE} {b : Nat} {m : Int} {Z : Int → gH → Prop} {kc ks : Nat} {G : gH} (h : EX e b m m_M_begin Z kc ks 2 [(2, (m + 0)), (0, 0), (9, 0)] [] G) : EX e b m m_M_begin Z kc ks 0 [(2, (m + 0)), (9, 0), (9, 0)] [] G := by
  refine e_iconst d_M_begin_0 (by decide) ?_
  refine e_istore_n (ls' := [(2, (m + 0)), (0, 0), (9, 0)]) d_M_begin_1 (by decide) rfl ?_
  exact e_forget (ls' := [(2, (m + 0)), (0, 0), (9, 0)]) ⟨Or.inr rfl, Or.inr rfl, Or.inl rfl, trivial⟩ h
set_option maxRecDepth 20000 in
set_option maxHeartbeats 4000000 in
theorem sg_M_begin_2 {e : gE} {b : Nat} {m : Int} {Z : Int → gH → Prop} {kc ks : Nat} {G : gH} {x1 : Int} (h : (((zM m G 786 0) ≤ x1 → Z 0 G) ∧ (x1 < (zM m G 786 0) → (0 ≤ x1 ∧ x1 < 3) ∧ ((zM m G 17 x1) = (-1) → ((zM m G 16 x1) ≤ (zM m G 789 0) → GX e b m m_M_lines [(2, (m + 0)), (0, x1), (2, (m + 14))] G 0 0 (fun v9 G10 => (v9 ≠ 0 → (zR (zM m G10) (G10 1 (m + 40) 0)) ∧ ((inI ((zM m G10 789 0) + (zLen (zM m G10) (G10 1 (m + 40) 0)))) ∧ (∀ G16 : gH, G16 = gU G10 1 (m + 16) x1 ((zM m G10 789 0) + (zLen (zM m G10) (G10 1 (m + 40) 0))) → ∀ G17 : gH, G17 = gU G16 1 (m + 17) x1 (G10 1 (m + 40) 0) → (inI (200 + x1)) ∧ GX e b m m_M_goes [(2, (m + 0)), (0, (G10 1 (m + 40) 0)), (0, (200 + x1))] G17 0 0 (fun _ G21 => (inI (x1 + 1)) ∧ EX e b m m_M_begin Z kc ks 2 [(2, (m + 0)), (0, (x1 + 1)), (9, 0)] [] G21)))) ∧ (v9 = 0 → (inI (x1 + 1)) ∧ EX e b m m_M_begin Z kc ks 2 [(2, (m + 0)), (0, (x1 + 1)), (9, 0)] [] G10)))))) ∧ (((x1 < (zM m G 786 0) ∧ (zM m G 17 x1) ≠ (-1)) ∨ (x1 < (zM m G 786 0) ∧ (zM m G 17 x1) = (-1) ∧ (zM m G 789 0) < (zM m G 16 x1))) → (inI (x1 + 1)) ∧ EX e b m m_M_begin Z kc ks 2 [(2, (m + 0)), (0, (x1 + 1)), (9, 0)] [] G)) : EX e b m m_M_begin Z kc ks 2 [(2, (m + 0)), (0, x1), (9, 0)] [] G := by
  obtain ⟨h, hJ24⟩ := h
  have kJ24 : ((x1 < (zM m G 786 0) ∧ (zM m G 17 x1) ≠ (-1)) ∨ (x1 < (zM m G 786 0) ∧ (zM m G 17 x1) = (-1) ∧ (zM m G 789 0) < (zM m G 16 x1))) → EX e b m m_M_begin Z kc ks 88 [(2, (m + 0)), (0, x1), (9, 0)] [] G := by
    intro rJ24
    have h := hJ24 rJ24
    obtain ⟨o25, h⟩ := h
    refine e_iinc (ls' := [(2, (m + 0)), (0, (x1 + 1)), (9, 0)]) d_M_begin_88 rfl (by decide) o25 rfl ?_
    refine e_goto (tgt := 2) d_M_begin_91 (by decide) ?_
    exact e_forget (ls' := [(2, (m + 0)), (0, (x1 + 1)), (9, 0)]) ⟨Or.inr rfl, Or.inr rfl, Or.inl rfl, trivial⟩ h
  refine e_iload_n d_M_begin_2 rfl ?_
  refine e_aload_n d_M_begin_3 rfl ?_
  refine gx_M_174 d_M_begin_4 rfl ?_
  refine e_icmp_ge (tgt := 94) d_M_begin_7 (by decide) (fun q1 => ?_) (fun q2 => ?_)
  · have h := h.1 q1
    exact e_vret d_M_begin_94 rfl h
  · have h := h.2 q2
    refine e_aload_n d_M_begin_10 rfl ?_
    refine gx_M_63 d_M_begin_11 rfl ?_
    refine e_iload_n d_M_begin_14 rfl ?_
    obtain ⟨o3, h⟩ := h
    refine xM_iald 17 rfl d_M_begin_15 o3 ?_
    refine e_iconst d_M_begin_16 (by decide) ?_
    refine e_icmp_ne (tgt := 88) d_M_begin_17 (by decide) (fun q4 => ?_) (fun q5 => ?_)
    · exact kJ24 (Or.inl ⟨q2, q4⟩)
    · have h := h q5
      refine e_aload_n d_M_begin_20 rfl ?_
      refine gx_M_60 d_M_begin_21 rfl ?_
      refine e_iload_n d_M_begin_24 rfl ?_
      refine xM_iald 16 rfl d_M_begin_25 o3 ?_
      refine e_aload_n d_M_begin_26 rfl ?_
      refine gx_M_197 d_M_begin_27 rfl ?_
      refine e_icmp_gt (tgt := 88) d_M_begin_30 (by decide) (fun q6 => ?_) (fun q7 => ?_)
      · exact kJ24 (Or.inr ⟨q2, q5, q6⟩)
      · have h := h q7
        refine e_aload_n d_M_begin_33 rfl ?_
        refine e_iload_n d_M_begin_34 rfl ?_
        refine e_aload_n d_M_begin_35 rfl ?_
        refine gx_M_54 d_M_begin_36 rfl ?_
        refine EV.inv fun hFf8 => ?_
        have f8 := (fx_mt 0 rfl hFf8).1
        refine e_callV m_M_lines 12 lw_good d_M_begin_39 (k_M_lines _) ⟨Nat.le_of_ble_eq_true rfl, Nat.le_of_ble_eq_true rfl⟩ w_1644 w_1646 w_s55 (q_M _) rfl f8 (args := [(0, x1), (2, (m + 14))]) rfl rfl (Nat.le_of_ble_eq_true rfl) (kc' := kc) (ks' := ks) (mc := 0) (ms := 0) rfl rfl h ?_
        intro v9 G10 h
        refine e_if_ne (tgt := 48) d_M_begin_42 (by decide) (fun q11 => ?_) (fun q12 => ?_)
        · have h := h.1 q11
          refine e_aload_n d_M_begin_48 rfl ?_
          refine gx_M_133 d_M_begin_49 rfl ?_
          refine e_iconst d_M_begin_52 (by decide) ?_
          refine xM_iald 40 rfl d_M_begin_53 (by decide) ?_
          refine e_istore_n (ls' := [(2, (m + 0)), (0, x1), (0, (G10 1 (m + 40) 0))]) d_M_begin_54 (by decide) rfl ?_
          refine e_aload_n d_M_begin_55 rfl ?_
          refine gx_M_60 d_M_begin_56 rfl ?_
          refine e_iload_n d_M_begin_59 rfl ?_
          refine e_aload_n d_M_begin_60 rfl ?_
          refine gx_M_197 d_M_begin_61 rfl ?_
          refine e_aload_n d_M_begin_64 rfl ?_
          refine e_iload_n d_M_begin_65 rfl ?_
          refine EV.inv fun hFf13 => ?_
          have f13 := (fx_mt 0 rfl hFf13).1
          obtain ⟨o14, h⟩ := h
          refine e_callV m_M_length 12 lw_good d_M_begin_66 (k_M_length _) ⟨Nat.le_of_ble_eq_true rfl, Nat.le_of_ble_eq_true rfl⟩ w_1656 w_1658 w_s58 (q_M _) rfl f13 (args := [(0, (G10 1 (m + 40) 0))]) rfl rfl (Nat.le_of_ble_eq_true rfl) (kc' := kc) (ks' := ks) (mc := 0) (ms := 0) rfl rfl (c_M_length o14) (pureK ?_)
          obtain ⟨o15, h⟩ := h
          refine e_iadd d_M_begin_69 o15 ?_
          refine xM_iast 16 rfl d_M_begin_70 o3 ?_
          let G16 : gH := gU G10 1 (m + 16) x1 ((zM m G10 789 0) + (zLen (zM m G10) (G10 1 (m + 40) 0)))
          have h := h G16 rfl
          refine e_aload_n d_M_begin_71 rfl ?_
          refine gx_M_63 d_M_begin_72 rfl ?_
          refine e_iload_n d_M_begin_75 rfl ?_
          refine e_iload_n d_M_begin_76 rfl ?_
          refine xM_iast 17 rfl d_M_begin_77 o3 ?_
          let G17 : gH := gU G16 1 (m + 17) x1 (G10 1 (m + 40) 0)
          have h := h G17 rfl
          refine e_aload_n d_M_begin_78 rfl ?_
          refine e_iload_n d_M_begin_79 rfl ?_
          refine e_sipush d_M_begin_80 (by decide) (by decide) ?_
          refine e_iload_n d_M_begin_83 rfl ?_
          obtain ⟨o18, h⟩ := h
          refine e_iadd d_M_begin_84 o18 ?_
          refine EV.inv fun hFf19 => ?_
          have f19 := (fx_mt 0 rfl hFf19).1
          refine e_callV m_M_goes 12 lw_good d_M_begin_85 (k_M_goes _) ⟨Nat.le_of_ble_eq_true rfl, Nat.le_of_ble_eq_true rfl⟩ w_1732 w_1734 w_s64 (q_M _) rfl f19 (args := [(0, (G10 1 (m + 40) 0)), (0, (200 + x1))]) rfl rfl (Nat.le_of_ble_eq_true rfl) (kc' := kc) (ks' := ks) (mc := 0) (ms := 0) rfl rfl h ?_
          intro v20 G21 h
          obtain ⟨o22, h⟩ := h
          refine e_iinc (ls' := [(2, (m + 0)), (0, (x1 + 1)), (0, (G10 1 (m + 40) 0))]) d_M_begin_88 rfl (by decide) o22 rfl ?_
          refine e_goto (tgt := 2) d_M_begin_91 (by decide) ?_
          exact e_forget (ls' := [(2, (m + 0)), (0, (x1 + 1)), (9, 0)]) ⟨Or.inr rfl, Or.inr rfl, Or.inl rfl, trivial⟩ h
        · have h := h.2 q12
          refine e_goto (tgt := 88) d_M_begin_45 (by decide) ?_
          obtain ⟨o23, h⟩ := h
          refine e_iinc (ls' := [(2, (m + 0)), (0, (x1 + 1)), (9, 0)]) d_M_begin_88 rfl (by decide) o23 rfl ?_
          refine e_goto (tgt := 2) d_M_begin_91 (by decide) ?_
          exact e_forget (ls' := [(2, (m + 0)), (0, (x1 + 1)), (9, 0)]) ⟨Or.inr rfl, Or.inr rfl, Or.inl rfl, trivial⟩ h
set_option maxRecDepth 20000 in
set_option maxHeartbeats 4000000 in
theorem sg_M_comes_0 {e : gE} {b : Nat} {m : Int} {Z : Int → gH → Prop} {kc ks : Nat} {G : gH} (h : EX e b m m_M_comes Z kc ks 2 [(2, (m + 0)), (0, 0)] [] G) : EX e b m m_M_comes Z kc ks 0 [(2, (m + 0)), (9, 0)] [] G := by
  refine e_iconst d_M_comes_0 (by decide) ?_
  refine e_istore_n (ls' := [(2, (m + 0)), (0, 0)]) d_M_comes_1 (by decide) rfl ?_
  exact e_forget (ls' := [(2, (m + 0)), (0, 0)]) ⟨Or.inr rfl, Or.inr rfl, trivial⟩ h
set_option maxRecDepth 20000 in
set_option maxHeartbeats 4000000 in
theorem sg_M_comes_2 {e : gE} {b : Nat} {m : Int} {Z : Int → gH → Prop} {kc ks : Nat} {G : gH} {x1 : Int} (h : (((zM m G 786 0) ≤ x1 → Z 0 G) ∧ (x1 < (zM m G 786 0) → (0 ≤ x1 ∧ x1 < 3) ∧ ((zM m G 17 x1) ≠ (-1) → ((zM m G 16 x1) = (zM m G 789 0) → GX e b m m_M_goes [(2, (m + 0)), (0, (zM m G 17 x1)), (0, 300)] G 0 0 (fun _ G10 => ∀ G11 : gH, G11 = gU G10 1 (m + 17) x1 (-1) → (inI (x1 + 1)) ∧ EX e b m m_M_comes Z kc ks 2 [(2, (m + 0)), (0, (x1 + 1))] [] G11))))) ∧ (((x1 < (zM m G 786 0) ∧ (zM m G 17 x1) = (-1)) ∨ (x1 < (zM m G 786 0) ∧ (zM m G 17 x1) ≠ (-1) ∧ (zM m G 16 x1) ≠ (zM m G 789 0))) → (inI (x1 + 1)) ∧ EX e b m m_M_comes Z kc ks 2 [(2, (m + 0)), (0, (x1 + 1))] [] G)) : EX e b m m_M_comes Z kc ks 2 [(2, (m + 0)), (0, x1)] [] G := by
  obtain ⟨h, hJ13⟩ := h
  have kJ13 : ((x1 < (zM m G 786 0) ∧ (zM m G 17 x1) = (-1)) ∨ (x1 < (zM m G 786 0) ∧ (zM m G 17 x1) ≠ (-1) ∧ (zM m G 16 x1) ≠ (zM m G 789 0))) → EX e b m m_M_comes Z kc ks 53 [(2, (m + 0)), (0, x1)] [] G := by
    intro rJ13
    have h := hJ13 rJ13
    obtain ⟨o14, h⟩ := h
    refine e_iinc (ls' := [(2, (m + 0)), (0, (x1 + 1))]) d_M_comes_53 rfl (by decide) o14 rfl ?_
    refine e_goto (tgt := 2) d_M_comes_56 (by decide) ?_
    exact e_forget (ls' := [(2, (m + 0)), (0, (x1 + 1))]) ⟨Or.inr rfl, Or.inr rfl, trivial⟩ h
  refine e_iload_n d_M_comes_2 rfl ?_
  refine e_aload_n d_M_comes_3 rfl ?_
  refine gx_M_174 d_M_comes_4 rfl ?_
  refine e_icmp_ge (tgt := 59) d_M_comes_7 (by decide) (fun q1 => ?_) (fun q2 => ?_)
  · have h := h.1 q1
    exact e_vret d_M_comes_59 rfl h
  · have h := h.2 q2
    refine e_aload_n d_M_comes_10 rfl ?_
    refine gx_M_63 d_M_comes_11 rfl ?_
    refine e_iload_n d_M_comes_14 rfl ?_
    obtain ⟨o3, h⟩ := h
    refine xM_iald 17 rfl d_M_comes_15 o3 ?_
    refine e_iconst d_M_comes_16 (by decide) ?_
    refine e_icmp_eq (tgt := 53) d_M_comes_17 (by decide) (fun q4 => ?_) (fun q5 => ?_)
    · exact kJ13 (Or.inl ⟨q2, q4⟩)
    · have h := h q5
      refine e_aload_n d_M_comes_20 rfl ?_
      refine gx_M_60 d_M_comes_21 rfl ?_
      refine e_iload_n d_M_comes_24 rfl ?_
      refine xM_iald 16 rfl d_M_comes_25 o3 ?_
      refine e_aload_n d_M_comes_26 rfl ?_
      refine gx_M_197 d_M_comes_27 rfl ?_
      refine e_icmp_ne (tgt := 53) d_M_comes_30 (by decide) (fun q6 => ?_) (fun q7 => ?_)
      · exact kJ13 (Or.inr ⟨q2, q5, q6⟩)
      · have h := h q7
        refine e_aload_n d_M_comes_33 rfl ?_
        refine e_aload_n d_M_comes_34 rfl ?_
        refine gx_M_63 d_M_comes_35 rfl ?_
        refine e_iload_n d_M_comes_38 rfl ?_
        refine xM_iald 17 rfl d_M_comes_39 o3 ?_
        refine e_sipush d_M_comes_40 (by decide) (by decide) ?_
        refine EV.inv fun hFf8 => ?_
        have f8 := (fx_mt 0 rfl hFf8).1
        refine e_callV m_M_goes 12 lw_good d_M_comes_43 (k_M_goes _) ⟨Nat.le_of_ble_eq_true rfl, Nat.le_of_ble_eq_true rfl⟩ w_1732 w_1734 w_s64 (q_M _) rfl f8 (args := [(0, (zM m G 17 x1)), (0, 300)]) rfl rfl (Nat.le_of_ble_eq_true rfl) (kc' := kc) (ks' := ks) (mc := 0) (ms := 0) rfl rfl h ?_
        intro v9 G10 h
        refine e_aload_n d_M_comes_46 rfl ?_
        refine gx_M_63 d_M_comes_47 rfl ?_
        refine e_iload_n d_M_comes_50 rfl ?_
        refine e_iconst d_M_comes_51 (by decide) ?_
        refine xM_iast 17 rfl d_M_comes_52 o3 ?_
        let G11 : gH := gU G10 1 (m + 17) x1 (-1)
        have h := h G11 rfl
        obtain ⟨o12, h⟩ := h
        refine e_iinc (ls' := [(2, (m + 0)), (0, (x1 + 1))]) d_M_comes_53 rfl (by decide) o12 rfl ?_
        refine e_goto (tgt := 2) d_M_comes_56 (by decide) ?_
        exact e_forget (ls' := [(2, (m + 0)), (0, (x1 + 1))]) ⟨Or.inr rfl, Or.inr rfl, trivial⟩ h
set_option maxRecDepth 20000 in
set_option maxHeartbeats 4000000 in
theorem sg_M_minutes_0 {e : gE} {b : Nat} {m : Int} {Z : Int → gH → Prop} {kc ks : Nat} {G : gH} {p1 : Int} (h : (1 ≤ p1 → (p1 ≤ 240 → ((zM m G 788 0) = 1 → EX e b m m_M_minutes Z kc ks 29 [(2, (m + 0)), (0, p1), (0, 0)] [] G))) ∧ ((p1 < 1 ∨ (1 ≤ p1 ∧ 240 < p1) ∨ (1 ≤ p1 ∧ p1 ≤ 240 ∧ (zM m G 788 0) ≠ 1)) → GX e b m m_M_no [(2, (m + 0)), (0, (-6))] G 0 0 (fun v9 G10 => Z v9 G10))) : EX e b m m_M_minutes Z kc ks 0 [(2, (m + 0)), (0, p1), (9, 0)] [] G := by
  obtain ⟨h, hJ7⟩ := h
  have kJ7 : (p1 < 1 ∨ (1 ≤ p1 ∧ 240 < p1) ∨ (1 ≤ p1 ∧ p1 ≤ 240 ∧ (zM m G 788 0) ≠ 1)) → EX e b m m_M_minutes Z kc ks 20 [(2, (m + 0)), (0, p1), (9, 0)] [] G := by
    intro rJ7
    have h := hJ7 rJ7
    refine e_aload_n d_M_minutes_20 rfl ?_
    refine e_bipush d_M_minutes_21 (by decide) (by decide) ?_
    refine EV.inv fun hFf8 => ?_
    have f8 := (fx_mt 0 rfl hFf8).1
    refine e_callV m_M_no 12 lw_good d_M_minutes_23 (k_M_no _) ⟨Nat.le_of_ble_eq_true rfl, Nat.le_of_ble_eq_true rfl⟩ w_1569 w_1571 w_s42 (q_M _) rfl f8 (args := [(0, (-6))]) rfl rfl (Nat.le_of_ble_eq_true rfl) (kc' := kc) (ks' := ks) (mc := 0) (ms := 0) rfl rfl h ?_
    intro v9 G10 h
    exact e_iret d_M_minutes_26 rfl h
  refine e_iload_n d_M_minutes_0 rfl ?_
  refine e_iconst d_M_minutes_1 (by decide) ?_
  refine e_icmp_lt (tgt := 20) d_M_minutes_2 (by decide) (fun q1 => ?_) (fun q2 => ?_)
  · exact kJ7 (Or.inl q1)
  · have h := h q2
    refine e_iload_n d_M_minutes_5 rfl ?_
    refine e_sipush d_M_minutes_6 (by decide) (by decide) ?_
    refine e_icmp_gt (tgt := 20) d_M_minutes_9 (by decide) (fun q3 => ?_) (fun q4 => ?_)
    · exact kJ7 (Or.inr (Or.inl ⟨q2, q3⟩))
    · have h := h q4
      refine e_aload_n d_M_minutes_12 rfl ?_
      refine gx_M_165 d_M_minutes_13 rfl ?_
      refine e_iconst d_M_minutes_16 (by decide) ?_
      refine e_icmp_eq (tgt := 27) d_M_minutes_17 (by decide) (fun q5 => ?_) (fun q6 => ?_)
      · have h := h q5
        refine e_iconst d_M_minutes_27 (by decide) ?_
        refine e_istore_n (ls' := [(2, (m + 0)), (0, p1), (0, 0)]) d_M_minutes_28 (by decide) rfl ?_
        exact e_forget (ls' := [(2, (m + 0)), (0, p1), (0, 0)]) ⟨Or.inr rfl, Or.inr rfl, Or.inr rfl, trivial⟩ h
      · exact kJ7 (Or.inr (Or.inr ⟨q2, q4, q6⟩))
set_option maxRecDepth 20000 in
set_option maxHeartbeats 4000000 in
theorem sg_M_minutes_29 {e : gE} {b : Nat} {m : Int} {Z : Int → gH → Prop} {kc ks : Nat} {G : gH} {p1 x2 : Int} (h : (x2 < p1 → ((zM m G 789 0) < (zM m G 790 0) → GX e b m m_M_begin [(2, (m + 0))] G 0 0 (fun _ G7 => (inI ((zM m G7 789 0) + 1)) ∧ (∀ G9 : gH, G9 = gU G7 789 (m + 0) 0 ((zM m G7 789 0) + 1) → GX e b m m_M_comes [(2, (m + 0))] G9 0 0 (fun _ G12 => (inI (x2 + 1)) ∧ EX e b m m_M_minutes Z kc ks 29 [(2, (m + 0)), (0, p1), (0, (x2 + 1))] [] G12))))) ∧ ((p1 ≤ x2 ∨ (x2 < p1 ∧ (zM m G 790 0) ≤ (zM m G 789 0))) → ((zM m G 789 0) ≠ (zM m G 790 0) → Z (zM m G 789 0) G) ∧ ((zM m G 789 0) = (zM m G 790 0) → EX e b m m_M_minutes Z kc ks 82 [(2, (m + 0)), (9, 0), (0, 0)] [] G))) : EX e b m m_M_minutes Z kc ks 29 [(2, (m + 0)), (0, p1), (0, x2)] [] G := by
  obtain ⟨h, hJ14⟩ := h
  have kJ14 : (p1 ≤ x2 ∨ (x2 < p1 ∧ (zM m G 790 0) ≤ (zM m G 789 0))) → EX e b m m_M_minutes Z kc ks 69 [(2, (m + 0)), (0, p1), (0, x2)] [] G := by
    intro rJ14
    have h := hJ14 rJ14
    refine e_aload_n d_M_minutes_69 rfl ?_
    refine gx_M_197 d_M_minutes_70 rfl ?_
    refine e_aload_n d_M_minutes_73 rfl ?_
    refine gx_M_210 d_M_minutes_74 rfl ?_
    refine e_icmp_ne (tgt := 124) d_M_minutes_77 (by decide) (fun q15 => ?_) (fun q16 => ?_)
    · have h := h.1 q15
      refine e_aload_n d_M_minutes_124 rfl ?_
      refine gx_M_197 d_M_minutes_125 rfl ?_
      exact e_iret d_M_minutes_128 rfl h
    · have h := h.2 q16
      refine e_iconst d_M_minutes_80 (by decide) ?_
      refine e_istore_n (ls' := [(2, (m + 0)), (0, p1), (0, 0)]) d_M_minutes_81 (by decide) rfl ?_
      exact e_forget (ls' := [(2, (m + 0)), (9, 0), (0, 0)]) ⟨Or.inr rfl, Or.inl rfl, Or.inr rfl, trivial⟩ h
  refine e_iload_n d_M_minutes_29 rfl ?_
  refine e_iload_n d_M_minutes_30 rfl ?_
  refine e_icmp_ge (tgt := 69) d_M_minutes_31 (by decide) (fun q1 => ?_) (fun q2 => ?_)
  · exact kJ14 (Or.inl q1)
  · have h := h q2
    refine e_aload_n d_M_minutes_34 rfl ?_
    refine gx_M_197 d_M_minutes_35 rfl ?_
    refine e_aload_n d_M_minutes_38 rfl ?_
    refine gx_M_210 d_M_minutes_39 rfl ?_
    refine e_icmp_ge (tgt := 69) d_M_minutes_42 (by decide) (fun q3 => ?_) (fun q4 => ?_)
    · exact kJ14 (Or.inr ⟨q2, q3⟩)
    · have h := h q4
      refine e_aload_n d_M_minutes_45 rfl ?_
      refine EV.inv fun hFf5 => ?_
      have f5 := (fx_mt 0 rfl hFf5).1
      refine e_callV m_M_begin 12 lw_good d_M_minutes_46 (k_M_begin _) ⟨Nat.le_of_ble_eq_true rfl, Nat.le_of_ble_eq_true rfl⟩ w_1728 w_1730 w_s63 (q_M _) rfl f5 (args := []) rfl rfl (Nat.le_of_ble_eq_true rfl) (kc' := kc) (ks' := ks) (mc := 0) (ms := 0) rfl rfl h ?_
      intro v6 G7 h
      refine e_aload_n d_M_minutes_49 rfl ?_
      refine e_dup d_M_minutes_50 (by simp) ?_
      refine gx_M_197 d_M_minutes_51 rfl ?_
      refine e_iconst d_M_minutes_54 (by decide) ?_
      obtain ⟨o8, h⟩ := h
      refine e_iadd d_M_minutes_55 o8 ?_
      refine px_M_197 d_M_minutes_56 rfl ?_
      let G9 : gH := gU G7 789 (m + 0) 0 ((zM m G7 789 0) + 1)
      have h := h G9 rfl
      refine e_aload_n d_M_minutes_59 rfl ?_
      refine EV.inv fun hFf10 => ?_
      have f10 := (fx_mt 0 rfl hFf10).1
      refine e_callV m_M_comes 12 lw_good d_M_minutes_60 (k_M_comes _) ⟨Nat.le_of_ble_eq_true rfl, Nat.le_of_ble_eq_true rfl⟩ w_1736 w_1738 w_s65 (q_M _) rfl f10 (args := []) rfl rfl (Nat.le_of_ble_eq_true rfl) (kc' := kc) (ks' := ks) (mc := 0) (ms := 0) rfl rfl h ?_
      intro v11 G12 h
      obtain ⟨o13, h⟩ := h
      refine e_iinc (ls' := [(2, (m + 0)), (0, p1), (0, (x2 + 1))]) d_M_minutes_63 rfl (by decide) o13 rfl ?_
      refine e_goto (tgt := 29) d_M_minutes_66 (by decide) ?_
      exact e_forget (ls' := [(2, (m + 0)), (0, p1), (0, (x2 + 1))]) ⟨Or.inr rfl, Or.inr rfl, Or.inr rfl, trivial⟩ h
set_option maxRecDepth 20000 in
set_option maxHeartbeats 4000000 in
theorem sg_M_minutes_82 {e : gE} {b : Nat} {m : Int} {Z : Int → gH → Prop} {kc ks : Nat} {G : gH} {x2 : Int} (h : ((zM m G 785 0) ≤ x2 → ∀ G3 : gH, G3 = gU G 788 (m + 0) 0 2 → Z (zM m G 789 0) G3) ∧ (x2 < (zM m G 785 0) → (0 ≤ x2 ∧ x2 < 16) ∧ (((¬ (zIn (zM m G) x2)) → (inI (x2 + 1)) ∧ EX e b m m_M_minutes Z kc ks 82 [(2, (m + 0)), (9, 0), (0, (x2 + 1))] [] G) ∧ (zIn (zM m G) x2 → ∀ G8 : gH, G8 = gU G 1 (m + 14) x2 (-1) → GX e b m m_M_goes [(2, (m + 0)), (0, x2), (0, 500)] G8 0 0 (fun _ G11 => (inI (x2 + 1)) ∧ EX e b m m_M_minutes Z kc ks 82 [(2, (m + 0)), (9, 0), (0, (x2 + 1))] [] G11))))) : EX e b m m_M_minutes Z kc ks 82 [(2, (m + 0)), (9, 0), (0, x2)] [] G := by
  refine e_iload_n d_M_minutes_82 rfl ?_
  refine e_aload_n d_M_minutes_83 rfl ?_
  refine gx_M_151 d_M_minutes_84 rfl ?_
  refine e_icmp_ge (tgt := 119) d_M_minutes_87 (by decide) (fun q1 => ?_) (fun q2 => ?_)
  · have h := h.1 q1
    refine e_aload_n d_M_minutes_119 rfl ?_
    refine e_iconst d_M_minutes_120 (by decide) ?_
    refine px_M_165 d_M_minutes_121 rfl ?_
    let G3 : gH := gU G 788 (m + 0) 0 2
    have h := h G3 rfl
    refine e_aload_n d_M_minutes_124 rfl ?_
    refine gx_M_197 d_M_minutes_125 rfl ?_
    exact e_iret d_M_minutes_128 rfl h
  · have h := h.2 q2
    refine e_aload_n d_M_minutes_90 rfl ?_
    refine e_iload_n d_M_minutes_91 rfl ?_
    refine EV.inv fun hFf4 => ?_
    have f4 := (fx_mt 0 rfl hFf4).1
    obtain ⟨o5, h⟩ := h
    refine e_callV m_M_isInRoom 12 lw_good d_M_minutes_92 (k_M_isInRoom _) ⟨Nat.le_of_ble_eq_true rfl, Nat.le_of_ble_eq_true rfl⟩ w_1624 w_1626 w_s50 (q_M _) rfl f4 (args := [(0, x2)]) rfl rfl (Nat.le_of_ble_eq_true rfl) (kc' := kc) (ks' := ks) (mc := 0) (ms := 0) rfl rfl (c_M_isInRoom o5) (pureK ?_)
    refine e_if_eq (tgt := 113) d_M_minutes_95 (by decide) (fun q6 => ?_) (fun q7 => ?_)
    · replace q6 := gb0.mp q6
      have h := h.1 q6
      obtain ⟨o13, h⟩ := h
      refine e_iinc (ls' := [(2, (m + 0)), (9, 0), (0, (x2 + 1))]) d_M_minutes_113 rfl (by decide) o13 rfl ?_
      refine e_goto (tgt := 82) d_M_minutes_116 (by decide) ?_
      exact e_forget (ls' := [(2, (m + 0)), (9, 0), (0, (x2 + 1))]) ⟨Or.inr rfl, Or.inl rfl, Or.inr rfl, trivial⟩ h
    · replace q7 := gb1.mp q7
      have h := h.2 q7
      refine e_aload_n d_M_minutes_98 rfl ?_
      refine gx_M_54 d_M_minutes_99 rfl ?_
      refine e_iload_n d_M_minutes_102 rfl ?_
      refine e_iconst d_M_minutes_103 (by decide) ?_
      refine xM_iast 14 rfl d_M_minutes_104 o5 ?_
      let G8 : gH := gU G 1 (m + 14) x2 (-1)
      have h := h G8 rfl
      refine e_aload_n d_M_minutes_105 rfl ?_
      refine e_iload_n d_M_minutes_106 rfl ?_
      refine e_sipush d_M_minutes_107 (by decide) (by decide) ?_
      refine EV.inv fun hFf9 => ?_
      have f9 := (fx_mt 0 rfl hFf9).1
      refine e_callV m_M_goes 12 lw_good d_M_minutes_110 (k_M_goes _) ⟨Nat.le_of_ble_eq_true rfl, Nat.le_of_ble_eq_true rfl⟩ w_1732 w_1734 w_s64 (q_M _) rfl f9 (args := [(0, x2), (0, 500)]) rfl rfl (Nat.le_of_ble_eq_true rfl) (kc' := kc) (ks' := ks) (mc := 0) (ms := 0) rfl rfl h ?_
      intro v10 G11 h
      obtain ⟨o12, h⟩ := h
      refine e_iinc (ls' := [(2, (m + 0)), (9, 0), (0, (x2 + 1))]) d_M_minutes_113 rfl (by decide) o12 rfl ?_
      refine e_goto (tgt := 82) d_M_minutes_116 (by decide) ?_
      exact e_forget (ls' := [(2, (m + 0)), (9, 0), (0, (x2 + 1))]) ⟨Or.inr rfl, Or.inl rfl, Or.inr rfl, trivial⟩ h
theorem c_M_begin {e : gE} {b : Nat} {m : Int} {G : gH} (h : zHI (zM m G)) : GX e b m m_M_begin [(2, (m + 0))] G 0 0 (fun _ G1 => zM m G1 = zBegin (zM m G) ∧ zC m G G1) := by
  have b0 : 0 ≤ zM m G 786 0 ∧ zM m G 786 0 ≤ 3 := h.1 786 0
  refine GM.ofEV (by decide) (Nat.le_of_ble_eq_true rfl) (sg_M_begin_0 ?_)
  refine zloop (P := fun i => ∀ G1, zM m G1 = (zF zBg1 (0, zM m G) i).2 → zC m G G1 → EX e b m m_M_begin _ _ _ 2 [(2, (m + 0)), (0, i), (9, 0)] [] G1) (i := 0) (zM m G 786 0) b0.1 ?_ ?_ G rfl zC_r
  · intro G1 h1 h2
    have w := zBg_w h 0 (zM m G 786 0) b0
    rw [← h1] at w
    have e1 := w.2 786 0 (by decide)
    exact sg_M_begin_2 ⟨⟨fun _ => ⟨h1, h2⟩, fun q => absurd q (by omega)⟩, fun q => absurd q (by omega)⟩
  · intro j j1 j2 st G1 h1 h2
    have w := zBg_w h 0 j (by omega)
    rw [← h1] at w
    have e1 := w.2 786 0 (by decide)
    rw [zF_s j1] at st
    have es : zBg1 j (zF zBg1 (0, zM m G) j) = zBg1 j ((zF zBg1 (0, zM m G) j).1, zM m G1) := by rw [h1]
    rw [es] at st
    generalize hA : zM m G1 = A at *
    have hw := w.1
    have b1 : 0 ≤ A 785 0 ∧ A 785 0 ≤ 16 := hw.1 785 0
    have b2 : 0 ≤ A 789 0 ∧ A 789 0 ≤ 240 := hw.1 789 0
    have b3 : 0 ≤ A 791 0 ∧ A 791 0 ≤ 1000 := hw.1 791 0
    refine sg_M_begin_2 ?_
    rw [hA]
    refine ⟨⟨fun q => absurd q (by omega), fun _ => ⟨by omega, fun q1 q2 => ?_⟩⟩, fun q => ⟨by omega, st G1 ?_ h2⟩⟩
    · refine z_ctw 14 rfl fun hk => ?_
      refine GM.mono (c_M_lines (by rw [hA]; exact hw.1) (by rw [hA]; exact hw.2.1) hk (by omega)) ?_
      rintro n G2 ⟨k1, k2⟩
      have k3 := zArg_e k1
      have e2 := zO_M k2 (Int.le_refl _)
      rw [e2, hA]
      rw [hA] at k1 k3
      have eT : G1 1 (m + 14) = A 14 := by rw [← hA]; rfl
      rw [eT] at k1 k3
      change zNxt A j = _ at k3
      have k4 := zC_t h2 (zO_C k2 (by decide))
      refine ⟨fun q3 => ?_, fun q3 => ⟨by omega, st G2 ?_ k4⟩⟩
      · rw [if_neg q3] at k3
        have hn := zNxt_w (A := A) (k := j) b1.1 (by have := (k1.2.1 0 (Int.le_refl _) (by have := k1.1; omega)).1; omega)
        have hz := zR_of hw.1 hw.2.1 (t := zNxt A j) (by omega) hn.2.2
        have hl := zLen_b hz
        have w1 := zBg1_w (k := j) (r := (0, A)) (by omega) hw
        rw [← k3]
        refine ⟨hz, by omega, ?_⟩
        rintro _ rfl _ rfl
        have e5 : zM m (gU (gU G2 1 (m + 16) j (A 789 0 + zLen A (zNxt A j))) 1 (m + 17) j (zNxt A j)) = zU (zU A 16 j (A 789 0 + zLen A (zNxt A j))) 17 j (zNxt A j) := by rw [zM_u17, zM_u16, e2, hA]
        have e6 : zU (zU A 16 j (A 789 0 + zLen A (zNxt A j))) 17 j (zNxt A j) 794 0 = A 794 0 := by rw [zU_k (by decide), zU_k (by decide)]
        have e7 : zU (zU A 16 j (A 789 0 + zLen A (zNxt A j))) 17 j (zNxt A j) 791 0 = A 791 0 := by rw [zU_k (by decide), zU_k (by decide)]
        have b4 : 0 ≤ A 794 0 ∧ A 794 0 ≤ 16 * 512 + 32 := hw.1 794 0
        refine ⟨by omega, GM.mono (c_M_goes (by rw [e5, e6]; omega) (by rw [e5, e7]; omega) (by omega)) ?_⟩
        rintro v G3 ⟨-, l1, l2⟩
        refine ⟨by omega, st G3 ?_ (zC_t (zC_u (zC_u k4 (by decide)) (by decide)) l2)⟩
        rw [l1, e5]
        unfold zBg1
        rw [if_neg (by dsimp only; omega)]
      · rw [e2, hA]
        rw [if_pos q3] at k3
        unfold zBg1
        rw [if_pos (by dsimp only; omega)]
    · rw [hA]
      unfold zBg1
      rw [if_pos (by dsimp only; omega)]
theorem c_M_comes {e : gE} {b : Nat} {m : Int} {G : gH} (h : zHI (zM m G)) : GX e b m m_M_comes [(2, (m + 0))] G 0 0 (fun _ G1 => zM m G1 = zComes (zM m G) ∧ zC m G G1) := by
  have b0 : 0 ≤ zM m G 786 0 ∧ zM m G 786 0 ≤ 3 := h.1 786 0
  refine GM.ofEV (by decide) (Nat.le_of_ble_eq_true rfl) (sg_M_comes_0 ?_)
  refine zloop (P := fun i => ∀ G1, zM m G1 = (zF zCm1 (0, zM m G) i).2 → zC m G G1 → EX e b m m_M_comes _ _ _ 2 [(2, (m + 0)), (0, i)] [] G1) (i := 0) (zM m G 786 0) b0.1 ?_ ?_ G rfl zC_r
  · intro G1 h1 h2
    have w := zCm_w h 0 (zM m G 786 0) b0
    rw [← h1] at w
    have e1 := w.2 786 0 (by decide)
    exact sg_M_comes_2 ⟨⟨fun _ => ⟨h1, h2⟩, fun q => absurd q (by omega)⟩, fun q => absurd q (by omega)⟩
  · intro j j1 j2 st G1 h1 h2
    have w := zCm_w h 0 j (by omega)
    rw [← h1] at w
    have e1 := w.2 786 0 (by decide)
    rw [zF_s j1] at st
    have es : zCm1 j (zF zCm1 (0, zM m G) j) = zCm1 j ((zF zCm1 (0, zM m G) j).1, zM m G1) := by rw [h1]
    rw [es] at st
    have hw := w.1
    have b1 : 0 ≤ zM m G1 785 0 ∧ zM m G1 785 0 ≤ 16 := hw.1 785 0
    have b3 : 0 ≤ zM m G1 791 0 ∧ zM m G1 791 0 ≤ 1000 := hw.1 791 0
    have b4 : 0 ≤ zM m G1 794 0 ∧ zM m G1 794 0 ≤ 16 * 512 + 32 := hw.1 794 0
    refine sg_M_comes_2 ⟨⟨fun q => absurd q (by omega), fun _ => ⟨by omega, fun q1 q2 => ?_⟩⟩, fun q => ⟨by omega, st G1 ?_ h2⟩⟩
    · have hd := hw.2.2.1 j j1 (by omega) q1
      refine GM.mono (c_M_goes (by omega) (by omega) (by omega)) ?_
      rintro v G2 ⟨-, l1, l2⟩
      rintro _ rfl
      refine ⟨by omega, st _ ?_ (zC_u (zC_t h2 l2) (by decide))⟩
      rw [zM_u17, l1]
      unfold zCm1
      rw [if_pos ⟨q1, q2⟩]
    · unfold zCm1
      rw [if_neg (by dsimp only; omega)]
