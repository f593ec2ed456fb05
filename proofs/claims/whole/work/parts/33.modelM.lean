/-! THE REFERENCE, 13: the jobs of a team in the order of their dues -/
/-- a thing in a room is in one of twelve -/
def zIr (A : zA) : Prop := ∀ t, 0 ≤ t → t < 16 → zIn A t → A 11 t < 112
theorem zR_of {A : zA} {n : Int} (h : zB n A) (hI : zIr A) {t : Int} (ht : 0 ≤ t ∧ t < 16) (q : zIn A t) : zR A t :=
  ⟨ht, ⟨q.1, hI t ht.1 ht.2 q⟩, h 6 _, h 10 t, h 5 _, h 790 0⟩
/-- the things in rooms that a giving gives to a team -/
abbrev zGv (A : zA) (g : Int → Int) (k : Int) : Int → Prop := fun t => g t = k ∧ zIn A t
set_option maxRecDepth 20000 in
set_option maxHeartbeats 4000000 in
theorem sg_M_lines_0 {e : gE} {b : Nat} {m : Int} {Z : Int → gH → Prop} {kc ks : Nat} {G : gH} {p1 p2 : Int} (h : EX e b m m_M_lines Z kc ks 5 [(2, (m + 0)), (0, p1), (2, p2), (0, 0), (0, 0), (9, 0)] [] G) : EX e b m m_M_lines Z kc ks 0 [(2, (m + 0)), (0, p1), (2, p2), (9, 0), (9, 0), (9, 0)] [] G := by
  refine e_iconst d_M_lines_0 (by decide) ?_
  refine e_istore_n (ls' := [(2, (m + 0)), (0, p1), (2, p2), (0, 0), (9, 0), (9, 0)]) d_M_lines_1 (by decide) rfl ?_
  refine e_iconst d_M_lines_2 (by decide) ?_
  refine e_istore (ls' := [(2, (m + 0)), (0, p1), (2, p2), (0, 0), (0, 0), (9, 0)]) d_M_lines_3 (by decide) rfl ?_
  exact e_forget (ls' := [(2, (m + 0)), (0, p1), (2, p2), (0, 0), (0, 0), (9, 0)]) ⟨Or.inr rfl, Or.inr rfl, Or.inr rfl, Or.inr rfl, Or.inr rfl, Or.inl rfl, trivial⟩ h
set_option maxRecDepth 20000 in
set_option maxHeartbeats 4000000 in
theorem sg_M_lines_5 {e : gE} {b : Nat} {m : Int} {Z : Int → gH → Prop} {kc ks : Nat} {G : gH} {p1 p2 x3 x4 : Int} (h : (((zM m G 785 0) ≤ x4 → Z x3 G) ∧ (x4 < (zM m G 785 0) → (G 0 p2 0 = 100) ∧ ((0 ≤ x4) ∧ ((x4 < G 0 p2 1) ∧ ((G 1 p2 x4) = p1 → (0 ≤ x4 ∧ x4 < 16) ∧ (zIn (zM m G) x4 → (inI (x3 + 1)) ∧ EX e b m m_M_lines Z kc ks 40 [(2, (m + 0)), (0, p1), (2, p2), (0, (x3 + 1)), (0, x4), (0, x3)] [] G)))))) ∧ (((x4 < (zM m G 785 0) ∧ (G 1 p2 x4) ≠ p1) ∨ (x4 < (zM m G 785 0) ∧ (G 1 p2 x4) = p1 ∧ (¬ (zIn (zM m G) x4)))) → (inI (x4 + 1)) ∧ EX e b m m_M_lines Z kc ks 5 [(2, (m + 0)), (0, p1), (2, p2), (0, x3), (0, (x4 + 1)), (9, 0)] [] G)) : EX e b m m_M_lines Z kc ks 5 [(2, (m + 0)), (0, p1), (2, p2), (0, x3), (0, x4), (9, 0)] [] G := by
  obtain ⟨h, hJ13⟩ := h
  have kJ13 : ((x4 < (zM m G 785 0) ∧ (G 1 p2 x4) ≠ p1) ∨ (x4 < (zM m G 785 0) ∧ (G 1 p2 x4) = p1 ∧ (¬ (zIn (zM m G) x4)))) → EX e b m m_M_lines Z kc ks 98 [(2, (m + 0)), (0, p1), (2, p2), (0, x3), (0, x4), (9, 0)] [] G := by
    intro rJ13
    have h := hJ13 rJ13
    obtain ⟨o14, h⟩ := h
    refine e_iinc (ls' := [(2, (m + 0)), (0, p1), (2, p2), (0, x3), (0, (x4 + 1)), (9, 0)]) d_M_lines_98 rfl (by decide) o14 rfl ?_
    refine e_goto (tgt := 5) d_M_lines_101 (by decide) ?_
    exact e_forget (ls' := [(2, (m + 0)), (0, p1), (2, p2), (0, x3), (0, (x4 + 1)), (9, 0)]) ⟨Or.inr rfl, Or.inr rfl, Or.inr rfl, Or.inr rfl, Or.inr rfl, Or.inl rfl, trivial⟩ h
  refine e_iload d_M_lines_5 rfl ?_
  refine e_aload_n d_M_lines_7 rfl ?_
  refine gx_M_151 d_M_lines_8 rfl ?_
  refine e_icmp_ge (tgt := 104) d_M_lines_11 (by decide) (fun q1 => ?_) (fun q2 => ?_)
  · have h := h.1 q1
    refine e_iload_n d_M_lines_104 rfl ?_
    exact e_iret d_M_lines_105 rfl h
  · have h := h.2 q2
    refine e_aload_n d_M_lines_14 rfl ?_
    refine e_iload d_M_lines_15 rfl ?_
    obtain ⟨o3, o4, o5, h⟩ := h
    refine e_iald d_M_lines_17 o3 o4 o5 ?_
    refine e_iload_n d_M_lines_18 rfl ?_
    refine e_icmp_ne (tgt := 98) d_M_lines_19 (by decide) (fun q6 => ?_) (fun q7 => ?_)
    · exact kJ13 (Or.inl ⟨q2, q6⟩)
    · have h := h q7
      refine e_aload_n d_M_lines_22 rfl ?_
      refine e_iload d_M_lines_23 rfl ?_
      refine EV.inv fun hFf8 => ?_
      have f8 := (fx_mt 0 rfl hFf8).1
      obtain ⟨o9, h⟩ := h
      refine e_callV m_M_isInRoom 12 lw_good d_M_lines_25 (k_M_isInRoom _) ⟨Nat.le_of_ble_eq_true rfl, Nat.le_of_ble_eq_true rfl⟩ w_1624 w_1626 w_s50 (q_M _) rfl f8 (args := [(0, x4)]) rfl rfl (Nat.le_of_ble_eq_true rfl) (kc' := kc) (ks' := ks) (mc := 0) (ms := 0) rfl rfl (c_M_isInRoom o9) (pureK ?_)
      refine e_if_ne (tgt := 34) d_M_lines_28 (by decide) (fun q10 => ?_) (fun q11 => ?_)
      · replace q10 := gb1.mp q10
        have h := h q10
        refine e_iload_n d_M_lines_34 rfl ?_
        obtain ⟨o12, h⟩ := h
        refine e_iinc (ls' := [(2, (m + 0)), (0, p1), (2, p2), (0, (x3 + 1)), (0, x4), (9, 0)]) d_M_lines_35 rfl (by decide) o12 rfl ?_
        refine e_istore (ls' := [(2, (m + 0)), (0, p1), (2, p2), (0, (x3 + 1)), (0, x4), (0, x3)]) d_M_lines_38 (by decide) rfl ?_
        exact e_forget (ls' := [(2, (m + 0)), (0, p1), (2, p2), (0, (x3 + 1)), (0, x4), (0, x3)]) ⟨Or.inr rfl, Or.inr rfl, Or.inr rfl, Or.inr rfl, Or.inr rfl, Or.inr rfl, trivial⟩ h
      · replace q11 := gb0.mp q11
        refine e_goto (tgt := 98) d_M_lines_31 (by decide) ?_
        exact kJ13 (Or.inr ⟨q2, q7, q11⟩)
set_option maxRecDepth 20000 in
set_option maxHeartbeats 4000000 in
theorem sg_M_lines_40 {e : gE} {b : Nat} {m : Int} {Z : Int → gH → Prop} {kc ks : Nat} {G : gH} {p1 p2 x3 x4 x5 : Int} (h : (0 < x5 → (inI (x5 - 1)) ∧ ((0 ≤ (x5 - 1) ∧ (x5 - 1) < 16) ∧ ((zR (zM m G) (G 1 (m + 40) (x5 - 1))) ∧ ((zR (zM m G) x4) ∧ ((zDue (zM m G) x4) < (zDue (zM m G) (G 1 (m + 40) (x5 - 1))) → (0 ≤ x5 ∧ x5 < 16) ∧ (∀ G12 : gH, G12 = gU G 1 (m + 40) x5 (G 1 (m + 40) (x5 - 1)) → (inI (x5 + (-1))) ∧ EX e b m m_M_lines Z kc ks 40 [(2, (m + 0)), (0, p1), (2, p2), (0, x3), (0, x4), (0, (x5 + (-1)))] [] G12)))))) ∧ ((x5 ≤ 0 ∨ (0 < x5 ∧ (zDue (zM m G) (G 1 (m + 40) (x5 - 1))) ≤ (zDue (zM m G) x4))) → (0 ≤ x5 ∧ x5 < 16) ∧ (∀ G16 : gH, G16 = gU G 1 (m + 40) x5 x4 → (inI (x4 + 1)) ∧ EX e b m m_M_lines Z kc ks 5 [(2, (m + 0)), (0, p1), (2, p2), (0, x3), (0, (x4 + 1)), (9, 0)] [] G16))) : EX e b m m_M_lines Z kc ks 40 [(2, (m + 0)), (0, p1), (2, p2), (0, x3), (0, x4), (0, x5)] [] G := by
  obtain ⟨h, hJ14⟩ := h
  have kJ14 : (x5 ≤ 0 ∨ (0 < x5 ∧ (zDue (zM m G) (G 1 (m + 40) (x5 - 1))) ≤ (zDue (zM m G) x4))) → EX e b m m_M_lines Z kc ks 89 [(2, (m + 0)), (0, p1), (2, p2), (0, x3), (0, x4), (0, x5)] [] G := by
    intro rJ14
    have h := hJ14 rJ14
    refine e_aload_n d_M_lines_89 rfl ?_
    refine gx_M_133 d_M_lines_90 rfl ?_
    refine e_iload d_M_lines_93 rfl ?_
    refine e_iload d_M_lines_95 rfl ?_
    obtain ⟨o15, h⟩ := h
    refine xM_iast 40 rfl d_M_lines_97 o15 ?_
    let G16 : gH := gU G 1 (m + 40) x5 x4
    have h := h G16 rfl
    obtain ⟨o17, h⟩ := h
    refine e_iinc (ls' := [(2, (m + 0)), (0, p1), (2, p2), (0, x3), (0, (x4 + 1)), (0, x5)]) d_M_lines_98 rfl (by decide) o17 rfl ?_
    refine e_goto (tgt := 5) d_M_lines_101 (by decide) ?_
    exact e_forget (ls' := [(2, (m + 0)), (0, p1), (2, p2), (0, x3), (0, (x4 + 1)), (9, 0)]) ⟨Or.inr rfl, Or.inr rfl, Or.inr rfl, Or.inr rfl, Or.inr rfl, Or.inl rfl, trivial⟩ h
  refine e_iload d_M_lines_40 rfl ?_
  refine e_if_le (tgt := 89) d_M_lines_42 (by decide) (fun q1 => ?_) (fun q2 => ?_)
  · exact kJ14 (Or.inl q1)
  · have h := h q2
    refine e_aload_n d_M_lines_45 rfl ?_
    refine e_aload_n d_M_lines_46 rfl ?_
    refine gx_M_133 d_M_lines_47 rfl ?_
    refine e_iload d_M_lines_50 rfl ?_
    refine e_iconst d_M_lines_52 (by decide) ?_
    obtain ⟨o3, h⟩ := h
    refine e_isub d_M_lines_53 o3 ?_
    obtain ⟨o4, h⟩ := h
    refine xM_iald 40 rfl d_M_lines_54 o4 ?_
    refine EV.inv fun hFf5 => ?_
    have f5 := (fx_mt 0 rfl hFf5).1
    obtain ⟨o6, h⟩ := h
    refine e_callV m_M_due 12 lw_good d_M_lines_55 (k_M_due _) ⟨Nat.le_of_ble_eq_true rfl, Nat.le_of_ble_eq_true rfl⟩ w_1648 w_1650 w_s56 (q_M _) rfl f5 (args := [(0, (G 1 (m + 40) (x5 - 1)))]) rfl rfl (Nat.le_of_ble_eq_true rfl) (kc' := kc) (ks' := ks) (mc := 0) (ms := 0) rfl rfl (c_M_due o6) (pureK ?_)
    refine e_aload_n d_M_lines_58 rfl ?_
    refine e_iload d_M_lines_59 rfl ?_
    refine EV.inv fun hFf7 => ?_
    have f7 := (fx_mt 0 rfl hFf7).1
    obtain ⟨o8, h⟩ := h
    refine e_callV m_M_due 12 lw_good d_M_lines_61 (k_M_due _) ⟨Nat.le_of_ble_eq_true rfl, Nat.le_of_ble_eq_true rfl⟩ w_1648 w_1650 w_s56 (q_M _) rfl f7 (args := [(0, x4)]) rfl rfl (Nat.le_of_ble_eq_true rfl) (kc' := kc) (ks' := ks) (mc := 0) (ms := 0) rfl rfl (c_M_due o8) (pureK ?_)
    refine e_icmp_le (tgt := 89) d_M_lines_64 (by decide) (fun q9 => ?_) (fun q10 => ?_)
    · exact kJ14 (Or.inr ⟨q2, q9⟩)
    · have h := h q10
      refine e_aload_n d_M_lines_67 rfl ?_
      refine gx_M_133 d_M_lines_68 rfl ?_
      refine e_iload d_M_lines_71 rfl ?_
      refine e_aload_n d_M_lines_73 rfl ?_
      refine gx_M_133 d_M_lines_74 rfl ?_
      refine e_iload d_M_lines_77 rfl ?_
      refine e_iconst d_M_lines_79 (by decide) ?_
      refine e_isub d_M_lines_80 o3 ?_
      refine xM_iald 40 rfl d_M_lines_81 o4 ?_
      obtain ⟨o11, h⟩ := h
      refine xM_iast 40 rfl d_M_lines_82 o11 ?_
      let G12 : gH := gU G 1 (m + 40) x5 (G 1 (m + 40) (x5 - 1))
      have h := h G12 rfl
      obtain ⟨o13, h⟩ := h
      refine e_iinc (ls' := [(2, (m + 0)), (0, p1), (2, p2), (0, x3), (0, x4), (0, (x5 + (-1)))]) d_M_lines_83 rfl (by decide) o13 rfl ?_
      refine e_goto (tgt := 40) d_M_lines_86 (by decide) ?_
      exact e_forget (ls' := [(2, (m + 0)), (0, p1), (2, p2), (0, x3), (0, x4), (0, (x5 + (-1)))]) ⟨Or.inr rfl, Or.inr rfl, Or.inr rfl, Or.inr rfl, Or.inr rfl, Or.inr rfl, trivial⟩ h
theorem l_M_lines_40 {e : gE} {b : Nat} {m : Int} {Z : Int → gH → Prop} {kc ks : Nat} {G0 : gH} {p1 p2 n T : Int} {P : Int → Prop} {O : Int → Int} (A : zA) (hA : zM m G0 = A) (hR : ∀ t, 0 ≤ t → t < 16 → P t → zR A t) (hT : 0 ≤ T ∧ T < 16) (hP : P T) (hE : zEnum P (zDue A) T n O) (K : ∀ G1, zO (m + 40) G0 G1 → zEnum P (zDue A) (T + 1) (n + 1) (G1 1 (m + 40)) → EX e b m m_M_lines Z kc ks 5 [(2, (m + 0)), (0, p1), (2, p2), (0, (n + 1)), (0, (T + 1)), (9, 0)] [] G1) : ∀ (r : Nat) (k : Int) (G1 : gH), k = r → k ≤ n → zO (m + 40) G0 G1 → (∀ i, 0 ≤ i → i < k → G1 1 (m + 40) i = O i) → (∀ i, k < i → i ≤ n → G1 1 (m + 40) i = O (i - 1)) → (∀ i, k ≤ i → i < n → zDue A T < zDue A (O i)) → EX e b m m_M_lines Z kc ks 40 [(2, (m + 0)), (0, p1), (2, p2), (0, (n + 1)), (0, T), (0, k)] [] G1 := by
  have hn := hE.1
  have fin : ∀ (k : Int) (G1 : gH), 0 ≤ k → k ≤ n → zO (m + 40) G0 G1 → (∀ i, 0 ≤ i → i < k → G1 1 (m + 40) i = O i) → (∀ i, k < i → i ≤ n → G1 1 (m + 40) i = O (i - 1)) → (∀ i, k ≤ i → i < n → zDue A T < zDue A (O i)) → (∀ i, 0 ≤ i → i < k → zDue A (O i) ≤ zDue A T) → EX e b m m_M_lines Z kc ks 5 [(2, (m + 0)), (0, p1), (2, p2), (0, (n + 1)), (0, (T + 1)), (9, 0)] [] (gU G1 1 (m + 40) k T) := by
    intro k G1 k0 k1 h1 h2 h3 h4 h5
    refine K _ (zO_u h1) (zEnum_ins hE hP ⟨k0, k1⟩ h5 h4 (fun i i1 i2 => ?_) gU_eq (fun i i1 i2 => ?_))
    · rw [gU_j (by omega)]; exact h2 i i1 i2
    · rw [gU_j (by omega)]; exact h3 i i1 i2
  intro r
  induction r with
  | zero =>
    intro k G1 hk k1 h1 h2 h3 h4
    refine sg_M_lines_40 ⟨fun q => absurd q (by omega), fun _ => ⟨by omega, ?_⟩⟩
    rintro _ rfl
    exact ⟨by omega, fin k G1 (by omega) k1 h1 h2 h3 h4 (fun i i1 i2 => by omega)⟩
  | succ r ih =>
    intro k G1 hk k1 h1 h2 h3 h4
    have e1 : G1 1 (m + 40) (k - 1) = O (k - 1) := h2 _ (by omega) (by omega)
    have e2 := zO_M h1 (Int.le_refl _)
    have hm := hE.2.1 (k - 1) (by omega) (by omega)
    refine sg_M_lines_40 ?_
    rw [e2, hA, e1]
    refine ⟨fun _ => ⟨by omega, by omega, hR _ hm.1.1 (by omega) hm.2, hR _ hT.1 hT.2 hP, fun q => ⟨by omega, ?_⟩⟩, fun q => ⟨by omega, ?_⟩⟩
    · rintro _ rfl
      refine ⟨by omega, ih (k + (-1)) _ (by omega) (by omega) (zO_u h1) (fun i i1 i2 => ?_) (fun i i1 i2 => ?_) (fun i i1 i2 => ?_)⟩
      · rw [gU_j (by omega)]; exact h2 i i1 (by omega)
      · by_cases z : i = k
        · subst z; rw [gU_eq]
        · rw [gU_j z]; exact h3 i (by omega) i2
      · by_cases z : i = k - 1
        · subst z; exact q
        · exact h4 i (by omega) i2
    · rintro _ rfl
      refine ⟨by omega, fin k G1 (by omega) k1 h1 h2 h3 h4 (fun i i1 i2 => ?_)⟩
      have q2 : zDue A (O (k - 1)) ≤ zDue A T := by omega
      by_cases z : i = k - 1
      · rw [z]; exact q2
      · have := hE.2.2.1 i (k - 1) i1 (by omega) (by omega)
        omega
theorem c_M_lines {e : gE} {b : Nat} {m : Int} {G : gH} {p1 p2 : Int} (h : zB 512 (zM m G)) (hI : zIr (zM m G)) (hk : G 0 p2 0 = 100 ∧ G 0 p2 1 = 16) (hp : p2 ≠ m + 40) : GX e b m m_M_lines [(2, (m + 0)), (0, p1), (2, p2)] G 0 0 (fun v G1 => zEnum (zGv (zM m G) (G 1 p2) p1) (zDue (zM m G)) (zM m G 785 0) v (G1 1 (m + 40)) ∧ zO (m + 40) G G1) := by
  have b0 : 0 ≤ zM m G 785 0 ∧ zM m G 785 0 ≤ 16 := h 785 0
  refine GM.ofEV (by decide) (Nat.le_of_ble_eq_true rfl) (sg_M_lines_0 ?_)
  refine zloop (P := fun i => ∀ (n : Int) (G1 : gH), zEnum (zGv (zM m G) (G 1 p2) p1) (zDue (zM m G)) i n (G1 1 (m + 40)) → zO (m + 40) G G1 → EX e b m m_M_lines _ _ _ 5 [(2, (m + 0)), (0, p1), (2, p2), (0, n), (0, i), (9, 0)] [] G1) (i := 0) (zM m G 785 0) b0.1 ?_ ?_ 0 G zEnum_0 zO_r
  · intro n G1 h1 h2
    refine sg_M_lines_5 ?_
    rw [zO_M h2 (Int.le_refl _)]
    exact ⟨⟨fun _ => ⟨h1, h2⟩, fun q => absurd q (by omega)⟩, fun q => absurd q (by omega)⟩
  · intro j j1 j2 st n G1 h1 h2
    have e1 : ∀ i, G1 1 p2 i = G 1 p2 i := fun i => h2 1 p2 i (fun _ => hp)
    have e2 : ∀ i, G1 0 p2 i = G 0 p2 i := fun i => h2 0 p2 i (fun z => absurd z (by decide))
    refine sg_M_lines_5 ?_
    rw [zO_M h2 (Int.le_refl _), e1, e2, e2]
    refine ⟨⟨fun q => absurd q (by omega), fun _ => ⟨hk.1, j1, by omega, fun q => ⟨by omega, fun q2 => ⟨by have := h1.1; omega, ?_⟩⟩⟩⟩, fun q => ⟨by omega, st n G1 (zEnum_skip h1 (fun z => by omega)) h2⟩⟩
    exact l_M_lines_40 (zM m G) rfl (fun t t1 t2 z => zR_of h hI ⟨t1, t2⟩ z.2) (by omega) ⟨q, q2⟩ h1 (fun G2 k1 k2 => st _ G2 k2 k1) n.toNat n G1 (by have := h1.1; omega) (Int.le_refl _) h2 (fun _ _ _ => rfl) (fun i i1 i2 => by omega) (fun i i1 i2 => by omega)
/-- when a thing's job is begun in a team's line -/
def zBeg (A : zA) (g : Int → Int) (k t : Int) : Int := zFree A k + zS (fun i => if zGv A g k i ∧ zBf (zDue A) i t then zLen A i else 0) (A 785 0)
/-- a team can do what it is given -/
def zDo (A : zA) (g : Int → Int) (k : Int) : Prop := ∀ t, 0 ≤ t → t < A 785 0 → zGv A g k t → (zFar A t ≠ -1 ∧ A 9 t ≤ A 15 k) ∧ zBeg A g k t ≤ zLat A t
/-- when a team is through -/
def zEnds (A : zA) (g : Int → Int) (k : Int) : Int := zFree A k + zS (fun i => if zGv A g k i then zLen A i else 0) (A 785 0)
set_option maxRecDepth 20000 in
set_option maxHeartbeats 4000000 in
theorem sg_M_isDoing_0 {e : gE} {b : Nat} {m : Int} {Z : Int → gH → Prop} {kc ks : Nat} {G : gH} {p1 p2 : Int} (h : EX e b m m_M_isDoing Z kc ks 2 [(2, (m + 0)), (0, p1), (2, p2), (0, 0), (9, 0), (9, 0)] [] G) : EX e b m m_M_isDoing Z kc ks 0 [(2, (m + 0)), (0, p1), (2, p2), (9, 0), (9, 0), (9, 0)] [] G := by
  refine e_iconst d_M_isDoing_0 (by decide) ?_
  refine e_istore_n (ls' := [(2, (m + 0)), (0, p1), (2, p2), (0, 0), (9, 0), (9, 0)]) d_M_isDoing_1 (by decide) rfl ?_
  exact e_forget (ls' := [(2, (m + 0)), (0, p1), (2, p2), (0, 0), (9, 0), (9, 0)]) ⟨Or.inr rfl, Or.inr rfl, Or.inr rfl, Or.inr rfl, Or.inl rfl, Or.inl rfl, trivial⟩ h
set_option maxRecDepth 20000 in
set_option maxHeartbeats 4000000 in
theorem sg_M_isDoing_2 {e : gE} {b : Nat} {m : Int} {Z : Int → gH → Prop} {kc ks : Nat} {G : gH} {p1 p2 x3 : Int} (h : (((zM m G 785 0) ≤ x3 → GX e b m m_M_lines [(2, (m + 0)), (0, p1), (2, p2)] G 0 0 (fun v4 G5 => (0 ≤ p1 ∧ p1 < 3) ∧ EX e b m m_M_isDoing Z kc ks 59 [(2, (m + 0)), (9, 0), (9, 0), (0, v4), (0, (zFree (zM m G5) p1)), (0, 0)] [] G5)) ∧ (x3 < (zM m G 785 0) → (G 0 p2 0 = 100) ∧ ((0 ≤ x3) ∧ ((x3 < G 0 p2 1) ∧ ((G 1 p2 x3) = p1 → (0 ≤ x3 ∧ x3 < 16) ∧ (zIn (zM m G) x3 → ((0 ≤ x3 ∧ x3 < 16) ∧ (zIn (zM m G) x3 → zR (zM m G) x3)) ∧ ((0 ≤ p1 ∧ p1 < 3) ∧ ((¬ (zIn (zM m G) x3 ∧ zFar (zM m G) x3 ≠ -1 ∧ zM m G 9 x3 ≤ zM m G 15 p1)) → Z 0 G)))))))) ∧ (((x3 < (zM m G 785 0) ∧ (G 1 p2 x3) ≠ p1) ∨ (x3 < (zM m G 785 0) ∧ (G 1 p2 x3) = p1 ∧ (¬ (zIn (zM m G) x3))) ∨ (x3 < (zM m G 785 0) ∧ (G 1 p2 x3) = p1 ∧ zIn (zM m G) x3 ∧ (zIn (zM m G) x3 ∧ zFar (zM m G) x3 ≠ -1 ∧ zM m G 9 x3 ≤ zM m G 15 p1))) → (inI (x3 + 1)) ∧ EX e b m m_M_isDoing Z kc ks 2 [(2, (m + 0)), (0, p1), (2, p2), (0, (x3 + 1)), (9, 0), (9, 0)] [] G)) : EX e b m m_M_isDoing Z kc ks 2 [(2, (m + 0)), (0, p1), (2, p2), (0, x3), (9, 0), (9, 0)] [] G := by
  obtain ⟨h, hJ22⟩ := h
  have kJ22 : ((x3 < (zM m G 785 0) ∧ (G 1 p2 x3) ≠ p1) ∨ (x3 < (zM m G 785 0) ∧ (G 1 p2 x3) = p1 ∧ (¬ (zIn (zM m G) x3))) ∨ (x3 < (zM m G 785 0) ∧ (G 1 p2 x3) = p1 ∧ zIn (zM m G) x3 ∧ (zIn (zM m G) x3 ∧ zFar (zM m G) x3 ≠ -1 ∧ zM m G 9 x3 ≤ zM m G 15 p1))) → EX e b m m_M_isDoing Z kc ks 36 [(2, (m + 0)), (0, p1), (2, p2), (0, x3), (9, 0), (9, 0)] [] G := by
    intro rJ22
    have h := hJ22 rJ22
    obtain ⟨o23, h⟩ := h
    refine e_iinc (ls' := [(2, (m + 0)), (0, p1), (2, p2), (0, (x3 + 1)), (9, 0), (9, 0)]) d_M_isDoing_36 rfl (by decide) o23 rfl ?_
    refine e_goto (tgt := 2) d_M_isDoing_39 (by decide) ?_
    exact e_forget (ls' := [(2, (m + 0)), (0, p1), (2, p2), (0, (x3 + 1)), (9, 0), (9, 0)]) ⟨Or.inr rfl, Or.inr rfl, Or.inr rfl, Or.inr rfl, Or.inl rfl, Or.inl rfl, trivial⟩ h
  refine e_iload_n d_M_isDoing_2 rfl ?_
  refine e_aload_n d_M_isDoing_3 rfl ?_
  refine gx_M_151 d_M_isDoing_4 rfl ?_
  refine e_icmp_ge (tgt := 42) d_M_isDoing_7 (by decide) (fun q1 => ?_) (fun q2 => ?_)
  · have h := h.1 q1
    refine e_aload_n d_M_isDoing_42 rfl ?_
    refine e_iload_n d_M_isDoing_43 rfl ?_
    refine e_aload_n d_M_isDoing_44 rfl ?_
    refine EV.inv fun hFf3 => ?_
    have f3 := (fx_mt 0 rfl hFf3).1
    refine e_callV m_M_lines 12 lw_good d_M_isDoing_45 (k_M_lines _) ⟨Nat.le_of_ble_eq_true rfl, Nat.le_of_ble_eq_true rfl⟩ w_1644 w_1646 w_s55 (q_M _) rfl f3 (args := [(0, p1), (2, p2)]) rfl rfl (Nat.le_of_ble_eq_true rfl) (kc' := kc) (ks' := ks) (mc := 0) (ms := 0) rfl rfl h ?_
    intro v4 G5 h
    refine e_istore_n (ls' := [(2, (m + 0)), (0, p1), (2, p2), (0, v4), (9, 0), (9, 0)]) d_M_isDoing_48 (by decide) rfl ?_
    refine e_aload_n d_M_isDoing_49 rfl ?_
    refine e_iload_n d_M_isDoing_50 rfl ?_
    refine EV.inv fun hFf6 => ?_
    have f6 := (fx_mt 0 rfl hFf6).1
    obtain ⟨o7, h⟩ := h
    refine e_callV m_M_freeOf 12 lw_good d_M_isDoing_51 (k_M_freeOf _) ⟨Nat.le_of_ble_eq_true rfl, Nat.le_of_ble_eq_true rfl⟩ w_1660 w_1662 w_s59 (q_M _) rfl f6 (args := [(0, p1)]) rfl rfl (Nat.le_of_ble_eq_true rfl) (kc' := kc) (ks' := ks) (mc := 0) (ms := 0) rfl rfl (c_M_freeOf o7) (pureK ?_)
    refine e_istore (ls' := [(2, (m + 0)), (0, p1), (2, p2), (0, v4), (0, (zFree (zM m G5) p1)), (9, 0)]) d_M_isDoing_54 (by decide) rfl ?_
    refine e_iconst d_M_isDoing_56 (by decide) ?_
    refine e_istore (ls' := [(2, (m + 0)), (0, p1), (2, p2), (0, v4), (0, (zFree (zM m G5) p1)), (0, 0)]) d_M_isDoing_57 (by decide) rfl ?_
    exact e_forget (ls' := [(2, (m + 0)), (9, 0), (9, 0), (0, v4), (0, (zFree (zM m G5) p1)), (0, 0)]) ⟨Or.inr rfl, Or.inl rfl, Or.inl rfl, Or.inr rfl, Or.inr rfl, Or.inr rfl, trivial⟩ h
  · have h := h.2 q2
    refine e_aload_n d_M_isDoing_10 rfl ?_
    refine e_iload_n d_M_isDoing_11 rfl ?_
    obtain ⟨o8, o9, o10, h⟩ := h
    refine e_iald d_M_isDoing_12 o8 o9 o10 ?_
    refine e_iload_n d_M_isDoing_13 rfl ?_
    refine e_icmp_ne (tgt := 36) d_M_isDoing_14 (by decide) (fun q11 => ?_) (fun q12 => ?_)
    · exact kJ22 (Or.inl ⟨q2, q11⟩)
    · have h := h q12
      refine e_aload_n d_M_isDoing_17 rfl ?_
      refine e_iload_n d_M_isDoing_18 rfl ?_
      refine EV.inv fun hFf13 => ?_
      have f13 := (fx_mt 0 rfl hFf13).1
      obtain ⟨o14, h⟩ := h
      refine e_callV m_M_isInRoom 12 lw_good d_M_isDoing_19 (k_M_isInRoom _) ⟨Nat.le_of_ble_eq_true rfl, Nat.le_of_ble_eq_true rfl⟩ w_1624 w_1626 w_s50 (q_M _) rfl f13 (args := [(0, x3)]) rfl rfl (Nat.le_of_ble_eq_true rfl) (kc' := kc) (ks' := ks) (mc := 0) (ms := 0) rfl rfl (c_M_isInRoom o14) (pureK ?_)
      refine e_if_eq (tgt := 36) d_M_isDoing_22 (by decide) (fun q15 => ?_) (fun q16 => ?_)
      · replace q15 := gb0.mp q15
        exact kJ22 (Or.inr (Or.inl ⟨q2, q12, q15⟩))
      · replace q16 := gb1.mp q16
        have h := h q16
        refine e_aload_n d_M_isDoing_25 rfl ?_
        refine e_iload_n d_M_isDoing_26 rfl ?_
        refine e_iload_n d_M_isDoing_27 rfl ?_
        refine EV.inv fun hFf17 => ?_
        have f17 := (fx_mt 0 rfl hFf17).1
        obtain ⟨o18, o19, h⟩ := h
        refine e_callV m_M_isJob 12 lw_good d_M_isDoing_28 (k_M_isJob _) ⟨Nat.le_of_ble_eq_true rfl, Nat.le_of_ble_eq_true rfl⟩ w_1636 w_1638 w_s53 (q_M _) rfl f17 (args := [(0, x3), (0, p1)]) rfl rfl (Nat.le_of_ble_eq_true rfl) (kc' := kc) (ks' := ks) (mc := 0) (ms := 0) rfl rfl (c_M_isJob o18 o19) (pureK ?_)
        refine e_if_ne (tgt := 36) d_M_isDoing_31 (by decide) (fun q20 => ?_) (fun q21 => ?_)
        · replace q20 := gb1.mp q20
          exact kJ22 (Or.inr (Or.inr ⟨q2, q12, q16, q20⟩))
        · replace q21 := gb0.mp q21
          have h := h q21
          refine e_iconst d_M_isDoing_34 (by decide) ?_
          exact e_zret .boolean d_M_isDoing_35 rfl (by decide) h
set_option maxRecDepth 20000 in
set_option maxHeartbeats 4000000 in
theorem sg_M_isDoing_59 {e : gE} {b : Nat} {m : Int} {Z : Int → gH → Prop} {kc ks : Nat} {G : gH} {x3 x4 x5 : Int} (h : (x3 ≤ x5 → Z 1 G) ∧ (x5 < x3 → (0 ≤ x5 ∧ x5 < 16) ∧ ((zR (zM m G) (G 1 (m + 40) x5)) ∧ ((x4 ≤ (zLat (zM m G) (G 1 (m + 40) x5)) → (inI (x4 + (zLen (zM m G) (G 1 (m + 40) x5)))) ∧ (inI (x5 + 1)) ∧ EX e b m m_M_isDoing Z kc ks 59 [(2, (m + 0)), (9, 0), (9, 0), (0, x3), (0, (x4 + (zLen (zM m G) (G 1 (m + 40) x5)))), (0, (x5 + 1))] [] G) ∧ ((zLat (zM m G) (G 1 (m + 40) x5)) < x4 → Z 0 G))))) : EX e b m m_M_isDoing Z kc ks 59 [(2, (m + 0)), (9, 0), (9, 0), (0, x3), (0, x4), (0, x5)] [] G := by
  refine e_iload d_M_isDoing_59 rfl ?_
  refine e_iload_n d_M_isDoing_61 rfl ?_
  refine e_icmp_ge (tgt := 105) d_M_isDoing_62 (by decide) (fun q1 => ?_) (fun q2 => ?_)
  · have h := h.1 q1
    refine e_iconst d_M_isDoing_105 (by decide) ?_
    exact e_zret .boolean d_M_isDoing_106 rfl (by decide) h
  · have h := h.2 q2
    refine e_iload d_M_isDoing_65 rfl ?_
    refine e_aload_n d_M_isDoing_67 rfl ?_
    refine e_aload_n d_M_isDoing_68 rfl ?_
    refine gx_M_133 d_M_isDoing_69 rfl ?_
    refine e_iload d_M_isDoing_72 rfl ?_
    obtain ⟨o3, h⟩ := h
    refine xM_iald 40 rfl d_M_isDoing_74 o3 ?_
    refine EV.inv fun hFf4 => ?_
    have f4 := (fx_mt 0 rfl hFf4).1
    obtain ⟨o5, h⟩ := h
    refine e_callV m_M_latest 12 lw_good d_M_isDoing_75 (k_M_latest _) ⟨Nat.le_of_ble_eq_true rfl, Nat.le_of_ble_eq_true rfl⟩ w_1652 w_1654 w_s57 (q_M _) rfl f4 (args := [(0, (G 1 (m + 40) x5))]) rfl rfl (Nat.le_of_ble_eq_true rfl) (kc' := kc) (ks' := ks) (mc := 0) (ms := 0) rfl rfl (c_M_latest o5) (pureK ?_)
    refine e_icmp_le (tgt := 83) d_M_isDoing_78 (by decide) (fun q6 => ?_) (fun q7 => ?_)
    · have h := h.1 q6
      refine e_iload d_M_isDoing_83 rfl ?_
      refine e_aload_n d_M_isDoing_85 rfl ?_
      refine e_aload_n d_M_isDoing_86 rfl ?_
      refine gx_M_133 d_M_isDoing_87 rfl ?_
      refine e_iload d_M_isDoing_90 rfl ?_
      refine xM_iald 40 rfl d_M_isDoing_92 o3 ?_
      refine EV.inv fun hFf8 => ?_
      have f8 := (fx_mt 0 rfl hFf8).1
      refine e_callV m_M_length 12 lw_good d_M_isDoing_93 (k_M_length _) ⟨Nat.le_of_ble_eq_true rfl, Nat.le_of_ble_eq_true rfl⟩ w_1656 w_1658 w_s58 (q_M _) rfl f8 (args := [(0, (G 1 (m + 40) x5))]) rfl rfl (Nat.le_of_ble_eq_true rfl) (kc' := kc) (ks' := ks) (mc := 0) (ms := 0) rfl rfl (c_M_length o5) (pureK ?_)
      obtain ⟨o9, h⟩ := h
      refine e_iadd d_M_isDoing_96 o9 ?_
      refine e_istore (ls' := [(2, (m + 0)), (9, 0), (9, 0), (0, x3), (0, (x4 + (zLen (zM m G) (G 1 (m + 40) x5)))), (0, x5)]) d_M_isDoing_97 (by decide) rfl ?_
      obtain ⟨o10, h⟩ := h
      refine e_iinc (ls' := [(2, (m + 0)), (9, 0), (9, 0), (0, x3), (0, (x4 + (zLen (zM m G) (G 1 (m + 40) x5)))), (0, (x5 + 1))]) d_M_isDoing_99 rfl (by decide) o10 rfl ?_
      refine e_goto (tgt := 59) d_M_isDoing_102 (by decide) ?_
      exact e_forget (ls' := [(2, (m + 0)), (9, 0), (9, 0), (0, x3), (0, (x4 + (zLen (zM m G) (G 1 (m + 40) x5)))), (0, (x5 + 1))]) ⟨Or.inr rfl, Or.inl rfl, Or.inl rfl, Or.inr rfl, Or.inr rfl, Or.inr rfl, trivial⟩ h
    · have h := h.2 q7
      refine e_iconst d_M_isDoing_81 (by decide) ?_
      exact e_zret .boolean d_M_isDoing_82 rfl (by decide) h
set_option maxRecDepth 20000 in
set_option maxHeartbeats 4000000 in
theorem sg_M_ends_0 {e : gE} {b : Nat} {m : Int} {Z : Int → gH → Prop} {kc ks : Nat} {G : gH} {p1 p2 : Int} (h : (0 ≤ p1 ∧ p1 < 3) ∧ EX e b m m_M_ends Z kc ks 9 [(2, (m + 0)), (0, p1), (2, p2), (0, (zFree (zM m G) p1)), (0, 0)] [] G) : EX e b m m_M_ends Z kc ks 0 [(2, (m + 0)), (0, p1), (2, p2), (9, 0), (9, 0)] [] G := by
  refine e_aload_n d_M_ends_0 rfl ?_
  refine e_iload_n d_M_ends_1 rfl ?_
  refine EV.inv fun hFf1 => ?_
  have f1 := (fx_mt 0 rfl hFf1).1
  obtain ⟨o2, h⟩ := h
  refine e_callV m_M_freeOf 12 lw_good d_M_ends_2 (k_M_freeOf _) ⟨Nat.le_of_ble_eq_true rfl, Nat.le_of_ble_eq_true rfl⟩ w_1660 w_1662 w_s59 (q_M _) rfl f1 (args := [(0, p1)]) rfl rfl (Nat.le_of_ble_eq_true rfl) (kc' := kc) (ks' := ks) (mc := 0) (ms := 0) rfl rfl (c_M_freeOf o2) (pureK ?_)
  refine e_istore_n (ls' := [(2, (m + 0)), (0, p1), (2, p2), (0, (zFree (zM m G) p1)), (9, 0)]) d_M_ends_5 (by decide) rfl ?_
  refine e_iconst d_M_ends_6 (by decide) ?_
  refine e_istore (ls' := [(2, (m + 0)), (0, p1), (2, p2), (0, (zFree (zM m G) p1)), (0, 0)]) d_M_ends_7 (by decide) rfl ?_
  exact e_forget (ls' := [(2, (m + 0)), (0, p1), (2, p2), (0, (zFree (zM m G) p1)), (0, 0)]) ⟨Or.inr rfl, Or.inr rfl, Or.inr rfl, Or.inr rfl, Or.inr rfl, trivial⟩ h
set_option maxRecDepth 20000 in
set_option maxHeartbeats 4000000 in
theorem sg_M_ends_9 {e : gE} {b : Nat} {m : Int} {Z : Int → gH → Prop} {kc ks : Nat} {G : gH} {p1 p2 x3 x4 : Int} (h : (((zM m G 785 0) ≤ x4 → Z x3 G) ∧ (x4 < (zM m G 785 0) → (G 0 p2 0 = 100) ∧ ((0 ≤ x4) ∧ ((x4 < G 0 p2 1) ∧ ((G 1 p2 x4) = p1 → (0 ≤ x4 ∧ x4 < 16) ∧ (zIn (zM m G) x4 → (zR (zM m G) x4) ∧ (inI (x3 + (zLen (zM m G) x4))) ∧ (inI (x4 + 1)) ∧ EX e b m m_M_ends Z kc ks 9 [(2, (m + 0)), (0, p1), (2, p2), (0, (x3 + (zLen (zM m G) x4))), (0, (x4 + 1))] [] G)))))) ∧ (((x4 < (zM m G 785 0) ∧ (G 1 p2 x4) ≠ p1) ∨ (x4 < (zM m G 785 0) ∧ (G 1 p2 x4) = p1 ∧ (¬ (zIn (zM m G) x4)))) → (inI (x4 + 1)) ∧ EX e b m m_M_ends Z kc ks 9 [(2, (m + 0)), (0, p1), (2, p2), (0, x3), (0, (x4 + 1))] [] G)) : EX e b m m_M_ends Z kc ks 9 [(2, (m + 0)), (0, p1), (2, p2), (0, x3), (0, x4)] [] G := by
  obtain ⟨h, hJ15⟩ := h
  have kJ15 : ((x4 < (zM m G 785 0) ∧ (G 1 p2 x4) ≠ p1) ∨ (x4 < (zM m G 785 0) ∧ (G 1 p2 x4) = p1 ∧ (¬ (zIn (zM m G) x4)))) → EX e b m m_M_ends Z kc ks 44 [(2, (m + 0)), (0, p1), (2, p2), (0, x3), (0, x4)] [] G := by
    intro rJ15
    have h := hJ15 rJ15
    obtain ⟨o16, h⟩ := h
    refine e_iinc (ls' := [(2, (m + 0)), (0, p1), (2, p2), (0, x3), (0, (x4 + 1))]) d_M_ends_44 rfl (by decide) o16 rfl ?_
    refine e_goto (tgt := 9) d_M_ends_47 (by decide) ?_
    exact e_forget (ls' := [(2, (m + 0)), (0, p1), (2, p2), (0, x3), (0, (x4 + 1))]) ⟨Or.inr rfl, Or.inr rfl, Or.inr rfl, Or.inr rfl, Or.inr rfl, trivial⟩ h
  refine e_iload d_M_ends_9 rfl ?_
  refine e_aload_n d_M_ends_11 rfl ?_
  refine gx_M_151 d_M_ends_12 rfl ?_
  refine e_icmp_ge (tgt := 50) d_M_ends_15 (by decide) (fun q1 => ?_) (fun q2 => ?_)
  · have h := h.1 q1
    refine e_iload_n d_M_ends_50 rfl ?_
    exact e_iret d_M_ends_51 rfl h
  · have h := h.2 q2
    refine e_aload_n d_M_ends_18 rfl ?_
    refine e_iload d_M_ends_19 rfl ?_
    obtain ⟨o3, o4, o5, h⟩ := h
    refine e_iald d_M_ends_21 o3 o4 o5 ?_
    refine e_iload_n d_M_ends_22 rfl ?_
    refine e_icmp_ne (tgt := 44) d_M_ends_23 (by decide) (fun q6 => ?_) (fun q7 => ?_)
    · exact kJ15 (Or.inl ⟨q2, q6⟩)
    · have h := h q7
      refine e_aload_n d_M_ends_26 rfl ?_
      refine e_iload d_M_ends_27 rfl ?_
      refine EV.inv fun hFf8 => ?_
      have f8 := (fx_mt 0 rfl hFf8).1
      obtain ⟨o9, h⟩ := h
      refine e_callV m_M_isInRoom 12 lw_good d_M_ends_29 (k_M_isInRoom _) ⟨Nat.le_of_ble_eq_true rfl, Nat.le_of_ble_eq_true rfl⟩ w_1624 w_1626 w_s50 (q_M _) rfl f8 (args := [(0, x4)]) rfl rfl (Nat.le_of_ble_eq_true rfl) (kc' := kc) (ks' := ks) (mc := 0) (ms := 0) rfl rfl (c_M_isInRoom o9) (pureK ?_)
      refine e_if_eq (tgt := 44) d_M_ends_32 (by decide) (fun q10 => ?_) (fun q11 => ?_)
      · replace q10 := gb0.mp q10
        exact kJ15 (Or.inr ⟨q2, q7, q10⟩)
      · replace q11 := gb1.mp q11
        have h := h q11
        refine e_iload_n d_M_ends_35 rfl ?_
        refine e_aload_n d_M_ends_36 rfl ?_
        refine e_iload d_M_ends_37 rfl ?_
        refine EV.inv fun hFf12 => ?_
        have f12 := (fx_mt 0 rfl hFf12).1
        obtain ⟨o13, h⟩ := h
        refine e_callV m_M_length 12 lw_good d_M_ends_39 (k_M_length _) ⟨Nat.le_of_ble_eq_true rfl, Nat.le_of_ble_eq_true rfl⟩ w_1656 w_1658 w_s58 (q_M _) rfl f12 (args := [(0, x4)]) rfl rfl (Nat.le_of_ble_eq_true rfl) (kc' := kc) (ks' := ks) (mc := 0) (ms := 0) rfl rfl (c_M_length o13) (pureK ?_)
        obtain ⟨o14, h⟩ := h
        refine e_iadd d_M_ends_42 o14 ?_
        refine e_istore_n (ls' := [(2, (m + 0)), (0, p1), (2, p2), (0, (x3 + (zLen (zM m G) x4))), (0, x4)]) d_M_ends_43 (by decide) rfl ?_
        obtain ⟨o17, h⟩ := h
        refine e_iinc (ls' := [(2, (m + 0)), (0, p1), (2, p2), (0, (x3 + (zLen (zM m G) x4))), (0, (x4 + 1))]) d_M_ends_44 rfl (by decide) o17 rfl ?_
        refine e_goto (tgt := 9) d_M_ends_47 (by decide) ?_
        exact e_forget (ls' := [(2, (m + 0)), (0, p1), (2, p2), (0, (x3 + (zLen (zM m G) x4))), (0, (x4 + 1))]) ⟨Or.inr rfl, Or.inr rfl, Or.inr rfl, Or.inr rfl, Or.inr rfl, trivial⟩ h
theorem zFree_b {A : zA} (h : zB 512 A) (k : Int) : 0 ≤ zFree A k ∧ zFree A k ≤ 40000 := by
  have h1 : 0 ≤ A 16 k ∧ A 16 k ≤ 500 + 60 * 512 := h 16 k
  have h2 : 0 ≤ A 789 0 ∧ A 789 0 ≤ 240 := h 789 0
  unfold zFree
  split <;> omega
theorem l_M_isDoing_59 {e : gE} {b : Nat} {m : Int} {kc ks : Nat} {G0 G : gH} {k n : Int} {g : Int → Int} (A : zA) (hA : zM m G = A) (h : zB 512 A) (hI : zIr A) (hO : zO (m + 40) G0 G) (hE : zEnum (zGv A g k) (zDue A) (A 785 0) n (G 1 (m + 40))) (hJ : ∀ t, 0 ≤ t → t < A 785 0 → zGv A g k t → zFar A t ≠ -1 ∧ A 9 t ≤ A 15 k) : EX e b m m_M_isDoing (fun v G1 => ((v = 1 ∧ zDo A g k) ∨ (v = 0 ∧ ¬ zDo A g k)) ∧ zO (m + 40) G0 G1) kc ks 59 [(2, (m + 0)), (9, 0), (9, 0), (0, n), (0, zFree A k), (0, 0)] [] G := by
  have b0 : 0 ≤ A 785 0 ∧ A 785 0 ≤ 16 := h 785 0
  have hn := hE.1
  have hf := zFree_b h k
  have hR : ∀ i, 0 ≤ i → i < n → zR A (G 1 (m + 40) i) := fun i i1 i2 => by
    have := hE.2.1 i i1 i2
    exact zR_of h hI (by omega) this.2.2
  have eB : ∀ i, 0 ≤ i → i < n → zFree A k + zS (fun i => zLen A (G 1 (m + 40) i)) i = zBeg A g k (G 1 (m + 40) i) := fun i i1 i2 => by
    rw [zEnum_pre hE (zLen A) ⟨i1, i2⟩]; rfl
  have go : ∀ (i : Int), 0 ≤ i → i ≤ n → (∀ j, 0 ≤ j → j < i → zBeg A g k (G 1 (m + 40) j) ≤ zLat A (G 1 (m + 40) j)) → EX e b m m_M_isDoing (fun v G1 => ((v = 1 ∧ zDo A g k) ∨ (v = 0 ∧ ¬ zDo A g k)) ∧ zO (m + 40) G0 G1) kc ks 59 [(2, (m + 0)), (9, 0), (9, 0), (0, n), (0, zFree A k + zS (fun i => zLen A (G 1 (m + 40) i)) i), (0, i)] [] G := by
    intro i i1 i2
    refine zloop (P := fun i => (∀ j, 0 ≤ j → j < i → zBeg A g k (G 1 (m + 40) j) ≤ zLat A (G 1 (m + 40) j)) → EX e b m m_M_isDoing (fun v G1 => ((v = 1 ∧ zDo A g k) ∨ (v = 0 ∧ ¬ zDo A g k)) ∧ zO (m + 40) G0 G1) kc ks 59 [(2, (m + 0)), (9, 0), (9, 0), (0, n), (0, zFree A k + zS (fun i => zLen A (G 1 (m + 40) i)) i), (0, i)] [] G) n i2 ?_ ?_
    · intro hB
      refine sg_M_isDoing_59 ⟨fun _ => ⟨Or.inl ⟨rfl, fun t t1 t2 q => ⟨hJ t t1 t2 q, ?_⟩⟩, hO⟩, fun q => absurd q (by omega)⟩
      obtain ⟨j, hj, ej⟩ := hE.2.2.2 t t1 t2 q
      rw [← ej]
      exact hB j hj.1 hj.2
    · intro j j1 j2 st hB
      have r := hR j (by omega) j2
      have rl := zLen_b r
      have rs := zS_b (f := fun i => zLen A (G 1 (m + 40) i)) (c := 218) j (fun i q1 q2 => by have := zLen_b (hR i q1 (by omega)); omega) (by omega) (by decide)
      have e1 := eB j (by omega) j2
      refine sg_M_isDoing_59 ⟨fun q => absurd q (by omega), fun _ => ⟨by omega, ?_⟩⟩
      rw [hA]
      refine ⟨r, fun q => ⟨by omega, by omega, ?_⟩, fun q => ⟨Or.inr ⟨rfl, fun z => ?_⟩, hO⟩⟩
      · rw [zS_s (by omega)] at st
        rw [Int.add_assoc]
        refine st (fun i i3 i4 => ?_)
        by_cases z : i = j
        · rw [z, ← e1]; exact q
        · exact hB i i3 (by omega)
      · have m1 := hE.2.1 j (by omega) j2
        have := (z _ m1.1.1 m1.1.2 m1.2).2
        omega
  have := go 0 (Int.le_refl _) hn.1 (fun j q1 q2 => by omega)
  rw [zS_0, Int.add_zero (zFree A k)] at this
  exact this
theorem c_M_isDoing {e : gE} {b : Nat} {m : Int} {G : gH} {p1 p2 : Int} (h : zB 512 (zM m G)) (hI : zIr (zM m G)) (h1 : 0 ≤ p1 ∧ p1 < 3) (hk : G 0 p2 0 = 100 ∧ G 0 p2 1 = 16) (hp : p2 ≠ m + 40) : GX e b m m_M_isDoing [(2, (m + 0)), (0, p1), (2, p2)] G 0 0 (fun v G1 => ((v = 1 ∧ zDo (zM m G) (G 1 p2) p1) ∨ (v = 0 ∧ ¬ zDo (zM m G) (G 1 p2) p1)) ∧ zO (m + 40) G G1) := by
  have b0 : 0 ≤ zM m G 785 0 ∧ zM m G 785 0 ≤ 16 := h 785 0
  refine GM.ofEV (by decide) (Nat.le_of_ble_eq_true rfl) (sg_M_isDoing_0 ?_)
  refine zloop (P := fun i => (∀ t, 0 ≤ t → t < i → zGv (zM m G) (G 1 p2) p1 t → zFar (zM m G) t ≠ -1 ∧ zM m G 9 t ≤ zM m G 15 p1) → EX e b m m_M_isDoing _ _ _ 2 [(2, (m + 0)), (0, p1), (2, p2), (0, i), (9, 0), (9, 0)] [] G) (i := 0) (zM m G 785 0) b0.1 ?_ ?_ (fun t t1 t2 => by omega)
  · intro hJ
    refine sg_M_isDoing_2 ⟨⟨fun _ => ?_, fun q => absurd q (by omega)⟩, fun q => absurd q (by omega)⟩
    refine GM.mono (c_M_lines h hI hk hp) ?_
    rintro n G1 ⟨k1, k2⟩
    have e2 := zO_M k2 (Int.le_refl _)
    rw [e2]
    exact ⟨h1, l_M_isDoing_59 (zM m G) e2 h hI k2 k1 hJ⟩
  · intro j j1 j2 st hJ
    refine sg_M_isDoing_2 ⟨⟨fun q => absurd q (by omega), fun _ => ⟨hk.1, j1, by omega, fun q => ⟨by omega, fun q2 => ⟨⟨by omega, zR_of h hI (by omega)⟩, h1, fun q3 => ⟨Or.inr ⟨rfl, fun z => ?_⟩, zO_r⟩⟩⟩⟩⟩, fun q => ⟨by omega, st (fun t t1 t2 z => ?_)⟩⟩
    · have := (z j j1 j2 ⟨q, q2⟩).1
      exact q3 ⟨q2, this⟩
    · by_cases w : t = j
      · subst w
        rcases q with q | q | q
        · exact absurd z.1 q.2
        · exact absurd z.2 q.2.2
        · exact q.2.2.2.2
      · exact hJ t t1 (by omega) z
theorem c_M_ends {e : gE} {b : Nat} {m : Int} {G : gH} {p1 p2 : Int} (h : zB 512 (zM m G)) (hI : zIr (zM m G)) (h1 : 0 ≤ p1 ∧ p1 < 3) (hk : G 0 p2 0 = 100 ∧ G 0 p2 1 = 16) : GX e b m m_M_ends [(2, (m + 0)), (0, p1), (2, p2)] G 0 0 (fun v G1 => v = zEnds (zM m G) (G 1 p2) p1 ∧ G1 = G) := by
  have b0 : 0 ≤ zM m G 785 0 ∧ zM m G 785 0 ≤ 16 := h 785 0
  have hf := zFree_b h p1
  refine GM.ofEV (by decide) (Nat.le_of_ble_eq_true rfl) (sg_M_ends_0 ⟨h1, ?_⟩)
  have := zloop (P := fun i => EX e b m m_M_ends (fun v G1 => v = zEnds (zM m G) (G 1 p2) p1 ∧ G1 = G) 0 0 9 [(2, (m + 0)), (0, p1), (2, p2), (0, zFree (zM m G) p1 + zS (fun i => if zGv (zM m G) (G 1 p2) p1 i then zLen (zM m G) i else 0) i), (0, i)] [] G) (i := 0) (zM m G 785 0) b0.1 ?_ ?_
  · rw [zS_0, Int.add_zero (zFree (zM m G) p1)] at this; exact this
  · exact sg_M_ends_9 ⟨⟨fun _ => ⟨rfl, rfl⟩, fun q => absurd q (by omega)⟩, fun q => absurd q (by omega)⟩
  · intro j j1 j2 st
    have rs := zS_b (f := fun i => if zGv (zM m G) (G 1 p2) p1 i then zLen (zM m G) i else 0) (c := 218) j (fun i q1 q2 => by
      show 0 ≤ (if zGv (zM m G) (G 1 p2) p1 i then zLen (zM m G) i else 0) ∧ (if zGv (zM m G) (G 1 p2) p1 i then zLen (zM m G) i else 0) ≤ 218
      split
      · rename_i z; have := zLen_b (zR_of h hI (t := i) (by omega) z.2); omega
      · omega) j1 (by decide)
    refine sg_M_ends_9 ⟨⟨fun q => absurd q (by omega), fun _ => ⟨hk.1, j1, by omega, fun q => ⟨by omega, fun q2 => ?_⟩⟩⟩, fun q => ⟨by omega, ?_⟩⟩
    · have r := zR_of h hI (t := j) (by omega) q2
      have := zLen_b r
      rw [zS_s j1, if_pos ⟨q, q2⟩, ← Int.add_assoc] at st
      exact ⟨r, by omega, by omega, st⟩
    · rw [zS_z j1 (if_neg (fun z => by omega))] at st
      exact st
