/-! THE REFERENCE, 14: the minutes -/
theorem z_ctw {m : Int} {G : gH} (p : Nat) {k t n : Int} (hp : fxMT[p]? = some (k, t, n)) {e : gE} {b : Nat} {M : gM} {args : List gV} {mc ms : Nat} {Z : Int → gH → Prop} (K : G 0 (m + k) 0 = t ∧ G 0 (m + k) 1 = n → GX e b m M args G mc ms Z) : GX e b m M args G mc ms Z := GM.inv fun hF => K (fx_mt p hp hF)
def zfBegins (A : zA) (t : Int) : Int × zA := (if (0 ≤ t ∧ t < A 785 0) ∧ A 788 0 = 1 ∧ zIn A t ∧ A 14 t ≠ -1 then zBeg A (A 14) (A 14 t) t else -1, A)
set_option maxRecDepth 20000 in
set_option maxHeartbeats 4000000 in
theorem sg_M_begins_0 {e : gE} {b : Nat} {m : Int} {Z : Int → gH → Prop} {kc ks : Nat} {G : gH} {p1 : Int} (h : ((0 ≤ p1 ∧ p1 < zM m G 785 0) → ((zM m G 788 0) = 1 → (0 ≤ p1 ∧ p1 < 16) ∧ (zIn (zM m G) p1 → ((zM m G 14 p1) ≠ (-1) → GX e b m m_M_lines [(2, (m + 0)), (0, (zM m G 14 p1)), (2, (m + 14))] G 0 0 (fun v13 G14 => (0 ≤ (zM m G14 14 p1) ∧ (zM m G14 14 p1) < 3) ∧ EX e b m m_M_begins Z kc ks 65 [(2, (m + 0)), (0, p1), (0, v13), (0, (zFree (zM m G14) (zM m G14 14 p1))), (0, 0)] [] G14))))) ∧ ((((¬ (0 ≤ p1 ∧ p1 < zM m G 785 0))) ∨ ((0 ≤ p1 ∧ p1 < zM m G 785 0) ∧ (zM m G 788 0) ≠ 1) ∨ ((0 ≤ p1 ∧ p1 < zM m G 785 0) ∧ (zM m G 788 0) = 1 ∧ (¬ (zIn (zM m G) p1))) ∨ ((0 ≤ p1 ∧ p1 < zM m G 785 0) ∧ (zM m G 788 0) = 1 ∧ zIn (zM m G) p1 ∧ (zM m G 14 p1) = (-1))) → Z (-1) G)) : EX e b m m_M_begins Z kc ks 0 [(2, (m + 0)), (0, p1), (9, 0), (9, 0), (9, 0)] [] G := by
  obtain ⟨h, hJ17⟩ := h
  have kJ17 : (((¬ (0 ≤ p1 ∧ p1 < zM m G 785 0))) ∨ ((0 ≤ p1 ∧ p1 < zM m G 785 0) ∧ (zM m G 788 0) ≠ 1) ∨ ((0 ≤ p1 ∧ p1 < zM m G 785 0) ∧ (zM m G 788 0) = 1 ∧ (¬ (zIn (zM m G) p1))) ∨ ((0 ≤ p1 ∧ p1 < zM m G 785 0) ∧ (zM m G 788 0) = 1 ∧ zIn (zM m G) p1 ∧ (zM m G 14 p1) = (-1))) → EX e b m m_M_begins Z kc ks 34 [(2, (m + 0)), (0, p1), (9, 0), (9, 0), (9, 0)] [] G := by
    intro rJ17
    have h := hJ17 rJ17
    refine e_iconst d_M_begins_34 (by decide) ?_
    exact e_iret d_M_begins_35 rfl h
  refine e_aload_n d_M_begins_0 rfl ?_
  refine e_iload_n d_M_begins_1 rfl ?_
  refine EV.inv fun hFf1 => ?_
  have f1 := (fx_mt 0 rfl hFf1).1
  refine e_callV m_M_isThing 12 lw_good d_M_begins_2 (k_M_isThing _) ⟨Nat.le_of_ble_eq_true rfl, Nat.le_of_ble_eq_true rfl⟩ w_1692 w_1694 w_s62 (q_M _) rfl f1 (args := [(0, p1)]) rfl rfl (Nat.le_of_ble_eq_true rfl) (kc' := kc) (ks' := ks) (mc := 0) (ms := 0) rfl rfl (c_M_isThing) (pureK ?_)
  refine e_if_eq (tgt := 34) d_M_begins_5 (by decide) (fun q2 => ?_) (fun q3 => ?_)
  · replace q2 := gb0.mp q2
    exact kJ17 (Or.inl q2)
  · replace q3 := gb1.mp q3
    have h := h q3
    refine e_aload_n d_M_begins_8 rfl ?_
    refine gx_M_165 d_M_begins_9 rfl ?_
    refine e_iconst d_M_begins_12 (by decide) ?_
    refine e_icmp_ne (tgt := 34) d_M_begins_13 (by decide) (fun q4 => ?_) (fun q5 => ?_)
    · exact kJ17 (Or.inr (Or.inl ⟨q3, q4⟩))
    · have h := h q5
      refine e_aload_n d_M_begins_16 rfl ?_
      refine e_iload_n d_M_begins_17 rfl ?_
      refine EV.inv fun hFf6 => ?_
      have f6 := (fx_mt 0 rfl hFf6).1
      obtain ⟨o7, h⟩ := h
      refine e_callV m_M_isInRoom 12 lw_good d_M_begins_18 (k_M_isInRoom _) ⟨Nat.le_of_ble_eq_true rfl, Nat.le_of_ble_eq_true rfl⟩ w_1624 w_1626 w_s50 (q_M _) rfl f6 (args := [(0, p1)]) rfl rfl (Nat.le_of_ble_eq_true rfl) (kc' := kc) (ks' := ks) (mc := 0) (ms := 0) rfl rfl (c_M_isInRoom o7) (pureK ?_)
      refine e_if_eq (tgt := 34) d_M_begins_21 (by decide) (fun q8 => ?_) (fun q9 => ?_)
      · replace q8 := gb0.mp q8
        exact kJ17 (Or.inr (Or.inr (Or.inl ⟨q3, q5, q8⟩)))
      · replace q9 := gb1.mp q9
        have h := h q9
        refine e_aload_n d_M_begins_24 rfl ?_
        refine gx_M_54 d_M_begins_25 rfl ?_
        refine e_iload_n d_M_begins_28 rfl ?_
        refine xM_iald 14 rfl d_M_begins_29 o7 ?_
        refine e_iconst d_M_begins_30 (by decide) ?_
        refine e_icmp_ne (tgt := 36) d_M_begins_31 (by decide) (fun q10 => ?_) (fun q11 => ?_)
        · have h := h q10
          refine e_aload_n d_M_begins_36 rfl ?_
          refine e_aload_n d_M_begins_37 rfl ?_
          refine gx_M_54 d_M_begins_38 rfl ?_
          refine e_iload_n d_M_begins_41 rfl ?_
          refine xM_iald 14 rfl d_M_begins_42 o7 ?_
          refine e_aload_n d_M_begins_43 rfl ?_
          refine gx_M_54 d_M_begins_44 rfl ?_
          refine EV.inv fun hFf12 => ?_
          have f12 := (fx_mt 0 rfl hFf12).1
          refine e_callV m_M_lines 12 lw_good d_M_begins_47 (k_M_lines _) ⟨Nat.le_of_ble_eq_true rfl, Nat.le_of_ble_eq_true rfl⟩ w_1644 w_1646 w_s55 (q_M _) rfl f12 (args := [(0, (zM m G 14 p1)), (2, (m + 14))]) rfl rfl (Nat.le_of_ble_eq_true rfl) (kc' := kc) (ks' := ks) (mc := 0) (ms := 0) rfl rfl h ?_
          intro v13 G14 h
          refine e_istore_n (ls' := [(2, (m + 0)), (0, p1), (0, v13), (9, 0), (9, 0)]) d_M_begins_50 (by decide) rfl ?_
          refine e_aload_n d_M_begins_51 rfl ?_
          refine e_aload_n d_M_begins_52 rfl ?_
          refine gx_M_54 d_M_begins_53 rfl ?_
          refine e_iload_n d_M_begins_56 rfl ?_
          refine xM_iald 14 rfl d_M_begins_57 o7 ?_
          refine EV.inv fun hFf15 => ?_
          have f15 := (fx_mt 0 rfl hFf15).1
          obtain ⟨o16, h⟩ := h
          refine e_callV m_M_freeOf 12 lw_good d_M_begins_58 (k_M_freeOf _) ⟨Nat.le_of_ble_eq_true rfl, Nat.le_of_ble_eq_true rfl⟩ w_1660 w_1662 w_s59 (q_M _) rfl f15 (args := [(0, (zM m G14 14 p1))]) rfl rfl (Nat.le_of_ble_eq_true rfl) (kc' := kc) (ks' := ks) (mc := 0) (ms := 0) rfl rfl (c_M_freeOf o16) (pureK ?_)
          refine e_istore_n (ls' := [(2, (m + 0)), (0, p1), (0, v13), (0, (zFree (zM m G14) (zM m G14 14 p1))), (9, 0)]) d_M_begins_61 (by decide) rfl ?_
          refine e_iconst d_M_begins_62 (by decide) ?_
          refine e_istore (ls' := [(2, (m + 0)), (0, p1), (0, v13), (0, (zFree (zM m G14) (zM m G14 14 p1))), (0, 0)]) d_M_begins_63 (by decide) rfl ?_
          exact e_forget (ls' := [(2, (m + 0)), (0, p1), (0, v13), (0, (zFree (zM m G14) (zM m G14 14 p1))), (0, 0)]) ⟨Or.inr rfl, Or.inr rfl, Or.inr rfl, Or.inr rfl, Or.inr rfl, trivial⟩ h
        · exact kJ17 (Or.inr (Or.inr (Or.inr ⟨q3, q5, q9, q11⟩)))
set_option maxRecDepth 20000 in
set_option maxHeartbeats 4000000 in
theorem sg_M_begins_65 {e : gE} {b : Nat} {m : Int} {Z : Int → gH → Prop} {kc ks : Nat} {G : gH} {p1 x2 x3 x4 : Int} (h : (x2 ≤ x4 → Z (-1) G) ∧ (x4 < x2 → (0 ≤ x4 ∧ x4 < 16) ∧ (((G 1 (m + 40) x4) ≠ p1 → (zR (zM m G) (G 1 (m + 40) x4)) ∧ (inI (x3 + (zLen (zM m G) (G 1 (m + 40) x4)))) ∧ (inI (x4 + 1)) ∧ EX e b m m_M_begins Z kc ks 65 [(2, (m + 0)), (0, p1), (0, x2), (0, (x3 + (zLen (zM m G) (G 1 (m + 40) x4)))), (0, (x4 + 1))] [] G) ∧ ((G 1 (m + 40) x4) = p1 → Z x3 G)))) : EX e b m m_M_begins Z kc ks 65 [(2, (m + 0)), (0, p1), (0, x2), (0, x3), (0, x4)] [] G := by
  refine e_iload d_M_begins_65 rfl ?_
  refine e_iload_n d_M_begins_67 rfl ?_
  refine e_icmp_ge (tgt := 104) d_M_begins_68 (by decide) (fun q1 => ?_) (fun q2 => ?_)
  · have h := h.1 q1
    refine e_iconst d_M_begins_104 (by decide) ?_
    exact e_iret d_M_begins_105 rfl h
  · have h := h.2 q2
    refine e_aload_n d_M_begins_71 rfl ?_
    refine gx_M_133 d_M_begins_72 rfl ?_
    refine e_iload d_M_begins_75 rfl ?_
    obtain ⟨o3, h⟩ := h
    refine xM_iald 40 rfl d_M_begins_77 o3 ?_
    refine e_iload_n d_M_begins_78 rfl ?_
    refine e_icmp_ne (tgt := 84) d_M_begins_79 (by decide) (fun q4 => ?_) (fun q5 => ?_)
    · have h := h.1 q4
      refine e_iload_n d_M_begins_84 rfl ?_
      refine e_aload_n d_M_begins_85 rfl ?_
      refine e_aload_n d_M_begins_86 rfl ?_
      refine gx_M_133 d_M_begins_87 rfl ?_
      refine e_iload d_M_begins_90 rfl ?_
      refine xM_iald 40 rfl d_M_begins_92 o3 ?_
      refine EV.inv fun hFf6 => ?_
      have f6 := (fx_mt 0 rfl hFf6).1
      obtain ⟨o7, h⟩ := h
      refine e_callV m_M_length 12 lw_good d_M_begins_93 (k_M_length _) ⟨Nat.le_of_ble_eq_true rfl, Nat.le_of_ble_eq_true rfl⟩ w_1656 w_1658 w_s58 (q_M _) rfl f6 (args := [(0, (G 1 (m + 40) x4))]) rfl rfl (Nat.le_of_ble_eq_true rfl) (kc' := kc) (ks' := ks) (mc := 0) (ms := 0) rfl rfl (c_M_length o7) (pureK ?_)
      obtain ⟨o8, h⟩ := h
      refine e_iadd d_M_begins_96 o8 ?_
      refine e_istore_n (ls' := [(2, (m + 0)), (0, p1), (0, x2), (0, (x3 + (zLen (zM m G) (G 1 (m + 40) x4)))), (0, x4)]) d_M_begins_97 (by decide) rfl ?_
      obtain ⟨o9, h⟩ := h
      refine e_iinc (ls' := [(2, (m + 0)), (0, p1), (0, x2), (0, (x3 + (zLen (zM m G) (G 1 (m + 40) x4)))), (0, (x4 + 1))]) d_M_begins_98 rfl (by decide) o9 rfl ?_
      refine e_goto (tgt := 65) d_M_begins_101 (by decide) ?_
      exact e_forget (ls' := [(2, (m + 0)), (0, p1), (0, x2), (0, (x3 + (zLen (zM m G) (G 1 (m + 40) x4)))), (0, (x4 + 1))]) ⟨Or.inr rfl, Or.inr rfl, Or.inr rfl, Or.inr rfl, Or.inr rfl, trivial⟩ h
    · have h := h.2 q5
      refine e_iload_n d_M_begins_82 rfl ?_
      exact e_iret d_M_begins_83 rfl h
theorem l_M_begins {e : gE} {b : Nat} {m : Int} {Z : Int → gH → Prop} {kc ks : Nat} {G : gH} {k n t : Int} {g : Int → Int} (A : zA) (hA : zM m G = A) (h : zB 512 A) (hI : zIr A) (hE : zEnum (zGv A g k) (zDue A) (A 785 0) n (G 1 (m + 40))) (ht : 0 ≤ t ∧ t < A 785 0) (hg : zGv A g k t) (hZ : Z (zBeg A g k t) G) : EX e b m m_M_begins Z kc ks 65 [(2, (m + 0)), (0, t), (0, n), (0, zFree A k), (0, 0)] [] G := by
  have b0 : 0 ≤ A 785 0 ∧ A 785 0 ≤ 16 := h 785 0
  have hn := hE.1
  have hf := zFree_b h k
  obtain ⟨j0, hj0, ej0⟩ := hE.2.2.2 t ht.1 ht.2 hg
  have hR : ∀ i, 0 ≤ i → i < n → zR A (G 1 (m + 40) i) := fun i i1 i2 => by
    have := hE.2.1 i i1 i2
    exact zR_of h hI (by omega) this.2.2
  have := zloop (P := fun i => EX e b m m_M_begins Z kc ks 65 [(2, (m + 0)), (0, t), (0, n), (0, zFree A k + zS (fun i => zLen A (G 1 (m + 40) i)) i), (0, i)] [] G) (i := 0) j0 hj0.1 ?_ ?_
  · rw [zS_0, Int.add_zero (zFree A k)] at this; exact this
  · refine sg_M_begins_65 ⟨fun q => absurd q (by omega), fun _ => ⟨by omega, fun q => absurd ej0 q, fun _ => ?_⟩⟩
    rw [zEnum_pre hE (zLen A) hj0, ej0]
    exact hZ
  · intro j j1 j2 st
    have r := hR j j1 (by omega)
    have rl := zLen_b r
    have rs := zS_b (f := fun i => zLen A (G 1 (m + 40) i)) (c := 218) j (fun i q1 q2 => by have := zLen_b (hR i q1 (by omega)); omega) j1 (by decide)
    refine sg_M_begins_65 ⟨fun q => absurd q (by omega), fun _ => ⟨by omega, fun _ => ?_, fun q => ?_⟩⟩
    · rw [hA]
      rw [zS_s j1, ← Int.add_assoc] at st
      exact ⟨r, by omega, by omega, st⟩
    · exfalso
      have := zEnum_inj hE ⟨j1, by omega⟩ hj0 (q.trans ej0.symm)
      omega
theorem c_M_begins {e : gE} {b : Nat} {m : Int} {G : gH} {p1 : Int} (h : zB 512 (zM m G)) (hI : zIr (zM m G)) : GX e b m m_M_begins [(2, (m + 0)), (0, p1)] G 0 0 (zQ m G (zfBegins (zM m G) p1)) := by
  refine z_ctw 14 rfl fun hk => ?_
  have b0 : 0 ≤ zM m G 785 0 ∧ zM m G 785 0 ≤ 16 := h 785 0
  have b1 : -1 ≤ zM m G 14 p1 ∧ zM m G 14 p1 ≤ 2 := h 14 p1
  refine GM.ofEV (by decide) (Nat.le_of_ble_eq_true rfl) (sg_M_begins_0 ⟨fun q1 q2 => ⟨by omega, fun q3 q4 => ?_⟩, fun q => ?_⟩)
  · refine GM.mono (c_M_lines h hI hk (by omega)) ?_
    rintro n G1 ⟨k1, k2⟩
    have e2 := zO_M k2 (Int.le_refl _)
    rw [e2]
    refine ⟨by omega, l_M_begins (zM m G) e2 h hI k1 q1 ⟨rfl, q3⟩ ⟨?_, e2, zO_C k2 (by decide)⟩⟩
    show _ = if _ then _ else _
    rw [if_pos ⟨q1, q2, q3, q4⟩]
    rfl
  · refine ⟨?_, rfl, zC_r⟩
    show -1 = if _ then _ else _
    rw [if_neg (by omega)]
/-! the first of P's things -/
def zArgN (P : Int → Prop) [DecidablePred P] (D : Int → Int) : Nat → Int
  | 0 => -1
  | T + 1 => if P T ∧ (zArgN P D T = -1 ∨ D T < D (zArgN P D T)) then (T : Int) else zArgN P D T
def zArg (P : Int → Prop) [DecidablePred P] (D : Int → Int) (T : Int) : Int := zArgN P D T.toNat
theorem zArg_s {P : Int → Prop} [DecidablePred P] {D : Int → Int} {T : Int} (h : 0 ≤ T) : zArg P D (T + 1) = if P T ∧ (zArg P D T = -1 ∨ D T < D (zArg P D T)) then T else zArg P D T := by
  unfold zArg
  rw [show (T + 1).toNat = T.toNat + 1 from by omega, zArgN, show (T.toNat : Int) = T from by omega]
theorem zArg_w {P : Int → Prop} [DecidablePred P] {D : Int → Int} (T : Int) (h : 0 ≤ T) : (zArg P D T = -1 ∧ ∀ t, 0 ≤ t → t < T → ¬ P t) ∨ ((0 ≤ zArg P D T ∧ zArg P D T < T) ∧ P (zArg P D T) ∧ ∀ t, 0 ≤ t → t < T → P t → t ≠ zArg P D T → zBf D (zArg P D T) t) := by
  refine zloopI (i := 0) (I := fun T => (zArg P D T = -1 ∧ ∀ t, 0 ≤ t → t < T → ¬ P t) ∨ ((0 ≤ zArg P D T ∧ zArg P D T < T) ∧ P (zArg P D T) ∧ ∀ t, 0 ≤ t → t < T → P t → t ≠ zArg P D T → zBf D (zArg P D T) t)) (P := fun _ => (zArg P D T = -1 ∧ ∀ t, 0 ≤ t → t < T → ¬ P t) ∨ ((0 ≤ zArg P D T ∧ zArg P D T < T) ∧ P (zArg P D T) ∧ ∀ t, 0 ≤ t → t < T → P t → t ≠ zArg P D T → zBf D (zArg P D T) t)) T h ?_ ?_ (fun q => q) (fun j h1 h2 hi q => q)
  · exact Or.inl ⟨rfl, fun t h1 h2 => by omega⟩
  · intro j h1 h2 hi
    show (zArg P D (j + 1) = -1 ∧ ∀ t, 0 ≤ t → t < j + 1 → ¬ P t) ∨ ((0 ≤ zArg P D (j + 1) ∧ zArg P D (j + 1) < j + 1) ∧ P (zArg P D (j + 1)) ∧ ∀ t, 0 ≤ t → t < j + 1 → P t → t ≠ zArg P D (j + 1) → zBf D (zArg P D (j + 1)) t)
    rw [zArg_s h1]
    split
    · rename_i q
      refine Or.inr ⟨by omega, q.1, fun t t1 t2 t3 t4 => ?_⟩
      rcases hi with hi | hi
      · exact absurd t3 (hi.2 t t1 (by omega))
      · have q2 : D j < D (zArg P D j) := by omega
        by_cases z : t = zArg P D j
        · rw [z]; exact Or.inl q2
        · have := hi.2.2 t t1 (by omega) t3 z
          omega
    · rename_i q
      rcases hi with hi | hi
      · refine Or.inl ⟨hi.1, fun t t1 t2 t3 => ?_⟩
        by_cases z : t = j
        · subst z; exact q ⟨t3, Or.inl hi.1⟩
        · exact hi.2 t t1 (by omega) t3
      · refine Or.inr ⟨by omega, hi.2.1, fun t t1 t2 t3 t4 => ?_⟩
        by_cases z : t = j
        · subst z
          have : ¬ D t < D (zArg P D t) := fun w => q ⟨t3, Or.inr w⟩
          omega
        · exact hi.2.2 t t1 (by omega) t3 t4
theorem zArg_u {P : Int → Prop} [DecidablePred P] {D : Int → Int} {T t : Int} (h : 0 ≤ t ∧ t < T) (hP : P t) (hl : ∀ i, 0 ≤ i → i < T → P i → i ≠ t → zBf D t i) : zArg P D T = t := by
  rcases zArg_w (P := P) (D := D) T (by omega) with q | q
  · exact absurd hP (q.2 t h.1 h.2)
  · by_cases z : zArg P D T = t
    · exact z
    · have h1 := hl _ q.1.1 q.1.2 q.2.1 z
      have h2 := q.2.2 t h.1 h.2 hP (fun w => z w.symm)
      omega
theorem zArg_n {P : Int → Prop} [DecidablePred P] {D : Int → Int} {T : Int} (h : 0 ≤ T) (hP : ∀ t, 0 ≤ t → t < T → ¬ P t) : zArg P D T = -1 := by
  rcases zArg_w (P := P) (D := D) T h with q | q
  · exact q.1
  · exact absurd q.2.1 (hP _ q.1.1 q.1.2)
theorem zArg_e {P : Int → Prop} [DecidablePred P] {D O : Int → Int} {T n : Int} (h : zEnum P D T n O) : zArg P D T = if n = 0 then -1 else O 0 := by
  have hn := h.1
  split
  · rename_i q
    refine zArg_n (by omega) (fun t t1 t2 hP => ?_)
    obtain ⟨k, hk, _⟩ := h.2.2.2 t t1 t2 hP
    omega
  · rename_i q
    have := h.2.1 0 (Int.le_refl _) (by omega)
    refine zArg_u this.1 this.2 (fun i i1 i2 hP z => ?_)
    obtain ⟨k, hk, ek⟩ := h.2.2.2 i i1 i2 hP
    rw [← ek]
    refine h.2.2.1 0 k (Int.le_refl _) ?_ hk.2
    by_cases w : k = 0
    · rw [w] at ek; exact absurd ek.symm z
    · omega
/-- how often a thing may yet be sealed in the hours -/
def zPw (w : Int) : Int := if 100 ≤ w ∧ w < 200 then 2 else if 200 ≤ w ∧ w < 300 then 1 else 0
def zPt (n : Int) (A : zA) : Prop := A 794 0 + zS (fun t => zPw (A 11 t)) (A 785 0) ≤ 16 * n + 32
/-- what a team has in hand is in its hands -/
def zHd (A : zA) : Prop := ∀ k, 0 ≤ k → k < 3 → A 17 k ≠ -1 → (0 ≤ A 17 k ∧ A 17 k < A 785 0) ∧ A 11 (A 17 k) = 200 + k
def zHI (A : zA) : Prop := zB 512 A ∧ zIr A ∧ zHd A ∧ zPt 512 A
theorem zPw_b {w : Int} : 0 ≤ zPw w ∧ zPw w ≤ 2 := by unfold zPw; (repeat' split) <;> omega
theorem zPt_s {n : Int} {A : zA} (h : zB n A) (hP : zPt n A) : A 794 0 ≤ 16 * n + 32 := by
  have b0 : 0 ≤ A 785 0 ∧ A 785 0 ≤ 16 := h 785 0
  have := zS_b (f := fun t => zPw (A 11 t)) (c := 2) (A 785 0) (fun i _ _ => zPw_b) b0.1 (by decide)
  unfold zPt at hP
  omega
theorem zTime_b {n : Int} {A : zA} (h : zB n A) : 0 ≤ zTime A ∧ zTime A ≤ 2000 := by
  have h1 : 0 ≤ A 791 0 ∧ A 791 0 ≤ 1000 := h 791 0
  have h2 : 0 ≤ A 789 0 ∧ A 789 0 ≤ 240 := h 789 0
  unfold zTime
  split <;> omega
theorem zGo_B {n : Int} {A : zA} {t w : Int} (h : zB n A) (hs : A 794 0 < 16 * n + 32) (ht : 0 ≤ t ∧ t < 16) (hw : 0 ≤ w ∧ w ≤ 609) : zB n (zGo A t w) := by
  have h1 : 0 ≤ A 794 0 ∧ A 794 0 ≤ 16 * n + 32 := h 794 0
  unfold zGo
  refine zB_u (zB_u (zB_u (zB_u (zB_u (zB_u h ?_) ?_) ?_) ?_) ?_) ?_
  · show 0 ≤ t ∧ t ≤ 15; omega
  · exact zTime_b h
  · exact h 11 t
  · show 0 ≤ A 794 0 + 1 ∧ A 794 0 + 1 ≤ 16 * n + 32; omega
  · exact hw
  · exact hw
/-- a thing goes where it may be sealed less often -/
theorem zGo_P {n : Int} {A : zA} {t w : Int} (hP : zPt n A) (ht : 0 ≤ t ∧ t < A 785 0) (hw : zPw w < zPw (A 11 t)) : zPt n (zGo A t w) := by
  unfold zPt at *
  rw [zGo_n, zGo_k (by decide)]
  have := zS_at (f := fun i => zPw (zGo A t w 11 i)) (g := fun i => zPw (A 11 i)) ht (fun i _ _ z => by show zPw (zGo A t w 11 i) = _; rw [zGo_w, if_neg z])
  have e1 : zPw (zGo A t w 11 t) = zPw w := by rw [zGo_w, if_pos rfl]
  simp only [e1] at this
  omega
theorem zGo_s {n : Int} {A : zA} {t w : Int} (h : zB n A) (hP : zPt n A) (ht : 0 ≤ t ∧ t < A 785 0) (hw : zPw w < zPw (A 11 t)) : A 794 0 < 16 * n + 32 := by
  have b0 : 0 ≤ A 785 0 ∧ A 785 0 ≤ 16 := h 785 0
  have := zS_at (f := fun i => zPw (A 11 i)) (g := fun i => if i = t then 0 else zPw (A 11 i)) ht (fun i _ _ z => by show _ = if i = t then 0 else zPw (A 11 i); rw [if_neg z])
  have e2 := zS_b (f := fun i => if i = t then 0 else zPw (A 11 i)) (c := 2) (A 785 0) (fun i _ _ => by have := zPw_b (w := A 11 i); show 0 ≤ (if i = t then 0 else zPw (A 11 i)) ∧ (if i = t then 0 else zPw (A 11 i)) ≤ 2; split <;> omega) b0.1 (by decide)
  have e3 := zPw_b (w := w)
  simp only [if_pos] at this
  unfold zPt at hP
  omega
theorem zGo_I {A : zA} {t w : Int} (hI : zIr A) (hw : 112 ≤ w ∧ 200 ≤ w) : zIr (zGo A t w) := by
  intro i i1 i2 q
  rw [zGo_w]
  have q2 : 100 ≤ zGo A t w 11 i ∧ zGo A t w 11 i < 200 := q
  rw [zGo_w] at q2
  split
  · rename_i z; rw [if_pos z] at q2; omega
  · rename_i z; rw [if_neg z] at q2; exact hI i i1 i2 q2
