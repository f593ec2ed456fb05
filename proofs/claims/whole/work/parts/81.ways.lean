/-! THE CLASS, 32: ways -/
/-- that there are ways -/
theorem zEx {A : zA} (hB : zB 512 A) : ∀ (n : Nat) (F : Int → Int), zJ A F → zPhi F < n → ∃ f, zIsW A f := by
  intro n
  induction n with
  | zero => intro F hJ h; have := zPhi_b hJ; omega
  | succ n ih =>
    intro F hJ h
    by_cases q : ∃ a r w, zEdge A a r w ∧ F a ≠ -1 ∧ (F r = -1 ∨ F a + w < F r)
    · obtain ⟨a, r, w, he, ha, hr⟩ := q
      have he0 := he
      obtain ⟨d, d1, d2, d3, d4⟩ := he
      have bA : 0 ≤ A 1 d ∧ A 1 d ≤ 11 := hB 1 d
      have bB : 0 ≤ A 2 d ∧ A 2 d ≤ 11 := hB 2 d
      have bM : 0 ≤ A 3 d ∧ A 3 d ≤ 9 := hB 3 d
      have u := zJ_u (F' := fun i => if i = r then F a + w else F i) hJ (by omega) (by omega) ha he0 (by omega) hr (fun i => rfl)
      exact ih _ u.1 (by omega)
    · refine ⟨F, hJ.1, fun r h1 h2 q => ⟨zJ_b hJ ⟨h1, h2⟩ q, ((hJ.2 r h1 h2).resolve_left q).2⟩, fun a r w he ha => ?_⟩
      by_cases z : F r ≠ -1 ∧ F r ≤ F a + w
      · exact z
      · exact absurd ⟨a, r, w, he, ha, by omega⟩ q
/-- nothing but room 0 is reached -/
def zF0 : Int → Int := fun r => if r = 0 then 0 else -1
theorem zJ_F0 {A : zA} {F : Int → Int} (h : ∀ r, 0 ≤ r → r < 12 → F r = zF0 r) : zJ A F := by
  have h0 : F 0 = 0 := h 0 (by decide) (by decide)
  refine ⟨h0, fun r h1 h2 => ?_⟩
  by_cases q : r = 0
  · subst q
    refine Or.inr ⟨⟨by omega, ?_⟩, 0, rfl, h0⟩
    have e : zCnt F = zCnt zF0 := zS_eq 12 (by decide) (fun i i1 i2 => by show (if F i = -1 then (0 : Int) else 1) = if zF0 i = -1 then 0 else 1; rw [h i i1 i2])
    have e2 : zCnt zF0 = 1 := by decide +kernel
    omega
  · left
    rw [h r h1 h2]
    exact if_neg q
theorem zWay_w {A : zA} (hB : zB 512 A) : zIsW A (zWay A) := by
  have hx : ∃ f, zIsW A f := zEx hB ((zPhi zF0).toNat + 1) zF0 (zJ_F0 (fun _ _ _ => rfl)) (by have := zPhi_b (A := A) (F := zF0) (zJ_F0 (fun _ _ _ => rfl)); omega)
  have e : zWay A = Classical.choose hx := dif_pos hx
  rw [e]
  exact Classical.choose_spec hx
/-- an edge that settles one more room -/
theorem zTgt {A : zA} {F : Int → Int} (hB : zB 512 A) (hM : ∀ d, 0 ≤ d → d < A 784 0 → 1 ≤ A 3 d) (hJ : zJ A F) : ∀ (n : Nat) (r : Int), 0 ≤ r → r < 12 → zWay A r ≠ -1 → zWay A r < n → F r ≠ zWay A r → ∃ a r' w, (0 ≤ r' ∧ r' < 12) ∧ (0 ≤ a ∧ a < 12) ∧ zEdge A a r' w ∧ F a = zWay A a ∧ zWay A a ≠ -1 ∧ zWay A r' = zWay A a + w ∧ F r' ≠ zWay A r' := by
  have hW := zWay_w hB
  intro n
  induction n with
  | zero => intro r h1 h2 h3 h4 h5; have := (hW.2.1 r h1 h2 h3).1; omega
  | succ n ih =>
    intro r h1 h2 h3 h4 h5
    obtain ⟨hb, k, hk⟩ := hW.2.1 r h1 h2 h3
    cases k with
    | zero => exact absurd (by rw [hk.1, hJ.1, hW.1]) h5
    | succ k =>
      obtain ⟨a, l', w, q1, q2, q3⟩ := hk
      have le := zIsW_le hW k a l' q1
      have le2 := hW.2.2 a r w q2 le.1
      have q20 := q2
      obtain ⟨d, d1, d2, d3, d4⟩ := q2
      have bA : 0 ≤ A 1 d ∧ A 1 d ≤ 11 := hB 1 d
      have bB : 0 ≤ A 2 d ∧ A 2 d ≤ 11 := hB 2 d
      have bM := hM d d1.1 d1.2
      have ha : 0 ≤ a ∧ a < 12 := by omega
      by_cases z : F a = zWay A a
      · exact ⟨a, r, w, ⟨h1, h2⟩, ha, q20, z, le.1, by omega, h5⟩
      · exact ih a ha.1 ha.2 le.1 (by omega) z
/-- what one door does -/
def zSho (F : Int → Int) (p1 p2 p3 : Int) : Prop := F p1 ≠ -1 ∧ (F p2 = -1 ∨ F p1 + p3 < F p2)
theorem zWay_le {A : zA} {F : Int → Int} (hB : zB 512 A) (hJ : zJ A F) {r : Int} (hr : 0 ≤ r ∧ r < 12) (q : F r ≠ -1) : zWay A r ≠ -1 ∧ zWay A r ≤ F r := by
  obtain ⟨-, k, hk⟩ := (hJ.2 r hr.1 hr.2).resolve_left q
  exact zIsW_le (zWay_w hB) k r _ hk
theorem zSho_1 {A : zA} {F F' : Int → Int} {p1 p2 p3 : Int} (hB : zB 512 A) (hJ : zJ A F) (h1 : 0 ≤ p1 ∧ p1 < 12) (h2 : 0 ≤ p2 ∧ p2 < 12) (h3 : 0 ≤ p3 ∧ p3 ≤ 9) (he : zEdge A p1 p2 p3) (h : zSho F p1 p2 p3 → ∀ r, F' r = if r = p2 then F p1 + p3 else F r) (hn : ¬ zSho F p1 p2 p3 → ∀ r, F' r = F r) : zJ A F' ∧ (∀ r, 0 ≤ r → r < 12 → F r = zWay A r → F' r = zWay A r) ∧ (F p1 = zWay A p1 → zWay A p1 ≠ -1 → zWay A p2 = zWay A p1 + p3 → F' p2 = zWay A p2) := by
  have hW := zWay_w hB
  by_cases q : zSho F p1 p2 p3
  · have e := h q
    refine ⟨(zJ_u hJ h1 h2 q.1 he h3 q.2 e).1, fun r r1 r2 z => ?_, fun z1 z2 z3 => ?_⟩
    · by_cases y : r = p2
      · subst y
        have le1 := zWay_le hB hJ h1 q.1
        have le2 := hW.2.2 p1 r p3 he le1.1
        rcases q.2 with x | x
        · omega
        · omega
      · rw [e, if_neg y]; exact z
    · rw [e, if_pos rfl]; omega
  · have e : F' = F := funext (hn q)
    rw [e]
    refine ⟨hJ, fun r _ _ z => z, fun z1 z2 z3 => ?_⟩
    have q2 : F p2 ≠ -1 ∧ F p2 ≤ F p1 + p3 := by
      unfold zSho at q
      omega
    have := (zWay_le hB hJ h2 q2.1).2
    omega
noncomputable def zWct (A : zA) (F : Int → Int) : Int := zS (fun r => if F r = zWay A r then 1 else 0) 12
theorem zWct_12 {A : zA} {F : Int → Int} (h : 12 ≤ zWct A F) {r : Int} (hr : 0 ≤ r ∧ r < 12) : F r = zWay A r := by
  by_cases q : F r = zWay A r
  · exact q
  · have u := zS_at (f := fun r => if F r = zWay A r then (1 : Int) else 0) (g := fun i => if i = r then 1 else if F i = zWay A i then (1 : Int) else 0) hr (fun i _ _ z => (if_neg z).symm)
    have b := zS_b (f := fun i => if i = r then 1 else if F i = zWay A i then (1 : Int) else 0) (c := 1) 12 (fun i _ _ => by show 0 ≤ (if i = r then (1 : Int) else if F i = zWay A i then 1 else 0) ∧ (if i = r then (1 : Int) else if F i = zWay A i then 1 else 0) ≤ 1; (repeat' split) <;> omega) (by decide) (by decide)
    have e1 : (if F r = zWay A r then (1 : Int) else 0) = 0 := if_neg q
    have e2 : (if r = r then 1 else if F r = zWay A r then (1 : Int) else 0) = 1 := if_pos rfl
    unfold zWct at h
    simp only [e1, if_true] at u
    omega
theorem zWct_up {A : zA} {F F' : Int → Int} (h : ∀ r, 0 ≤ r → r < 12 → F r = zWay A r → F' r = zWay A r) : zWct A F ≤ zWct A F' ∧ ∀ r, 0 ≤ r → r < 12 → F r ≠ zWay A r → F' r = zWay A r → zWct A F + 1 ≤ zWct A F' := by
  have mono : ∀ (f g : Int → Int) (n : Nat), (∀ i : Int, 0 ≤ i → i < n → f i ≤ g i) → zS f n ≤ zS g n := by
    intro f g n
    induction n with
    | zero => intro _; exact Int.le_refl _
    | succ n ih =>
      intro q
      rw [show ((n + 1 : Nat) : Int) = (n : Int) + 1 from rfl, zS_s (by omega), zS_s (by omega)]
      have a := ih (fun i i1 i2 => q i i1 (by omega))
      have b := q n (by omega) (by omega)
      omega
  have le : ∀ i : Int, 0 ≤ i → i < 12 → (if F i = zWay A i then (1 : Int) else 0) ≤ if F' i = zWay A i then 1 else 0 := fun i i1 i2 => by
    by_cases z : F i = zWay A i
    · rw [if_pos z, if_pos (h i i1 i2 z)]; exact Int.le_refl _
    · rw [if_neg z]; split <;> decide
  refine ⟨mono _ _ 12 (fun i i1 i2 => le i i1 (by omega)), fun r r1 r2 z z2 => ?_⟩
  have u := zS_at (f := fun r => if F r = zWay A r then (1 : Int) else 0) (g := fun i => if i = r then 1 else if F i = zWay A i then (1 : Int) else 0) ⟨r1, r2⟩ (fun i _ _ z => (if_neg z).symm)
  have v := mono (fun i => if i = r then 1 else if F i = zWay A i then (1 : Int) else 0) (fun r => if F' r = zWay A r then (1 : Int) else 0) 12 (fun i i1 i2 => by
    show (if i = r then (1 : Int) else if F i = zWay A i then 1 else 0) ≤ if F' i = zWay A i then 1 else 0
    by_cases y : i = r
    · rw [if_pos y, y, if_pos z2]; exact Int.le_refl _
    · rw [if_neg y]; exact le i i1 (by omega))
  have e1 : (if F r = zWay A r then (1 : Int) else 0) = 0 := if_neg z
  simp only [e1, if_true] at u
  unfold zWct
  have v2 : zS (fun i => if i = r then 1 else if F i = zWay A i then (1 : Int) else 0) 12 ≤ zS (fun r => if F' r = zWay A r then (1 : Int) else 0) 12 := v
  omega
theorem zSt_0 {A : zA} {F : Int → Int} (h : F 0 = zWay A 0) : 1 ≤ zWct A F := by
  have := zS_up (f := fun r => if F r = zWay A r then (1 : Int) else 0) (i := 1) (n := 12) ⟨by decide, by decide⟩ (fun k _ _ => by show 0 ≤ (if F k = zWay A k then (1 : Int) else 0); split <;> decide)
  have e : zS (fun r => if F r = zWay A r then (1 : Int) else 0) 1 = 1 := by
    have := zS_s (f := fun r => if F r = zWay A r then (1 : Int) else 0) (n := 0) (by decide)
    rw [zS_0, if_pos h] at this
    exact this
  unfold zWct
  omega
theorem zWct_f {A : zA} {F : Int → Int} (h : ∀ r, 0 ≤ r → r < 12 → F r = zWay A r) : 12 ≤ zWct A F := by
  have e : zWct A F = zS (fun _ => 1) 12 := zS_eq 12 (by decide) (fun i i1 i2 => if_pos (h i i1 i2))
  rw [e]
  decide +kernel
set_option maxRecDepth 20000 in
set_option maxHeartbeats 4000000 in
theorem sg_House_shorten_0 {e : gE} {b : Nat} {m : Int} {Z : Int → gH → Prop} {kc ks : Nat} {G : gH} {p1 p2 p3 : Int} (h : ((0 ≤ p1 ∧ p1 < 12) → ((0 ≤ p2 ∧ p2 < 12) → (0 ≤ p1 ∧ p1 < 12) ∧ ((G 1 ((b : Int) + 8) p1) ≠ (-1) → (inI ((G 1 ((b : Int) + 8) p1) + p3)) ∧ ((0 ≤ p2 ∧ p2 < 12) ∧ ((G 1 ((b : Int) + 8) p2) ≠ (-1) → ((G 1 ((b : Int) + 8) p2) ≤ ((G 1 ((b : Int) + 8) p1) + p3) → Z 0 G)))))) ∧ ((((¬ (0 ≤ p1 ∧ p1 < 12))) ∨ ((0 ≤ p1 ∧ p1 < 12) ∧ (¬ (0 ≤ p2 ∧ p2 < 12))) ∨ ((0 ≤ p1 ∧ p1 < 12) ∧ (0 ≤ p2 ∧ p2 < 12) ∧ (G 1 ((b : Int) + 8) p1) = (-1))) → Z 0 G) ∧ ((((0 ≤ p1 ∧ p1 < 12) ∧ (0 ≤ p2 ∧ p2 < 12) ∧ (G 1 ((b : Int) + 8) p1) ≠ (-1) ∧ (G 1 ((b : Int) + 8) p2) = (-1)) ∨ ((0 ≤ p1 ∧ p1 < 12) ∧ (0 ≤ p2 ∧ p2 < 12) ∧ (G 1 ((b : Int) + 8) p1) ≠ (-1) ∧ (G 1 ((b : Int) + 8) p2) ≠ (-1) ∧ ((G 1 ((b : Int) + 8) p1) + p3) < (G 1 ((b : Int) + 8) p2))) → (0 ≤ p2 ∧ p2 < 12) ∧ (∀ G17 : gH, G17 = gU G 1 ((b : Int) + 8) p2 ((G 1 ((b : Int) + 8) p1) + p3) → Z 0 G17))) : EX e b m m_House_shorten Z kc ks 0 [(2, ((b : Int) + 3)), (0, p1), (0, p2), (0, p3), (9, 0)] [] G := by
  obtain ⟨h, hJ14, hJ15⟩ := h
  have kJ15 : (((0 ≤ p1 ∧ p1 < 12) ∧ (0 ≤ p2 ∧ p2 < 12) ∧ (G 1 ((b : Int) + 8) p1) ≠ (-1) ∧ (G 1 ((b : Int) + 8) p2) = (-1)) ∨ ((0 ≤ p1 ∧ p1 < 12) ∧ (0 ≤ p2 ∧ p2 < 12) ∧ (G 1 ((b : Int) + 8) p1) ≠ (-1) ∧ (G 1 ((b : Int) + 8) p2) ≠ (-1) ∧ ((G 1 ((b : Int) + 8) p1) + p3) < (G 1 ((b : Int) + 8) p2))) → EX e b m m_House_shorten Z kc ks 56 [(2, ((b : Int) + 3)), (0, p1), (0, p2), (0, p3), (0, ((G 1 ((b : Int) + 8) p1) + p3))] [] G := by
    intro rJ15
    have h := hJ15 rJ15
    refine e_aload_n d_House_shorten_56 rfl ?_
    refine gx_House_25 d_House_shorten_57 rfl ?_
    refine e_iload_n d_House_shorten_60 rfl ?_
    refine e_iload d_House_shorten_61 rfl ?_
    obtain ⟨o16, h⟩ := h
    refine xC_iast 7 rfl d_House_shorten_63 o16 ?_
    let G17 : gH := gU G 1 ((b : Int) + 8) p2 ((G 1 ((b : Int) + 8) p1) + p3)
    have h := h G17 rfl
    exact e_vret d_House_shorten_64 rfl h
  have kJ14 : (((¬ (0 ≤ p1 ∧ p1 < 12))) ∨ ((0 ≤ p1 ∧ p1 < 12) ∧ (¬ (0 ≤ p2 ∧ p2 < 12))) ∨ ((0 ≤ p1 ∧ p1 < 12) ∧ (0 ≤ p2 ∧ p2 < 12) ∧ (G 1 ((b : Int) + 8) p1) = (-1))) → EX e b m m_House_shorten Z kc ks 24 [(2, ((b : Int) + 3)), (0, p1), (0, p2), (0, p3), (9, 0)] [] G := by
    intro rJ14
    have h := hJ14 rJ14
    exact e_vret d_House_shorten_24 rfl h
  refine e_iload_n d_House_shorten_0 rfl ?_
  refine e_callS m_House_isRoom lw_good d_House_shorten_1 (k_House_isRoom _) ⟨Nat.le_of_ble_eq_true rfl, Nat.le_of_ble_eq_true rfl⟩ w_310 w_311 (args := [(0, p1)]) rfl rfl (Nat.le_of_ble_eq_true rfl) (kc' := kc) (ks' := ks) (mc := 0) (ms := 0) rfl rfl (c_House_isRoom) (pureK ?_)
  refine e_if_eq (tgt := 24) d_House_shorten_4 (by decide) (fun q1 => ?_) (fun q2 => ?_)
  · replace q1 := gb0.mp q1
    exact kJ14 (Or.inl q1)
  · replace q2 := gb1.mp q2
    have h := h q2
    refine e_iload_n d_House_shorten_7 rfl ?_
    refine e_callS m_House_isRoom lw_good d_House_shorten_8 (k_House_isRoom _) ⟨Nat.le_of_ble_eq_true rfl, Nat.le_of_ble_eq_true rfl⟩ w_310 w_311 (args := [(0, p2)]) rfl rfl (Nat.le_of_ble_eq_true rfl) (kc' := kc) (ks' := ks) (mc := 0) (ms := 0) rfl rfl (c_House_isRoom) (pureK ?_)
    refine e_if_eq (tgt := 24) d_House_shorten_11 (by decide) (fun q3 => ?_) (fun q4 => ?_)
    · replace q3 := gb0.mp q3
      exact kJ14 (Or.inr (Or.inl ⟨q2, q3⟩))
    · replace q4 := gb1.mp q4
      have h := h q4
      refine e_aload_n d_House_shorten_14 rfl ?_
      refine gx_House_25 d_House_shorten_15 rfl ?_
      refine e_iload_n d_House_shorten_18 rfl ?_
      obtain ⟨o5, h⟩ := h
      refine xC_iald 7 rfl d_House_shorten_19 o5 ?_
      refine e_iconst d_House_shorten_20 (by decide) ?_
      refine e_icmp_ne (tgt := 25) d_House_shorten_21 (by decide) (fun q6 => ?_) (fun q7 => ?_)
      · have h := h q6
        refine e_aload_n d_House_shorten_25 rfl ?_
        refine gx_House_25 d_House_shorten_26 rfl ?_
        refine e_iload_n d_House_shorten_29 rfl ?_
        refine xC_iald 7 rfl d_House_shorten_30 o5 ?_
        refine e_iload_n d_House_shorten_31 rfl ?_
        obtain ⟨o8, h⟩ := h
        refine e_iadd d_House_shorten_32 o8 ?_
        refine e_istore (ls' := [(2, ((b : Int) + 3)), (0, p1), (0, p2), (0, p3), (0, ((G 1 ((b : Int) + 8) p1) + p3))]) d_House_shorten_33 (by decide) rfl ?_
        refine e_aload_n d_House_shorten_35 rfl ?_
        refine gx_House_25 d_House_shorten_36 rfl ?_
        refine e_iload_n d_House_shorten_39 rfl ?_
        obtain ⟨o9, h⟩ := h
        refine xC_iald 7 rfl d_House_shorten_40 o9 ?_
        refine e_iconst d_House_shorten_41 (by decide) ?_
        refine e_icmp_eq (tgt := 56) d_House_shorten_42 (by decide) (fun q10 => ?_) (fun q11 => ?_)
        · exact kJ15 (Or.inl ⟨q2, q4, q6, q10⟩)
        · have h := h q11
          refine e_iload d_House_shorten_45 rfl ?_
          refine e_aload_n d_House_shorten_47 rfl ?_
          refine gx_House_25 d_House_shorten_48 rfl ?_
          refine e_iload_n d_House_shorten_51 rfl ?_
          refine xC_iald 7 rfl d_House_shorten_52 o9 ?_
          refine e_icmp_ge (tgt := 64) d_House_shorten_53 (by decide) (fun q12 => ?_) (fun q13 => ?_)
          · have h := h q12
            exact e_vret d_House_shorten_64 rfl h
          · exact kJ15 (Or.inr ⟨q2, q4, q6, q11, q13⟩)
      · exact kJ14 (Or.inr (Or.inr ⟨q2, q4, q7⟩))
set_option maxRecDepth 20000 in
set_option maxHeartbeats 4000000 in
theorem sg_House_findWays_0 {e : gE} {b : Nat} {m : Int} {Z : Int → gH → Prop} {kc ks : Nat} {G : gH} (h : GX e b m m_Arrays_fill_a [(2, ((b : Int) + 8)), (0, (-1))] G 0 0 (fun _ G2 => ∀ G3 : gH, G3 = gU G2 1 ((b : Int) + 8) 0 0 → EX e b m m_House_findWays Z kc ks 17 [(2, ((b : Int) + 3)), (0, 0), (9, 0)] [] G3)) : EX e b m m_House_findWays Z kc ks 0 [(2, ((b : Int) + 3)), (9, 0), (9, 0)] [] G := by
  refine e_aload_n d_House_findWays_0 rfl ?_
  refine gx_House_25 d_House_findWays_1 rfl ?_
  refine e_iconst d_House_findWays_4 (by decide) ?_
  refine e_callS m_Arrays_fill_a lw_good d_House_findWays_5 (k_Arrays_fill_a _) ⟨Nat.le_of_ble_eq_true rfl, Nat.le_of_ble_eq_true rfl⟩ w_67 w_68 (args := [(2, ((b : Int) + 8)), (0, (-1))]) rfl rfl (Nat.le_of_ble_eq_true rfl) (kc' := kc) (ks' := ks) (mc := 0) (ms := 0) rfl rfl h ?_
  intro v1 G2 h
  refine e_aload_n d_House_findWays_8 rfl ?_
  refine gx_House_25 d_House_findWays_9 rfl ?_
  refine e_iconst d_House_findWays_12 (by decide) ?_
  refine e_iconst d_House_findWays_13 (by decide) ?_
  refine xC_iast 7 rfl d_House_findWays_14 (by decide) ?_
  let G3 : gH := gU G2 1 ((b : Int) + 8) 0 0
  have h := h G3 rfl
  refine e_iconst d_House_findWays_15 (by decide) ?_
  refine e_istore_n (ls' := [(2, ((b : Int) + 3)), (0, 0), (9, 0)]) d_House_findWays_16 (by decide) rfl ?_
  exact e_forget (ls' := [(2, ((b : Int) + 3)), (0, 0), (9, 0)]) ⟨Or.inr rfl, Or.inr rfl, Or.inl rfl, trivial⟩ h
set_option maxRecDepth 20000 in
set_option maxHeartbeats 4000000 in
theorem sg_House_findWays_17 {e : gE} {b : Nat} {m : Int} {Z : Int → gH → Prop} {kc ks : Nat} {G : gH} {x1 : Int} (h : (12 ≤ x1 → Z 0 G) ∧ (x1 < 12 → EX e b m m_House_findWays Z kc ks 25 [(2, ((b : Int) + 3)), (0, x1), (0, 0)] [] G)) : EX e b m m_House_findWays Z kc ks 17 [(2, ((b : Int) + 3)), (0, x1), (9, 0)] [] G := by
  refine e_iload_n d_House_findWays_17 rfl ?_
  refine e_bipush d_House_findWays_18 (by decide) (by decide) ?_
  refine e_icmp_ge (tgt := 104) d_House_findWays_20 (by decide) (fun q1 => ?_) (fun q2 => ?_)
  · have h := h.1 q1
    exact e_vret d_House_findWays_104 rfl h
  · have h := h.2 q2
    refine e_iconst d_House_findWays_23 (by decide) ?_
    refine e_istore_n (ls' := [(2, ((b : Int) + 3)), (0, x1), (0, 0)]) d_House_findWays_24 (by decide) rfl ?_
    exact e_forget (ls' := [(2, ((b : Int) + 3)), (0, x1), (0, 0)]) ⟨Or.inr rfl, Or.inr rfl, Or.inr rfl, trivial⟩ h
set_option maxRecDepth 20000 in
set_option maxHeartbeats 4000000 in
theorem sg_House_findWays_25 {e : gE} {b : Nat} {m : Int} {Z : Int → gH → Prop} {kc ks : Nat} {G : gH} {x1 x2 : Int} (h : (x2 < (G 150 ((b : Int) + 3) 0) → (x2 < 20 → (0 ≤ x2 ∧ x2 < 20) ∧ (((G 1 ((b : Int) + 7) x2) ≠ 0 → (inI (x2 + 1)) ∧ EX e b m m_House_findWays Z kc ks 25 [(2, ((b : Int) + 3)), (0, x1), (0, (x2 + 1))] [] G) ∧ ((G 1 ((b : Int) + 7) x2) = 0 → GX e b m m_House_shorten [(2, ((b : Int) + 3)), (0, (G 1 ((b : Int) + 4) x2)), (0, (G 1 ((b : Int) + 5) x2)), (0, (G 1 ((b : Int) + 6) x2))] G 0 0 (fun _ G10 => GX e b m m_House_shorten [(2, ((b : Int) + 3)), (0, (G10 1 ((b : Int) + 5) x2)), (0, (G10 1 ((b : Int) + 4) x2)), (0, (G10 1 ((b : Int) + 6) x2))] G10 0 0 (fun _ G13 => (inI (x2 + 1)) ∧ EX e b m m_House_findWays Z kc ks 25 [(2, ((b : Int) + 3)), (0, x1), (0, (x2 + 1))] [] G13)))))) ∧ (((G 150 ((b : Int) + 3) 0) ≤ x2 ∨ (x2 < (G 150 ((b : Int) + 3) 0) ∧ 20 ≤ x2)) → (inI (x1 + 1)) ∧ EX e b m m_House_findWays Z kc ks 17 [(2, ((b : Int) + 3)), (0, (x1 + 1)), (9, 0)] [] G)) : EX e b m m_House_findWays Z kc ks 25 [(2, ((b : Int) + 3)), (0, x1), (0, x2)] [] G := by
  obtain ⟨h, hJ16⟩ := h
  have kJ16 : ((G 150 ((b : Int) + 3) 0) ≤ x2 ∨ (x2 < (G 150 ((b : Int) + 3) 0) ∧ 20 ≤ x2)) → EX e b m m_House_findWays Z kc ks 98 [(2, ((b : Int) + 3)), (0, x1), (0, x2)] [] G := by
    intro rJ16
    have h := hJ16 rJ16
    obtain ⟨o17, h⟩ := h
    refine e_iinc (ls' := [(2, ((b : Int) + 3)), (0, (x1 + 1)), (0, x2)]) d_House_findWays_98 rfl (by decide) o17 rfl ?_
    refine e_goto (tgt := 17) d_House_findWays_101 (by decide) ?_
    exact e_forget (ls' := [(2, ((b : Int) + 3)), (0, (x1 + 1)), (9, 0)]) ⟨Or.inr rfl, Or.inr rfl, Or.inl rfl, trivial⟩ h
  refine e_iload_n d_House_findWays_25 rfl ?_
  refine e_aload_n d_House_findWays_26 rfl ?_
  refine gx_House_37 d_House_findWays_27 rfl ?_
  refine e_icmp_ge (tgt := 98) d_House_findWays_30 (by decide) (fun q1 => ?_) (fun q2 => ?_)
  · exact kJ16 (Or.inl q1)
  · have h := h q2
    refine e_iload_n d_House_findWays_33 rfl ?_
    refine e_bipush d_House_findWays_34 (by decide) (by decide) ?_
    refine e_icmp_ge (tgt := 98) d_House_findWays_36 (by decide) (fun q3 => ?_) (fun q4 => ?_)
    · exact kJ16 (Or.inr ⟨q2, q3⟩)
    · have h := h q4
      refine e_aload_n d_House_findWays_39 rfl ?_
      refine gx_House_21 d_House_findWays_40 rfl ?_
      refine e_iload_n d_House_findWays_43 rfl ?_
      obtain ⟨o5, h⟩ := h
      refine xC_zald 6 rfl d_House_findWays_44 o5 ?_
      refine e_if_ne (tgt := 92) d_House_findWays_45 (by decide) (fun q6 => ?_) (fun q7 => ?_)
      · have h := h.1 q6
        obtain ⟨o15, h⟩ := h
        refine e_iinc (ls' := [(2, ((b : Int) + 3)), (0, x1), (0, (x2 + 1))]) d_House_findWays_92 rfl (by decide) o15 rfl ?_
        refine e_goto (tgt := 25) d_House_findWays_95 (by decide) ?_
        exact e_forget (ls' := [(2, ((b : Int) + 3)), (0, x1), (0, (x2 + 1))]) ⟨Or.inr rfl, Or.inr rfl, Or.inr rfl, trivial⟩ h
      · have h := h.2 q7
        refine e_aload_n d_House_findWays_48 rfl ?_
        refine e_aload_n d_House_findWays_49 rfl ?_
        refine gx_House_9 d_House_findWays_50 rfl ?_
        refine e_iload_n d_House_findWays_53 rfl ?_
        refine xC_iald 3 rfl d_House_findWays_54 o5 ?_
        refine e_aload_n d_House_findWays_55 rfl ?_
        refine gx_House_15 d_House_findWays_56 rfl ?_
        refine e_iload_n d_House_findWays_59 rfl ?_
        refine xC_iald 4 rfl d_House_findWays_60 o5 ?_
        refine e_aload_n d_House_findWays_61 rfl ?_
        refine gx_House_18 d_House_findWays_62 rfl ?_
        refine e_iload_n d_House_findWays_65 rfl ?_
        refine xC_iald 5 rfl d_House_findWays_66 o5 ?_
        refine EV.inv fun hFf8 => ?_
        have f8 := (fx_ct 2 rfl hFf8).1
        refine e_callV m_House_shorten 2 lw_good d_House_findWays_67 (k_House_shorten _) ⟨Nat.le_of_ble_eq_true rfl, Nat.le_of_ble_eq_true rfl⟩ w_317 w_319 w_s2 (q_House _) rfl f8 (args := [(0, (G 1 ((b : Int) + 4) x2)), (0, (G 1 ((b : Int) + 5) x2)), (0, (G 1 ((b : Int) + 6) x2))]) rfl rfl (Nat.le_of_ble_eq_true rfl) (kc' := kc) (ks' := ks) (mc := 0) (ms := 0) rfl rfl h ?_
        intro v9 G10 h
        refine e_aload_n d_House_findWays_70 rfl ?_
        refine e_aload_n d_House_findWays_71 rfl ?_
        refine gx_House_15 d_House_findWays_72 rfl ?_
        refine e_iload_n d_House_findWays_75 rfl ?_
        refine xC_iald 4 rfl d_House_findWays_76 o5 ?_
        refine e_aload_n d_House_findWays_77 rfl ?_
        refine gx_House_9 d_House_findWays_78 rfl ?_
        refine e_iload_n d_House_findWays_81 rfl ?_
        refine xC_iald 3 rfl d_House_findWays_82 o5 ?_
        refine e_aload_n d_House_findWays_83 rfl ?_
        refine gx_House_18 d_House_findWays_84 rfl ?_
        refine e_iload_n d_House_findWays_87 rfl ?_
        refine xC_iald 5 rfl d_House_findWays_88 o5 ?_
        refine EV.inv fun hFf11 => ?_
        have f11 := (fx_ct 2 rfl hFf11).1
        refine e_callV m_House_shorten 2 lw_good d_House_findWays_89 (k_House_shorten _) ⟨Nat.le_of_ble_eq_true rfl, Nat.le_of_ble_eq_true rfl⟩ w_317 w_319 w_s2 (q_House _) rfl f11 (args := [(0, (G10 1 ((b : Int) + 5) x2)), (0, (G10 1 ((b : Int) + 4) x2)), (0, (G10 1 ((b : Int) + 6) x2))]) rfl rfl (Nat.le_of_ble_eq_true rfl) (kc' := kc) (ks' := ks) (mc := 0) (ms := 0) rfl rfl h ?_
        intro v12 G13 h
        obtain ⟨o14, h⟩ := h
        refine e_iinc (ls' := [(2, ((b : Int) + 3)), (0, x1), (0, (x2 + 1))]) d_House_findWays_92 rfl (by decide) o14 rfl ?_
        refine e_goto (tgt := 25) d_House_findWays_95 (by decide) ?_
        exact e_forget (ls' := [(2, ((b : Int) + 3)), (0, x1), (0, (x2 + 1))]) ⟨Or.inr rfl, Or.inr rfl, Or.inr rfl, trivial⟩ h
/-- of the house only the ways have changed -/
def zWx (b : Nat) (G G1 : gH) : Prop := ∀ (c : Nat) (i j : Int), ¬ (c = 1 ∧ i = (b : Int) + 8) → G1 c i j = G c i j
abbrev zFw (b : Nat) (G : gH) : Int → Int := fun r => G 1 ((b : Int) + 8) r
theorem c_shorten {e : gE} {b : Nat} {m : Int} {G : gH} {p1 p2 p3 : Int} (h1 : 0 ≤ p1 ∧ p1 < 12) (h2 : 0 ≤ p2 ∧ p2 < 12) (hb : zFw b G p1 ≠ -1 → 0 ≤ zFw b G p1 ∧ zFw b G p1 ≤ 99) (h3 : 0 ≤ p3 ∧ p3 ≤ 9) : GX e b m m_House_shorten [(2, ((b : Int) + 3)), (0, p1), (0, p2), (0, p3)] G 0 0 (fun _ G1 => zWx b G G1 ∧ (zSho (zFw b G) p1 p2 p3 → ∀ r, zFw b G1 r = if r = p2 then zFw b G p1 + p3 else zFw b G r) ∧ (¬ zSho (zFw b G) p1 p2 p3 → ∀ r, zFw b G1 r = zFw b G r)) := by
  refine GM.ofEV (by decide) (Nat.le_of_ble_eq_true rfl) (sg_House_shorten_0 ?_)
  unfold zSho
  dsimp only [zFw] at *
  have no : ¬ (G 1 ((b : Int) + 8) p1 ≠ -1 ∧ (G 1 ((b : Int) + 8) p2 = -1 ∨ G 1 ((b : Int) + 8) p1 + p3 < G 1 ((b : Int) + 8) p2)) → zWx b G G ∧ (G 1 ((b : Int) + 8) p1 ≠ -1 ∧ (G 1 ((b : Int) + 8) p2 = -1 ∨ G 1 ((b : Int) + 8) p1 + p3 < G 1 ((b : Int) + 8) p2) → ∀ r, G 1 ((b : Int) + 8) r = if r = p2 then G 1 ((b : Int) + 8) p1 + p3 else G 1 ((b : Int) + 8) r) ∧ (¬ (G 1 ((b : Int) + 8) p1 ≠ -1 ∧ (G 1 ((b : Int) + 8) p2 = -1 ∨ G 1 ((b : Int) + 8) p1 + p3 < G 1 ((b : Int) + 8) p2)) → ∀ r, G 1 ((b : Int) + 8) r = G 1 ((b : Int) + 8) r) := fun z => ⟨fun _ _ _ _ => rfl, fun y => absurd y z, fun _ _ => rfl⟩
  refine ⟨fun _ _ => ⟨h1, fun q1 => ⟨by have := hb q1; omega, h2, fun q2 q3 => no (by omega)⟩⟩, fun q => no (by omega), fun q => ⟨h2, ?_⟩⟩
  rintro _ rfl
  refine ⟨fun c i j z => gU_ne (fun y => z ⟨y.1, y.2.1⟩), fun _ r => ?_, fun z => absurd (by omega) z⟩
  by_cases z : r = p2
  · rw [z, gU_eq, if_pos rfl]
  · rw [gU_j z, if_neg z]
/-- the doors as the state has them -/
def zDoo (b : Nat) (G : gH) (A : zA) : Prop := (∀ i, 0 ≤ i → i < 20 → G 1 ((b : Int) + 4) i = A 1 i ∧ G 1 ((b : Int) + 5) i = A 2 i ∧ G 1 ((b : Int) + 6) i = A 3 i ∧ G 1 ((b : Int) + 7) i = A 4 i) ∧ G 150 ((b : Int) + 3) 0 = A 784 0
theorem zDoo_x {b : Nat} {G G1 : gH} {A : zA} (h : zWx b G G1) (q : zDoo b G A) : zDoo b G1 A := by
  unfold zDoo at *
  rw [h 150 _ _ (by omega)]
  exact ⟨fun i i1 i2 => by rw [h _ _ _ (by omega), h _ _ _ (by omega), h _ _ _ (by omega), h _ _ _ (by omega)]; exact q.1 i i1 i2, q.2⟩
def zDr (A : zA) : Prop := ∀ d, 0 ≤ d → d < A 784 0 → 1 ≤ A 3 d
/-- what doors before j have done -/
def zRd (A : zA) (Fs F : Int → Int) (j : Int) : Prop := ∀ i, 0 ≤ i → i < j → A 4 i = 0 → (Fs (A 1 i) = zWay A (A 1 i) → zWay A (A 1 i) ≠ -1 → zWay A (A 2 i) = zWay A (A 1 i) + A 3 i → F (A 2 i) = zWay A (A 2 i)) ∧ (Fs (A 2 i) = zWay A (A 2 i) → zWay A (A 2 i) ≠ -1 → zWay A (A 1 i) = zWay A (A 2 i) + A 3 i → F (A 1 i) = zWay A (A 1 i))
theorem l_round {e : gE} {b : Nat} {m : Int} {Z : Int → gH → Prop} {kc ks : Nat} {G0 G : gH} {A : zA} {x : Int} (hB : zB 512 A) (hx : 0 ≤ x ∧ x < 12) (hd : zDoo b G0 A) (hG : zWx b G0 G) (hJ : zJ A (zFw b G)) (K : ∀ G1, zWx b G0 G1 → zJ A (zFw b G1) → (∀ r, 0 ≤ r → r < 12 → zFw b G r = zWay A r → zFw b G1 r = zWay A r) → zRd A (zFw b G) (zFw b G1) (A 784 0) → EX e b m m_House_findWays Z kc ks 17 [(2, ((b : Int) + 3)), (0, (x + 1)), (9, 0)] [] G1) : EX e b m m_House_findWays Z kc ks 25 [(2, ((b : Int) + 3)), (0, x), (0, 0)] [] G := by
  have bd : 0 ≤ A 784 0 ∧ A 784 0 ≤ 20 := hB 784 0
  refine zloop (P := fun i => ∀ G1, zWx b G0 G1 → zJ A (zFw b G1) → (∀ r, 0 ≤ r → r < 12 → zFw b G r = zWay A r → zFw b G1 r = zWay A r) → zRd A (zFw b G) (zFw b G1) i → EX e b m m_House_findWays Z kc ks 25 [(2, ((b : Int) + 3)), (0, x), (0, i)] [] G1) (i := 0) (A 784 0) bd.1 ?_ ?_ G hG hJ (fun _ _ _ z => z) (fun i i1 i2 => by omega)
  · intro G1 g1 g2 g3 g4
    have hd1 := zDoo_x g1 hd
    refine sg_House_findWays_25 ⟨fun z => by have := hd1.2; omega, fun _ => ⟨by omega, K G1 g1 g2 g3 g4⟩⟩
  · intro j j1 j2 st G1 g1 g2 g3 g4
    have hd1 := zDoo_x g1 hd
    have w := hd1.1 j j1 (by omega)
    have bA : 0 ≤ A 1 j ∧ A 1 j ≤ 11 := hB 1 j
    have bB : 0 ≤ A 2 j ∧ A 2 j ≤ 11 := hB 2 j
    have bM : 0 ≤ A 3 j ∧ A 3 j ≤ 9 := hB 3 j
    refine sg_House_findWays_25 ⟨fun _ _ => ⟨⟨j1, by omega⟩, fun q => ?_, fun q => ?_⟩, fun z => by have := hd1.2; omega⟩
    · rw [w.2.2.2] at q
      refine ⟨by omega, st G1 g1 g2 g3 (fun i i1 i2 i3 => ?_)⟩
      by_cases z : i = j
      · rw [z] at i3; exact absurd i3 q
      · exact g4 i i1 (by omega) i3
    · rw [w.2.2.2] at q
      rw [w.1, w.2.1, w.2.2.1]
      have e1 : zEdge A (A 1 j) (A 2 j) (A 3 j) := ⟨j, ⟨j1, j2⟩, q, rfl, Or.inl ⟨rfl, rfl⟩⟩
      have e2 : zEdge A (A 2 j) (A 1 j) (A 3 j) := ⟨j, ⟨j1, j2⟩, q, rfl, Or.inr ⟨rfl, rfl⟩⟩
      refine GM.mono (c_shorten (by omega) (by omega) (zJ_b g2 (by omega)) bM) ?_
      rintro _ G2 ⟨k1, k2, k3⟩
      obtain ⟨u1, u2, u3⟩ := zSho_1 hB g2 (by omega) (by omega) bM e1 k2 k3
      have h2 : zWx b G0 G2 := fun c i j z => by rw [k1 c i j z, g1 c i j z]
      have w2 := (zDoo_x h2 hd).1 j j1 (by omega)
      rw [w2.1, w2.2.1, w2.2.2.1]
      refine GM.mono (c_shorten (by omega) (by omega) (zJ_b u1 (by omega)) bM) ?_
      rintro _ G3 ⟨y1, y2, y3⟩
      obtain ⟨v1, v2, v3⟩ := zSho_1 hB u1 (by omega) (by omega) bM e2 y2 y3
      refine ⟨by omega, st G3 (fun c i j z => by rw [y1 c i j z, h2 c i j z]) v1 (fun r r1 r2 z => v2 r r1 r2 (u2 r r1 r2 (g3 r r1 r2 z))) (fun i i1 i2 i3 => ?_)⟩
      by_cases z : i = j
      · subst z
        refine ⟨fun t1 t2 t3 => ?_, fun t1 t2 t3 => ?_⟩
        · exact v2 _ bB.1 (by omega) (u3 (g3 _ bA.1 (by omega) t1) t2 t3)
        · exact v3 (u2 _ bB.1 (by omega) (g3 _ bB.1 (by omega) t1)) t2 t3
      · have t := g4 i i1 (by omega) i3
        have bA1 : 0 ≤ A 1 i ∧ A 1 i ≤ 11 := hB 1 i
        have bB1 : 0 ≤ A 2 i ∧ A 2 i ≤ 11 := hB 2 i
        exact ⟨fun t1 t2 t3 => v2 _ bB1.1 (by omega) (u2 _ bB1.1 (by omega) (t.1 t1 t2 t3)), fun t1 t2 t3 => v2 _ bA1.1 (by omega) (u2 _ bA1.1 (by omega) (t.2 t1 t2 t3))⟩
theorem c_findWays {e : gE} {b : Nat} {m : Int} {G : gH} {A : zA} (hB : zB 512 A) (hM : zDr A) (hd : zDoo b G A) : GX e b m m_House_findWays [(2, ((b : Int) + 3))] G 0 0 (fun _ G1 => zWx b G G1 ∧ ∀ r, 0 ≤ r → r < 12 → G1 1 ((b : Int) + 8) r = zWay A r) := by
  refine GM.inv fun hF => ?_
  have ct : G 0 ((b : Int) + 8) 0 = 100 ∧ G 0 ((b : Int) + 8) 1 = 12 := hF.1.1 (8, 100, 12) (by decide)
  have hW := zWay_w hB
  refine GM.ofEV (by decide) (Nat.le_of_ble_eq_true rfl) (sg_House_findWays_0 ?_)
  refine GM.mono (c_Arrays_fill_a ct.1 (by omega) (by omega)) ?_
  rintro _ G1 ⟨k1, k2⟩
  rintro _ rfl
  rw [ct.2] at k2
  have x1 : zWx b G (gU G1 1 ((b : Int) + 8) 0 0) := fun c i j z => by rw [gU_ne (by omega)]; exact k1 c i j (by omega)
  have f1 : ∀ r, 0 ≤ r → r < 12 → zFw b (gU G1 1 ((b : Int) + 8) 0 0) r = zF0 r := fun r r1 r2 => by
    show gU G1 1 ((b : Int) + 8) 0 0 1 ((b : Int) + 8) r = if r = 0 then 0 else -1
    by_cases z : r = 0
    · rw [z, gU_eq, if_pos rfl]
    · rw [gU_j z, if_neg z]; exact k2 r r1 r2
  have c1 : 1 ≤ zWct A (zFw b (gU G1 1 ((b : Int) + 8) 0 0)) := by
    have u := zSt_0 (A := A) (F := zFw b (gU G1 1 ((b : Int) + 8) 0 0)) (by rw [f1 0 (by decide) (by decide), hW.1]; rfl)
    exact u
  refine zloop (P := fun i => ∀ G2, zWx b G G2 → zJ A (zFw b G2) → (i + 1 ≤ zWct A (zFw b G2) ∨ 12 ≤ zWct A (zFw b G2)) → EX e b m m_House_findWays _ 0 0 17 [(2, ((b : Int) + 3)), (0, i), (9, 0)] [] G2) (i := 0) 12 (by decide) ?_ ?_ _ x1 (zJ_F0 f1) (Or.inl c1)
  · intro G2 g1 g2 g3
    refine sg_House_findWays_17 ⟨fun _ => ⟨g1, fun r r1 r2 => zWct_12 (F := zFw b G2) (by omega) ⟨r1, r2⟩⟩, fun z => absurd z (by decide)⟩
  · intro j j1 j2 st G2 g1 g2 g3
    refine sg_House_findWays_17 ⟨fun z => by omega, fun _ => ?_⟩
    refine l_round hB ⟨j1, j2⟩ hd g1 g2 (fun G3 h1 h2 h3 h4 => st G3 h1 h2 ?_)
    have up := zWct_up h3
    by_cases z : ∃ r, (0 ≤ r ∧ r < 12) ∧ zFw b G2 r ≠ zWay A r
    · obtain ⟨r, r1, r2⟩ := z
      have rn : zWay A r ≠ -1 := fun y => by
        by_cases y2 : zFw b G2 r = -1
        · exact r2 (by rw [y, y2])
        · exact (zWay_le hB g2 r1 y2).1 y
      obtain ⟨a, r', w, t1, t2, ⟨d, t3, t4, t5, t6⟩, t7, t8, t9, t10⟩ := zTgt hB hM g2 ((zWay A r).toNat + 1) r r1.1 r1.2 rn (by omega) r2
      have dn := h4 d t3.1 t3.2 t4
      have : zFw b G3 r' = zWay A r' := by
        rcases t6 with ⟨s1, s2⟩ | ⟨s1, s2⟩
        · have := dn.1 (by rw [s1]; exact t7) (by rw [s1]; exact t8) (by rw [s1, s2, t5]; exact t9)
          rw [s2] at this
          exact this
        · have := dn.2 (by rw [s1]; exact t7) (by rw [s1]; exact t8) (by rw [s1, s2, t5]; exact t9)
          rw [s2] at this
          exact this
      have := up.2 r' t1.1 t1.2 t10 this
      omega
    · have : 12 ≤ zWct A (zFw b G2) := zWct_f (fun r r1 r2 => Classical.byContradiction (fun y => z ⟨r, ⟨r1, r2⟩, y⟩))
      omega
