/-! THE CLASS, 5: a thing's seals -/
set_option maxRecDepth 20000 in
set_option maxHeartbeats 4000000 in
theorem sg_Thing_makeRoomAt_0 {e : gE} {b : Nat} {m : Int} {Z : Int → gH → Prop} {kc ks : Nat} {G : gH} {a0 p1 : Int} (t0 : G 0 a0 0 = 10) (h : (inI (p1 + 3)) ∧ ((100 ≤ G 0 (G 604 a0 0) 0 ∧ G 0 (G 604 a0 0) 0 ≤ 105) ∧ (((p1 + 3) ≤ (G 0 (G 604 a0 0) 1) → Z 0 G) ∧ ((G 0 (G 604 a0 0) 1) < (p1 + 3) → (inI ((G 0 (G 604 a0 0) 1) * 2)) ∧ (∃ kc8 ks9 mc10 ms11 : Nat, kc = kc8 + mc10 ∧ ks = ks9 + ms11 ∧ GX e b m m_Arrays_copyOf_a [(2, (G 604 a0 0)), (0, ((G 0 (G 604 a0 0) 1) * 2))] G mc10 ms11 (fun v6 G7 => (G7 0 a0 0 = 10) ∧ (((b : Int) < a0) ∧ (∀ G14 : gH, G14 = gU G7 604 a0 0 v6 → Z 0 G14)))))))) : EX e b m m_Thing_makeRoomAt Z kc ks 0 [(2, a0), (0, p1)] [] G := by
  refine e_iload_n d_Thing_makeRoomAt_0 rfl ?_
  refine e_iconst d_Thing_makeRoomAt_1 (by decide) ?_
  obtain ⟨o1, h⟩ := h
  refine e_iadd d_Thing_makeRoomAt_2 o1 ?_
  refine e_aload_n d_Thing_makeRoomAt_3 rfl ?_
  refine gf_Thing_39 d_Thing_makeRoomAt_4 rfl t0 ?_
  obtain ⟨o2, h⟩ := h
  refine e_alen d_Thing_makeRoomAt_7 o2 ?_
  refine e_icmp_le (tgt := 29) d_Thing_makeRoomAt_8 (by decide) (fun q3 => ?_) (fun q4 => ?_)
  · have h := h.1 q3
    exact e_vret d_Thing_makeRoomAt_29 rfl h
  · have h := h.2 q4
    refine e_aload_n d_Thing_makeRoomAt_11 rfl ?_
    refine e_aload_n d_Thing_makeRoomAt_12 rfl ?_
    refine gf_Thing_39 d_Thing_makeRoomAt_13 rfl t0 ?_
    refine e_aload_n d_Thing_makeRoomAt_16 rfl ?_
    refine gf_Thing_39 d_Thing_makeRoomAt_17 rfl t0 ?_
    refine e_alen d_Thing_makeRoomAt_20 o2 ?_
    refine e_iconst d_Thing_makeRoomAt_21 (by decide) ?_
    obtain ⟨o5, h⟩ := h
    refine e_imul d_Thing_makeRoomAt_22 o5 ?_
    obtain ⟨kc8, ks9, mc10, ms11, hkc8, hks9, h⟩ := h
    refine e_callS m_Arrays_copyOf_a lw_good d_Thing_makeRoomAt_23 (k_Arrays_copyOf_a _) ⟨Nat.le_of_ble_eq_true rfl, Nat.le_of_ble_eq_true rfl⟩ w_973 w_974 (args := [(2, (G 604 a0 0)), (0, ((G 0 (G 604 a0 0) 1) * 2))]) rfl rfl (Nat.le_of_ble_eq_true rfl) (kc' := kc8) (ks' := ks9) (mc := mc10) (ms := ms11) hkc8 hks9 h ?_
    intro v6 G7 h
    obtain ⟨o12, o13, h⟩ := h
    refine gp_Thing_39 d_Thing_makeRoomAt_26 rfl o12 o13 (fx_U (by decide)) ?_
    let G14 : gH := gU G7 604 a0 0 v6
    have h := h G14 rfl
    exact e_vret d_Thing_makeRoomAt_29 rfl h
set_option maxRecDepth 20000 in
set_option maxHeartbeats 4000000 in
theorem sg_Thing_goTo_0 {e : gE} {b : Nat} {m : Int} {Z : Int → gH → Prop} {kc ks : Nat} {G : gH} {a0 p1 p2 : Int} (t0 : G 0 a0 0 = 10) (h : (inI ((G 605 a0 0) * 3)) ∧ ((1024 ≤ (G 605 a0 0) → (inI (((G 605 a0 0) * 3) + 3)) ∧ ((100 ≤ G 0 (G 604 a0 0) 0 ∧ G 0 (G 604 a0 0) 0 ≤ 105) ∧ (((G 0 (G 604 a0 0) 1) < (((G 605 a0 0) * 3) + 3) → ((b : Int) < a0) ∧ (∀ G56 : gH, G56 = gU G 598 a0 0 p1 → Z 0 G56)) ∧ ((((G 605 a0 0) * 3) + 3) ≤ (G 0 (G 604 a0 0) 1) → (G 0 (G 604 a0 0) 0 = 100) ∧ ((0 ≤ ((G 605 a0 0) * 3)) ∧ ((((G 605 a0 0) * 3) < G 0 (G 604 a0 0) 1) ∧ (((b : Int) < (G 604 a0 0)) ∧ (∀ G42 : gH, G42 = gU G 1 (G 604 a0 0) ((G 605 a0 0) * 3) p2 → (inI (((G 605 a0 0) * 3) + 1)) ∧ ((0 ≤ (((G 605 a0 0) * 3) + 1)) ∧ (((((G 605 a0 0) * 3) + 1) < G 0 (G 604 a0 0) 1) ∧ (∀ G46 : gH, G46 = gU G42 1 (G 604 a0 0) (((G 605 a0 0) * 3) + 1) (G 598 a0 0) → (inI (((G 605 a0 0) * 3) + 2)) ∧ ((0 ≤ (((G 605 a0 0) * 3) + 2)) ∧ (((((G 605 a0 0) * 3) + 2) < G 0 (G 604 a0 0) 1) ∧ (∀ G50 : gH, G50 = gU G46 1 (G 604 a0 0) (((G 605 a0 0) * 3) + 2) p1 → (inI ((G 605 a0 0) + 1)) ∧ (((b : Int) < a0) ∧ (∀ G53 : gH, G53 = gU G50 605 a0 0 ((G 605 a0 0) + 1) → ∀ G54 : gH, G54 = gU G53 598 a0 0 p1 → Z 0 G54)))))))))))))))) ∧ ((G 605 a0 0) < 1024 → ∃ kc6 ks7 mc8 ms9 : Nat, kc = kc6 + mc8 ∧ ks = ks7 + ms9 ∧ GX e b m m_Thing_makeRoomAt [(2, a0), (0, ((G 605 a0 0) * 3))] G mc8 ms9 (fun _ G5 => (inI (((G 605 a0 0) * 3) + 3)) ∧ ((G5 0 a0 0 = 10) ∧ ((100 ≤ G5 0 (G5 604 a0 0) 0 ∧ G5 0 (G5 604 a0 0) 0 ≤ 105) ∧ (((G5 0 (G5 604 a0 0) 1) < (((G 605 a0 0) * 3) + 3) → ((b : Int) < a0) ∧ (∀ G33 : gH, G33 = gU G5 598 a0 0 p1 → Z 0 G33)) ∧ ((((G 605 a0 0) * 3) + 3) ≤ (G5 0 (G5 604 a0 0) 1) → (G5 0 (G5 604 a0 0) 0 = 100) ∧ ((0 ≤ ((G 605 a0 0) * 3)) ∧ ((((G 605 a0 0) * 3) < G5 0 (G5 604 a0 0) 1) ∧ (((b : Int) < (G5 604 a0 0)) ∧ (∀ G19 : gH, G19 = gU G5 1 (G5 604 a0 0) ((G 605 a0 0) * 3) p2 → (inI (((G 605 a0 0) * 3) + 1)) ∧ ((0 ≤ (((G 605 a0 0) * 3) + 1)) ∧ (((((G 605 a0 0) * 3) + 1) < G5 0 (G5 604 a0 0) 1) ∧ (∀ G23 : gH, G23 = gU G19 1 (G5 604 a0 0) (((G 605 a0 0) * 3) + 1) (G5 598 a0 0) → (inI (((G 605 a0 0) * 3) + 2)) ∧ ((0 ≤ (((G 605 a0 0) * 3) + 2)) ∧ (((((G 605 a0 0) * 3) + 2) < G5 0 (G5 604 a0 0) 1) ∧ (∀ G27 : gH, G27 = gU G23 1 (G5 604 a0 0) (((G 605 a0 0) * 3) + 2) p1 → (inI ((G5 605 a0 0) + 1)) ∧ (((b : Int) < a0) ∧ (∀ G30 : gH, G30 = gU G27 605 a0 0 ((G5 605 a0 0) + 1) → ∀ G31 : gH, G31 = gU G30 598 a0 0 p1 → Z 0 G31)))))))))))))))))))) : EX e b m m_Thing_goTo Z kc ks 0 [(2, a0), (0, p1), (0, p2), (9, 0)] [] G := by
  refine e_aload_n d_Thing_goTo_0 rfl ?_
  refine gf_Thing_59 d_Thing_goTo_1 rfl t0 ?_
  refine e_iconst d_Thing_goTo_4 (by decide) ?_
  obtain ⟨o1, h⟩ := h
  refine e_imul d_Thing_goTo_5 o1 ?_
  refine e_istore_n (ls' := [(2, a0), (0, p1), (0, p2), (0, ((G 605 a0 0) * 3))]) d_Thing_goTo_6 (by decide) rfl ?_
  refine e_aload_n d_Thing_goTo_7 rfl ?_
  refine gf_Thing_59 d_Thing_goTo_8 rfl t0 ?_
  refine e_sipush d_Thing_goTo_11 (by decide) (by decide) ?_
  refine e_icmp_ge (tgt := 22) d_Thing_goTo_14 (by decide) (fun q2 => ?_) (fun q3 => ?_)
  · have h := h.1 q2
    refine e_iload_n d_Thing_goTo_22 rfl ?_
    refine e_iconst d_Thing_goTo_23 (by decide) ?_
    obtain ⟨o34, h⟩ := h
    refine e_iadd d_Thing_goTo_24 o34 ?_
    refine e_aload_n d_Thing_goTo_25 rfl ?_
    refine gf_Thing_39 d_Thing_goTo_26 rfl t0 ?_
    obtain ⟨o35, h⟩ := h
    refine e_alen d_Thing_goTo_29 o35 ?_
    refine e_icmp_gt (tgt := 71) d_Thing_goTo_30 (by decide) (fun q36 => ?_) (fun q37 => ?_)
    · have h := h.1 q36
      refine e_aload_n d_Thing_goTo_71 rfl ?_
      refine e_iload_n d_Thing_goTo_72 rfl ?_
      obtain ⟨o55, h⟩ := h
      refine gp_Thing_30 d_Thing_goTo_73 rfl t0 o55 (fx_U (by decide)) ?_
      let G56 : gH := gU G 598 a0 0 p1
      have h := h G56 rfl
      exact e_vret d_Thing_goTo_76 rfl h
    · have h := h.2 q37
      refine e_aload_n d_Thing_goTo_33 rfl ?_
      refine gf_Thing_39 d_Thing_goTo_34 rfl t0 ?_
      refine e_iload_n d_Thing_goTo_37 rfl ?_
      refine e_iload_n d_Thing_goTo_38 rfl ?_
      obtain ⟨o38, o39, o40, o41, h⟩ := h
      refine e_iast d_Thing_goTo_39 o38 o39 o40 o41 (fx_U (by decide)) ?_
      let G42 : gH := gU G 1 (G 604 a0 0) ((G 605 a0 0) * 3) p2
      have h := h G42 rfl
      refine e_aload_n d_Thing_goTo_40 rfl ?_
      refine gf_Thing_39 d_Thing_goTo_41 rfl t0 ?_
      refine e_iload_n d_Thing_goTo_44 rfl ?_
      refine e_iconst d_Thing_goTo_45 (by decide) ?_
      obtain ⟨o43, h⟩ := h
      refine e_iadd d_Thing_goTo_46 o43 ?_
      refine e_aload_n d_Thing_goTo_47 rfl ?_
      refine gf_Thing_30 d_Thing_goTo_48 rfl t0 ?_
      obtain ⟨o44, o45, h⟩ := h
      refine e_iast d_Thing_goTo_51 o38 o44 o45 o41 (fx_U (by decide)) ?_
      let G46 : gH := gU G42 1 (G 604 a0 0) (((G 605 a0 0) * 3) + 1) (G 598 a0 0)
      have h := h G46 rfl
      refine e_aload_n d_Thing_goTo_52 rfl ?_
      refine gf_Thing_39 d_Thing_goTo_53 rfl t0 ?_
      refine e_iload_n d_Thing_goTo_56 rfl ?_
      refine e_iconst d_Thing_goTo_57 (by decide) ?_
      obtain ⟨o47, h⟩ := h
      refine e_iadd d_Thing_goTo_58 o47 ?_
      refine e_iload_n d_Thing_goTo_59 rfl ?_
      obtain ⟨o48, o49, h⟩ := h
      refine e_iast d_Thing_goTo_60 o38 o48 o49 o41 (fx_U (by decide)) ?_
      let G50 : gH := gU G46 1 (G 604 a0 0) (((G 605 a0 0) * 3) + 2) p1
      have h := h G50 rfl
      refine e_aload_n d_Thing_goTo_61 rfl ?_
      refine e_dup d_Thing_goTo_62 (by simp) ?_
      refine gf_Thing_59 d_Thing_goTo_63 rfl t0 ?_
      refine e_iconst d_Thing_goTo_66 (by decide) ?_
      obtain ⟨o51, h⟩ := h
      refine e_iadd d_Thing_goTo_67 o51 ?_
      obtain ⟨o52, h⟩ := h
      refine gp_Thing_59 d_Thing_goTo_68 rfl t0 o52 (fx_U (by decide)) ?_
      let G53 : gH := gU G50 605 a0 0 ((G 605 a0 0) + 1)
      have h := h G53 rfl
      refine e_aload_n d_Thing_goTo_71 rfl ?_
      refine e_iload_n d_Thing_goTo_72 rfl ?_
      refine gp_Thing_30 d_Thing_goTo_73 rfl t0 o52 (fx_U (by decide)) ?_
      let G54 : gH := gU G53 598 a0 0 p1
      have h := h G54 rfl
      exact e_vret d_Thing_goTo_76 rfl h
  · have h := h.2 q3
    refine e_aload_n d_Thing_goTo_17 rfl ?_
    refine e_iload_n d_Thing_goTo_18 rfl ?_
    obtain ⟨kc6, ks7, mc8, ms9, hkc6, hks7, h⟩ := h
    refine e_callV m_Thing_makeRoomAt 9 lw_good d_Thing_goTo_19 (k_Thing_makeRoomAt _) ⟨Nat.le_of_ble_eq_true rfl, Nat.le_of_ble_eq_true rfl⟩ w_969 w_971 w_s28 (q_Thing _) rfl t0 (args := [(0, ((G 605 a0 0) * 3))]) rfl rfl (Nat.le_of_ble_eq_true rfl) (kc' := kc6) (ks' := ks7) (mc := mc8) (ms := ms9) hkc6 hks7 h ?_
    intro v4 G5 h
    refine e_iload_n d_Thing_goTo_22 rfl ?_
    refine e_iconst d_Thing_goTo_23 (by decide) ?_
    obtain ⟨o10, h⟩ := h
    refine e_iadd d_Thing_goTo_24 o10 ?_
    refine e_aload_n d_Thing_goTo_25 rfl ?_
    obtain ⟨o11, h⟩ := h
    refine gf_Thing_39 d_Thing_goTo_26 rfl o11 ?_
    obtain ⟨o12, h⟩ := h
    refine e_alen d_Thing_goTo_29 o12 ?_
    refine e_icmp_gt (tgt := 71) d_Thing_goTo_30 (by decide) (fun q13 => ?_) (fun q14 => ?_)
    · have h := h.1 q13
      refine e_aload_n d_Thing_goTo_71 rfl ?_
      refine e_iload_n d_Thing_goTo_72 rfl ?_
      obtain ⟨o32, h⟩ := h
      refine gp_Thing_30 d_Thing_goTo_73 rfl o11 o32 (fx_U (by decide)) ?_
      let G33 : gH := gU G5 598 a0 0 p1
      have h := h G33 rfl
      exact e_vret d_Thing_goTo_76 rfl h
    · have h := h.2 q14
      refine e_aload_n d_Thing_goTo_33 rfl ?_
      refine gf_Thing_39 d_Thing_goTo_34 rfl o11 ?_
      refine e_iload_n d_Thing_goTo_37 rfl ?_
      refine e_iload_n d_Thing_goTo_38 rfl ?_
      obtain ⟨o15, o16, o17, o18, h⟩ := h
      refine e_iast d_Thing_goTo_39 o15 o16 o17 o18 (fx_U (by decide)) ?_
      let G19 : gH := gU G5 1 (G5 604 a0 0) ((G 605 a0 0) * 3) p2
      have h := h G19 rfl
      refine e_aload_n d_Thing_goTo_40 rfl ?_
      refine gf_Thing_39 d_Thing_goTo_41 rfl o11 ?_
      refine e_iload_n d_Thing_goTo_44 rfl ?_
      refine e_iconst d_Thing_goTo_45 (by decide) ?_
      obtain ⟨o20, h⟩ := h
      refine e_iadd d_Thing_goTo_46 o20 ?_
      refine e_aload_n d_Thing_goTo_47 rfl ?_
      refine gf_Thing_30 d_Thing_goTo_48 rfl o11 ?_
      obtain ⟨o21, o22, h⟩ := h
      refine e_iast d_Thing_goTo_51 o15 o21 o22 o18 (fx_U (by decide)) ?_
      let G23 : gH := gU G19 1 (G5 604 a0 0) (((G 605 a0 0) * 3) + 1) (G5 598 a0 0)
      have h := h G23 rfl
      refine e_aload_n d_Thing_goTo_52 rfl ?_
      refine gf_Thing_39 d_Thing_goTo_53 rfl o11 ?_
      refine e_iload_n d_Thing_goTo_56 rfl ?_
      refine e_iconst d_Thing_goTo_57 (by decide) ?_
      obtain ⟨o24, h⟩ := h
      refine e_iadd d_Thing_goTo_58 o24 ?_
      refine e_iload_n d_Thing_goTo_59 rfl ?_
      obtain ⟨o25, o26, h⟩ := h
      refine e_iast d_Thing_goTo_60 o15 o25 o26 o18 (fx_U (by decide)) ?_
      let G27 : gH := gU G23 1 (G5 604 a0 0) (((G 605 a0 0) * 3) + 2) p1
      have h := h G27 rfl
      refine e_aload_n d_Thing_goTo_61 rfl ?_
      refine e_dup d_Thing_goTo_62 (by simp) ?_
      refine gf_Thing_59 d_Thing_goTo_63 rfl o11 ?_
      refine e_iconst d_Thing_goTo_66 (by decide) ?_
      obtain ⟨o28, h⟩ := h
      refine e_iadd d_Thing_goTo_67 o28 ?_
      obtain ⟨o29, h⟩ := h
      refine gp_Thing_59 d_Thing_goTo_68 rfl o11 o29 (fx_U (by decide)) ?_
      let G30 : gH := gU G27 605 a0 0 ((G5 605 a0 0) + 1)
      have h := h G30 rfl
      refine e_aload_n d_Thing_goTo_71 rfl ?_
      refine e_iload_n d_Thing_goTo_72 rfl ?_
      refine gp_Thing_30 d_Thing_goTo_73 rfl o11 o29 (fx_U (by decide)) ?_
      let G31 : gH := gU G30 598 a0 0 p1
      have h := h G31 rfl
      exact e_vret d_Thing_goTo_76 rfl h
/-- the length of the numbers of so many seals -/
def zSL (c : Int) : Int := if c ≤ 4 then 12 else if c ≤ 8 then 24 else if c ≤ 16 then 48 else if c ≤ 32 then 96 else if c ≤ 64 then 192 else if c ≤ 128 then 384 else if c ≤ 256 then 768 else if c ≤ 512 then 1536 else 3072
theorem zSL_b (c : Int) (h : c ≤ 1024) : 3 * c ≤ zSL c ∧ 12 ≤ zSL c ∧ zSL c ≤ 3072 := by
  unfold zSL
  (repeat' split) <;> omega
theorem zSL_s {c : Int} (h : 0 ≤ c ∧ c < 1024) : zSL (c + 1) = if 3 * c + 3 ≤ zSL c then zSL c else 2 * zSL c := by
  have k : ∀ q : Fin 1024, zSL ((q.val : Int) + 1) = if 3 * (q.val : Int) + 3 ≤ zSL (q.val : Int) then zSL (q.val : Int) else 2 * zSL (q.val : Int) := by decide +kernel
  have := k ⟨c.toNat, by omega⟩
  rw [show ((c.toNat : Nat) : Int) = c from by omega] at this
  exact this
theorem zSL_m {c : Int} (h : 0 ≤ c ∧ c < 1024) : zSL c ≤ zSL (c + 1) := by
  have := zSL_b c (by omega)
  rw [zSL_s h]
  split <;> omega
/-- what room for one more seal is to be -/
def zSr (m a s L x : Int) (G G1 : gH) : Prop := ∃ s', G1 604 a 0 = s' ∧ m + 45 < s' ∧ ((s' = s ∧ x ≤ L) ∨ (s' = G 9 0 0 ∧ L < x)) ∧ G1 0 s' 0 = 100 ∧ G1 0 s' 1 = (if x ≤ L then L else 2 * L) ∧ (∀ j, 0 ≤ j → j < L → G1 1 s' j = G 1 s j) ∧ G 9 0 0 ≤ G1 9 0 0 ∧ ∀ (c : Nat) (i j : Int), c ≠ 9 → i < G 9 0 0 → ¬ (c = 604 ∧ i = a) → G1 c i j = G c i j
theorem c_Thing_makeRoomAt {e : gE} {b : Nat} {m : Int} {G : gH} {a x : Int} (h : G 0 a 0 = 10) (hs : G 0 (G 604 a 0) 0 = 100) (hm : m + 45 < a ∧ m + 45 < G 604 a 0) (hx : 0 ≤ x ∧ x ≤ 3072) (hL : 12 ≤ G 0 (G 604 a 0) 1 ∧ G 0 (G 604 a 0) 1 ≤ 3072) : GX e b m m_Thing_makeRoomAt [(2, a), (0, x)] G 1 (if x + 3 ≤ G 0 (G 604 a 0) 1 then 0 else (2 * G 0 (G 604 a 0) 1).toNat) (fun _ G1 => zSr m a (G 604 a 0) (G 0 (G 604 a 0) 1) (x + 3) G G1) := by
  refine GM.tg fun hT => GM.inv fun hF => ?_
  have hpa := hT a (by rw [h]; decide)
  have hps := hT (G 604 a 0) (by rw [hs]; decide)
  have hlo := fx_lo hF
  refine GM.ofEV (by decide) (Nat.le_of_ble_eq_true rfl) (sg_Thing_makeRoomAt_0 h ⟨by omega, by omega, fun q => ?_, fun q => ⟨by omega, ?_⟩⟩)
  · exact ⟨_, rfl, hm.2, Or.inl ⟨rfl, q⟩, hs, by rw [if_pos q], fun _ _ _ => rfl, Int.le_refl _, fun _ _ _ _ _ _ => rfl⟩
  · rw [if_neg (by omega)]
    refine ⟨0, 0, 1, (2 * G 0 (G 604 a 0) 1).toNat, by omega, by omega, ?_⟩
    have w := c_Arrays_copyOf_a (e := e) (b := b) (m := m) (p1 := G 0 (G 604 a 0) 1 * 2) hs (by omega)
    rw [show (G 0 (G 604 a 0) 1 * 2).toNat = (2 * G 0 (G 604 a 0) 1).toNat from by omega] at w
    refine GM.mono w ?_
    rintro v G1 ⟨rfl, rfl⟩
    have o : ∀ (c : Nat) (i j : Int), c ≠ 9 → i ≠ G 9 0 0 → gCp (gN G 100 (G 0 (G 604 a 0) 1 * 2)) 1 (G 604 a 0) 0 (G 9 0 0) 0 (G 0 (G 604 a 0) 1) c i j = G c i j := fun c i j c1 c2 => by
      unfold gCp
      rw [if_neg (by omega), gN_old c2 c1]
    refine ⟨by rw [o _ _ _ (by decide) (by omega)]; exact h, by omega, ?_⟩
    rintro _ rfl
    refine ⟨G 9 0 0, gU_eq, by omega, Or.inr ⟨rfl, q⟩, ?_, ?_, fun j j1 j2 => ?_, ?_, fun c i j c1 c2 c3 => ?_⟩
    · rw [gU_c _ (by decide)]
      unfold gCp
      rw [if_neg (by omega), gN_tag]
    · rw [gU_c _ (by decide), if_neg (by omega)]
      unfold gCp
      rw [if_neg (by omega), gN_len]
      omega
    · rw [gU_c _ (by decide)]
      unfold gCp
      rw [if_pos ⟨rfl, rfl, j1, by omega⟩, gN_old (by omega) (by decide), show 0 + (j - 0) = j from by omega]
    · rw [gU_c _ (by decide)]
      unfold gCp
      rw [if_neg (by omega), gN_nxt]
      omega
    · rw [gU_ne (by omega), o c i j c1 (by omega)]
/-- what a thing's going does -/
def zGt (m a w t : Int) (G G1 : gH) : Prop := ∃ s', G1 604 a 0 = s' ∧ m + 45 < s' ∧ (s' = G 604 a 0 ∨ s' = G 9 0 0) ∧ G1 0 s' 0 = 100 ∧ G1 0 s' 1 = (if 3 * G 605 a 0 + 3 ≤ G 0 (G 604 a 0) 1 then G 0 (G 604 a 0) 1 else 2 * G 0 (G 604 a 0) 1) ∧ (∀ j, 0 ≤ j → j < 3 * G 605 a 0 → G1 1 s' j = G 1 (G 604 a 0) j) ∧ (G1 1 s' (3 * G 605 a 0) = t ∧ G1 1 s' (3 * G 605 a 0 + 1) = G 598 a 0 ∧ G1 1 s' (3 * G 605 a 0 + 2) = w) ∧ (G1 605 a 0 = G 605 a 0 + 1 ∧ G1 598 a 0 = w) ∧ G 9 0 0 ≤ G1 9 0 0 ∧ ∀ (c : Nat) (i j : Int), c ≠ 9 → i < G 9 0 0 → ¬ (i = a ∧ (c = 598 ∨ c = 604 ∨ c = 605)) → ¬ (c = 1 ∧ i = G 604 a 0) → G1 c i j = G c i j
theorem c_Thing_goTo {e : gE} {b : Nat} {m : Int} {G : gH} {a w t : Int} (h : G 0 a 0 = 10) (hs : G 0 (G 604 a 0) 0 = 100) (hm : m + 45 < a ∧ m + 45 < G 604 a 0) (hc : 0 ≤ G 605 a 0 ∧ G 605 a 0 < 1024) (hL : 12 ≤ G 0 (G 604 a 0) 1 ∧ G 0 (G 604 a 0) 1 ≤ 3072 ∧ 3 * G 605 a 0 ≤ G 0 (G 604 a 0) 1) : GX e b m m_Thing_goTo [(2, a), (0, w), (0, t)] G 1 (if 3 * G 605 a 0 + 3 ≤ G 0 (G 604 a 0) 1 then 0 else (2 * G 0 (G 604 a 0) 1).toNat) (fun _ G1 => zGt m a w t G G1) := by
  refine GM.tg fun hT => GM.inv fun hF => ?_
  have hpa := hT a (by rw [h]; decide)
  have hps := hT (G 604 a 0) (by rw [hs]; decide)
  have hlo := fx_lo hF
  refine GM.ofEV (by decide) (Nat.le_of_ble_eq_true rfl) (sg_Thing_goTo_0 h ⟨by omega, fun q => absurd q (by omega), fun _ => ?_⟩)
  rw [show G 605 a 0 * 3 = 3 * G 605 a 0 from by omega]
  have wr := c_Thing_makeRoomAt (e := e) (b := b) (m := m) (x := 3 * G 605 a 0) h hs hm (by omega) ⟨hL.1, hL.2.1⟩
  refine ⟨0, 0, 1, _, by omega, by rw [Nat.zero_add], ?_⟩
  refine GM.mono wr ?_
  rintro v G5 ⟨s', r1, r2, r3, r4, r5, r6, r7, r8⟩
  have t5 : G5 0 a 0 = 10 := by rw [r8 _ _ _ (by decide) (by omega) (by omega)]; exact h
  have c5 : G5 605 a 0 = G 605 a 0 := r8 _ _ _ (by decide) (by omega) (by omega)
  have w5 : G5 598 a 0 = G 598 a 0 := r8 _ _ _ (by decide) (by omega) (by omega)
  have L5 : 3 * G 605 a 0 + 3 ≤ G5 0 s' 1 := by rw [r5]; split <;> omega
  rw [r1, c5, w5]
  refine ⟨by omega, t5, by omega, fun q => absurd q (by omega), fun _ => ⟨r4, by omega, by omega, by omega, ?_⟩⟩
  rintro _ rfl
  refine ⟨by omega, by omega, by omega, ?_⟩
  rintro _ rfl
  refine ⟨by omega, by omega, by omega, ?_⟩
  rintro _ rfl
  refine ⟨by omega, by omega, ?_⟩
  rintro _ rfl _ rfl
  have o : ∀ (c : Nat) (i j : Int), ¬ (i = a ∧ (c = 598 ∨ c = 605)) → ¬ (c = 1 ∧ i = s' ∧ (j = 3 * G 605 a 0 ∨ j = 3 * G 605 a 0 + 1 ∨ j = 3 * G 605 a 0 + 2)) → gU (gU (gU (gU (gU G5 1 s' (3 * G 605 a 0) t) 1 s' (3 * G 605 a 0 + 1) (G 598 a 0)) 1 s' (3 * G 605 a 0 + 2) w) 605 a 0 (G 605 a 0 + 1)) 598 a 0 w c i j = G5 c i j := fun c i j c1 c2 => by rw [gU_ne (by omega), gU_ne (by omega), gU_ne (by omega), gU_ne (by omega), gU_ne (by omega)]
  refine ⟨s', ?_, r2, r3.imp (fun z => z.1) (fun z => z.1), ?_, ?_, fun j j1 j2 => ?_, ⟨?_, ?_, ?_⟩, ⟨?_, gU_eq⟩, ?_, fun c i j c1 c2 c3 c4 => ?_⟩
  · rw [o _ a 0 (by omega) (by omega)]; exact r1
  · rw [o 0 s' 0 (by omega) (by omega)]; exact r4
  · rw [o 0 s' 1 (by omega) (by omega), r5]
  · rw [o 1 s' j (by omega) (by omega)]; exact r6 j j1 (by omega)
  · rw [gU_c _ (by decide), gU_c _ (by decide), gU_j (by omega), gU_j (by omega), gU_eq]
  · rw [gU_c _ (by decide), gU_c _ (by decide), gU_j (by omega), gU_eq]
  · rw [gU_c _ (by decide), gU_c _ (by decide), gU_eq]
  · rw [gU_c _ (by decide), gU_eq]
  · rw [o 9 0 0 (by omega) (by omega)]; exact r7
  · rw [o c i j (by omega) (by omega), r8 c i j c1 c2 (by omega)]
