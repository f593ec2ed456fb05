/-! THE CLASS, 2: lists that grow -/
set_option maxRecDepth 20000 in
set_option maxHeartbeats 4000000 in
theorem sg_AS_newLength_0 {e : gE} {b : Nat} {m : Int} {Z : Int → gH → Prop} {kc ks : Nat} {G : gH} {p0 p1 p2 : Int} (h : ((inI (p0 + (if p1 < p2 then p2 else p1))) ∧ (0 < (p0 + (if p1 < p2 then p2 else p1)) → ((p0 + (if p1 < p2 then p2 else p1)) ≤ 2147483639 → Z (p0 + (if p1 < p2 then p2 else p1)) G))) ∧ (((p0 + (if p1 < p2 then p2 else p1)) ≤ 0 ∨ (0 < (p0 + (if p1 < p2 then p2 else p1)) ∧ 2147483639 < (p0 + (if p1 < p2 then p2 else p1)))) → GX e b m m_AS_hugeLength [(0, p0), (0, p1)] G 0 0 (fun v7 G8 => Z v7 G8))) : EX e b m m_AS_newLength Z kc ks 0 [(0, p0), (0, p1), (0, p2), (9, 0)] [] G := by
  obtain ⟨h, hJ6⟩ := h
  have kJ6 : ((p0 + (if p1 < p2 then p2 else p1)) ≤ 0 ∨ (0 < (p0 + (if p1 < p2 then p2 else p1)) ∧ 2147483639 < (p0 + (if p1 < p2 then p2 else p1)))) → EX e b m m_AS_newLength Z kc ks 21 [(0, p0), (0, p1), (0, p2), (0, (p0 + (if p1 < p2 then p2 else p1)))] [] G := by
    intro rJ6
    have h := hJ6 rJ6
    refine e_iload_n d_AS_newLength_21 rfl ?_
    refine e_iload_n d_AS_newLength_22 rfl ?_
    refine e_callS m_AS_hugeLength lw_good d_AS_newLength_23 (k_AS_hugeLength _) ⟨Nat.le_of_ble_eq_true rfl, Nat.le_of_ble_eq_true rfl⟩ w_376 w_377 (args := [(0, p0), (0, p1)]) rfl rfl (Nat.le_of_ble_eq_true rfl) (kc' := kc) (ks' := ks) (mc := 0) (ms := 0) rfl rfl h ?_
    intro v7 G8 h
    exact e_iret d_AS_newLength_26 rfl h
  refine e_iload_n d_AS_newLength_0 rfl ?_
  refine e_iload_n d_AS_newLength_1 rfl ?_
  refine e_iload_n d_AS_newLength_2 rfl ?_
  refine e_callS m_Math_max_a lw_good d_AS_newLength_3 (k_Math_max_a _) ⟨Nat.le_of_ble_eq_true rfl, Nat.le_of_ble_eq_true rfl⟩ w_372 w_373 (args := [(0, p1), (0, p2)]) rfl rfl (Nat.le_of_ble_eq_true rfl) (kc' := kc) (ks' := ks) (mc := 0) (ms := 0) rfl rfl (c_Math_max_a) (pureK ?_)
  obtain ⟨o1, h⟩ := h
  refine e_iadd d_AS_newLength_6 o1 ?_
  refine e_istore_n (ls' := [(0, p0), (0, p1), (0, p2), (0, (p0 + (if p1 < p2 then p2 else p1)))]) d_AS_newLength_7 (by decide) rfl ?_
  refine e_iconst d_AS_newLength_8 (by decide) ?_
  refine e_iload_n d_AS_newLength_9 rfl ?_
  refine e_icmp_ge (tgt := 21) d_AS_newLength_10 (by decide) (fun q2 => ?_) (fun q3 => ?_)
  · exact kJ6 (Or.inl q2)
  · have h := h q3
    refine e_iload_n d_AS_newLength_13 rfl ?_
    refine e_ldc 2147483639 d_AS_newLength_14 (by decide) w_375 ?_
    refine e_icmp_gt (tgt := 21) d_AS_newLength_16 (by decide) (fun q4 => ?_) (fun q5 => ?_)
    · exact kJ6 (Or.inr ⟨q3, q4⟩)
    · have h := h q5
      refine e_iload_n d_AS_newLength_19 rfl ?_
      exact e_iret d_AS_newLength_20 rfl h
theorem c_AS_newLength {e : gE} {b : Nat} {m : Int} {G : gH} {p0 p1 p2 : Int} (h1 : 0 < p0 + (if p1 < p2 then p2 else p1) ∧ p0 + (if p1 < p2 then p2 else p1) ≤ 100000) : GX e b m m_AS_newLength [(0, p0), (0, p1), (0, p2)] G 0 0 (fun v9 G9 => v9 = (p0 + (if p1 < p2 then p2 else p1) : Int) ∧ G9 = G) := by
  refine GM.ofJ (by decide +kernel) (Nat.le_of_ble_eq_true rfl) (sg_AS_newLength_0 ?_)
  exact ⟨⟨by omega, fun _ _ => ⟨rfl, rfl⟩⟩, fun q => absurd q (by omega)⟩
theorem z_shr1 {x : Int} (h : 0 ≤ x ∧ x ≤ 40) : 0 ≤ gshr x 1 ∧ gshr x 1 ≤ 20 := by
  have k : ∀ q : Fin 41, 0 ≤ gshr (q.val : Int) 1 ∧ gshr (q.val : Int) 1 ≤ 20 := by decide
  have := k ⟨x.toNat, by omega⟩
  rw [show ((x.toNat : Nat) : Int) = x from by omega] at this
  exact this
theorem GM.tg {l : Launch} {B : gB} {M : gM} {args : List gV} {G : gH} {mc ms : Nat} {Z : Int → gH → Prop} (k : (∀ a : Int, G 0 a 0 ≠ 0 → 0 < a ∧ a < G 9 0 0) → GM l B M args G mc ms Z) : GM l B M args G mc ms Z := by
  intro p e ha hc hk s m a below hf happ hp hq
  exact k hp.2.2.1.2.2.2.2.2.2.1 p e ha hc hk s m a below hf happ hp hq
set_option maxRecDepth 20000 in
set_option maxHeartbeats 4000000 in
theorem sg_Arrays_copyOf_c_0 {e : gE} {b : Nat} {m : Int} {Z : Int → gH → Prop} {kc ks : Nat} {G : gH} {p0 p1 p2 : Int} (h : (p2 ≠ ((gn (gX e b m) 17 : Int) + 1) → False) ∧ (p2 = ((gn (gX e b m) 17 : Int) + 1) → ∃ kc3 ks4 : Nat, kc = kc3 + 1 ∧ ks = ks4 + Int.toNat p1 ∧ (0 ≤ (p1 : Int) ∧ (p1 : Int) ≤ 60000000) ∧ (∀ a5 : Int, a5 = G 9 0 0 → ∀ G6 : gH, G6 = gN G 103 p1 → (100 ≤ G6 0 p0 0 ∧ G6 0 p0 0 ≤ 105) ∧ ((G6 0 p0 0 = 103) ∧ ((G6 0 a5 0 = 103) ∧ (((b : Int) < a5) ∧ ((0 ≤ (0 : Int) ∧ 0 ≤ (0 : Int) ∧ 0 ≤ (if p1 < (G6 0 p0 1) then p1 else (G6 0 p0 1)) ∧ 0 + (if p1 < (G6 0 p0 1) then p1 else (G6 0 p0 1)) ≤ G6 0 p0 1 ∧ 0 + (if p1 < (G6 0 p0 1) then p1 else (G6 0 p0 1)) ≤ G6 0 a5 1) ∧ ((∀ k : Int, 0 ≤ k → k < (if p1 < (G6 0 p0 1) then p1 else (G6 0 p0 1)) → gRv (gX e b m) G6 "java/lang/Object" (G6 3 p0 (0 + k))) ∧ (∀ G13 : gH, G13 = gCp G6 3 p0 0 a5 0 (if p1 < (G6 0 p0 1) then p1 else (G6 0 p0 1)) → Z a5 G13))))))))) : EX e b m m_Arrays_copyOf_c Z kc ks 0 [(2, p0), (0, p1), (2, p2), (9, 0)] [] G := by
  refine e_aload_n d_Arrays_copyOf_c_0 rfl ?_
  refine e_ldcM d_Arrays_copyOf_c_1 w_402 ?_
  refine e_acmp_ne (tgt := 13) d_Arrays_copyOf_c_3 (by decide) (fun q1 => ?_) (fun q2 => ?_)
  · have h := h.1 q1
    refine e_aload_n d_Arrays_copyOf_c_13 rfl ?_
    exact h.elim
  · have h := h.2 q2
    refine e_iload_n d_Arrays_copyOf_c_6 rfl ?_
    obtain ⟨kc3, ks4, hkc3, hks4, hna5, h⟩ := h
    refine e_newq 103 "java/lang/Object" d_Arrays_copyOf_c_7 (Or.inl ⟨rfl, rfl⟩) w_404 w_403 hna5.1 (by omega) hkc3 hks4 fx_N ?_
    let a5 : Int := G 9 0 0
    have h := h a5 rfl
    let G6 : gH := gN G 103 p1
    have h := h G6 rfl
    refine e_goto (tgt := 24) d_Arrays_copyOf_c_10 (by decide) ?_
    refine e_astore_n (ls' := [(2, p0), (0, p1), (2, p2), (2, a5)]) d_Arrays_copyOf_c_24 (by decide) rfl ?_
    refine e_aload_n d_Arrays_copyOf_c_25 rfl ?_
    refine e_iconst d_Arrays_copyOf_c_26 (by decide) ?_
    refine e_aload_n d_Arrays_copyOf_c_27 rfl ?_
    refine e_iconst d_Arrays_copyOf_c_28 (by decide) ?_
    refine e_aload_n d_Arrays_copyOf_c_29 rfl ?_
    obtain ⟨o7, h⟩ := h
    refine e_alen d_Arrays_copyOf_c_30 o7 ?_
    refine e_iload_n d_Arrays_copyOf_c_31 rfl ?_
    refine e_callS m_Math_min_a lw_good d_Arrays_copyOf_c_32 (k_Math_min_a _) ⟨Nat.le_of_ble_eq_true rfl, Nat.le_of_ble_eq_true rfl⟩ w_405 w_406 (args := [(0, (G6 0 p0 1)), (0, p1)]) rfl rfl (Nat.le_of_ble_eq_true rfl) (kc' := kc3) (ks' := ks4) (mc := 0) (ms := 0) rfl rfl (c_Math_min_a) (pureK ?_)
    obtain ⟨o8, o9, o10, o11, o12, h⟩ := h
    refine e_copyq d_Arrays_copyOf_c_35 w_408 w_410 w_409 w_17 (by decide) (Nat.le_of_ble_eq_true rfl) (by first | simp | decide | exact Nat.le_of_ble_eq_true rfl) o8 o9 o10 o11.1 o11.2.1 o11.2.2.1 o11.2.2.2.1 o11.2.2.2.2 o12 (fx_Cp (Or.inr ⟨rfl, o9⟩)) ?_
    let G13 : gH := gCp G6 3 p0 0 a5 0 (if p1 < (G6 0 p0 1) then p1 else (G6 0 p0 1))
    have h := h G13 rfl
    refine e_aload_n d_Arrays_copyOf_c_38 rfl ?_
    exact e_aret d_Arrays_copyOf_c_39 (Or.inr ⟨_, rfl⟩) h
set_option maxRecDepth 20000 in
set_option maxHeartbeats 4000000 in
theorem sg_Arrays_copyOf_b_0 {e : gE} {b : Nat} {m : Int} {Z : Int → gH → Prop} {kc ks : Nat} {G : gH} {p0 p1 : Int} (h : (G 0 p0 0 = 103) ∧ ∃ kc4 ks5 mc6 ms7 : Nat, kc = kc4 + mc6 ∧ ks = ks5 + ms7 ∧ GX e b m m_Arrays_copyOf_c [(2, p0), (0, p1), (2, ((gn (gX e b m) 17 : Int) + 1))] G mc6 ms7 (fun v2 G3 => Z v2 G3)) : EX e b m m_Arrays_copyOf_b Z kc ks 0 [(2, p0), (0, p1)] [] G := by
  refine e_aload_n d_Arrays_copyOf_b_0 rfl ?_
  refine e_iload_n d_Arrays_copyOf_b_1 rfl ?_
  refine e_aload_n d_Arrays_copyOf_b_2 rfl ?_
  obtain ⟨o1, h⟩ := h
  refine e_getC d_Arrays_copyOf_b_3 w_382 w_1901 w_1900 w_383 w_398 o1 (by decide) (Nat.le_of_ble_eq_true rfl) (Nat.le_trans (gcat _) (by simp)) ?_
  obtain ⟨kc4, ks5, mc6, ms7, hkc4, hks5, h⟩ := h
  refine e_callS m_Arrays_copyOf_c lw_good d_Arrays_copyOf_b_6 (k_Arrays_copyOf_c _) ⟨Nat.le_of_ble_eq_true rfl, Nat.le_of_ble_eq_true rfl⟩ w_399 w_400 (args := [(2, p0), (0, p1), (2, ((gn (gX e b m) 17 : Int) + 1))]) rfl rfl (Nat.le_of_ble_eq_true rfl) (kc' := kc4) (ks' := ks5) (mc := mc6) (ms := ms7) hkc4 hks5 h ?_
  intro v2 G3 h
  exact e_aret d_Arrays_copyOf_b_9 (Or.inr ⟨_, rfl⟩) h
theorem c_Arrays_copyOf_c {e : gE} {b : Nat} {m : Int} {G : gH} {p0 p1 tg : Int} (gr : ∀ (G : gH) (v : Int), G 0 v 0 = tg → gRv (gX e b m) G "java/lang/Object" v) (ht : tg ≠ 0) (h : G 0 p0 0 = 103) (hn : 0 ≤ G 0 p0 1 ∧ G 0 p0 1 ≤ p1 ∧ p1 ≤ 1000) (hr : ∀ k, 0 ≤ k → k < G 0 p0 1 → G 0 (G 3 p0 k) 0 = tg) : GX e b m m_Arrays_copyOf_c [(2, p0), (0, p1), (2, ((gn (gX e b m) 17 : Int) + 1))] G 1 p1.toNat (fun v G1 => v = G 9 0 0 ∧ G1 = gCp (gN G 103 p1) 3 p0 0 (G 9 0 0) 0 (G 0 p0 1)) := by
  refine GM.tg fun hT => GM.inv fun hF => ?_
  have hp := hT p0 (by rw [h]; decide)
  have hlo := fx_lo hF
  refine GM.ofJ (by decide +kernel) (Nat.le_of_ble_eq_true rfl) (sg_Arrays_copyOf_c_0 ⟨fun q => absurd rfl q, fun _ => ⟨0, 0, by omega, by omega, by omega, ?_⟩⟩)
  rintro _ rfl _ rfl
  have e1 : gN G 103 p1 0 p0 0 = 103 := by rw [gN_old (by omega) (by decide), h]
  have e2 : gN G 103 p1 0 p0 1 = G 0 p0 1 := gN_old (by omega) (by decide)
  rw [e1, e2, gN_tag, gN_len]
  refine ⟨by decide, rfl, rfl, by omega, ?_, fun k k1 k2 => ?_, ?_⟩
  · split <;> omega
  · have k3 : k < G 0 p0 1 := by split at k2 <;> omega
    rw [show 0 + k = k from by omega, gN_old (by omega) (by decide)]
    have w := hr k k1 k3
    have := hT _ (by rw [w]; exact ht)
    exact gr _ _ (by rw [gN_old (by omega) (by decide)]; exact w)
  · rintro _ rfl
    rw [if_neg (by omega)]
    exact ⟨rfl, rfl⟩
theorem c_Arrays_copyOf_b {e : gE} {b : Nat} {m : Int} {G : gH} {p0 p1 tg : Int} (gr : ∀ (G : gH) (v : Int), G 0 v 0 = tg → gRv (gX e b m) G "java/lang/Object" v) (ht : tg ≠ 0) (h : G 0 p0 0 = 103) (hn : 0 ≤ G 0 p0 1 ∧ G 0 p0 1 ≤ p1 ∧ p1 ≤ 1000) (hr : ∀ k, 0 ≤ k → k < G 0 p0 1 → G 0 (G 3 p0 k) 0 = tg) : GX e b m m_Arrays_copyOf_b [(2, p0), (0, p1)] G 1 p1.toNat (fun v G1 => v = G 9 0 0 ∧ G1 = gCp (gN G 103 p1) 3 p0 0 (G 9 0 0) 0 (G 0 p0 1)) :=
  GM.ofJ (by decide +kernel) (Nat.le_of_ble_eq_true rfl) (sg_Arrays_copyOf_b_0 ⟨h, 0, 0, 1, p1.toNat, by omega, by omega, c_Arrays_copyOf_c gr ht h hn hr⟩)
/-- a list of n things of one class -/
def zAL (e : gE) (b : Nat) (m : Int) (G : gH) (a tg n : Int) (f : Int → Int) : Prop := G 0 a 0 = 1 ∧ G 18 a 0 = n ∧ (∀ i, 0 ≤ i → i < n → G 0 (f i) 0 = tg) ∧ ((n = 0 ∧ G 17 a 0 = (gn (gX e b m) 10 : Int) + 1 ∧ G 0 (G 17 a 0) 0 = 105 ∧ G 0 (G 17 a 0) 1 = 0) ∨ (m + 45 < G 17 a 0 ∧ G 0 (G 17 a 0) 0 = 103 ∧ (0 ≤ n ∧ n ≤ G 0 (G 17 a 0) 1 ∧ 1 ≤ G 0 (G 17 a 0) 1 ∧ G 0 (G 17 a 0) 1 ≤ 40) ∧ ∀ i, 0 ≤ i → i < n → G 3 (G 17 a 0) i = f i))
/-- what a list's growth leaves as it was -/
def zGr (m a n : Int) (f : Int → Int) (G : gH) (v : Int) (G1 : gH) : Prop := (v = G 9 0 0 ∧ m + 45 < v) ∧ G1 17 a 0 = v ∧ G1 0 v 0 = 103 ∧ (n < G1 0 v 1 ∧ G1 0 v 1 ≤ 40) ∧ (∀ i, 0 ≤ i → i < n → G1 3 v i = f i) ∧ G1 9 0 0 = v + 1 ∧ ∀ (c : Nat) (i j : Int), c ≠ 9 → i ≠ v → ¬ (c = 17 ∧ i = a) → G1 c i j = G c i j
set_option maxRecDepth 20000 in
set_option maxHeartbeats 4000000 in
theorem sg_AL_grow_b_0 {e : gE} {b : Nat} {m : Int} {Z : Int → gH → Prop} {kc ks : Nat} {G : gH} {a0 p1 : Int} (t0 : G 0 a0 0 = 1) (h : ((100 ≤ G 0 (G 17 a0 0) 0 ∧ G 0 (G 17 a0 0) 0 ≤ 105) ∧ ((G 0 (G 17 a0 0) 1) ≤ 0 → ((G 17 a0 0) = ((gn (gX e b m) 10 : Int) + 1) → ∃ kc6 ks7 : Nat, kc = kc6 + 1 ∧ ks = ks7 + Int.toNat (if 10 < p1 then p1 else 10) ∧ (0 ≤ ((if 10 < p1 then p1 else 10) : Int) ∧ ((if 10 < p1 then p1 else 10) : Int) ≤ 60000000) ∧ (∀ a8 : Int, a8 = G 9 0 0 → ∀ G9 : gH, G9 = gN G 103 (if 10 < p1 then p1 else 10) → (G9 0 a0 0 = 1) ∧ (((b : Int) < a0) ∧ (∀ G12 : gH, G12 = gU G9 17 a0 0 a8 → Z a8 G12)))))) ∧ ((0 < (G 0 (G 17 a0 0) 1) ∨ ((G 0 (G 17 a0 0) 1) ≤ 0 ∧ (G 17 a0 0) ≠ ((gn (gX e b m) 10 : Int) + 1))) → (inI (p1 - (G 0 (G 17 a0 0) 1))) ∧ ((0 < (G 0 (G 17 a0 0) 1) + (if (p1 - (G 0 (G 17 a0 0) 1)) < (gshr (G 0 (G 17 a0 0) 1) 1) then (gshr (G 0 (G 17 a0 0) 1) 1) else (p1 - (G 0 (G 17 a0 0) 1))) ∧ (G 0 (G 17 a0 0) 1) + (if (p1 - (G 0 (G 17 a0 0) 1)) < (gshr (G 0 (G 17 a0 0) 1) 1) then (gshr (G 0 (G 17 a0 0) 1) 1) else (p1 - (G 0 (G 17 a0 0) 1))) ≤ 100000) ∧ (∃ kc18 ks19 mc20 ms21 : Nat, kc = kc18 + mc20 ∧ ks = ks19 + ms21 ∧ GX e b m m_Arrays_copyOf_b [(2, (G 17 a0 0)), (0, ((G 0 (G 17 a0 0) 1) + (if (p1 - (G 0 (G 17 a0 0) 1)) < (gshr (G 0 (G 17 a0 0) 1) 1) then (gshr (G 0 (G 17 a0 0) 1) 1) else (p1 - (G 0 (G 17 a0 0) 1)))))] G mc20 ms21 (fun v16 G17 => (G17 0 a0 0 = 1) ∧ (((b : Int) < a0) ∧ (∀ G24 : gH, G24 = gU G17 17 a0 0 v16 → Z v16 G24))))))) : EX e b m m_AL_grow_b Z kc ks 0 [(2, a0), (0, p1), (9, 0), (9, 0)] [] G := by
  obtain ⟨h, hJ13⟩ := h
  have kJ13 : (0 < (G 0 (G 17 a0 0) 1) ∨ ((G 0 (G 17 a0 0) 1) ≤ 0 ∧ (G 17 a0 0) ≠ ((gn (gX e b m) 10 : Int) + 1))) → EX e b m m_AL_grow_b Z kc ks 20 [(2, a0), (0, p1), (0, (G 0 (G 17 a0 0) 1)), (9, 0)] [] G := by
    intro rJ13
    have h := hJ13 rJ13
    refine e_iload_n d_AL_grow_b_20 rfl ?_
    refine e_iload_n d_AL_grow_b_21 rfl ?_
    refine e_iload_n d_AL_grow_b_22 rfl ?_
    obtain ⟨o14, h⟩ := h
    refine e_isub d_AL_grow_b_23 o14 ?_
    refine e_iload_n d_AL_grow_b_24 rfl ?_
    refine e_iconst d_AL_grow_b_25 (by decide) ?_
    refine e_ishr d_AL_grow_b_26 ?_
    obtain ⟨o15, h⟩ := h
    refine e_callS m_AS_newLength lw_good d_AL_grow_b_27 (k_AS_newLength _) ⟨Nat.le_of_ble_eq_true rfl, Nat.le_of_ble_eq_true rfl⟩ w_369 w_370 (args := [(0, (G 0 (G 17 a0 0) 1)), (0, (p1 - (G 0 (G 17 a0 0) 1))), (0, (gshr (G 0 (G 17 a0 0) 1) 1))]) rfl rfl (Nat.le_of_ble_eq_true rfl) (kc' := kc) (ks' := ks) (mc := 0) (ms := 0) rfl rfl (c_AS_newLength o15) (pureK ?_)
    refine e_istore_n (ls' := [(2, a0), (0, p1), (0, (G 0 (G 17 a0 0) 1)), (0, ((G 0 (G 17 a0 0) 1) + (if (p1 - (G 0 (G 17 a0 0) 1)) < (gshr (G 0 (G 17 a0 0) 1) 1) then (gshr (G 0 (G 17 a0 0) 1) 1) else (p1 - (G 0 (G 17 a0 0) 1)))))]) d_AL_grow_b_30 (by decide) rfl ?_
    refine e_aload_n d_AL_grow_b_31 rfl ?_
    refine e_aload_n d_AL_grow_b_32 rfl ?_
    refine gf_AL_9 d_AL_grow_b_33 rfl t0 ?_
    refine e_iload_n d_AL_grow_b_36 rfl ?_
    obtain ⟨kc18, ks19, mc20, ms21, hkc18, hks19, h⟩ := h
    refine e_callS m_Arrays_copyOf_b lw_good d_AL_grow_b_37 (k_Arrays_copyOf_b _) ⟨Nat.le_of_ble_eq_true rfl, Nat.le_of_ble_eq_true rfl⟩ w_379 w_380 (args := [(2, (G 17 a0 0)), (0, ((G 0 (G 17 a0 0) 1) + (if (p1 - (G 0 (G 17 a0 0) 1)) < (gshr (G 0 (G 17 a0 0) 1) 1) then (gshr (G 0 (G 17 a0 0) 1) 1) else (p1 - (G 0 (G 17 a0 0) 1)))))]) rfl rfl (Nat.le_of_ble_eq_true rfl) (kc' := kc18) (ks' := ks19) (mc := mc20) (ms := ms21) hkc18 hks19 h ?_
    intro v16 G17 h
    refine e_dup_x1 d_AL_grow_b_40 (by simp) (by simp) ?_
    obtain ⟨o22, o23, h⟩ := h
    refine gp_AL_9 d_AL_grow_b_41 rfl o22 o23 (fx_U (by decide)) ?_
    let G24 : gH := gU G17 17 a0 0 v16
    have h := h G24 rfl
    exact e_aret d_AL_grow_b_44 (Or.inr ⟨_, rfl⟩) h
  refine e_aload_n d_AL_grow_b_0 rfl ?_
  refine gf_AL_9 d_AL_grow_b_1 rfl t0 ?_
  obtain ⟨o1, h⟩ := h
  refine e_alen d_AL_grow_b_4 o1 ?_
  refine e_istore_n (ls' := [(2, a0), (0, p1), (0, (G 0 (G 17 a0 0) 1)), (9, 0)]) d_AL_grow_b_5 (by decide) rfl ?_
  refine e_iload_n d_AL_grow_b_6 rfl ?_
  refine e_if_gt (tgt := 20) d_AL_grow_b_7 (by decide) (fun q2 => ?_) (fun q3 => ?_)
  · exact kJ13 (Or.inl q2)
  · have h := h q3
    refine e_aload_n d_AL_grow_b_10 rfl ?_
    refine gf_AL_9 d_AL_grow_b_11 rfl t0 ?_
    refine e_gets "java/util/ArrayList" "DEFAULTCAPACITY_EMPTY_ELEMENTDATA" "[Ljava/lang/Object;" (2, ((gn (gX e b m) 10 : Int) + 1)) (fun s h => by rw [cV_rn trivial]; exact h.2.1) (okN _) d_AL_grow_b_14 w_47 ?_
    refine e_acmp_eq (tgt := 45) d_AL_grow_b_17 (by decide) (fun q4 => ?_) (fun q5 => ?_)
    · have h := h q4
      refine e_aload_n d_AL_grow_b_45 rfl ?_
      refine e_bipush d_AL_grow_b_46 (by decide) (by decide) ?_
      refine e_iload_n d_AL_grow_b_48 rfl ?_
      refine e_callS m_Math_max_a lw_good d_AL_grow_b_49 (k_Math_max_a _) ⟨Nat.le_of_ble_eq_true rfl, Nat.le_of_ble_eq_true rfl⟩ w_411 w_373 (args := [(0, 10), (0, p1)]) rfl rfl (Nat.le_of_ble_eq_true rfl) (kc' := kc) (ks' := ks) (mc := 0) (ms := 0) rfl rfl (c_Math_max_a) (pureK ?_)
      obtain ⟨kc6, ks7, hkc6, hks7, hna8, h⟩ := h
      refine e_newq 103 "java/lang/Object" d_AL_grow_b_52 (Or.inl ⟨rfl, rfl⟩) w_412 w_403 hna8.1 (by omega) hkc6 hks7 fx_N ?_
      let a8 : Int := G 9 0 0
      have h := h a8 rfl
      let G9 : gH := gN G 103 (if 10 < p1 then p1 else 10)
      have h := h G9 rfl
      refine e_dup_x1 d_AL_grow_b_55 (by simp) (by simp) ?_
      obtain ⟨o10, o11, h⟩ := h
      refine gp_AL_9 d_AL_grow_b_56 rfl o10 o11 (fx_U (by decide)) ?_
      let G12 : gH := gU G9 17 a0 0 a8
      have h := h G12 rfl
      exact e_aret d_AL_grow_b_59 (Or.inr ⟨_, rfl⟩) h
    · exact kJ13 (Or.inr ⟨q3, q5⟩)
set_option maxRecDepth 20000 in
set_option maxHeartbeats 4000000 in
theorem sg_AL_grow_a_0 {e : gE} {b : Nat} {m : Int} {Z : Int → gH → Prop} {kc ks : Nat} {G : gH} {a0 : Int} (t0 : G 0 a0 0 = 1) (h : (inI ((G 18 a0 0) + 1)) ∧ ∃ kc4 ks5 mc6 ms7 : Nat, kc = kc4 + mc6 ∧ ks = ks5 + ms7 ∧ GX e b m m_AL_grow_b [(2, a0), (0, ((G 18 a0 0) + 1))] G mc6 ms7 (fun v2 G3 => Z v2 G3)) : EX e b m m_AL_grow_a Z kc ks 0 [(2, a0)] [] G := by
  refine e_aload_n d_AL_grow_a_0 rfl ?_
  refine e_aload_n d_AL_grow_a_1 rfl ?_
  refine gf_AL_48 d_AL_grow_a_2 rfl t0 ?_
  refine e_iconst d_AL_grow_a_5 (by decide) ?_
  obtain ⟨o1, h⟩ := h
  refine e_iadd d_AL_grow_a_6 o1 ?_
  obtain ⟨kc4, ks5, mc6, ms7, hkc4, hks5, h⟩ := h
  refine e_callV m_AL_grow_b 0 lw_good d_AL_grow_a_7 (k_AL_grow_b _) ⟨Nat.le_of_ble_eq_true rfl, Nat.le_of_ble_eq_true rfl⟩ w_365 w_367 w_s5 (q_AL _) rfl t0 (args := [(0, ((G 18 a0 0) + 1))]) rfl rfl (Nat.le_of_ble_eq_true rfl) (kc' := kc4) (ks' := ks5) (mc := mc6) (ms := ms7) hkc4 hks5 h ?_
  intro v2 G3 h
  exact e_aret d_AL_grow_a_10 (Or.inr ⟨_, rfl⟩) h
theorem c_AL_grow_b {e : gE} {b : Nat} {m : Int} {G : gH} {a tg n : Int} {f : Int → Int} (gr : ∀ (G : gH) (v : Int), G 0 v 0 = tg → gRv (gX e b m) G "java/lang/Object" v) (ht : tg ≠ 0) (h : zAL e b m G a tg n f) (hn : n ≤ 20) (hf : n = G 0 (G 17 a 0) 1) (ha : (b : Int) < a) : GX e b m m_AL_grow_b [(2, a), (0, n + 1)] G 1 40 (zGr m a n f G) := by
  refine GM.tg fun hT => GM.inv fun hF => ?_
  obtain ⟨h1, h2, h3, h4⟩ := h
  have hpa := hT a (by rw [h1]; decide)
  have hlo := fx_lo hF
  refine GM.ofJ (by decide +kernel) (Nat.le_of_ble_eq_true rfl) (sg_AL_grow_b_0 h1 ?_)
  rcases h4 with ⟨k1, k2, k3, k4⟩ | ⟨k1, k2, k3, k4⟩
  · rw [k3, k4]
    refine ⟨⟨by decide, fun _ _ => ⟨0, 30, by omega, ?_, ?_, ?_⟩⟩, fun q => absurd q (by omega)⟩
    · rw [if_neg (by omega)]; decide
    · rw [if_neg (by omega)]; decide
    · rw [if_neg (by omega)]
      rintro _ rfl _ rfl
      refine ⟨by rw [gN_old (by omega) (by decide)]; exact h1, ha, ?_⟩
      rintro _ rfl
      refine ⟨by omega, gU_eq, by rw [gU_c _ (by decide), gN_tag], by rw [gU_c _ (by decide), gN_len]; omega, fun i i1 i2 => by omega, by rw [gU_c _ (by decide), gN_nxt], fun c i j c1 c2 c3 => ?_⟩
      rw [gU_ne (by omega), gN_old c2 c1]
  · have hd := hT (G 17 a 0) (by rw [k2]; decide)
    have hs := z_shr1 (x := G 0 (G 17 a 0) 1) (by omega)
    generalize hx : G 0 (G 17 a 0) 1 + (if (n + 1 - G 0 (G 17 a 0) 1) < (gshr (G 0 (G 17 a 0) 1) 1) then (gshr (G 0 (G 17 a 0) 1) 1) else (n + 1 - G 0 (G 17 a 0) 1)) = x
    have bx : n + 1 ≤ x ∧ x ≤ 40 := by rw [← hx]; split <;> omega
    refine ⟨⟨by omega, fun q => absurd q (by omega)⟩, fun _ => ⟨by omega, by omega, 0, 40 - x.toNat, 1, x.toNat, by omega, by omega, ?_⟩⟩
    refine GM.mono (c_Arrays_copyOf_b gr ht k2 (by omega) (fun k q1 q2 => by rw [k4 k q1 (by omega)]; exact h3 k q1 (by omega))) ?_
    rintro v G1 ⟨rfl, rfl⟩
    have o : ∀ (c : Nat) (i j : Int), c ≠ 9 → i ≠ G 9 0 0 → gCp (gN G 103 x) 3 (G 17 a 0) 0 (G 9 0 0) 0 (G 0 (G 17 a 0) 1) c i j = G c i j := fun c i j c1 c2 => by
      unfold gCp
      rw [if_neg (by omega), gN_old c2 c1]
    refine ⟨by rw [o _ _ _ (by decide) (by omega)]; exact h1, ha, ?_⟩
    rintro _ rfl
    refine ⟨by omega, gU_eq, ?_, ?_, fun i i1 i2 => ?_, ?_, fun c i j c1 c2 c3 => ?_⟩
    · rw [gU_c _ (by decide)]
      show gCp _ _ _ _ _ _ _ _ _ _ = _
      unfold gCp
      rw [if_neg (by omega), gN_tag]
    · rw [gU_c _ (by decide)]
      have : gCp (gN G 103 x) 3 (G 17 a 0) 0 (G 9 0 0) 0 (G 0 (G 17 a 0) 1) 0 (G 9 0 0) 1 = x := by
        unfold gCp
        rw [if_neg (by omega), gN_len]
      rw [this]
      omega
    · rw [gU_c _ (by decide)]
      unfold gCp
      rw [if_pos ⟨rfl, rfl, i1, by omega⟩, gN_old (by omega) (by decide), show 0 + (i - 0) = i from by omega]
      exact k4 i i1 i2
    · rw [gU_c _ (by decide)]
      unfold gCp
      rw [if_neg (by omega), gN_nxt]
    · rw [gU_ne (by omega), o c i j c1 c2]
theorem c_AL_grow_a {e : gE} {b : Nat} {m : Int} {G : gH} {a tg n : Int} {f : Int → Int} (gr : ∀ (G : gH) (v : Int), G 0 v 0 = tg → gRv (gX e b m) G "java/lang/Object" v) (ht : tg ≠ 0) (h : zAL e b m G a tg n f) (hn : n ≤ 20) (hf : n = G 0 (G 17 a 0) 1) (ha : (b : Int) < a) : GX e b m m_AL_grow_a [(2, a)] G 1 40 (zGr m a n f G) := by
  have hz := h
  obtain ⟨h1, h2, h3, h4⟩ := h
  refine GM.ofJ (by decide +kernel) (Nat.le_of_ble_eq_true rfl) (sg_AL_grow_a_0 h1 ?_)
  rw [h2]
  exact ⟨by omega, 0, 0, 1, 40, by omega, by omega, c_AL_grow_b gr ht hz hn hf ha⟩
