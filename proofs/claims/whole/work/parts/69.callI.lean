/-! THE CLASS, 20: lose -/
set_option maxRecDepth 20000 in
set_option maxHeartbeats 4000000 in
theorem sg_Years_strike_0 {e : gE} {b : Nat} {m : Int} {Z : Int → gH → Prop} {kc ks : Nat} {G : gH} {p1 : Int} (h : EX e b m m_Years_strike Z kc ks 4 [(2, ((b : Int) + 18)), (0, p1), (0, 0), (0, 0), (9, 0)] [] G) : EX e b m m_Years_strike Z kc ks 0 [(2, ((b : Int) + 18)), (0, p1), (9, 0), (9, 0), (9, 0)] [] G := by
  refine e_iconst d_Years_strike_0 (by decide) ?_
  refine e_istore_n (ls' := [(2, ((b : Int) + 18)), (0, p1), (0, 0), (9, 0), (9, 0)]) d_Years_strike_1 (by decide) rfl ?_
  refine e_iconst d_Years_strike_2 (by decide) ?_
  refine e_istore_n (ls' := [(2, ((b : Int) + 18)), (0, p1), (0, 0), (0, 0), (9, 0)]) d_Years_strike_3 (by decide) rfl ?_
  exact e_forget (ls' := [(2, ((b : Int) + 18)), (0, p1), (0, 0), (0, 0), (9, 0)]) ⟨Or.inr rfl, Or.inr rfl, Or.inr rfl, Or.inr rfl, Or.inl rfl, trivial⟩ h
set_option maxRecDepth 20000 in
set_option maxHeartbeats 4000000 in
theorem sg_Years_strike_4 {e : gE} {b : Nat} {m : Int} {Z : Int → gH → Prop} {kc ks : Nat} {G : gH} {p1 x2 x3 : Int} (h : ((G 0 ((b : Int) + 2) 0 = 1) ∧ (((G 18 ((b : Int) + 2) 0) ≤ x3 → Z x2 G) ∧ (x3 < (G 18 ((b : Int) + 2) 0) → (G 0 (G 17 ((b : Int) + 2) 0) 0 = 103) ∧ ((0 ≤ x3 ∧ x3 < G 18 ((b : Int) + 2) 0) ∧ ((G 18 ((b : Int) + 2) 0 ≤ G 0 (G 17 ((b : Int) + 2) 0) 1) ∧ ((G 0 (G 3 (G 17 ((b : Int) + 2) 0) x3) 0 = 10) ∧ ((G 0 (G 3 (G 17 ((b : Int) + 2) 0) x3) 0 = 10) ∧ ((0 ≤ G 18 ((b : Int) + 19) 0 ∧ G 18 ((b : Int) + 19) 0 ≤ 5) ∧ ((G 0 ((b : Int) + 19) 0 = 1) ∧ ((0 ≤ (if 400 ≤ G 598 (G 3 (G 17 ((b : Int) + 2) 0) x3) 0 ∧ G 598 (G 3 (G 17 ((b : Int) + 2) 0) x3) 0 < 500 then G 598 (G 3 (G 17 ((b : Int) + 2) 0) x3) 0 - 400 else -1) ∧ (if 400 ≤ G 598 (G 3 (G 17 ((b : Int) + 2) 0) x3) 0 ∧ G 598 (G 3 (G 17 ((b : Int) + 2) 0) x3) 0 < 500 then G 598 (G 3 (G 17 ((b : Int) + 2) 0) x3) 0 - 400 else -1) < G 18 ((b : Int) + 19) 0 → G 0 (G 17 ((b : Int) + 19) 0) 0 = 103 ∧ G 18 ((b : Int) + 19) 0 ≤ G 0 (G 17 ((b : Int) + 19) 0) 1 ∧ G 0 (G 3 (G 17 ((b : Int) + 19) 0) (if 400 ≤ G 598 (G 3 (G 17 ((b : Int) + 2) 0) x3) 0 ∧ G 598 (G 3 (G 17 ((b : Int) + 2) 0) x3) 0 < 500 then G 598 (G 3 (G 17 ((b : Int) + 2) 0) x3) 0 - 400 else -1)) 0 = 5) ∧ (((if 0 ≤ (if 400 ≤ G 598 (G 3 (G 17 ((b : Int) + 2) 0) x3) 0 ∧ G 598 (G 3 (G 17 ((b : Int) + 2) 0) x3) 0 < 500 then G 598 (G 3 (G 17 ((b : Int) + 2) 0) x3) 0 - 400 else -1) ∧ (if 400 ≤ G 598 (G 3 (G 17 ((b : Int) + 2) 0) x3) 0 ∧ G 598 (G 3 (G 17 ((b : Int) + 2) 0) x3) 0 < 500 then G 598 (G 3 (G 17 ((b : Int) + 2) 0) x3) 0 - 400 else -1) < G 18 ((b : Int) + 19) 0 then G 3 (G 17 ((b : Int) + 19) 0) (if 400 ≤ G 598 (G 3 (G 17 ((b : Int) + 2) 0) x3) 0 ∧ G 598 (G 3 (G 17 ((b : Int) + 2) 0) x3) 0 < 500 then G 598 (G 3 (G 17 ((b : Int) + 2) 0) x3) 0 - 400 else -1) else 0) ≠ 0) → (G 0 (if 0 ≤ (if 400 ≤ G 598 (G 3 (G 17 ((b : Int) + 2) 0) x3) 0 ∧ G 598 (G 3 (G 17 ((b : Int) + 2) 0) x3) 0 < 500 then G 598 (G 3 (G 17 ((b : Int) + 2) 0) x3) 0 - 400 else -1) ∧ (if 400 ≤ G 598 (G 3 (G 17 ((b : Int) + 2) 0) x3) 0 ∧ G 598 (G 3 (G 17 ((b : Int) + 2) 0) x3) 0 < 500 then G 598 (G 3 (G 17 ((b : Int) + 2) 0) x3) 0 - 400 else -1) < G 18 ((b : Int) + 19) 0 then G 3 (G 17 ((b : Int) + 19) 0) (if 400 ≤ G 598 (G 3 (G 17 ((b : Int) + 2) 0) x3) 0 ∧ G 598 (G 3 (G 17 ((b : Int) + 2) 0) x3) 0 < 500 then G 598 (G 3 (G 17 ((b : Int) + 2) 0) x3) 0 - 400 else -1) else 0) 0 = 5) ∧ ((G 0 (if 0 ≤ (if 400 ≤ G 598 (G 3 (G 17 ((b : Int) + 2) 0) x3) 0 ∧ G 598 (G 3 (G 17 ((b : Int) + 2) 0) x3) 0 < 500 then G 598 (G 3 (G 17 ((b : Int) + 2) 0) x3) 0 - 400 else -1) ∧ (if 400 ≤ G 598 (G 3 (G 17 ((b : Int) + 2) 0) x3) 0 ∧ G 598 (G 3 (G 17 ((b : Int) + 2) 0) x3) 0 < 500 then G 598 (G 3 (G 17 ((b : Int) + 2) 0) x3) 0 - 400 else -1) < G 18 ((b : Int) + 19) 0 then G 3 (G 17 ((b : Int) + 19) 0) (if 400 ≤ G 598 (G 3 (G 17 ((b : Int) + 2) 0) x3) 0 ∧ G 598 (G 3 (G 17 ((b : Int) + 2) 0) x3) 0 < 500 then G 598 (G 3 (G 17 ((b : Int) + 2) 0) x3) 0 - 400 else -1) else 0) 0 = 5) ∧ (((G 273 (if 0 ≤ (if 400 ≤ G 598 (G 3 (G 17 ((b : Int) + 2) 0) x3) 0 ∧ G 598 (G 3 (G 17 ((b : Int) + 2) 0) x3) 0 < 500 then G 598 (G 3 (G 17 ((b : Int) + 2) 0) x3) 0 - 400 else -1) ∧ (if 400 ≤ G 598 (G 3 (G 17 ((b : Int) + 2) 0) x3) 0 ∧ G 598 (G 3 (G 17 ((b : Int) + 2) 0) x3) 0 < 500 then G 598 (G 3 (G 17 ((b : Int) + 2) 0) x3) 0 - 400 else -1) < G 18 ((b : Int) + 19) 0 then G 3 (G 17 ((b : Int) + 19) 0) (if 400 ≤ G 598 (G 3 (G 17 ((b : Int) + 2) 0) x3) 0 ∧ G 598 (G 3 (G 17 ((b : Int) + 2) 0) x3) 0 < 500 then G 598 (G 3 (G 17 ((b : Int) + 2) 0) x3) 0 - 400 else -1) else 0) 0) = p1) → (inI (1000 + G 661 ((b : Int) + 18) 0)) ∧ ∃ kc26 ks27 mc28 ms29 : Nat, kc = kc26 + mc28 ∧ ks = ks27 + ms29 ∧ GX e b m m_Thing_goTo [(2, (G 3 (G 17 ((b : Int) + 2) 0) x3)), (0, 500), (0, (1000 + G 661 ((b : Int) + 18) 0))] G mc28 ms29 (fun _ G25 => (inI (x2 + 1)) ∧ (inI (x3 + 1)) ∧ EX e b m m_Years_strike Z kc26 ks27 4 [(2, ((b : Int) + 18)), (0, p1), (0, (x2 + 1)), (0, (x3 + 1)), (9, 0)] [] G25)))))))))))))) ∧ (((x3 < (G 18 ((b : Int) + 2) 0) ∧ ((if 0 ≤ (if 400 ≤ G 598 (G 3 (G 17 ((b : Int) + 2) 0) x3) 0 ∧ G 598 (G 3 (G 17 ((b : Int) + 2) 0) x3) 0 < 500 then G 598 (G 3 (G 17 ((b : Int) + 2) 0) x3) 0 - 400 else -1) ∧ (if 400 ≤ G 598 (G 3 (G 17 ((b : Int) + 2) 0) x3) 0 ∧ G 598 (G 3 (G 17 ((b : Int) + 2) 0) x3) 0 < 500 then G 598 (G 3 (G 17 ((b : Int) + 2) 0) x3) 0 - 400 else -1) < G 18 ((b : Int) + 19) 0 then G 3 (G 17 ((b : Int) + 19) 0) (if 400 ≤ G 598 (G 3 (G 17 ((b : Int) + 2) 0) x3) 0 ∧ G 598 (G 3 (G 17 ((b : Int) + 2) 0) x3) 0 < 500 then G 598 (G 3 (G 17 ((b : Int) + 2) 0) x3) 0 - 400 else -1) else 0) = 0)) ∨ (x3 < (G 18 ((b : Int) + 2) 0) ∧ ((if 0 ≤ (if 400 ≤ G 598 (G 3 (G 17 ((b : Int) + 2) 0) x3) 0 ∧ G 598 (G 3 (G 17 ((b : Int) + 2) 0) x3) 0 < 500 then G 598 (G 3 (G 17 ((b : Int) + 2) 0) x3) 0 - 400 else -1) ∧ (if 400 ≤ G 598 (G 3 (G 17 ((b : Int) + 2) 0) x3) 0 ∧ G 598 (G 3 (G 17 ((b : Int) + 2) 0) x3) 0 < 500 then G 598 (G 3 (G 17 ((b : Int) + 2) 0) x3) 0 - 400 else -1) < G 18 ((b : Int) + 19) 0 then G 3 (G 17 ((b : Int) + 19) 0) (if 400 ≤ G 598 (G 3 (G 17 ((b : Int) + 2) 0) x3) 0 ∧ G 598 (G 3 (G 17 ((b : Int) + 2) 0) x3) 0 < 500 then G 598 (G 3 (G 17 ((b : Int) + 2) 0) x3) 0 - 400 else -1) else 0) ≠ 0) ∧ ((G 273 (if 0 ≤ (if 400 ≤ G 598 (G 3 (G 17 ((b : Int) + 2) 0) x3) 0 ∧ G 598 (G 3 (G 17 ((b : Int) + 2) 0) x3) 0 < 500 then G 598 (G 3 (G 17 ((b : Int) + 2) 0) x3) 0 - 400 else -1) ∧ (if 400 ≤ G 598 (G 3 (G 17 ((b : Int) + 2) 0) x3) 0 ∧ G 598 (G 3 (G 17 ((b : Int) + 2) 0) x3) 0 < 500 then G 598 (G 3 (G 17 ((b : Int) + 2) 0) x3) 0 - 400 else -1) < G 18 ((b : Int) + 19) 0 then G 3 (G 17 ((b : Int) + 19) 0) (if 400 ≤ G 598 (G 3 (G 17 ((b : Int) + 2) 0) x3) 0 ∧ G 598 (G 3 (G 17 ((b : Int) + 2) 0) x3) 0 < 500 then G 598 (G 3 (G 17 ((b : Int) + 2) 0) x3) 0 - 400 else -1) else 0) 0) ≠ p1))) → (inI (x3 + 1)) ∧ EX e b m m_Years_strike Z kc ks 4 [(2, ((b : Int) + 18)), (0, p1), (0, x2), (0, (x3 + 1)), (9, 0)] [] G)) : EX e b m m_Years_strike Z kc ks 4 [(2, ((b : Int) + 18)), (0, p1), (0, x2), (0, x3), (9, 0)] [] G := by
  obtain ⟨h, hJ32⟩ := h
  have kJ32 : ((x3 < (G 18 ((b : Int) + 2) 0) ∧ ((if 0 ≤ (if 400 ≤ G 598 (G 3 (G 17 ((b : Int) + 2) 0) x3) 0 ∧ G 598 (G 3 (G 17 ((b : Int) + 2) 0) x3) 0 < 500 then G 598 (G 3 (G 17 ((b : Int) + 2) 0) x3) 0 - 400 else -1) ∧ (if 400 ≤ G 598 (G 3 (G 17 ((b : Int) + 2) 0) x3) 0 ∧ G 598 (G 3 (G 17 ((b : Int) + 2) 0) x3) 0 < 500 then G 598 (G 3 (G 17 ((b : Int) + 2) 0) x3) 0 - 400 else -1) < G 18 ((b : Int) + 19) 0 then G 3 (G 17 ((b : Int) + 19) 0) (if 400 ≤ G 598 (G 3 (G 17 ((b : Int) + 2) 0) x3) 0 ∧ G 598 (G 3 (G 17 ((b : Int) + 2) 0) x3) 0 < 500 then G 598 (G 3 (G 17 ((b : Int) + 2) 0) x3) 0 - 400 else -1) else 0) = 0)) ∨ (x3 < (G 18 ((b : Int) + 2) 0) ∧ ((if 0 ≤ (if 400 ≤ G 598 (G 3 (G 17 ((b : Int) + 2) 0) x3) 0 ∧ G 598 (G 3 (G 17 ((b : Int) + 2) 0) x3) 0 < 500 then G 598 (G 3 (G 17 ((b : Int) + 2) 0) x3) 0 - 400 else -1) ∧ (if 400 ≤ G 598 (G 3 (G 17 ((b : Int) + 2) 0) x3) 0 ∧ G 598 (G 3 (G 17 ((b : Int) + 2) 0) x3) 0 < 500 then G 598 (G 3 (G 17 ((b : Int) + 2) 0) x3) 0 - 400 else -1) < G 18 ((b : Int) + 19) 0 then G 3 (G 17 ((b : Int) + 19) 0) (if 400 ≤ G 598 (G 3 (G 17 ((b : Int) + 2) 0) x3) 0 ∧ G 598 (G 3 (G 17 ((b : Int) + 2) 0) x3) 0 < 500 then G 598 (G 3 (G 17 ((b : Int) + 2) 0) x3) 0 - 400 else -1) else 0) ≠ 0) ∧ ((G 273 (if 0 ≤ (if 400 ≤ G 598 (G 3 (G 17 ((b : Int) + 2) 0) x3) 0 ∧ G 598 (G 3 (G 17 ((b : Int) + 2) 0) x3) 0 < 500 then G 598 (G 3 (G 17 ((b : Int) + 2) 0) x3) 0 - 400 else -1) ∧ (if 400 ≤ G 598 (G 3 (G 17 ((b : Int) + 2) 0) x3) 0 ∧ G 598 (G 3 (G 17 ((b : Int) + 2) 0) x3) 0 < 500 then G 598 (G 3 (G 17 ((b : Int) + 2) 0) x3) 0 - 400 else -1) < G 18 ((b : Int) + 19) 0 then G 3 (G 17 ((b : Int) + 19) 0) (if 400 ≤ G 598 (G 3 (G 17 ((b : Int) + 2) 0) x3) 0 ∧ G 598 (G 3 (G 17 ((b : Int) + 2) 0) x3) 0 < 500 then G 598 (G 3 (G 17 ((b : Int) + 2) 0) x3) 0 - 400 else -1) else 0) 0) ≠ p1))) → EX e b m m_Years_strike Z kc ks 73 [(2, ((b : Int) + 18)), (0, p1), (0, x2), (0, x3), (2, (if 0 ≤ (if 400 ≤ G 598 (G 3 (G 17 ((b : Int) + 2) 0) x3) 0 ∧ G 598 (G 3 (G 17 ((b : Int) + 2) 0) x3) 0 < 500 then G 598 (G 3 (G 17 ((b : Int) + 2) 0) x3) 0 - 400 else -1) ∧ (if 400 ≤ G 598 (G 3 (G 17 ((b : Int) + 2) 0) x3) 0 ∧ G 598 (G 3 (G 17 ((b : Int) + 2) 0) x3) 0 < 500 then G 598 (G 3 (G 17 ((b : Int) + 2) 0) x3) 0 - 400 else -1) < G 18 ((b : Int) + 19) 0 then G 3 (G 17 ((b : Int) + 19) 0) (if 400 ≤ G 598 (G 3 (G 17 ((b : Int) + 2) 0) x3) 0 ∧ G 598 (G 3 (G 17 ((b : Int) + 2) 0) x3) 0 < 500 then G 598 (G 3 (G 17 ((b : Int) + 2) 0) x3) 0 - 400 else -1) else 0))] [] G := by
    intro rJ32
    have h := hJ32 rJ32
    obtain ⟨o33, h⟩ := h
    refine e_iinc (ls' := [(2, ((b : Int) + 18)), (0, p1), (0, x2), (0, (x3 + 1)), (2, (if 0 ≤ (if 400 ≤ G 598 (G 3 (G 17 ((b : Int) + 2) 0) x3) 0 ∧ G 598 (G 3 (G 17 ((b : Int) + 2) 0) x3) 0 < 500 then G 598 (G 3 (G 17 ((b : Int) + 2) 0) x3) 0 - 400 else -1) ∧ (if 400 ≤ G 598 (G 3 (G 17 ((b : Int) + 2) 0) x3) 0 ∧ G 598 (G 3 (G 17 ((b : Int) + 2) 0) x3) 0 < 500 then G 598 (G 3 (G 17 ((b : Int) + 2) 0) x3) 0 - 400 else -1) < G 18 ((b : Int) + 19) 0 then G 3 (G 17 ((b : Int) + 19) 0) (if 400 ≤ G 598 (G 3 (G 17 ((b : Int) + 2) 0) x3) 0 ∧ G 598 (G 3 (G 17 ((b : Int) + 2) 0) x3) 0 < 500 then G 598 (G 3 (G 17 ((b : Int) + 2) 0) x3) 0 - 400 else -1) else 0))]) d_Years_strike_73 rfl (by decide) o33 rfl ?_
    refine e_goto (tgt := 4) d_Years_strike_76 (by decide) ?_
    exact e_forget (ls' := [(2, ((b : Int) + 18)), (0, p1), (0, x2), (0, (x3 + 1)), (9, 0)]) ⟨Or.inr rfl, Or.inr rfl, Or.inr rfl, Or.inr rfl, Or.inl rfl, trivial⟩ h
  refine e_iload_n d_Years_strike_4 rfl ?_
  refine e_aload_n d_Years_strike_5 rfl ?_
  refine gx_Years_9 d_Years_strike_6 rfl ?_
  refine EV.inv fun hFf1 => ?_
  have f1 := (fx_ct 1 rfl hFf1).1
  obtain ⟨o2, h⟩ := h
  refine e_callV m_AL_size 0 lw_good d_Years_strike_9 (k_AL_size _) ⟨Nat.le_of_ble_eq_true rfl, Nat.le_of_ble_eq_true rfl⟩ w_1017 w_330 w_331 (q_AL _) rfl f1 (args := []) rfl rfl (Nat.le_of_ble_eq_true rfl) (kc' := kc) (ks' := ks) (mc := 0) (ms := 0) rfl rfl (c_AL_size o2) (pureK ?_)
  refine e_icmp_ge (tgt := 79) d_Years_strike_12 (by decide) (fun q3 => ?_) (fun q4 => ?_)
  · have h := h.1 q3
    refine e_iload_n d_Years_strike_79 rfl ?_
    exact e_iret d_Years_strike_80 rfl h
  · have h := h.2 q4
    refine e_aload_n d_Years_strike_15 rfl ?_
    refine e_aload_n d_Years_strike_16 rfl ?_
    refine gx_Years_9 d_Years_strike_17 rfl ?_
    refine e_iload_n d_Years_strike_20 rfl ?_
    refine EV.inv fun hFf5 => ?_
    have f5 := (fx_ct 1 rfl hFf5).1
    obtain ⟨o6, o7, o8, h⟩ := h
    refine e_callV m_AL_get 0 lw_good d_Years_strike_21 (k_AL_get _) ⟨Nat.le_of_ble_eq_true rfl, Nat.le_of_ble_eq_true rfl⟩ w_1053 w_607 w_608 (q_AL _) rfl f5 (args := [(0, x3)]) rfl rfl (Nat.le_of_ble_eq_true rfl) (kc' := kc) (ks' := ks) (mc := 0) (ms := 0) rfl rfl (c_AL_get o2 o6 o7 o8) (pureK ?_)
    obtain ⟨o9, h⟩ := h
    refine e_cast 9 d_Years_strike_24 (q_Thing _) w_1266 (Or.inr o9) ?_
    obtain ⟨o10, h⟩ := h
    refine e_callV m_Thing_placeNumber 9 lw_good d_Years_strike_27 (k_Thing_placeNumber _) ⟨Nat.le_of_ble_eq_true rfl, Nat.le_of_ble_eq_true rfl⟩ w_1200 w_1144 w_1145 (q_Thing _) rfl o9 (args := []) rfl rfl (Nat.le_of_ble_eq_true rfl) (kc' := kc) (ks' := ks) (mc := 0) (ms := 0) rfl rfl (c_Thing_placeNumber o10) (pureK ?_)
    refine EV.inv fun hFf11 => ?_
    have f11 := (fx_ct 17 rfl hFf11).1
    obtain ⟨o12, o13, o14, h⟩ := h
    refine e_callV m_Years_placeAt 10 lw_good d_Years_strike_30 (k_Years_placeAt _) ⟨Nat.le_of_ble_eq_true rfl, Nat.le_of_ble_eq_true rfl⟩ w_1201 w_1049 w_1050 (q_Years _) rfl f11 (args := [(0, (if 400 ≤ G 598 (G 3 (G 17 ((b : Int) + 2) 0) x3) 0 ∧ G 598 (G 3 (G 17 ((b : Int) + 2) 0) x3) 0 < 500 then G 598 (G 3 (G 17 ((b : Int) + 2) 0) x3) 0 - 400 else -1))]) rfl rfl (Nat.le_of_ble_eq_true rfl) (kc' := kc) (ks' := ks) (mc := 0) (ms := 0) rfl rfl (c_Years_placeAt o12 o13 o14) (pureK ?_)
    refine e_astore (ls' := [(2, ((b : Int) + 18)), (0, p1), (0, x2), (0, x3), (2, (if 0 ≤ (if 400 ≤ G 598 (G 3 (G 17 ((b : Int) + 2) 0) x3) 0 ∧ G 598 (G 3 (G 17 ((b : Int) + 2) 0) x3) 0 < 500 then G 598 (G 3 (G 17 ((b : Int) + 2) 0) x3) 0 - 400 else -1) ∧ (if 400 ≤ G 598 (G 3 (G 17 ((b : Int) + 2) 0) x3) 0 ∧ G 598 (G 3 (G 17 ((b : Int) + 2) 0) x3) 0 < 500 then G 598 (G 3 (G 17 ((b : Int) + 2) 0) x3) 0 - 400 else -1) < G 18 ((b : Int) + 19) 0 then G 3 (G 17 ((b : Int) + 19) 0) (if 400 ≤ G 598 (G 3 (G 17 ((b : Int) + 2) 0) x3) 0 ∧ G 598 (G 3 (G 17 ((b : Int) + 2) 0) x3) 0 < 500 then G 598 (G 3 (G 17 ((b : Int) + 2) 0) x3) 0 - 400 else -1) else 0))]) d_Years_strike_33 (by decide) rfl ?_
    refine e_aload d_Years_strike_35 rfl ?_
    refine e_ifnull (tgt := 73) d_Years_strike_37 (by decide) (fun q15 => ?_) (fun q16 => ?_)
    · exact kJ32 (Or.inl ⟨q4, q15⟩)
    · have h := h q16
      refine e_aload d_Years_strike_40 rfl ?_
      obtain ⟨o17, o18, h⟩ := h
      refine e_callV m_Place_group 4 lw_good d_Years_strike_42 (k_Place_group _) ⟨Nat.le_of_ble_eq_true rfl, Nat.le_of_ble_eq_true rfl⟩ w_1300 w_1170 w_1171 (q_Place _) rfl o17 (args := []) rfl rfl (Nat.le_of_ble_eq_true rfl) (kc' := kc) (ks' := ks) (mc := 0) (ms := 0) rfl rfl (c_Place_group o18) (pureK ?_)
      refine e_iload_n d_Years_strike_45 rfl ?_
      refine e_icmp_ne (tgt := 73) d_Years_strike_46 (by decide) (fun q19 => ?_) (fun q20 => ?_)
      · exact kJ32 (Or.inr ⟨q4, q16, q19⟩)
      · have h := h q20
        refine e_aload_n d_Years_strike_49 rfl ?_
        refine gx_Years_9 d_Years_strike_50 rfl ?_
        refine e_iload_n d_Years_strike_53 rfl ?_
        refine EV.inv fun hFf21 => ?_
        have f21 := (fx_ct 1 rfl hFf21).1
        refine e_callV m_AL_get 0 lw_good d_Years_strike_54 (k_AL_get _) ⟨Nat.le_of_ble_eq_true rfl, Nat.le_of_ble_eq_true rfl⟩ w_1053 w_607 w_608 (q_AL _) rfl f21 (args := [(0, x3)]) rfl rfl (Nat.le_of_ble_eq_true rfl) (kc' := kc) (ks' := ks) (mc := 0) (ms := 0) rfl rfl (c_AL_get o2 o6 o7 o8) (pureK ?_)
        refine e_cast 9 d_Years_strike_57 (q_Thing _) w_1266 (Or.inr o9) ?_
        refine e_sipush d_Years_strike_60 (by decide) (by decide) ?_
        refine e_aload_n d_Years_strike_63 rfl ?_
        refine EV.inv fun hFf22 => ?_
        have f22 := (fx_ct 17 rfl hFf22).1
        obtain ⟨o23, h⟩ := h
        refine e_callV m_Years_timeNow 10 lw_good d_Years_strike_64 (k_Years_timeNow _) ⟨Nat.le_of_ble_eq_true rfl, Nat.le_of_ble_eq_true rfl⟩ w_1251 w_1252 w_1253 (q_Years _) rfl f22 (args := []) rfl rfl (Nat.le_of_ble_eq_true rfl) (kc' := kc) (ks' := ks) (mc := 0) (ms := 0) rfl rfl (c_Years_timeNow o23) (pureK ?_)
        obtain ⟨kc26, ks27, mc28, ms29, hkc26, hks27, h⟩ := h
        refine e_callV m_Thing_goTo 9 lw_good d_Years_strike_67 (k_Thing_goTo _) ⟨Nat.le_of_ble_eq_true rfl, Nat.le_of_ble_eq_true rfl⟩ w_1255 w_966 w_967 (q_Thing _) rfl o9 (args := [(0, 500), (0, (1000 + G 661 ((b : Int) + 18) 0))]) rfl rfl (Nat.le_of_ble_eq_true rfl) (kc' := kc26) (ks' := ks27) (mc := mc28) (ms := ms29) hkc26 hks27 h ?_
        intro v24 G25 h
        obtain ⟨o30, h⟩ := h
        refine e_iinc (ls' := [(2, ((b : Int) + 18)), (0, p1), (0, (x2 + 1)), (0, x3), (2, (if 0 ≤ (if 400 ≤ G 598 (G 3 (G 17 ((b : Int) + 2) 0) x3) 0 ∧ G 598 (G 3 (G 17 ((b : Int) + 2) 0) x3) 0 < 500 then G 598 (G 3 (G 17 ((b : Int) + 2) 0) x3) 0 - 400 else -1) ∧ (if 400 ≤ G 598 (G 3 (G 17 ((b : Int) + 2) 0) x3) 0 ∧ G 598 (G 3 (G 17 ((b : Int) + 2) 0) x3) 0 < 500 then G 598 (G 3 (G 17 ((b : Int) + 2) 0) x3) 0 - 400 else -1) < G 18 ((b : Int) + 19) 0 then G 3 (G 17 ((b : Int) + 19) 0) (if 400 ≤ G 598 (G 3 (G 17 ((b : Int) + 2) 0) x3) 0 ∧ G 598 (G 3 (G 17 ((b : Int) + 2) 0) x3) 0 < 500 then G 598 (G 3 (G 17 ((b : Int) + 2) 0) x3) 0 - 400 else -1) else 0))]) d_Years_strike_70 rfl (by decide) o30 rfl ?_
        obtain ⟨o31, h⟩ := h
        refine e_iinc (ls' := [(2, ((b : Int) + 18)), (0, p1), (0, (x2 + 1)), (0, (x3 + 1)), (2, (if 0 ≤ (if 400 ≤ G 598 (G 3 (G 17 ((b : Int) + 2) 0) x3) 0 ∧ G 598 (G 3 (G 17 ((b : Int) + 2) 0) x3) 0 < 500 then G 598 (G 3 (G 17 ((b : Int) + 2) 0) x3) 0 - 400 else -1) ∧ (if 400 ≤ G 598 (G 3 (G 17 ((b : Int) + 2) 0) x3) 0 ∧ G 598 (G 3 (G 17 ((b : Int) + 2) 0) x3) 0 < 500 then G 598 (G 3 (G 17 ((b : Int) + 2) 0) x3) 0 - 400 else -1) < G 18 ((b : Int) + 19) 0 then G 3 (G 17 ((b : Int) + 19) 0) (if 400 ≤ G 598 (G 3 (G 17 ((b : Int) + 2) 0) x3) 0 ∧ G 598 (G 3 (G 17 ((b : Int) + 2) 0) x3) 0 < 500 then G 598 (G 3 (G 17 ((b : Int) + 2) 0) x3) 0 - 400 else -1) else 0))]) d_Years_strike_73 rfl (by decide) o31 rfl ?_
        refine e_goto (tgt := 4) d_Years_strike_76 (by decide) ?_
        exact e_forget (ls' := [(2, ((b : Int) + 18)), (0, p1), (0, (x2 + 1)), (0, (x3 + 1)), (9, 0)]) ⟨Or.inr rfl, Or.inr rfl, Or.inr rfl, Or.inr rfl, Or.inl rfl, trivial⟩ h
set_option maxRecDepth 20000 in
set_option maxHeartbeats 4000000 in
theorem sg_C_lose_0 {e : gE} {b : Nat} {m : Int} {Z : Int → gH → Prop} {kc ks : Nat} {G : gH} {p1 : Int} (h : ((0 ≤ p1 ∧ p1 ≤ 3) → ((G 730 ((b : Int) + 1) 0) ≠ 2 → GX e b m m_C_refuse [(2, ((b : Int) + 1)), (0, (-6))] G 0 0 (fun v6 G7 => Z v6 G7)) ∧ ((G 730 ((b : Int) + 1) 0) = 2 → ∃ kc11 ks12 mc13 ms14 : Nat, kc = kc11 + mc13 ∧ ks = ks12 + ms14 ∧ GX e b m m_Years_strike [(2, ((b : Int) + 18)), (0, p1)] G mc13 ms14 (fun v9 G10 => Z v9 G10))) ∧ ((¬ (0 ≤ p1 ∧ p1 ≤ 3)) → GX e b m m_C_refuse [(2, ((b : Int) + 1)), (0, (-1))] G 0 0 (fun v16 G17 => Z v16 G17))) : EX e b m m_C_lose Z kc ks 0 [(2, ((b : Int) + 1)), (0, p1)] [] G := by
  refine e_iload_n d_C_lose_0 rfl ?_
  refine e_iconst d_C_lose_1 (by decide) ?_
  refine e_iconst d_C_lose_2 (by decide) ?_
  refine e_callS m_C_within lw_good d_C_lose_3 (k_C_within _) ⟨Nat.le_of_ble_eq_true rfl, Nat.le_of_ble_eq_true rfl⟩ w_294 w_295 (args := [(0, p1), (0, 0), (0, 3)]) rfl rfl (Nat.le_of_ble_eq_true rfl) (kc' := kc) (ks' := ks) (mc := 0) (ms := 0) rfl rfl (c_C_within) (pureK ?_)
  refine e_if_ne (tgt := 15) d_C_lose_6 (by decide) (fun q1 => ?_) (fun q2 => ?_)
  · replace q1 := gb1.mp q1
    have h := h.1 q1
    refine e_aload_n d_C_lose_15 rfl ?_
    refine gx_C_81 d_C_lose_16 rfl ?_
    refine e_iconst d_C_lose_19 (by decide) ?_
    refine e_icmp_ne (tgt := 34) d_C_lose_20 (by decide) (fun q3 => ?_) (fun q4 => ?_)
    · have h := h.1 q3
      refine e_aload_n d_C_lose_34 rfl ?_
      refine e_bipush d_C_lose_35 (by decide) (by decide) ?_
      refine EV.inv fun hFf5 => ?_
      have f5 := (fx_ct 0 rfl hFf5).1
      refine e_callV m_C_refuse 11 lw_good d_C_lose_37 (k_C_refuse _) ⟨Nat.le_of_ble_eq_true rfl, Nat.le_of_ble_eq_true rfl⟩ w_297 w_299 w_s0 (q_C _) rfl f5 (args := [(0, (-6))]) rfl rfl (Nat.le_of_ble_eq_true rfl) (kc' := kc) (ks' := ks) (mc := 0) (ms := 0) rfl rfl h ?_
      intro v6 G7 h
      exact e_iret d_C_lose_40 rfl h
    · have h := h.2 q4
      refine e_aload_n d_C_lose_23 rfl ?_
      refine gx_C_37 d_C_lose_24 rfl ?_
      refine e_iload_n d_C_lose_27 rfl ?_
      refine EV.inv fun hFf8 => ?_
      have f8 := (fx_ct 17 rfl hFf8).1
      obtain ⟨kc11, ks12, mc13, ms14, hkc11, hks12, h⟩ := h
      refine e_callV m_Years_strike 10 lw_good d_C_lose_28 (k_Years_strike _) ⟨Nat.le_of_ble_eq_true rfl, Nat.le_of_ble_eq_true rfl⟩ w_1296 w_1297 w_1298 (q_Years _) rfl f8 (args := [(0, p1)]) rfl rfl (Nat.le_of_ble_eq_true rfl) (kc' := kc11) (ks' := ks12) (mc := mc13) (ms := ms14) hkc11 hks12 h ?_
      intro v9 G10 h
      refine e_goto (tgt := 40) d_C_lose_31 (by decide) ?_
      exact e_iret d_C_lose_40 rfl h
  · replace q2 := gb0.mp q2
    have h := h.2 q2
    refine e_aload_n d_C_lose_9 rfl ?_
    refine e_iconst d_C_lose_10 (by decide) ?_
    refine EV.inv fun hFf15 => ?_
    have f15 := (fx_ct 0 rfl hFf15).1
    refine e_callV m_C_refuse 11 lw_good d_C_lose_11 (k_C_refuse _) ⟨Nat.le_of_ble_eq_true rfl, Nat.le_of_ble_eq_true rfl⟩ w_297 w_299 w_s0 (q_C _) rfl f15 (args := [(0, (-1))]) rfl rfl (Nat.le_of_ble_eq_true rfl) (kc' := kc) (ks' := ks) (mc := 0) (ms := 0) rfl rfl h ?_
    intro v16 G17 h
    exact e_iret d_C_lose_14 rfl h
theorem zPsi_m {A : zA} {t w : Int} (hs : 0 ≤ A 794 0) (ht : zTh A t) (hc : zSeals A t < 1024) : zPsi A ≤ zPsi (zGo A t w) := by
  have := zSL_m ⟨(zRkB (A := A) (t := t) hs).1, hc⟩
  have h0 : 0 ≤ zSeals A t := (zRkB (A := A) (t := t) hs).1
  rw [zPsi_go hs ht]
  have := zSL_m ⟨h0, hc⟩
  omega
theorem zLose_w {A : zA} {g : Int} (hB : zB 511 A) (hPl : zPl A) (hc : ∀ t, zTh A t → zSeals A t < 1024) (n : Int) (hn : 0 ≤ n ∧ n ≤ A 785 0) : zB 512 (zF (zLose1 g) (0, A) n).2 ∧ zCh [35, 36, 37, 794, 38, 11] A (zF (zLose1 g) (0, A) n).2 ∧ (zF (zLose1 g) (0, A) n).2 794 0 ≤ A 794 0 + n ∧ (∀ t, n ≤ t → (zF (zLose1 g) (0, A) n).2 11 t = A 11 t ∧ zSeals (zF (zLose1 g) (0, A) n).2 t = zSeals A t) ∧ zPl (zF (zLose1 g) (0, A) n).2 ∧ 0 ≤ (zF (zLose1 g) (0, A) n).1 ∧ (zF (zLose1 g) (0, A) n).1 ≤ n := by
  have b0 : 0 ≤ A 785 0 ∧ A 785 0 ≤ 16 := hB 785 0
  have bs : 0 ≤ A 794 0 ∧ A 794 0 ≤ 16 * 511 + 32 := hB 794 0
  refine zF_i (I := fun n r => zB 512 r.2 ∧ zCh [35, 36, 37, 794, 38, 11] A r.2 ∧ r.2 794 0 ≤ A 794 0 + n ∧ (∀ t, n ≤ t → r.2 11 t = A 11 t ∧ zSeals r.2 t = zSeals A t) ∧ zPl r.2 ∧ 0 ≤ r.1 ∧ r.1 ≤ n) n hn.1 ⟨zB_mono hB (by decide), fun _ _ => rfl, by show A 794 0 ≤ A 794 0 + 0; omega, fun _ _ => ⟨rfl, rfl⟩, hPl, Int.le_refl _, Int.le_refl _⟩ ?_
  rintro j ⟨v, C⟩ j1 j2 ⟨i1, i2, i3, i4, i5, i6, i7⟩
  dsimp only at i1 i2 i3 i4 i5 i6 i7
  have bC : 0 ≤ C 794 0 ∧ C 794 0 ≤ 16 * 512 + 32 := i1 794 0
  unfold zLose1
  dsimp only
  split
  · rename_i q
    refine ⟨zGo_B i1 (by omega) (by omega) (by decide), fun k hk => (zGo_ch k hk).trans (i2 k hk), by dsimp only; rw [zGo_n]; omega, fun t h => ?_, ?_, by dsimp only; omega, by dsimp only; omega⟩
    · dsimp only
      have w := i4 t (by omega)
      rw [zGo_w, if_neg (by omega), zGo_seals bC.1, if_neg (by omega)]
      exact ⟨w.1, by rw [w.2]; omega⟩
    · intro t h
      dsimp only at h ⊢
      unfold zAt at h
      rw [zGo_w] at h ⊢
      rw [zGo_k (by decide)]
      split at h
      · omega
      · rename_i z; rw [if_neg z]; exact i5 t h
  · exact ⟨i1, i2, by dsimp only; omega, fun t h => i4 t (by omega), i5, i6, by dsimp only; omega⟩
theorem zLose_p {A : zA} {g : Int} (hB : zB 511 A) (hPl : zPl A) (hc : ∀ t, zTh A t → zSeals A t < 1024) {i n : Int} (hi : 0 ≤ i ∧ i ≤ n) (hn : n ≤ A 785 0) : zPsi (zF (zLose1 g) (0, A) i).2 ≤ zPsi (zF (zLose1 g) (0, A) n).2 := by
  refine zloopI (i := i) (I := fun n => zPsi (zF (zLose1 g) (0, A) i).2 ≤ zPsi (zF (zLose1 g) (0, A) n).2) (P := fun _ => zPsi (zF (zLose1 g) (0, A) i).2 ≤ zPsi (zF (zLose1 g) (0, A) n).2) n hi.2 (Int.le_refl _) ?_ (fun q => q) (fun j h1 h2 hi q => q)
  intro j j1 j2 h
  have w := zLose_w (g := g) hB hPl hc j (by omega)
  rw [zF_s (by omega)]
  unfold zLose1
  have bC : 0 ≤ (zF (zLose1 g) (0, A) j).2 794 0 ∧ _ := w.1 794 0
  have e785 : (zF (zLose1 g) (0, A) j).2 785 0 = A 785 0 := by rw [w.2.1 785 (by decide)]
  split
  · refine Int.le_trans h (zPsi_m bC.1 (by unfold zTh; rw [e785]; omega) ?_)
    rw [(w.2.2.2.1 j (Int.le_refl _)).2]
    exact hc j ⟨by omega, by omega⟩
  · exact h
theorem c_strike {e : gE} {b : Nat} {m : Int} {G : gH} {A : zA} {T Q P : Int → Int} {g : Int} (hR : zRc e b m G A T Q P) (hB : zB 511 A) (hPl : zPl A) (hc : ∀ t, zTh A t → zSeals A t < 1024) (h2 : A 788 0 = 2) : GX e b m m_Years_strike [(2, ((b : Int) + 18)), (0, g)] G 16 (zPsi (zF (zLose1 g) (0, A) (A 785 0)).2 - zPsi A).toNat (fun v G1 => v = (zF (zLose1 g) (0, A) (A 785 0)).1 ∧ zRc e b m G1 (zF (zLose1 g) (0, A) (A 785 0)).2 T Q P ∧ zRf m G G1) := by
  refine GM.inv fun hF => ?_
  have hlo := fx_lo hF
  have b0 : 0 ≤ A 785 0 ∧ A 785 0 ≤ 16 := hB 785 0
  refine GM.ofEV (by decide) (Nat.le_of_ble_eq_true rfl) (sg_Years_strike_0 ?_)
  refine zloop (P := fun i => ∀ (G1 : gH) (kc ks : Nat), zRc e b m G1 (zF (zLose1 g) (0, A) i).2 T Q P → zRf m G G1 → (A 785 0 - i ≤ kc) → zPsi (zF (zLose1 g) (0, A) (A 785 0)).2 - zPsi (zF (zLose1 g) (0, A) i).2 ≤ ks → EX e b m m_Years_strike (fun v G1 => v = (zF (zLose1 g) (0, A) (A 785 0)).1 ∧ zRc e b m G1 (zF (zLose1 g) (0, A) (A 785 0)).2 T Q P ∧ zRf m G G1) kc ks 4 [(2, ((b : Int) + 18)), (0, g), (0, (zF (zLose1 g) (0, A) i).1), (0, i), (9, 0)] [] G1) (i := 0) (A 785 0) b0.1 ?_ ?_ G 16 _ hR zRf_r (by omega) (by show zPsi _ - zPsi A ≤ _; omega)
  · intro G1 kc ks k1 k2 k3 k4
    have w := zLose_w (g := g) hB hPl hc (A 785 0) ⟨b0.1, Int.le_refl _⟩
    have e785 : (zF (zLose1 g) (0, A) (A 785 0)).2 785 0 = A 785 0 := by rw [w.2.1 785 (by decide)]
    refine sg_Years_strike_4 ?_
    rw [k1.2.1.1.2.1, e785]
    exact ⟨⟨k1.2.1.1.1, fun _ => ⟨rfl, k1, k2⟩, fun q => absurd q (by omega)⟩, fun q => by rcases q with q | q <;> exact absurd q.1 (by omega)⟩
  · intro j j1 j2 st G1 kc ks k1 k2 k3 k4
    have w := zLose_w (g := g) hB hPl hc j ⟨j1, by omega⟩
    have wp := zLose_p (g := g) hB hPl hc (i := j + 1) (n := A 785 0) (by omega) (Int.le_refl _)
    have wq := zLose_p (g := g) hB hPl hc (i := j) (n := j + 1) (by omega) (by omega)
    rw [zF_s j1] at st wp wq
    generalize hr : zF (zLose1 g) (0, A) j = r at *
    obtain ⟨v, C⟩ := r
    dsimp only at *
    obtain ⟨c1, c2, c3, c4, c5, c6, c7⟩ := w
    have e785 : C 785 0 = A 785 0 := by rw [c2 785 (by decide)]
    have b1 : 0 ≤ C 787 0 ∧ C 787 0 ≤ 5 := c1 787 0
    have bw : 0 ≤ C 791 0 ∧ C 791 0 ≤ 1000 := c1 791 0
    have k10 := k1
    obtain ⟨⟨r1, r2, r3, r4⟩, hT, hQ, hP, hJ, hD⟩ := k1
    have y := zTa_p hT c1
    have ye := zTa_e hT j
    have x := zPa_p hP c1
    have hj : zTh C j := ⟨j1, by omega⟩
    rw [hT.1.2.1] at ye
    rw [if_pos hj, if_pos hj] at ye
    have y4 := y.2.2 j (by rw [hT.1.2.1]; exact hj)
    rw [ye] at y4
    have tt := (hT.2.1 j j1 (by omega)).1
    have x0 : ∀ p, 0 ≤ p → p < C 787 0 → 0 < P p := fun p p1 p2 => by have := (hP.2.1 p p1 p2).1.1; omega
    refine sg_Years_strike_4 ?_
    rw [ye, tt.2.2.2.2.2.2.1, zPa_e hP, r4.2.1]
    by_cases z : zAt C j
    · have hq : 0 ≤ C 11 j - 400 ∧ C 11 j - 400 < C 787 0 := ⟨by omega, c5 j z⟩
      have tq := hP.1.2.2.1 _ hq.1 hq.2
      have wq2 := (hP.2.1 _ hq.1 hq.2).1
      have q0 := x0 _ hq.1 hq.2
      have x3 := x.2.2 (C 11 j - 400)
      rw [if_pos z, if_pos hq, wq2.2.2.1]
      refine ⟨⟨y.2.1, fun q => absurd q (by rw [hT.1.2.1]; omega), fun _ => ⟨y4.1, by rw [hT.1.2.1]; exact hj, y4.2.1, y4.2.2, y4.2.2, x.1, x.2.1, x3, fun _ => ⟨tq, tq, fun gq => ?_⟩⟩⟩, fun q => ⟨by omega, ?_⟩⟩
      · have es : zLose1 g j (v, C) = (v + 1, zGo C j 500) := if_pos ⟨z, gq⟩
        rw [es] at st wp wq
        dsimp only at st wp wq
        have k := c_goYears (w := 500) (t := j) r1 r2 r3 r4 hT hQ hP hJ hD c1 (by rw [(c4 j (Int.le_refl _)).2]; exact hc j ⟨j1, j2⟩) hj (by rw [c2 788 (by decide)]; exact h2) (by decide) (by omega)
        refine ⟨by omega, kc - 1, ks - (zPsi (zGo C j 500) - zPsi C).toNat, 1, _, by omega, by omega, GM.mono k ?_⟩
        rintro v2 G2 ⟨l1, l2⟩
        exact ⟨by omega, by omega, st G2 _ _ l1 (zRf_t k2 l2) (by omega) (by omega)⟩
      · have ng : ¬ (zAt C j ∧ C 24 (C 11 j - 400) = g) := by
          rcases q with q | q
          · have := q.2; omega
          · exact fun w => q.2.2 w.2
        have es : zLose1 g j (v, C) = (v, C) := if_neg ng
        rw [es] at st
        exact st G1 kc ks k10 k2 (by omega) k4
    · rw [if_neg z, if_neg (by omega)]
      have es : zLose1 g j (v, C) = (v, C) := if_neg (fun w => z w.1)
      rw [es] at st
      have x3 := x.2.2 (-1)
      refine ⟨⟨y.2.1, fun q => absurd q (by rw [hT.1.2.1]; omega), fun _ => ⟨y4.1, by rw [hT.1.2.1]; exact hj, y4.2.1, y4.2.2, y4.2.2, x.1, x.2.1, x3, fun w => absurd rfl w⟩⟩, fun q => ⟨by omega, st G1 kc ks k10 k2 (by omega) k4⟩⟩
theorem c_C_lose {e : gE} {b : Nat} {m : Int} {G : gH} {A : zA} {p1 : Int} (hR : zRel e b m G A) (hB : zB 511 A) (hPl : zPl A) (hc : ∀ t, zTh A t → zSeals A t < 1024) : GX e b m m_C_lose [(2, ((b : Int) + 1)), (0, p1)] G 16 (zPsi (zfLose A p1).2 - zPsi A).toNat (zCQ e b m G (zfLose A p1)) := by
  have hB5 := zB_mono hB (show (511 : Int) ≤ 512 by decide)
  have hr := hR
  obtain ⟨T, Q, P, hRc⟩ := hr
  have e2 := hRc.1.2.1.2.2.2.1
  refine GM.ofEV (by decide) (Nat.le_of_ble_eq_true rfl) (sg_C_lose_0 ?_)
  rw [e2]
  refine ⟨fun q1 => ⟨fun q2 => ?_, fun q2 => ?_⟩, fun q1 => ?_⟩
  · rw [show zfLose A p1 = zNo A (-6) from by unfold zfLose; rw [if_neg (by omega), if_pos q2]]
    exact c_C_refuse hR hB5 (by decide)
  · rw [show zfLose A p1 = zF (zLose1 p1) (0, A) (A 785 0) from by unfold zfLose; rw [if_neg (by omega), if_neg (by omega)]]
    refine ⟨0, 0, 16, _, by omega, by rw [Nat.zero_add], GM.mono (c_strike hRc hB hPl hc q2) ?_⟩
    rintro v G1 ⟨k1, k2, k3⟩
    exact ⟨k1, zRc_r k2, k3⟩
  · rw [show zfLose A p1 = zNo A (-1) from by unfold zfLose; rw [if_pos (by omega)]]
    exact c_C_refuse hR hB5 (by decide)
