/-! THE CLASS, 17: calls that let things go -/
set_option maxRecDepth 20000 in
set_option maxHeartbeats 4000000 in
theorem sg_Years_timeNow_0 {e : gE} {b : Nat} {m : Int} {Z : Int → gH → Prop} {kc ks : Nat} {G : gH} (h : (inI (1000 + (G 661 ((b : Int) + 18) 0))) ∧ Z (1000 + (G 661 ((b : Int) + 18) 0)) G) : EX e b m m_Years_timeNow Z kc ks 0 [(2, ((b : Int) + 18))] [] G := by
  refine e_sipush d_Years_timeNow_0 (by decide) (by decide) ?_
  refine e_aload_n d_Years_timeNow_3 rfl ?_
  refine gx_Years_58 d_Years_timeNow_4 rfl ?_
  obtain ⟨o1, h⟩ := h
  refine e_iadd d_Years_timeNow_7 o1 ?_
  exact e_iret d_Years_timeNow_8 rfl h
theorem c_Years_timeNow {e : gE} {b : Nat} {m : Int} {G : gH} (h1 : inI (1000 + G 661 ((b : Int) + 18) 0)) : GX e b m m_Years_timeNow [(2, ((b : Int) + 18))] G 0 0 (fun v9 G9 => v9 = (1000 + G 661 ((b : Int) + 18) 0 : Int) ∧ G9 = G) := by
  refine GM.ofEV (by decide) (Nat.le_of_ble_eq_true rfl) (sg_Years_timeNow_0 ?_)
  repeat' (first | apply And.intro | intro _)
  all_goals first | assumption | rfl | omega | (rw [if_pos (by omega)]) | (rw [if_neg (by omega)])
theorem zRkT_τ {e : gE} {b : Nat} {m : Int} {G : gH} {A : zA} {T τ σ : Int → Int} (h : zRkT e b m G A T τ) (q : ∀ t, 0 ≤ t → t < A 785 0 → σ t = τ t) : zRkT e b m G A T σ := ⟨h.1, fun t t1 t2 => by rw [q t t1 t2]; exact h.2.1 t t1 t2, h.2.2⟩
/-- slots that seals have taken -/
def zPsi (A : zA) : Int := zS (fun t => 2 * zSL (zSeals A t)) (A 785 0)
theorem zPsi_go {A : zA} {t w : Int} (hs : 0 ≤ A 794 0) (ht : zTh A t) : zPsi (zGo A t w) = zPsi A + (2 * zSL (zSeals A t + 1) - 2 * zSL (zSeals A t)) := by
  unfold zPsi
  rw [zGo_k (by decide)]
  have := zS_at (f := fun u => 2 * zSL (zSeals (zGo A t w) u)) (g := fun u => 2 * zSL (zSeals A u)) ht (fun i _ _ q => by
    show 2 * zSL (zSeals (zGo A t w) i) = 2 * zSL (zSeals A i)
    rw [zGo_seals hs, if_neg (fun z => q z.symm), Int.add_zero (zSeals A i)])
  rw [this]
  show _ + (2 * zSL (zSeals (zGo A t w) t) - _) = _
  rw [zGo_seals hs, if_pos rfl]
theorem zGo_ch {A : zA} {t w : Int} : zCh [35, 36, 37, 794, 38, 11] A (zGo A t w) := fun k q => funext fun i => zGo_k (by simp at q; omega)
theorem c_goYears {e : gE} {b : Nat} {m : Int} {G : gH} {A : zA} {T Q P : Int → Int} {t w : Int} (r1 : zR1 b G A) (r2 : zR2 b G A) (r3 : zR3 b G A) (r4 : zR4 b G A) (tR : zRkT e b m G A T (zTau A)) (qR : zRkQ e b m G A T Q) (pR : zRkP e b m G A P) (jR : zRkJ e b m G A T) (dR : zDst b G) (hB : zB 512 A) (hc : zSeals A t < 1024) (ht : zTh A t) (hp : A 788 0 = 2) (hw : 300 ≤ w) (h0 : 300 ≤ A 11 t) : GX e b m m_Thing_goTo [(2, T t), (0, w), (0, (1000 + A 791 0))] G 1 (zPsi (zGo A t w) - zPsi A).toNat (fun _ G1 => zRc e b m G1 (zGo A t w) T Q P ∧ zRf m G G1) := by
  refine GM.tg fun hTg => GM.inv fun hF => ?_
  have hlo := fx_lo hF
  have bs : 0 ≤ A 794 0 ∧ A 794 0 ≤ 16 * 512 + 32 := hB 794 0
  have k := c_goTo (w := w) tR bs.1 hc ht (by omega)
  rw [show zTime A = 1000 + A 791 0 from if_pos hp] at k
  rw [show zPsi (zGo A t w) - zPsi A = 2 * zSL (zSeals A t + 1) - 2 * zSL (zSeals A t) from by rw [zPsi_go bs.1 ht]; omega]
  refine GM.mono k ?_
  rintro v G1 ⟨k1, k2⟩
  refine ⟨zRel_T hTg hlo r1 r2 r3 r4 tR qR pR jR dR k2 (by decide) zGo_ch (by decide) (zRkT_τ k1 (fun u u1 u2 => ?_)) ?_, zRf_fw hlo.2 k2⟩
  · unfold zTau zIn
    rw [zGo_w, zGo_k (by decide)]
    by_cases z : u = t
    · subst z
      rw [if_pos rfl, if_neg (by omega), if_neg (by omega), if_neg (by omega), if_neg (by omega)]
    · rw [if_neg z]
  · obtain ⟨⟨n, f, h1, -⟩, ⟨n2, f2, h3⟩, ⟨n3, f3, h4⟩⟩ := jR
    exact ⟨⟨n, f, zAL_fw hTg hlo (by decide) k2 (by decide) (by decide) h1, fun z => by rw [zGo_k (by decide)] at z; omega⟩, ⟨n2, f2, zAL_fw hTg hlo (by decide) k2 (by decide) (by decide) h3⟩, ⟨n3, f3, zAL_fw hTg hlo (by decide) k2 (by decide) (by decide) h4⟩⟩
set_option maxRecDepth 20000 in
set_option maxHeartbeats 4000000 in
theorem sg_C_found_0 {e : gE} {b : Nat} {m : Int} {Z : Int → gH → Prop} {kc ks : Nat} {G : gH} {p1 : Int} (h : ((0 ≤ G 18 ((b : Int) + 2) 0 ∧ G 18 ((b : Int) + 2) 0 ≤ 16) ∧ ((G 0 ((b : Int) + 2) 0 = 1) ∧ ((0 ≤ p1 ∧ p1 < G 18 ((b : Int) + 2) 0 → G 0 (G 17 ((b : Int) + 2) 0) 0 = 103 ∧ G 18 ((b : Int) + 2) 0 ≤ G 0 (G 17 ((b : Int) + 2) 0) 1 ∧ G 0 (G 3 (G 17 ((b : Int) + 2) 0) p1) 0 = 10) ∧ ((((if 0 ≤ p1 ∧ p1 < G 18 ((b : Int) + 2) 0 then G 3 (G 17 ((b : Int) + 2) 0) p1 else 0) ≠ 0) → ((G 730 ((b : Int) + 1) 0) = 2 → (G 0 (if 0 ≤ p1 ∧ p1 < G 18 ((b : Int) + 2) 0 then G 3 (G 17 ((b : Int) + 2) 0) p1 else 0) 0 = 10) ∧ ((G 0 (if 0 ≤ p1 ∧ p1 < G 18 ((b : Int) + 2) 0 then G 3 (G 17 ((b : Int) + 2) 0) p1 else 0) 0 = 10) ∧ (((G 598 (if 0 ≤ p1 ∧ p1 < G 18 ((b : Int) + 2) 0 then G 3 (G 17 ((b : Int) + 2) 0) p1 else 0) 0) = 500) → (inI (1000 + G 661 ((b : Int) + 18) 0)) ∧ ∃ kc17 ks18 mc19 ms20 : Nat, kc = kc17 + mc19 ∧ ks = ks18 + ms20 ∧ GX e b m m_Thing_goTo [(2, (if 0 ≤ p1 ∧ p1 < G 18 ((b : Int) + 2) 0 then G 3 (G 17 ((b : Int) + 2) 0) p1 else 0)), (0, 300), (0, (1000 + G 661 ((b : Int) + 18) 0))] G mc19 ms20 (fun _ G16 => Z 1 G16))))) ∧ (((if 0 ≤ p1 ∧ p1 < G 18 ((b : Int) + 2) 0 then G 3 (G 17 ((b : Int) + 2) 0) p1 else 0) = 0) → GX e b m m_C_refuse [(2, ((b : Int) + 1)), (0, (-1))] G 0 0 (fun v22 G23 => Z v22 G23)))))) ∧ (((((if 0 ≤ p1 ∧ p1 < G 18 ((b : Int) + 2) 0 then G 3 (G 17 ((b : Int) + 2) 0) p1 else 0) ≠ 0) ∧ (G 730 ((b : Int) + 1) 0) ≠ 2) ∨ (((if 0 ≤ p1 ∧ p1 < G 18 ((b : Int) + 2) 0 then G 3 (G 17 ((b : Int) + 2) 0) p1 else 0) ≠ 0) ∧ (G 730 ((b : Int) + 1) 0) = 2 ∧ ((G 598 (if 0 ≤ p1 ∧ p1 < G 18 ((b : Int) + 2) 0 then G 3 (G 17 ((b : Int) + 2) 0) p1 else 0) 0) ≠ 500))) → GX e b m m_C_refuse [(2, ((b : Int) + 1)), (0, (-6))] G 0 0 (fun v26 G27 => Z v26 G27))) : EX e b m m_C_found Z kc ks 0 [(2, ((b : Int) + 1)), (0, p1), (9, 0)] [] G := by
  obtain ⟨h, hJ24⟩ := h
  have kJ24 : ((((if 0 ≤ p1 ∧ p1 < G 18 ((b : Int) + 2) 0 then G 3 (G 17 ((b : Int) + 2) 0) p1 else 0) ≠ 0) ∧ (G 730 ((b : Int) + 1) 0) ≠ 2) ∨ (((if 0 ≤ p1 ∧ p1 < G 18 ((b : Int) + 2) 0 then G 3 (G 17 ((b : Int) + 2) 0) p1 else 0) ≠ 0) ∧ (G 730 ((b : Int) + 1) 0) = 2 ∧ ((G 598 (if 0 ≤ p1 ∧ p1 < G 18 ((b : Int) + 2) 0 then G 3 (G 17 ((b : Int) + 2) 0) p1 else 0) 0) ≠ 500))) → EX e b m m_C_found Z kc ks 34 [(2, ((b : Int) + 1)), (0, p1), (2, (if 0 ≤ p1 ∧ p1 < G 18 ((b : Int) + 2) 0 then G 3 (G 17 ((b : Int) + 2) 0) p1 else 0))] [] G := by
    intro rJ24
    have h := hJ24 rJ24
    refine e_aload_n d_C_found_34 rfl ?_
    refine e_bipush d_C_found_35 (by decide) (by decide) ?_
    refine EV.inv fun hFf25 => ?_
    have f25 := (fx_ct 0 rfl hFf25).1
    refine e_callV m_C_refuse 11 lw_good d_C_found_37 (k_C_refuse _) ⟨Nat.le_of_ble_eq_true rfl, Nat.le_of_ble_eq_true rfl⟩ w_297 w_299 w_s0 (q_C _) rfl f25 (args := [(0, (-6))]) rfl rfl (Nat.le_of_ble_eq_true rfl) (kc' := kc) (ks' := ks) (mc := 0) (ms := 0) rfl rfl h ?_
    intro v26 G27 h
    exact e_iret d_C_found_40 rfl h
  refine e_aload_n d_C_found_0 rfl ?_
  refine e_iload_n d_C_found_1 rfl ?_
  refine EV.inv fun hFf1 => ?_
  have f1 := (fx_ct 0 rfl hFf1).1
  obtain ⟨o2, o3, o4, h⟩ := h
  refine e_callV m_C_thingAt 11 lw_good d_C_found_2 (k_C_thingAt _) ⟨Nat.le_of_ble_eq_true rfl, Nat.le_of_ble_eq_true rfl⟩ w_846 w_848 w_s24 (q_C _) rfl f1 (args := [(0, p1)]) rfl rfl (Nat.le_of_ble_eq_true rfl) (kc' := kc) (ks' := ks) (mc := 0) (ms := 0) rfl rfl (c_C_thingAt o2 o3 o4) (pureK ?_)
  refine e_astore_n (ls' := [(2, ((b : Int) + 1)), (0, p1), (2, (if 0 ≤ p1 ∧ p1 < G 18 ((b : Int) + 2) 0 then G 3 (G 17 ((b : Int) + 2) 0) p1 else 0))]) d_C_found_5 (by decide) rfl ?_
  refine e_aload_n d_C_found_6 rfl ?_
  refine e_ifnonnull (tgt := 16) d_C_found_7 (by decide) (fun q5 => ?_) (fun q6 => ?_)
  · have h := h.1 q5
    refine e_aload_n d_C_found_16 rfl ?_
    refine gx_C_81 d_C_found_17 rfl ?_
    refine e_iconst d_C_found_20 (by decide) ?_
    refine e_icmp_ne (tgt := 34) d_C_found_21 (by decide) (fun q7 => ?_) (fun q8 => ?_)
    · exact kJ24 (Or.inl ⟨q5, q7⟩)
    · have h := h q8
      refine e_aload_n d_C_found_24 rfl ?_
      obtain ⟨o9, o10, h⟩ := h
      refine e_callV m_Thing_where 9 lw_good d_C_found_25 (k_Thing_where _) ⟨Nat.le_of_ble_eq_true rfl, Nat.le_of_ble_eq_true rfl⟩ w_1305 w_1306 w_1307 (q_Thing _) rfl o9 (args := []) rfl rfl (Nat.le_of_ble_eq_true rfl) (kc' := kc) (ks' := ks) (mc := 0) (ms := 0) rfl rfl (c_Thing_where o10) (pureK ?_)
      refine e_sipush d_C_found_28 (by decide) (by decide) ?_
      refine e_icmp_eq (tgt := 41) d_C_found_31 (by decide) (fun q11 => ?_) (fun q12 => ?_)
      · have h := h q11
        refine e_aload_n d_C_found_41 rfl ?_
        refine e_sipush d_C_found_42 (by decide) (by decide) ?_
        refine e_aload_n d_C_found_45 rfl ?_
        refine gx_C_37 d_C_found_46 rfl ?_
        refine EV.inv fun hFf13 => ?_
        have f13 := (fx_ct 17 rfl hFf13).1
        obtain ⟨o14, h⟩ := h
        refine e_callV m_Years_timeNow 10 lw_good d_C_found_49 (k_Years_timeNow _) ⟨Nat.le_of_ble_eq_true rfl, Nat.le_of_ble_eq_true rfl⟩ w_1309 w_1252 w_1253 (q_Years _) rfl f13 (args := []) rfl rfl (Nat.le_of_ble_eq_true rfl) (kc' := kc) (ks' := ks) (mc := 0) (ms := 0) rfl rfl (c_Years_timeNow o14) (pureK ?_)
        obtain ⟨kc17, ks18, mc19, ms20, hkc17, hks18, h⟩ := h
        refine e_callV m_Thing_goTo 9 lw_good d_C_found_52 (k_Thing_goTo _) ⟨Nat.le_of_ble_eq_true rfl, Nat.le_of_ble_eq_true rfl⟩ w_1310 w_966 w_967 (q_Thing _) rfl o9 (args := [(0, 300), (0, (1000 + G 661 ((b : Int) + 18) 0))]) rfl rfl (Nat.le_of_ble_eq_true rfl) (kc' := kc17) (ks' := ks18) (mc := mc19) (ms := ms20) hkc17 hks18 h ?_
        intro v15 G16 h
        refine e_iconst d_C_found_55 (by decide) ?_
        exact e_iret d_C_found_56 rfl h
      · exact kJ24 (Or.inr ⟨q5, q8, q12⟩)
  · have h := h.2 q6
    refine e_aload_n d_C_found_10 rfl ?_
    refine e_iconst d_C_found_11 (by decide) ?_
    refine EV.inv fun hFf21 => ?_
    have f21 := (fx_ct 0 rfl hFf21).1
    refine e_callV m_C_refuse 11 lw_good d_C_found_12 (k_C_refuse _) ⟨Nat.le_of_ble_eq_true rfl, Nat.le_of_ble_eq_true rfl⟩ w_297 w_299 w_s0 (q_C _) rfl f21 (args := [(0, (-1))]) rfl rfl (Nat.le_of_ble_eq_true rfl) (kc' := kc) (ks' := ks) (mc := 0) (ms := 0) rfl rfl h ?_
    intro v22 G23 h
    exact e_iret d_C_found_15 rfl h
set_option maxRecDepth 20000 in
set_option maxHeartbeats 4000000 in
theorem sg_C_giveBack_0 {e : gE} {b : Nat} {m : Int} {Z : Int → gH → Prop} {kc ks : Nat} {G : gH} {p1 p2 : Int} (h : (0 ≤ G 18 ((b : Int) + 2) 0 ∧ G 18 ((b : Int) + 2) 0 ≤ 16) ∧ ((G 0 ((b : Int) + 2) 0 = 1) ∧ ((0 ≤ p1 ∧ p1 < G 18 ((b : Int) + 2) 0 → G 0 (G 17 ((b : Int) + 2) 0) 0 = 103 ∧ G 18 ((b : Int) + 2) 0 ≤ G 0 (G 17 ((b : Int) + 2) 0) 1 ∧ G 0 (G 3 (G 17 ((b : Int) + 2) 0) p1) 0 = 10) ∧ ((((if 0 ≤ p1 ∧ p1 < G 18 ((b : Int) + 2) 0 then G 3 (G 17 ((b : Int) + 2) 0) p1 else 0) ≠ 0) → (G 0 (if 0 ≤ p1 ∧ p1 < G 18 ((b : Int) + 2) 0 then G 3 (G 17 ((b : Int) + 2) 0) p1 else 0) 0 = 10) ∧ (GX e b m m_Thing_holderIn [(2, (if 0 ≤ p1 ∧ p1 < G 18 ((b : Int) + 2) 0 then G 3 (G 17 ((b : Int) + 2) 0) p1 else 0)), (0, p2)] G 0 0 (fun v8 G9 => ((G9 730 ((b : Int) + 1) 0) = 2 → (G9 0 (if 0 ≤ p1 ∧ p1 < G 18 ((b : Int) + 2) 0 then G 3 (G 17 ((b : Int) + 2) 0) p1 else 0) 0 = 10) ∧ ((G9 0 (if 0 ≤ p1 ∧ p1 < G 18 ((b : Int) + 2) 0 then G 3 (G 17 ((b : Int) + 2) 0) p1 else 0) 0 = 10) ∧ ((300 ≤ G9 598 (if 0 ≤ p1 ∧ p1 < G 18 ((b : Int) + 2) 0 then G 3 (G 17 ((b : Int) + 2) 0) p1 else 0) 0 ∧ G9 598 (if 0 ≤ p1 ∧ p1 < G 18 ((b : Int) + 2) 0 then G 3 (G 17 ((b : Int) + 2) 0) p1 else 0) 0 < 500) → (v8 ≠ (-1) → (v8 ≠ 100 → (inI (600 + v8)) ∧ (inI (1000 + G9 661 ((b : Int) + 18) 0)) ∧ ∃ kc25 ks26 mc27 ms28 : Nat, kc = kc25 + mc27 ∧ ks = ks26 + ms28 ∧ GX e b m m_Thing_goTo [(2, (if 0 ≤ p1 ∧ p1 < G 18 ((b : Int) + 2) 0 then G 3 (G 17 ((b : Int) + 2) 0) p1 else 0)), (0, (600 + v8)), (0, (1000 + G9 661 ((b : Int) + 18) 0))] G9 mc27 ms28 (fun _ G24 => Z v8 G24)))))) ∧ (((G9 730 ((b : Int) + 1) 0) ≠ 2 ∨ ((G9 730 ((b : Int) + 1) 0) = 2 ∧ (¬ (300 ≤ G9 598 (if 0 ≤ p1 ∧ p1 < G 18 ((b : Int) + 2) 0 then G 3 (G 17 ((b : Int) + 2) 0) p1 else 0) 0 ∧ G9 598 (if 0 ≤ p1 ∧ p1 < G 18 ((b : Int) + 2) 0 then G 3 (G 17 ((b : Int) + 2) 0) p1 else 0) 0 < 500))) ∨ ((G9 730 ((b : Int) + 1) 0) = 2 ∧ (300 ≤ G9 598 (if 0 ≤ p1 ∧ p1 < G 18 ((b : Int) + 2) 0 then G 3 (G 17 ((b : Int) + 2) 0) p1 else 0) 0 ∧ G9 598 (if 0 ≤ p1 ∧ p1 < G 18 ((b : Int) + 2) 0 then G 3 (G 17 ((b : Int) + 2) 0) p1 else 0) 0 < 500) ∧ v8 = (-1)) ∨ ((G9 730 ((b : Int) + 1) 0) = 2 ∧ (300 ≤ G9 598 (if 0 ≤ p1 ∧ p1 < G 18 ((b : Int) + 2) 0 then G 3 (G 17 ((b : Int) + 2) 0) p1 else 0) 0 ∧ G9 598 (if 0 ≤ p1 ∧ p1 < G 18 ((b : Int) + 2) 0 then G 3 (G 17 ((b : Int) + 2) 0) p1 else 0) 0 < 500) ∧ v8 ≠ (-1) ∧ v8 = 100)) → GX e b m m_C_refuse [(2, ((b : Int) + 1)), (0, (-6))] G9 0 0 (fun v31 G32 => Z v31 G32))))) ∧ (((if 0 ≤ p1 ∧ p1 < G 18 ((b : Int) + 2) 0 then G 3 (G 17 ((b : Int) + 2) 0) p1 else 0) = 0) → GX e b m m_C_refuse [(2, ((b : Int) + 1)), (0, (-1))] G 0 0 (fun v34 G35 => Z v34 G35)))))) : EX e b m m_C_giveBack Z kc ks 0 [(2, ((b : Int) + 1)), (0, p1), (0, p2), (9, 0), (9, 0)] [] G := by
  refine e_aload_n d_C_giveBack_0 rfl ?_
  refine e_iload_n d_C_giveBack_1 rfl ?_
  refine EV.inv fun hFf1 => ?_
  have f1 := (fx_ct 0 rfl hFf1).1
  obtain ⟨o2, o3, o4, h⟩ := h
  refine e_callV m_C_thingAt 11 lw_good d_C_giveBack_2 (k_C_thingAt _) ⟨Nat.le_of_ble_eq_true rfl, Nat.le_of_ble_eq_true rfl⟩ w_846 w_848 w_s24 (q_C _) rfl f1 (args := [(0, p1)]) rfl rfl (Nat.le_of_ble_eq_true rfl) (kc' := kc) (ks' := ks) (mc := 0) (ms := 0) rfl rfl (c_C_thingAt o2 o3 o4) (pureK ?_)
  refine e_astore_n (ls' := [(2, ((b : Int) + 1)), (0, p1), (0, p2), (2, (if 0 ≤ p1 ∧ p1 < G 18 ((b : Int) + 2) 0 then G 3 (G 17 ((b : Int) + 2) 0) p1 else 0)), (9, 0)]) d_C_giveBack_5 (by decide) rfl ?_
  refine e_aload_n d_C_giveBack_6 rfl ?_
  refine e_ifnonnull (tgt := 16) d_C_giveBack_7 (by decide) (fun q5 => ?_) (fun q6 => ?_)
  · have h := h.1 q5
    refine e_aload_n d_C_giveBack_16 rfl ?_
    refine e_iload_n d_C_giveBack_17 rfl ?_
    obtain ⟨o7, h⟩ := h
    refine e_callV m_Thing_holderIn 9 lw_good d_C_giveBack_18 (k_Thing_holderIn _) ⟨Nat.le_of_ble_eq_true rfl, Nat.le_of_ble_eq_true rfl⟩ w_1327 w_1328 w_1329 (q_Thing _) rfl o7 (args := [(0, p2)]) rfl rfl (Nat.le_of_ble_eq_true rfl) (kc' := kc) (ks' := ks) (mc := 0) (ms := 0) rfl rfl h ?_
    intro v8 G9 h
    obtain ⟨h, hJ29⟩ := h
    have kJ29 : ((G9 730 ((b : Int) + 1) 0) ≠ 2 ∨ ((G9 730 ((b : Int) + 1) 0) = 2 ∧ (¬ (300 ≤ G9 598 (if 0 ≤ p1 ∧ p1 < G 18 ((b : Int) + 2) 0 then G 3 (G 17 ((b : Int) + 2) 0) p1 else 0) 0 ∧ G9 598 (if 0 ≤ p1 ∧ p1 < G 18 ((b : Int) + 2) 0 then G 3 (G 17 ((b : Int) + 2) 0) p1 else 0) 0 < 500))) ∨ ((G9 730 ((b : Int) + 1) 0) = 2 ∧ (300 ≤ G9 598 (if 0 ≤ p1 ∧ p1 < G 18 ((b : Int) + 2) 0 then G 3 (G 17 ((b : Int) + 2) 0) p1 else 0) 0 ∧ G9 598 (if 0 ≤ p1 ∧ p1 < G 18 ((b : Int) + 2) 0 then G 3 (G 17 ((b : Int) + 2) 0) p1 else 0) 0 < 500) ∧ v8 = (-1)) ∨ ((G9 730 ((b : Int) + 1) 0) = 2 ∧ (300 ≤ G9 598 (if 0 ≤ p1 ∧ p1 < G 18 ((b : Int) + 2) 0 then G 3 (G 17 ((b : Int) + 2) 0) p1 else 0) 0 ∧ G9 598 (if 0 ≤ p1 ∧ p1 < G 18 ((b : Int) + 2) 0 then G 3 (G 17 ((b : Int) + 2) 0) p1 else 0) 0 < 500) ∧ v8 ≠ (-1) ∧ v8 = 100)) → EX e b m m_C_giveBack Z kc ks 51 [(2, ((b : Int) + 1)), (0, p1), (0, p2), (2, (if 0 ≤ p1 ∧ p1 < G 18 ((b : Int) + 2) 0 then G 3 (G 17 ((b : Int) + 2) 0) p1 else 0)), (0, v8)] [] G9 := by
      intro rJ29
      have h := hJ29 rJ29
      refine e_aload_n d_C_giveBack_51 rfl ?_
      refine e_bipush d_C_giveBack_52 (by decide) (by decide) ?_
      refine EV.inv fun hFf30 => ?_
      have f30 := (fx_ct 0 rfl hFf30).1
      refine e_callV m_C_refuse 11 lw_good d_C_giveBack_54 (k_C_refuse _) ⟨Nat.le_of_ble_eq_true rfl, Nat.le_of_ble_eq_true rfl⟩ w_297 w_299 w_s0 (q_C _) rfl f30 (args := [(0, (-6))]) rfl rfl (Nat.le_of_ble_eq_true rfl) (kc' := kc) (ks' := ks) (mc := 0) (ms := 0) rfl rfl h ?_
      intro v31 G32 h
      exact e_iret d_C_giveBack_57 rfl h
    refine e_istore (ls' := [(2, ((b : Int) + 1)), (0, p1), (0, p2), (2, (if 0 ≤ p1 ∧ p1 < G 18 ((b : Int) + 2) 0 then G 3 (G 17 ((b : Int) + 2) 0) p1 else 0)), (0, v8)]) d_C_giveBack_21 (by decide) rfl ?_
    refine e_aload_n d_C_giveBack_23 rfl ?_
    refine gx_C_81 d_C_giveBack_24 rfl ?_
    refine e_iconst d_C_giveBack_27 (by decide) ?_
    refine e_icmp_ne (tgt := 51) d_C_giveBack_28 (by decide) (fun q10 => ?_) (fun q11 => ?_)
    · exact kJ29 (Or.inl q10)
    · have h := h q11
      refine e_aload_n d_C_giveBack_31 rfl ?_
      obtain ⟨o12, o13, h⟩ := h
      refine e_callV m_Thing_isKept 9 lw_good d_C_giveBack_32 (k_Thing_isKept _) ⟨Nat.le_of_ble_eq_true rfl, Nat.le_of_ble_eq_true rfl⟩ w_1260 w_1134 w_1135 (q_Thing _) rfl o12 (args := []) rfl rfl (Nat.le_of_ble_eq_true rfl) (kc' := kc) (ks' := ks) (mc := 0) (ms := 0) rfl rfl (c_Thing_isKept o13) (pureK ?_)
      refine e_if_eq (tgt := 51) d_C_giveBack_35 (by decide) (fun q14 => ?_) (fun q15 => ?_)
      · replace q14 := gb0.mp q14
        exact kJ29 (Or.inr (Or.inl ⟨q11, q14⟩))
      · replace q15 := gb1.mp q15
        have h := h q15
        refine e_iload d_C_giveBack_38 rfl ?_
        refine e_iconst d_C_giveBack_40 (by decide) ?_
        refine e_icmp_eq (tgt := 51) d_C_giveBack_41 (by decide) (fun q16 => ?_) (fun q17 => ?_)
        · exact kJ29 (Or.inr (Or.inr (Or.inl ⟨q11, q15, q16⟩)))
        · have h := h q17
          refine e_iload d_C_giveBack_44 rfl ?_
          refine e_bipush d_C_giveBack_46 (by decide) (by decide) ?_
          refine e_icmp_ne (tgt := 58) d_C_giveBack_48 (by decide) (fun q18 => ?_) (fun q19 => ?_)
          · have h := h q18
            refine e_aload_n d_C_giveBack_58 rfl ?_
            refine e_sipush d_C_giveBack_59 (by decide) (by decide) ?_
            refine e_iload d_C_giveBack_62 rfl ?_
            obtain ⟨o20, h⟩ := h
            refine e_iadd d_C_giveBack_64 o20 ?_
            refine e_aload_n d_C_giveBack_65 rfl ?_
            refine gx_C_37 d_C_giveBack_66 rfl ?_
            refine EV.inv fun hFf21 => ?_
            have f21 := (fx_ct 17 rfl hFf21).1
            obtain ⟨o22, h⟩ := h
            refine e_callV m_Years_timeNow 10 lw_good d_C_giveBack_69 (k_Years_timeNow _) ⟨Nat.le_of_ble_eq_true rfl, Nat.le_of_ble_eq_true rfl⟩ w_1309 w_1252 w_1253 (q_Years _) rfl f21 (args := []) rfl rfl (Nat.le_of_ble_eq_true rfl) (kc' := kc) (ks' := ks) (mc := 0) (ms := 0) rfl rfl (c_Years_timeNow o22) (pureK ?_)
            obtain ⟨kc25, ks26, mc27, ms28, hkc25, hks26, h⟩ := h
            refine e_callV m_Thing_goTo 9 lw_good d_C_giveBack_72 (k_Thing_goTo _) ⟨Nat.le_of_ble_eq_true rfl, Nat.le_of_ble_eq_true rfl⟩ w_1310 w_966 w_967 (q_Thing _) rfl o12 (args := [(0, (600 + v8)), (0, (1000 + G9 661 ((b : Int) + 18) 0))]) rfl rfl (Nat.le_of_ble_eq_true rfl) (kc' := kc25) (ks' := ks26) (mc := mc27) (ms := ms28) hkc25 hks26 h ?_
            intro v23 G24 h
            refine e_iload d_C_giveBack_75 rfl ?_
            exact e_iret d_C_giveBack_77 rfl h
          · exact kJ29 (Or.inr (Or.inr (Or.inr ⟨q11, q15, q17, q19⟩)))
  · have h := h.2 q6
    refine e_aload_n d_C_giveBack_10 rfl ?_
    refine e_iconst d_C_giveBack_11 (by decide) ?_
    refine EV.inv fun hFf33 => ?_
    have f33 := (fx_ct 0 rfl hFf33).1
    refine e_callV m_C_refuse 11 lw_good d_C_giveBack_12 (k_C_refuse _) ⟨Nat.le_of_ble_eq_true rfl, Nat.le_of_ble_eq_true rfl⟩ w_297 w_299 w_s0 (q_C _) rfl f33 (args := [(0, (-1))]) rfl rfl (Nat.le_of_ble_eq_true rfl) (kc' := kc) (ks' := ks) (mc := 0) (ms := 0) rfl rfl h ?_
    intro v34 G35 h
    exact e_iret d_C_giveBack_15 rfl h
/-- where things can be -/
def zWv (A : zA) : Prop := ∀ t, zTh A t → 100 ≤ A 11 t ∧ (300 ≤ A 11 t → A 11 t < 400 → A 11 t = 300) ∧ (500 ≤ A 11 t → A 11 t < 600 → A 11 t = 500)
theorem c_C_found {e : gE} {b : Nat} {m : Int} {G : gH} {A : zA} {p1 : Int} (hR : zRel e b m G A) (hB : zB 512 A) (hc : ∀ t, zTh A t → zSeals A t < 1024) : GX e b m m_C_found [(2, ((b : Int) + 1)), (0, p1)] G 1 (zPsi (zfFound A p1).2 - zPsi A).toNat (zCQ e b m G (zfFound A p1)) := by
  refine GM.inv fun hF => ?_
  have hlo := fx_lo hF
  have hr := hR
  obtain ⟨T, Q, P, ⟨r1, r2, r3, r4⟩, hT, hQ, hP, hJ, hD⟩ := hr
  obtain ⟨y1, y2, y3⟩ := zTa_p hT hB
  have bw : 0 ≤ A 791 0 ∧ A 791 0 ≤ 1000 := hB 791 0
  refine GM.ofEV (by decide) (Nat.le_of_ble_eq_true rfl) (sg_C_found_0 ?_)
  rw [zTa_e hT, r2.2.2.2.1, r4.2.1]
  by_cases ht : zTh A p1
  · have tt := hT.2.1 p1 ht.1 ht.2
    have t1 := tt.1.1.1
    have t2 := tt.1.1.2
    have tw := tt.1.2.2.2.2.2.2.1
    have t0 : T p1 ≠ 0 := by omega
    rw [if_pos ht, tw]
    refine ⟨⟨y1, y2, y3 p1, fun _ q1 => ⟨t1, t1, fun q2 => ⟨by omega, ?_⟩⟩, fun z => absurd z t0⟩, fun z => ?_⟩
    · rw [show zfFound A p1 = (1, zGo A p1 300) from by unfold zfFound; rw [if_neg (fun z => z ht), if_neg (by omega)]]
      refine ⟨0, 0, 1, _, by omega, by rw [Nat.zero_add], GM.mono (c_goYears r1 r2 r3 r4 hT hQ hP hJ hD hB (hc _ ht) ht q1 (by decide) (by omega)) ?_⟩
      rintro v G1 ⟨k1, k2⟩
      exact zCQ_mk rfl (zRc_r k1) k2
    · rw [show zfFound A p1 = zNo A (-6) from by unfold zfFound; rw [if_neg (fun z => z ht), if_pos (by rcases z with z | z; exact Or.inl z.2; exact Or.inr z.2.2)]]
      exact c_C_refuse hR hB (by decide)
  · rw [if_neg ht, show zfFound A p1 = zNo A (-1) from by unfold zfFound; rw [if_pos ht]]
    refine ⟨⟨y1, y2, y3 p1, fun z => absurd rfl z, fun _ => c_C_refuse hR hB (by decide)⟩, fun z => ?_⟩
    rcases z with z | z <;> exact absurd rfl z.1
theorem c_C_giveBack {e : gE} {b : Nat} {m : Int} {G : gH} {A : zA} {p1 p2 : Int} (hR : zRel e b m G A) (hB : zB 512 A) (hWv : zWv A) (hc : ∀ t, zTh A t → zSeals A t < 1024) : GX e b m m_C_giveBack [(2, ((b : Int) + 1)), (0, p1), (0, p2)] G 1 (zPsi (zfGiveBack A p1 p2).2 - zPsi A).toNat (zCQ e b m G (zfGiveBack A p1 p2)) := by
  refine GM.inv fun hF => ?_
  have hlo := fx_lo hF
  have hr := hR
  obtain ⟨T, Q, P, ⟨r1, r2, r3, r4⟩, hT, hQ, hP, hJ, hD⟩ := hr
  obtain ⟨y1, y2, y3⟩ := zTa_p hT hB
  have bw : 0 ≤ A 791 0 ∧ A 791 0 ≤ 1000 := hB 791 0
  refine GM.ofEV (by decide) (Nat.le_of_ble_eq_true rfl) (sg_C_giveBack_0 ⟨y1, y2, y3 p1, ?_⟩)
  rw [zTa_e hT]
  by_cases ht : zTh A p1
  · have tt := hT.2.1 p1 ht.1 ht.2
    have t1 := tt.1.1.1
    have t2 := tt.1.1.2
    have tw := tt.1.2.2.2.2.2.2.1
    have bp : 0 ≤ A 13 p1 ∧ A 13 p1 ≤ 6 := hB 13 p1
    have hv := hWv p1 ht
    have hb := zHold_b2 (t := p1) (y := p2) hB (A 13 p1) bp.1
    have eh : zfHolder A p1 p2 = zHold A p1 p2 (A 13 p1) := by unfold zfHolder; rw [if_pos ht]
    rw [if_pos ht]
    refine ⟨fun _ => ⟨t1, GM.mono (c_Thing_holderIn hB t1 tt.2.2) ?_⟩, fun z => absurd z (by omega)⟩
    rintro v G1 ⟨rfl, rfl⟩
    rw [r2.2.2.2.1, r4.2.1, tw]
    refine ⟨fun q1 => ⟨t1, t1, fun q2 q3 q4 => ⟨by omega, by omega, ?_⟩⟩, fun z => ?_⟩
    · rw [show zfGiveBack A p1 p2 = (zHold A p1 p2 (A 13 p1), zGo A p1 (600 + zHold A p1 p2 (A 13 p1))) from by unfold zfGiveBack; rw [if_neg (fun z => z ht), eh, if_neg (by unfold zAt; omega)]]
      refine ⟨0, 0, 1, _, by omega, by rw [Nat.zero_add], GM.mono (c_goYears r1 r2 r3 r4 hT hQ hP hJ hD hB (hc _ ht) ht q1 (by omega) (by omega)) ?_⟩
      rintro v G1 ⟨k1, k2⟩
      exact zCQ_mk rfl (zRc_r k1) k2
    · have z2 : A 788 0 ≠ 2 ∨ (A 11 p1 ≠ 300 ∧ ¬ zAt A p1) ∨ zfHolder A p1 p2 = -1 ∨ zfHolder A p1 p2 = 100 := by
        rw [eh]
        rcases z with z | z | z | z
        · exact Or.inl z
        · refine Or.inr (Or.inl ?_)
          have := z.2
          unfold zAt
          omega
        · exact Or.inr (Or.inr (Or.inl z.2.2))
        · exact Or.inr (Or.inr (Or.inr z.2.2.2))
      rw [show zfGiveBack A p1 p2 = zNo A (-6) from by unfold zfGiveBack; rw [if_neg (fun z => z ht), if_pos z2]]
      exact c_C_refuse hR hB (by decide)
  · rw [if_neg ht, show zfGiveBack A p1 p2 = zNo A (-1) from by unfold zfGiveBack; rw [if_pos ht]]
    exact ⟨fun z => absurd rfl z, fun _ => c_C_refuse hR hB (by decide)⟩
