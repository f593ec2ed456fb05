/-! THE CLASS, 15: status, papers -/
theorem c_C_howManyAt {e : gE} {b : Nat} {m : Int} {G : gH} {A : zA} {T τ : Int → Int} {w : Int} (hT : zRkT e b m G A T τ) (hB : zB 512 A) (hw : 0 ≤ w ∧ w ≤ 1000) : GX e b m m_C_howManyAt [(2, ((b : Int) + 1)), (0, w)] G 0 0 (fun v G1 => v = zCount A w (w + 100) ∧ G1 = G) := by
  have b0 : 0 ≤ A 785 0 ∧ A 785 0 ≤ 16 := hB 785 0
  obtain ⟨y1, y2, y3⟩ := zTa_p hT hB
  refine GM.ofEV (by decide) (Nat.le_of_ble_eq_true rfl) (sg_C_howManyAt_0 ?_)
  refine zloop (P := fun i => EX e b m m_C_howManyAt (fun v G1 => v = zCount A w (w + 100) ∧ G1 = G) 0 0 4 [(2, ((b : Int) + 1)), (0, w), (0, zS (fun t => if w ≤ A 11 t ∧ A 11 t < w + 100 then 1 else 0) i), (0, i)] [] G) (i := 0) (A 785 0) b0.1 ?_ ?_
  · refine sg_C_howManyAt_4 ?_
    rw [hT.1.2.1]
    exact ⟨y2, fun _ => ⟨rfl, rfl⟩, fun q => absurd q (by omega)⟩
  · intro j j1 j2 st
    have bs := zS_b (f := fun t => if w ≤ A 11 t ∧ A 11 t < w + 100 then (1 : Int) else 0) (c := 1) j (fun i _ _ => z01) j1 (by decide)
    have ye := zTa_e hT j
    rw [hT.1.2.1] at y3 ye
    have y4 := y3 j ⟨j1, j2⟩
    rw [if_pos ⟨j1, j2⟩, if_pos ⟨j1, j2⟩] at ye
    have wt := (hT.2.1 j j1 j2).1.2.2.2.2.2.2.1
    rw [ye] at y4
    refine sg_C_howManyAt_4 ?_
    rw [hT.1.2.1, ye, wt]
    rw [zS_s j1] at st
    refine ⟨y2, fun q => absurd q (by omega), fun _ => ⟨y4.1, ⟨j1, j2⟩, y4.2.1, y4.2.2, y4.2.2, by omega, fun q => ⟨by omega, ?_⟩, fun q => ⟨by omega, by omega, ?_⟩⟩⟩
    · rw [if_neg q] at st
      rw [show zS (fun t => if w ≤ A 11 t ∧ A 11 t < w + 100 then (1 : Int) else 0) j + 0 = zS (fun t => if w ≤ A 11 t ∧ A 11 t < w + 100 then (1 : Int) else 0) j from by omega] at st
      exact st
    · rw [if_pos q] at st; exact st
theorem zCount_9 {A : zA} (h : zB 512 A) : zCount A 600 700 = zCount A 600 610 := by
  have b0 : 0 ≤ A 785 0 ∧ A 785 0 ≤ 16 := h 785 0
  refine zS_eq (A 785 0) b0.1 (fun t _ _ => ?_)
  have bw : 0 ≤ A 11 t ∧ A 11 t ≤ 609 := h 11 t
  show (if 600 ≤ A 11 t ∧ A 11 t < 700 then (1 : Int) else 0) = if 600 ≤ A 11 t ∧ A 11 t < 610 then 1 else 0
  split <;> split <;> omega
theorem c_C_status {e : gE} {b : Nat} {m : Int} {G : gH} {A : zA} {p1 : Int} (hR : zRel e b m G A) (hB : zB 512 A) : GX e b m m_C_status [(2, ((b : Int) + 1)), (0, p1)] G 0 0 (zCQ e b m G (zfStatus A p1, A)) := by
  have hr := hR
  obtain ⟨T, Q, P, ⟨r1, r2, r3, r4⟩, hT, hQ, hP, -⟩ := hr
  obtain ⟨y1, y2, y3⟩ := zTa_p hT hB
  refine GM.ofEV (by decide) (Nat.le_of_ble_eq_true rfl) (sg_C_status_0 ⟨fun n1 => ⟨fun n2 => ⟨fun q => ⟨y2, zCQ_mk ?_ hR zRf_r⟩, fun q => zCQ_mk ?_ hR zRf_r, fun q => ⟨hQ.1.1, zCQ_mk ?_ hR zRf_r⟩, fun q => ⟨hP.1.1, zCQ_mk ?_ hR zRf_r⟩, fun q => zCQ_mk ?_ hR zRf_r, fun q => zCQ_mk ?_ hR zRf_r, fun q => zCQ_mk ?_ hR zRf_r, fun q => zCQ_mk ?_ hR zRf_r, fun q => zCQ_mk ?_ hR zRf_r⟩, fun q => ⟨by omega, by omega, zCQ_mk ?_ hR zRf_r⟩⟩, fun q => ⟨by omega, by omega, ?_⟩⟩)
  · subst q; exact hT.1.2.1
  · subst q; exact r1.2.2
  · subst q; exact hQ.1.2.1
  · subst q; exact hP.1.2.1
  · subst q; exact r2.2.2.2.1
  · subst q; exact r2.1
  · subst q; exact r4.2.1
  · subst q; exact r4.2.2
  · unfold zfStatus
    rw [if_neg (by omega), if_neg (by omega), if_neg (by omega), if_neg (by omega), if_neg (by omega), if_neg (by omega), if_neg (by omega), if_neg (by omega), if_neg (by omega), if_neg (by omega), if_neg (by omega), if_neg (by omega), if_neg (by omega), if_neg (by omega), if_neg (by omega)]
  · unfold zfStatus
    rw [if_pos (by omega)]
    exact r3.2 _ (by omega) (by omega)
  · refine GM.mono (c_C_howManyAt hT hB (by omega)) ?_
    rintro v G1 ⟨rfl, rfl⟩
    refine zCQ_mk ?_ hR zRf_r
    have hq : p1 = 4 ∨ p1 = 5 ∨ p1 = 6 ∨ p1 = 7 ∨ p1 = 8 ∨ p1 = 9 := by omega
    rcases hq with z | z | z | z | z | z <;> subst z
    · rfl
    · rfl
    · rfl
    · rfl
    · rfl
    · exact zCount_9 hB
set_option maxRecDepth 20000 in
set_option maxHeartbeats 4000000 in
theorem sg_Thing_addPaper_0 {e : gE} {b : Nat} {m : Int} {Z : Int → gH → Prop} {kc ks : Nat} {G : gH} {a0 p1 p2 p3 : Int} (t0 : G 0 a0 0 = 10) (h : (inI ((G 607 a0 0) * 3)) ∧ ((inI (((G 607 a0 0) * 3) + 3)) ∧ ((100 ≤ G 0 (G 606 a0 0) 0 ∧ G 0 (G 606 a0 0) 0 ≤ 105) ∧ (((G 0 (G 606 a0 0) 1) < (((G 607 a0 0) * 3) + 3) → Z (G 607 a0 0) G) ∧ ((((G 607 a0 0) * 3) + 3) ≤ (G 0 (G 606 a0 0) 1) → (G 0 (G 606 a0 0) 0 = 100) ∧ ((0 ≤ ((G 607 a0 0) * 3)) ∧ ((((G 607 a0 0) * 3) < G 0 (G 606 a0 0) 1) ∧ (((b : Int) < (G 606 a0 0)) ∧ (∀ G10 : gH, G10 = gU G 1 (G 606 a0 0) ((G 607 a0 0) * 3) p1 → (inI (((G 607 a0 0) * 3) + 1)) ∧ ((0 ≤ (((G 607 a0 0) * 3) + 1)) ∧ (((((G 607 a0 0) * 3) + 1) < G 0 (G 606 a0 0) 1) ∧ (∀ G14 : gH, G14 = gU G10 1 (G 606 a0 0) (((G 607 a0 0) * 3) + 1) p2 → (inI (((G 607 a0 0) * 3) + 2)) ∧ ((0 ≤ (((G 607 a0 0) * 3) + 2)) ∧ (((((G 607 a0 0) * 3) + 2) < G 0 (G 606 a0 0) 1) ∧ (∀ G18 : gH, G18 = gU G14 1 (G 606 a0 0) (((G 607 a0 0) * 3) + 2) p3 → (inI ((G 607 a0 0) + 1)) ∧ (((b : Int) < a0) ∧ (∀ G21 : gH, G21 = gU G18 607 a0 0 ((G 607 a0 0) + 1) → Z (G21 607 a0 0) G21))))))))))))))))) : EX e b m m_Thing_addPaper Z kc ks 0 [(2, a0), (0, p1), (0, p2), (0, p3), (9, 0)] [] G := by
  refine e_aload_n d_Thing_addPaper_0 rfl ?_
  refine gf_Thing_76 d_Thing_addPaper_1 rfl t0 ?_
  refine e_iconst d_Thing_addPaper_4 (by decide) ?_
  obtain ⟨o1, h⟩ := h
  refine e_imul d_Thing_addPaper_5 o1 ?_
  refine e_istore (ls' := [(2, a0), (0, p1), (0, p2), (0, p3), (0, ((G 607 a0 0) * 3))]) d_Thing_addPaper_6 (by decide) rfl ?_
  refine e_iload d_Thing_addPaper_8 rfl ?_
  refine e_iconst d_Thing_addPaper_10 (by decide) ?_
  obtain ⟨o2, h⟩ := h
  refine e_iadd d_Thing_addPaper_11 o2 ?_
  refine e_aload_n d_Thing_addPaper_12 rfl ?_
  refine gf_Thing_43 d_Thing_addPaper_13 rfl t0 ?_
  obtain ⟨o3, h⟩ := h
  refine e_alen d_Thing_addPaper_16 o3 ?_
  refine e_icmp_gt (tgt := 58) d_Thing_addPaper_17 (by decide) (fun q4 => ?_) (fun q5 => ?_)
  · have h := h.1 q4
    refine e_aload_n d_Thing_addPaper_58 rfl ?_
    refine gf_Thing_76 d_Thing_addPaper_59 rfl t0 ?_
    exact e_iret d_Thing_addPaper_62 rfl h
  · have h := h.2 q5
    refine e_aload_n d_Thing_addPaper_20 rfl ?_
    refine gf_Thing_43 d_Thing_addPaper_21 rfl t0 ?_
    refine e_iload d_Thing_addPaper_24 rfl ?_
    refine e_iload_n d_Thing_addPaper_26 rfl ?_
    obtain ⟨o6, o7, o8, o9, h⟩ := h
    refine e_iast d_Thing_addPaper_27 o6 o7 o8 o9 (fx_U (by decide)) ?_
    let G10 : gH := gU G 1 (G 606 a0 0) ((G 607 a0 0) * 3) p1
    have h := h G10 rfl
    refine e_aload_n d_Thing_addPaper_28 rfl ?_
    refine gf_Thing_43 d_Thing_addPaper_29 rfl t0 ?_
    refine e_iload d_Thing_addPaper_32 rfl ?_
    refine e_iconst d_Thing_addPaper_34 (by decide) ?_
    obtain ⟨o11, h⟩ := h
    refine e_iadd d_Thing_addPaper_35 o11 ?_
    refine e_iload_n d_Thing_addPaper_36 rfl ?_
    obtain ⟨o12, o13, h⟩ := h
    refine e_iast d_Thing_addPaper_37 o6 o12 o13 o9 (fx_U (by decide)) ?_
    let G14 : gH := gU G10 1 (G 606 a0 0) (((G 607 a0 0) * 3) + 1) p2
    have h := h G14 rfl
    refine e_aload_n d_Thing_addPaper_38 rfl ?_
    refine gf_Thing_43 d_Thing_addPaper_39 rfl t0 ?_
    refine e_iload d_Thing_addPaper_42 rfl ?_
    refine e_iconst d_Thing_addPaper_44 (by decide) ?_
    obtain ⟨o15, h⟩ := h
    refine e_iadd d_Thing_addPaper_45 o15 ?_
    refine e_iload_n d_Thing_addPaper_46 rfl ?_
    obtain ⟨o16, o17, h⟩ := h
    refine e_iast d_Thing_addPaper_47 o6 o16 o17 o9 (fx_U (by decide)) ?_
    let G18 : gH := gU G14 1 (G 606 a0 0) (((G 607 a0 0) * 3) + 2) p3
    have h := h G18 rfl
    refine e_aload_n d_Thing_addPaper_48 rfl ?_
    refine e_dup d_Thing_addPaper_49 (by simp) ?_
    refine gf_Thing_76 d_Thing_addPaper_50 rfl t0 ?_
    refine e_iconst d_Thing_addPaper_53 (by decide) ?_
    obtain ⟨o19, h⟩ := h
    refine e_iadd d_Thing_addPaper_54 o19 ?_
    obtain ⟨o20, h⟩ := h
    refine gp_Thing_76 d_Thing_addPaper_55 rfl t0 o20 (fx_U (by decide)) ?_
    let G21 : gH := gU G18 607 a0 0 ((G 607 a0 0) + 1)
    have h := h G21 rfl
    refine e_aload_n d_Thing_addPaper_58 rfl ?_
    refine gf_Thing_76 d_Thing_addPaper_59 rfl t0 ?_
    exact e_iret d_Thing_addPaper_62 rfl h
set_option maxRecDepth 20000 in
set_option maxHeartbeats 4000000 in
theorem sg_C_paper_0 {e : gE} {b : Nat} {m : Int} {Z : Int → gH → Prop} {kc ks : Nat} {G : gH} {p1 p2 p3 p4 : Int} (h : ((0 ≤ G 18 ((b : Int) + 2) 0 ∧ G 18 ((b : Int) + 2) 0 ≤ 16) ∧ ((G 0 ((b : Int) + 2) 0 = 1) ∧ ((0 ≤ p1 ∧ p1 < G 18 ((b : Int) + 2) 0 → G 0 (G 17 ((b : Int) + 2) 0) 0 = 103 ∧ G 18 ((b : Int) + 2) 0 ≤ G 0 (G 17 ((b : Int) + 2) 0) 1 ∧ G 0 (G 3 (G 17 ((b : Int) + 2) 0) p1) 0 = 10) ∧ ((((if 0 ≤ p1 ∧ p1 < G 18 ((b : Int) + 2) 0 then G 3 (G 17 ((b : Int) + 2) 0) p1 else 0) ≠ 0) → ((0 ≤ p2 ∧ p2 ≤ 9) → (0 ≤ p3 → (p3 ≤ p4 → (p4 ≤ 200 → (G 0 (if 0 ≤ p1 ∧ p1 < G 18 ((b : Int) + 2) 0 then G 3 (G 17 ((b : Int) + 2) 0) p1 else 0) 0 = 10) ∧ ((G 0 (if 0 ≤ p1 ∧ p1 < G 18 ((b : Int) + 2) 0 then G 3 (G 17 ((b : Int) + 2) 0) p1 else 0) 0 = 10) ∧ ((((G 607 (if 0 ≤ p1 ∧ p1 < G 18 ((b : Int) + 2) 0 then G 3 (G 17 ((b : Int) + 2) 0) p1 else 0) 0) < 6) → GX e b m m_Thing_addPaper [(2, (if 0 ≤ p1 ∧ p1 < G 18 ((b : Int) + 2) 0 then G 3 (G 17 ((b : Int) + 2) 0) p1 else 0)), (0, p2), (0, p3), (0, p4)] G 0 0 (fun v19 G20 => Z v19 G20)) ∧ ((6 ≤ (G 607 (if 0 ≤ p1 ∧ p1 < G 18 ((b : Int) + 2) 0 then G 3 (G 17 ((b : Int) + 2) 0) p1 else 0) 0)) → GX e b m m_C_refuse [(2, ((b : Int) + 1)), (0, (-7))] G 0 0 (fun v22 G23 => Z v22 G23))))))))) ∧ (((if 0 ≤ p1 ∧ p1 < G 18 ((b : Int) + 2) 0 then G 3 (G 17 ((b : Int) + 2) 0) p1 else 0) = 0) → GX e b m m_C_refuse [(2, ((b : Int) + 1)), (0, (-1))] G 0 0 (fun v25 G26 => Z v25 G26)))))) ∧ (((((if 0 ≤ p1 ∧ p1 < G 18 ((b : Int) + 2) 0 then G 3 (G 17 ((b : Int) + 2) 0) p1 else 0) ≠ 0) ∧ (¬ (0 ≤ p2 ∧ p2 ≤ 9))) ∨ (((if 0 ≤ p1 ∧ p1 < G 18 ((b : Int) + 2) 0 then G 3 (G 17 ((b : Int) + 2) 0) p1 else 0) ≠ 0) ∧ (0 ≤ p2 ∧ p2 ≤ 9) ∧ p3 < 0) ∨ (((if 0 ≤ p1 ∧ p1 < G 18 ((b : Int) + 2) 0 then G 3 (G 17 ((b : Int) + 2) 0) p1 else 0) ≠ 0) ∧ (0 ≤ p2 ∧ p2 ≤ 9) ∧ 0 ≤ p3 ∧ p4 < p3) ∨ (((if 0 ≤ p1 ∧ p1 < G 18 ((b : Int) + 2) 0 then G 3 (G 17 ((b : Int) + 2) 0) p1 else 0) ≠ 0) ∧ (0 ≤ p2 ∧ p2 ≤ 9) ∧ 0 ≤ p3 ∧ p3 ≤ p4 ∧ 200 < p4)) → GX e b m m_C_refuse [(2, ((b : Int) + 1)), (0, (-6))] G 0 0 (fun v29 G30 => Z v29 G30))) : EX e b m m_C_paper Z kc ks 0 [(2, ((b : Int) + 1)), (0, p1), (0, p2), (0, p3), (0, p4), (9, 0)] [] G := by
  obtain ⟨h, hJ27⟩ := h
  have kJ27 : ((((if 0 ≤ p1 ∧ p1 < G 18 ((b : Int) + 2) 0 then G 3 (G 17 ((b : Int) + 2) 0) p1 else 0) ≠ 0) ∧ (¬ (0 ≤ p2 ∧ p2 ≤ 9))) ∨ (((if 0 ≤ p1 ∧ p1 < G 18 ((b : Int) + 2) 0 then G 3 (G 17 ((b : Int) + 2) 0) p1 else 0) ≠ 0) ∧ (0 ≤ p2 ∧ p2 ≤ 9) ∧ p3 < 0) ∨ (((if 0 ≤ p1 ∧ p1 < G 18 ((b : Int) + 2) 0 then G 3 (G 17 ((b : Int) + 2) 0) p1 else 0) ≠ 0) ∧ (0 ≤ p2 ∧ p2 ≤ 9) ∧ 0 ≤ p3 ∧ p4 < p3) ∨ (((if 0 ≤ p1 ∧ p1 < G 18 ((b : Int) + 2) 0 then G 3 (G 17 ((b : Int) + 2) 0) p1 else 0) ≠ 0) ∧ (0 ≤ p2 ∧ p2 ≤ 9) ∧ 0 ≤ p3 ∧ p3 ≤ p4 ∧ 200 < p4)) → EX e b m m_C_paper Z kc ks 46 [(2, ((b : Int) + 1)), (0, p1), (0, p2), (0, p3), (0, p4), (2, (if 0 ≤ p1 ∧ p1 < G 18 ((b : Int) + 2) 0 then G 3 (G 17 ((b : Int) + 2) 0) p1 else 0))] [] G := by
    intro rJ27
    have h := hJ27 rJ27
    refine e_aload_n d_C_paper_46 rfl ?_
    refine e_bipush d_C_paper_47 (by decide) (by decide) ?_
    refine EV.inv fun hFf28 => ?_
    have f28 := (fx_ct 0 rfl hFf28).1
    refine e_callV m_C_refuse 11 lw_good d_C_paper_49 (k_C_refuse _) ⟨Nat.le_of_ble_eq_true rfl, Nat.le_of_ble_eq_true rfl⟩ w_297 w_299 w_s0 (q_C _) rfl f28 (args := [(0, (-6))]) rfl rfl (Nat.le_of_ble_eq_true rfl) (kc' := kc) (ks' := ks) (mc := 0) (ms := 0) rfl rfl h ?_
    intro v29 G30 h
    exact e_iret d_C_paper_52 rfl h
  refine e_aload_n d_C_paper_0 rfl ?_
  refine e_iload_n d_C_paper_1 rfl ?_
  refine EV.inv fun hFf1 => ?_
  have f1 := (fx_ct 0 rfl hFf1).1
  obtain ⟨o2, o3, o4, h⟩ := h
  refine e_callV m_C_thingAt 11 lw_good d_C_paper_2 (k_C_thingAt _) ⟨Nat.le_of_ble_eq_true rfl, Nat.le_of_ble_eq_true rfl⟩ w_846 w_848 w_s24 (q_C _) rfl f1 (args := [(0, p1)]) rfl rfl (Nat.le_of_ble_eq_true rfl) (kc' := kc) (ks' := ks) (mc := 0) (ms := 0) rfl rfl (c_C_thingAt o2 o3 o4) (pureK ?_)
  refine e_astore (ls' := [(2, ((b : Int) + 1)), (0, p1), (0, p2), (0, p3), (0, p4), (2, (if 0 ≤ p1 ∧ p1 < G 18 ((b : Int) + 2) 0 then G 3 (G 17 ((b : Int) + 2) 0) p1 else 0))]) d_C_paper_5 (by decide) rfl ?_
  refine e_aload d_C_paper_7 rfl ?_
  refine e_ifnonnull (tgt := 18) d_C_paper_9 (by decide) (fun q5 => ?_) (fun q6 => ?_)
  · have h := h.1 q5
    refine e_iload_n d_C_paper_18 rfl ?_
    refine e_iconst d_C_paper_19 (by decide) ?_
    refine e_bipush d_C_paper_20 (by decide) (by decide) ?_
    refine e_callS m_C_within lw_good d_C_paper_22 (k_C_within _) ⟨Nat.le_of_ble_eq_true rfl, Nat.le_of_ble_eq_true rfl⟩ w_294 w_295 (args := [(0, p2), (0, 0), (0, 9)]) rfl rfl (Nat.le_of_ble_eq_true rfl) (kc' := kc) (ks' := ks) (mc := 0) (ms := 0) rfl rfl (c_C_within) (pureK ?_)
    refine e_if_eq (tgt := 46) d_C_paper_25 (by decide) (fun q7 => ?_) (fun q8 => ?_)
    · replace q7 := gb0.mp q7
      exact kJ27 (Or.inl ⟨q5, q7⟩)
    · replace q8 := gb1.mp q8
      have h := h q8
      refine e_iload_n d_C_paper_28 rfl ?_
      refine e_if_lt (tgt := 46) d_C_paper_29 (by decide) (fun q9 => ?_) (fun q10 => ?_)
      · exact kJ27 (Or.inr (Or.inl ⟨q5, q8, q9⟩))
      · have h := h q10
        refine e_iload_n d_C_paper_32 rfl ?_
        refine e_iload d_C_paper_33 rfl ?_
        refine e_icmp_gt (tgt := 46) d_C_paper_35 (by decide) (fun q11 => ?_) (fun q12 => ?_)
        · exact kJ27 (Or.inr (Or.inr (Or.inl ⟨q5, q8, q10, q11⟩)))
        · have h := h q12
          refine e_iload d_C_paper_38 rfl ?_
          refine e_sipush d_C_paper_40 (by decide) (by decide) ?_
          refine e_icmp_le (tgt := 53) d_C_paper_43 (by decide) (fun q13 => ?_) (fun q14 => ?_)
          · have h := h q13
            refine e_aload d_C_paper_53 rfl ?_
            obtain ⟨o15, o16, h⟩ := h
            refine e_callV m_Thing_paperCount 9 lw_good d_C_paper_55 (k_Thing_paperCount _) ⟨Nat.le_of_ble_eq_true rfl, Nat.le_of_ble_eq_true rfl⟩ w_1315 w_1316 w_1317 (q_Thing _) rfl o15 (args := []) rfl rfl (Nat.le_of_ble_eq_true rfl) (kc' := kc) (ks' := ks) (mc := 0) (ms := 0) rfl rfl (c_Thing_paperCount o16) (pureK ?_)
            refine e_bipush d_C_paper_58 (by decide) (by decide) ?_
            refine e_icmp_lt (tgt := 72) d_C_paper_60 (by decide) (fun q17 => ?_) (fun q18 => ?_)
            · have h := h.1 q17
              refine e_aload d_C_paper_72 rfl ?_
              refine e_iload_n d_C_paper_74 rfl ?_
              refine e_iload_n d_C_paper_75 rfl ?_
              refine e_iload d_C_paper_76 rfl ?_
              refine e_callV m_Thing_addPaper 9 lw_good d_C_paper_78 (k_Thing_addPaper _) ⟨Nat.le_of_ble_eq_true rfl, Nat.le_of_ble_eq_true rfl⟩ w_1319 w_1320 w_1321 (q_Thing _) rfl o15 (args := [(0, p2), (0, p3), (0, p4)]) rfl rfl (Nat.le_of_ble_eq_true rfl) (kc' := kc) (ks' := ks) (mc := 0) (ms := 0) rfl rfl h ?_
              intro v19 G20 h
              exact e_iret d_C_paper_81 rfl h
            · have h := h.2 q18
              refine e_aload_n d_C_paper_63 rfl ?_
              refine e_bipush d_C_paper_64 (by decide) (by decide) ?_
              refine EV.inv fun hFf21 => ?_
              have f21 := (fx_ct 0 rfl hFf21).1
              refine e_callV m_C_refuse 11 lw_good d_C_paper_66 (k_C_refuse _) ⟨Nat.le_of_ble_eq_true rfl, Nat.le_of_ble_eq_true rfl⟩ w_297 w_299 w_s0 (q_C _) rfl f21 (args := [(0, (-7))]) rfl rfl (Nat.le_of_ble_eq_true rfl) (kc' := kc) (ks' := ks) (mc := 0) (ms := 0) rfl rfl h ?_
              intro v22 G23 h
              refine e_goto (tgt := 81) d_C_paper_69 (by decide) ?_
              exact e_iret d_C_paper_81 rfl h
          · exact kJ27 (Or.inr (Or.inr (Or.inr ⟨q5, q8, q10, q12, q14⟩)))
  · have h := h.2 q6
    refine e_aload_n d_C_paper_12 rfl ?_
    refine e_iconst d_C_paper_13 (by decide) ?_
    refine EV.inv fun hFf24 => ?_
    have f24 := (fx_ct 0 rfl hFf24).1
    refine e_callV m_C_refuse 11 lw_good d_C_paper_14 (k_C_refuse _) ⟨Nat.le_of_ble_eq_true rfl, Nat.le_of_ble_eq_true rfl⟩ w_297 w_299 w_s0 (q_C _) rfl f24 (args := [(0, (-1))]) rfl rfl (Nat.le_of_ble_eq_true rfl) (kc' := kc) (ks' := ks) (mc := 0) (ms := 0) rfl rfl h ?_
    intro v25 G26 h
    exact e_iret d_C_paper_17 rfl h
theorem c_addPaper {e : gE} {b : Nat} {m : Int} {G : gH} {A : zA} {T τ : Int → Int} {t w f u : Int} (hR : zRkT e b m G A T τ) (hB : zB 512 A) (ht : zTh A t) (hn : A 13 t < 6) : GX e b m m_Thing_addPaper [(2, T t), (0, w), (0, f), (0, u)] G 0 0 (fun v G1 => v = A 13 t + 1 ∧ zRkT e b m G1 (zU (zU (zU (zU A 32 (6 * t + A 13 t) w) 33 (6 * t + A 13 t) f) 34 (6 * t + A 13 t) u) 13 t (A 13 t + 1)) T τ ∧ zFW m [607, 1] G G1) := by
  refine GM.tg fun hTg => GM.inv fun hF => ?_
  have hlo := fx_lo hF
  have bp : 0 ≤ A 13 t ∧ A 13 t ≤ 6 := hB 13 t
  have hR0 := hR
  obtain ⟨h1, h2, h3⟩ := hR
  obtain ⟨⟨⟨t1, t2⟩, t3⟩, c2, ⟨⟨p1, p2⟩, ⟨p3, p4⟩, p5⟩⟩ := h2 t ht.1 ht.2
  refine GM.ofEV (by decide) (Nat.le_of_ble_eq_true rfl) (sg_Thing_addPaper_0 t1 ?_)
  rw [p1, p3, p4, show A 13 t * 3 = 3 * A 13 t from by omega]
  refine ⟨by omega, by omega, by decide, fun q => absurd q (by omega), fun _ => ⟨rfl, by omega, by omega, by omega, ?_⟩⟩
  rintro _ rfl
  refine ⟨by omega, by omega, by omega, ?_⟩
  rintro _ rfl
  refine ⟨by omega, by omega, by omega, ?_⟩
  rintro _ rfl
  refine ⟨by omega, by omega, ?_⟩
  rintro _ rfl
  generalize hG : gU (gU (gU (gU G 1 (G 606 (T t) 0) (3 * A 13 t) w) 1 (G 606 (T t) 0) (3 * A 13 t + 1) f) 1 (G 606 (T t) 0) (3 * A 13 t + 2) u) 607 (T t) 0 (A 13 t + 1) = G1
  have o : ∀ (c : Nat) (i j : Int), ¬ (c = 607 ∧ i = T t) → ¬ (c = 1 ∧ i = G 606 (T t) 0 ∧ (j = 3 * A 13 t ∨ j = 3 * A 13 t + 1 ∨ j = 3 * A 13 t + 2)) → G1 c i j = G c i j := fun c i j c1 c2 => by rw [← hG, gU_ne (by omega), gU_ne (by omega), gU_ne (by omega), gU_ne (by omega)]
  have eU : ∀ s, 0 ≤ s → s < A 785 0 → s ≠ t → T s ≠ T t := fun s s1 s2 q z => q (zRkT_i hR0 ⟨s1, s2⟩ ht z)
  have e0 : ∀ i j, G 0 i 0 ≠ 0 → G1 0 i j = G 0 i j := fun i j _ => o 0 i j (by omega) (by omega)
  have eS : ∀ s, 0 ≤ s → s < A 785 0 → ∀ j, G1 1 (G 604 (T s) 0) j = G 1 (G 604 (T s) 0) j := fun s s1 s2 j => o 1 _ j (by omega) (fun z => (h3 s t s1 s2 ht.1 ht.2).2.2 z.2.1)
  have e32 : ∀ x, zU (zU (zU (zU A 32 (6 * t + A 13 t) w) 33 (6 * t + A 13 t) f) 34 (6 * t + A 13 t) u) 13 t (A 13 t + 1) 32 x = if x = 6 * t + A 13 t then w else A 32 x := fun x => by
    rw [zU_k (by decide), zU_k (by decide), zU_k (by decide)]
    by_cases z : x = 6 * t + A 13 t
    · rw [if_pos z, z, zU_eq]
    · rw [if_neg z, zU_i z]
  have e33 : ∀ x, zU (zU (zU (zU A 32 (6 * t + A 13 t) w) 33 (6 * t + A 13 t) f) 34 (6 * t + A 13 t) u) 13 t (A 13 t + 1) 33 x = if x = 6 * t + A 13 t then f else A 33 x := fun x => by
    rw [zU_k (by decide), zU_k (by decide)]
    by_cases z : x = 6 * t + A 13 t
    · rw [if_pos z, z, zU_eq]
    · rw [if_neg z, zU_i z, zU_k (by decide)]
  have e34 : ∀ x, zU (zU (zU (zU A 32 (6 * t + A 13 t) w) 33 (6 * t + A 13 t) f) 34 (6 * t + A 13 t) u) 13 t (A 13 t + 1) 34 x = if x = 6 * t + A 13 t then u else A 34 x := fun x => by
    rw [zU_k (by decide)]
    by_cases z : x = 6 * t + A 13 t
    · rw [if_pos z, z, zU_eq]
    · rw [if_neg z, zU_i z, zU_k (by decide), zU_k (by decide)]
  refine ⟨by rw [← hG, gU_eq], ⟨?_, fun s s1 s2 => ?_, fun s v s1 s2 v1 v2 => ?_⟩, ?_, fun c i j c1 c2 c3 => o c i j (fun z => c3 ⟨by rw [z.1]; decide, by omega⟩) (fun z => c3 ⟨by rw [z.1]; decide, by omega⟩)⟩
  · rw [zU_k (by decide), zU_k (by decide), zU_k (by decide), zU_k (by decide)]
    exact zAL_fr (by decide) h1 e0 (o _ _ 0 (by omega) (by omega)) (o _ _ 0 (by omega) (by omega)) (fun _ j => o 3 _ j (by omega) (by omega))
  · rw [zU_k (by decide), zU_k (by decide), zU_k (by decide), zU_k (by decide)] at s2
    have hs := h2 s s1 s2
    have w1 := zThR_fr (G1 := G1) hs.1 e0 (fun c hc => o c _ 0 (by omega) (by omega))
    have w2 := zSlR_fr (G1 := G1) hs.2.1 e0 (o _ _ 0 (by omega) (by omega)) (o _ _ 0 (by omega) (by omega)) (eS s s1 s2)
    refine ⟨?_, ?_, ?_⟩
    · unfold zThR zIn at *
      simp only [zU_k (show (7 : Nat) ≠ 13 by decide), zU_k (show (7 : Nat) ≠ 34 by decide), zU_k (show (7 : Nat) ≠ 33 by decide), zU_k (show (7 : Nat) ≠ 32 by decide), zU_k (show (8 : Nat) ≠ 13 by decide), zU_k (show (8 : Nat) ≠ 34 by decide), zU_k (show (8 : Nat) ≠ 33 by decide), zU_k (show (8 : Nat) ≠ 32 by decide), zU_k (show (9 : Nat) ≠ 13 by decide), zU_k (show (9 : Nat) ≠ 34 by decide), zU_k (show (9 : Nat) ≠ 33 by decide), zU_k (show (9 : Nat) ≠ 32 by decide), zU_k (show (10 : Nat) ≠ 13 by decide), zU_k (show (10 : Nat) ≠ 34 by decide), zU_k (show (10 : Nat) ≠ 33 by decide), zU_k (show (10 : Nat) ≠ 32 by decide), zU_k (show (11 : Nat) ≠ 13 by decide), zU_k (show (11 : Nat) ≠ 34 by decide), zU_k (show (11 : Nat) ≠ 33 by decide), zU_k (show (11 : Nat) ≠ 32 by decide), zU_k (show (12 : Nat) ≠ 13 by decide), zU_k (show (12 : Nat) ≠ 34 by decide), zU_k (show (12 : Nat) ≠ 33 by decide), zU_k (show (12 : Nat) ≠ 32 by decide)]
      exact w1
    · have ek : ∀ (k : Nat), k ≠ 13 → k ≠ 32 → k ≠ 33 → k ≠ 34 → zU (zU (zU (zU A 32 (6 * t + A 13 t) w) 33 (6 * t + A 13 t) f) 34 (6 * t + A 13 t) u) 13 t (A 13 t + 1) k = A k := fun k a1 a2 a3 a4 => funext fun i => by rw [zU_k a1, zU_k a4, zU_k a3, zU_k a2]
      unfold zSlR zSeals zRank at *
      rw [ek 35 (by decide) (by decide) (by decide) (by decide), ek 36 (by decide) (by decide) (by decide) (by decide), ek 37 (by decide) (by decide) (by decide) (by decide), ek 38 (by decide) (by decide) (by decide) (by decide), ek 794 (by decide) (by decide) (by decide) (by decide)]
      exact w2
    · have bs : 0 ≤ A 13 s ∧ A 13 s ≤ 6 := hB 13 s
      by_cases q : s = t
      · subst q
        unfold zPpR
        rw [zU_eq, o 606 _ 0 (by omega) (by omega), e0 _ _ (by omega), e0 _ _ (by omega)]
        refine ⟨⟨by rw [← hG, gU_eq], p2⟩, ⟨p3, p4⟩, fun i i1 i2 => ?_⟩
        rw [e32, e33, e34]
        by_cases z : i = A 13 s
        · subst z
          rw [if_pos rfl, if_pos rfl, if_pos rfl]
          refine ⟨?_, ?_, ?_⟩
          · rw [← hG, gU_c _ (by decide), gU_j (by omega), gU_j (by omega), gU_eq]
          · rw [← hG, gU_c _ (by decide), gU_j (by omega), gU_eq]
          · rw [← hG, gU_c _ (by decide), gU_eq]
        · have w5 := p5 i i1 (by omega)
          have zn : ¬ (6 * s + i = 6 * s + A 13 s) := by omega
          rw [if_neg zn, if_neg zn, if_neg zn, o 1 _ _ (by omega) (by omega), o 1 _ _ (by omega) (by omega), o 1 _ _ (by omega) (by omega)]
          exact w5
      · have w3 := zPpR_fr (G1 := G1) hs.2.2 e0 (o _ _ 0 (by omega) (by omega)) (o _ _ 0 (fun z => eU s s1 s2 q z.2) (by omega)) (fun j => o 1 _ j (by omega) (fun z => q ((h3 s t s1 s2 ht.1 ht.2).2.1 z.2.1)))
        unfold zPpR at *
        rw [zU_i q, zU_k (by decide), zU_k (by decide), zU_k (by decide)]
        refine ⟨w3.1, w3.2.1, fun i i1 i2 => ?_⟩
        have zn : ¬ (6 * s + i = 6 * t + A 13 t) := by omega
        rw [e32, e33, e34, if_neg zn, if_neg zn, if_neg zn]
        exact w3.2.2 i i1 i2
  · rw [zU_k (by decide), zU_k (by decide), zU_k (by decide), zU_k (by decide)] at s2 v2
    rw [o 604 _ 0 (by omega) (by omega), o 604 _ 0 (by omega) (by omega), o 606 _ 0 (by omega) (by omega), o 606 _ 0 (by omega) (by omega)]
    exact h3 s v s1 s2 v1 v2
  · exact Int.le_of_eq (o 9 0 0 (by omega) (by omega)).symm
