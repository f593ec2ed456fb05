/-! THE REFERENCE, 6: places, papers, shelves, rows -/
def zfPlace (A : zA) (h g mi : Int) : Int × zA := if g < 0 ∨ g > 3 then zNo A (-1) else if h < 1 ∨ h > 40 ∨ mi < 1 ∨ mi > 9 then zNo A (-6) else if A 787 0 = 5 then zNo A (-7) else (A 787 0, zU (zU (zU (zU A 23 (A 787 0) h) 24 (A 787 0) g) 25 (A 787 0) mi) 787 0 (A 787 0 + 1))
theorem c_M_place {e : gE} {b : Nat} {m : Int} {G : gH} {p1 p2 p3 : Int} (h : zB 512 (zM m G)) : GX e b m m_M_place [(2, (m + 0)), (0, p1), (0, p2), (0, p3)] G 0 0 (zQ m G (zfPlace (zM m G) p1 p2 p3)) := by
  have b0 : 0 ≤ zM m G 787 0 ∧ zM m G 787 0 ≤ 5 := h 787 0
  refine GM.ofEV (by decide) (Nat.le_of_ble_eq_true rfl) (sg_M_place_0 ?_)
  unfold zfPlace
  refine ⟨fun q1 q2 q3 q4 q5 q6 => ⟨fun q7 => ⟨by omega, ?_⟩, fun q7 => ?_⟩, fun q => ?_, fun q => ?_⟩
  · rintro _ rfl _ rfl _ rfl
    refine ⟨by omega, ?_⟩
    rintro _ rfl
    rw [if_neg (by omega), if_neg (by omega), if_neg q7]
    refine ⟨rfl, ?_, zC_u (zC_u (zC_u (zC_u zC_r (by decide)) (by decide)) (by decide)) (by decide)⟩
    rw [zM_u787, zM_u25, zM_u24, zM_u23]
  · rw [if_neg (by omega), if_neg (by omega), if_pos q7]; exact c_M_no h (by decide)
  · rw [if_pos (by omega)]; exact c_M_no h (by decide)
  · rw [if_neg (by omega), if_pos (by omega)]; exact c_M_no h (by decide)
def zfPaper (A : zA) (t w f u : Int) : Int × zA := if ¬ zTh A t then zNo A (-1) else if w < 0 ∨ w > 9 ∨ f < 0 ∨ f > u ∨ u > 200 then zNo A (-6) else if A 13 t = 6 then zNo A (-7) else (A 13 t + 1, zU (zU (zU (zU A 32 (6 * t + A 13 t) w) 33 (6 * t + A 13 t) f) 34 (6 * t + A 13 t) u) 13 t (A 13 t + 1))
theorem c_M_paper {e : gE} {b : Nat} {m : Int} {G : gH} {p1 p2 p3 p4 : Int} (h : zB 512 (zM m G)) : GX e b m m_M_paper [(2, (m + 0)), (0, p1), (0, p2), (0, p3), (0, p4)] G 0 0 (zQ m G (zfPaper (zM m G) p1 p2 p3 p4)) := by
  have b0 : 0 ≤ zM m G 785 0 ∧ zM m G 785 0 ≤ 16 := h 785 0
  have b1 : 0 ≤ zM m G 13 p1 ∧ zM m G 13 p1 ≤ 6 := h 13 p1
  refine GM.ofEV (by decide) (Nat.le_of_ble_eq_true rfl) (sg_M_paper_0 ?_)
  unfold zfPaper
  refine ⟨⟨fun q1 q2 q3 q4 q5 q6 => ⟨by omega, fun q7 => ⟨by omega, by omega, by omega, ?_⟩, fun q7 => ?_⟩, fun q => ?_⟩, fun q => ?_⟩
  · rintro _ rfl _ rfl _ rfl
    have e1 : zM m (gU (gU (gU G 1 (m + 32) (6 * p1 + zM m G 13 p1) p2) 1 (m + 33) (6 * p1 + zM m G 13 p1) p3) 1 (m + 34) (6 * p1 + zM m G 13 p1) p4) 13 p1 = zM m G 13 p1 := by rw [zM_u34, zM_u33, zM_u32, zU_k (by decide), zU_k (by decide), zU_k (by decide)]
    rw [e1]
    refine ⟨by omega, ?_⟩
    rintro _ rfl
    rw [if_neg (fun z => z q1), if_neg (by omega), if_neg q7]
    refine ⟨rfl, ?_, zC_u (zC_u (zC_u (zC_u zC_r (by decide)) (by decide)) (by decide)) (by decide)⟩
    rw [zM_u13, zM_u34, zM_u33, zM_u32]
  · rw [if_neg (fun z => z q1), if_neg (by omega), if_pos q7]; exact c_M_no h (by decide)
  · rw [if_pos q]; exact c_M_no h (by decide)
  · rw [if_neg (by omega), if_pos (by omega)]; exact c_M_no h (by decide)
def zfShow (A : zA) (s t : Int) : Int × zA := if ¬ zSh s ∨ (t ≠ -1 ∧ ¬ zTh A t) then zNo A (-1) else (if t = -1 then 0 else 1, zU (zU A 18 s (if t = -1 then 0 else 2)) 21 s t)
theorem c_M_show {e : gE} {b : Nat} {m : Int} {G : gH} {p1 p2 : Int} (h : zB 512 (zM m G)) : GX e b m m_M_show [(2, (m + 0)), (0, p1), (0, p2)] G 0 0 (zQ m G (zfShow (zM m G) p1 p2)) := by
  refine GM.ofEV (by decide) (Nat.le_of_ble_eq_true rfl) (sg_M_show_0 ?_)
  unfold zfShow
  refine ⟨fun q => ?_, fun q => ⟨fun q2 => ⟨by omega, ?_⟩, fun q2 => ⟨by omega, ?_⟩⟩⟩
  · rw [if_pos (by omega)]; exact c_M_no h (by decide)
  · rintro _ rfl _ rfl
    rw [if_neg (by omega), if_neg q2, if_neg q2]
    refine ⟨rfl, ?_, zC_u (zC_u zC_r (by decide)) (by decide)⟩
    rw [zM_u21, zM_u18]
  · rintro _ rfl _ rfl
    rw [if_neg (by omega), if_pos q2, if_pos q2]
    refine ⟨rfl, ?_, zC_u (zC_u zC_r (by decide)) (by decide)⟩
    rw [zM_u21, zM_u18]
set_option maxRecDepth 20000 in
set_option maxHeartbeats 4000000 in
theorem sg_M_set_0 {e : gE} {b : Nat} {m : Int} {Z : Int → gH → Prop} {kc ks : Nat} {G : gH} {p1 p2 p3 : Int} (h : (((0 ≤ p1 ∧ p1 < 8) → (0 ≤ p1 ∧ p1 < 8) ∧ (((zM m G 18 p1) ≠ 2 → ((zM m G 18 p1) ≠ 0 → (0 ≤ p2 → (p2 < (zM m G 20 p1) → (inI (60 * p1)) ∧ ((inI ((60 * p1) + p2)) ∧ (((zM m G 19 p1) ≠ 0 → ((zM m G 19 p1) ≠ 1 → ((zM m G 19 p1) ≠ 2 → (0 ≤ ((60 * p1) + p2) ∧ ((60 * p1) + p2) < 480) ∧ (∀ G34 : gH, G34 = gU G 2 (m + 22) ((60 * p1) + p2) p3 → Z 1 G34)) ∧ ((zM m G 19 p1) = 2 → (0 ≤ ((60 * p1) + p2) ∧ ((60 * p1) + p2) < 480) ∧ (∀ G36 : gH, G36 = gU G 2 (m + 22) ((60 * p1) + p2) (w32 p3) → Z 1 G36))) ∧ ((zM m G 19 p1) = 1 → (0 ≤ ((60 * p1) + p2) ∧ ((60 * p1) + p2) < 480) ∧ (∀ G38 : gH, G38 = gU G 2 (m + 22) ((60 * p1) + p2) (w16 (w32 p3)) → Z 1 G38))) ∧ ((zM m G 19 p1) = 0 → (0 ≤ ((60 * p1) + p2) ∧ ((60 * p1) + p2) < 480) ∧ (∀ G40 : gH, G40 = gU G 2 (m + 22) ((60 * p1) + p2) (w8 (w32 p3)) → Z 1 G40))))))) ∧ ((zM m G 18 p1) = 0 → GX e b m m_M_no [(2, (m + 0)), (0, (-3))] G 0 0 (fun v21 G22 => Z v21 G22))) ∧ ((zM m G 18 p1) = 2 → GX e b m m_M_no [(2, (m + 0)), (0, (-2))] G 0 0 (fun v24 G25 => Z v24 G25)))) ∧ ((¬ (0 ≤ p1 ∧ p1 < 8)) → GX e b m m_M_no [(2, (m + 0)), (0, (-1))] G 0 0 (fun v27 G28 => Z v27 G28))) ∧ ((((0 ≤ p1 ∧ p1 < 8) ∧ (zM m G 18 p1) ≠ 2 ∧ (zM m G 18 p1) ≠ 0 ∧ p2 < 0) ∨ ((0 ≤ p1 ∧ p1 < 8) ∧ (zM m G 18 p1) ≠ 2 ∧ (zM m G 18 p1) ≠ 0 ∧ 0 ≤ p2 ∧ (zM m G 20 p1) ≤ p2)) → GX e b m m_M_no [(2, (m + 0)), (0, (-5))] G 0 0 (fun v31 G32 => Z v31 G32))) : EX e b m m_M_set Z kc ks 0 [(2, (m + 0)), (0, p1), (0, p2), (1, p3), (9, 0)] [] G := by
  obtain ⟨h, hJ29⟩ := h
  have kJ29 : (((0 ≤ p1 ∧ p1 < 8) ∧ (zM m G 18 p1) ≠ 2 ∧ (zM m G 18 p1) ≠ 0 ∧ p2 < 0) ∨ ((0 ≤ p1 ∧ p1 < 8) ∧ (zM m G 18 p1) ≠ 2 ∧ (zM m G 18 p1) ≠ 0 ∧ 0 ≤ p2 ∧ (zM m G 20 p1) ≤ p2)) → EX e b m m_M_set Z kc ks 60 [(2, (m + 0)), (0, p1), (0, p2), (1, p3), (9, 0)] [] G := by
    intro rJ29
    have h := hJ29 rJ29
    refine e_aload_n d_M_set_60 rfl ?_
    refine e_bipush d_M_set_61 (by decide) (by decide) ?_
    refine EV.inv fun hFf30 => ?_
    have f30 := (fx_mt 0 rfl hFf30).1
    refine e_callV m_M_no 12 lw_good d_M_set_63 (k_M_no _) ⟨Nat.le_of_ble_eq_true rfl, Nat.le_of_ble_eq_true rfl⟩ w_1569 w_1571 w_s42 (q_M _) rfl f30 (args := [(0, (-5))]) rfl rfl (Nat.le_of_ble_eq_true rfl) (kc' := kc) (ks' := ks) (mc := 0) (ms := 0) rfl rfl h ?_
    intro v31 G32 h
    exact e_iret d_M_set_66 rfl h
  refine e_iload_n d_M_set_0 rfl ?_
  refine e_callS m_M_isShelf lw_good d_M_set_1 (k_M_isShelf _) ⟨Nat.le_of_ble_eq_true rfl, Nat.le_of_ble_eq_true rfl⟩ w_1593 w_1594 (args := [(0, p1)]) rfl rfl (Nat.le_of_ble_eq_true rfl) (kc' := kc) (ks' := ks) (mc := 0) (ms := 0) rfl rfl (c_M_isShelf) (pureK ?_)
  refine e_if_ne (tgt := 13) d_M_set_4 (by decide) (fun q1 => ?_) (fun q2 => ?_)
  · replace q1 := gb1.mp q1
    have h := h.1 q1
    refine e_aload_n d_M_set_13 rfl ?_
    refine gx_M_66 d_M_set_14 rfl ?_
    refine e_iload_n d_M_set_17 rfl ?_
    obtain ⟨o3, h⟩ := h
    refine xM_iald 18 rfl d_M_set_18 o3 ?_
    refine e_iconst d_M_set_19 (by decide) ?_
    refine e_icmp_ne (tgt := 30) d_M_set_20 (by decide) (fun q4 => ?_) (fun q5 => ?_)
    · have h := h.1 q4
      refine e_aload_n d_M_set_30 rfl ?_
      refine gx_M_66 d_M_set_31 rfl ?_
      refine e_iload_n d_M_set_34 rfl ?_
      refine xM_iald 18 rfl d_M_set_35 o3 ?_
      refine e_if_ne (tgt := 46) d_M_set_36 (by decide) (fun q6 => ?_) (fun q7 => ?_)
      · have h := h.1 q6
        refine e_iload_n d_M_set_46 rfl ?_
        refine e_if_lt (tgt := 60) d_M_set_47 (by decide) (fun q8 => ?_) (fun q9 => ?_)
        · exact kJ29 (Or.inl ⟨q1, q4, q6, q8⟩)
        · have h := h q9
          refine e_iload_n d_M_set_50 rfl ?_
          refine e_aload_n d_M_set_51 rfl ?_
          refine gx_M_72 d_M_set_52 rfl ?_
          refine e_iload_n d_M_set_55 rfl ?_
          refine xM_iald 20 rfl d_M_set_56 o3 ?_
          refine e_icmp_lt (tgt := 67) d_M_set_57 (by decide) (fun q10 => ?_) (fun q11 => ?_)
          · have h := h q10
            refine e_aload_n d_M_set_67 rfl ?_
            refine gx_M_78 d_M_set_68 rfl ?_
            refine e_bipush d_M_set_71 (by decide) (by decide) ?_
            refine e_iload_n d_M_set_73 rfl ?_
            obtain ⟨o12, h⟩ := h
            refine e_imul d_M_set_74 o12 ?_
            refine e_iload_n d_M_set_75 rfl ?_
            obtain ⟨o13, h⟩ := h
            refine e_iadd d_M_set_76 o13 ?_
            refine e_aload_n d_M_set_77 rfl ?_
            refine gx_M_69 d_M_set_78 rfl ?_
            refine e_iload_n d_M_set_81 rfl ?_
            refine xM_iald 19 rfl d_M_set_82 o3 ?_
            refine e_if_ne (tgt := 93) d_M_set_83 (by decide) (fun q14 => ?_) (fun q15 => ?_)
            · have h := h.1 q14
              refine e_aload_n d_M_set_93 rfl ?_
              refine gx_M_69 d_M_set_94 rfl ?_
              refine e_iload_n d_M_set_97 rfl ?_
              refine xM_iald 19 rfl d_M_set_98 o3 ?_
              refine e_iconst d_M_set_99 (by decide) ?_
              refine e_icmp_ne (tgt := 110) d_M_set_100 (by decide) (fun q16 => ?_) (fun q17 => ?_)
              · have h := h.1 q16
                refine e_aload_n d_M_set_110 rfl ?_
                refine gx_M_69 d_M_set_111 rfl ?_
                refine e_iload_n d_M_set_114 rfl ?_
                refine xM_iald 19 rfl d_M_set_115 o3 ?_
                refine e_iconst d_M_set_116 (by decide) ?_
                refine e_icmp_ne (tgt := 126) d_M_set_117 (by decide) (fun q18 => ?_) (fun q19 => ?_)
                · have h := h.1 q18
                  refine e_lload_n d_M_set_126 rfl ?_
                  obtain ⟨o33, h⟩ := h
                  refine xM_last 22 rfl d_M_set_127 o33 ?_
                  let G34 : gH := gU G 2 (m + 22) ((60 * p1) + p2) p3
                  have h := h G34 rfl
                  refine e_iconst d_M_set_128 (by decide) ?_
                  exact e_iret d_M_set_129 rfl h
                · have h := h.2 q19
                  refine e_lload_n d_M_set_120 rfl ?_
                  refine e_l2i d_M_set_121 ?_
                  refine e_i2l d_M_set_122 ?_
                  refine e_goto (tgt := 127) d_M_set_123 (by decide) ?_
                  obtain ⟨o35, h⟩ := h
                  refine xM_last 22 rfl d_M_set_127 o35 ?_
                  let G36 : gH := gU G 2 (m + 22) ((60 * p1) + p2) (w32 p3)
                  have h := h G36 rfl
                  refine e_iconst d_M_set_128 (by decide) ?_
                  exact e_iret d_M_set_129 rfl h
              · have h := h.2 q17
                refine e_lload_n d_M_set_103 rfl ?_
                refine e_l2i d_M_set_104 ?_
                refine e_i2s d_M_set_105 ?_
                refine e_i2l d_M_set_106 ?_
                refine e_goto (tgt := 127) d_M_set_107 (by decide) ?_
                obtain ⟨o37, h⟩ := h
                refine xM_last 22 rfl d_M_set_127 o37 ?_
                let G38 : gH := gU G 2 (m + 22) ((60 * p1) + p2) (w16 (w32 p3))
                have h := h G38 rfl
                refine e_iconst d_M_set_128 (by decide) ?_
                exact e_iret d_M_set_129 rfl h
            · have h := h.2 q15
              refine e_lload_n d_M_set_86 rfl ?_
              refine e_l2i d_M_set_87 ?_
              refine e_i2b d_M_set_88 ?_
              refine e_i2l d_M_set_89 ?_
              refine e_goto (tgt := 127) d_M_set_90 (by decide) ?_
              obtain ⟨o39, h⟩ := h
              refine xM_last 22 rfl d_M_set_127 o39 ?_
              let G40 : gH := gU G 2 (m + 22) ((60 * p1) + p2) (w8 (w32 p3))
              have h := h G40 rfl
              refine e_iconst d_M_set_128 (by decide) ?_
              exact e_iret d_M_set_129 rfl h
          · exact kJ29 (Or.inr ⟨q1, q4, q6, q9, q11⟩)
      · have h := h.2 q7
        refine e_aload_n d_M_set_39 rfl ?_
        refine e_bipush d_M_set_40 (by decide) (by decide) ?_
        refine EV.inv fun hFf20 => ?_
        have f20 := (fx_mt 0 rfl hFf20).1
        refine e_callV m_M_no 12 lw_good d_M_set_42 (k_M_no _) ⟨Nat.le_of_ble_eq_true rfl, Nat.le_of_ble_eq_true rfl⟩ w_1569 w_1571 w_s42 (q_M _) rfl f20 (args := [(0, (-3))]) rfl rfl (Nat.le_of_ble_eq_true rfl) (kc' := kc) (ks' := ks) (mc := 0) (ms := 0) rfl rfl h ?_
        intro v21 G22 h
        exact e_iret d_M_set_45 rfl h
    · have h := h.2 q5
      refine e_aload_n d_M_set_23 rfl ?_
      refine e_bipush d_M_set_24 (by decide) (by decide) ?_
      refine EV.inv fun hFf23 => ?_
      have f23 := (fx_mt 0 rfl hFf23).1
      refine e_callV m_M_no 12 lw_good d_M_set_26 (k_M_no _) ⟨Nat.le_of_ble_eq_true rfl, Nat.le_of_ble_eq_true rfl⟩ w_1569 w_1571 w_s42 (q_M _) rfl f23 (args := [(0, (-2))]) rfl rfl (Nat.le_of_ble_eq_true rfl) (kc' := kc) (ks' := ks) (mc := 0) (ms := 0) rfl rfl h ?_
      intro v24 G25 h
      exact e_iret d_M_set_29 rfl h
  · replace q2 := gb0.mp q2
    have h := h.2 q2
    refine e_aload_n d_M_set_7 rfl ?_
    refine e_iconst d_M_set_8 (by decide) ?_
    refine EV.inv fun hFf26 => ?_
    have f26 := (fx_mt 0 rfl hFf26).1
    refine e_callV m_M_no 12 lw_good d_M_set_9 (k_M_no _) ⟨Nat.le_of_ble_eq_true rfl, Nat.le_of_ble_eq_true rfl⟩ w_1569 w_1571 w_s42 (q_M _) rfl f26 (args := [(0, (-1))]) rfl rfl (Nat.le_of_ble_eq_true rfl) (kc' := kc) (ks' := ks) (mc := 0) (ms := 0) rfl rfl h ?_
    intro v27 G28 h
    exact e_iret d_M_set_12 rfl h
set_option maxRecDepth 20000 in
set_option maxHeartbeats 4000000 in
theorem sg_M_row_0 {e : gE} {b : Nat} {m : Int} {Z : Int → gH → Prop} {kc ks : Nat} {G : gH} {p1 p2 p3 : Int} (h : (((0 ≤ p1 ∧ p1 < 8) → (0 ≤ p3 → (0 ≤ p2 → (p2 ≤ 3 → (p3 ≤ 60 → (0 ≤ p1 ∧ p1 < 8) ∧ (∀ G12 : gH, G12 = gU G 1 (m + 18) p1 1 → ∀ G13 : gH, G13 = gU G12 1 (m + 19) p1 p2 → ∀ G14 : gH, G14 = gU G13 1 (m + 20) p1 p3 → EX e b m m_M_row Z kc ks 77 [(2, (m + 0)), (0, p1), (9, 0), (9, 0), (0, 0)] [] G14)) ∧ (60 < p3 → GX e b m m_M_no [(2, (m + 0)), (0, (-7))] G 0 0 (fun v16 G17 => Z v16 G17))))) ∧ (p3 < 0 → GX e b m m_M_no [(2, (m + 0)), (0, (-4))] G 0 0 (fun v19 G20 => Z v19 G20))) ∧ ((¬ (0 ≤ p1 ∧ p1 < 8)) → GX e b m m_M_no [(2, (m + 0)), (0, (-1))] G 0 0 (fun v22 G23 => Z v22 G23))) ∧ ((((0 ≤ p1 ∧ p1 < 8) ∧ 0 ≤ p3 ∧ p2 < 0) ∨ ((0 ≤ p1 ∧ p1 < 8) ∧ 0 ≤ p3 ∧ 0 ≤ p2 ∧ 3 < p2)) → GX e b m m_M_no [(2, (m + 0)), (0, (-6))] G 0 0 (fun v26 G27 => Z v26 G27))) : EX e b m m_M_row Z kc ks 0 [(2, (m + 0)), (0, p1), (0, p2), (0, p3), (9, 0)] [] G := by
  obtain ⟨h, hJ24⟩ := h
  have kJ24 : (((0 ≤ p1 ∧ p1 < 8) ∧ 0 ≤ p3 ∧ p2 < 0) ∨ ((0 ≤ p1 ∧ p1 < 8) ∧ 0 ≤ p3 ∧ 0 ≤ p2 ∧ 3 < p2)) → EX e b m m_M_row Z kc ks 33 [(2, (m + 0)), (0, p1), (0, p2), (0, p3), (9, 0)] [] G := by
    intro rJ24
    have h := hJ24 rJ24
    refine e_aload_n d_M_row_33 rfl ?_
    refine e_bipush d_M_row_34 (by decide) (by decide) ?_
    refine EV.inv fun hFf25 => ?_
    have f25 := (fx_mt 0 rfl hFf25).1
    refine e_callV m_M_no 12 lw_good d_M_row_36 (k_M_no _) ⟨Nat.le_of_ble_eq_true rfl, Nat.le_of_ble_eq_true rfl⟩ w_1569 w_1571 w_s42 (q_M _) rfl f25 (args := [(0, (-6))]) rfl rfl (Nat.le_of_ble_eq_true rfl) (kc' := kc) (ks' := ks) (mc := 0) (ms := 0) rfl rfl h ?_
    intro v26 G27 h
    exact e_iret d_M_row_39 rfl h
  refine e_iload_n d_M_row_0 rfl ?_
  refine e_callS m_M_isShelf lw_good d_M_row_1 (k_M_isShelf _) ⟨Nat.le_of_ble_eq_true rfl, Nat.le_of_ble_eq_true rfl⟩ w_1593 w_1594 (args := [(0, p1)]) rfl rfl (Nat.le_of_ble_eq_true rfl) (kc' := kc) (ks' := ks) (mc := 0) (ms := 0) rfl rfl (c_M_isShelf) (pureK ?_)
  refine e_if_ne (tgt := 13) d_M_row_4 (by decide) (fun q1 => ?_) (fun q2 => ?_)
  · replace q1 := gb1.mp q1
    have h := h.1 q1
    refine e_iload_n d_M_row_13 rfl ?_
    refine e_if_ge (tgt := 24) d_M_row_14 (by decide) (fun q3 => ?_) (fun q4 => ?_)
    · have h := h.1 q3
      refine e_iload_n d_M_row_24 rfl ?_
      refine e_if_lt (tgt := 33) d_M_row_25 (by decide) (fun q5 => ?_) (fun q6 => ?_)
      · exact kJ24 (Or.inl ⟨q1, q3, q5⟩)
      · have h := h q6
        refine e_iload_n d_M_row_28 rfl ?_
        refine e_iconst d_M_row_29 (by decide) ?_
        refine e_icmp_le (tgt := 40) d_M_row_30 (by decide) (fun q7 => ?_) (fun q8 => ?_)
        · have h := h q7
          refine e_iload_n d_M_row_40 rfl ?_
          refine e_bipush d_M_row_41 (by decide) (by decide) ?_
          refine e_icmp_le (tgt := 53) d_M_row_43 (by decide) (fun q9 => ?_) (fun q10 => ?_)
          · have h := h.1 q9
            refine e_aload_n d_M_row_53 rfl ?_
            refine gx_M_66 d_M_row_54 rfl ?_
            refine e_iload_n d_M_row_57 rfl ?_
            refine e_iconst d_M_row_58 (by decide) ?_
            obtain ⟨o11, h⟩ := h
            refine xM_iast 18 rfl d_M_row_59 o11 ?_
            let G12 : gH := gU G 1 (m + 18) p1 1
            have h := h G12 rfl
            refine e_aload_n d_M_row_60 rfl ?_
            refine gx_M_69 d_M_row_61 rfl ?_
            refine e_iload_n d_M_row_64 rfl ?_
            refine e_iload_n d_M_row_65 rfl ?_
            refine xM_iast 19 rfl d_M_row_66 o11 ?_
            let G13 : gH := gU G12 1 (m + 19) p1 p2
            have h := h G13 rfl
            refine e_aload_n d_M_row_67 rfl ?_
            refine gx_M_72 d_M_row_68 rfl ?_
            refine e_iload_n d_M_row_71 rfl ?_
            refine e_iload_n d_M_row_72 rfl ?_
            refine xM_iast 20 rfl d_M_row_73 o11 ?_
            let G14 : gH := gU G13 1 (m + 20) p1 p3
            have h := h G14 rfl
            refine e_iconst d_M_row_74 (by decide) ?_
            refine e_istore (ls' := [(2, (m + 0)), (0, p1), (0, p2), (0, p3), (0, 0)]) d_M_row_75 (by decide) rfl ?_
            exact e_forget (ls' := [(2, (m + 0)), (0, p1), (9, 0), (9, 0), (0, 0)]) ⟨Or.inr rfl, Or.inr rfl, Or.inl rfl, Or.inl rfl, Or.inr rfl, trivial⟩ h
          · have h := h.2 q10
            refine e_aload_n d_M_row_46 rfl ?_
            refine e_bipush d_M_row_47 (by decide) (by decide) ?_
            refine EV.inv fun hFf15 => ?_
            have f15 := (fx_mt 0 rfl hFf15).1
            refine e_callV m_M_no 12 lw_good d_M_row_49 (k_M_no _) ⟨Nat.le_of_ble_eq_true rfl, Nat.le_of_ble_eq_true rfl⟩ w_1569 w_1571 w_s42 (q_M _) rfl f15 (args := [(0, (-7))]) rfl rfl (Nat.le_of_ble_eq_true rfl) (kc' := kc) (ks' := ks) (mc := 0) (ms := 0) rfl rfl h ?_
            intro v16 G17 h
            exact e_iret d_M_row_52 rfl h
        · exact kJ24 (Or.inr ⟨q1, q3, q6, q8⟩)
    · have h := h.2 q4
      refine e_aload_n d_M_row_17 rfl ?_
      refine e_bipush d_M_row_18 (by decide) (by decide) ?_
      refine EV.inv fun hFf18 => ?_
      have f18 := (fx_mt 0 rfl hFf18).1
      refine e_callV m_M_no 12 lw_good d_M_row_20 (k_M_no _) ⟨Nat.le_of_ble_eq_true rfl, Nat.le_of_ble_eq_true rfl⟩ w_1569 w_1571 w_s42 (q_M _) rfl f18 (args := [(0, (-4))]) rfl rfl (Nat.le_of_ble_eq_true rfl) (kc' := kc) (ks' := ks) (mc := 0) (ms := 0) rfl rfl h ?_
      intro v19 G20 h
      exact e_iret d_M_row_23 rfl h
  · replace q2 := gb0.mp q2
    have h := h.2 q2
    refine e_aload_n d_M_row_7 rfl ?_
    refine e_iconst d_M_row_8 (by decide) ?_
    refine EV.inv fun hFf21 => ?_
    have f21 := (fx_mt 0 rfl hFf21).1
    refine e_callV m_M_no 12 lw_good d_M_row_9 (k_M_no _) ⟨Nat.le_of_ble_eq_true rfl, Nat.le_of_ble_eq_true rfl⟩ w_1569 w_1571 w_s42 (q_M _) rfl f21 (args := [(0, (-1))]) rfl rfl (Nat.le_of_ble_eq_true rfl) (kc' := kc) (ks' := ks) (mc := 0) (ms := 0) rfl rfl h ?_
    intro v22 G23 h
    exact e_iret d_M_row_12 rfl h
set_option maxRecDepth 20000 in
set_option maxHeartbeats 4000000 in
theorem sg_M_row_77 {e : gE} {b : Nat} {m : Int} {Z : Int → gH → Prop} {kc ks : Nat} {G : gH} {p1 x4 : Int} (h : (60 ≤ x4 → Z 1 G) ∧ (x4 < 60 → (inI (60 * p1)) ∧ ((inI ((60 * p1) + x4)) ∧ ((0 ≤ ((60 * p1) + x4) ∧ ((60 * p1) + x4) < 480) ∧ (∀ G6 : gH, G6 = gU G 2 (m + 22) ((60 * p1) + x4) 0 → (inI (x4 + 1)) ∧ EX e b m m_M_row Z kc ks 77 [(2, (m + 0)), (0, p1), (9, 0), (9, 0), (0, (x4 + 1))] [] G6))))) : EX e b m m_M_row Z kc ks 77 [(2, (m + 0)), (0, p1), (9, 0), (9, 0), (0, x4)] [] G := by
  refine e_iload d_M_row_77 rfl ?_
  refine e_bipush d_M_row_79 (by decide) (by decide) ?_
  refine e_icmp_ge (tgt := 103) d_M_row_81 (by decide) (fun q1 => ?_) (fun q2 => ?_)
  · have h := h.1 q1
    refine e_iconst d_M_row_103 (by decide) ?_
    exact e_iret d_M_row_104 rfl h
  · have h := h.2 q2
    refine e_aload_n d_M_row_84 rfl ?_
    refine gx_M_78 d_M_row_85 rfl ?_
    refine e_bipush d_M_row_88 (by decide) (by decide) ?_
    refine e_iload_n d_M_row_90 rfl ?_
    obtain ⟨o3, h⟩ := h
    refine e_imul d_M_row_91 o3 ?_
    refine e_iload d_M_row_92 rfl ?_
    obtain ⟨o4, h⟩ := h
    refine e_iadd d_M_row_94 o4 ?_
    refine e_lconst 0 d_M_row_95 (by decide) (by decide) ?_
    obtain ⟨o5, h⟩ := h
    refine xM_last 22 rfl d_M_row_96 o5 ?_
    let G6 : gH := gU G 2 (m + 22) ((60 * p1) + x4) 0
    have h := h G6 rfl
    obtain ⟨o7, h⟩ := h
    refine e_iinc (ls' := [(2, (m + 0)), (0, p1), (9, 0), (9, 0), (0, (x4 + 1))]) d_M_row_97 rfl (by decide) o7 rfl ?_
    refine e_goto (tgt := 77) d_M_row_100 (by decide) ?_
    exact e_forget (ls' := [(2, (m + 0)), (0, p1), (9, 0), (9, 0), (0, (x4 + 1))]) ⟨Or.inr rfl, Or.inr rfl, Or.inl rfl, Or.inl rfl, Or.inr rfl, trivial⟩ h
set_option maxRecDepth 20000 in
set_option maxHeartbeats 4000000 in
theorem sg_M_copy_0 {e : gE} {b : Nat} {m : Int} {Z : Int → gH → Prop} {kc ks : Nat} {G : gH} {p1 p2 p3 p4 p5 : Int} (h : ((0 ≤ p1 ∧ p1 < 8) → ((0 ≤ p2 ∧ p2 < 8) → (0 ≤ p1 ∧ p1 < 8) ∧ ((zM m G 18 p1) ≠ 2 → (0 ≤ p2 ∧ p2 < 8)))) ∧ ((((¬ (0 ≤ p1 ∧ p1 < 8))) ∨ ((0 ≤ p1 ∧ p1 < 8) ∧ (¬ (0 ≤ p2 ∧ p2 < 8)))) → GX e b m m_M_no [(2, (m + 0)), (0, (-1))] G 0 0 (fun v19 G20 => Z v19 G20)) ∧ ((((0 ≤ p1 ∧ p1 < 8) ∧ (0 ≤ p2 ∧ p2 < 8) ∧ (zM m G 18 p1) = 2) ∨ ((0 ≤ p1 ∧ p1 < 8) ∧ (0 ≤ p2 ∧ p2 < 8) ∧ (zM m G 18 p1) ≠ 2 ∧ (zM m G 18 p2) = 2) ∨ ((0 ≤ p1 ∧ p1 < 8) ∧ (0 ≤ p2 ∧ p2 < 8) ∧ (zM m G 18 p1) ≠ 2 ∧ (zM m G 18 p2) ≠ 2 ∧ (zM m G 18 p1) = 1 ∧ (zM m G 18 p2) = 1 ∧ (zM m G 19 p1) ≠ (zM m G 19 p2))) → GX e b m m_M_no [(2, (m + 0)), (0, (-2))] G 0 0 (fun v23 G24 => Z v23 G24)) ∧ ((((0 ≤ p1 ∧ p1 < 8) ∧ (0 ≤ p2 ∧ p2 < 8) ∧ (zM m G 18 p1) ≠ 2 ∧ (zM m G 18 p2) ≠ 2 ∧ (zM m G 18 p1) ≠ 1) ∨ ((0 ≤ p1 ∧ p1 < 8) ∧ (0 ≤ p2 ∧ p2 < 8) ∧ (zM m G 18 p1) ≠ 2 ∧ (zM m G 18 p2) ≠ 2 ∧ (zM m G 18 p1) = 1 ∧ (zM m G 18 p2) ≠ 1) ∨ ((0 ≤ p1 ∧ p1 < 8) ∧ (0 ≤ p2 ∧ p2 < 8) ∧ (zM m G 18 p1) ≠ 2 ∧ (zM m G 18 p2) ≠ 2 ∧ (zM m G 18 p1) = 1 ∧ (zM m G 18 p2) = 1 ∧ (zM m G 19 p1) = (zM m G 19 p2))) → (0 ≤ p1 ∧ p1 < 8) ∧ ((zM m G 18 p1) ≠ 0 → (0 ≤ p2 ∧ p2 < 8) ∧ ((zM m G 18 p2) ≠ 0 → (0 ≤ p5 → (0 ≤ p3 → (0 ≤ p4 → (inI ((zM m G 20 p1) - p5)) ∧ (p3 ≤ ((zM m G 20 p1) - p5) → (inI ((zM m G 20 p2) - p5)) ∧ (p4 ≤ ((zM m G 20 p2) - p5) → EX e b m m_M_copy Z kc ks 165 [(2, (m + 0)), (0, p1), (0, p2), (0, p3), (0, p4), (0, p5), (0, 0)] [] G))))) ∧ (p5 < 0 → GX e b m m_M_no [(2, (m + 0)), (0, (-4))] G 0 0 (fun v45 G46 => Z v45 G46))))) ∧ ((((((0 ≤ p1 ∧ p1 < 8) ∧ (0 ≤ p2 ∧ p2 < 8) ∧ (zM m G 18 p1) ≠ 2 ∧ (zM m G 18 p2) ≠ 2 ∧ (zM m G 18 p1) ≠ 1) ∨ ((0 ≤ p1 ∧ p1 < 8) ∧ (0 ≤ p2 ∧ p2 < 8) ∧ (zM m G 18 p1) ≠ 2 ∧ (zM m G 18 p2) ≠ 2 ∧ (zM m G 18 p1) = 1 ∧ (zM m G 18 p2) ≠ 1) ∨ ((0 ≤ p1 ∧ p1 < 8) ∧ (0 ≤ p2 ∧ p2 < 8) ∧ (zM m G 18 p1) ≠ 2 ∧ (zM m G 18 p2) ≠ 2 ∧ (zM m G 18 p1) = 1 ∧ (zM m G 18 p2) = 1 ∧ (zM m G 19 p1) = (zM m G 19 p2))) ∧ (zM m G 18 p1) = 0) ∨ ((((0 ≤ p1 ∧ p1 < 8) ∧ (0 ≤ p2 ∧ p2 < 8) ∧ (zM m G 18 p1) ≠ 2 ∧ (zM m G 18 p2) ≠ 2 ∧ (zM m G 18 p1) ≠ 1) ∨ ((0 ≤ p1 ∧ p1 < 8) ∧ (0 ≤ p2 ∧ p2 < 8) ∧ (zM m G 18 p1) ≠ 2 ∧ (zM m G 18 p2) ≠ 2 ∧ (zM m G 18 p1) = 1 ∧ (zM m G 18 p2) ≠ 1) ∨ ((0 ≤ p1 ∧ p1 < 8) ∧ (0 ≤ p2 ∧ p2 < 8) ∧ (zM m G 18 p1) ≠ 2 ∧ (zM m G 18 p2) ≠ 2 ∧ (zM m G 18 p1) = 1 ∧ (zM m G 18 p2) = 1 ∧ (zM m G 19 p1) = (zM m G 19 p2))) ∧ (zM m G 18 p1) ≠ 0 ∧ (zM m G 18 p2) = 0)) → GX e b m m_M_no [(2, (m + 0)), (0, (-3))] G 0 0 (fun v49 G50 => Z v49 G50)) ∧ ((((((0 ≤ p1 ∧ p1 < 8) ∧ (0 ≤ p2 ∧ p2 < 8) ∧ (zM m G 18 p1) ≠ 2 ∧ (zM m G 18 p2) ≠ 2 ∧ (zM m G 18 p1) ≠ 1) ∨ ((0 ≤ p1 ∧ p1 < 8) ∧ (0 ≤ p2 ∧ p2 < 8) ∧ (zM m G 18 p1) ≠ 2 ∧ (zM m G 18 p2) ≠ 2 ∧ (zM m G 18 p1) = 1 ∧ (zM m G 18 p2) ≠ 1) ∨ ((0 ≤ p1 ∧ p1 < 8) ∧ (0 ≤ p2 ∧ p2 < 8) ∧ (zM m G 18 p1) ≠ 2 ∧ (zM m G 18 p2) ≠ 2 ∧ (zM m G 18 p1) = 1 ∧ (zM m G 18 p2) = 1 ∧ (zM m G 19 p1) = (zM m G 19 p2))) ∧ (zM m G 18 p1) ≠ 0 ∧ (zM m G 18 p2) ≠ 0 ∧ 0 ≤ p5 ∧ p3 < 0) ∨ ((((0 ≤ p1 ∧ p1 < 8) ∧ (0 ≤ p2 ∧ p2 < 8) ∧ (zM m G 18 p1) ≠ 2 ∧ (zM m G 18 p2) ≠ 2 ∧ (zM m G 18 p1) ≠ 1) ∨ ((0 ≤ p1 ∧ p1 < 8) ∧ (0 ≤ p2 ∧ p2 < 8) ∧ (zM m G 18 p1) ≠ 2 ∧ (zM m G 18 p2) ≠ 2 ∧ (zM m G 18 p1) = 1 ∧ (zM m G 18 p2) ≠ 1) ∨ ((0 ≤ p1 ∧ p1 < 8) ∧ (0 ≤ p2 ∧ p2 < 8) ∧ (zM m G 18 p1) ≠ 2 ∧ (zM m G 18 p2) ≠ 2 ∧ (zM m G 18 p1) = 1 ∧ (zM m G 18 p2) = 1 ∧ (zM m G 19 p1) = (zM m G 19 p2))) ∧ (zM m G 18 p1) ≠ 0 ∧ (zM m G 18 p2) ≠ 0 ∧ 0 ≤ p5 ∧ 0 ≤ p3 ∧ p4 < 0) ∨ ((((0 ≤ p1 ∧ p1 < 8) ∧ (0 ≤ p2 ∧ p2 < 8) ∧ (zM m G 18 p1) ≠ 2 ∧ (zM m G 18 p2) ≠ 2 ∧ (zM m G 18 p1) ≠ 1) ∨ ((0 ≤ p1 ∧ p1 < 8) ∧ (0 ≤ p2 ∧ p2 < 8) ∧ (zM m G 18 p1) ≠ 2 ∧ (zM m G 18 p2) ≠ 2 ∧ (zM m G 18 p1) = 1 ∧ (zM m G 18 p2) ≠ 1) ∨ ((0 ≤ p1 ∧ p1 < 8) ∧ (0 ≤ p2 ∧ p2 < 8) ∧ (zM m G 18 p1) ≠ 2 ∧ (zM m G 18 p2) ≠ 2 ∧ (zM m G 18 p1) = 1 ∧ (zM m G 18 p2) = 1 ∧ (zM m G 19 p1) = (zM m G 19 p2))) ∧ (zM m G 18 p1) ≠ 0 ∧ (zM m G 18 p2) ≠ 0 ∧ 0 ≤ p5 ∧ 0 ≤ p3 ∧ 0 ≤ p4 ∧ ((zM m G 20 p1) - p5) < p3) ∨ ((((0 ≤ p1 ∧ p1 < 8) ∧ (0 ≤ p2 ∧ p2 < 8) ∧ (zM m G 18 p1) ≠ 2 ∧ (zM m G 18 p2) ≠ 2 ∧ (zM m G 18 p1) ≠ 1) ∨ ((0 ≤ p1 ∧ p1 < 8) ∧ (0 ≤ p2 ∧ p2 < 8) ∧ (zM m G 18 p1) ≠ 2 ∧ (zM m G 18 p2) ≠ 2 ∧ (zM m G 18 p1) = 1 ∧ (zM m G 18 p2) ≠ 1) ∨ ((0 ≤ p1 ∧ p1 < 8) ∧ (0 ≤ p2 ∧ p2 < 8) ∧ (zM m G 18 p1) ≠ 2 ∧ (zM m G 18 p2) ≠ 2 ∧ (zM m G 18 p1) = 1 ∧ (zM m G 18 p2) = 1 ∧ (zM m G 19 p1) = (zM m G 19 p2))) ∧ (zM m G 18 p1) ≠ 0 ∧ (zM m G 18 p2) ≠ 0 ∧ 0 ≤ p5 ∧ 0 ≤ p3 ∧ 0 ≤ p4 ∧ p3 ≤ ((zM m G 20 p1) - p5) ∧ ((zM m G 20 p2) - p5) < p4)) → GX e b m m_M_no [(2, (m + 0)), (0, (-5))] G 0 0 (fun v53 G54 => Z v53 G54))) : EX e b m m_M_copy Z kc ks 0 [(2, (m + 0)), (0, p1), (0, p2), (0, p3), (0, p4), (0, p5), (9, 0)] [] G := by
  obtain ⟨h, hJ17, hJ21, hJ25, hJ47, hJ51⟩ := h
  have kJ51 : (((((0 ≤ p1 ∧ p1 < 8) ∧ (0 ≤ p2 ∧ p2 < 8) ∧ (zM m G 18 p1) ≠ 2 ∧ (zM m G 18 p2) ≠ 2 ∧ (zM m G 18 p1) ≠ 1) ∨ ((0 ≤ p1 ∧ p1 < 8) ∧ (0 ≤ p2 ∧ p2 < 8) ∧ (zM m G 18 p1) ≠ 2 ∧ (zM m G 18 p2) ≠ 2 ∧ (zM m G 18 p1) = 1 ∧ (zM m G 18 p2) ≠ 1) ∨ ((0 ≤ p1 ∧ p1 < 8) ∧ (0 ≤ p2 ∧ p2 < 8) ∧ (zM m G 18 p1) ≠ 2 ∧ (zM m G 18 p2) ≠ 2 ∧ (zM m G 18 p1) = 1 ∧ (zM m G 18 p2) = 1 ∧ (zM m G 19 p1) = (zM m G 19 p2))) ∧ (zM m G 18 p1) ≠ 0 ∧ (zM m G 18 p2) ≠ 0 ∧ 0 ≤ p5 ∧ p3 < 0) ∨ ((((0 ≤ p1 ∧ p1 < 8) ∧ (0 ≤ p2 ∧ p2 < 8) ∧ (zM m G 18 p1) ≠ 2 ∧ (zM m G 18 p2) ≠ 2 ∧ (zM m G 18 p1) ≠ 1) ∨ ((0 ≤ p1 ∧ p1 < 8) ∧ (0 ≤ p2 ∧ p2 < 8) ∧ (zM m G 18 p1) ≠ 2 ∧ (zM m G 18 p2) ≠ 2 ∧ (zM m G 18 p1) = 1 ∧ (zM m G 18 p2) ≠ 1) ∨ ((0 ≤ p1 ∧ p1 < 8) ∧ (0 ≤ p2 ∧ p2 < 8) ∧ (zM m G 18 p1) ≠ 2 ∧ (zM m G 18 p2) ≠ 2 ∧ (zM m G 18 p1) = 1 ∧ (zM m G 18 p2) = 1 ∧ (zM m G 19 p1) = (zM m G 19 p2))) ∧ (zM m G 18 p1) ≠ 0 ∧ (zM m G 18 p2) ≠ 0 ∧ 0 ≤ p5 ∧ 0 ≤ p3 ∧ p4 < 0) ∨ ((((0 ≤ p1 ∧ p1 < 8) ∧ (0 ≤ p2 ∧ p2 < 8) ∧ (zM m G 18 p1) ≠ 2 ∧ (zM m G 18 p2) ≠ 2 ∧ (zM m G 18 p1) ≠ 1) ∨ ((0 ≤ p1 ∧ p1 < 8) ∧ (0 ≤ p2 ∧ p2 < 8) ∧ (zM m G 18 p1) ≠ 2 ∧ (zM m G 18 p2) ≠ 2 ∧ (zM m G 18 p1) = 1 ∧ (zM m G 18 p2) ≠ 1) ∨ ((0 ≤ p1 ∧ p1 < 8) ∧ (0 ≤ p2 ∧ p2 < 8) ∧ (zM m G 18 p1) ≠ 2 ∧ (zM m G 18 p2) ≠ 2 ∧ (zM m G 18 p1) = 1 ∧ (zM m G 18 p2) = 1 ∧ (zM m G 19 p1) = (zM m G 19 p2))) ∧ (zM m G 18 p1) ≠ 0 ∧ (zM m G 18 p2) ≠ 0 ∧ 0 ≤ p5 ∧ 0 ≤ p3 ∧ 0 ≤ p4 ∧ ((zM m G 20 p1) - p5) < p3) ∨ ((((0 ≤ p1 ∧ p1 < 8) ∧ (0 ≤ p2 ∧ p2 < 8) ∧ (zM m G 18 p1) ≠ 2 ∧ (zM m G 18 p2) ≠ 2 ∧ (zM m G 18 p1) ≠ 1) ∨ ((0 ≤ p1 ∧ p1 < 8) ∧ (0 ≤ p2 ∧ p2 < 8) ∧ (zM m G 18 p1) ≠ 2 ∧ (zM m G 18 p2) ≠ 2 ∧ (zM m G 18 p1) = 1 ∧ (zM m G 18 p2) ≠ 1) ∨ ((0 ≤ p1 ∧ p1 < 8) ∧ (0 ≤ p2 ∧ p2 < 8) ∧ (zM m G 18 p1) ≠ 2 ∧ (zM m G 18 p2) ≠ 2 ∧ (zM m G 18 p1) = 1 ∧ (zM m G 18 p2) = 1 ∧ (zM m G 19 p1) = (zM m G 19 p2))) ∧ (zM m G 18 p1) ≠ 0 ∧ (zM m G 18 p2) ≠ 0 ∧ 0 ≤ p5 ∧ 0 ≤ p3 ∧ 0 ≤ p4 ∧ p3 ≤ ((zM m G 20 p1) - p5) ∧ ((zM m G 20 p2) - p5) < p4)) → EX e b m m_M_copy Z kc ks 155 [(2, (m + 0)), (0, p1), (0, p2), (0, p3), (0, p4), (0, p5), (9, 0)] [] G := by
    intro rJ51
    have h := hJ51 rJ51
    refine e_aload_n d_M_copy_155 rfl ?_
    refine e_bipush d_M_copy_156 (by decide) (by decide) ?_
    refine EV.inv fun hFf52 => ?_
    have f52 := (fx_mt 0 rfl hFf52).1
    refine e_callV m_M_no 12 lw_good d_M_copy_158 (k_M_no _) ⟨Nat.le_of_ble_eq_true rfl, Nat.le_of_ble_eq_true rfl⟩ w_1569 w_1571 w_s42 (q_M _) rfl f52 (args := [(0, (-5))]) rfl rfl (Nat.le_of_ble_eq_true rfl) (kc' := kc) (ks' := ks) (mc := 0) (ms := 0) rfl rfl h ?_
    intro v53 G54 h
    exact e_iret d_M_copy_161 rfl h
  have kJ47 : (((((0 ≤ p1 ∧ p1 < 8) ∧ (0 ≤ p2 ∧ p2 < 8) ∧ (zM m G 18 p1) ≠ 2 ∧ (zM m G 18 p2) ≠ 2 ∧ (zM m G 18 p1) ≠ 1) ∨ ((0 ≤ p1 ∧ p1 < 8) ∧ (0 ≤ p2 ∧ p2 < 8) ∧ (zM m G 18 p1) ≠ 2 ∧ (zM m G 18 p2) ≠ 2 ∧ (zM m G 18 p1) = 1 ∧ (zM m G 18 p2) ≠ 1) ∨ ((0 ≤ p1 ∧ p1 < 8) ∧ (0 ≤ p2 ∧ p2 < 8) ∧ (zM m G 18 p1) ≠ 2 ∧ (zM m G 18 p2) ≠ 2 ∧ (zM m G 18 p1) = 1 ∧ (zM m G 18 p2) = 1 ∧ (zM m G 19 p1) = (zM m G 19 p2))) ∧ (zM m G 18 p1) = 0) ∨ ((((0 ≤ p1 ∧ p1 < 8) ∧ (0 ≤ p2 ∧ p2 < 8) ∧ (zM m G 18 p1) ≠ 2 ∧ (zM m G 18 p2) ≠ 2 ∧ (zM m G 18 p1) ≠ 1) ∨ ((0 ≤ p1 ∧ p1 < 8) ∧ (0 ≤ p2 ∧ p2 < 8) ∧ (zM m G 18 p1) ≠ 2 ∧ (zM m G 18 p2) ≠ 2 ∧ (zM m G 18 p1) = 1 ∧ (zM m G 18 p2) ≠ 1) ∨ ((0 ≤ p1 ∧ p1 < 8) ∧ (0 ≤ p2 ∧ p2 < 8) ∧ (zM m G 18 p1) ≠ 2 ∧ (zM m G 18 p2) ≠ 2 ∧ (zM m G 18 p1) = 1 ∧ (zM m G 18 p2) = 1 ∧ (zM m G 19 p1) = (zM m G 19 p2))) ∧ (zM m G 18 p1) ≠ 0 ∧ (zM m G 18 p2) = 0)) → EX e b m m_M_copy Z kc ks 100 [(2, (m + 0)), (0, p1), (0, p2), (0, p3), (0, p4), (0, p5), (9, 0)] [] G := by
    intro rJ47
    have h := hJ47 rJ47
    refine e_aload_n d_M_copy_100 rfl ?_
    refine e_bipush d_M_copy_101 (by decide) (by decide) ?_
    refine EV.inv fun hFf48 => ?_
    have f48 := (fx_mt 0 rfl hFf48).1
    refine e_callV m_M_no 12 lw_good d_M_copy_103 (k_M_no _) ⟨Nat.le_of_ble_eq_true rfl, Nat.le_of_ble_eq_true rfl⟩ w_1569 w_1571 w_s42 (q_M _) rfl f48 (args := [(0, (-3))]) rfl rfl (Nat.le_of_ble_eq_true rfl) (kc' := kc) (ks' := ks) (mc := 0) (ms := 0) rfl rfl h ?_
    intro v49 G50 h
    exact e_iret d_M_copy_106 rfl h
  have kJ25 : (((0 ≤ p1 ∧ p1 < 8) ∧ (0 ≤ p2 ∧ p2 < 8) ∧ (zM m G 18 p1) ≠ 2 ∧ (zM m G 18 p2) ≠ 2 ∧ (zM m G 18 p1) ≠ 1) ∨ ((0 ≤ p1 ∧ p1 < 8) ∧ (0 ≤ p2 ∧ p2 < 8) ∧ (zM m G 18 p1) ≠ 2 ∧ (zM m G 18 p2) ≠ 2 ∧ (zM m G 18 p1) = 1 ∧ (zM m G 18 p2) ≠ 1) ∨ ((0 ≤ p1 ∧ p1 < 8) ∧ (0 ≤ p2 ∧ p2 < 8) ∧ (zM m G 18 p1) ≠ 2 ∧ (zM m G 18 p2) ≠ 2 ∧ (zM m G 18 p1) = 1 ∧ (zM m G 18 p2) = 1 ∧ (zM m G 19 p1) = (zM m G 19 p2))) → EX e b m m_M_copy Z kc ks 82 [(2, (m + 0)), (0, p1), (0, p2), (0, p3), (0, p4), (0, p5), (9, 0)] [] G := by
    intro rJ25
    have h := hJ25 rJ25
    refine e_aload_n d_M_copy_82 rfl ?_
    refine gx_M_66 d_M_copy_83 rfl ?_
    refine e_iload_n d_M_copy_86 rfl ?_
    obtain ⟨o26, h⟩ := h
    refine xM_iald 18 rfl d_M_copy_87 o26 ?_
    refine e_if_eq (tgt := 100) d_M_copy_88 (by decide) (fun q27 => ?_) (fun q28 => ?_)
    · exact kJ47 (Or.inl ⟨rJ25, q27⟩)
    · have h := h q28
      refine e_aload_n d_M_copy_91 rfl ?_
      refine gx_M_66 d_M_copy_92 rfl ?_
      refine e_iload_n d_M_copy_95 rfl ?_
      obtain ⟨o29, h⟩ := h
      refine xM_iald 18 rfl d_M_copy_96 o29 ?_
      refine e_if_ne (tgt := 107) d_M_copy_97 (by decide) (fun q30 => ?_) (fun q31 => ?_)
      · have h := h q30
        refine e_iload d_M_copy_107 rfl ?_
        refine e_if_ge (tgt := 119) d_M_copy_109 (by decide) (fun q32 => ?_) (fun q33 => ?_)
        · have h := h.1 q32
          refine e_iload_n d_M_copy_119 rfl ?_
          refine e_if_lt (tgt := 155) d_M_copy_120 (by decide) (fun q34 => ?_) (fun q35 => ?_)
          · exact kJ51 (Or.inl ⟨rJ25, q28, q30, q32, q34⟩)
          · have h := h q35
            refine e_iload d_M_copy_123 rfl ?_
            refine e_if_lt (tgt := 155) d_M_copy_125 (by decide) (fun q36 => ?_) (fun q37 => ?_)
            · exact kJ51 (Or.inr (Or.inl ⟨rJ25, q28, q30, q32, q35, q36⟩))
            · have h := h q37
              refine e_iload_n d_M_copy_128 rfl ?_
              refine e_aload_n d_M_copy_129 rfl ?_
              refine gx_M_72 d_M_copy_130 rfl ?_
              refine e_iload_n d_M_copy_133 rfl ?_
              refine xM_iald 20 rfl d_M_copy_134 o26 ?_
              refine e_iload d_M_copy_135 rfl ?_
              obtain ⟨o38, h⟩ := h
              refine e_isub d_M_copy_137 o38 ?_
              refine e_icmp_gt (tgt := 155) d_M_copy_138 (by decide) (fun q39 => ?_) (fun q40 => ?_)
              · exact kJ51 (Or.inr (Or.inr (Or.inl ⟨rJ25, q28, q30, q32, q35, q37, q39⟩)))
              · have h := h q40
                refine e_iload d_M_copy_141 rfl ?_
                refine e_aload_n d_M_copy_143 rfl ?_
                refine gx_M_72 d_M_copy_144 rfl ?_
                refine e_iload_n d_M_copy_147 rfl ?_
                refine xM_iald 20 rfl d_M_copy_148 o29 ?_
                refine e_iload d_M_copy_149 rfl ?_
                obtain ⟨o41, h⟩ := h
                refine e_isub d_M_copy_151 o41 ?_
                refine e_icmp_le (tgt := 162) d_M_copy_152 (by decide) (fun q42 => ?_) (fun q43 => ?_)
                · have h := h q42
                  refine e_iconst d_M_copy_162 (by decide) ?_
                  refine e_istore (ls' := [(2, (m + 0)), (0, p1), (0, p2), (0, p3), (0, p4), (0, p5), (0, 0)]) d_M_copy_163 (by decide) rfl ?_
                  exact e_forget (ls' := [(2, (m + 0)), (0, p1), (0, p2), (0, p3), (0, p4), (0, p5), (0, 0)]) ⟨Or.inr rfl, Or.inr rfl, Or.inr rfl, Or.inr rfl, Or.inr rfl, Or.inr rfl, Or.inr rfl, trivial⟩ h
                · exact kJ51 (Or.inr (Or.inr (Or.inr ⟨rJ25, q28, q30, q32, q35, q37, q40, q43⟩)))
        · have h := h.2 q33
          refine e_aload_n d_M_copy_112 rfl ?_
          refine e_bipush d_M_copy_113 (by decide) (by decide) ?_
          refine EV.inv fun hFf44 => ?_
          have f44 := (fx_mt 0 rfl hFf44).1
          refine e_callV m_M_no 12 lw_good d_M_copy_115 (k_M_no _) ⟨Nat.le_of_ble_eq_true rfl, Nat.le_of_ble_eq_true rfl⟩ w_1569 w_1571 w_s42 (q_M _) rfl f44 (args := [(0, (-4))]) rfl rfl (Nat.le_of_ble_eq_true rfl) (kc' := kc) (ks' := ks) (mc := 0) (ms := 0) rfl rfl h ?_
          intro v45 G46 h
          exact e_iret d_M_copy_118 rfl h
      · exact kJ47 (Or.inr ⟨rJ25, q28, q31⟩)
  have kJ21 : (((0 ≤ p1 ∧ p1 < 8) ∧ (0 ≤ p2 ∧ p2 < 8) ∧ (zM m G 18 p1) = 2) ∨ ((0 ≤ p1 ∧ p1 < 8) ∧ (0 ≤ p2 ∧ p2 < 8) ∧ (zM m G 18 p1) ≠ 2 ∧ (zM m G 18 p2) = 2) ∨ ((0 ≤ p1 ∧ p1 < 8) ∧ (0 ≤ p2 ∧ p2 < 8) ∧ (zM m G 18 p1) ≠ 2 ∧ (zM m G 18 p2) ≠ 2 ∧ (zM m G 18 p1) = 1 ∧ (zM m G 18 p2) = 1 ∧ (zM m G 19 p1) ≠ (zM m G 19 p2))) → EX e b m m_M_copy Z kc ks 75 [(2, (m + 0)), (0, p1), (0, p2), (0, p3), (0, p4), (0, p5), (9, 0)] [] G := by
    intro rJ21
    have h := hJ21 rJ21
    refine e_aload_n d_M_copy_75 rfl ?_
    refine e_bipush d_M_copy_76 (by decide) (by decide) ?_
    refine EV.inv fun hFf22 => ?_
    have f22 := (fx_mt 0 rfl hFf22).1
    refine e_callV m_M_no 12 lw_good d_M_copy_78 (k_M_no _) ⟨Nat.le_of_ble_eq_true rfl, Nat.le_of_ble_eq_true rfl⟩ w_1569 w_1571 w_s42 (q_M _) rfl f22 (args := [(0, (-2))]) rfl rfl (Nat.le_of_ble_eq_true rfl) (kc' := kc) (ks' := ks) (mc := 0) (ms := 0) rfl rfl h ?_
    intro v23 G24 h
    exact e_iret d_M_copy_81 rfl h
  have kJ17 : (((¬ (0 ≤ p1 ∧ p1 < 8))) ∨ ((0 ≤ p1 ∧ p1 < 8) ∧ (¬ (0 ≤ p2 ∧ p2 < 8)))) → EX e b m m_M_copy Z kc ks 14 [(2, (m + 0)), (0, p1), (0, p2), (0, p3), (0, p4), (0, p5), (9, 0)] [] G := by
    intro rJ17
    have h := hJ17 rJ17
    refine e_aload_n d_M_copy_14 rfl ?_
    refine e_iconst d_M_copy_15 (by decide) ?_
    refine EV.inv fun hFf18 => ?_
    have f18 := (fx_mt 0 rfl hFf18).1
    refine e_callV m_M_no 12 lw_good d_M_copy_16 (k_M_no _) ⟨Nat.le_of_ble_eq_true rfl, Nat.le_of_ble_eq_true rfl⟩ w_1569 w_1571 w_s42 (q_M _) rfl f18 (args := [(0, (-1))]) rfl rfl (Nat.le_of_ble_eq_true rfl) (kc' := kc) (ks' := ks) (mc := 0) (ms := 0) rfl rfl h ?_
    intro v19 G20 h
    exact e_iret d_M_copy_19 rfl h
  refine e_iload_n d_M_copy_0 rfl ?_
  refine e_callS m_M_isShelf lw_good d_M_copy_1 (k_M_isShelf _) ⟨Nat.le_of_ble_eq_true rfl, Nat.le_of_ble_eq_true rfl⟩ w_1593 w_1594 (args := [(0, p1)]) rfl rfl (Nat.le_of_ble_eq_true rfl) (kc' := kc) (ks' := ks) (mc := 0) (ms := 0) rfl rfl (c_M_isShelf) (pureK ?_)
  refine e_if_eq (tgt := 14) d_M_copy_4 (by decide) (fun q1 => ?_) (fun q2 => ?_)
  · replace q1 := gb0.mp q1
    exact kJ17 (Or.inl q1)
  · replace q2 := gb1.mp q2
    have h := h q2
    refine e_iload_n d_M_copy_7 rfl ?_
    refine e_callS m_M_isShelf lw_good d_M_copy_8 (k_M_isShelf _) ⟨Nat.le_of_ble_eq_true rfl, Nat.le_of_ble_eq_true rfl⟩ w_1593 w_1594 (args := [(0, p2)]) rfl rfl (Nat.le_of_ble_eq_true rfl) (kc' := kc) (ks' := ks) (mc := 0) (ms := 0) rfl rfl (c_M_isShelf) (pureK ?_)
    refine e_if_ne (tgt := 20) d_M_copy_11 (by decide) (fun q3 => ?_) (fun q4 => ?_)
    · replace q3 := gb1.mp q3
      have h := h q3
      refine e_aload_n d_M_copy_20 rfl ?_
      refine gx_M_66 d_M_copy_21 rfl ?_
      refine e_iload_n d_M_copy_24 rfl ?_
      obtain ⟨o5, h⟩ := h
      refine xM_iald 18 rfl d_M_copy_25 o5 ?_
      refine e_iconst d_M_copy_26 (by decide) ?_
      refine e_icmp_eq (tgt := 75) d_M_copy_27 (by decide) (fun q6 => ?_) (fun q7 => ?_)
      · exact kJ21 (Or.inl ⟨q2, q3, q6⟩)
      · have h := h q7
        refine e_aload_n d_M_copy_30 rfl ?_
        refine gx_M_66 d_M_copy_31 rfl ?_
        refine e_iload_n d_M_copy_34 rfl ?_
        have o8 := h
        refine xM_iald 18 rfl d_M_copy_35 o8 ?_
        refine e_iconst d_M_copy_36 (by decide) ?_
        refine e_icmp_eq (tgt := 75) d_M_copy_37 (by decide) (fun q9 => ?_) (fun q10 => ?_)
        · exact kJ21 (Or.inr (Or.inl ⟨q2, q3, q7, q9⟩))
        · refine e_aload_n d_M_copy_40 rfl ?_
          refine gx_M_66 d_M_copy_41 rfl ?_
          refine e_iload_n d_M_copy_44 rfl ?_
          refine xM_iald 18 rfl d_M_copy_45 o5 ?_
          refine e_iconst d_M_copy_46 (by decide) ?_
          refine e_icmp_ne (tgt := 82) d_M_copy_47 (by decide) (fun q11 => ?_) (fun q12 => ?_)
          · exact kJ25 (Or.inl ⟨q2, q3, q7, q10, q11⟩)
          · refine e_aload_n d_M_copy_50 rfl ?_
            refine gx_M_66 d_M_copy_51 rfl ?_
            refine e_iload_n d_M_copy_54 rfl ?_
            refine xM_iald 18 rfl d_M_copy_55 o8 ?_
            refine e_iconst d_M_copy_56 (by decide) ?_
            refine e_icmp_ne (tgt := 82) d_M_copy_57 (by decide) (fun q13 => ?_) (fun q14 => ?_)
            · exact kJ25 (Or.inr (Or.inl ⟨q2, q3, q7, q10, q12, q13⟩))
            · refine e_aload_n d_M_copy_60 rfl ?_
              refine gx_M_69 d_M_copy_61 rfl ?_
              refine e_iload_n d_M_copy_64 rfl ?_
              refine xM_iald 19 rfl d_M_copy_65 o5 ?_
              refine e_aload_n d_M_copy_66 rfl ?_
              refine gx_M_69 d_M_copy_67 rfl ?_
              refine e_iload_n d_M_copy_70 rfl ?_
              refine xM_iald 19 rfl d_M_copy_71 o8 ?_
              refine e_icmp_eq (tgt := 82) d_M_copy_72 (by decide) (fun q15 => ?_) (fun q16 => ?_)
              · exact kJ25 (Or.inr (Or.inr ⟨q2, q3, q7, q10, q12, q14, q15⟩))
              · exact kJ21 (Or.inr (Or.inr ⟨q2, q3, q7, q10, q12, q14, q16⟩))
    · replace q4 := gb0.mp q4
      exact kJ17 (Or.inr ⟨q2, q4⟩)
set_option maxRecDepth 20000 in
set_option maxHeartbeats 4000000 in
theorem sg_M_copy_165 {e : gE} {b : Nat} {m : Int} {Z : Int → gH → Prop} {kc ks : Nat} {G : gH} {p1 p2 p3 p4 p5 x6 : Int} (h : (p5 ≤ x6 → EX e b m m_M_copy Z kc ks 202 [(2, (m + 0)), (9, 0), (0, p2), (9, 0), (0, p4), (0, p5), (0, 0)] [] G) ∧ (x6 < p5 → (inI (60 * p1)) ∧ ((inI ((60 * p1) + p3)) ∧ ((inI (((60 * p1) + p3) + x6)) ∧ ((0 ≤ (((60 * p1) + p3) + x6) ∧ (((60 * p1) + p3) + x6) < 480) ∧ ((0 ≤ x6 ∧ x6 < 60) ∧ (∀ G8 : gH, G8 = gU G 2 (m + 45) x6 (zM m G 22 (((60 * p1) + p3) + x6)) → (inI (x6 + 1)) ∧ EX e b m m_M_copy Z kc ks 165 [(2, (m + 0)), (0, p1), (0, p2), (0, p3), (0, p4), (0, p5), (0, (x6 + 1))] [] G8))))))) : EX e b m m_M_copy Z kc ks 165 [(2, (m + 0)), (0, p1), (0, p2), (0, p3), (0, p4), (0, p5), (0, x6)] [] G := by
  refine e_iload d_M_copy_165 rfl ?_
  refine e_iload d_M_copy_167 rfl ?_
  refine e_icmp_ge (tgt := 199) d_M_copy_169 (by decide) (fun q1 => ?_) (fun q2 => ?_)
  · have h := h.1 q1
    refine e_iconst d_M_copy_199 (by decide) ?_
    refine e_istore (ls' := [(2, (m + 0)), (0, p1), (0, p2), (0, p3), (0, p4), (0, p5), (0, 0)]) d_M_copy_200 (by decide) rfl ?_
    exact e_forget (ls' := [(2, (m + 0)), (9, 0), (0, p2), (9, 0), (0, p4), (0, p5), (0, 0)]) ⟨Or.inr rfl, Or.inl rfl, Or.inr rfl, Or.inl rfl, Or.inr rfl, Or.inr rfl, Or.inr rfl, trivial⟩ h
  · have h := h.2 q2
    refine e_aload_n d_M_copy_172 rfl ?_
    refine gx_M_148 d_M_copy_173 rfl ?_
    refine e_iload d_M_copy_176 rfl ?_
    refine e_aload_n d_M_copy_178 rfl ?_
    refine gx_M_78 d_M_copy_179 rfl ?_
    refine e_bipush d_M_copy_182 (by decide) (by decide) ?_
    refine e_iload_n d_M_copy_184 rfl ?_
    obtain ⟨o3, h⟩ := h
    refine e_imul d_M_copy_185 o3 ?_
    refine e_iload_n d_M_copy_186 rfl ?_
    obtain ⟨o4, h⟩ := h
    refine e_iadd d_M_copy_187 o4 ?_
    refine e_iload d_M_copy_188 rfl ?_
    obtain ⟨o5, h⟩ := h
    refine e_iadd d_M_copy_190 o5 ?_
    obtain ⟨o6, h⟩ := h
    refine xM_lald 22 rfl d_M_copy_191 o6 ?_
    obtain ⟨o7, h⟩ := h
    refine xM_last 45 rfl d_M_copy_192 o7 ?_
    let G8 : gH := gU G 2 (m + 45) x6 (zM m G 22 (((60 * p1) + p3) + x6))
    have h := h G8 rfl
    obtain ⟨o9, h⟩ := h
    refine e_iinc (ls' := [(2, (m + 0)), (0, p1), (0, p2), (0, p3), (0, p4), (0, p5), (0, (x6 + 1))]) d_M_copy_193 rfl (by decide) o9 rfl ?_
    refine e_goto (tgt := 165) d_M_copy_196 (by decide) ?_
    exact e_forget (ls' := [(2, (m + 0)), (0, p1), (0, p2), (0, p3), (0, p4), (0, p5), (0, (x6 + 1))]) ⟨Or.inr rfl, Or.inr rfl, Or.inr rfl, Or.inr rfl, Or.inr rfl, Or.inr rfl, Or.inr rfl, trivial⟩ h
set_option maxRecDepth 20000 in
set_option maxHeartbeats 4000000 in
theorem sg_M_copy_202 {e : gE} {b : Nat} {m : Int} {Z : Int → gH → Prop} {kc ks : Nat} {G : gH} {p2 p4 p5 x6 : Int} (h : (p5 ≤ x6 → Z 1 G) ∧ (x6 < p5 → (inI (60 * p2)) ∧ ((inI ((60 * p2) + p4)) ∧ ((inI (((60 * p2) + p4) + x6)) ∧ ((0 ≤ x6 ∧ x6 < 60) ∧ ((0 ≤ (((60 * p2) + p4) + x6) ∧ (((60 * p2) + p4) + x6) < 480) ∧ (∀ G8 : gH, G8 = gU G 2 (m + 22) (((60 * p2) + p4) + x6) (G 2 (m + 45) x6) → (inI (x6 + 1)) ∧ EX e b m m_M_copy Z kc ks 202 [(2, (m + 0)), (9, 0), (0, p2), (9, 0), (0, p4), (0, p5), (0, (x6 + 1))] [] G8))))))) : EX e b m m_M_copy Z kc ks 202 [(2, (m + 0)), (9, 0), (0, p2), (9, 0), (0, p4), (0, p5), (0, x6)] [] G := by
  refine e_iload d_M_copy_202 rfl ?_
  refine e_iload d_M_copy_204 rfl ?_
  refine e_icmp_ge (tgt := 237) d_M_copy_206 (by decide) (fun q1 => ?_) (fun q2 => ?_)
  · have h := h.1 q1
    refine e_iconst d_M_copy_237 (by decide) ?_
    exact e_iret d_M_copy_238 rfl h
  · have h := h.2 q2
    refine e_aload_n d_M_copy_209 rfl ?_
    refine gx_M_78 d_M_copy_210 rfl ?_
    refine e_bipush d_M_copy_213 (by decide) (by decide) ?_
    refine e_iload_n d_M_copy_215 rfl ?_
    obtain ⟨o3, h⟩ := h
    refine e_imul d_M_copy_216 o3 ?_
    refine e_iload d_M_copy_217 rfl ?_
    obtain ⟨o4, h⟩ := h
    refine e_iadd d_M_copy_219 o4 ?_
    refine e_iload d_M_copy_220 rfl ?_
    obtain ⟨o5, h⟩ := h
    refine e_iadd d_M_copy_222 o5 ?_
    refine e_aload_n d_M_copy_223 rfl ?_
    refine gx_M_148 d_M_copy_224 rfl ?_
    refine e_iload d_M_copy_227 rfl ?_
    obtain ⟨o6, h⟩ := h
    refine xM_lald 45 rfl d_M_copy_229 o6 ?_
    obtain ⟨o7, h⟩ := h
    refine xM_last 22 rfl d_M_copy_230 o7 ?_
    let G8 : gH := gU G 2 (m + 22) (((60 * p2) + p4) + x6) (G 2 (m + 45) x6)
    have h := h G8 rfl
    obtain ⟨o9, h⟩ := h
    refine e_iinc (ls' := [(2, (m + 0)), (9, 0), (0, p2), (9, 0), (0, p4), (0, p5), (0, (x6 + 1))]) d_M_copy_231 rfl (by decide) o9 rfl ?_
    refine e_goto (tgt := 202) d_M_copy_234 (by decide) ?_
    exact e_forget (ls' := [(2, (m + 0)), (9, 0), (0, p2), (9, 0), (0, p4), (0, p5), (0, (x6 + 1))]) ⟨Or.inr rfl, Or.inl rfl, Or.inr rfl, Or.inl rfl, Or.inr rfl, Or.inr rfl, Or.inr rfl, trivial⟩ h
set_option maxRecDepth 20000 in
set_option maxHeartbeats 4000000 in
theorem sg_M_air_0 {e : gE} {b : Nat} {m : Int} {Z : Int → gH → Prop} {kc ks : Nat} {G : gH} {p1 p2 : Int} (h : ((0 ≤ p1 ∧ p1 < zM m G 787 0) → ((0 ≤ p2 ∧ p2 < 8) → (0 ≤ p2 ∧ p2 < 8) ∧ (((zM m G 18 p2) ≠ 2 → ((zM m G 18 p2) ≠ 0 → (0 ≤ p1 ∧ p1 < 5) ∧ (∀ G12 : gH, G12 = gU G 1 (m + 26) p1 (zM m G 20 p2) → ∀ G13 : gH, G13 = gU G12 1 (m + 27) p1 (zM m G12 19 p2) → EX e b m m_M_air Z kc ks 80 [(2, (m + 0)), (0, p1), (0, p2), (0, 0)] [] G13)) ∧ ((zM m G 18 p2) = 0 → GX e b m m_M_no [(2, (m + 0)), (0, (-3))] G 0 0 (fun v15 G16 => Z v15 G16))) ∧ ((zM m G 18 p2) = 2 → GX e b m m_M_no [(2, (m + 0)), (0, (-2))] G 0 0 (fun v18 G19 => Z v18 G19))))) ∧ ((((¬ (0 ≤ p1 ∧ p1 < zM m G 787 0))) ∨ ((0 ≤ p1 ∧ p1 < zM m G 787 0) ∧ (¬ (0 ≤ p2 ∧ p2 < 8)))) → GX e b m m_M_no [(2, (m + 0)), (0, (-1))] G 0 0 (fun v22 G23 => Z v22 G23))) : EX e b m m_M_air Z kc ks 0 [(2, (m + 0)), (0, p1), (0, p2), (9, 0)] [] G := by
  obtain ⟨h, hJ20⟩ := h
  have kJ20 : (((¬ (0 ≤ p1 ∧ p1 < zM m G 787 0))) ∨ ((0 ≤ p1 ∧ p1 < zM m G 787 0) ∧ (¬ (0 ≤ p2 ∧ p2 < 8)))) → EX e b m m_M_air Z kc ks 15 [(2, (m + 0)), (0, p1), (0, p2), (9, 0)] [] G := by
    intro rJ20
    have h := hJ20 rJ20
    refine e_aload_n d_M_air_15 rfl ?_
    refine e_iconst d_M_air_16 (by decide) ?_
    refine EV.inv fun hFf21 => ?_
    have f21 := (fx_mt 0 rfl hFf21).1
    refine e_callV m_M_no 12 lw_good d_M_air_17 (k_M_no _) ⟨Nat.le_of_ble_eq_true rfl, Nat.le_of_ble_eq_true rfl⟩ w_1569 w_1571 w_s42 (q_M _) rfl f21 (args := [(0, (-1))]) rfl rfl (Nat.le_of_ble_eq_true rfl) (kc' := kc) (ks' := ks) (mc := 0) (ms := 0) rfl rfl h ?_
    intro v22 G23 h
    exact e_iret d_M_air_20 rfl h
  refine e_aload_n d_M_air_0 rfl ?_
  refine e_iload_n d_M_air_1 rfl ?_
  refine EV.inv fun hFf1 => ?_
  have f1 := (fx_mt 0 rfl hFf1).1
  refine e_callV m_M_isPlace 12 lw_good d_M_air_2 (k_M_isPlace _) ⟨Nat.le_of_ble_eq_true rfl, Nat.le_of_ble_eq_true rfl⟩ w_1760 w_1762 w_s66 (q_M _) rfl f1 (args := [(0, p1)]) rfl rfl (Nat.le_of_ble_eq_true rfl) (kc' := kc) (ks' := ks) (mc := 0) (ms := 0) rfl rfl (c_M_isPlace) (pureK ?_)
  refine e_if_eq (tgt := 15) d_M_air_5 (by decide) (fun q2 => ?_) (fun q3 => ?_)
  · replace q2 := gb0.mp q2
    exact kJ20 (Or.inl q2)
  · replace q3 := gb1.mp q3
    have h := h q3
    refine e_iload_n d_M_air_8 rfl ?_
    refine e_callS m_M_isShelf lw_good d_M_air_9 (k_M_isShelf _) ⟨Nat.le_of_ble_eq_true rfl, Nat.le_of_ble_eq_true rfl⟩ w_1593 w_1594 (args := [(0, p2)]) rfl rfl (Nat.le_of_ble_eq_true rfl) (kc' := kc) (ks' := ks) (mc := 0) (ms := 0) rfl rfl (c_M_isShelf) (pureK ?_)
    refine e_if_ne (tgt := 21) d_M_air_12 (by decide) (fun q4 => ?_) (fun q5 => ?_)
    · replace q4 := gb1.mp q4
      have h := h q4
      refine e_aload_n d_M_air_21 rfl ?_
      refine gx_M_66 d_M_air_22 rfl ?_
      refine e_iload_n d_M_air_25 rfl ?_
      obtain ⟨o6, h⟩ := h
      refine xM_iald 18 rfl d_M_air_26 o6 ?_
      refine e_iconst d_M_air_27 (by decide) ?_
      refine e_icmp_ne (tgt := 38) d_M_air_28 (by decide) (fun q7 => ?_) (fun q8 => ?_)
      · have h := h.1 q7
        refine e_aload_n d_M_air_38 rfl ?_
        refine gx_M_66 d_M_air_39 rfl ?_
        refine e_iload_n d_M_air_42 rfl ?_
        refine xM_iald 18 rfl d_M_air_43 o6 ?_
        refine e_if_ne (tgt := 54) d_M_air_44 (by decide) (fun q9 => ?_) (fun q10 => ?_)
        · have h := h.1 q9
          refine e_aload_n d_M_air_54 rfl ?_
          refine gx_M_91 d_M_air_55 rfl ?_
          refine e_iload_n d_M_air_58 rfl ?_
          refine e_aload_n d_M_air_59 rfl ?_
          refine gx_M_72 d_M_air_60 rfl ?_
          refine e_iload_n d_M_air_63 rfl ?_
          refine xM_iald 20 rfl d_M_air_64 o6 ?_
          obtain ⟨o11, h⟩ := h
          refine xM_iast 26 rfl d_M_air_65 o11 ?_
          let G12 : gH := gU G 1 (m + 26) p1 (zM m G 20 p2)
          have h := h G12 rfl
          refine e_aload_n d_M_air_66 rfl ?_
          refine gx_M_94 d_M_air_67 rfl ?_
          refine e_iload_n d_M_air_70 rfl ?_
          refine e_aload_n d_M_air_71 rfl ?_
          refine gx_M_69 d_M_air_72 rfl ?_
          refine e_iload_n d_M_air_75 rfl ?_
          refine xM_iald 19 rfl d_M_air_76 o6 ?_
          refine xM_iast 27 rfl d_M_air_77 o11 ?_
          let G13 : gH := gU G12 1 (m + 27) p1 (zM m G12 19 p2)
          have h := h G13 rfl
          refine e_iconst d_M_air_78 (by decide) ?_
          refine e_istore_n (ls' := [(2, (m + 0)), (0, p1), (0, p2), (0, 0)]) d_M_air_79 (by decide) rfl ?_
          exact e_forget (ls' := [(2, (m + 0)), (0, p1), (0, p2), (0, 0)]) ⟨Or.inr rfl, Or.inr rfl, Or.inr rfl, Or.inr rfl, trivial⟩ h
        · have h := h.2 q10
          refine e_aload_n d_M_air_47 rfl ?_
          refine e_bipush d_M_air_48 (by decide) (by decide) ?_
          refine EV.inv fun hFf14 => ?_
          have f14 := (fx_mt 0 rfl hFf14).1
          refine e_callV m_M_no 12 lw_good d_M_air_50 (k_M_no _) ⟨Nat.le_of_ble_eq_true rfl, Nat.le_of_ble_eq_true rfl⟩ w_1569 w_1571 w_s42 (q_M _) rfl f14 (args := [(0, (-3))]) rfl rfl (Nat.le_of_ble_eq_true rfl) (kc' := kc) (ks' := ks) (mc := 0) (ms := 0) rfl rfl h ?_
          intro v15 G16 h
          exact e_iret d_M_air_53 rfl h
      · have h := h.2 q8
        refine e_aload_n d_M_air_31 rfl ?_
        refine e_bipush d_M_air_32 (by decide) (by decide) ?_
        refine EV.inv fun hFf17 => ?_
        have f17 := (fx_mt 0 rfl hFf17).1
        refine e_callV m_M_no 12 lw_good d_M_air_34 (k_M_no _) ⟨Nat.le_of_ble_eq_true rfl, Nat.le_of_ble_eq_true rfl⟩ w_1569 w_1571 w_s42 (q_M _) rfl f17 (args := [(0, (-2))]) rfl rfl (Nat.le_of_ble_eq_true rfl) (kc' := kc) (ks' := ks) (mc := 0) (ms := 0) rfl rfl h ?_
        intro v18 G19 h
        exact e_iret d_M_air_37 rfl h
    · replace q5 := gb0.mp q5
      exact kJ20 (Or.inr ⟨q3, q5⟩)
set_option maxRecDepth 20000 in
set_option maxHeartbeats 4000000 in
theorem sg_M_air_80 {e : gE} {b : Nat} {m : Int} {Z : Int → gH → Prop} {kc ks : Nat} {G : gH} {p1 p2 x3 : Int} (h : (0 ≤ p2 ∧ p2 < 8) ∧ (((zM m G 20 p2) ≤ x3 → Z (zM m G 20 p2) G) ∧ (x3 < (zM m G 20 p2) → (inI (60 * p1)) ∧ ((inI ((60 * p1) + x3)) ∧ ((inI (60 * p2)) ∧ ((inI ((60 * p2) + x3)) ∧ ((0 ≤ ((60 * p2) + x3) ∧ ((60 * p2) + x3) < 480) ∧ ((0 ≤ ((60 * p1) + x3) ∧ ((60 * p1) + x3) < 300) ∧ (∀ G10 : gH, G10 = gU G 2 (m + 28) ((60 * p1) + x3) (zM m G 22 ((60 * p2) + x3)) → (inI (x3 + 1)) ∧ EX e b m m_M_air Z kc ks 80 [(2, (m + 0)), (0, p1), (0, p2), (0, (x3 + 1))] [] G10))))))))) : EX e b m m_M_air Z kc ks 80 [(2, (m + 0)), (0, p1), (0, p2), (0, x3)] [] G := by
  refine e_iload_n d_M_air_80 rfl ?_
  refine e_aload_n d_M_air_81 rfl ?_
  refine gx_M_72 d_M_air_82 rfl ?_
  refine e_iload_n d_M_air_85 rfl ?_
  obtain ⟨o1, h⟩ := h
  refine xM_iald 20 rfl d_M_air_86 o1 ?_
  refine e_icmp_ge (tgt := 118) d_M_air_87 (by decide) (fun q2 => ?_) (fun q3 => ?_)
  · have h := h.1 q2
    refine e_aload_n d_M_air_118 rfl ?_
    refine gx_M_72 d_M_air_119 rfl ?_
    refine e_iload_n d_M_air_122 rfl ?_
    refine xM_iald 20 rfl d_M_air_123 o1 ?_
    exact e_iret d_M_air_124 rfl h
  · have h := h.2 q3
    refine e_aload_n d_M_air_90 rfl ?_
    refine gx_M_97 d_M_air_91 rfl ?_
    refine e_bipush d_M_air_94 (by decide) (by decide) ?_
    refine e_iload_n d_M_air_96 rfl ?_
    obtain ⟨o4, h⟩ := h
    refine e_imul d_M_air_97 o4 ?_
    refine e_iload_n d_M_air_98 rfl ?_
    obtain ⟨o5, h⟩ := h
    refine e_iadd d_M_air_99 o5 ?_
    refine e_aload_n d_M_air_100 rfl ?_
    refine gx_M_78 d_M_air_101 rfl ?_
    refine e_bipush d_M_air_104 (by decide) (by decide) ?_
    refine e_iload_n d_M_air_106 rfl ?_
    obtain ⟨o6, h⟩ := h
    refine e_imul d_M_air_107 o6 ?_
    refine e_iload_n d_M_air_108 rfl ?_
    obtain ⟨o7, h⟩ := h
    refine e_iadd d_M_air_109 o7 ?_
    obtain ⟨o8, h⟩ := h
    refine xM_lald 22 rfl d_M_air_110 o8 ?_
    obtain ⟨o9, h⟩ := h
    refine xM_last 28 rfl d_M_air_111 o9 ?_
    let G10 : gH := gU G 2 (m + 28) ((60 * p1) + x3) (zM m G 22 ((60 * p2) + x3))
    have h := h G10 rfl
    obtain ⟨o11, h⟩ := h
    refine e_iinc (ls' := [(2, (m + 0)), (0, p1), (0, p2), (0, (x3 + 1))]) d_M_air_112 rfl (by decide) o11 rfl ?_
    refine e_goto (tgt := 80) d_M_air_115 (by decide) ?_
    exact e_forget (ls' := [(2, (m + 0)), (0, p1), (0, p2), (0, (x3 + 1))]) ⟨Or.inr rfl, Or.inr rfl, Or.inr rfl, Or.inr rfl, trivial⟩ h
/-- a range of places -/
def zV (A : zA) (k : Nat) (lo hi : Int) (f : Int → Int) : zA := fun k' i => if k' = k ∧ lo ≤ i ∧ i < hi then f i else A k' i
theorem zV_0 {A : zA} {k : Nat} {lo : Int} {f : Int → Int} : zV A k lo lo f = A := by
  funext k' i
  exact if_neg (fun q => by omega)
theorem zV_s {A : zA} {k : Nat} {lo hi v : Int} {f : Int → Int} (h : lo ≤ hi) (hv : v = f hi) : zU (zV A k lo hi f) k hi v = zV A k lo (hi + 1) f := by
  funext k' i
  unfold zU zV
  by_cases q : k' = k ∧ i = hi
  · rw [if_pos q, if_pos ⟨q.1, by omega, by omega⟩, hv, q.2]
  · rw [if_neg q]
    by_cases q2 : k' = k ∧ lo ≤ i ∧ i < hi
    · rw [if_pos q2, if_pos ⟨q2.1, q2.2.1, by omega⟩]
    · rw [if_neg q2, if_neg (fun z => q2 ⟨z.1, z.2.1, by have : i ≠ hi := fun y => q ⟨z.1, y⟩; omega⟩)]
theorem zV_k {A : zA} {k k' : Nat} {lo hi i : Int} {f : Int → Int} (h : k' ≠ k) : zV A k lo hi f k' i = A k' i := if_neg (fun q => h q.1)
theorem zV_in {A : zA} {k : Nat} {lo hi i : Int} {f : Int → Int} (h : lo ≤ i ∧ i < hi) : zV A k lo hi f k i = f i := if_pos ⟨rfl, h⟩
theorem zV_out {A : zA} {k : Nat} {lo hi i : Int} {f : Int → Int} (h : ¬ (lo ≤ i ∧ i < hi)) : zV A k lo hi f k i = A k i := if_neg (fun q => h q.2)
def zLow (o v : Int) : Int := if o = 0 then w8 (w32 v) else if o = 1 then w16 (w32 v) else if o = 2 then w32 v else v
def zfSet (A : zA) (s i v : Int) : Int × zA := if zSh s then (if A 18 s = 2 then zNo A (-2) else if A 18 s = 0 then zNo A (-3) else if zHas A s i then (1, zU A 22 (60 * s + i) (zLow (A 19 s) v)) else zNo A (-5)) else zNo A (-1)
theorem c_M_set {e : gE} {b : Nat} {m : Int} {G : gH} {p1 p2 p3 : Int} (h : zB 512 (zM m G)) : GX e b m m_M_set [(2, (m + 0)), (0, p1), (0, p2), (1, p3)] G 0 0 (zQ m G (zfSet (zM m G) p1 p2 p3)) := by
  have s1 : 0 ≤ zM m G 20 p1 ∧ zM m G 20 p1 ≤ 60 := h 20 p1
  refine GM.ofEV (by decide) (Nat.le_of_ble_eq_true rfl) (sg_M_set_0 ?_)
  unfold zfSet zLow
  refine ⟨⟨fun q1 => ⟨q1, fun q2 => ⟨fun q3 q4 q5 => ⟨by omega, by omega, fun q6 => ⟨fun q7 => ⟨fun q8 => ⟨by omega, ?_⟩, fun q8 => ⟨by omega, ?_⟩⟩, fun q7 => ⟨by omega, ?_⟩⟩, fun q6 => ⟨by omega, ?_⟩⟩, fun q3 => ?_⟩, fun q2 => ?_⟩, fun q1 => ?_⟩, fun q => ?_⟩
  · rintro _ rfl
    rw [if_pos q1, if_neg q2, if_neg q3, if_pos ⟨q4, q5⟩, if_neg q6, if_neg q7, if_neg q8]
    exact ⟨rfl, zM_u22, zC_u zC_r (by decide)⟩
  · rintro _ rfl
    rw [if_pos q1, if_neg q2, if_neg q3, if_pos ⟨q4, q5⟩, if_neg q6, if_neg q7, if_pos q8]
    exact ⟨rfl, zM_u22, zC_u zC_r (by decide)⟩
  · rintro _ rfl
    rw [if_pos q1, if_neg q2, if_neg q3, if_pos ⟨q4, q5⟩, if_neg q6, if_pos q7]
    exact ⟨rfl, zM_u22, zC_u zC_r (by decide)⟩
  · rintro _ rfl
    rw [if_pos q1, if_neg q2, if_neg q3, if_pos ⟨q4, q5⟩, if_pos q6]
    exact ⟨rfl, zM_u22, zC_u zC_r (by decide)⟩
  · rw [if_pos q1, if_neg q2, if_pos q3]; exact c_M_no h (by decide)
  · rw [if_pos q1, if_pos q2]; exact c_M_no h (by decide)
  · rw [if_neg q1]; exact c_M_no h (by decide)
  · rw [if_pos (by omega), if_neg (by omega), if_neg (by omega), if_neg (by omega)]; exact c_M_no h (by decide)
def zfRow (A : zA) (s o n : Int) : Int × zA := if ¬ zSh s then zNo A (-1) else if n < 0 then zNo A (-4) else if o < 0 ∨ o > 3 then zNo A (-6) else if n > 60 then zNo A (-7) else (1, zV (zU (zU (zU A 18 s 1) 19 s o) 20 s n) 22 (60 * s) (60 * s + 60) (fun _ => 0))
theorem l_M_row {e : gE} {b : Nat} {m : Int} {Z : Int → gH → Prop} {kc ks : Nat} {G0 G : gH} {p1 : Int} (A : zA) (hs : zSh p1) (hA : zM m G = A) (hC : zC m G0 G) (hZ : ∀ G1, zM m G1 = zV A 22 (60 * p1) (60 * p1 + 60) (fun _ => 0) → zC m G0 G1 → Z 1 G1) : EX e b m m_M_row Z kc ks 77 [(2, (m + 0)), (0, p1), (9, 0), (9, 0), (0, 0)] [] G := by
  refine zloop (P := fun i => ∀ G1, zM m G1 = zV A 22 (60 * p1) (60 * p1 + i) (fun _ => 0) → zC m G0 G1 → EX e b m m_M_row Z kc ks 77 [(2, (m + 0)), (0, p1), (9, 0), (9, 0), (0, i)] [] G1) (i := 0) 60 (by omega) ?_ ?_ G ?_ hC
  · intro G1 h1 h2
    exact sg_M_row_77 ⟨fun _ => hZ G1 h1 h2, fun q => absurd q (by omega)⟩
  · intro j j1 j2 ih G1 h1 h2
    refine sg_M_row_77 ⟨fun q => absurd q (by omega), fun _ => ⟨by omega, by omega, by omega, ?_⟩⟩
    rintro _ rfl
    refine ⟨by omega, ih _ ?_ (zC_u h2 (by decide))⟩
    rw [zM_u22, h1, zV_s (by omega) rfl, show 60 * p1 + j + 1 = 60 * p1 + (j + 1) from by omega]
  · rw [hA, show 60 * p1 + 0 = 60 * p1 from by omega, zV_0]
theorem c_M_row {e : gE} {b : Nat} {m : Int} {G : gH} {p1 p2 p3 : Int} (h : zB 512 (zM m G)) : GX e b m m_M_row [(2, (m + 0)), (0, p1), (0, p2), (0, p3)] G 0 0 (zQ m G (zfRow (zM m G) p1 p2 p3)) := by
  refine GM.ofEV (by decide) (Nat.le_of_ble_eq_true rfl) (sg_M_row_0 ?_)
  unfold zfRow
  refine ⟨⟨fun q1 => ⟨fun q2 q3 q4 => ⟨fun q5 => ⟨q1, ?_⟩, fun q5 => ?_⟩, fun q2 => ?_⟩, fun q1 => ?_⟩, fun q => ?_⟩
  · rintro _ rfl _ rfl _ rfl
    rw [if_neg (fun z => z q1), if_neg (by omega), if_neg (by omega), if_neg (by omega)]
    refine l_M_row (G0 := G) (zU (zU (zU (zM m G) 18 p1 1) 19 p1 p2) 20 p1 p3) q1 ?_ (zC_u (zC_u (zC_u zC_r (by decide)) (by decide)) (by decide)) (fun G1 h1 h2 => ⟨rfl, h1, h2⟩)
    rw [zM_u20, zM_u19, zM_u18]
  · rw [if_neg (fun z => z q1), if_neg (by omega), if_neg (by omega), if_pos (by omega)]; exact c_M_no h (by decide)
  · rw [if_neg (fun z => z q1), if_pos q2]; exact c_M_no h (by decide)
  · rw [if_pos q1]; exact c_M_no h (by decide)
  · rw [if_neg (by omega), if_neg (by omega), if_pos (by omega)]; exact c_M_no h (by decide)
def zfCopy (A : zA) (p q i j n : Int) : Int × zA := if ¬ zSh p ∨ ¬ zSh q then zNo A (-1) else if A 18 p = 2 ∨ A 18 q = 2 ∨ (A 18 p = 1 ∧ A 18 q = 1 ∧ A 19 p ≠ A 19 q) then zNo A (-2) else if A 18 p = 0 ∨ A 18 q = 0 then zNo A (-3) else if n < 0 then zNo A (-4) else if i < 0 ∨ j < 0 ∨ i > A 20 p - n ∨ j > A 20 q - n then zNo A (-5) else (1, zV A 22 (60 * q + j) (60 * q + j + n) (fun x => A 22 (x - (60 * q + j) + (60 * p + i))))
theorem l_M_copy2 {e : gE} {b : Nat} {m : Int} {Z : Int → gH → Prop} {kc ks : Nat} {G0 G : gH} {p2 p4 p5 : Int} (A : zA) (f : Int → Int) (hs : zSh p2) (hn : 0 ≤ p5 ∧ 0 ≤ p4 ∧ p4 + p5 ≤ 60) (hf : ∀ k, 0 ≤ k → k < p5 → G 2 (m + 45) k = f (60 * p2 + p4 + k)) (hA : zM m G = A) (hC : zC m G0 G) (hZ : ∀ G1, zM m G1 = zV A 22 (60 * p2 + p4) (60 * p2 + p4 + p5) f → zC m G0 G1 → Z 1 G1) : EX e b m m_M_copy Z kc ks 202 [(2, (m + 0)), (9, 0), (0, p2), (9, 0), (0, p4), (0, p5), (0, 0)] [] G := by
  refine zloop (P := fun i => ∀ G1, (∀ k, 0 ≤ k → k < p5 → G1 2 (m + 45) k = f (60 * p2 + p4 + k)) → zM m G1 = zV A 22 (60 * p2 + p4) (60 * p2 + p4 + i) f → zC m G0 G1 → EX e b m m_M_copy Z kc ks 202 [(2, (m + 0)), (9, 0), (0, p2), (9, 0), (0, p4), (0, p5), (0, i)] [] G1) (i := 0) p5 hn.1 ?_ ?_ G hf ?_ hC
  · intro G1 h0 h1 h2
    exact sg_M_copy_202 ⟨fun _ => hZ G1 h1 h2, fun q => absurd q (by omega)⟩
  · intro j j1 j2 ih G1 h0 h1 h2
    refine sg_M_copy_202 ⟨fun q => absurd q (by omega), fun _ => ⟨by omega, by omega, by omega, by omega, by omega, ?_⟩⟩
    rintro _ rfl
    refine ⟨by omega, ih _ (fun k k0 k1 => ?_) ?_ (zC_u h2 (by decide))⟩
    · rw [gU_k (by decide)]; exact h0 k k0 k1
    · rw [zM_u22, h1, h0 j j1 j2, zV_s (by omega) rfl, show 60 * p2 + p4 + j + 1 = 60 * p2 + p4 + (j + 1) from by omega]
  · rw [hA, show 60 * p2 + p4 + 0 = 60 * p2 + p4 from by omega, zV_0]
theorem l_M_copy1 {e : gE} {b : Nat} {m : Int} {Z : Int → gH → Prop} {kc ks : Nat} {G0 G : gH} {p1 p2 p3 p4 p5 : Int} (A : zA) (hs : zSh p1 ∧ zSh p2) (hn : 0 ≤ p5 ∧ 0 ≤ p4 ∧ p4 + p5 ≤ 60 ∧ 0 ≤ p3 ∧ p3 + p5 ≤ 60) (hA : zM m G = A) (hC : zC m G0 G) (hZ : ∀ G1, zM m G1 = zV A 22 (60 * p2 + p4) (60 * p2 + p4 + p5) (fun x => A 22 (x - (60 * p2 + p4) + (60 * p1 + p3))) → zC m G0 G1 → Z 1 G1) : EX e b m m_M_copy Z kc ks 165 [(2, (m + 0)), (0, p1), (0, p2), (0, p3), (0, p4), (0, p5), (0, 0)] [] G := by
  refine zloop (P := fun i => ∀ G1, (∀ k, 0 ≤ k → k < i → G1 2 (m + 45) k = A 22 (60 * p1 + p3 + k)) → zM m G1 = A → zC m G0 G1 → EX e b m m_M_copy Z kc ks 165 [(2, (m + 0)), (0, p1), (0, p2), (0, p3), (0, p4), (0, p5), (0, i)] [] G1) (i := 0) p5 hn.1 ?_ ?_ G (fun k k0 k1 => by omega) hA hC
  · intro G1 h0 h1 h2
    refine sg_M_copy_165 ⟨fun _ => l_M_copy2 A _ hs.2 (by omega) (fun k k0 k1 => ?_) h1 h2 hZ, fun q => absurd q (by omega)⟩
    rw [h0 k k0 k1]
    show _ = A 22 (60 * p2 + p4 + k - (60 * p2 + p4) + (60 * p1 + p3))
    rw [show 60 * p2 + p4 + k - (60 * p2 + p4) + (60 * p1 + p3) = 60 * p1 + p3 + k from by omega]
  · intro j j1 j2 ih G1 h0 h1 h2
    refine sg_M_copy_165 ⟨fun q => absurd q (by omega), fun _ => ⟨by omega, by omega, by omega, by omega, by omega, ?_⟩⟩
    rintro _ rfl
    refine ⟨by omega, ih _ (fun k k0 k1 => ?_) ?_ (zC_u h2 (by decide))⟩
    · by_cases hk : k = j
      · rw [hk, gU_eq, h1]
      · rw [gU_j hk]; exact h0 k k0 (by omega)
    · rw [zM_u45, h1]
theorem c_M_copy {e : gE} {b : Nat} {m : Int} {G : gH} {p1 p2 p3 p4 p5 : Int} (h : zB 512 (zM m G)) : GX e b m m_M_copy [(2, (m + 0)), (0, p1), (0, p2), (0, p3), (0, p4), (0, p5)] G 0 0 (zQ m G (zfCopy (zM m G) p1 p2 p3 p4 p5)) := by
  have s1 : 0 ≤ zM m G 20 p1 ∧ zM m G 20 p1 ≤ 60 := h 20 p1
  have s2 : 0 ≤ zM m G 20 p2 ∧ zM m G 20 p2 ≤ 60 := h 20 p2
  have t1 : 0 ≤ zM m G 18 p1 ∧ zM m G 18 p1 ≤ 2 := h 18 p1
  have t2 : 0 ≤ zM m G 18 p2 ∧ zM m G 18 p2 ≤ 2 := h 18 p2
  refine GM.ar fun har => GM.ofEV (by decide) (Nat.le_of_ble_eq_true rfl) (sg_M_copy_0 ?_)
  have hp : inI p5 := okV_i.mp (har (0, p5) (by simp))
  unfold zfCopy
  refine ⟨fun q1 q2 => ⟨q1, fun q3 => q2⟩, fun q => ?_, fun q => ?_, fun q => ⟨by omega, fun q2 => ⟨by omega, fun q3 => ⟨fun q4 q5 q6 => ⟨by omega, fun q7 => ⟨by omega, fun q8 => ?_⟩⟩, fun q4 => ?_⟩⟩⟩, fun q => ?_, fun q => ?_⟩
  · rw [if_pos (by omega)]; exact c_M_no h (by decide)
  · rw [if_neg (by omega), if_pos (by omega)]; exact c_M_no h (by decide)
  · rw [if_neg (by omega), if_neg (by omega), if_neg (by omega), if_neg (by omega), if_neg (by omega)]
    exact l_M_copy1 (G0 := G) _ (by omega) (by omega) rfl zC_r (fun G1 h1 h2 => ⟨rfl, h1, h2⟩)
  · rw [if_neg (by omega), if_neg (by omega), if_neg (by omega), if_pos q4]; exact c_M_no h (by decide)
  · rw [if_neg (by omega), if_neg (by omega), if_pos (by omega)]; exact c_M_no h (by decide)
  · rw [if_neg (by omega), if_neg (by omega), if_neg (by omega), if_neg (by omega), if_pos (by omega)]; exact c_M_no h (by decide)
