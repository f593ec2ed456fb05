/-! THE REFERENCE, 7: air, seals, going -/
def zfAir (A : zA) (p s : Int) : Int × zA := if ¬ (0 ≤ p ∧ p < A 787 0) ∨ ¬ zSh s then zNo A (-1) else if A 18 s = 2 then zNo A (-2) else if A 18 s = 0 then zNo A (-3) else (A 20 s, zV (zU (zU A 26 p (A 20 s)) 27 p (A 19 s)) 28 (60 * p) (60 * p + A 20 s) (fun x => A 22 (x - 60 * p + 60 * s)))
theorem l_M_air {e : gE} {b : Nat} {m : Int} {Z : Int → gH → Prop} {kc ks : Nat} {G0 G : gH} {p1 p2 : Int} (A : zA) (hs : zSh p2) (hp : 0 ≤ p1 ∧ p1 < 5) (hz : 0 ≤ A 20 p2 ∧ A 20 p2 ≤ 60) (hA : zM m G = A) (hC : zC m G0 G) (hZ : ∀ G1, zM m G1 = zV A 28 (60 * p1) (60 * p1 + A 20 p2) (fun x => A 22 (x - 60 * p1 + 60 * p2)) → zC m G0 G1 → Z (A 20 p2) G1) : EX e b m m_M_air Z kc ks 80 [(2, (m + 0)), (0, p1), (0, p2), (0, 0)] [] G := by
  refine zloop (P := fun i => ∀ G1, zM m G1 = zV A 28 (60 * p1) (60 * p1 + i) (fun x => A 22 (x - 60 * p1 + 60 * p2)) → zC m G0 G1 → EX e b m m_M_air Z kc ks 80 [(2, (m + 0)), (0, p1), (0, p2), (0, i)] [] G1) (i := 0) (A 20 p2) hz.1 ?_ ?_ G ?_ hC
  · intro G1 h1 h2
    have e1 : zM m G1 20 p2 = A 20 p2 := by rw [h1, zV_k (by decide)]
    refine sg_M_air_80 ⟨hs, fun _ => ?_, fun q => absurd q (by omega)⟩
    rw [e1]; exact hZ G1 h1 h2
  · intro j j1 j2 ih G1 h1 h2
    have e1 : zM m G1 20 p2 = A 20 p2 := by rw [h1, zV_k (by decide)]
    refine sg_M_air_80 ⟨hs, fun q => absurd q (by omega), fun _ => ⟨by omega, by omega, by omega, by omega, by omega, by omega, ?_⟩⟩
    rintro _ rfl
    refine ⟨by omega, ih _ ?_ (zC_u h2 (by decide))⟩
    rw [zM_u28, h1, zV_s (by omega), show 60 * p1 + j + 1 = 60 * p1 + (j + 1) from by omega]
    rw [zV_k (by decide)]
    show _ = A 22 (60 * p1 + j - 60 * p1 + 60 * p2)
    rw [show 60 * p1 + j - 60 * p1 + 60 * p2 = 60 * p2 + j from by omega]
  · rw [hA, show 60 * p1 + 0 = 60 * p1 from by omega, zV_0]
theorem c_M_air {e : gE} {b : Nat} {m : Int} {G : gH} {p1 p2 : Int} (h : zB 512 (zM m G)) : GX e b m m_M_air [(2, (m + 0)), (0, p1), (0, p2)] G 0 0 (zQ m G (zfAir (zM m G) p1 p2)) := by
  have b0 : 0 ≤ zM m G 787 0 ∧ zM m G 787 0 ≤ 5 := h 787 0
  have s2 : 0 ≤ zM m G 20 p2 ∧ zM m G 20 p2 ≤ 60 := h 20 p2
  refine GM.ofEV (by decide) (Nat.le_of_ble_eq_true rfl) (sg_M_air_0 ?_)
  unfold zfAir
  refine ⟨fun q1 q2 => ⟨q2, fun q3 => ⟨fun q4 => ⟨by omega, ?_⟩, fun q4 => ?_⟩, fun q3 => ?_⟩, fun q => ?_⟩
  · rintro _ rfl _ rfl
    rw [if_neg (by omega), if_neg q3, if_neg q4]
    have e1 : zM m (gU G 1 (m + 26) p1 (zM m G 20 p2)) 19 p2 = zM m G 19 p2 := by rw [zM_u26, zU_k (by decide)]
    rw [e1]
    refine l_M_air (G0 := G) (zU (zU (zM m G) 26 p1 (zM m G 20 p2)) 27 p1 (zM m G 19 p2)) q2 (by omega) ?_ ?_ (zC_u (zC_u zC_r (by decide)) (by decide)) (fun G1 h1 h2 => ⟨?_, ?_, h2⟩)
    · rw [zU_k (by decide), zU_k (by decide)]; exact s2
    · rw [zM_u27, zM_u26]
    · rw [zU_k (by decide), zU_k (by decide)]
    · rw [h1]
      simp only [zU_k (show (20 : Nat) ≠ 27 by decide), zU_k (show (20 : Nat) ≠ 26 by decide), zU_k (show (22 : Nat) ≠ 27 by decide), zU_k (show (22 : Nat) ≠ 26 by decide)]
  · rw [if_neg (by omega), if_neg q3, if_pos q4]; exact c_M_no h (by decide)
  · rw [if_neg (by omega), if_pos q3]; exact c_M_no h (by decide)
  · rw [if_pos (by omega)]; exact c_M_no h (by decide)
set_option maxRecDepth 20000 in
set_option maxHeartbeats 4000000 in
theorem sg_M_goes_0 {e : gE} {b : Nat} {m : Int} {Z : Int → gH → Prop} {kc ks : Nat} {G : gH} {p1 p2 : Int} (h : (0 ≤ (zM m G 794 0) ∧ (zM m G 794 0) < 12000) ∧ (∀ G2 : gH, G2 = gU G 1 (m + 35) (zM m G 794 0) p1 → ((zM m G 788 0) ≠ 2 → ∀ G6 : gH, G6 = gU G2 1 (m + 36) (zM m G 794 0) (zM m G 789 0) → (0 ≤ p1 ∧ p1 < 16) ∧ (∀ G8 : gH, G8 = gU G6 1 (m + 37) (zM m G 794 0) (zM m G6 11 p1) → (inI ((zM m G 794 0) + 1)) ∧ (∀ G10 : gH, G10 = gU G8 794 (m + 0) 0 ((zM m G 794 0) + 1) → ∀ G11 : gH, G11 = gU G10 1 (m + 38) (zM m G 794 0) p2 → ∀ G12 : gH, G12 = gU G11 1 (m + 11) p1 p2 → Z 0 G12))) ∧ ((zM m G 788 0) = 2 → (inI (1000 + (zM m G 791 0))) ∧ (∀ G13 : gH, G13 = gU G2 1 (m + 36) (zM m G 794 0) (1000 + (zM m G 791 0)) → (0 ≤ p1 ∧ p1 < 16) ∧ (∀ G15 : gH, G15 = gU G13 1 (m + 37) (zM m G 794 0) (zM m G13 11 p1) → (inI ((zM m G 794 0) + 1)) ∧ (∀ G17 : gH, G17 = gU G15 794 (m + 0) 0 ((zM m G 794 0) + 1) → ∀ G18 : gH, G18 = gU G17 1 (m + 38) (zM m G 794 0) p2 → ∀ G19 : gH, G19 = gU G18 1 (m + 11) p1 p2 → Z 0 G19)))))) : EX e b m m_M_goes Z kc ks 0 [(2, (m + 0)), (0, p1), (0, p2)] [] G := by
  refine e_aload_n d_M_goes_0 rfl ?_
  refine gx_M_118 d_M_goes_1 rfl ?_
  refine e_aload_n d_M_goes_4 rfl ?_
  refine gx_M_256 d_M_goes_5 rfl ?_
  refine e_iload_n d_M_goes_8 rfl ?_
  obtain ⟨o1, h⟩ := h
  refine xM_iast 35 rfl d_M_goes_9 o1 ?_
  let G2 : gH := gU G 1 (m + 35) (zM m G 794 0) p1
  have h := h G2 rfl
  refine e_aload_n d_M_goes_10 rfl ?_
  refine gx_M_121 d_M_goes_11 rfl ?_
  refine e_aload_n d_M_goes_14 rfl ?_
  refine gx_M_256 d_M_goes_15 rfl ?_
  refine e_aload_n d_M_goes_18 rfl ?_
  refine gx_M_165 d_M_goes_19 rfl ?_
  refine e_iconst d_M_goes_22 (by decide) ?_
  refine e_icmp_ne (tgt := 37) d_M_goes_23 (by decide) (fun q3 => ?_) (fun q4 => ?_)
  · have h := h.1 q3
    refine e_aload_n d_M_goes_37 rfl ?_
    refine gx_M_197 d_M_goes_38 rfl ?_
    refine xM_iast 36 rfl d_M_goes_41 o1 ?_
    let G6 : gH := gU G2 1 (m + 36) (zM m G 794 0) (zM m G 789 0)
    have h := h G6 rfl
    refine e_aload_n d_M_goes_42 rfl ?_
    refine gx_M_124 d_M_goes_43 rfl ?_
    refine e_aload_n d_M_goes_46 rfl ?_
    refine gx_M_256 d_M_goes_47 rfl ?_
    refine e_aload_n d_M_goes_50 rfl ?_
    refine gx_M_45 d_M_goes_51 rfl ?_
    refine e_iload_n d_M_goes_54 rfl ?_
    obtain ⟨o7, h⟩ := h
    refine xM_iald 11 rfl d_M_goes_55 o7 ?_
    refine xM_iast 37 rfl d_M_goes_56 o1 ?_
    let G8 : gH := gU G6 1 (m + 37) (zM m G 794 0) (zM m G6 11 p1)
    have h := h G8 rfl
    refine e_aload_n d_M_goes_57 rfl ?_
    refine gx_M_127 d_M_goes_58 rfl ?_
    refine e_aload_n d_M_goes_61 rfl ?_
    refine e_dup d_M_goes_62 (by simp) ?_
    refine gx_M_256 d_M_goes_63 rfl ?_
    refine e_dup_x1 d_M_goes_66 (by simp) (by simp) ?_
    refine e_iconst d_M_goes_67 (by decide) ?_
    obtain ⟨o9, h⟩ := h
    refine e_iadd d_M_goes_68 o9 ?_
    refine px_M_256 d_M_goes_69 rfl ?_
    let G10 : gH := gU G8 794 (m + 0) 0 ((zM m G 794 0) + 1)
    have h := h G10 rfl
    refine e_iload_n d_M_goes_72 rfl ?_
    refine xM_iast 38 rfl d_M_goes_73 o1 ?_
    let G11 : gH := gU G10 1 (m + 38) (zM m G 794 0) p2
    have h := h G11 rfl
    refine e_aload_n d_M_goes_74 rfl ?_
    refine gx_M_45 d_M_goes_75 rfl ?_
    refine e_iload_n d_M_goes_78 rfl ?_
    refine e_iload_n d_M_goes_79 rfl ?_
    refine xM_iast 11 rfl d_M_goes_80 o7 ?_
    let G12 : gH := gU G11 1 (m + 11) p1 p2
    have h := h G12 rfl
    exact e_vret d_M_goes_81 rfl h
  · have h := h.2 q4
    refine e_sipush d_M_goes_26 (by decide) (by decide) ?_
    refine e_aload_n d_M_goes_29 rfl ?_
    refine gx_M_259 d_M_goes_30 rfl ?_
    obtain ⟨o5, h⟩ := h
    refine e_iadd d_M_goes_33 o5 ?_
    refine e_goto (tgt := 41) d_M_goes_34 (by decide) ?_
    refine xM_iast 36 rfl d_M_goes_41 o1 ?_
    let G13 : gH := gU G2 1 (m + 36) (zM m G 794 0) (1000 + (zM m G 791 0))
    have h := h G13 rfl
    refine e_aload_n d_M_goes_42 rfl ?_
    refine gx_M_124 d_M_goes_43 rfl ?_
    refine e_aload_n d_M_goes_46 rfl ?_
    refine gx_M_256 d_M_goes_47 rfl ?_
    refine e_aload_n d_M_goes_50 rfl ?_
    refine gx_M_45 d_M_goes_51 rfl ?_
    refine e_iload_n d_M_goes_54 rfl ?_
    obtain ⟨o14, h⟩ := h
    refine xM_iald 11 rfl d_M_goes_55 o14 ?_
    refine xM_iast 37 rfl d_M_goes_56 o1 ?_
    let G15 : gH := gU G13 1 (m + 37) (zM m G 794 0) (zM m G13 11 p1)
    have h := h G15 rfl
    refine e_aload_n d_M_goes_57 rfl ?_
    refine gx_M_127 d_M_goes_58 rfl ?_
    refine e_aload_n d_M_goes_61 rfl ?_
    refine e_dup d_M_goes_62 (by simp) ?_
    refine gx_M_256 d_M_goes_63 rfl ?_
    refine e_dup_x1 d_M_goes_66 (by simp) (by simp) ?_
    refine e_iconst d_M_goes_67 (by decide) ?_
    obtain ⟨o16, h⟩ := h
    refine e_iadd d_M_goes_68 o16 ?_
    refine px_M_256 d_M_goes_69 rfl ?_
    let G17 : gH := gU G15 794 (m + 0) 0 ((zM m G 794 0) + 1)
    have h := h G17 rfl
    refine e_iload_n d_M_goes_72 rfl ?_
    refine xM_iast 38 rfl d_M_goes_73 o1 ?_
    let G18 : gH := gU G17 1 (m + 38) (zM m G 794 0) p2
    have h := h G18 rfl
    refine e_aload_n d_M_goes_74 rfl ?_
    refine gx_M_45 d_M_goes_75 rfl ?_
    refine e_iload_n d_M_goes_78 rfl ?_
    refine e_iload_n d_M_goes_79 rfl ?_
    refine xM_iast 11 rfl d_M_goes_80 o14 ?_
    let G19 : gH := gU G18 1 (m + 11) p1 p2
    have h := h G19 rfl
    exact e_vret d_M_goes_81 rfl h
set_option maxRecDepth 20000 in
set_option maxHeartbeats 4000000 in
theorem sg_M_giveBack_0 {e : gE} {b : Nat} {m : Int} {Z : Int → gH → Prop} {kc ks : Nat} {G : gH} {p1 p2 : Int} (h : (((0 ≤ p1 ∧ p1 < zM m G 785 0) → (zB 512 (zM m G)) ∧ ((zM m G 788 0) = 2 → (0 ≤ p1 ∧ p1 < 16))) ∧ ((¬ (0 ≤ p1 ∧ p1 < zM m G 785 0)) → GX e b m m_M_no [(2, (m + 0)), (0, (-1))] G 0 0 (fun v15 G16 => Z v15 G16))) ∧ ((((0 ≤ p1 ∧ p1 < zM m G 785 0) ∧ (zM m G 788 0) = 2 ∧ (zM m G 11 p1) = 300) ∨ ((0 ≤ p1 ∧ p1 < zM m G 785 0) ∧ (zM m G 788 0) = 2 ∧ (zM m G 11 p1) ≠ 300 ∧ zAt (zM m G) p1)) → ((zfHolder (zM m G) p1 p2) ≠ (-1) → ((zfHolder (zM m G) p1 p2) ≠ 100 → (inI (600 + (zfHolder (zM m G) p1 p2))) ∧ GX e b m m_M_goes [(2, (m + 0)), (0, p1), (0, (600 + (zfHolder (zM m G) p1 p2)))] G 0 0 (fun _ G25 => Z (zfHolder (zM m G) p1 p2) G25)))) ∧ ((((0 ≤ p1 ∧ p1 < zM m G 785 0) ∧ (zM m G 788 0) ≠ 2) ∨ ((0 ≤ p1 ∧ p1 < zM m G 785 0) ∧ (zM m G 788 0) = 2 ∧ (zM m G 11 p1) ≠ 300 ∧ (¬ (zAt (zM m G) p1))) ∨ ((((0 ≤ p1 ∧ p1 < zM m G 785 0) ∧ (zM m G 788 0) = 2 ∧ (zM m G 11 p1) = 300) ∨ ((0 ≤ p1 ∧ p1 < zM m G 785 0) ∧ (zM m G 788 0) = 2 ∧ (zM m G 11 p1) ≠ 300 ∧ zAt (zM m G) p1)) ∧ (zfHolder (zM m G) p1 p2) = (-1)) ∨ ((((0 ≤ p1 ∧ p1 < zM m G 785 0) ∧ (zM m G 788 0) = 2 ∧ (zM m G 11 p1) = 300) ∨ ((0 ≤ p1 ∧ p1 < zM m G 785 0) ∧ (zM m G 788 0) = 2 ∧ (zM m G 11 p1) ≠ 300 ∧ zAt (zM m G) p1)) ∧ (zfHolder (zM m G) p1 p2) ≠ (-1) ∧ (zfHolder (zM m G) p1 p2) = 100)) → GX e b m m_M_no [(2, (m + 0)), (0, (-6))] G 0 0 (fun v28 G29 => Z v28 G29))) : EX e b m m_M_giveBack Z kc ks 0 [(2, (m + 0)), (0, p1), (0, p2), (9, 0)] [] G := by
  obtain ⟨h, hJ17, hJ26⟩ := h
  have kJ26 : (((0 ≤ p1 ∧ p1 < zM m G 785 0) ∧ (zM m G 788 0) ≠ 2) ∨ ((0 ≤ p1 ∧ p1 < zM m G 785 0) ∧ (zM m G 788 0) = 2 ∧ (zM m G 11 p1) ≠ 300 ∧ (¬ (zAt (zM m G) p1))) ∨ ((((0 ≤ p1 ∧ p1 < zM m G 785 0) ∧ (zM m G 788 0) = 2 ∧ (zM m G 11 p1) = 300) ∨ ((0 ≤ p1 ∧ p1 < zM m G 785 0) ∧ (zM m G 788 0) = 2 ∧ (zM m G 11 p1) ≠ 300 ∧ zAt (zM m G) p1)) ∧ (zfHolder (zM m G) p1 p2) = (-1)) ∨ ((((0 ≤ p1 ∧ p1 < zM m G 785 0) ∧ (zM m G 788 0) = 2 ∧ (zM m G 11 p1) = 300) ∨ ((0 ≤ p1 ∧ p1 < zM m G 785 0) ∧ (zM m G 788 0) = 2 ∧ (zM m G 11 p1) ≠ 300 ∧ zAt (zM m G) p1)) ∧ (zfHolder (zM m G) p1 p2) ≠ (-1) ∧ (zfHolder (zM m G) p1 p2) = 100)) → EX e b m m_M_giveBack Z kc ks 60 [(2, (m + 0)), (0, p1), (0, p2), (0, (zfHolder (zM m G) p1 p2))] [] G := by
    intro rJ26
    have h := hJ26 rJ26
    refine e_aload_n d_M_giveBack_60 rfl ?_
    refine e_bipush d_M_giveBack_61 (by decide) (by decide) ?_
    refine EV.inv fun hFf27 => ?_
    have f27 := (fx_mt 0 rfl hFf27).1
    refine e_callV m_M_no 12 lw_good d_M_giveBack_63 (k_M_no _) ⟨Nat.le_of_ble_eq_true rfl, Nat.le_of_ble_eq_true rfl⟩ w_1569 w_1571 w_s42 (q_M _) rfl f27 (args := [(0, (-6))]) rfl rfl (Nat.le_of_ble_eq_true rfl) (kc' := kc) (ks' := ks) (mc := 0) (ms := 0) rfl rfl h ?_
    intro v28 G29 h
    exact e_iret d_M_giveBack_66 rfl h
  have kJ17 : (((0 ≤ p1 ∧ p1 < zM m G 785 0) ∧ (zM m G 788 0) = 2 ∧ (zM m G 11 p1) = 300) ∨ ((0 ≤ p1 ∧ p1 < zM m G 785 0) ∧ (zM m G 788 0) = 2 ∧ (zM m G 11 p1) ≠ 300 ∧ zAt (zM m G) p1)) → EX e b m m_M_giveBack Z kc ks 49 [(2, (m + 0)), (0, p1), (0, p2), (0, (zfHolder (zM m G) p1 p2))] [] G := by
    intro rJ17
    have h := hJ17 rJ17
    refine e_iload_n d_M_giveBack_49 rfl ?_
    refine e_iconst d_M_giveBack_50 (by decide) ?_
    refine e_icmp_eq (tgt := 60) d_M_giveBack_51 (by decide) (fun q18 => ?_) (fun q19 => ?_)
    · exact kJ26 (Or.inr (Or.inr (Or.inl ⟨rJ17, q18⟩)))
    · have h := h q19
      refine e_iload_n d_M_giveBack_54 rfl ?_
      refine e_bipush d_M_giveBack_55 (by decide) (by decide) ?_
      refine e_icmp_ne (tgt := 67) d_M_giveBack_57 (by decide) (fun q20 => ?_) (fun q21 => ?_)
      · have h := h q20
        refine e_aload_n d_M_giveBack_67 rfl ?_
        refine e_iload_n d_M_giveBack_68 rfl ?_
        refine e_sipush d_M_giveBack_69 (by decide) (by decide) ?_
        refine e_iload_n d_M_giveBack_72 rfl ?_
        obtain ⟨o22, h⟩ := h
        refine e_iadd d_M_giveBack_73 o22 ?_
        refine EV.inv fun hFf23 => ?_
        have f23 := (fx_mt 0 rfl hFf23).1
        refine e_callV m_M_goes 12 lw_good d_M_giveBack_74 (k_M_goes _) ⟨Nat.le_of_ble_eq_true rfl, Nat.le_of_ble_eq_true rfl⟩ w_1732 w_1734 w_s64 (q_M _) rfl f23 (args := [(0, p1), (0, (600 + (zfHolder (zM m G) p1 p2)))]) rfl rfl (Nat.le_of_ble_eq_true rfl) (kc' := kc) (ks' := ks) (mc := 0) (ms := 0) rfl rfl h ?_
        intro v24 G25 h
        refine e_iload_n d_M_giveBack_77 rfl ?_
        exact e_iret d_M_giveBack_78 rfl h
      · exact kJ26 (Or.inr (Or.inr (Or.inr ⟨rJ17, q19, q21⟩)))
  refine e_aload_n d_M_giveBack_0 rfl ?_
  refine e_iload_n d_M_giveBack_1 rfl ?_
  refine EV.inv fun hFf1 => ?_
  have f1 := (fx_mt 0 rfl hFf1).1
  refine e_callV m_M_isThing 12 lw_good d_M_giveBack_2 (k_M_isThing _) ⟨Nat.le_of_ble_eq_true rfl, Nat.le_of_ble_eq_true rfl⟩ w_1692 w_1694 w_s62 (q_M _) rfl f1 (args := [(0, p1)]) rfl rfl (Nat.le_of_ble_eq_true rfl) (kc' := kc) (ks' := ks) (mc := 0) (ms := 0) rfl rfl (c_M_isThing) (pureK ?_)
  refine e_if_ne (tgt := 14) d_M_giveBack_5 (by decide) (fun q2 => ?_) (fun q3 => ?_)
  · replace q2 := gb1.mp q2
    have h := h.1 q2
    refine e_aload_n d_M_giveBack_14 rfl ?_
    refine e_iload_n d_M_giveBack_15 rfl ?_
    refine e_iload_n d_M_giveBack_16 rfl ?_
    refine EV.inv fun hFf4 => ?_
    have f4 := (fx_mt 0 rfl hFf4).1
    obtain ⟨o5, h⟩ := h
    refine e_callV m_M_holder 12 lw_good d_M_giveBack_17 (k_M_holder _) ⟨Nat.le_of_ble_eq_true rfl, Nat.le_of_ble_eq_true rfl⟩ w_1846 w_1839 w_1840 (q_M _) rfl f4 (args := [(0, p1), (0, p2)]) rfl rfl (Nat.le_of_ble_eq_true rfl) (kc' := kc) (ks' := ks) (mc := 0) (ms := 0) rfl rfl (c_M_holder o5) (pureK ?_)
    refine e_istore_n (ls' := [(2, (m + 0)), (0, p1), (0, p2), (0, (zfHolder (zM m G) p1 p2))]) d_M_giveBack_20 (by decide) rfl ?_
    refine e_aload_n d_M_giveBack_21 rfl ?_
    refine gx_M_165 d_M_giveBack_22 rfl ?_
    refine e_iconst d_M_giveBack_25 (by decide) ?_
    refine e_icmp_ne (tgt := 60) d_M_giveBack_26 (by decide) (fun q6 => ?_) (fun q7 => ?_)
    · exact kJ26 (Or.inl ⟨q2, q6⟩)
    · have h := h q7
      refine e_aload_n d_M_giveBack_29 rfl ?_
      refine gx_M_45 d_M_giveBack_30 rfl ?_
      refine e_iload_n d_M_giveBack_33 rfl ?_
      have o8 := h
      refine xM_iald 11 rfl d_M_giveBack_34 o8 ?_
      refine e_sipush d_M_giveBack_35 (by decide) (by decide) ?_
      refine e_icmp_eq (tgt := 49) d_M_giveBack_38 (by decide) (fun q9 => ?_) (fun q10 => ?_)
      · exact kJ17 (Or.inl ⟨q2, q7, q9⟩)
      · refine e_aload_n d_M_giveBack_41 rfl ?_
        refine e_iload_n d_M_giveBack_42 rfl ?_
        refine EV.inv fun hFf11 => ?_
        have f11 := (fx_mt 0 rfl hFf11).1
        refine e_callV m_M_isInPlace 12 lw_good d_M_giveBack_43 (k_M_isInPlace _) ⟨Nat.le_of_ble_eq_true rfl, Nat.le_of_ble_eq_true rfl⟩ w_1797 w_1799 w_s69 (q_M _) rfl f11 (args := [(0, p1)]) rfl rfl (Nat.le_of_ble_eq_true rfl) (kc' := kc) (ks' := ks) (mc := 0) (ms := 0) rfl rfl (c_M_isInPlace o8) (pureK ?_)
        refine e_if_eq (tgt := 60) d_M_giveBack_46 (by decide) (fun q12 => ?_) (fun q13 => ?_)
        · replace q12 := gb0.mp q12
          exact kJ26 (Or.inr (Or.inl ⟨q2, q7, q10, q12⟩))
        · replace q13 := gb1.mp q13
          exact kJ17 (Or.inr ⟨q2, q7, q10, q13⟩)
  · replace q3 := gb0.mp q3
    have h := h.2 q3
    refine e_aload_n d_M_giveBack_8 rfl ?_
    refine e_iconst d_M_giveBack_9 (by decide) ?_
    refine EV.inv fun hFf14 => ?_
    have f14 := (fx_mt 0 rfl hFf14).1
    refine e_callV m_M_no 12 lw_good d_M_giveBack_10 (k_M_no _) ⟨Nat.le_of_ble_eq_true rfl, Nat.le_of_ble_eq_true rfl⟩ w_1569 w_1571 w_s42 (q_M _) rfl f14 (args := [(0, (-1))]) rfl rfl (Nat.le_of_ble_eq_true rfl) (kc' := kc) (ks' := ks) (mc := 0) (ms := 0) rfl rfl h ?_
    intro v15 G16 h
    exact e_iret d_M_giveBack_13 rfl h
set_option maxRecDepth 20000 in
set_option maxHeartbeats 4000000 in
theorem sg_M_move_0 {e : gE} {b : Nat} {m : Int} {Z : Int → gH → Prop} {kc ks : Nat} {G : gH} {p1 p2 : Int} (h : ((0 ≤ p1 ∧ p1 < zM m G 785 0) → ((0 ≤ p2 ∧ p2 < zM m G 787 0) → ((zM m G 788 0) = 2 → (0 ≤ p1 ∧ p1 < 16)))) ∧ ((((¬ (0 ≤ p1 ∧ p1 < zM m G 785 0))) ∨ ((0 ≤ p1 ∧ p1 < zM m G 785 0) ∧ (¬ (0 ≤ p2 ∧ p2 < zM m G 787 0)))) → GX e b m m_M_no [(2, (m + 0)), (0, (-1))] G 0 0 (fun v17 G18 => Z v17 G18)) ∧ ((((0 ≤ p1 ∧ p1 < zM m G 785 0) ∧ (0 ≤ p2 ∧ p2 < zM m G 787 0) ∧ (zM m G 788 0) = 2 ∧ (zM m G 11 p1) = 300) ∨ ((0 ≤ p1 ∧ p1 < zM m G 785 0) ∧ (0 ≤ p2 ∧ p2 < zM m G 787 0) ∧ (zM m G 788 0) = 2 ∧ (zM m G 11 p1) ≠ 300 ∧ zAt (zM m G) p1)) → (0 ≤ p1 ∧ p1 < 16) ∧ ((inI (400 + p2)) ∧ ((zM m G 11 p1) ≠ (400 + p2) → (zT (zM m G) ∧ (∀ t, 0 ≤ zM m G 9 t ∧ zM m G 9 t ≤ 4)) ∧ ((0 ≤ p2 ∧ p2 < 5) ∧ ((inI ((zUsed (zM m G) p2) + (zM m G 9 p1))) ∧ (((zUsed (zM m G) p2) + (zM m G 9 p1)) ≤ (zM m G 23 p2) → (zB 512 (zM m G)) ∧ ((zAt (zM m G) p1 → zM m G 11 p1 < 405) ∧ (((zPrice (zM m G) p1 p2) ≤ (zM m G 792 0) → (inI ((zM m G 792 0) - (zPrice (zM m G) p1 p2))) ∧ (∀ G36 : gH, G36 = gU G 792 (m + 0) 0 ((zM m G 792 0) - (zPrice (zM m G) p1 p2)) → GX e b m m_M_goes [(2, (m + 0)), (0, p1), (0, (400 + p2))] G36 0 0 (fun _ G39 => Z (zM m G39 792 0) G39))) ∧ ((zM m G 792 0) < (zPrice (zM m G) p1 p2) → GX e b m m_M_no [(2, (m + 0)), (0, (-7))] G 0 0 (fun v41 G42 => Z v41 G42)))))))))) ∧ ((((0 ≤ p1 ∧ p1 < zM m G 785 0) ∧ (0 ≤ p2 ∧ p2 < zM m G 787 0) ∧ (zM m G 788 0) ≠ 2) ∨ ((0 ≤ p1 ∧ p1 < zM m G 785 0) ∧ (0 ≤ p2 ∧ p2 < zM m G 787 0) ∧ (zM m G 788 0) = 2 ∧ (zM m G 11 p1) ≠ 300 ∧ (¬ (zAt (zM m G) p1))) ∨ ((((0 ≤ p1 ∧ p1 < zM m G 785 0) ∧ (0 ≤ p2 ∧ p2 < zM m G 787 0) ∧ (zM m G 788 0) = 2 ∧ (zM m G 11 p1) = 300) ∨ ((0 ≤ p1 ∧ p1 < zM m G 785 0) ∧ (0 ≤ p2 ∧ p2 < zM m G 787 0) ∧ (zM m G 788 0) = 2 ∧ (zM m G 11 p1) ≠ 300 ∧ zAt (zM m G) p1)) ∧ (zM m G 11 p1) = (400 + p2)) ∨ ((((0 ≤ p1 ∧ p1 < zM m G 785 0) ∧ (0 ≤ p2 ∧ p2 < zM m G 787 0) ∧ (zM m G 788 0) = 2 ∧ (zM m G 11 p1) = 300) ∨ ((0 ≤ p1 ∧ p1 < zM m G 785 0) ∧ (0 ≤ p2 ∧ p2 < zM m G 787 0) ∧ (zM m G 788 0) = 2 ∧ (zM m G 11 p1) ≠ 300 ∧ zAt (zM m G) p1)) ∧ (zM m G 11 p1) ≠ (400 + p2) ∧ (zM m G 23 p2) < ((zUsed (zM m G) p2) + (zM m G 9 p1)))) → GX e b m m_M_no [(2, (m + 0)), (0, (-6))] G 0 0 (fun v45 G46 => Z v45 G46))) : EX e b m m_M_move Z kc ks 0 [(2, (m + 0)), (0, p1), (0, p2), (9, 0)] [] G := by
  obtain ⟨h, hJ15, hJ19, hJ43⟩ := h
  have kJ43 : (((0 ≤ p1 ∧ p1 < zM m G 785 0) ∧ (0 ≤ p2 ∧ p2 < zM m G 787 0) ∧ (zM m G 788 0) ≠ 2) ∨ ((0 ≤ p1 ∧ p1 < zM m G 785 0) ∧ (0 ≤ p2 ∧ p2 < zM m G 787 0) ∧ (zM m G 788 0) = 2 ∧ (zM m G 11 p1) ≠ 300 ∧ (¬ (zAt (zM m G) p1))) ∨ ((((0 ≤ p1 ∧ p1 < zM m G 785 0) ∧ (0 ≤ p2 ∧ p2 < zM m G 787 0) ∧ (zM m G 788 0) = 2 ∧ (zM m G 11 p1) = 300) ∨ ((0 ≤ p1 ∧ p1 < zM m G 785 0) ∧ (0 ≤ p2 ∧ p2 < zM m G 787 0) ∧ (zM m G 788 0) = 2 ∧ (zM m G 11 p1) ≠ 300 ∧ zAt (zM m G) p1)) ∧ (zM m G 11 p1) = (400 + p2)) ∨ ((((0 ≤ p1 ∧ p1 < zM m G 785 0) ∧ (0 ≤ p2 ∧ p2 < zM m G 787 0) ∧ (zM m G 788 0) = 2 ∧ (zM m G 11 p1) = 300) ∨ ((0 ≤ p1 ∧ p1 < zM m G 785 0) ∧ (0 ≤ p2 ∧ p2 < zM m G 787 0) ∧ (zM m G 788 0) = 2 ∧ (zM m G 11 p1) ≠ 300 ∧ zAt (zM m G) p1)) ∧ (zM m G 11 p1) ≠ (400 + p2) ∧ (zM m G 23 p2) < ((zUsed (zM m G) p2) + (zM m G 9 p1)))) → EX e b m m_M_move Z kc ks 85 [(2, (m + 0)), (0, p1), (0, p2), (9, 0)] [] G := by
    intro rJ43
    have h := hJ43 rJ43
    refine e_aload_n d_M_move_85 rfl ?_
    refine e_bipush d_M_move_86 (by decide) (by decide) ?_
    refine EV.inv fun hFf44 => ?_
    have f44 := (fx_mt 0 rfl hFf44).1
    refine e_callV m_M_no 12 lw_good d_M_move_88 (k_M_no _) ⟨Nat.le_of_ble_eq_true rfl, Nat.le_of_ble_eq_true rfl⟩ w_1569 w_1571 w_s42 (q_M _) rfl f44 (args := [(0, (-6))]) rfl rfl (Nat.le_of_ble_eq_true rfl) (kc' := kc) (ks' := ks) (mc := 0) (ms := 0) rfl rfl h ?_
    intro v45 G46 h
    exact e_iret d_M_move_91 rfl h
  have kJ19 : (((0 ≤ p1 ∧ p1 < zM m G 785 0) ∧ (0 ≤ p2 ∧ p2 < zM m G 787 0) ∧ (zM m G 788 0) = 2 ∧ (zM m G 11 p1) = 300) ∨ ((0 ≤ p1 ∧ p1 < zM m G 785 0) ∧ (0 ≤ p2 ∧ p2 < zM m G 787 0) ∧ (zM m G 788 0) = 2 ∧ (zM m G 11 p1) ≠ 300 ∧ zAt (zM m G) p1)) → EX e b m m_M_move Z kc ks 50 [(2, (m + 0)), (0, p1), (0, p2), (9, 0)] [] G := by
    intro rJ19
    have h := hJ19 rJ19
    refine e_aload_n d_M_move_50 rfl ?_
    refine gx_M_45 d_M_move_51 rfl ?_
    refine e_iload_n d_M_move_54 rfl ?_
    obtain ⟨o20, h⟩ := h
    refine xM_iald 11 rfl d_M_move_55 o20 ?_
    refine e_sipush d_M_move_56 (by decide) (by decide) ?_
    refine e_iload_n d_M_move_59 rfl ?_
    obtain ⟨o21, h⟩ := h
    refine e_iadd d_M_move_60 o21 ?_
    refine e_icmp_eq (tgt := 85) d_M_move_61 (by decide) (fun q22 => ?_) (fun q23 => ?_)
    · exact kJ43 (Or.inr (Or.inr (Or.inl ⟨rJ19, q22⟩)))
    · have h := h q23
      refine e_aload_n d_M_move_64 rfl ?_
      refine e_iload_n d_M_move_65 rfl ?_
      refine EV.inv fun hFf24 => ?_
      have f24 := (fx_mt 0 rfl hFf24).1
      obtain ⟨o25, o26, h⟩ := h
      refine e_callV m_M_used 12 lw_good d_M_move_66 (k_M_used _) ⟨Nat.le_of_ble_eq_true rfl, Nat.le_of_ble_eq_true rfl⟩ w_1805 w_1807 w_s71 (q_M _) rfl f24 (args := [(0, p2)]) rfl rfl (Nat.le_of_ble_eq_true rfl) (kc' := kc) (ks' := ks) (mc := 0) (ms := 0) rfl rfl (c_M_used o25 o26) (pureK ?_)
      refine e_aload_n d_M_move_69 rfl ?_
      refine gx_M_39 d_M_move_70 rfl ?_
      refine e_iload_n d_M_move_73 rfl ?_
      refine xM_iald 9 rfl d_M_move_74 o20 ?_
      obtain ⟨o27, h⟩ := h
      refine e_iadd d_M_move_75 o27 ?_
      refine e_aload_n d_M_move_76 rfl ?_
      refine gx_M_82 d_M_move_77 rfl ?_
      refine e_iload_n d_M_move_80 rfl ?_
      refine xM_iald 23 rfl d_M_move_81 o26 ?_
      refine e_icmp_le (tgt := 92) d_M_move_82 (by decide) (fun q28 => ?_) (fun q29 => ?_)
      · have h := h q28
        refine e_aload_n d_M_move_92 rfl ?_
        refine e_iload_n d_M_move_93 rfl ?_
        refine e_iload_n d_M_move_94 rfl ?_
        refine EV.inv fun hFf30 => ?_
        have f30 := (fx_mt 0 rfl hFf30).1
        obtain ⟨o31, o32, h⟩ := h
        refine e_callV m_M_price 12 lw_good d_M_move_95 (k_M_price _) ⟨Nat.le_of_ble_eq_true rfl, Nat.le_of_ble_eq_true rfl⟩ w_1813 w_1815 w_s73 (q_M _) rfl f30 (args := [(0, p1), (0, p2)]) rfl rfl (Nat.le_of_ble_eq_true rfl) (kc' := kc) (ks' := ks) (mc := 0) (ms := 0) rfl rfl (c_M_price o31 o20 o26 o32) (pureK ?_)
        refine e_istore_n (ls' := [(2, (m + 0)), (0, p1), (0, p2), (0, (zPrice (zM m G) p1 p2))]) d_M_move_98 (by decide) rfl ?_
        refine e_iload_n d_M_move_99 rfl ?_
        refine e_aload_n d_M_move_100 rfl ?_
        refine gx_M_292 d_M_move_101 rfl ?_
        refine e_icmp_le (tgt := 114) d_M_move_104 (by decide) (fun q33 => ?_) (fun q34 => ?_)
        · have h := h.1 q33
          refine e_aload_n d_M_move_114 rfl ?_
          refine e_dup d_M_move_115 (by simp) ?_
          refine gx_M_292 d_M_move_116 rfl ?_
          refine e_iload_n d_M_move_119 rfl ?_
          obtain ⟨o35, h⟩ := h
          refine e_isub d_M_move_120 o35 ?_
          refine px_M_292 d_M_move_121 rfl ?_
          let G36 : gH := gU G 792 (m + 0) 0 ((zM m G 792 0) - (zPrice (zM m G) p1 p2))
          have h := h G36 rfl
          refine e_aload_n d_M_move_124 rfl ?_
          refine e_iload_n d_M_move_125 rfl ?_
          refine e_sipush d_M_move_126 (by decide) (by decide) ?_
          refine e_iload_n d_M_move_129 rfl ?_
          refine e_iadd d_M_move_130 o21 ?_
          refine EV.inv fun hFf37 => ?_
          have f37 := (fx_mt 0 rfl hFf37).1
          refine e_callV m_M_goes 12 lw_good d_M_move_131 (k_M_goes _) ⟨Nat.le_of_ble_eq_true rfl, Nat.le_of_ble_eq_true rfl⟩ w_1732 w_1734 w_s64 (q_M _) rfl f37 (args := [(0, p1), (0, (400 + p2))]) rfl rfl (Nat.le_of_ble_eq_true rfl) (kc' := kc) (ks' := ks) (mc := 0) (ms := 0) rfl rfl h ?_
          intro v38 G39 h
          refine e_aload_n d_M_move_134 rfl ?_
          refine gx_M_292 d_M_move_135 rfl ?_
          exact e_iret d_M_move_138 rfl h
        · have h := h.2 q34
          refine e_aload_n d_M_move_107 rfl ?_
          refine e_bipush d_M_move_108 (by decide) (by decide) ?_
          refine EV.inv fun hFf40 => ?_
          have f40 := (fx_mt 0 rfl hFf40).1
          refine e_callV m_M_no 12 lw_good d_M_move_110 (k_M_no _) ⟨Nat.le_of_ble_eq_true rfl, Nat.le_of_ble_eq_true rfl⟩ w_1569 w_1571 w_s42 (q_M _) rfl f40 (args := [(0, (-7))]) rfl rfl (Nat.le_of_ble_eq_true rfl) (kc' := kc) (ks' := ks) (mc := 0) (ms := 0) rfl rfl h ?_
          intro v41 G42 h
          exact e_iret d_M_move_113 rfl h
      · exact kJ43 (Or.inr (Or.inr (Or.inr ⟨rJ19, q23, q29⟩)))
  have kJ15 : (((¬ (0 ≤ p1 ∧ p1 < zM m G 785 0))) ∨ ((0 ≤ p1 ∧ p1 < zM m G 785 0) ∧ (¬ (0 ≤ p2 ∧ p2 < zM m G 787 0)))) → EX e b m m_M_move Z kc ks 16 [(2, (m + 0)), (0, p1), (0, p2), (9, 0)] [] G := by
    intro rJ15
    have h := hJ15 rJ15
    refine e_aload_n d_M_move_16 rfl ?_
    refine e_iconst d_M_move_17 (by decide) ?_
    refine EV.inv fun hFf16 => ?_
    have f16 := (fx_mt 0 rfl hFf16).1
    refine e_callV m_M_no 12 lw_good d_M_move_18 (k_M_no _) ⟨Nat.le_of_ble_eq_true rfl, Nat.le_of_ble_eq_true rfl⟩ w_1569 w_1571 w_s42 (q_M _) rfl f16 (args := [(0, (-1))]) rfl rfl (Nat.le_of_ble_eq_true rfl) (kc' := kc) (ks' := ks) (mc := 0) (ms := 0) rfl rfl h ?_
    intro v17 G18 h
    exact e_iret d_M_move_21 rfl h
  refine e_aload_n d_M_move_0 rfl ?_
  refine e_iload_n d_M_move_1 rfl ?_
  refine EV.inv fun hFf1 => ?_
  have f1 := (fx_mt 0 rfl hFf1).1
  refine e_callV m_M_isThing 12 lw_good d_M_move_2 (k_M_isThing _) ⟨Nat.le_of_ble_eq_true rfl, Nat.le_of_ble_eq_true rfl⟩ w_1692 w_1694 w_s62 (q_M _) rfl f1 (args := [(0, p1)]) rfl rfl (Nat.le_of_ble_eq_true rfl) (kc' := kc) (ks' := ks) (mc := 0) (ms := 0) rfl rfl (c_M_isThing) (pureK ?_)
  refine e_if_eq (tgt := 16) d_M_move_5 (by decide) (fun q2 => ?_) (fun q3 => ?_)
  · replace q2 := gb0.mp q2
    exact kJ15 (Or.inl q2)
  · replace q3 := gb1.mp q3
    have h := h q3
    refine e_aload_n d_M_move_8 rfl ?_
    refine e_iload_n d_M_move_9 rfl ?_
    refine EV.inv fun hFf4 => ?_
    have f4 := (fx_mt 0 rfl hFf4).1
    refine e_callV m_M_isPlace 12 lw_good d_M_move_10 (k_M_isPlace _) ⟨Nat.le_of_ble_eq_true rfl, Nat.le_of_ble_eq_true rfl⟩ w_1760 w_1762 w_s66 (q_M _) rfl f4 (args := [(0, p2)]) rfl rfl (Nat.le_of_ble_eq_true rfl) (kc' := kc) (ks' := ks) (mc := 0) (ms := 0) rfl rfl (c_M_isPlace) (pureK ?_)
    refine e_if_ne (tgt := 22) d_M_move_13 (by decide) (fun q5 => ?_) (fun q6 => ?_)
    · replace q5 := gb1.mp q5
      have h := h q5
      refine e_aload_n d_M_move_22 rfl ?_
      refine gx_M_165 d_M_move_23 rfl ?_
      refine e_iconst d_M_move_26 (by decide) ?_
      refine e_icmp_ne (tgt := 85) d_M_move_27 (by decide) (fun q7 => ?_) (fun q8 => ?_)
      · exact kJ43 (Or.inl ⟨q3, q5, q7⟩)
      · have h := h q8
        refine e_aload_n d_M_move_30 rfl ?_
        refine gx_M_45 d_M_move_31 rfl ?_
        refine e_iload_n d_M_move_34 rfl ?_
        have o9 := h
        refine xM_iald 11 rfl d_M_move_35 o9 ?_
        refine e_sipush d_M_move_36 (by decide) (by decide) ?_
        refine e_icmp_eq (tgt := 50) d_M_move_39 (by decide) (fun q10 => ?_) (fun q11 => ?_)
        · exact kJ19 (Or.inl ⟨q3, q5, q8, q10⟩)
        · refine e_aload_n d_M_move_42 rfl ?_
          refine e_iload_n d_M_move_43 rfl ?_
          refine EV.inv fun hFf12 => ?_
          have f12 := (fx_mt 0 rfl hFf12).1
          refine e_callV m_M_isInPlace 12 lw_good d_M_move_44 (k_M_isInPlace _) ⟨Nat.le_of_ble_eq_true rfl, Nat.le_of_ble_eq_true rfl⟩ w_1797 w_1799 w_s69 (q_M _) rfl f12 (args := [(0, p1)]) rfl rfl (Nat.le_of_ble_eq_true rfl) (kc' := kc) (ks' := ks) (mc := 0) (ms := 0) rfl rfl (c_M_isInPlace o9) (pureK ?_)
          refine e_if_eq (tgt := 85) d_M_move_47 (by decide) (fun q13 => ?_) (fun q14 => ?_)
          · replace q13 := gb0.mp q13
            exact kJ43 (Or.inr (Or.inl ⟨q3, q5, q8, q11, q13⟩))
          · replace q14 := gb1.mp q14
            exact kJ19 (Or.inr ⟨q3, q5, q8, q11, q14⟩)
    · replace q6 := gb0.mp q6
      exact kJ15 (Or.inr ⟨q3, q6⟩)
set_option maxRecDepth 20000 in
set_option maxHeartbeats 4000000 in
theorem sg_M_lose_0 {e : gE} {b : Nat} {m : Int} {Z : Int → gH → Prop} {kc ks : Nat} {G : gH} {p1 : Int} (h : (0 ≤ p1 → (p1 ≤ 3 → ((zM m G 788 0) = 2 → EX e b m m_M_lose Z kc ks 34 [(2, (m + 0)), (0, p1), (0, 0), (0, 0)] [] G) ∧ ((zM m G 788 0) ≠ 2 → GX e b m m_M_no [(2, (m + 0)), (0, (-6))] G 0 0 (fun v8 G9 => Z v8 G9)))) ∧ ((p1 < 0 ∨ (0 ≤ p1 ∧ 3 < p1)) → GX e b m m_M_no [(2, (m + 0)), (0, (-1))] G 0 0 (fun v12 G13 => Z v12 G13))) : EX e b m m_M_lose Z kc ks 0 [(2, (m + 0)), (0, p1), (9, 0), (9, 0)] [] G := by
  obtain ⟨h, hJ10⟩ := h
  have kJ10 : (p1 < 0 ∨ (0 ≤ p1 ∧ 3 < p1)) → EX e b m m_M_lose Z kc ks 9 [(2, (m + 0)), (0, p1), (9, 0), (9, 0)] [] G := by
    intro rJ10
    have h := hJ10 rJ10
    refine e_aload_n d_M_lose_9 rfl ?_
    refine e_iconst d_M_lose_10 (by decide) ?_
    refine EV.inv fun hFf11 => ?_
    have f11 := (fx_mt 0 rfl hFf11).1
    refine e_callV m_M_no 12 lw_good d_M_lose_11 (k_M_no _) ⟨Nat.le_of_ble_eq_true rfl, Nat.le_of_ble_eq_true rfl⟩ w_1569 w_1571 w_s42 (q_M _) rfl f11 (args := [(0, (-1))]) rfl rfl (Nat.le_of_ble_eq_true rfl) (kc' := kc) (ks' := ks) (mc := 0) (ms := 0) rfl rfl h ?_
    intro v12 G13 h
    exact e_iret d_M_lose_14 rfl h
  refine e_iload_n d_M_lose_0 rfl ?_
  refine e_if_lt (tgt := 9) d_M_lose_1 (by decide) (fun q1 => ?_) (fun q2 => ?_)
  · exact kJ10 (Or.inl q1)
  · have h := h q2
    refine e_iload_n d_M_lose_4 rfl ?_
    refine e_iconst d_M_lose_5 (by decide) ?_
    refine e_icmp_le (tgt := 15) d_M_lose_6 (by decide) (fun q3 => ?_) (fun q4 => ?_)
    · have h := h q3
      refine e_aload_n d_M_lose_15 rfl ?_
      refine gx_M_165 d_M_lose_16 rfl ?_
      refine e_iconst d_M_lose_19 (by decide) ?_
      refine e_icmp_eq (tgt := 30) d_M_lose_20 (by decide) (fun q5 => ?_) (fun q6 => ?_)
      · have h := h.1 q5
        refine e_iconst d_M_lose_30 (by decide) ?_
        refine e_istore_n (ls' := [(2, (m + 0)), (0, p1), (0, 0), (9, 0)]) d_M_lose_31 (by decide) rfl ?_
        refine e_iconst d_M_lose_32 (by decide) ?_
        refine e_istore_n (ls' := [(2, (m + 0)), (0, p1), (0, 0), (0, 0)]) d_M_lose_33 (by decide) rfl ?_
        exact e_forget (ls' := [(2, (m + 0)), (0, p1), (0, 0), (0, 0)]) ⟨Or.inr rfl, Or.inr rfl, Or.inr rfl, Or.inr rfl, trivial⟩ h
      · have h := h.2 q6
        refine e_aload_n d_M_lose_23 rfl ?_
        refine e_bipush d_M_lose_24 (by decide) (by decide) ?_
        refine EV.inv fun hFf7 => ?_
        have f7 := (fx_mt 0 rfl hFf7).1
        refine e_callV m_M_no 12 lw_good d_M_lose_26 (k_M_no _) ⟨Nat.le_of_ble_eq_true rfl, Nat.le_of_ble_eq_true rfl⟩ w_1569 w_1571 w_s42 (q_M _) rfl f7 (args := [(0, (-6))]) rfl rfl (Nat.le_of_ble_eq_true rfl) (kc' := kc) (ks' := ks) (mc := 0) (ms := 0) rfl rfl h ?_
        intro v8 G9 h
        exact e_iret d_M_lose_29 rfl h
    · exact kJ10 (Or.inr ⟨q2, q4⟩)
set_option maxRecDepth 20000 in
set_option maxHeartbeats 4000000 in
theorem sg_M_lose_34 {e : gE} {b : Nat} {m : Int} {Z : Int → gH → Prop} {kc ks : Nat} {G : gH} {p1 x2 x3 : Int} (h : (((zM m G 785 0) ≤ x3 → Z x2 G) ∧ (x3 < (zM m G 785 0) → (0 ≤ x3 ∧ x3 < 16) ∧ (zAt (zM m G) x3 → (inI ((zM m G 11 x3) - 400)) ∧ ((0 ≤ ((zM m G 11 x3) - 400) ∧ ((zM m G 11 x3) - 400) < 5) ∧ ((zM m G 24 ((zM m G 11 x3) - 400)) = p1 → GX e b m m_M_goes [(2, (m + 0)), (0, x3), (0, 500)] G 0 0 (fun _ G13 => (inI (x2 + 1)) ∧ (inI (x3 + 1)) ∧ EX e b m m_M_lose Z kc ks 34 [(2, (m + 0)), (0, p1), (0, (x2 + 1)), (0, (x3 + 1))] [] G13)))))) ∧ (((x3 < (zM m G 785 0) ∧ (¬ (zAt (zM m G) x3))) ∨ (x3 < (zM m G 785 0) ∧ zAt (zM m G) x3 ∧ (zM m G 24 ((zM m G 11 x3) - 400)) ≠ p1)) → (inI (x3 + 1)) ∧ EX e b m m_M_lose Z kc ks 34 [(2, (m + 0)), (0, p1), (0, x2), (0, (x3 + 1))] [] G)) : EX e b m m_M_lose Z kc ks 34 [(2, (m + 0)), (0, p1), (0, x2), (0, x3)] [] G := by
  obtain ⟨h, hJ16⟩ := h
  have kJ16 : ((x3 < (zM m G 785 0) ∧ (¬ (zAt (zM m G) x3))) ∨ (x3 < (zM m G 785 0) ∧ zAt (zM m G) x3 ∧ (zM m G 24 ((zM m G 11 x3) - 400)) ≠ p1)) → EX e b m m_M_lose Z kc ks 80 [(2, (m + 0)), (0, p1), (0, x2), (0, x3)] [] G := by
    intro rJ16
    have h := hJ16 rJ16
    obtain ⟨o17, h⟩ := h
    refine e_iinc (ls' := [(2, (m + 0)), (0, p1), (0, x2), (0, (x3 + 1))]) d_M_lose_80 rfl (by decide) o17 rfl ?_
    refine e_goto (tgt := 34) d_M_lose_83 (by decide) ?_
    exact e_forget (ls' := [(2, (m + 0)), (0, p1), (0, x2), (0, (x3 + 1))]) ⟨Or.inr rfl, Or.inr rfl, Or.inr rfl, Or.inr rfl, trivial⟩ h
  refine e_iload_n d_M_lose_34 rfl ?_
  refine e_aload_n d_M_lose_35 rfl ?_
  refine gx_M_151 d_M_lose_36 rfl ?_
  refine e_icmp_ge (tgt := 86) d_M_lose_39 (by decide) (fun q1 => ?_) (fun q2 => ?_)
  · have h := h.1 q1
    refine e_iload_n d_M_lose_86 rfl ?_
    exact e_iret d_M_lose_87 rfl h
  · have h := h.2 q2
    refine e_aload_n d_M_lose_42 rfl ?_
    refine e_iload_n d_M_lose_43 rfl ?_
    refine EV.inv fun hFf3 => ?_
    have f3 := (fx_mt 0 rfl hFf3).1
    obtain ⟨o4, h⟩ := h
    refine e_callV m_M_isInPlace 12 lw_good d_M_lose_44 (k_M_isInPlace _) ⟨Nat.le_of_ble_eq_true rfl, Nat.le_of_ble_eq_true rfl⟩ w_1797 w_1799 w_s69 (q_M _) rfl f3 (args := [(0, x3)]) rfl rfl (Nat.le_of_ble_eq_true rfl) (kc' := kc) (ks' := ks) (mc := 0) (ms := 0) rfl rfl (c_M_isInPlace o4) (pureK ?_)
    refine e_if_eq (tgt := 80) d_M_lose_47 (by decide) (fun q5 => ?_) (fun q6 => ?_)
    · replace q5 := gb0.mp q5
      exact kJ16 (Or.inl ⟨q2, q5⟩)
    · replace q6 := gb1.mp q6
      have h := h q6
      refine e_aload_n d_M_lose_50 rfl ?_
      refine gx_M_85 d_M_lose_51 rfl ?_
      refine e_aload_n d_M_lose_54 rfl ?_
      refine gx_M_45 d_M_lose_55 rfl ?_
      refine e_iload_n d_M_lose_58 rfl ?_
      refine xM_iald 11 rfl d_M_lose_59 o4 ?_
      refine e_sipush d_M_lose_60 (by decide) (by decide) ?_
      obtain ⟨o7, h⟩ := h
      refine e_isub d_M_lose_63 o7 ?_
      obtain ⟨o8, h⟩ := h
      refine xM_iald 24 rfl d_M_lose_64 o8 ?_
      refine e_iload_n d_M_lose_65 rfl ?_
      refine e_icmp_ne (tgt := 80) d_M_lose_66 (by decide) (fun q9 => ?_) (fun q10 => ?_)
      · exact kJ16 (Or.inr ⟨q2, q6, q9⟩)
      · have h := h q10
        refine e_aload_n d_M_lose_69 rfl ?_
        refine e_iload_n d_M_lose_70 rfl ?_
        refine e_sipush d_M_lose_71 (by decide) (by decide) ?_
        refine EV.inv fun hFf11 => ?_
        have f11 := (fx_mt 0 rfl hFf11).1
        refine e_callV m_M_goes 12 lw_good d_M_lose_74 (k_M_goes _) ⟨Nat.le_of_ble_eq_true rfl, Nat.le_of_ble_eq_true rfl⟩ w_1732 w_1734 w_s64 (q_M _) rfl f11 (args := [(0, x3), (0, 500)]) rfl rfl (Nat.le_of_ble_eq_true rfl) (kc' := kc) (ks' := ks) (mc := 0) (ms := 0) rfl rfl h ?_
        intro v12 G13 h
        obtain ⟨o14, h⟩ := h
        refine e_iinc (ls' := [(2, (m + 0)), (0, p1), (0, (x2 + 1)), (0, x3)]) d_M_lose_77 rfl (by decide) o14 rfl ?_
        obtain ⟨o15, h⟩ := h
        refine e_iinc (ls' := [(2, (m + 0)), (0, p1), (0, (x2 + 1)), (0, (x3 + 1))]) d_M_lose_80 rfl (by decide) o15 rfl ?_
        refine e_goto (tgt := 34) d_M_lose_83 (by decide) ?_
        exact e_forget (ls' := [(2, (m + 0)), (0, p1), (0, (x2 + 1)), (0, (x3 + 1))]) ⟨Or.inr rfl, Or.inr rfl, Or.inr rfl, Or.inr rfl, trivial⟩ h
def zTime (A : zA) : Int := if A 788 0 = 2 then 1000 + A 791 0 else A 789 0
def zGo (A : zA) (t w : Int) : zA := zU (zU (zU (zU (zU (zU A 35 (A 794 0) t) 36 (A 794 0) (zTime A)) 37 (A 794 0) (A 11 t)) 794 0 (A 794 0 + 1)) 38 (A 794 0) w) 11 t w
theorem c_M_goes {e : gE} {b : Nat} {m : Int} {G : gH} {p1 p2 : Int} (hs : 0 ≤ zM m G 794 0 ∧ zM m G 794 0 < 12000) (hw : 0 ≤ zM m G 791 0 ∧ zM m G 791 0 ≤ 1000) (ht : 0 ≤ p1 ∧ p1 < 16) : GX e b m m_M_goes [(2, (m + 0)), (0, p1), (0, p2)] G 0 0 (zQ m G (0, zGo (zM m G) p1 p2)) := by
  refine GM.ofEV (by decide) (Nat.le_of_ble_eq_true rfl) (sg_M_goes_0 ⟨hs, ?_⟩)
  rintro _ rfl
  unfold zGo zTime
  refine ⟨fun q => ?_, fun q => ⟨by omega, ?_⟩⟩
  · rintro _ rfl
    refine ⟨ht, ?_⟩
    rintro _ rfl
    refine ⟨by omega, ?_⟩
    rintro _ rfl _ rfl _ rfl
    rw [if_neg q]
    refine ⟨rfl, ?_, zC_u (zC_u (zC_u (zC_u (zC_u (zC_u zC_r (by decide)) (by decide)) (by decide)) (by decide)) (by decide)) (by decide)⟩
    have e1 : zM m (gU (gU G 1 (m + 35) (zM m G 794 0) p1) 1 (m + 36) (zM m G 794 0) (zM m G 789 0)) 11 p1 = zM m G 11 p1 := by rw [zM_u36, zM_u35, zU_k (by decide), zU_k (by decide)]
    rw [e1, zM_u11, zM_u38, zM_u794, zM_u37, zM_u36, zM_u35]
  · rintro _ rfl
    refine ⟨ht, ?_⟩
    rintro _ rfl
    refine ⟨by omega, ?_⟩
    rintro _ rfl _ rfl _ rfl
    rw [if_pos q]
    refine ⟨rfl, ?_, zC_u (zC_u (zC_u (zC_u (zC_u (zC_u zC_r (by decide)) (by decide)) (by decide)) (by decide)) (by decide)) (by decide)⟩
    have e1 : zM m (gU (gU G 1 (m + 35) (zM m G 794 0) p1) 1 (m + 36) (zM m G 794 0) (1000 + zM m G 791 0)) 11 p1 = zM m G 11 p1 := by rw [zM_u36, zM_u35, zU_k (by decide), zU_k (by decide)]
    rw [e1, zM_u11, zM_u38, zM_u794, zM_u37, zM_u36, zM_u35]
def zfFound (A : zA) (t : Int) : Int × zA := if ¬ zTh A t then zNo A (-1) else if A 788 0 ≠ 2 ∨ A 11 t ≠ 500 then zNo A (-6) else (1, zGo A t 300)
theorem c_M_found {e : gE} {b : Nat} {m : Int} {G : gH} {p1 : Int} (h : zB 512 (zM m G)) : GX e b m m_M_found [(2, (m + 0)), (0, p1)] G 0 0 (zQ m G (zfFound (zM m G) p1)) := by
  have b0 : 0 ≤ zM m G 785 0 ∧ zM m G 785 0 ≤ 16 := h 785 0
  have b1 : 0 ≤ zM m G 794 0 ∧ zM m G 794 0 ≤ 16 * 512 + 32 := h 794 0
  refine GM.ofEV (by decide) (Nat.le_of_ble_eq_true rfl) (sg_M_found_0 ?_)
  unfold zfFound
  refine ⟨⟨fun q1 q2 => ⟨by omega, fun q3 => ?_⟩, fun q1 => ?_⟩, fun q => ?_⟩
  · rw [if_neg (fun z => z q1), if_neg (by omega)]
    exact GM.mono (c_M_goes (by omega) (h 791 0) (by omega)) (fun v G1 h1 => ⟨rfl, h1.2⟩)
  · rw [if_pos q1]; exact c_M_no h (by decide)
  · rw [if_neg (by omega), if_pos (by omega)]; exact c_M_no h (by decide)
def zfGiveBack (A : zA) (t y : Int) : Int × zA := if ¬ zTh A t then zNo A (-1) else if A 788 0 ≠ 2 ∨ (A 11 t ≠ 300 ∧ ¬ zAt A t) ∨ zfHolder A t y = -1 ∨ zfHolder A t y = 100 then zNo A (-6) else (zfHolder A t y, zGo A t (600 + zfHolder A t y))
theorem zHold_b {A : zA} {t y n : Int} (hw : ∀ i, 0 ≤ A 32 i ∧ A 32 i ≤ 9) (hn : 0 ≤ n) : -1 ≤ zHold A t y n ∧ zHold A t y n ≤ 100 := by
  refine zloopI (I := fun i => -1 ≤ zHold A t y i ∧ zHold A t y i ≤ 100) (P := fun _ => -1 ≤ zHold A t y n ∧ zHold A t y n ≤ 100) n hn (show -1 ≤ (-1 : Int) ∧ (-1 : Int) ≤ 100 by decide) ?_ (fun q => q) (fun j h1 h2 hi q => q)
  intro j h1 h2 hi
  have := hw (6 * t + j)
  rw [zHold_s (by omega)]
  (repeat' split) <;> omega
theorem zfHolder_b {A : zA} {t y : Int} (h : zB 512 A) : -1 ≤ zfHolder A t y ∧ zfHolder A t y ≤ 100 := by
  unfold zfHolder
  split
  · exact zHold_b (fun i => h 32 i) (show 0 ≤ A 13 t ∧ A 13 t ≤ 6 from h 13 t).1
  · decide
theorem c_M_giveBack {e : gE} {b : Nat} {m : Int} {G : gH} {p1 p2 : Int} (h : zB 512 (zM m G)) : GX e b m m_M_giveBack [(2, (m + 0)), (0, p1), (0, p2)] G 0 0 (zQ m G (zfGiveBack (zM m G) p1 p2)) := by
  have b0 : 0 ≤ zM m G 785 0 ∧ zM m G 785 0 ≤ 16 := h 785 0
  have b1 : 0 ≤ zM m G 794 0 ∧ zM m G 794 0 ≤ 16 * 512 + 32 := h 794 0
  have b2 := zfHolder_b (t := p1) (y := p2) h
  refine GM.ofEV (by decide) (Nat.le_of_ble_eq_true rfl) (sg_M_giveBack_0 ?_)
  unfold zfGiveBack
  refine ⟨⟨fun q1 => ⟨h, fun q2 => by omega⟩, fun q1 => ?_⟩, fun q q2 q3 => ⟨by omega, ?_⟩, fun q => ?_⟩
  · rw [if_pos q1]; exact c_M_no h (by decide)
  · rw [if_neg (by omega), if_neg (by omega)]
    exact GM.mono (c_M_goes (by omega) (h 791 0) (by omega)) (fun v G1 h1 => ⟨rfl, h1.2⟩)
  · rw [if_neg (by omega), if_pos (by omega)]; exact c_M_no h (by decide)
def zfMove (A : zA) (t p : Int) : Int × zA := if ¬ zTh A t ∨ ¬ (0 ≤ p ∧ p < A 787 0) then zNo A (-1) else if A 788 0 ≠ 2 ∨ (A 11 t ≠ 300 ∧ ¬ zAt A t) ∨ A 11 t = 400 + p ∨ zUsed A p + A 9 t > A 23 p then zNo A (-6) else if zPrice A t p > A 792 0 then zNo A (-7) else (A 792 0 - zPrice A t p, zGo (zU A 792 0 (A 792 0 - zPrice A t p)) t (400 + p))
/-- things in a place are in one that there is -/
abbrev zPl (A : zA) : Prop := ∀ t, zAt A t → A 11 t - 400 < A 787 0
theorem zPrice_b {A : zA} {t p : Int} (h : zB 512 A) : 0 ≤ zPrice A t p ∧ zPrice A t p ≤ 4 * 18 := by
  have b1 : 0 ≤ A 9 t ∧ A 9 t ≤ 4 := h 9 t
  have b2 : 0 ≤ A 25 p ∧ A 25 p ≤ 9 := h 25 p
  have b3 : 0 ≤ A 25 (A 11 t - 400) ∧ A 25 (A 11 t - 400) ≤ 9 := h 25 _
  unfold zPrice
  exact zmul_b b1 (by split <;> omega)
theorem c_M_move {e : gE} {b : Nat} {m : Int} {G : gH} {p1 p2 : Int} (h : zB 512 (zM m G)) (hP : zPl (zM m G)) : GX e b m m_M_move [(2, (m + 0)), (0, p1), (0, p2)] G 0 0 (zQ m G (zfMove (zM m G) p1 p2)) := by
  have b0 : 0 ≤ zM m G 785 0 ∧ zM m G 785 0 ≤ 16 := h 785 0
  have b1 : 0 ≤ zM m G 794 0 ∧ zM m G 794 0 ≤ 16 * 512 + 32 := h 794 0
  have b2 : 0 ≤ zM m G 787 0 ∧ zM m G 787 0 ≤ 5 := h 787 0
  have b3 : 0 ≤ zM m G 792 0 ∧ zM m G 792 0 ≤ 1000000 := h 792 0
  have b4 : 0 ≤ zM m G 9 p1 ∧ zM m G 9 p1 ≤ 4 := h 9 p1
  have b5 : 0 ≤ zUsed (zM m G) p2 ∧ zUsed (zM m G) p2 ≤ 4 * zM m G 785 0 := zUsed_b b0.1 (fun t => h 9 t)
  have b6 := zPrice_b (t := p1) (p := p2) h
  have b7 : 0 ≤ zM m G 791 0 ∧ zM m G 791 0 ≤ 1000 := h 791 0
  refine GM.ofEV (by decide) (Nat.le_of_ble_eq_true rfl) (sg_M_move_0 ?_)
  unfold zfMove
  refine ⟨fun q1 q2 q3 => by omega, fun q => ?_, fun q => ⟨by omega, by omega, fun q1 => ⟨⟨b0, fun t => h 9 t⟩, by omega, by omega, fun q2 => ⟨h, fun z => by have := hP _ z; omega, fun q3 => ⟨by omega, ?_⟩, fun q3 => ?_⟩⟩⟩, fun q => ?_⟩
  · rw [if_pos (by omega)]; exact c_M_no h (by decide)
  · rintro _ rfl
    rw [if_neg (by omega), if_neg (by omega), if_neg (by omega)]
    have e1 : zM m (gU G 792 (m + 0) 0 (zM m G 792 0 - zPrice (zM m G) p1 p2)) = zU (zM m G) 792 0 (zM m G 792 0 - zPrice (zM m G) p1 p2) := zM_u792
    refine GM.mono (c_M_goes ?_ ?_ (by omega)) (fun v G1 h1 => ?_)
    · rw [e1, zU_k (by decide)]; omega
    · rw [e1, zU_k (by decide)]; omega
    · obtain ⟨-, h2, h3⟩ := h1
      rw [e1] at h2
      refine ⟨?_, h2, zC_t (zC_u zC_r (by decide)) h3⟩
      refine (congrFun (congrFun h2 792) 0).trans ?_
      show zGo (zU (zM m G) 792 0 (zM m G 792 0 - zPrice (zM m G) p1 p2)) p1 (400 + p2) 792 0 = _
      unfold zGo
      rw [zU_k (by decide), zU_k (by decide), zU_k (by decide), zU_k (by decide), zU_k (by decide), zU_k (by decide), zU_eq]
  · rw [if_neg (by omega), if_neg (by omega), if_pos (by omega)]; exact c_M_no h (by decide)
  · rw [if_neg (by omega), if_pos (by omega)]; exact c_M_no h (by decide)
