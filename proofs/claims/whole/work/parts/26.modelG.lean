/-! THE REFERENCE, 7: air, seals, going -/
def zfAir (A : zA) (p s : Int) : Int × zA := if ¬ (0 ≤ p ∧ p < A 787 0) ∨ ¬ zSh s then zNo A (-1) else if A 18 s = 2 then zNo A (-2) else if A 18 s = 0 then zNo A (-3) else (A 20 s, zV (zU (zU A 26 p (A 20 s)) 27 p (A 19 s)) 28 (60 * p) (60 * p + A 20 s) (fun x => A 22 (x - 60 * p + 60 * s)))
theorem l_M_air {e : gE} {b : Nat} {m : Int} {Z : Int → gH → Prop} {kc ks : Nat} {G0 G : gH} {p1 p2 : Int} (A : zA) (hs : zSh p2) (hp : 0 ≤ p1 ∧ p1 < 5) (hz : 0 ≤ A 20 p2 ∧ A 20 p2 ≤ 60) (hA : zM m G = A) (hC : zC m G0 G) (hZ : ∀ G1, zM m G1 = zV A 28 (60 * p1) (60 * p1 + A 20 p2) (fun x => A 22 (x - 60 * p1 + 60 * p2)) → zC m G0 G1 → Z (A 20 p2) G1) : EX e b m m_M_air Z kc ks 80 [(2, (m + 0)), (0, p1), (0, p2), (0, 0)] [] G := by
  refine zloop (P := fun i => ∀ G1, zM m G1 = zV A 28 (60 * p1) (60 * p1 + i) (fun x => A 22 (x - 60 * p1 + 60 * p2)) → zC m G0 G1 → EX e b m m_M_air Z kc ks 80 [(2, (m + 0)), (0, p1), (0, p2), (0, i)] [] G1) (i := 0) (A 20 p2) hz.1 ?_ ?_ G ?_ hC
  · intro G1 h1 h2
    have e1 : zM m G1 20 p2 = A 20 p2 := by rw [h1, zV_k (by decide)]
    refine sg_M_air_80 ⟨hs, fun _ => ?_, fun q => absurd q (by omega)⟩
    rw [e1]; exact hZ G1 h1 h2
  · intro j j1 j2 ih G1 h1 h2
    have e1 : zM m G1 20 p2 = A 20 p2 := by rw [h1, zV_k (by decide)]
    refine sg_M_air_80 ⟨hs, fun q => absurd q (by omega), fun _ => ⟨by omega, by omega, by omega, by omega, by omega, by omega, ?_⟩⟩
    rintro _ rfl
    refine ⟨by omega, ih _ ?_ (zC_u h2 (by decide))⟩
    rw [zM_u28, h1, zV_s (by omega), show 60 * p1 + j + 1 = 60 * p1 + (j + 1) from by omega]
    rw [zV_k (by decide)]
    show _ = A 22 (60 * p1 + j - 60 * p1 + 60 * p2)
    rw [show 60 * p1 + j - 60 * p1 + 60 * p2 = 60 * p2 + j from by omega]
  · rw [hA, show 60 * p1 + 0 = 60 * p1 from by omega, zV_0]
theorem c_M_air {e : gE} {b : Nat} {m : Int} {G : gH} {p1 p2 : Int} (h : zB 512 (zM m G)) : GX e b m m_M_air [(2, (m + 0)), (0, p1), (0, p2)] G 0 0 (zQ m G (zfAir (zM m G) p1 p2)) := by
  have b0 : 0 ≤ zM m G 787 0 ∧ zM m G 787 0 ≤ 5 := h 787 0
  have s2 : 0 ≤ zM m G 20 p2 ∧ zM m G 20 p2 ≤ 60 := h 20 p2
  refine GM.ofEV (by decide) (Nat.le_of_ble_eq_true rfl) (sg_M_air_0 ?_)
  unfold zfAir
  refine ⟨fun q1 q2 => ⟨q2, fun q3 => ⟨fun q4 => ⟨by omega, ?_⟩, fun q4 => ?_⟩, fun q3 => ?_⟩, fun q => ?_⟩
  · rintro _ rfl _ rfl
    rw [if_neg (by omega), if_neg q3, if_neg q4]
    have e1 : zM m (gU G 1 (m + 26) p1 (zM m G 20 p2)) 19 p2 = zM m G 19 p2 := by rw [zM_u26, zU_k (by decide)]
    rw [e1]
    refine l_M_air (G0 := G) (zU (zU (zM m G) 26 p1 (zM m G 20 p2)) 27 p1 (zM m G 19 p2)) q2 (by omega) ?_ ?_ (zC_u (zC_u zC_r (by decide)) (by decide)) (fun G1 h1 h2 => ⟨?_, ?_, h2⟩)
    · rw [zU_k (by decide), zU_k (by decide)]; exact s2
    · rw [zM_u27, zM_u26]
    · rw [zU_k (by decide), zU_k (by decide)]
    · rw [h1]
      simp only [zU_k (show (20 : Nat) ≠ 27 by decide), zU_k (show (20 : Nat) ≠ 26 by decide), zU_k (show (22 : Nat) ≠ 27 by decide), zU_k (show (22 : Nat) ≠ 26 by decide)]
  · rw [if_neg (by omega), if_neg q3, if_pos q4]; exact c_M_no h (by decide)
  · rw [if_neg (by omega), if_pos q3]; exact c_M_no h (by decide)
  · rw [if_pos (by omega)]; exact c_M_no h (by decide)
set_option maxRecDepth 20000 in
set_option maxHeartbeats 4000000 in
theorem sg_M_goes_0 {e : gE} {b : Nat} {m : Int} {Z : Int → gH → Prop} {kc ks : Nat} {G : gH} {p1 p2 : Int} (h : (0 ≤ (zM m G 794 0) ∧ (zM m G 794 0) < 12000) ∧ (∀ G2 : gH, G2 = gU G 1 (m + 35) (zM m G 794 0) p1 → ((zM m G 788 0) ≠ 2 → ∀ G6 : gH, G6 = gU G2 1 (m + 36) (zM m G 794 0) (zM m G 789 0) → (0 ≤ p1 ∧ p1 < 16) ∧ (∀ G8 : gH, G8 = gU G6 1 (m + 37) (zM m G 794 0) (zM m G6 11 p1) → (inI ((zM m G 794 0) + 1)) ∧ (∀ G10 : gH, G10 = gU G8 794 (m + 0) 0 ((zM m G 794 0) + 1) → ∀ G11 : gH, G11 = gU G10 1 (m + 38) (zM m G 794 0) p2 → ∀ G12 : gH, G12 = gU G11 1 (m + 11) p1 p2 → Z 0 G12))) ∧ ((zM m G 788 0) = 2 → (inI (1000 + (zM m G 791 0))) ∧ (∀ G13 : gH, G13 = gU G2 1 (m + 36) (zM m G 794 0) (1000 + (zM m G 791 0)) → (0 ≤ p1 ∧ p1 < 16) ∧ (∀ G15 : gH, G15 = gU G13 1 (m + 37) (zM m G 794 0) (zM m G13 11 p1) → (inI ((zM m G 794 0) + 1)) ∧ (∀ G17 : gH, G17 = gU G15 794 (m + 0) 0 ((zM m G 794 0) + 1) → ∀ G18 : gH, G18 = gU G17 1 (m + 38) (zM m G 794 0) p2 → ∀ G19 : gH, G19 = gU G18 1 (m + 11) p1 p2 → Z 0 G19)))))) : EX e b m m_M_goes Z kc ks 0 [(2, (m + 0)), (0, p1), (0, p2)] [] G := by
  refine e_aload_n d_M_goes_0 rfl ?_
  refine gx_M_118 d_M_goes_1 rfl ?_
  refine e_aload_n d_M_goes_4 rfl ?_
  refine gx_M_256 d_M_goes_5 rfl ?_
  refine e_iload_n d_M_goes_8 rfl ?_
  obtain ⟨o1, h⟩ := h
  refine xM_iast 35 rfl d_M_goes_9 o1 ?_
  have h := h _ rfl
  refine e_aload_n d_M_goes_10 rfl ?_
  refine gx_M_121 d_M_goes_11 rfl ?_
  refine e_aload_n d_M_goes_14 rfl ?_
  refine gx_M_256 d_M_goes_15 rfl ?_
  refine e_aload_n d_M_goes_18 rfl ?_
  refine gx_M_165 d_M_goes_19 rfl ?_
  refine e_iconst d_M_goes_22 (by decide) ?_
  refine e_icmp_ne (tgt := 37) d_M_goes_23 (by decide) (fun q3 => ?_) (fun q4 => ?_)
  · have h := h.1 q3
    refine e_aload_n d_M_goes_37 rfl ?_
    refine gx_M_197 d_M_goes_38 rfl ?_
    refine xM_iast 36 rfl d_M_goes_41 o1 ?_
    have h := h _ rfl
    refine e_aload_n d_M_goes_42 rfl ?_
    refine gx_M_124 d_M_goes_43 rfl ?_
    refine e_aload_n d_M_goes_46 rfl ?_
    refine gx_M_256 d_M_goes_47 rfl ?_
    refine e_aload_n d_M_goes_50 rfl ?_
    refine gx_M_45 d_M_goes_51 rfl ?_
    refine e_iload_n d_M_goes_54 rfl ?_
    obtain ⟨o7, h⟩ := h
    refine xM_iald 11 rfl d_M_goes_55 o7 ?_
    refine xM_iast 37 rfl d_M_goes_56 o1 ?_
    have h := h _ rfl
    refine e_aload_n d_M_goes_57 rfl ?_
    refine gx_M_127 d_M_goes_58 rfl ?_
    refine e_aload_n d_M_goes_61 rfl ?_
    refine e_dup d_M_goes_62 (by simp) ?_
    refine gx_M_256 d_M_goes_63 rfl ?_
    refine e_dup_x1 d_M_goes_66 (by simp) (by simp) ?_
    refine e_iconst d_M_goes_67 (by decide) ?_
    obtain ⟨o9, h⟩ := h
    refine e_iadd d_M_goes_68 o9 ?_
    refine px_M_256 d_M_goes_69 rfl ?_
    have h := h _ rfl
    refine e_iload_n d_M_goes_72 rfl ?_
    refine xM_iast 38 rfl d_M_goes_73 o1 ?_
    have h := h _ rfl
    refine e_aload_n d_M_goes_74 rfl ?_
    refine gx_M_45 d_M_goes_75 rfl ?_
    refine e_iload_n d_M_goes_78 rfl ?_
    refine e_iload_n d_M_goes_79 rfl ?_
    refine xM_iast 11 rfl d_M_goes_80 o7 ?_
    have h := h _ rfl
    exact e_vret d_M_goes_81 rfl h
  · have h := h.2 q4
    refine e_sipush d_M_goes_26 (by decide) (by decide) ?_
    refine e_aload_n d_M_goes_29 rfl ?_
    refine gx_M_259 d_M_goes_30 rfl ?_
    obtain ⟨o5, h⟩ := h
    refine e_iadd d_M_goes_33 o5 ?_
    refine e_goto (tgt := 41) d_M_goes_34 (by decide) ?_
    refine xM_iast 36 rfl d_M_goes_41 o1 ?_
    have h := h _ rfl
    refine e_aload_n d_M_goes_42 rfl ?_
    refine gx_M_124 d_M_goes_43 rfl ?_
    refine e_aload_n d_M_goes_46 rfl ?_
    refine gx_M_256 d_M_goes_47 rfl ?_
    refine e_aload_n d_M_goes_50 rfl ?_
    refine gx_M_45 d_M_goes_51 rfl ?_
    refine e_iload_n d_M_goes_54 rfl ?_
    obtain ⟨o14, h⟩ := h
    refine xM_iald 11 rfl d_M_goes_55 o14 ?_
    refine xM_iast 37 rfl d_M_goes_56 o1 ?_
    have h := h _ rfl
    refine e_aload_n d_M_goes_57 rfl ?_
    refine gx_M_127 d_M_goes_58 rfl ?_
    refine e_aload_n d_M_goes_61 rfl ?_
    refine e_dup d_M_goes_62 (by simp) ?_
    refine gx_M_256 d_M_goes_63 rfl ?_
    refine e_dup_x1 d_M_goes_66 (by simp) (by simp) ?_
    refine e_iconst d_M_goes_67 (by decide) ?_
    obtain ⟨o16, h⟩ := h
    refine e_iadd d_M_goes_68 o16 ?_
    refine px_M_256 d_M_goes_69 rfl ?_
    have h := h _ rfl
    refine e_iload_n d_M_goes_72 rfl ?_
    refine xM_iast 38 rfl d_M_goes_73 o1 ?_
    have h := h _ rfl
    refine e_aload_n d_M_goes_74 rfl ?_
    refine gx_M_45 d_M_goes_75 rfl ?_
    refine e_iload_n d_M_goes_78 rfl ?_
    refine e_iload_n d_M_goes_79 rfl ?_
    refine xM_iast 11 rfl d_M_goes_80 o14 ?_
    have h := h _ rfl
    exact e_vret d_M_goes_81 rfl h
