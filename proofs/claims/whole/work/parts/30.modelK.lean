/-! THE REFERENCE, 11: labels, on -/
theorem zQ_t {m : Int} {G G1 G2 : gH} {r : Int × zA} {v : Int} (h : zC m G G1) (q : zQ m G1 r v G2) : zQ m G r v G2 := ⟨q.1, q.2.1, zC_t h q.2.2⟩
theorem c_M_number {e : gE} {b : Nat} {m : Int} {G : gH} {p1 p2 p3 p4 : Int} (h : zB 512 (zM m G)) (hs : zSh p1) (hp : 0 ≤ G 841 (m + 0) 0 ∧ G 841 (m + 0) 0 ≤ 60) (hh : 0 ≤ p4 ∧ p4 ≤ 100) : GX e b m m_M_number [(2, (m + 0)), (0, p1), (0, p2), (0, p3), (0, p4)] G 0 0 (fun v G1 => zM m G1 = zM m G ∧ zC m G G1 ∧ v = (zNum (zM m G) p1 p2 p3 p4 (G 841 (m + 0) 0)).1 ∧ G1 841 (m + 0) 0 = (zNum (zM m G) p1 p2 p3 p4 (G 841 (m + 0) 0)).2) := by
  have hn : 0 ≤ zM m G 20 p1 ∧ zM m G 20 p1 ≤ 60 := h 20 p1
  refine GM.ofEV (by decide) (Nat.le_of_ble_eq_true rfl) (sg_M_number_0 ?_)
  unfold zNum
  refine ⟨⟨hs, fun q => ⟨⟨hs, hn.2⟩, hp.1, fun q2 => ⟨by omega, ?_⟩⟩⟩, fun q => ?_⟩
  · rintro _ rfl
    rw [if_pos ⟨by omega, q2⟩]
    exact l_M_number (zM m G) hs hn hh 3 _ 0 0 _ (by decide) (Or.inl ⟨rfl, rfl⟩) (by omega) (by omega) gU_eq zM_pl (zC_u zC_r (by decide)) (fun G1 a1 a2 a3 => ⟨a1, a2, rfl, a3⟩)
  · rw [if_neg (by omega)]
    exact ⟨rfl, zC_r, rfl, rfl⟩
theorem zDig_b {L : Int → Int} {n lo hi : Int} (hl : lo ≤ 1) (f : Nat) : ∀ p v d : Int, 0 ≤ d → p ≤ n → ((d = 0 ∧ v = 0) ∨ (0 < d ∧ 0 ≤ v ∧ lo ≤ v ∧ v ≤ hi)) → (p ≤ (zDig L n lo hi f p v d).2 ∧ (zDig L n lo hi f p v d).2 ≤ n) ∧ ((zDig L n lo hi f p v d).1 = -1 ∨ (lo ≤ (zDig L n lo hi f p v d).1 ∧ 0 ≤ (zDig L n lo hi f p v d).1 ∧ (zDig L n lo hi f p v d).1 ≤ hi)) := by
  have out : ∀ p v d : Int, p ≤ n → ((d = 0 ∧ v = 0) ∨ (0 < d ∧ 0 ≤ v ∧ lo ≤ v ∧ v ≤ hi)) → (p ≤ ((if d = 0 then -1 else v, p) : Int × Int).2 ∧ ((if d = 0 then -1 else v, p) : Int × Int).2 ≤ n) ∧ (((if d = 0 then -1 else v, p) : Int × Int).1 = -1 ∨ (lo ≤ ((if d = 0 then -1 else v, p) : Int × Int).1 ∧ 0 ≤ ((if d = 0 then -1 else v, p) : Int × Int).1 ∧ ((if d = 0 then -1 else v, p) : Int × Int).1 ≤ hi)) := by
    intro p v d h1 h2
    refine ⟨⟨Int.le_refl _, h1⟩, ?_⟩
    show (if d = 0 then -1 else v) = -1 ∨ (lo ≤ (if d = 0 then -1 else v) ∧ 0 ≤ (if d = 0 then -1 else v) ∧ (if d = 0 then -1 else v) ≤ hi)
    split <;> omega
  induction f with
  | zero => intro p v d _ h1 h2; exact out p v d h1 h2
  | succ f ih =>
    intro p v d h0 h1 h2
    simp only [zDig]
    split
    · rename_i q
      have := ih (p + 1) (10 * v + L p - 48) (d + 1) (by omega) (by omega) (Or.inr (by omega))
      exact ⟨⟨by omega, this.1.2⟩, this.2⟩
    · exact out p v d h1 h2
theorem zNum_b {A : zA} {s sg lo hi p : Int} (hl : lo ≤ 1) (hn : A 20 s ≤ 60) (hp : 0 ≤ p ∧ p ≤ 60) : (0 ≤ (zNum A s sg lo hi p).2 ∧ (zNum A s sg lo hi p).2 ≤ 60) ∧ ((zNum A s sg lo hi p).1 = -1 ∨ (lo ≤ (zNum A s sg lo hi p).1 ∧ 0 ≤ (zNum A s sg lo hi p).1 ∧ (zNum A s sg lo hi p).1 ≤ hi)) := by
  unfold zNum
  split
  · have := zDig_b (L := zLet A s) (n := A 20 s) (hi := hi) hl 3 (p + 1) 0 0 (by decide) (by omega) (Or.inl ⟨rfl, rfl⟩)
    exact ⟨by omega, this.2⟩
  · exact ⟨hp, Or.inl rfl⟩
def zNm (A : zA) (s sg lo hi : Int) (q : Int × Int) : Int × Int := if q.1 = -1 then q else zNum A s sg lo hi q.2
theorem zNm_b {A : zA} {s sg lo hi : Int} {q : Int × Int} (hl : lo ≤ 1) (hn : A 20 s ≤ 60) (hp : 0 ≤ q.2 ∧ q.2 ≤ 60) : (0 ≤ (zNm A s sg lo hi q).2 ∧ (zNm A s sg lo hi q).2 ≤ 60) ∧ ((zNm A s sg lo hi q).1 = -1 ∨ (q.1 ≠ -1 ∧ lo ≤ (zNm A s sg lo hi q).1 ∧ 0 ≤ (zNm A s sg lo hi q).1 ∧ (zNm A s sg lo hi q).1 ≤ hi)) := by
  unfold zNm
  split
  · rename_i h; exact ⟨hp, Or.inl h⟩
  · rename_i h
    have := zNum_b (sg := sg) (hi := hi) hl hn hp
    exact ⟨this.1, this.2.imp id (fun z => ⟨h, z⟩)⟩
def zL1 (A : zA) (s : Int) : Int × Int := zNum A s 107 0 3 0
def zL2 (A : zA) (s : Int) : Int × Int := zNm A s 119 1 100 (zL1 A s)
def zL3 (A : zA) (s : Int) : Int × Int := zNm A s 104 1 4 (zL2 A s)
def zL4 (A : zA) (s : Int) : Int × Int := zNm A s 114 1 11 (zL3 A s)
def zL5 (A : zA) (s : Int) : Int × Int := zNm A s 112 0 20 (zL4 A s)
theorem zL_b {A : zA} {s : Int} (hn : A 20 s ≤ 60) : ((0 ≤ (zL1 A s).2 ∧ (zL1 A s).2 ≤ 60) ∧ (0 ≤ (zL2 A s).2 ∧ (zL2 A s).2 ≤ 60) ∧ (0 ≤ (zL3 A s).2 ∧ (zL3 A s).2 ≤ 60) ∧ (0 ≤ (zL4 A s).2 ∧ (zL4 A s).2 ≤ 60) ∧ (0 ≤ (zL5 A s).2 ∧ (zL5 A s).2 ≤ 60)) ∧ ((zL5 A s).1 = -1 ∨ ((0 ≤ (zL1 A s).1 ∧ (zL1 A s).1 ≤ 3) ∧ (1 ≤ (zL2 A s).1 ∧ (zL2 A s).1 ≤ 100) ∧ (1 ≤ (zL3 A s).1 ∧ (zL3 A s).1 ≤ 4) ∧ (1 ≤ (zL4 A s).1 ∧ (zL4 A s).1 ≤ 11) ∧ (0 ≤ (zL5 A s).1 ∧ (zL5 A s).1 ≤ 20))) := by
  have h1 := zNum_b (sg := 107) (lo := 0) (hi := 3) (p := 0) (by decide) hn (by decide)
  have h2 := zNm_b (sg := 119) (lo := 1) (hi := 100) (q := zL1 A s) (by decide) hn h1.1
  have h3 := zNm_b (sg := 104) (lo := 1) (hi := 4) (q := zL2 A s) (by decide) hn h2.1
  have h4 := zNm_b (sg := 114) (lo := 1) (hi := 11) (q := zL3 A s) (by decide) hn h3.1
  have h5 := zNm_b (sg := 112) (lo := 0) (hi := 20) (q := zL4 A s) (by decide) hn h4.1
  refine ⟨⟨h1.1, h2.1, h3.1, h4.1, h5.1⟩, ?_⟩
  have e1 : zL1 A s = zNum A s 107 0 3 0 := rfl
  have e2 : zL2 A s = zNm A s 119 1 100 (zL1 A s) := rfl
  have e3 : zL3 A s = zNm A s 104 1 4 (zL2 A s) := rfl
  have e4 : zL4 A s = zNm A s 114 1 11 (zL3 A s) := rfl
  have e5 : zL5 A s = zNm A s 112 0 20 (zL4 A s) := rfl
  rw [← e1] at h1
  rw [← e2] at h2
  rw [← e3] at h3
  rw [← e4] at h4
  rw [← e5] at h5
  omega
def zLF (A : zA) (s : Int) : Int := if (zL5 A s).1 = -1 ∨ (zL5 A s).2 < A 20 s then (zL5 A s).2 else -1
def zfLabel (A : zA) (s : Int) : Int × zA := if zSh s then (if A 18 s = 2 then zNo A (-2) else if A 18 s = 0 then zNo A (-3) else if zLF A s ≠ -1 ∨ A 788 0 ≠ 0 then zNo (zU A 793 0 (zLF A s)) (-6) else if A 785 0 = 16 then zNo (zU A 793 0 (zLF A s)) (-7) else (A 785 0, zPuts (zU A 793 0 (zLF A s)) (zL1 A s).1 (zL2 A s).1 (zL3 A s).1 (zL4 A s).1 (zL5 A s).1)) else zNo A (-1)
set_option maxRecDepth 20000 in
set_option maxHeartbeats 4000000 in
theorem sg_M_label_0 {e : gE} {b : Nat} {m : Int} {Z : Int → gH → Prop} {kc ks : Nat} {G : gH} {p1 : Int} (h : ((0 ≤ p1 ∧ p1 < 8) → (0 ≤ p1 ∧ p1 < 8) ∧ (((zM m G 18 p1) ≠ 2 → ((zM m G 18 p1) ≠ 0 → ∀ G8 : gH, G8 = gU G 841 (m + 0) 0 0 → GX e b m m_M_number [(2, (m + 0)), (0, p1), (0, 107), (0, 0), (0, 3)] G8 0 0 (fun v10 G11 => (v10 ≠ (-1) → GX e b m m_M_number [(2, (m + 0)), (0, p1), (0, 119), (0, 1), (0, 100)] G11 0 0 (fun v15 G16 => (v15 ≠ (-1) → GX e b m m_M_number [(2, (m + 0)), (0, p1), (0, 104), (0, 1), (0, 4)] G16 0 0 (fun v20 G21 => (v20 ≠ (-1) → GX e b m m_M_number [(2, (m + 0)), (0, p1), (0, 114), (0, 1), (0, 11)] G21 0 0 (fun v25 G26 => (v25 ≠ (-1) → GX e b m m_M_number [(2, (m + 0)), (0, p1), (0, 112), (0, 0), (0, 20)] G26 0 0 (fun v30 G31 => EX e b m m_M_label Z kc ks 145 [(2, (m + 0)), (0, p1), (0, v10), (0, v15), (0, v20), (0, v25), (0, v30)] [] G31)) ∧ (v25 = (-1) → EX e b m m_M_label Z kc ks 145 [(2, (m + 0)), (0, p1), (0, v10), (0, v15), (0, v20), (0, v25), (0, (-1))] [] G26))) ∧ (v20 = (-1) → EX e b m m_M_label Z kc ks 145 [(2, (m + 0)), (0, p1), (0, v10), (0, v15), (0, v20), (0, (-1)), (0, (-1))] [] G21))) ∧ (v15 = (-1) → EX e b m m_M_label Z kc ks 145 [(2, (m + 0)), (0, p1), (0, v10), (0, v15), (0, (-1)), (0, (-1)), (0, (-1))] [] G16))) ∧ (v10 = (-1) → EX e b m m_M_label Z kc ks 145 [(2, (m + 0)), (0, p1), (0, v10), (0, (-1)), (0, (-1)), (0, (-1)), (0, (-1))] [] G11))) ∧ ((zM m G 18 p1) = 0 → GX e b m m_M_no [(2, (m + 0)), (0, (-3))] G 0 0 (fun v45 G46 => Z v45 G46))) ∧ ((zM m G 18 p1) = 2 → GX e b m m_M_no [(2, (m + 0)), (0, (-2))] G 0 0 (fun v48 G49 => Z v48 G49)))) ∧ ((¬ (0 ≤ p1 ∧ p1 < 8)) → GX e b m m_M_no [(2, (m + 0)), (0, (-1))] G 0 0 (fun v51 G52 => Z v51 G52))) : EX e b m m_M_label Z kc ks 0 [(2, (m + 0)), (0, p1), (9, 0), (9, 0), (9, 0), (9, 0), (9, 0)] [] G := by
  refine e_iload_n d_M_label_0 rfl ?_
  refine e_callS m_M_isShelf lw_good d_M_label_1 (k_M_isShelf _) ⟨Nat.le_of_ble_eq_true rfl, Nat.le_of_ble_eq_true rfl⟩ w_1593 w_1594 (args := [(0, p1)]) rfl rfl (Nat.le_of_ble_eq_true rfl) (kc' := kc) (ks' := ks) (mc := 0) (ms := 0) rfl rfl (c_M_isShelf) (pureK ?_)
  refine e_if_ne (tgt := 13) d_M_label_4 (by decide) (fun q1 => ?_) (fun q2 => ?_)
  · replace q1 := gb1.mp q1
    have h := h.1 q1
    refine e_aload_n d_M_label_13 rfl ?_
    refine gx_M_66 d_M_label_14 rfl ?_
    refine e_iload_n d_M_label_17 rfl ?_
    obtain ⟨o3, h⟩ := h
    refine xM_iald 18 rfl d_M_label_18 o3 ?_
    refine e_iconst d_M_label_19 (by decide) ?_
    refine e_icmp_ne (tgt := 30) d_M_label_20 (by decide) (fun q4 => ?_) (fun q5 => ?_)
    · have h := h.1 q4
      refine e_aload_n d_M_label_30 rfl ?_
      refine gx_M_66 d_M_label_31 rfl ?_
      refine e_iload_n d_M_label_34 rfl ?_
      refine xM_iald 18 rfl d_M_label_35 o3 ?_
      refine e_if_ne (tgt := 46) d_M_label_36 (by decide) (fun q6 => ?_) (fun q7 => ?_)
      · have h := h.1 q6
        refine e_aload_n d_M_label_46 rfl ?_
        refine e_iconst d_M_label_47 (by decide) ?_
        refine px_M_181 d_M_label_48 rfl ?_
        let G8 : gH := gU G 841 (m + 0) 0 0
        have h := h G8 rfl
        refine e_aload_n d_M_label_51 rfl ?_
        refine e_iload_n d_M_label_52 rfl ?_
        refine e_bipush d_M_label_53 (by decide) (by decide) ?_
        refine e_iconst d_M_label_55 (by decide) ?_
        refine e_iconst d_M_label_56 (by decide) ?_
        refine EV.inv fun hFf9 => ?_
        have f9 := (fx_mt 0 rfl hFf9).1
        refine e_callV m_M_number 12 lw_good d_M_label_57 (k_M_number _) ⟨Nat.le_of_ble_eq_true rfl, Nat.le_of_ble_eq_true rfl⟩ w_1596 w_1598 w_s45 (q_M _) rfl f9 (args := [(0, p1), (0, 107), (0, 0), (0, 3)]) rfl rfl (Nat.le_of_ble_eq_true rfl) (kc' := kc) (ks' := ks) (mc := 0) (ms := 0) rfl rfl h ?_
        intro v10 G11 h
        refine e_istore_n (ls' := [(2, (m + 0)), (0, p1), (0, v10), (9, 0), (9, 0), (9, 0), (9, 0)]) d_M_label_60 (by decide) rfl ?_
        refine e_iload_n d_M_label_61 rfl ?_
        refine e_iconst d_M_label_62 (by decide) ?_
        refine e_icmp_ne (tgt := 70) d_M_label_63 (by decide) (fun q12 => ?_) (fun q13 => ?_)
        · have h := h.1 q12
          refine e_aload_n d_M_label_70 rfl ?_
          refine e_iload_n d_M_label_71 rfl ?_
          refine e_bipush d_M_label_72 (by decide) (by decide) ?_
          refine e_iconst d_M_label_74 (by decide) ?_
          refine e_bipush d_M_label_75 (by decide) (by decide) ?_
          refine EV.inv fun hFf14 => ?_
          have f14 := (fx_mt 0 rfl hFf14).1
          refine e_callV m_M_number 12 lw_good d_M_label_77 (k_M_number _) ⟨Nat.le_of_ble_eq_true rfl, Nat.le_of_ble_eq_true rfl⟩ w_1596 w_1598 w_s45 (q_M _) rfl f14 (args := [(0, p1), (0, 119), (0, 1), (0, 100)]) rfl rfl (Nat.le_of_ble_eq_true rfl) (kc' := kc) (ks' := ks) (mc := 0) (ms := 0) rfl rfl h ?_
          intro v15 G16 h
          refine e_istore_n (ls' := [(2, (m + 0)), (0, p1), (0, v10), (0, v15), (9, 0), (9, 0), (9, 0)]) d_M_label_80 (by decide) rfl ?_
          refine e_iload_n d_M_label_81 rfl ?_
          refine e_iconst d_M_label_82 (by decide) ?_
          refine e_icmp_ne (tgt := 90) d_M_label_83 (by decide) (fun q17 => ?_) (fun q18 => ?_)
          · have h := h.1 q17
            refine e_aload_n d_M_label_90 rfl ?_
            refine e_iload_n d_M_label_91 rfl ?_
            refine e_bipush d_M_label_92 (by decide) (by decide) ?_
            refine e_iconst d_M_label_94 (by decide) ?_
            refine e_iconst d_M_label_95 (by decide) ?_
            refine EV.inv fun hFf19 => ?_
            have f19 := (fx_mt 0 rfl hFf19).1
            refine e_callV m_M_number 12 lw_good d_M_label_96 (k_M_number _) ⟨Nat.le_of_ble_eq_true rfl, Nat.le_of_ble_eq_true rfl⟩ w_1596 w_1598 w_s45 (q_M _) rfl f19 (args := [(0, p1), (0, 104), (0, 1), (0, 4)]) rfl rfl (Nat.le_of_ble_eq_true rfl) (kc' := kc) (ks' := ks) (mc := 0) (ms := 0) rfl rfl h ?_
            intro v20 G21 h
            refine e_istore (ls' := [(2, (m + 0)), (0, p1), (0, v10), (0, v15), (0, v20), (9, 0), (9, 0)]) d_M_label_99 (by decide) rfl ?_
            refine e_iload d_M_label_101 rfl ?_
            refine e_iconst d_M_label_103 (by decide) ?_
            refine e_icmp_ne (tgt := 111) d_M_label_104 (by decide) (fun q22 => ?_) (fun q23 => ?_)
            · have h := h.1 q22
              refine e_aload_n d_M_label_111 rfl ?_
              refine e_iload_n d_M_label_112 rfl ?_
              refine e_bipush d_M_label_113 (by decide) (by decide) ?_
              refine e_iconst d_M_label_115 (by decide) ?_
              refine e_bipush d_M_label_116 (by decide) (by decide) ?_
              refine EV.inv fun hFf24 => ?_
              have f24 := (fx_mt 0 rfl hFf24).1
              refine e_callV m_M_number 12 lw_good d_M_label_118 (k_M_number _) ⟨Nat.le_of_ble_eq_true rfl, Nat.le_of_ble_eq_true rfl⟩ w_1596 w_1598 w_s45 (q_M _) rfl f24 (args := [(0, p1), (0, 114), (0, 1), (0, 11)]) rfl rfl (Nat.le_of_ble_eq_true rfl) (kc' := kc) (ks' := ks) (mc := 0) (ms := 0) rfl rfl h ?_
              intro v25 G26 h
              refine e_istore (ls' := [(2, (m + 0)), (0, p1), (0, v10), (0, v15), (0, v20), (0, v25), (9, 0)]) d_M_label_121 (by decide) rfl ?_
              refine e_iload d_M_label_123 rfl ?_
              refine e_iconst d_M_label_125 (by decide) ?_
              refine e_icmp_ne (tgt := 133) d_M_label_126 (by decide) (fun q27 => ?_) (fun q28 => ?_)
              · have h := h.1 q27
                refine e_aload_n d_M_label_133 rfl ?_
                refine e_iload_n d_M_label_134 rfl ?_
                refine e_bipush d_M_label_135 (by decide) (by decide) ?_
                refine e_iconst d_M_label_137 (by decide) ?_
                refine e_bipush d_M_label_138 (by decide) (by decide) ?_
                refine EV.inv fun hFf29 => ?_
                have f29 := (fx_mt 0 rfl hFf29).1
                refine e_callV m_M_number 12 lw_good d_M_label_140 (k_M_number _) ⟨Nat.le_of_ble_eq_true rfl, Nat.le_of_ble_eq_true rfl⟩ w_1596 w_1598 w_s45 (q_M _) rfl f29 (args := [(0, p1), (0, 112), (0, 0), (0, 20)]) rfl rfl (Nat.le_of_ble_eq_true rfl) (kc' := kc) (ks' := ks) (mc := 0) (ms := 0) rfl rfl h ?_
                intro v30 G31 h
                refine e_istore (ls' := [(2, (m + 0)), (0, p1), (0, v10), (0, v15), (0, v20), (0, v25), (0, v30)]) d_M_label_143 (by decide) rfl ?_
                exact e_forget (ls' := [(2, (m + 0)), (0, p1), (0, v10), (0, v15), (0, v20), (0, v25), (0, v30)]) ⟨Or.inr rfl, Or.inr rfl, Or.inr rfl, Or.inr rfl, Or.inr rfl, Or.inr rfl, Or.inr rfl, trivial⟩ h
              · have h := h.2 q28
                refine e_iconst d_M_label_129 (by decide) ?_
                refine e_goto (tgt := 143) d_M_label_130 (by decide) ?_
                refine e_istore (ls' := [(2, (m + 0)), (0, p1), (0, v10), (0, v15), (0, v20), (0, v25), (0, (-1))]) d_M_label_143 (by decide) rfl ?_
                exact e_forget (ls' := [(2, (m + 0)), (0, p1), (0, v10), (0, v15), (0, v20), (0, v25), (0, (-1))]) ⟨Or.inr rfl, Or.inr rfl, Or.inr rfl, Or.inr rfl, Or.inr rfl, Or.inr rfl, Or.inr rfl, trivial⟩ h
            · have h := h.2 q23
              refine e_iconst d_M_label_107 (by decide) ?_
              refine e_goto (tgt := 121) d_M_label_108 (by decide) ?_
              refine e_istore (ls' := [(2, (m + 0)), (0, p1), (0, v10), (0, v15), (0, v20), (0, (-1)), (9, 0)]) d_M_label_121 (by decide) rfl ?_
              refine e_iload d_M_label_123 rfl ?_
              refine e_iconst d_M_label_125 (by decide) ?_
              refine e_icmp_ne (tgt := 133) d_M_label_126 (by decide) (fun q32 => ?_) (fun q33 => ?_)
              · exact absurd q32 (by decide)
              · refine e_iconst d_M_label_129 (by decide) ?_
                refine e_goto (tgt := 143) d_M_label_130 (by decide) ?_
                refine e_istore (ls' := [(2, (m + 0)), (0, p1), (0, v10), (0, v15), (0, v20), (0, (-1)), (0, (-1))]) d_M_label_143 (by decide) rfl ?_
                exact e_forget (ls' := [(2, (m + 0)), (0, p1), (0, v10), (0, v15), (0, v20), (0, (-1)), (0, (-1))]) ⟨Or.inr rfl, Or.inr rfl, Or.inr rfl, Or.inr rfl, Or.inr rfl, Or.inr rfl, Or.inr rfl, trivial⟩ h
          · have h := h.2 q18
            refine e_iconst d_M_label_86 (by decide) ?_
            refine e_goto (tgt := 99) d_M_label_87 (by decide) ?_
            refine e_istore (ls' := [(2, (m + 0)), (0, p1), (0, v10), (0, v15), (0, (-1)), (9, 0), (9, 0)]) d_M_label_99 (by decide) rfl ?_
            refine e_iload d_M_label_101 rfl ?_
            refine e_iconst d_M_label_103 (by decide) ?_
            refine e_icmp_ne (tgt := 111) d_M_label_104 (by decide) (fun q34 => ?_) (fun q35 => ?_)
            · exact absurd q34 (by decide)
            · refine e_iconst d_M_label_107 (by decide) ?_
              refine e_goto (tgt := 121) d_M_label_108 (by decide) ?_
              refine e_istore (ls' := [(2, (m + 0)), (0, p1), (0, v10), (0, v15), (0, (-1)), (0, (-1)), (9, 0)]) d_M_label_121 (by decide) rfl ?_
              refine e_iload d_M_label_123 rfl ?_
              refine e_iconst d_M_label_125 (by decide) ?_
              refine e_icmp_ne (tgt := 133) d_M_label_126 (by decide) (fun q36 => ?_) (fun q37 => ?_)
              · exact absurd q36 (by decide)
              · refine e_iconst d_M_label_129 (by decide) ?_
                refine e_goto (tgt := 143) d_M_label_130 (by decide) ?_
                refine e_istore (ls' := [(2, (m + 0)), (0, p1), (0, v10), (0, v15), (0, (-1)), (0, (-1)), (0, (-1))]) d_M_label_143 (by decide) rfl ?_
                exact e_forget (ls' := [(2, (m + 0)), (0, p1), (0, v10), (0, v15), (0, (-1)), (0, (-1)), (0, (-1))]) ⟨Or.inr rfl, Or.inr rfl, Or.inr rfl, Or.inr rfl, Or.inr rfl, Or.inr rfl, Or.inr rfl, trivial⟩ h
        · have h := h.2 q13
          refine e_iconst d_M_label_66 (by decide) ?_
          refine e_goto (tgt := 80) d_M_label_67 (by decide) ?_
          refine e_istore_n (ls' := [(2, (m + 0)), (0, p1), (0, v10), (0, (-1)), (9, 0), (9, 0), (9, 0)]) d_M_label_80 (by decide) rfl ?_
          refine e_iload_n d_M_label_81 rfl ?_
          refine e_iconst d_M_label_82 (by decide) ?_
          refine e_icmp_ne (tgt := 90) d_M_label_83 (by decide) (fun q38 => ?_) (fun q39 => ?_)
          · exact absurd q38 (by decide)
          · refine e_iconst d_M_label_86 (by decide) ?_
            refine e_goto (tgt := 99) d_M_label_87 (by decide) ?_
            refine e_istore (ls' := [(2, (m + 0)), (0, p1), (0, v10), (0, (-1)), (0, (-1)), (9, 0), (9, 0)]) d_M_label_99 (by decide) rfl ?_
            refine e_iload d_M_label_101 rfl ?_
            refine e_iconst d_M_label_103 (by decide) ?_
            refine e_icmp_ne (tgt := 111) d_M_label_104 (by decide) (fun q40 => ?_) (fun q41 => ?_)
            · exact absurd q40 (by decide)
            · refine e_iconst d_M_label_107 (by decide) ?_
              refine e_goto (tgt := 121) d_M_label_108 (by decide) ?_
              refine e_istore (ls' := [(2, (m + 0)), (0, p1), (0, v10), (0, (-1)), (0, (-1)), (0, (-1)), (9, 0)]) d_M_label_121 (by decide) rfl ?_
              refine e_iload d_M_label_123 rfl ?_
              refine e_iconst d_M_label_125 (by decide) ?_
              refine e_icmp_ne (tgt := 133) d_M_label_126 (by decide) (fun q42 => ?_) (fun q43 => ?_)
              · exact absurd q42 (by decide)
              · refine e_iconst d_M_label_129 (by decide) ?_
                refine e_goto (tgt := 143) d_M_label_130 (by decide) ?_
                refine e_istore (ls' := [(2, (m + 0)), (0, p1), (0, v10), (0, (-1)), (0, (-1)), (0, (-1)), (0, (-1))]) d_M_label_143 (by decide) rfl ?_
                exact e_forget (ls' := [(2, (m + 0)), (0, p1), (0, v10), (0, (-1)), (0, (-1)), (0, (-1)), (0, (-1))]) ⟨Or.inr rfl, Or.inr rfl, Or.inr rfl, Or.inr rfl, Or.inr rfl, Or.inr rfl, Or.inr rfl, trivial⟩ h
      · have h := h.2 q7
        refine e_aload_n d_M_label_39 rfl ?_
        refine e_bipush d_M_label_40 (by decide) (by decide) ?_
        refine EV.inv fun hFf44 => ?_
        have f44 := (fx_mt 0 rfl hFf44).1
        refine e_callV m_M_no 12 lw_good d_M_label_42 (k_M_no _) ⟨Nat.le_of_ble_eq_true rfl, Nat.le_of_ble_eq_true rfl⟩ w_1569 w_1571 w_s42 (q_M _) rfl f44 (args := [(0, (-3))]) rfl rfl (Nat.le_of_ble_eq_true rfl) (kc' := kc) (ks' := ks) (mc := 0) (ms := 0) rfl rfl h ?_
        intro v45 G46 h
        exact e_iret d_M_label_45 rfl h
    · have h := h.2 q5
      refine e_aload_n d_M_label_23 rfl ?_
      refine e_bipush d_M_label_24 (by decide) (by decide) ?_
      refine EV.inv fun hFf47 => ?_
      have f47 := (fx_mt 0 rfl hFf47).1
      refine e_callV m_M_no 12 lw_good d_M_label_26 (k_M_no _) ⟨Nat.le_of_ble_eq_true rfl, Nat.le_of_ble_eq_true rfl⟩ w_1569 w_1571 w_s42 (q_M _) rfl f47 (args := [(0, (-2))]) rfl rfl (Nat.le_of_ble_eq_true rfl) (kc' := kc) (ks' := ks) (mc := 0) (ms := 0) rfl rfl h ?_
      intro v48 G49 h
      exact e_iret d_M_label_29 rfl h
  · replace q2 := gb0.mp q2
    have h := h.2 q2
    refine e_aload_n d_M_label_7 rfl ?_
    refine e_iconst d_M_label_8 (by decide) ?_
    refine EV.inv fun hFf50 => ?_
    have f50 := (fx_mt 0 rfl hFf50).1
    refine e_callV m_M_no 12 lw_good d_M_label_9 (k_M_no _) ⟨Nat.le_of_ble_eq_true rfl, Nat.le_of_ble_eq_true rfl⟩ w_1569 w_1571 w_s42 (q_M _) rfl f50 (args := [(0, (-1))]) rfl rfl (Nat.le_of_ble_eq_true rfl) (kc' := kc) (ks' := ks) (mc := 0) (ms := 0) rfl rfl h ?_
    intro v51 G52 h
    exact e_iret d_M_label_12 rfl h
set_option maxRecDepth 20000 in
set_option maxHeartbeats 4000000 in
theorem sg_M_label_145 {e : gE} {b : Nat} {m : Int} {Z : Int → gH → Prop} {kc ks : Nat} {G : gH} {p1 x2 x3 x4 x5 x6 : Int} (h : (x6 ≠ (-1) → (zSh p1) ∧ (zM m G 20 p1 ≤ G 841 (m + 0) 0 → ∀ G8 : gH, G8 = gU G 793 (m + 0) 0 (-1) → EX e b m m_M_label Z kc ks 171 [(2, (m + 0)), (9, 0), (0, x2), (0, x3), (0, x4), (0, x5), (0, x6)] [] G8)) ∧ ((x6 = (-1) ∨ (x6 ≠ (-1) ∧ (¬ (zM m G 20 p1 ≤ G 841 (m + 0) 0)))) → ∀ G9 : gH, G9 = gU G 793 (m + 0) 0 (G 841 (m + 0) 0) → EX e b m m_M_label Z kc ks 171 [(2, (m + 0)), (9, 0), (0, x2), (0, x3), (0, x4), (0, x5), (0, x6)] [] G9)) : EX e b m m_M_label Z kc ks 145 [(2, (m + 0)), (0, p1), (0, x2), (0, x3), (0, x4), (0, x5), (0, x6)] [] G := by
  obtain ⟨h, hJ7⟩ := h
  have kJ7 : (x6 = (-1) ∨ (x6 ≠ (-1) ∧ (¬ (zM m G 20 p1 ≤ G 841 (m + 0) 0)))) → EX e b m m_M_label Z kc ks 160 [(2, (m + 0)), (0, p1), (0, x2), (0, x3), (0, x4), (0, x5), (0, x6)] [(2, (m + 0))] G := by
    intro rJ7
    have h := hJ7 rJ7
    refine e_aload_n d_M_label_160 rfl ?_
    refine gx_M_181 d_M_label_161 rfl ?_
    refine e_goto (tgt := 168) d_M_label_164 (by decide) ?_
    refine px_M_9 d_M_label_168 rfl ?_
    let G9 : gH := gU G 793 (m + 0) 0 (G 841 (m + 0) 0)
    have h := h G9 rfl
    exact e_forget (ls' := [(2, (m + 0)), (9, 0), (0, x2), (0, x3), (0, x4), (0, x5), (0, x6)]) ⟨Or.inr rfl, Or.inl rfl, Or.inr rfl, Or.inr rfl, Or.inr rfl, Or.inr rfl, Or.inr rfl, trivial⟩ h
  refine e_aload_n d_M_label_145 rfl ?_
  refine e_iload d_M_label_146 rfl ?_
  refine e_iconst d_M_label_148 (by decide) ?_
  refine e_icmp_eq (tgt := 160) d_M_label_149 (by decide) (fun q1 => ?_) (fun q2 => ?_)
  · exact kJ7 (Or.inl q1)
  · have h := h q2
    refine e_aload_n d_M_label_152 rfl ?_
    refine e_iload_n d_M_label_153 rfl ?_
    refine EV.inv fun hFf3 => ?_
    have f3 := (fx_mt 0 rfl hFf3).1
    obtain ⟨o4, h⟩ := h
    refine e_callV m_M_isEnd 12 lw_good d_M_label_154 (k_M_isEnd _) ⟨Nat.le_of_ble_eq_true rfl, Nat.le_of_ble_eq_true rfl⟩ w_1600 w_1602 w_s46 (q_M _) rfl f3 (args := [(0, p1)]) rfl rfl (Nat.le_of_ble_eq_true rfl) (kc' := kc) (ks' := ks) (mc := 0) (ms := 0) rfl rfl (c_M_isEnd o4) (pureK ?_)
    refine e_if_ne (tgt := 167) d_M_label_157 (by decide) (fun q5 => ?_) (fun q6 => ?_)
    · replace q5 := gb1.mp q5
      have h := h q5
      refine e_iconst d_M_label_167 (by decide) ?_
      refine px_M_9 d_M_label_168 rfl ?_
      let G8 : gH := gU G 793 (m + 0) 0 (-1)
      have h := h G8 rfl
      exact e_forget (ls' := [(2, (m + 0)), (9, 0), (0, x2), (0, x3), (0, x4), (0, x5), (0, x6)]) ⟨Or.inr rfl, Or.inl rfl, Or.inr rfl, Or.inr rfl, Or.inr rfl, Or.inr rfl, Or.inr rfl, trivial⟩ h
    · replace q6 := gb0.mp q6
      exact kJ7 (Or.inr ⟨q2, q6⟩)
set_option maxRecDepth 20000 in
set_option maxHeartbeats 4000000 in
theorem sg_M_label_171 {e : gE} {b : Nat} {m : Int} {Z : Int → gH → Prop} {kc ks : Nat} {G : gH} {x2 x3 x4 x5 x6 : Int} (h : ((zM m G 793 0) = (-1) → ((zM m G 788 0) = 0 → ((zM m G 785 0) ≠ 16 → GX e b m m_M_puts [(2, (m + 0)), (0, x2), (0, x3), (0, x4), (0, x5), (0, x6)] G 0 0 (fun v8 G9 => Z v8 G9)) ∧ ((zM m G 785 0) = 16 → GX e b m m_M_no [(2, (m + 0)), (0, (-7))] G 0 0 (fun v11 G12 => Z v11 G12)))) ∧ (((zM m G 793 0) ≠ (-1) ∨ ((zM m G 793 0) = (-1) ∧ (zM m G 788 0) ≠ 0)) → GX e b m m_M_no [(2, (m + 0)), (0, (-6))] G 0 0 (fun v15 G16 => Z v15 G16))) : EX e b m m_M_label Z kc ks 171 [(2, (m + 0)), (9, 0), (0, x2), (0, x3), (0, x4), (0, x5), (0, x6)] [] G := by
  obtain ⟨h, hJ13⟩ := h
  have kJ13 : ((zM m G 793 0) ≠ (-1) ∨ ((zM m G 793 0) = (-1) ∧ (zM m G 788 0) ≠ 0)) → EX e b m m_M_label Z kc ks 186 [(2, (m + 0)), (9, 0), (0, x2), (0, x3), (0, x4), (0, x5), (0, x6)] [] G := by
    intro rJ13
    have h := hJ13 rJ13
    refine e_aload_n d_M_label_186 rfl ?_
    refine e_bipush d_M_label_187 (by decide) (by decide) ?_
    refine EV.inv fun hFf14 => ?_
    have f14 := (fx_mt 0 rfl hFf14).1
    refine e_callV m_M_no 12 lw_good d_M_label_189 (k_M_no _) ⟨Nat.le_of_ble_eq_true rfl, Nat.le_of_ble_eq_true rfl⟩ w_1569 w_1571 w_s42 (q_M _) rfl f14 (args := [(0, (-6))]) rfl rfl (Nat.le_of_ble_eq_true rfl) (kc' := kc) (ks' := ks) (mc := 0) (ms := 0) rfl rfl h ?_
    intro v15 G16 h
    exact e_iret d_M_label_192 rfl h
  refine e_aload_n d_M_label_171 rfl ?_
  refine gx_M_9 d_M_label_172 rfl ?_
  refine e_iconst d_M_label_175 (by decide) ?_
  refine e_icmp_ne (tgt := 186) d_M_label_176 (by decide) (fun q1 => ?_) (fun q2 => ?_)
  · exact kJ13 (Or.inl q1)
  · have h := h q2
    refine e_aload_n d_M_label_179 rfl ?_
    refine gx_M_165 d_M_label_180 rfl ?_
    refine e_if_eq (tgt := 193) d_M_label_183 (by decide) (fun q3 => ?_) (fun q4 => ?_)
    · have h := h q3
      refine e_aload_n d_M_label_193 rfl ?_
      refine gx_M_151 d_M_label_194 rfl ?_
      refine e_bipush d_M_label_197 (by decide) (by decide) ?_
      refine e_icmp_ne (tgt := 209) d_M_label_199 (by decide) (fun q5 => ?_) (fun q6 => ?_)
      · have h := h.1 q5
        refine e_aload_n d_M_label_209 rfl ?_
        refine e_iload_n d_M_label_210 rfl ?_
        refine e_iload_n d_M_label_211 rfl ?_
        refine e_iload d_M_label_212 rfl ?_
        refine e_iload d_M_label_214 rfl ?_
        refine e_iload d_M_label_216 rfl ?_
        refine EV.inv fun hFf7 => ?_
        have f7 := (fx_mt 0 rfl hFf7).1
        refine e_callV m_M_puts 12 lw_good d_M_label_218 (k_M_puts _) ⟨Nat.le_of_ble_eq_true rfl, Nat.le_of_ble_eq_true rfl⟩ w_1585 w_1587 w_s44 (q_M _) rfl f7 (args := [(0, x2), (0, x3), (0, x4), (0, x5), (0, x6)]) rfl rfl (Nat.le_of_ble_eq_true rfl) (kc' := kc) (ks' := ks) (mc := 0) (ms := 0) rfl rfl h ?_
        intro v8 G9 h
        exact e_iret d_M_label_221 rfl h
      · have h := h.2 q6
        refine e_aload_n d_M_label_202 rfl ?_
        refine e_bipush d_M_label_203 (by decide) (by decide) ?_
        refine EV.inv fun hFf10 => ?_
        have f10 := (fx_mt 0 rfl hFf10).1
        refine e_callV m_M_no 12 lw_good d_M_label_205 (k_M_no _) ⟨Nat.le_of_ble_eq_true rfl, Nat.le_of_ble_eq_true rfl⟩ w_1569 w_1571 w_s42 (q_M _) rfl f10 (args := [(0, (-7))]) rfl rfl (Nat.le_of_ble_eq_true rfl) (kc' := kc) (ks' := ks) (mc := 0) (ms := 0) rfl rfl h ?_
        intro v11 G12 h
        exact e_iret d_M_label_208 rfl h
    · exact kJ13 (Or.inr ⟨q2, q4⟩)
theorem l_M_label {e : gE} {b : Nat} {m : Int} {kc ks : Nat} {G0 G : gH} {s : Int} (A : zA) (hB : zB 512 A) (hs : zSh s) (h2 : A 18 s ≠ 2) (h0 : A 18 s ≠ 0) (hA : zM m G = A) (hC : zC m G0 G) (hp : G 841 (m + 0) 0 = (zL5 A s).2) : EX e b m m_M_label (zQ m G0 (zfLabel A s)) kc ks 145 [(2, (m + 0)), (0, s), (0, (zL1 A s).1), (0, (zL2 A s).1), (0, (zL3 A s).1), (0, (zL4 A s).1), (0, (zL5 A s).1)] [] G := by
  have b0 : 0 ≤ A 785 0 ∧ A 785 0 ≤ 16 := hB 785 0
  have bs : 0 ≤ A 20 s ∧ A 20 s ≤ 60 := hB 20 s
  have bL := zL_b bs.2
  have g : ∀ (F : Int) (G2 : gH), F = zLF A s → zM m G2 = zU A 793 0 F → zC m G0 G2 → EX e b m m_M_label (zQ m G0 (zfLabel A s)) kc ks 171 [(2, (m + 0)), (9, 0), (0, (zL1 A s).1), (0, (zL2 A s).1), (0, (zL3 A s).1), (0, (zL4 A s).1), (0, (zL5 A s).1)] [] G2 := by
    intro F G2 hF k1 k2
    subst hF
    have hB2 : zB 512 (zM m G2) := by
      rw [k1]
      refine zB_u hB ?_
      show -1 ≤ zLF A s ∧ zLF A s ≤ 60
      unfold zLF
      split <;> omega
    have e1 : zM m G2 793 0 = zLF A s := by rw [k1, zU_eq]
    have e2 : zM m G2 788 0 = A 788 0 := by rw [k1, zU_k (by decide)]
    have e3 : zM m G2 785 0 = A 785 0 := by rw [k1, zU_k (by decide)]
    refine sg_M_label_171 ?_
    rw [e1, e2, e3]
    unfold zfLabel
    rw [if_pos hs, if_neg h2, if_neg h0]
    refine ⟨fun q1 q2 => ⟨fun q3 => ?_, fun q3 => ?_⟩, fun q => ?_⟩
    · rw [if_neg (by omega), if_neg q3]
      have q5 : (zL5 A s).1 ≠ -1 := by intro z; unfold zLF at q1; rw [if_pos (Or.inl z)] at q1; omega
      refine GM.mono (c_M_puts (by omega) (by omega)) (fun v G3 h3 => zQ_t k2 ?_)
      rw [e3, k1] at h3
      exact h3
    · rw [if_neg (by omega), if_pos q3]
      refine GM.mono (c_M_no hB2 (by decide)) (fun v G3 h3 => zQ_t k2 ?_)
      rw [k1] at h3
      exact h3
    · rw [if_pos (by omega)]
      refine GM.mono (c_M_no hB2 (by decide)) (fun v G3 h3 => zQ_t k2 ?_)
      rw [k1] at h3
      exact h3
  have e4 : zM m G 20 s = A 20 s := by rw [hA]
  refine sg_M_label_145 ⟨fun q => ⟨hs, fun q2 => ?_⟩, fun q => ?_⟩
  · rintro _ rfl
    refine g (-1) _ ?_ ?_ (zC_u hC (by decide))
    · unfold zLF; rw [if_neg (by omega)]
    · rw [zM_u793, hA]
  · rintro _ rfl
    refine g (G 841 (m + 0) 0) _ ?_ ?_ (zC_u hC (by decide))
    · unfold zLF; rw [if_pos (by omega)]; exact hp
    · rw [zM_u793, hA]
theorem c_M_label {e : gE} {b : Nat} {m : Int} {G : gH} {p1 : Int} (h : zB 512 (zM m G)) : GX e b m m_M_label [(2, (m + 0)), (0, p1)] G 0 0 (zQ m G (zfLabel (zM m G) p1)) := by
  refine GM.ofEV (by decide) (Nat.le_of_ble_eq_true rfl) (sg_M_label_0 ⟨fun hs => ⟨hs, fun h2 => ⟨fun h0 => ?_, fun q => ?_⟩, fun q => ?_⟩, fun q => ?_⟩)
  · have bs : 0 ≤ zM m G 20 p1 ∧ zM m G 20 p1 ≤ 60 := h 20 p1
    have bL := zL_b bs.2
    have fin : ∀ (G2 : gH), zM m G2 = zM m G → zC m G G2 → G2 841 (m + 0) 0 = (zL5 (zM m G) p1).2 → EX e b m m_M_label (zQ m G (zfLabel (zM m G) p1)) 0 0 145 [(2, (m + 0)), (0, p1), (0, (zL1 (zM m G) p1).1), (0, (zL2 (zM m G) p1).1), (0, (zL3 (zM m G) p1).1), (0, (zL4 (zM m G) p1).1), (0, (zL5 (zM m G) p1).1)] [] G2 := fun G2 k1 k2 k3 => l_M_label (zM m G) h hs h2 h0 k1 k2 k3
    rintro G8 rfl
    have e0 : zM m (gU G 841 (m + 0) 0 0) = zM m G := zM_pl
    refine GM.mono (c_M_number (by rw [e0]; exact h) hs (by rw [gU_eq]; decide) (by decide)) ?_
    rintro v1 G1 ⟨k1, k2, k3, k4⟩
    rw [e0] at k1 k3 k4
    rw [gU_eq] at k3 k4
    have k2 := zC_t (zC_u zC_r (by decide)) k2
    change v1 = (zL1 (zM m G) p1).1 at k3
    change G1 _ _ _ = (zL1 (zM m G) p1).2 at k4
    subst k3
    refine ⟨fun q1 => ?_, fun q1 => ?_⟩
    · refine GM.mono (c_M_number (by rw [k1]; exact h) hs (by rw [k4]; exact bL.1.1) (by decide)) ?_
      rintro v1 G3 ⟨l1, l2, l3, l4⟩
      rw [k1] at l1 l3 l4
      rw [k4] at l3 l4
      have k2 := zC_t k2 l2
      clear k1 k4 l2
      have w : zL2 (zM m G) p1 = zNum (zM m G) p1 119 1 100 (zL1 (zM m G) p1).2 := by unfold zL2 zNm; rw [if_neg q1]
      rw [← w] at l3 l4
      subst l3
      refine ⟨fun q2 => ?_, fun q2 => ?_⟩
      · refine GM.mono (c_M_number (by rw [l1]; exact h) hs (by rw [l4]; exact bL.1.2.1) (by decide)) ?_
        rintro v1 G4 ⟨k1, o2, k3, k4⟩
        rw [l1] at k1 k3 k4
        rw [l4] at k3 k4
        have k2 := zC_t k2 o2
        clear l1 l4 o2 w
        have w : zL3 (zM m G) p1 = zNum (zM m G) p1 104 1 4 (zL2 (zM m G) p1).2 := by unfold zL3 zNm; rw [if_neg q2]
        rw [← w] at k3 k4
        subst k3
        refine ⟨fun q3 => ?_, fun q3 => ?_⟩
        · refine GM.mono (c_M_number (by rw [k1]; exact h) hs (by rw [k4]; exact bL.1.2.2.1) (by decide)) ?_
          rintro v1 G5 ⟨l1, l2, l3, l4⟩
          rw [k1] at l1 l3 l4
          rw [k4] at l3 l4
          have k2 := zC_t k2 l2
          clear k1 k4 l2 w
          have w : zL4 (zM m G) p1 = zNum (zM m G) p1 114 1 11 (zL3 (zM m G) p1).2 := by unfold zL4 zNm; rw [if_neg q3]
          rw [← w] at l3 l4
          subst l3
          refine ⟨fun q4 => ?_, fun q4 => ?_⟩
          · refine GM.mono (c_M_number (by rw [l1]; exact h) hs (by rw [l4]; exact bL.1.2.2.2.1) (by decide)) ?_
            rintro v1 G6 ⟨k1, o2, k3, k4⟩
            rw [l1] at k1 k3 k4
            rw [l4] at k3 k4
            have w : zL5 (zM m G) p1 = zNum (zM m G) p1 112 0 20 (zL4 (zM m G) p1).2 := by unfold zL5 zNm; rw [if_neg q4]
            rw [← w] at k3 k4
            subst k3
            exact fin _ k1 (zC_t k2 o2) k4
          · have f5 : zL5 (zM m G) p1 = zL4 (zM m G) p1 := by unfold zL5 zNm; rw [if_pos q4]
            have := fin _ l1 k2 (by rw [f5]; exact l4)
            rw [f5, q4] at this
            rw [q4]
            exact this
        · have f4 : zL4 (zM m G) p1 = zL3 (zM m G) p1 := by unfold zL4 zNm; rw [if_pos q3]
          have f5 : zL5 (zM m G) p1 = zL4 (zM m G) p1 := by unfold zL5 zNm; rw [f4, if_pos q3]
          have := fin _ k1 k2 (by rw [f5, f4]; exact k4)
          rw [f5, f4, q3] at this
          rw [q3]
          exact this
      · have f3 : zL3 (zM m G) p1 = zL2 (zM m G) p1 := by unfold zL3 zNm; rw [if_pos q2]
        have f4 : zL4 (zM m G) p1 = zL3 (zM m G) p1 := by unfold zL4 zNm; rw [f3, if_pos q2]
        have f5 : zL5 (zM m G) p1 = zL4 (zM m G) p1 := by unfold zL5 zNm; rw [f4, f3, if_pos q2]
        have := fin _ l1 k2 (by rw [f5, f4, f3]; exact l4)
        rw [f5, f4, f3, q2] at this
        rw [q2]
        exact this
    · have f2 : zL2 (zM m G) p1 = zL1 (zM m G) p1 := by unfold zL2 zNm; rw [if_pos q1]
      have f3 : zL3 (zM m G) p1 = zL2 (zM m G) p1 := by unfold zL3 zNm; rw [f2, if_pos q1]
      have f4 : zL4 (zM m G) p1 = zL3 (zM m G) p1 := by unfold zL4 zNm; rw [f3, f2, if_pos q1]
      have f5 : zL5 (zM m G) p1 = zL4 (zM m G) p1 := by unfold zL5 zNm; rw [f4, f3, f2, if_pos q1]
      have := fin _ k1 k2 (by rw [f5, f4, f3, f2]; exact k4)
      rw [f5, f4, f3, f2, q1] at this
      rw [q1]
      exact this
  · unfold zfLabel; rw [if_pos hs, if_neg (by omega), if_pos q]; exact c_M_no h (by decide)
  · unfold zfLabel; rw [if_pos hs, if_pos q]; exact c_M_no h (by decide)
  · unfold zfLabel; rw [if_neg q]; exact c_M_no h (by decide)
