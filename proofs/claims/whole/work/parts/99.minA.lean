/-! THE CLASS, 44: the minutes: what they rest on -/
theorem zJeq {A B : zA} {ks : List Nat} {t : Int} (q : zCh ks A B) (hk : ∀ k ∈ [5, 6, 10, 790], k ∉ ks) (hw : B 11 t = A 11 t) : zFar B t = zFar A t ∧ zLen B t = zLen A t ∧ zLat B t = zLat A t := by
  unfold zLat zLen zDng zFar
  rw [hw, q 5 (hk 5 (by decide)), q 6 (hk 6 (by decide)), q 10 (hk 10 (by decide)), q 790 (hk 790 (by decide))]
  exact ⟨rfl, rfl, rfl⟩
/-- things and teams change in the hours -/
theorem zRc_h {e : gE} {b : Nat} {m : Int} {G G1 : gH} {S : List Nat} {A B : zA} {ks : List Nat} {T Q P : Int → Int} (hTg : ∀ a : Int, G 0 a 0 ≠ 0 → 0 < a ∧ a < G 9 0 0) (hlo : (b : Int) + 53 < m ∧ m + 45 < G 9 0 0) (hc : zRc e b m G A T Q P) (w : zFW m S G G1) (hS : ∀ c ∈ [0, 2, 3, 272, 273, 274, 275, 400, 401, 402, 602, 603], c ∉ S) (q : zCh ks A B) (hk : ∀ k ∈ [1, 2, 3, 4, 5, 784, 788, 789, 790, 793, 795, 18, 19, 20, 21, 22, 39, 29, 30, 31, 791, 792, 786, 787, 23, 24, 25, 26, 27, 28, 785, 6, 10], k ∉ ks) (tN : zRkT e b m G1 B T (zTau B)) (qN : zRkQ e b m G1 B T Q) (hw : ∀ t, zTh A t → zIn B t → B 11 t = A 11 t) : zRc e b m G1 B T Q P := by
  obtain ⟨⟨r1, r2, r3, r4⟩, hT, hQ, hP, hJ, hD⟩ := hc
  have sub : ∀ l : List Nat, (∀ k ∈ l, k ∈ [1, 2, 3, 4, 5, 784, 788, 789, 790, 793, 795, 18, 19, 20, 21, 22, 39, 29, 30, 31, 791, 792, 786, 787, 23, 24, 25, 26, 27, 28, 785, 6, 10]) → ∀ k ∈ l, k ∉ ks := fun l w k z => hk k (w k z)
  have x := zSx_fw hlo w
  have hL := zLs_0 hT hQ hP hJ
  have hS2 : 0 ∉ S ∧ 3 ∉ S := ⟨hS 0 (by decide), hS 3 (by decide)⟩
  obtain ⟨⟨n, f, h1, h2⟩, ⟨n2, f2, h3⟩, ⟨n3, f3, h4⟩⟩ := hJ
  refine ⟨⟨zR1_A q (sub _ (by decide)) (zR1_G x (by decide) r1), zR2_A q (sub _ (by decide)) (zR2_G x (by decide) r2), zR3_A q (sub _ (by decide)) (zR3_G x (by decide) r3), zR4_A q (sub _ (by decide)) (zR4_G x (by decide) r4)⟩, tN, qN, zRkP_A q (sub _ (by decide)) (zRkP_fw hTg hlo w (fun c hc => hS c (by revert hc; revert c; decide)) hP), ⟨⟨n, f, zAL_fw hTg hlo (by decide) w hS2 (by decide) h1, fun ph => ?_⟩, ⟨n2, f2, zAL_fw hTg hlo (by decide) w hS2 (by decide) h3⟩, ⟨n3, f3, zAL_fw hTg hlo (by decide) w hS2 (by decide) h4⟩⟩, zDst_fw hTg hlo w hS2.1 hL hD⟩
  rw [q 788 (hk 788 (by decide))] at ph
  obtain ⟨J, O, w1, w2, w3⟩ := h2 ph
  rw [q 785 (hk 785 (by decide))]
  have eT : ∀ t, 0 ≤ t → t < A 785 0 → G1 603 (T t) 0 = G 603 (T t) 0 ∧ G1 602 (T t) 0 = G 602 (T t) 0 := fun t t1 t2 => by
    have := (hTg _ (by have := (hT.2.1 t t1 t2).1.1.1; omega : G 0 (T t) 0 ≠ 0)).2
    exact ⟨w.2 603 _ _ (by decide) this (fun z => hS 603 (by decide) z.1), w.2 602 _ _ (by decide) this (fun z => hS 602 (by decide) z.1)⟩
  refine ⟨J, O, zEnum_congr w1 (fun _ _ _ => Iff.rfl) (fun t t1 t2 _ => by rw [(eT t t1 t2).1, (eT t t1 t2).2]), w2, fun t t1 t2 q2 => ?_⟩
  have ew := hw t ⟨t1, t2⟩ q2
  have j := zJeq q (sub _ (by decide)) ew
  rw [(eT t t1 t2).1, (eT t t1 t2).2, j.1, j.2.1, j.2.2]
  exact w3 t t1 t2 (by unfold zIn at q2 ⊢; rw [← ew]; exact q2)
def zPP (A : zA) : Int := zS (fun t => zPw (A 11 t)) (A 785 0)
theorem zPP_b {A : zA} (hB : zB 512 A) : 0 ≤ zPP A ∧ zPP A ≤ 32 := by
  have b0 : 0 ≤ A 785 0 ∧ A 785 0 ≤ 16 := hB 785 0
  have := zS_b (f := fun t => zPw (A 11 t)) (c := 2) (A 785 0) (fun i _ _ => zPw_b) b0.1 (by decide)
  unfold zPP
  omega
theorem zPP_go {A : zA} {t w : Int} (ht : zTh A t) (hw : zPw w < zPw (A 11 t)) : zPP (zGo A t w) + 1 ≤ zPP A := by
  unfold zPP
  rw [zGo_k (by decide)]
  have e := zS_at (f := fun u => zPw (zGo A t w 11 u)) (g := fun u => zPw (A 11 u)) ht (fun i _ _ q => by
    show zPw (zGo A t w 11 i) = zPw (A 11 i)
    rw [zGo_w, if_neg q])
  rw [e]
  show _ + (zPw (zGo A t w 11 t) - zPw (A 11 t)) + 1 ≤ _
  rw [zGo_w, if_pos rfl]
  omega
theorem zPP_c {A B : zA} (h1 : B 11 = A 11) (h2 : B 785 = A 785) : zPP B = zPP A := by
  unfold zPP
  rw [h1, h2]
theorem zSeals_c {A B : zA} (h1 : B 35 = A 35) (h2 : B 794 = A 794) (t : Int) : zSeals B t = zSeals A t := by
  unfold zSeals
  rw [h1, h2]
/-- few seals in the hours -/
def zS2 (A : zA) : Prop := ∀ t, zTh A t → zSeals A t + zPw (A 11 t) ≤ 2
theorem zS2_c {A B : zA} (h : zS2 A) (h1 : B 35 = A 35) (h2 : B 794 = A 794) (h3 : B 11 = A 11) (h4 : B 785 = A 785) : zS2 B := fun t ht => by
  rw [zSeals_c h1 h2, h3]
  unfold zTh at ht
  rw [h4] at ht
  exact h t ht
theorem zS2_go {A : zA} {t w : Int} (hs : 0 ≤ A 794 0) (h : zS2 A) (hw : zPw w < zPw (A 11 t)) : zS2 (zGo A t w) := fun u hu => by
  unfold zTh at hu
  rw [zGo_k (by decide)] at hu
  rw [zGo_seals hs, zGo_w]
  have := h u hu
  by_cases z : u = t
  · rw [if_pos z, if_pos z.symm]
    rw [z] at this ⊢
    omega
  · rw [if_neg z, if_neg (fun y => z y.symm)]
    omega
theorem zS2_s {A : zA} {t : Int} (hB : zB 512 A) (h : zS2 A) (ht : zTh A t) (hw : 1 ≤ zPw (A 11 t)) : (0 ≤ zSeals A t ∧ zSeals A t ≤ 1) ∧ (2 * zSL (zSeals A t + 1) - 2 * zSL (zSeals A t)).toNat = 0 := by
  have w := h t ht
  have bs : 0 ≤ A 794 0 ∧ A 794 0 ≤ 16 * 512 + 32 := hB 794 0
  have b : 0 ≤ zSeals A t := (zRkB (A := A) (t := t) bs.1).1
  refine ⟨by omega, ?_⟩
  unfold zSL
  rw [if_pos (by omega), if_pos (by omega)]
  omega
/-- a thing goes in the hours -/
theorem c_goH {e : gE} {b : Nat} {m : Int} {G : gH} {A : zA} {T τ : Int → Int} {t w : Int} (hB : zB 512 A) (hS : zS2 A) (hR : zRkT e b m G A T τ) (hp : A 788 0 = 1) (ht : zTh A t) (hw : 200 ≤ w) (h1 : 1 ≤ zPw (A 11 t)) : GX e b m m_Thing_goTo [(2, T t), (0, w), (0, A 789 0)] G 1 0 (fun _ G1 => zRkT e b m G1 (zGo A t w) T τ ∧ zFW m [598, 604, 605, 1] G G1) := by
  have bs : 0 ≤ A 794 0 ∧ A 794 0 ≤ 16 * 512 + 32 := hB 794 0
  have k := zS2_s hB hS ht h1
  have r := c_goTo (w := w) hR bs.1 (by omega) ht hw
  rw [k.2, show zTime A = A 789 0 from if_neg (by omega)] at r
  exact r
