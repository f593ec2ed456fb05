/-! THE CLASS, 16: what the things' changes leave of the rest -/
theorem zAL_fw {e : gE} {b : Nat} {m : Int} {G G1 : gH} {S : List Nat} {k tg n : Int} {f : Int → Int} (hT : ∀ a : Int, G 0 a 0 ≠ 0 → 0 < a ∧ a < G 9 0 0) (hlo : (b : Int) + 53 < m ∧ m + 45 < G 9 0 0) (hk : 0 ≤ k ∧ k ≤ 53) (w : zFW m S G G1) (hS : 0 ∉ S ∧ 3 ∉ S) (ht : tg ≠ 0) (h : zAL e b m G ((b : Int) + k) tg n f) : zAL e b m G1 ((b : Int) + k) tg n f := by
  refine zAL_fr ht h (fun i j q => w.2 0 i j (by decide) (hT i q).2 (fun z => hS.1 z.1)) (w.2 _ _ _ (by decide) (by omega) (by omega)) (w.2 _ _ _ (by decide) (by omega) (by omega)) (fun q j => w.2 3 _ j (by decide) (hT _ (by omega)).2 (fun z => hS.2 z.1))
theorem zRkQ_fw {e : gE} {b : Nat} {m : Int} {G G1 : gH} {S : List Nat} {A : zA} {T Q : Int → Int} (hT : ∀ a : Int, G 0 a 0 ≠ 0 → 0 < a ∧ a < G 9 0 0) (hlo : (b : Int) + 53 < m ∧ m + 45 < G 9 0 0) (w : zFW m S G G1) (hS : 0 ∉ S ∧ 3 ∉ S ∧ 528 ∉ S ∧ 529 ∉ S ∧ 530 ∉ S) (h : zRkQ e b m G A T Q) : zRkQ e b m G1 A T Q := by
  refine ⟨zAL_fw hT hlo (by decide) w ⟨hS.1, hS.2.1⟩ (by decide) h.1, fun k k1 k2 => ?_, h.2.2⟩
  have q := h.2.1 k k1 k2
  have hk := (hT (Q k) (by have := h.1.2.2.1 k k1 k2; omega)).2
  rw [w.2 528 _ _ (by decide) hk (fun z => hS.2.2.1 z.1), w.2 529 _ _ (by decide) hk (fun z => hS.2.2.2.1 z.1), w.2 530 _ _ (by decide) hk (fun z => hS.2.2.2.2 z.1)]
  exact q
theorem zRkP_fw {e : gE} {b : Nat} {m : Int} {G G1 : gH} {S : List Nat} {A : zA} {P : Int → Int} (hT : ∀ a : Int, G 0 a 0 ≠ 0 → 0 < a ∧ a < G 9 0 0) (hlo : (b : Int) + 53 < m ∧ m + 45 < G 9 0 0) (w : zFW m S G G1) (hS : ∀ c ∈ [0, 2, 3, 272, 273, 274, 275, 400, 401, 402], c ∉ S) (h : zRkP e b m G A P) : zRkP e b m G1 A P := by
  have o : ∀ (c : Nat) (i j : Int), c ∈ [0, 2, 3, 272, 273, 274, 275, 400, 401, 402] → i < G 9 0 0 → G1 c i j = G c i j := fun c i j hc hi => w.2 c i j (by rintro rfl; exact absurd hc (by decide)) hi (fun z => hS c hc z.1)
  have a1 : ∀ p, 0 ≤ p → p < A 787 0 → P p < G 9 0 0 := fun p p1 p2 => (hT _ (by have := h.1.2.2.1 p p1 p2; omega)).2
  have a2 : ∀ p, 0 ≤ p → p < A 787 0 → G 275 (P p) 0 < G 9 0 0 := fun p p1 p2 => (hT _ (by have := (h.2.1 p p1 p2).2.1.2.1; omega)).2
  have a3 : ∀ p, 0 ≤ p → p < A 787 0 → G 400 (G 275 (P p) 0) 0 < G 9 0 0 := fun p p1 p2 => (hT _ (by have := (h.2.1 p p1 p2).2.2.1.2.1; omega)).2
  refine ⟨zAL_fw hT hlo (by decide) w ⟨hS 0 (by decide), hS 3 (by decide)⟩ (by decide) h.1, fun p p1 p2 => ?_, fun j k j1 j2 k1 k2 => ?_⟩
  · have q := h.2.1 p p1 p2
    rw [o 275 _ _ (by decide) (a1 p p1 p2), o 400 _ _ (by decide) (a2 p p1 p2), o 272 _ _ (by decide) (a1 p p1 p2), o 273 _ _ (by decide) (a1 p p1 p2), o 274 _ _ (by decide) (a1 p p1 p2), o 0 _ _ (by decide) (a2 p p1 p2), o 0 _ _ (by decide) (a3 p p1 p2), o 0 _ _ (by decide) (a3 p p1 p2), o 401 _ _ (by decide) (a2 p p1 p2), o 402 _ _ (by decide) (a2 p p1 p2)]
    exact ⟨q.1, q.2.1, q.2.2.1, fun i i1 i2 => by rw [o 2 _ _ (by decide) (a3 p p1 p2)]; exact q.2.2.2 i i1 i2⟩
  · rw [o 275 _ _ (by decide) (a1 j j1 j2), o 275 _ _ (by decide) (a1 k k1 k2), o 400 _ _ (by decide) (a2 j j1 j2), o 400 _ _ (by decide) (a2 k k1 k2)]
    exact h.2.2 j k j1 j2 k1 k2
theorem zRkJ_fw {e : gE} {b : Nat} {m : Int} {G G1 : gH} {S : List Nat} {A : zA} {T τ : Int → Int} (hT : ∀ a : Int, G 0 a 0 ≠ 0 → 0 < a ∧ a < G 9 0 0) (hlo : (b : Int) + 53 < m ∧ m + 45 < G 9 0 0) (w : zFW m S G G1) (hS : 0 ∉ S ∧ 3 ∉ S ∧ 602 ∉ S ∧ 603 ∉ S) (hR : zRkT e b m G A T τ) (h : zRkJ e b m G A T) : zRkJ e b m G1 A T := by
  obtain ⟨⟨n, f, h1, h2⟩, ⟨n2, f2, h3⟩, ⟨n3, f3, h4⟩⟩ := h
  have hS2 : 0 ∉ S ∧ 3 ∉ S := ⟨hS.1, hS.2.1⟩
  refine ⟨⟨n, f, zAL_fw hT hlo (by decide) w hS2 (by decide) h1, fun q => ?_⟩, ⟨n2, f2, zAL_fw hT hlo (by decide) w hS2 (by decide) h3⟩, ⟨n3, f3, zAL_fw hT hlo (by decide) w hS2 (by decide) h4⟩⟩
  obtain ⟨J, O, w1, w2, w3⟩ := h2 q
  have eT : ∀ t, 0 ≤ t → t < A 785 0 → G1 603 (T t) 0 = G 603 (T t) 0 ∧ G1 602 (T t) 0 = G 602 (T t) 0 := fun t t1 t2 => by
    have := (hT _ (by have := (hR.2.1 t t1 t2).1.1.1; omega : G 0 (T t) 0 ≠ 0)).2
    exact ⟨w.2 603 _ _ (by decide) this (fun z => hS.2.2.2 z.1), w.2 602 _ _ (by decide) this (fun z => hS.2.2.1 z.1)⟩
  refine ⟨J, O, zEnum_congr w1 (fun _ _ _ => Iff.rfl) (fun t t1 t2 _ => by rw [(eT t t1 t2).1, (eT t t1 t2).2]), w2, fun t t1 t2 q2 => ?_⟩
  rw [(eT t t1 t2).1, (eT t t1 t2).2]
  exact w3 t t1 t2 q2
theorem zDst_fw {b : Nat} {m : Int} {G G1 : gH} {S : List Nat} (hT : ∀ a : Int, G 0 a 0 ≠ 0 → 0 < a ∧ a < G 9 0 0) (hlo : (b : Int) + 53 < m ∧ m + 45 < G 9 0 0) (w : zFW m S G G1) (hS : 0 ∉ S) (hL : ∀ k, zLs k → G 0 (G 17 ((b : Int) + k) 0) 0 ≠ 0) (h : zDst b G) : zDst b G1 := fun j k j1 k1 q z => by
  have e : ∀ k, zLs k → G1 17 ((b : Int) + k) 0 = G 17 ((b : Int) + k) 0 := fun k hk => w.2 _ _ _ (by decide) (by omega) (by omega)
  rw [e j j1, e k k1]
  refine h j k j1 k1 q ?_
  rw [e j j1, w.2 0 _ _ (by decide) (hT _ (hL j j1)).2 (fun y => hS y.1)] at z
  exact z
theorem zAL_0 {e : gE} {b : Nat} {m : Int} {G : gH} {a tg n : Int} {f : Int → Int} (h : zAL e b m G a tg n f) : G 0 (G 17 a 0) 0 ≠ 0 := by
  rcases h.2.2.2 with w | w <;> omega
/-- the lists' arrays are there -/
theorem zLs_0 {e : gE} {b : Nat} {m : Int} {G : gH} {A : zA} {T Q P τ : Int → Int} (hT : zRkT e b m G A T τ) (hQ : zRkQ e b m G A T Q) (hP : zRkP e b m G A P) (hJ : zRkJ e b m G A T) : ∀ k, zLs k → G 0 (G 17 ((b : Int) + k) 0) 0 ≠ 0 := by
  obtain ⟨⟨n, f, h1, -⟩, ⟨n2, f2, h3⟩, ⟨n3, f3, h4⟩⟩ := hJ
  rintro k (z | z | z | z | z | z) <;> subst z
  · exact zAL_0 hT.1
  · exact zAL_0 hQ.1
  · exact zAL_0 h1
  · exact zAL_0 h3
  · exact zAL_0 hP.1
  · exact zAL_0 h4
/-- the class's state with its objects named -/
def zRc (e : gE) (b : Nat) (m : Int) (G : gH) (A : zA) (T Q P : Int → Int) : Prop := (zR1 b G A ∧ zR2 b G A ∧ zR3 b G A ∧ zR4 b G A) ∧ zRkT e b m G A T (zTau A) ∧ zRkQ e b m G A T Q ∧ zRkP e b m G A P ∧ zRkJ e b m G A T ∧ zDst b G
theorem zRc_r {e : gE} {b : Nat} {m : Int} {G : gH} {A : zA} {T Q P : Int → Int} (h : zRc e b m G A T Q P) : zRel e b m G A := ⟨T, Q, P, h⟩
/-- calls that change things alone -/
theorem zRel_T {e : gE} {b : Nat} {m : Int} {G G1 : gH} {S : List Nat} {A B : zA} {ks : List Nat} {T Q P τ : Int → Int} (hT : ∀ a : Int, G 0 a 0 ≠ 0 → 0 < a ∧ a < G 9 0 0) (hlo : (b : Int) + 53 < m ∧ m + 45 < G 9 0 0) (r1 : zR1 b G A) (r2 : zR2 b G A) (r3 : zR3 b G A) (r4 : zR4 b G A) (tR : zRkT e b m G A T τ) (qR : zRkQ e b m G A T Q) (pR : zRkP e b m G A P) (jR : zRkJ e b m G A T) (dR : zDst b G) (w : zFW m S G G1) (hS : ∀ c ∈ [0, 2, 3, 272, 273, 274, 275, 400, 401, 402, 528, 529, 530, 602, 603], c ∉ S) (q : zCh ks A B) (hk : ∀ k ∈ [1, 2, 3, 4, 5, 784, 788, 789, 790, 793, 795, 18, 19, 20, 21, 22, 39, 29, 30, 31, 791, 792, 786, 15, 16, 17, 787, 23, 24, 25, 26, 27, 28, 785, 6, 10], k ∉ ks) (tN : zRkT e b m G1 B T (zTau B)) (jN : zRkJ e b m G1 B T) : zRc e b m G1 B T Q P := by
  have sub : ∀ l : List Nat, (∀ k ∈ l, k ∈ [1, 2, 3, 4, 5, 784, 788, 789, 790, 793, 795, 18, 19, 20, 21, 22, 39, 29, 30, 31, 791, 792, 786, 15, 16, 17, 787, 23, 24, 25, 26, 27, 28, 785, 6, 10]) → ∀ k ∈ l, k ∉ ks := fun l w k z => hk k (w k z)
  have x := zSx_fw hlo w
  exact ⟨⟨zR1_A q (sub _ (by decide)) (zR1_G x (by decide) r1), zR2_A q (sub _ (by decide)) (zR2_G x (by decide) r2), zR3_A q (sub _ (by decide)) (zR3_G x (by decide) r3), zR4_A q (sub _ (by decide)) (zR4_G x (by decide) r4)⟩, tN, zRkQ_A q (sub _ (by decide)) (zRkQ_fw hT hlo w ⟨hS 0 (by decide), hS 3 (by decide), hS 528 (by decide), hS 529 (by decide), hS 530 (by decide)⟩ qR), zRkP_A q (sub _ (by decide)) (zRkP_fw hT hlo w (fun c hc => hS c (by revert hc; revert c; decide)) pR), jN, zDst_fw hT hlo w (hS 0 (by decide)) (zLs_0 tR qR pR jR) dR⟩
theorem zRf_fw {m : Int} {S : List Nat} {G G1 : gH} (hlo : m + 45 < G 9 0 0) (w : zFW m S G G1) : zRf m G G1 := fun c i j z i1 i2 => w.2 c i j z (by omega) (by omega)
theorem c_C_paper {e : gE} {b : Nat} {m : Int} {G : gH} {A : zA} {p1 p2 p3 p4 : Int} (hR : zRel e b m G A) (hB : zB 512 A) : GX e b m m_C_paper [(2, ((b : Int) + 1)), (0, p1), (0, p2), (0, p3), (0, p4)] G 0 0 (zCQ e b m G (zfPaper A p1 p2 p3 p4)) := by
  refine GM.tg fun hTg => GM.inv fun hF => ?_
  have hlo := fx_lo hF
  have hr := hR
  obtain ⟨T, Q, P, ⟨r1, r2, r3, r4⟩, hT, hQ, hP, hJ, hD⟩ := hr
  obtain ⟨y1, y2, y3⟩ := zTa_p hT hB
  have bp : 0 ≤ A 13 p1 ∧ A 13 p1 ≤ 6 := hB 13 p1
  refine GM.ofEV (by decide) (Nat.le_of_ble_eq_true rfl) (sg_C_paper_0 ?_)
  rw [zTa_e hT]
  by_cases ht : zTh A p1
  · obtain ⟨⟨⟨w2, w3⟩, -⟩, -, ⟨⟨w4, -⟩, -⟩⟩ := hT.2.1 p1 ht.1 ht.2
    have t0 : T p1 ≠ 0 := by omega
    rw [if_pos ht, w4]
    refine ⟨⟨y1, y2, y3 p1, fun _ q1 q2 q3 q4 => ⟨w2, w2, fun q5 => ?_, fun q5 => ?_⟩, fun z => absurd z t0⟩, fun z => ?_⟩
    · rw [show zfPaper A p1 p2 p3 p4 = (A 13 p1 + 1, zU (zU (zU (zU A 32 (6 * p1 + A 13 p1) p2) 33 (6 * p1 + A 13 p1) p3) 34 (6 * p1 + A 13 p1) p4) 13 p1 (A 13 p1 + 1)) from by unfold zfPaper; rw [if_neg (fun z => z ht), if_neg (by omega), if_neg (by omega)]]
      refine GM.mono (c_addPaper hT hB ht q5) ?_
      rintro v G1 ⟨k1, k2, k3⟩
      have qc : zCh [32, 33, 34, 13] A (zU (zU (zU (zU A 32 (6 * p1 + A 13 p1) p2) 33 (6 * p1 + A 13 p1) p3) 34 (6 * p1 + A 13 p1) p4) 13 p1 (A 13 p1 + 1)) := zCh_t (zCh_t (zCh_t zCh_u zCh_u) zCh_u) zCh_u
      refine zCQ_mk k1 (zRc_r (zRel_T hTg hlo r1 r2 r3 r4 hT hQ hP hJ hD k3 (by decide) qc (by decide) ?_ ?_)) (zRf_fw hlo.2 k3)
      · rw [zTau_c qc (by decide)]; exact k2
      · exact zRkJ_A qc (by decide) (zRkJ_fw hTg hlo k3 (by decide) hT hJ)
    · rw [show zfPaper A p1 p2 p3 p4 = zNo A (-7) from by unfold zfPaper; rw [if_neg (fun z => z ht), if_neg (by omega), if_pos (by omega)]]
      exact c_C_refuse hR hB (by decide)
    · have z2 : p2 < 0 ∨ p2 > 9 ∨ p3 < 0 ∨ p3 > p4 ∨ p4 > 200 := by
        rcases z with z | z | z | z
        · have := z.2; omega
        · have := z.2.2; omega
        · have := z.2.2.2; omega
        · have := z.2.2.2.2; omega
      rw [show zfPaper A p1 p2 p3 p4 = zNo A (-6) from by unfold zfPaper; rw [if_neg (fun z => z ht), if_pos z2]]
      exact c_C_refuse hR hB (by decide)
  · rw [if_neg ht, show zfPaper A p1 p2 p3 p4 = zNo A (-1) from by unfold zfPaper; rw [if_pos ht]]
    refine ⟨⟨y1, y2, y3 p1, fun z => absurd rfl z, fun _ => c_C_refuse hR hB (by decide)⟩, fun z => ?_⟩
    rcases z with z | z | z | z <;> exact absurd rfl z.1
/-- a call that changes only cells of the class itself -/
theorem zRc_st {e : gE} {b : Nat} {m : Int} {G G1 : gH} {A B : zA} {ks : List Nat} {T Q P : Int → Int} (hR : zRc e b m G A T Q P) (d : zDyn m G G1) (q : zCh ks A B) (hk : ∀ k ∈ [785, 794, 7, 8, 9, 10, 11, 12, 13, 32, 33, 34, 35, 36, 37, 38, 14, 786, 15, 16, 17, 787, 23, 24, 25, 26, 27, 28, 788, 5, 6, 790], k ∉ ks) (K : zR1 b G A → zR2 b G A → zR3 b G A → zR4 b G A → zR1 b G1 B ∧ zR2 b G1 B ∧ zR3 b G1 B ∧ zR4 b G1 B) : zRc e b m G1 B T Q P := by
  obtain ⟨⟨r1, r2, r3, r4⟩, hT, hQ, hP, hJ, hD⟩ := hR
  have sub : ∀ l : List Nat, (∀ k ∈ l, k ∈ [785, 794, 7, 8, 9, 10, 11, 12, 13, 32, 33, 34, 35, 36, 37, 38, 14, 786, 15, 16, 17, 787, 23, 24, 25, 26, 27, 28, 788, 5, 6, 790]) → ∀ k ∈ l, k ∉ ks := fun l w k z => hk k (w k z)
  refine ⟨K r1 r2 r3 r4, ?_, zRkQ_A q (sub _ (by decide)) (zRkQ_dyn d hQ), zRkP_A q (sub _ (by decide)) (zRkP_dyn d hP), zRkJ_A q (sub _ (by decide)) (zRkJ_dyn d hT hJ), zDst_dyn d hD⟩
  rw [zTau_c q (sub _ (by decide))]
  exact zRkT_B q (sub _ (by decide)) (zRkT_dyn d hT)
