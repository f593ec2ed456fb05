/-! THE CLASS, 38: the plan by rule is made; a plan is taken -/
theorem c_choose {e : gE} {b : Nat} {m : Int} {G : gH} {a v : Int} (h : G 0 a 0 = 10) (hb : (b : Int) < a) : GX e b m m_Thing_choose [(2, a), (0, v)] G 0 0 (fun _ G1 => G1 = gU G 601 a 0 v) := by
  refine GM.ofEV (by decide) (Nat.le_of_ble_eq_true rfl) (sg_Thing_choose_0 h ⟨hb, ?_⟩)
  rintro _ rfl
  rfl
theorem c_giveTo {e : gE} {b : Nat} {m : Int} {G : gH} {a v : Int} (h : G 0 a 0 = 10) (hb : (b : Int) < a) : GX e b m m_Thing_giveTo [(2, a), (0, v)] G 0 0 (fun _ G1 => G1 = gU G 600 a 0 v) := by
  refine GM.ofEV (by decide) (Nat.le_of_ble_eq_true rfl) (sg_Thing_giveTo_0 h ⟨hb, ?_⟩)
  rintro _ rfl
  rfl
/-- a plan stands in what the jobs choose -/
def zPd (e : gE) (b : Nat) (m : Int) (G0 G : gH) (A : zA) (T F : Int → Int) : Prop := (∃ n1 O1 n2 O2 C, zPs e b m G0 G A T n1 O1 n2 O2 C ∧ ∀ u, zTh A u → zJb A u → C u = F u) ∧ ∀ u, zTh A u → zIn A u → ¬ zJb A u → F u = -1
theorem c_makeByRule {e : gE} {b : Nat} {m : Int} {G0 : gH} {A : zA} {T Q P : Int → Int} (hR : zRo e b m G0 A T Q P) (hB : zB 512 A) (hI : zIr A) (hWf : zWf A) (hph : A 788 0 = 1) : GX e b m m_Planner_makeByRule [(2, ((b : Int) + 12)), (0, A 789 0), (0, A 790 0)] G0 32 1280 (fun v G1 => v = (zRule A).2 ∧ zPd e b m G0 G1 A T (zRule A).1) := by
  refine GM.tg fun hTg => GM.inv fun hF => ?_
  have hlo := fx_lo hF
  have b0 : 0 ≤ A 785 0 ∧ A 785 0 ≤ 16 := hB 785 0
  have hr := hR
  obtain ⟨⟨r1, -⟩, hT, hQ, hP, hJ, hD⟩ := hr
  refine GM.ofEV (by decide) (Nat.le_of_ble_eq_true rfl) (sg_Planner_makeByRule_0 ⟨0, 0, 32, 1280, rfl, rfl, GM.mono (c_gather hR hB hI hWf hph) ?_⟩)
  rintro _ G1 ⟨n1, O1, n2, O2, hz⟩
  have hz1 : zPs e b m G0 G1 A T n1 O1 n2 O2 (fun _ => -1) := ⟨hz.1, hz.2.1, hz.2.2.1, hz.2.2.2⟩
  have en2 := hz.2.2.1.2
  refine zloop (P := fun i => ∀ (G : gH) (C : Int → Int) (x : Int), x = (zRu A O2 i).2 → zPs e b m G0 G A T n1 O1 n2 O2 C → (∀ u, zTh A u → zJb A u → C u = (zRu A O2 i).1 u) → (∀ u, zTh A u → zIn A u → ¬ zJb A u → (zRu A O2 i).1 u = -1) → EX e b m m_Planner_makeByRule _ 0 0 10 [(2, ((b : Int) + 12)), (0, A 789 0), (9, 0), (0, x), (0, i), (9, 0), (9, 0)] [] G) (i := 0) n2 en2.1.1 ?_ ?_ G1 (fun _ => -1) 0 rfl hz1 (fun _ _ _ => rfl) (fun _ _ _ _ => rfl)
  · intro G C x hx hp hC hN
    refine sg_Planner_makeByRule_10 ?_
    rw [hp.2.1.2.2.1]
    refine ⟨hp.2.1.2.1, fun _ => ?_, fun z => absurd z (by omega)⟩
    rw [zRule_u en2]
    exact ⟨hx, ⟨n1, O1, n2, O2, C, hp, hC⟩, hN⟩
  · intro i i1 i2 st G C x hx hp hC hN
    have l2 := hp.2.1.2
    have w := zAL_g l2 ⟨i1, i2⟩
    obtain ⟨⟨o1, o2⟩, oj⟩ := en2.2.1 i i1 i2
    have hT1 := zPF_T hTg hlo hD hp.1.1 hT
    have hQ1 := zPF_Q hTg hlo hD hp.1.1 hQ
    have t1 := (hT1.2.1 (O2 i) o1 o2).1
    have bw : 0 ≤ A 8 (O2 i) ∧ A 8 (O2 i) ≤ 100 := hB 8 _
    have bs := zRu_b (O := O2) hB i i1
    have eS := zRu_s (A := A) (O := O2) i1
    have n16 := en2.1
    refine sg_Planner_makeByRule_10 ?_
    rw [l2.2.1, w.2.2.1]
    refine ⟨l2.1, fun z => absurd z (by omega), fun _ => ⟨w.1, ⟨i1, i2⟩, w.2.1, w.2.2.2, GM.mono (c_earliest hB hI hp hT1 hQ1 ⟨o1, o2⟩ oj hC hN) ?_⟩⟩
    rintro v G2 ⟨hv, rfl⟩
    refine ⟨w.2.2.2, GM.mono (c_choose (v := v) w.2.2.2 (by have := t1.1.2; omega)) ?_⟩
    rintro _ G3 rfl
    have hp3 := zPs_ch (v := v) hlo.1 hp hT1 ⟨o1, o2⟩
    have k0 : gU G2 601 (T (O2 i)) 0 v 0 (T (O2 i)) 0 = 10 := (gU_c _ (by decide)).trans w.2.2.2
    have kw : gU G2 601 (T (O2 i)) 0 v 594 (T (O2 i)) 0 = A 8 (O2 i) := (gU_c _ (by decide)).trans t1.2.2.2.1
    have hC3 : ∀ u, zTh A u → zJb A u → zSet C (O2 i) v u = (zRu A O2 (i + 1)).1 u := fun u u1 u2 => by
      rw [eS]
      show zSet C (O2 i) v u = zSet (zRu A O2 i).1 (O2 i) (zTm A (zRu A O2 i).1 (O2 i) (A 786 0)).1 u
      rw [← hv]
      by_cases z : u = O2 i
      · rw [z, zSet_eq, zSet_eq]
      · rw [zSet_ne z, zSet_ne z]; exact hC u u1 u2
    have hN3 : ∀ u, zTh A u → zIn A u → ¬ zJb A u → (zRu A O2 (i + 1)).1 u = -1 := fun u u1 u2 u3 => by
      rw [eS]
      show zSet (zRu A O2 i).1 (O2 i) (zTm A (zRu A O2 i).1 (O2 i) (A 786 0)).1 u = -1
      rw [zSet_ne (fun z => u3 (by rw [z]; exact oj))]
      exact hN u u1 u2 u3
    rw [kw]
    refine ⟨fun c => ⟨k0, k0, by omega, by omega, ?_⟩, fun c => ⟨by omega, by omega, ?_⟩⟩
    · refine st _ _ _ ?_ hp3 hC3 hN3
      rw [eS]
      show x + A 8 (O2 i) = (zRu A O2 i).2 + if (zTm A (zRu A O2 i).1 (O2 i) (A 786 0)).1 = -1 then 0 else A 8 (O2 i)
      rw [← hv, if_neg c, hx]
    · refine st _ _ _ ?_ hp3 hC3 hN3
      rw [eS]
      show x + 0 = (zRu A O2 i).2 + if (zTm A (zRu A O2 i).1 (O2 i) (A 786 0)).1 = -1 then 0 else A 8 (O2 i)
      rw [← hv, if_pos c, hx]
/-- behind the planner the class's state is as it was -/
theorem zPs_rc {e : gE} {b : Nat} {m : Int} {G0 G : gH} {A : zA} {T Q P O1 O2 C : Int → Int} {n1 n2 : Int} (hTg : ∀ a : Int, G0 0 a 0 ≠ 0 → 0 < a ∧ a < G0 9 0 0) (hF : gFix b m G0) (hR : zRo e b m G0 A T Q P) (h : zPs e b m G0 G A T n1 O1 n2 O2 C) : zRc e b m G A T Q P ∧ zRf m G0 G := by
  have hlo := fx_lo hF
  obtain ⟨⟨r1, r2, r3, r4⟩, hT, hQ, hP, hJ, hD⟩ := hR
  obtain ⟨⟨pf, dst⟩, ⟨l1, l2⟩, ⟨en1, en2⟩, me⟩ := h
  have sx := zPF_x hlo pf
  have hL := zLs_1 hT hQ hP hJ
  obtain ⟨⟨x1, y1, z1⟩, ⟨x2, y2, z2⟩, ⟨x3, y3, z3⟩⟩ := hJ
  have k5 : ∀ {a tg n : Int} {f : Int → Int}, zAL e b m G0 a tg n f → G0 0 (G0 17 a 0) 0 = 103 ∨ G0 0 (G0 17 a 0) 0 = 105 := fun h => h.2.2.2.elim (fun z => Or.inr z.2.2.1) (fun z => Or.inl z.2.1)
  refine ⟨⟨⟨zR1_G sx (by decide +kernel) r1, zR2_G sx (by decide +kernel) r2, zR3_G sx ⟨by decide +kernel, by decide +kernel, by decide +kernel⟩ r3, zR4_G sx (by decide +kernel) r4⟩, zPF_T hTg hlo hD pf hT, zPF_Q hTg hlo hD pf hQ, zPF_P hTg hlo hD pf hP, ⟨⟨n1, fun k => T (O1 k), l1, fun _ => ⟨zJb A, O1, zEnum_congr en1 (fun _ _ _ => Iff.rfl) (fun t t1 t2 tj => ?_), fun i _ _ => rfl, fun t t1 t2 t3 => ⟨⟨fun z => z.2, fun z => ⟨t3, z⟩⟩, fun z => ?_⟩⟩⟩, ⟨n2, fun k => T (O2 k), l2⟩, x3, y3, zPF_L hTg hlo hD pf (by decide) (by decide) (by decide) z3⟩, dst⟩, zPF_f hF (fun k hk => ?_) pf⟩
  · have w := me t t1 t2 tj
    rw [w.1, w.2.1]
    rfl
  · have w := me t t1 t2 z
    exact ⟨w.1, w.2.1⟩
  · rcases hk with z | z | z | z | z | z <;> subst z
    · exact k5 hT.1
    · exact k5 hQ.1
    · exact k5 z1
    · exact k5 z2
    · exact k5 hP.1
    · exact k5 z3
/-- nothing but the teams of things has changed -/
def zF6 (m : Int) (G G1 : gH) : Prop := ∀ (c : Nat) (i j : Int), ¬ (c = 600 ∧ m + 45 < i) → G1 c i j = G c i j
theorem zF6_t {m : Int} {G G1 G2 : gH} (h : zF6 m G G1) (h2 : zF6 m G1 G2) : zF6 m G G2 := fun c i j z => (h2 c i j z).trans (h c i j z)
theorem zF6_u {m : Int} {G : gH} {a v : Int} (h : m + 45 < a) : zF6 m G (gU G 600 a 0 v) := fun c i j z => gU_ne (fun y => z ⟨y.1, by omega⟩)
theorem zF6_o {m : Int} {G G1 : gH} (h : zF6 m G G1) (c : Nat) (i j : Int) (hc : c ≠ 600) : G1 c i j = G c i j := h c i j (fun z => hc z.1)
theorem zF6_fw {m : Int} {G G1 : gH} (h : zF6 m G G1) : zFW m [600] G G1 := ⟨Int.le_of_eq (zF6_o h 9 0 0 (by decide)).symm, fun c i j c9 hi z => h c i j (fun y => z ⟨by rw [y.1]; exact List.mem_cons_self, y.2⟩)⟩
theorem zRkT_tm {e : gE} {b : Nat} {m : Int} {G G1 : gH} {A : zA} {T τ σ : Int → Int} (h : zRkT e b m G A T τ) (w : zF6 m G G1) (hv : ∀ t, zTh A t → G1 600 (T t) 0 = σ t) : zRkT e b m G1 A T σ := by
  obtain ⟨h1, h2, h3⟩ := h
  have o := zF6_o w
  refine ⟨zAL_fr (by decide) h1 (fun i j _ => o _ _ _ (by decide)) (o _ _ _ (by decide)) (o _ _ _ (by decide)) (fun _ j => o _ _ _ (by decide)), fun t t1 t2 => ?_, fun s t s1 s2 t1 t2 => ?_⟩
  · obtain ⟨a, b, c⟩ := h2 t t1 t2
    refine ⟨?_, zSlR_fr b (fun i j _ => o _ _ _ (by decide)) (o _ _ _ (by decide)) (o _ _ _ (by decide)) (fun j => o _ _ _ (by decide)), zPpR_fr c (fun i j _ => o _ _ _ (by decide)) (o _ _ _ (by decide)) (o _ _ _ (by decide)) (fun j => o _ _ _ (by decide))⟩
    obtain ⟨⟨a1, a2⟩, a3, a4, a5, a6, a7, a8, a9, a10, a11⟩ := a
    exact ⟨⟨(o _ _ _ (by decide)).trans a1, a2⟩, (o _ _ _ (by decide)).trans a3, (o _ _ _ (by decide)).trans a4, (o _ _ _ (by decide)).trans a5, (o _ _ _ (by decide)).trans a6, (o _ _ _ (by decide)).trans a7, (o _ _ _ (by decide)).trans a8, (o _ _ _ (by decide)).trans a9, hv t ⟨t1, t2⟩, fun z => (o _ _ _ (by decide)).trans (a11 z)⟩
  · rw [o 604 _ _ (by decide), o 604 _ _ (by decide), o 606 _ _ (by decide), o 606 _ _ (by decide)]
    exact h3 s t s1 s2 t1 t2
set_option maxRecDepth 20000 in
set_option maxHeartbeats 4000000 in
theorem sg_Planner_takeAsThePlan_0 {e : gE} {b : Nat} {m : Int} {Z : Int → gH → Prop} {kc ks : Nat} {G : gH} (h : EX e b m m_Planner_takeAsThePlan Z kc ks 2 [(2, ((b : Int) + 12)), (0, 0)] [] G) : EX e b m m_Planner_takeAsThePlan Z kc ks 0 [(2, ((b : Int) + 12)), (9, 0)] [] G := by
  refine e_iconst d_Planner_takeAsThePlan_0 (by decide) ?_
  refine e_istore_n (ls' := [(2, ((b : Int) + 12)), (0, 0)]) d_Planner_takeAsThePlan_1 (by decide) rfl ?_
  exact e_forget (ls' := [(2, ((b : Int) + 12)), (0, 0)]) ⟨Or.inr rfl, Or.inr rfl, trivial⟩ h
set_option maxRecDepth 20000 in
set_option maxHeartbeats 4000000 in
theorem sg_Planner_takeAsThePlan_2 {e : gE} {b : Nat} {m : Int} {Z : Int → gH → Prop} {kc ks : Nat} {G : gH} {x1 : Int} (h : (G 0 ((b : Int) + 2) 0 = 1) ∧ (((G 18 ((b : Int) + 2) 0) ≤ x1 → EX e b m m_Planner_takeAsThePlan Z kc ks 55 [(2, ((b : Int) + 12)), (0, 0)] [] G) ∧ (x1 < (G 18 ((b : Int) + 2) 0) → (G 0 (G 17 ((b : Int) + 2) 0) 0 = 103) ∧ ((0 ≤ x1 ∧ x1 < G 18 ((b : Int) + 2) 0) ∧ ((G 18 ((b : Int) + 2) 0 ≤ G 0 (G 17 ((b : Int) + 2) 0) 1) ∧ ((G 0 (G 3 (G 17 ((b : Int) + 2) 0) x1) 0 = 10) ∧ ((G 0 (G 3 (G 17 ((b : Int) + 2) 0) x1) 0 = 10) ∧ ((inI (100 + 100)) ∧ (((¬ (100 ≤ G 598 (G 3 (G 17 ((b : Int) + 2) 0) x1) 0 ∧ G 598 (G 3 (G 17 ((b : Int) + 2) 0) x1) 0 < 100 + 100)) → (inI (x1 + 1)) ∧ EX e b m m_Planner_takeAsThePlan Z kc ks 2 [(2, ((b : Int) + 12)), (0, (x1 + 1))] [] G) ∧ ((100 ≤ G 598 (G 3 (G 17 ((b : Int) + 2) 0) x1) 0 ∧ G 598 (G 3 (G 17 ((b : Int) + 2) 0) x1) 0 < 100 + 100) → GX e b m m_Thing_giveTo [(2, (G 3 (G 17 ((b : Int) + 2) 0) x1)), (0, (-1))] G 0 0 (fun _ G16 => (inI (x1 + 1)) ∧ EX e b m m_Planner_takeAsThePlan Z kc ks 2 [(2, ((b : Int) + 12)), (0, (x1 + 1))] [] G16))))))))))) : EX e b m m_Planner_takeAsThePlan Z kc ks 2 [(2, ((b : Int) + 12)), (0, x1)] [] G := by
  refine e_iload_n d_Planner_takeAsThePlan_2 rfl ?_
  refine e_aload_n d_Planner_takeAsThePlan_3 rfl ?_
  refine gx_Planner_9 d_Planner_takeAsThePlan_4 rfl ?_
  refine EV.inv fun hFf1 => ?_
  have f1 := (fx_ct 1 rfl hFf1).1
  obtain ⟨o2, h⟩ := h
  refine e_callV m_AL_size 0 lw_good d_Planner_takeAsThePlan_7 (k_AL_size _) ⟨Nat.le_of_ble_eq_true rfl, Nat.le_of_ble_eq_true rfl⟩ w_635 w_330 w_331 (q_AL _) rfl f1 (args := []) rfl rfl (Nat.le_of_ble_eq_true rfl) (kc' := kc) (ks' := ks) (mc := 0) (ms := 0) rfl rfl (c_AL_size o2) (pureK ?_)
  refine e_icmp_ge (tgt := 53) d_Planner_takeAsThePlan_10 (by decide) (fun q3 => ?_) (fun q4 => ?_)
  · have h := h.1 q3
    refine e_iconst d_Planner_takeAsThePlan_53 (by decide) ?_
    refine e_istore_n (ls' := [(2, ((b : Int) + 12)), (0, 0)]) d_Planner_takeAsThePlan_54 (by decide) rfl ?_
    exact e_forget (ls' := [(2, ((b : Int) + 12)), (0, 0)]) ⟨Or.inr rfl, Or.inr rfl, trivial⟩ h
  · have h := h.2 q4
    refine e_aload_n d_Planner_takeAsThePlan_13 rfl ?_
    refine gx_Planner_9 d_Planner_takeAsThePlan_14 rfl ?_
    refine e_iload_n d_Planner_takeAsThePlan_17 rfl ?_
    refine EV.inv fun hFf5 => ?_
    have f5 := (fx_ct 1 rfl hFf5).1
    obtain ⟨o6, o7, o8, h⟩ := h
    refine e_callV m_AL_get 0 lw_good d_Planner_takeAsThePlan_18 (k_AL_get _) ⟨Nat.le_of_ble_eq_true rfl, Nat.le_of_ble_eq_true rfl⟩ w_636 w_607 w_608 (q_AL _) rfl f5 (args := [(0, x1)]) rfl rfl (Nat.le_of_ble_eq_true rfl) (kc' := kc) (ks' := ks) (mc := 0) (ms := 0) rfl rfl (c_AL_get o2 o6 o7 o8) (pureK ?_)
    obtain ⟨o9, h⟩ := h
    refine e_cast 9 d_Planner_takeAsThePlan_21 (q_Thing _) w_637 (Or.inr o9) ?_
    refine e_bipush d_Planner_takeAsThePlan_24 (by decide) (by decide) ?_
    obtain ⟨o10, o11, h⟩ := h
    refine e_callV m_Thing_isAt 9 lw_good d_Planner_takeAsThePlan_26 (k_Thing_isAt _) ⟨Nat.le_of_ble_eq_true rfl, Nat.le_of_ble_eq_true rfl⟩ w_638 w_620 w_621 (q_Thing _) rfl o9 (args := [(0, 100)]) rfl rfl (Nat.le_of_ble_eq_true rfl) (kc' := kc) (ks' := ks) (mc := 0) (ms := 0) rfl rfl (c_Thing_isAt o10 o11) (pureK ?_)
    refine e_if_eq (tgt := 47) d_Planner_takeAsThePlan_29 (by decide) (fun q12 => ?_) (fun q13 => ?_)
    · replace q12 := gb0.mp q12
      have h := h.1 q12
      obtain ⟨o18, h⟩ := h
      refine e_iinc (ls' := [(2, ((b : Int) + 12)), (0, (x1 + 1))]) d_Planner_takeAsThePlan_47 rfl (by decide) o18 rfl ?_
      refine e_goto (tgt := 2) d_Planner_takeAsThePlan_50 (by decide) ?_
      exact e_forget (ls' := [(2, ((b : Int) + 12)), (0, (x1 + 1))]) ⟨Or.inr rfl, Or.inr rfl, trivial⟩ h
    · replace q13 := gb1.mp q13
      have h := h.2 q13
      refine e_aload_n d_Planner_takeAsThePlan_32 rfl ?_
      refine gx_Planner_9 d_Planner_takeAsThePlan_33 rfl ?_
      refine e_iload_n d_Planner_takeAsThePlan_36 rfl ?_
      refine EV.inv fun hFf14 => ?_
      have f14 := (fx_ct 1 rfl hFf14).1
      refine e_callV m_AL_get 0 lw_good d_Planner_takeAsThePlan_37 (k_AL_get _) ⟨Nat.le_of_ble_eq_true rfl, Nat.le_of_ble_eq_true rfl⟩ w_636 w_607 w_608 (q_AL _) rfl f14 (args := [(0, x1)]) rfl rfl (Nat.le_of_ble_eq_true rfl) (kc' := kc) (ks' := ks) (mc := 0) (ms := 0) rfl rfl (c_AL_get o2 o6 o7 o8) (pureK ?_)
      refine e_cast 9 d_Planner_takeAsThePlan_40 (q_Thing _) w_637 (Or.inr o9) ?_
      refine e_iconst d_Planner_takeAsThePlan_43 (by decide) ?_
      refine e_callV m_Thing_giveTo 9 lw_good d_Planner_takeAsThePlan_44 (k_Thing_giveTo _) ⟨Nat.le_of_ble_eq_true rfl, Nat.le_of_ble_eq_true rfl⟩ w_782 w_783 w_784 (q_Thing _) rfl o9 (args := [(0, (-1))]) rfl rfl (Nat.le_of_ble_eq_true rfl) (kc' := kc) (ks' := ks) (mc := 0) (ms := 0) rfl rfl h ?_
      intro v15 G16 h
      obtain ⟨o17, h⟩ := h
      refine e_iinc (ls' := [(2, ((b : Int) + 12)), (0, (x1 + 1))]) d_Planner_takeAsThePlan_47 rfl (by decide) o17 rfl ?_
      refine e_goto (tgt := 2) d_Planner_takeAsThePlan_50 (by decide) ?_
      exact e_forget (ls' := [(2, ((b : Int) + 12)), (0, (x1 + 1))]) ⟨Or.inr rfl, Or.inr rfl, trivial⟩ h
set_option maxRecDepth 20000 in
set_option maxHeartbeats 4000000 in
theorem sg_Planner_takeAsThePlan_55 {e : gE} {b : Nat} {m : Int} {Z : Int → gH → Prop} {kc ks : Nat} {G : gH} {x1 : Int} (h : (G 0 ((b : Int) + 13) 0 = 1) ∧ (((G 18 ((b : Int) + 13) 0) ≤ x1 → Z 0 G) ∧ (x1 < (G 18 ((b : Int) + 13) 0) → (G 0 (G 17 ((b : Int) + 13) 0) 0 = 103) ∧ (0 ≤ x1 ∧ x1 < G 18 ((b : Int) + 13) 0) ∧ (G 18 ((b : Int) + 13) 0 ≤ G 0 (G 17 ((b : Int) + 13) 0) 1) ∧ (G 0 (G 3 (G 17 ((b : Int) + 13) 0) x1) 0 = 10) ∧ (G 0 (G 3 (G 17 ((b : Int) + 13) 0) x1) 0 = 10) ∧ GX e b m m_Thing_giveTo [(2, (G 3 (G 17 ((b : Int) + 13) 0) x1)), (0, (G 601 (G 3 (G 17 ((b : Int) + 13) 0) x1) 0))] G 0 0 (fun _ G13 => (inI (x1 + 1)) ∧ EX e b m m_Planner_takeAsThePlan Z kc ks 55 [(2, ((b : Int) + 12)), (0, (x1 + 1))] [] G13)))) : EX e b m m_Planner_takeAsThePlan Z kc ks 55 [(2, ((b : Int) + 12)), (0, x1)] [] G := by
  refine e_iload_n d_Planner_takeAsThePlan_55 rfl ?_
  refine e_aload_n d_Planner_takeAsThePlan_56 rfl ?_
  refine gx_Planner_25 d_Planner_takeAsThePlan_57 rfl ?_
  refine EV.inv fun hFf1 => ?_
  have f1 := (fx_ct 12 rfl hFf1).1
  obtain ⟨o2, h⟩ := h
  refine e_callV m_AL_size 0 lw_good d_Planner_takeAsThePlan_60 (k_AL_size _) ⟨Nat.le_of_ble_eq_true rfl, Nat.le_of_ble_eq_true rfl⟩ w_635 w_330 w_331 (q_AL _) rfl f1 (args := []) rfl rfl (Nat.le_of_ble_eq_true rfl) (kc' := kc) (ks' := ks) (mc := 0) (ms := 0) rfl rfl (c_AL_size o2) (pureK ?_)
  refine e_icmp_ge (tgt := 100) d_Planner_takeAsThePlan_63 (by decide) (fun q3 => ?_) (fun q4 => ?_)
  · have h := h.1 q3
    exact e_vret d_Planner_takeAsThePlan_100 rfl h
  · have h := h.2 q4
    refine e_aload_n d_Planner_takeAsThePlan_66 rfl ?_
    refine gx_Planner_25 d_Planner_takeAsThePlan_67 rfl ?_
    refine e_iload_n d_Planner_takeAsThePlan_70 rfl ?_
    refine EV.inv fun hFf5 => ?_
    have f5 := (fx_ct 12 rfl hFf5).1
    obtain ⟨o6, o7, o8, h⟩ := h
    refine e_callV m_AL_get 0 lw_good d_Planner_takeAsThePlan_71 (k_AL_get _) ⟨Nat.le_of_ble_eq_true rfl, Nat.le_of_ble_eq_true rfl⟩ w_636 w_607 w_608 (q_AL _) rfl f5 (args := [(0, x1)]) rfl rfl (Nat.le_of_ble_eq_true rfl) (kc' := kc) (ks' := ks) (mc := 0) (ms := 0) rfl rfl (c_AL_get o2 o6 o7 o8) (pureK ?_)
    obtain ⟨o9, h⟩ := h
    refine e_cast 9 d_Planner_takeAsThePlan_74 (q_Thing _) w_637 (Or.inr o9) ?_
    refine e_aload_n d_Planner_takeAsThePlan_77 rfl ?_
    refine gx_Planner_25 d_Planner_takeAsThePlan_78 rfl ?_
    refine e_iload_n d_Planner_takeAsThePlan_81 rfl ?_
    refine EV.inv fun hFf10 => ?_
    have f10 := (fx_ct 12 rfl hFf10).1
    refine e_callV m_AL_get 0 lw_good d_Planner_takeAsThePlan_82 (k_AL_get _) ⟨Nat.le_of_ble_eq_true rfl, Nat.le_of_ble_eq_true rfl⟩ w_636 w_607 w_608 (q_AL _) rfl f10 (args := [(0, x1)]) rfl rfl (Nat.le_of_ble_eq_true rfl) (kc' := kc) (ks' := ks) (mc := 0) (ms := 0) rfl rfl (c_AL_get o2 o6 o7 o8) (pureK ?_)
    refine e_cast 9 d_Planner_takeAsThePlan_85 (q_Thing _) w_637 (Or.inr o9) ?_
    obtain ⟨o11, h⟩ := h
    refine e_callV m_Thing_choice 9 lw_good d_Planner_takeAsThePlan_88 (k_Thing_choice _) ⟨Nat.le_of_ble_eq_true rfl, Nat.le_of_ble_eq_true rfl⟩ w_774 w_775 w_776 (q_Thing _) rfl o9 (args := []) rfl rfl (Nat.le_of_ble_eq_true rfl) (kc' := kc) (ks' := ks) (mc := 0) (ms := 0) rfl rfl (c_Thing_choice o11) (pureK ?_)
    refine e_callV m_Thing_giveTo 9 lw_good d_Planner_takeAsThePlan_91 (k_Thing_giveTo _) ⟨Nat.le_of_ble_eq_true rfl, Nat.le_of_ble_eq_true rfl⟩ w_782 w_783 w_784 (q_Thing _) rfl o9 (args := [(0, (G 601 (G 3 (G 17 ((b : Int) + 13) 0) x1) 0))]) rfl rfl (Nat.le_of_ble_eq_true rfl) (kc' := kc) (ks' := ks) (mc := 0) (ms := 0) rfl rfl h ?_
    intro v12 G13 h
    obtain ⟨o14, h⟩ := h
    refine e_iinc (ls' := [(2, ((b : Int) + 12)), (0, (x1 + 1))]) d_Planner_takeAsThePlan_94 rfl (by decide) o14 rfl ?_
    refine e_goto (tgt := 55) d_Planner_takeAsThePlan_97 (by decide) ?_
    exact e_forget (ls' := [(2, ((b : Int) + 12)), (0, (x1 + 1))]) ⟨Or.inr rfl, Or.inr rfl, trivial⟩ h
set_option maxRecDepth 20000 in
set_option maxHeartbeats 4000000 in
theorem sg_Hours_inRooms_0 {e : gE} {b : Nat} {m : Int} {Z : Int → gH → Prop} {kc ks : Nat} {G : gH} (h : EX e b m m_Hours_inRooms Z kc ks 4 [(2, ((b : Int) + 10)), (0, 0), (0, 0)] [] G) : EX e b m m_Hours_inRooms Z kc ks 0 [(2, ((b : Int) + 10)), (9, 0), (9, 0)] [] G := by
  refine e_iconst d_Hours_inRooms_0 (by decide) ?_
  refine e_istore_n (ls' := [(2, ((b : Int) + 10)), (0, 0), (9, 0)]) d_Hours_inRooms_1 (by decide) rfl ?_
  refine e_iconst d_Hours_inRooms_2 (by decide) ?_
  refine e_istore_n (ls' := [(2, ((b : Int) + 10)), (0, 0), (0, 0)]) d_Hours_inRooms_3 (by decide) rfl ?_
  exact e_forget (ls' := [(2, ((b : Int) + 10)), (0, 0), (0, 0)]) ⟨Or.inr rfl, Or.inr rfl, Or.inr rfl, trivial⟩ h
set_option maxRecDepth 20000 in
set_option maxHeartbeats 4000000 in
theorem sg_Hours_inRooms_4 {e : gE} {b : Nat} {m : Int} {Z : Int → gH → Prop} {kc ks : Nat} {G : gH} {x1 x2 : Int} (h : (G 0 ((b : Int) + 2) 0 = 1) ∧ (((G 18 ((b : Int) + 2) 0) ≤ x2 → Z x1 G) ∧ (x2 < (G 18 ((b : Int) + 2) 0) → (G 0 (G 17 ((b : Int) + 2) 0) 0 = 103) ∧ ((0 ≤ x2 ∧ x2 < G 18 ((b : Int) + 2) 0) ∧ ((G 18 ((b : Int) + 2) 0 ≤ G 0 (G 17 ((b : Int) + 2) 0) 1) ∧ ((G 0 (G 3 (G 17 ((b : Int) + 2) 0) x2) 0 = 10) ∧ ((G 0 (G 3 (G 17 ((b : Int) + 2) 0) x2) 0 = 10) ∧ ((inI (100 + 100)) ∧ (((¬ (100 ≤ G 598 (G 3 (G 17 ((b : Int) + 2) 0) x2) 0 ∧ G 598 (G 3 (G 17 ((b : Int) + 2) 0) x2) 0 < 100 + 100)) → (inI (x1 + 0)) ∧ (inI (x2 + 1)) ∧ EX e b m m_Hours_inRooms Z kc ks 4 [(2, ((b : Int) + 10)), (0, (x1 + 0)), (0, (x2 + 1))] [] G) ∧ ((100 ≤ G 598 (G 3 (G 17 ((b : Int) + 2) 0) x2) 0 ∧ G 598 (G 3 (G 17 ((b : Int) + 2) 0) x2) 0 < 100 + 100) → (inI (x1 + 1)) ∧ (inI (x2 + 1)) ∧ EX e b m m_Hours_inRooms Z kc ks 4 [(2, ((b : Int) + 10)), (0, (x1 + 1)), (0, (x2 + 1))] [] G)))))))))) : EX e b m m_Hours_inRooms Z kc ks 4 [(2, ((b : Int) + 10)), (0, x1), (0, x2)] [] G := by
  refine e_iload_n d_Hours_inRooms_4 rfl ?_
  refine e_aload_n d_Hours_inRooms_5 rfl ?_
  refine gx_Hours_9 d_Hours_inRooms_6 rfl ?_
  refine EV.inv fun hFf1 => ?_
  have f1 := (fx_ct 1 rfl hFf1).1
  obtain ⟨o2, h⟩ := h
  refine e_callV m_AL_size 0 lw_good d_Hours_inRooms_9 (k_AL_size _) ⟨Nat.le_of_ble_eq_true rfl, Nat.le_of_ble_eq_true rfl⟩ w_329 w_330 w_331 (q_AL _) rfl f1 (args := []) rfl rfl (Nat.le_of_ble_eq_true rfl) (kc' := kc) (ks' := ks) (mc := 0) (ms := 0) rfl rfl (c_AL_size o2) (pureK ?_)
  refine e_icmp_ge (tgt := 48) d_Hours_inRooms_12 (by decide) (fun q3 => ?_) (fun q4 => ?_)
  · have h := h.1 q3
    refine e_iload_n d_Hours_inRooms_48 rfl ?_
    exact e_iret d_Hours_inRooms_49 rfl h
  · have h := h.2 q4
    refine e_iload_n d_Hours_inRooms_15 rfl ?_
    refine e_aload_n d_Hours_inRooms_16 rfl ?_
    refine gx_Hours_9 d_Hours_inRooms_17 rfl ?_
    refine e_iload_n d_Hours_inRooms_20 rfl ?_
    refine EV.inv fun hFf5 => ?_
    have f5 := (fx_ct 1 rfl hFf5).1
    obtain ⟨o6, o7, o8, h⟩ := h
    refine e_callV m_AL_get 0 lw_good d_Hours_inRooms_21 (k_AL_get _) ⟨Nat.le_of_ble_eq_true rfl, Nat.le_of_ble_eq_true rfl⟩ w_606 w_607 w_608 (q_AL _) rfl f5 (args := [(0, x2)]) rfl rfl (Nat.le_of_ble_eq_true rfl) (kc' := kc) (ks' := ks) (mc := 0) (ms := 0) rfl rfl (c_AL_get o2 o6 o7 o8) (pureK ?_)
    obtain ⟨o9, h⟩ := h
    refine e_cast 9 d_Hours_inRooms_24 (q_Thing _) w_618 (Or.inr o9) ?_
    refine e_bipush d_Hours_inRooms_27 (by decide) (by decide) ?_
    obtain ⟨o10, o11, h⟩ := h
    refine e_callV m_Thing_isAt 9 lw_good d_Hours_inRooms_29 (k_Thing_isAt _) ⟨Nat.le_of_ble_eq_true rfl, Nat.le_of_ble_eq_true rfl⟩ w_619 w_620 w_621 (q_Thing _) rfl o9 (args := [(0, 100)]) rfl rfl (Nat.le_of_ble_eq_true rfl) (kc' := kc) (ks' := ks) (mc := 0) (ms := 0) rfl rfl (c_Thing_isAt o10 o11) (pureK ?_)
    refine e_if_eq (tgt := 39) d_Hours_inRooms_32 (by decide) (fun q12 => ?_) (fun q13 => ?_)
    · replace q12 := gb0.mp q12
      have h := h.1 q12
      refine e_iconst d_Hours_inRooms_39 (by decide) ?_
      obtain ⟨o14, h⟩ := h
      refine e_iadd d_Hours_inRooms_40 o14 ?_
      refine e_istore_n (ls' := [(2, ((b : Int) + 10)), (0, (x1 + 0)), (0, x2)]) d_Hours_inRooms_41 (by decide) rfl ?_
      obtain ⟨o15, h⟩ := h
      refine e_iinc (ls' := [(2, ((b : Int) + 10)), (0, (x1 + 0)), (0, (x2 + 1))]) d_Hours_inRooms_42 rfl (by decide) o15 rfl ?_
      refine e_goto (tgt := 4) d_Hours_inRooms_45 (by decide) ?_
      exact e_forget (ls' := [(2, ((b : Int) + 10)), (0, (x1 + 0)), (0, (x2 + 1))]) ⟨Or.inr rfl, Or.inr rfl, Or.inr rfl, trivial⟩ h
    · replace q13 := gb1.mp q13
      have h := h.2 q13
      refine e_iconst d_Hours_inRooms_35 (by decide) ?_
      refine e_goto (tgt := 40) d_Hours_inRooms_36 (by decide) ?_
      obtain ⟨o16, h⟩ := h
      refine e_iadd d_Hours_inRooms_40 o16 ?_
      refine e_istore_n (ls' := [(2, ((b : Int) + 10)), (0, (x1 + 1)), (0, x2)]) d_Hours_inRooms_41 (by decide) rfl ?_
      obtain ⟨o17, h⟩ := h
      refine e_iinc (ls' := [(2, ((b : Int) + 10)), (0, (x1 + 1)), (0, (x2 + 1))]) d_Hours_inRooms_42 rfl (by decide) o17 rfl ?_
      refine e_goto (tgt := 4) d_Hours_inRooms_45 (by decide) ?_
      exact e_forget (ls' := [(2, ((b : Int) + 10)), (0, (x1 + 1)), (0, (x2 + 1))]) ⟨Or.inr rfl, Or.inr rfl, Or.inr rfl, trivial⟩ h
theorem c_take {e : gE} {b : Nat} {m : Int} {G0 G : gH} {A : zA} {T O1 O2 C : Int → Int} {n1 n2 : Int} (hB : zB 512 A) (hlo : (b : Int) + 53 < m) (hps : zPs e b m G0 G A T n1 O1 n2 O2 C) (hT : zRkT e b m G A T (zTau A)) : GX e b m m_Planner_takeAsThePlan [(2, ((b : Int) + 12))] G 0 0 (fun _ G1 => zF6 m G G1 ∧ ∀ t, zTh A t → G1 600 (T t) 0 = if zIn A t then (if zFar A t ≠ -1 then C t else -1) else zTau A t) := by
  obtain ⟨-, ⟨l1, -⟩, ⟨en1, -⟩, me⟩ := hps
  have en := en1.1
  have b0 : 0 ≤ A 785 0 ∧ A 785 0 ≤ 16 := hB 785 0
  refine GM.ofEV (by decide) (Nat.le_of_ble_eq_true rfl) (sg_Planner_takeAsThePlan_0 ?_)
  refine zloop (P := fun i => ∀ G1 : gH, zF6 m G G1 → (∀ t, zTh A t → G1 600 (T t) 0 = if t < i ∧ zIn A t then -1 else zTau A t) → EX e b m m_Planner_takeAsThePlan _ 0 0 2 [(2, ((b : Int) + 12)), (0, i)] [] G1) (i := 0) (A 785 0) (by omega) ?_ ?_ G (fun _ _ _ _ => rfl) (fun t ht => by rw [if_neg (by have := ht.1; omega)]; exact (hT.2.1 t ht.1 ht.2).1.2.2.2.2.2.2.2.2.1)
  · intro G1 w hv
    have o := zF6_o w
    refine sg_Planner_takeAsThePlan_2 ?_
    rw [o 18 _ _ (by decide), hT.1.2.1]
    refine ⟨(o 0 _ _ (by decide)).trans hT.1.1, fun _ => ?_, fun z => absurd z (by omega)⟩
    refine zloop (P := fun i => ∀ G2 : gH, zF6 m G G2 → (∀ j, 0 ≤ j → j < i → G2 600 (T (O1 j)) 0 = C (O1 j)) → (∀ t, zTh A t → (∀ j, 0 ≤ j → j < i → O1 j ≠ t) → G2 600 (T t) 0 = if zIn A t then -1 else zTau A t) → EX e b m m_Planner_takeAsThePlan _ 0 0 55 [(2, ((b : Int) + 12)), (0, i)] [] G2) (i := 0) n1 en.1 ?_ ?_ G1 w (fun j j1 j2 => by omega) (fun t ht _ => by
      rw [hv t ht]
      by_cases z : zIn A t
      · rw [if_pos z, if_pos ⟨ht.2, z⟩]
      · rw [if_neg z, if_neg (fun y => z y.2)])
    · intro G2 w2 hj hn
      have o2 := zF6_o w2
      refine sg_Planner_takeAsThePlan_55 ?_
      rw [o2 18 _ _ (by decide), l1.2.1]
      refine ⟨(o2 0 _ _ (by decide)).trans l1.1, fun _ => ⟨w2, fun t ht => ?_⟩, fun z => absurd z (by omega)⟩
      by_cases z : zJb A t
      · obtain ⟨j, ⟨j1, j2⟩, rfl⟩ := en1.2.2.2 t ht.1 ht.2 z
        rw [hj j j1 j2, if_pos z.1, if_pos z.2]
      · rw [hn t ht (fun j j1 j2 y => z (by rw [← y]; exact (en1.2.1 j j1 j2).2))]
        by_cases y : zIn A t
        · rw [if_pos y, if_pos y, if_neg (fun x => z ⟨y, x⟩)]
        · rw [if_neg y, if_neg y]
    · intro i i1 i2 st G2 w2 hj hn
      have o2 := zF6_o w2
      have x := zAL_g l1 ⟨i1, i2⟩
      obtain ⟨⟨p1, p2⟩, pj⟩ := en1.2.1 i i1 i2
      have t1 := (hT.2.1 (O1 i) p1 p2).1
      have k0 : G2 0 (T (O1 i)) 0 = 10 := (o2 0 _ _ (by decide)).trans x.2.2.2
      refine sg_Planner_takeAsThePlan_55 ?_
      rw [o2 18 _ _ (by decide), l1.2.1, o2 17 _ _ (by decide), o2 3 _ _ (by decide), x.2.2.1, o2 601 _ _ (by decide), (me (O1 i) p1 p2 pj).2.2, o2 0 (G 17 ((b : Int) + 13) 0) 0 (by decide), o2 0 (G 17 ((b : Int) + 13) 0) 1 (by decide)]
      refine ⟨(o2 0 _ _ (by decide)).trans l1.1, fun z => absurd z (by omega), fun _ => ⟨x.1, ⟨i1, i2⟩, x.2.1, k0, k0, GM.mono (c_giveTo k0 (by have := t1.1.2; omega)) ?_⟩⟩
      rintro _ G3 rfl
      refine ⟨by omega, st _ (zF6_t w2 (zF6_u t1.1.2)) (fun j j1 j2 => ?_) (fun t ht hj2 => ?_)⟩
      · by_cases z : j = i
        · rw [z, gU_eq]
        · rw [gU_ne (fun y => z (zEnum_inj en1 ⟨j1, by omega⟩ ⟨i1, i2⟩ (zRkT_i hT (en1.2.1 j j1 (by omega)).1 ⟨p1, p2⟩ y.2.1)))]
          exact hj j j1 (by omega)
      · rw [gU_ne (fun y => hj2 i i1 (by omega) (zRkT_i hT ⟨p1, p2⟩ ht y.2.1.symm))]
        exact hn t ht (fun j j1 j2 => hj2 j j1 (by omega))
  · intro i i1 i2 st G1 w hv
    have o := zF6_o w
    have x := zAL_g hT.1 ⟨i1, i2⟩
    have t1 := (hT.2.1 i i1 i2).1
    have k0 : G1 0 (T i) 0 = 10 := (o 0 _ _ (by decide)).trans x.2.2.2
    refine sg_Planner_takeAsThePlan_2 ?_
    rw [o 18 _ _ (by decide), hT.1.2.1, o 17 _ _ (by decide), o 3 _ _ (by decide), x.2.2.1, o 598 _ _ (by decide), t1.2.2.2.2.2.2.1, o 0 (G 17 ((b : Int) + 2) 0) 0 (by decide), o 0 (G 17 ((b : Int) + 2) 0) 1 (by decide)]
    refine ⟨(o 0 _ _ (by decide)).trans hT.1.1, fun z => absurd z (by omega), fun _ => ⟨x.1, ⟨i1, i2⟩, x.2.1, k0, k0, by decide, fun z => ⟨by omega, st G1 w (fun t ht => ?_)⟩, fun z => GM.mono (c_giveTo k0 (by have := t1.1.2; omega)) ?_⟩⟩
    · rw [hv t ht]
      by_cases y : t = i
      · rw [y, if_neg (by omega), if_neg (by omega)]
      · by_cases y2 : t < i
        · by_cases y3 : zIn A t
          · rw [if_pos ⟨y2, y3⟩, if_pos ⟨by omega, y3⟩]
          · rw [if_neg (fun y => y3 y.2), if_neg (fun y => y3 y.2)]
        · rw [if_neg (by omega), if_neg (by omega)]
    · rintro _ G3 rfl
      refine ⟨by omega, st _ (zF6_t w (zF6_u t1.1.2)) (fun t ht => ?_)⟩
      by_cases y : t = i
      · rw [y, gU_eq, if_pos ⟨by omega, z.1, by omega⟩]
      · rw [gU_ne (fun q => y (zRkT_i hT ht ⟨i1, i2⟩ q.2.1)), hv t ht]
        by_cases y2 : t < i
        · by_cases y3 : zIn A t
          · rw [if_pos ⟨y2, y3⟩, if_pos ⟨by omega, y3⟩]
          · rw [if_neg (fun y => y3 y.2), if_neg (fun y => y3 y.2)]
        · rw [if_neg (by omega), if_neg (by omega)]
theorem zTk_ch {A : zA} {F : Int → Int} {n : Int} : zCh [14] A (zTk A F n) := fun k hk => funext fun i => zTk_k (fun z => hk (by rw [z]; exact List.mem_cons_self))
/-- a plan is taken: the state is the plan's -/
theorem c_takes {e : gE} {b : Nat} {m : Int} {G0 G : gH} {A : zA} {T Q P F : Int → Int} (hTg : ∀ a : Int, G0 0 a 0 ≠ 0 → 0 < a ∧ a < G0 9 0 0) (hF : gFix b m G0) (hR : zRo e b m G0 A T Q P) (hB : zB 512 A) (h : zPd e b m G0 G A T F) : GX e b m m_Planner_takeAsThePlan [(2, ((b : Int) + 12))] G 0 0 (fun _ G1 => zRc e b m G1 (zTk A F (A 785 0)) T Q P ∧ zRf m G0 G1) := by
  refine GM.tg fun hTg1 => GM.inv fun hF1 => ?_
  have hlo := fx_lo hF
  have hlo1 := fx_lo hF1
  obtain ⟨⟨n1, O1, n2, O2, C, hps, hC⟩, hN⟩ := h
  obtain ⟨⟨⟨r1, r2, r3, r4⟩, hT, hQ, hP, hJ, hD⟩, rf⟩ := zPs_rc hTg hF hR hps
  refine GM.mono (c_take hB hlo.1 hps hT) ?_
  rintro _ G1 ⟨w, hv⟩
  have fw := zF6_fw w
  refine ⟨zRel_T hTg1 hlo1 r1 r2 r3 r4 hT hQ hP hJ hD fw (by decide) zTk_ch (by decide) (zRkT_B zTk_ch (by decide) (zRkT_tm hT w (fun t ht => ?_))) (zRkJ_A zTk_ch (by decide) (zRkJ_fw hTg1 hlo1 fw (by decide) hT hJ)), zRf_t rf (zRf_fw hlo1.2 fw)⟩
  rw [hv t ht]
  have ew : zTk A F (A 785 0) 11 t = A 11 t := zTk_k (by decide)
  unfold zTau zIn
  rw [ew]
  by_cases y : zIn A t
  · rw [if_pos y, if_neg (show ¬ (200 ≤ A 11 t ∧ A 11 t < 300) by omega), if_pos y]
    have et : zTk A F (A 785 0) 14 t = F t := if_pos ⟨rfl, ht, y⟩
    rw [et]
    by_cases z : zFar A t = -1
    · rw [if_neg (fun x => x z), hN t ht y (fun x => x.2 z)]
    · rw [if_pos z, hC t ht ⟨y, z⟩]
  · rw [if_neg y, if_neg y]
    by_cases z : 200 ≤ A 11 t ∧ A 11 t < 300
    · rw [if_pos z, if_pos z]
    · rw [if_neg z, if_neg y, if_neg z]
theorem c_inRooms {e : gE} {b : Nat} {m : Int} {G : gH} {A : zA} {T τ : Int → Int} (hT : zRkT e b m G A T τ) (hB : zB 512 A) : GX e b m m_Hours_inRooms [(2, ((b : Int) + 10))] G 0 0 (fun v G1 => v = zRooms A ∧ G1 = G) := by
  have b0 : 0 ≤ A 785 0 ∧ A 785 0 ≤ 16 := hB 785 0
  refine GM.ofEV (by decide) (Nat.le_of_ble_eq_true rfl) (sg_Hours_inRooms_0 ?_)
  refine zloop (P := fun i => ∀ x, x = zS (fun t => if zIn A t then 1 else 0) i → EX e b m m_Hours_inRooms _ 0 0 4 [(2, ((b : Int) + 10)), (0, x), (0, i)] [] G) (i := 0) (A 785 0) b0.1 ?_ ?_ 0 rfl
  · intro x hx
    refine sg_Hours_inRooms_4 ?_
    rw [hT.1.2.1]
    exact ⟨hT.1.1, fun _ => ⟨hx, rfl⟩, fun z => absurd z (by omega)⟩
  · intro i i1 i2 st x hx
    have w := zAL_g hT.1 ⟨i1, i2⟩
    have tw := (hT.2.1 i i1 i2).1.2.2.2.2.2.2.1
    have bx := zS_b (f := fun t => if zIn A t then 1 else 0) (c := 1) i (fun i _ _ => z01) i1 (by omega)
    refine sg_Hours_inRooms_4 ?_
    rw [hT.1.2.1, w.2.2.1, tw]
    refine ⟨hT.1.1, fun z => absurd z (by omega), fun _ => ⟨w.1, ⟨i1, i2⟩, w.2.1, w.2.2.2, w.2.2.2, by decide, fun z => ⟨by omega, by omega, st _ ?_⟩, fun z => ⟨by omega, by omega, st _ ?_⟩⟩⟩
    · rw [zS_z i1 (if_neg (fun y : zIn A i => z ⟨y.1, by have := y.2; omega⟩))]; omega
    · rw [zS_s i1, if_pos (show zIn A i from ⟨z.1, by omega⟩)]; omega
