/-! THE CLASS, 40: the plan by best is made, on -/
theorem c_chooseBy {e : gE} {b : Nat} {m : Int} {G0 G : gH} {A : zA} {T O1 O2 C F τ : Int → Int} {n1 n2 v : Int} (hB : zB 512 A) (hTg : ∀ a : Int, G0 0 a 0 ≠ 0 → 0 < a ∧ a < G0 9 0 0) (hlo : (b : Int) + 53 < m ∧ m + 45 < G0 9 0 0) (hD : zDst b G0) (hT : zRkT e b m G0 A T τ) (hps : zPs e b m G0 G A T n1 O1 n2 O2 C) (hv : ∀ t, zTh A t → v / zP4 t % 4 = zDg (F t)) (hFr : ∀ t, zTh A t → F t = -1 ∨ (0 ≤ F t ∧ F t < 3)) (bv : 0 ≤ v ∧ v < 8796093022208) : GX e b m m_Planner_chooseBy [(2, ((b : Int) + 12)), (1, v)] G 0 0 (fun _ G1 => ∃ C', zPs e b m G0 G1 A T n1 O1 n2 O2 C' ∧ ∀ u, zTh A u → zJb A u → C' u = F u) := by
  have b0 : 0 ≤ A 785 0 ∧ A 785 0 ≤ 16 := hB 785 0
  have en1 := hps.2.2.1.1
  refine GM.ofEV (by decide) (Nat.le_of_ble_eq_true rfl) (sg_Planner_chooseBy_0 ?_)
  refine zloop (P := fun j => ∀ (G1 : gH) (C1 : Int → Int), zPs e b m G0 G1 A T n1 O1 n2 O2 C1 → (∀ i, 0 ≤ i → i < j → C1 (O1 i) = F (O1 i)) → EX e b m m_Planner_chooseBy _ 0 0 2 [(2, ((b : Int) + 12)), (1, v), (9, 0), (0, j), (9, 0), (9, 0)] [] G1) (i := 0) n1 en1.1.1 ?_ ?_ G C hps (fun i i1 i2 => by omega)
  · intro G1 C1 hp hC
    have l1 := hp.2.1.1
    refine sg_Planner_chooseBy_2 ?_
    rw [l1.2.1]
    refine ⟨l1.1, fun _ => ⟨C1, hp, fun u u1 u2 => ?_⟩, fun z => absurd z (by omega)⟩
    obtain ⟨j, ⟨j1, j2⟩, rfl⟩ := en1.2.2.2 u u1.1 u1.2 u2
    exact hC j j1 j2
  · intro j j1 j2 st G1 C1 hp hC
    have l1 := hp.2.1.1
    have w := zAL_g l1 ⟨j1, j2⟩
    obtain ⟨⟨o1, o2⟩, oj⟩ := en1.2.1 j j1 j2
    have hT1 := zPF_T hTg hlo hD hp.1.1 hT
    have t1 := (hT1.2.1 (O1 j) o1 o2).1
    have n16 := en1.1
    have hb : (b : Int) < T (O1 j) := by have := t1.1.2; omega
    have fr := hFr (O1 j) ⟨o1, o2⟩
    have nx : ∀ x, x = F (O1 j) → EX e b m m_Planner_chooseBy (fun _ G1 => ∃ C', zPs e b m G0 G1 A T n1 O1 n2 O2 C' ∧ ∀ u, zTh A u → zJb A u → C' u = F u) 0 0 2 [(2, ((b : Int) + 12)), (1, v), (9, 0), (0, j + 1), (9, 0), (9, 0)] [] (gU G1 601 (T (O1 j)) 0 x) := fun x hx => st _ _ (zPs_ch (v := x) hlo.1 hp hT1 ⟨o1, o2⟩) (fun i i1 i2 => by
      by_cases z : O1 i = O1 j
      · rw [z, zSet_eq, hx]
      · rw [zSet_ne z]
        exact hC i i1 (by
          by_cases y : i = j
          · exact absurd (by rw [y]) z
          · omega))
    refine sg_Planner_chooseBy_2 ?_
    rw [l1.2.1, w.2.2.1, t1.2.1, zlshrI (P := zP4 (O1 j)) ⟨bv.1, by omega⟩ (by omega) (zP4_2 ⟨o1, by omega⟩), zg3, hv (O1 j) ⟨o1, o2⟩]
    refine ⟨l1.1, fun z => absurd z (by omega), fun _ => ⟨w.1, ⟨j1, j2⟩, w.2.1, w.2.2.2, w.2.2.2, ⟨o1, by omega⟩, fun c => ?_, fun c => ?_⟩⟩
    · have ed : 3 - zDg (F (O1 j)) = F (O1 j) := by
        unfold zDg at c ⊢
        by_cases z : F (O1 j) = -1
        · rw [if_pos z] at c; exact absurd rfl c
        · rw [if_neg z]; omega
      rw [ed]
      refine ⟨by omega, GM.mono (c_choose w.2.2.2 hb) ?_⟩
      rintro _ G2 rfl
      exact ⟨by omega, nx _ rfl⟩
    · have ed : F (O1 j) = -1 := by
        unfold zDg at c
        by_cases z : F (O1 j) = -1
        · exact z
        · rw [if_neg z] at c; omega
      refine GM.mono (c_choose w.2.2.2 hb) ?_
      rintro _ G2 rfl
      exact ⟨by omega, nx _ ed.symm⟩
theorem zJobs_8 {A : zA} {O : Int → Int} {n : Int} (hE : zEnum (zJb A) (zDue A) (A 785 0) n O) : n ≤ zRooms A := by
  have h0 : 0 ≤ A 785 0 := by have := hE.1; omega
  have e : zS (fun _ => (1 : Int)) n = zS (fun t => if zJb A t then (1 : Int) else 0) (A 785 0) := zEnum_all hE (fun _ => 1)
  have c : ∀ n : Int, 0 ≤ n → zS (fun _ => (1 : Int)) n = n := fun n hn => by
    refine zloopI (i := 0) (I := fun n => zS (fun _ => (1 : Int)) n = n) (P := fun _ => zS (fun _ => (1 : Int)) n = n) n hn rfl ?_ (fun q => q) (fun _ _ _ _ q => q)
    intro j h1 h2 hi
    rw [zS_s h1, hi]
  rw [c n hE.1.1] at e
  rw [e]
  refine zS_le _ h0 (fun i i1 i2 => ?_)
  show (if zJb A i then (1 : Int) else 0) ≤ if zIn A i then 1 else 0
  by_cases z : zJb A i
  · rw [if_pos z, if_pos z.1]; exact Int.le_refl _
  · rw [if_neg z]; exact z01.1
theorem zVk_b {A : zA} {O : Int → Int} {n k : Int} (hB : zB 512 A) (hE : zEnum (zJb A) (zDue A) (A 785 0) n O) (hk : 0 ≤ k ∧ k ≤ 3) : zVb n 4000000000000 (zVk A O n k) := fun s v s1 s2 h => by
  obtain ⟨g, h1, h2, h3⟩ := h
  have w := zMSc_b (g := g) hB hE ⟨s1, s2⟩ (fun j j1 j2 z => by have := (h1 j j1 j2).1 z; omega)
  rw [h3]
  omega
theorem zUk_b {A : zA} {O : Int → Int} {n k : Int} (hB : zB 512 A) (hE : zEnum (zJb A) (zDue A) (A 785 0) n O) (hk : 0 ≤ k ∧ k < 3) : zVb n 4000000000000 (zUk A O n k) := fun s v s1 s2 h => by
  have w : 0 ≤ zMS (zSc A O k) s ∧ zMS (zSc A O k) s ≤ 4000000000000 := zMSc_b (g := fun _ => k) hB hE ⟨s1, s2⟩ (fun j j1 j2 z => hk)
  rw [h.2]
  omega
theorem zUv_t {A : zA} {O : Int → Int} {n k : Int} {f : Int → Int} (h : ∀ s, 0 ≤ s → s < zp2 n → f s = zUv A O n k s) : zTb n f (zUk A O n k) := fun s s1 s2 => by
  rw [h s s1 s2]
  unfold zUv
  by_cases z : zDs A O n k s
  · rw [zIf_pos z]
    exact Or.inr ⟨⟨z, rfl⟩, fun v hv => by rw [hv.2]; exact Int.le_refl _⟩
  · rw [zIf_neg z]
    exact Or.inl ⟨rfl, fun v hv => z hv.1⟩
theorem c_makeByBest {e : gE} {b : Nat} {m : Int} {G0 : gH} {A : zA} {T Q P : Int → Int} (hR : zRo e b m G0 A T Q P) (hB : zB 512 A) (hI : zIr A) (hWf : zWf A) (hph : A 788 0 = 1) (h8 : zRooms A ≤ 8) : GX e b m m_Planner_makeByBest [(2, ((b : Int) + 12)), (0, A 789 0), (0, A 790 0)] G0 32 1280 (fun v G1 => v = (zBest A).2 ∧ zPd e b m G0 G1 A T (zBest A).1) := by
  refine GM.tg fun hTg => GM.inv fun hF => ?_
  have hlo := fx_lo hF
  have bt : 0 ≤ A 786 0 ∧ A 786 0 ≤ 3 := hB 786 0
  have hr := hR
  obtain ⟨⟨r1, -⟩, hT, hQ, hP, hJ, hD⟩ := hr
  refine GM.ofEV (by decide) (Nat.le_of_ble_eq_true rfl) (sg_Planner_makeByBest_0 ⟨0, 0, 32, 1280, rfl, rfl, GM.mono (c_gather hR hB hI hWf hph) ?_⟩)
  rintro _ G1 ⟨n1, O1, n2, O2, hz⟩
  have hz1 : zPs e b m G0 G1 A T n1 O1 n2 O2 (fun _ => -1) := ⟨hz.1, hz.2.1, hz.2.2.1, hz.2.2.2⟩
  have en1 := hz.2.2.1.1
  have hn : n1 ≤ 8 := Int.le_trans (zJobs_8 en1) h8
  have n0 := en1.1.1
  have l1 := hz.2.1.1
  have aT : ∀ t, zTh A t → m + 45 < T t := fun t ht => (hT.2.1 t ht.1 ht.2).1.1.2
  have p81 := zp2_b hn
  rw [l1.2.1, if_neg (show ¬ 8 < n1 by omega)]
  refine ⟨l1.1, GM.mono (c_addLengths hB hz1 hn) ?_⟩
  rintro _ G2 ⟨o2, hl2⟩
  refine GM.inv fun hF2 => ?_
  have f15 : G2 0 ((b : Int) + 15) 0 = 101 ∧ G2 0 ((b : Int) + 15) 1 = 256 := by
    obtain ⟨⟨h1, -⟩, -⟩ := hF2
    exact h1 (15, 101, 256) (by decide)
  refine GM.mono (c_clear f15.1 f15.2 (by omega)) ?_
  rintro _ G3 ⟨o3, hv3⟩
  have hp2 : zPs e b m G0 G2 A T n1 O1 n2 O2 (fun _ => -1) := zPs_sc hlo.1 hz1 aT (fun c i j z => o2 c i j (fun y x => z ⟨Or.inl y, by omega⟩))
  have hp3 : zPs e b m G0 G3 A T n1 O1 n2 O2 (fun _ => -1) := zPs_sc hlo.1 hp2 aT (fun c i j z => o3 c i j (fun y x => z ⟨Or.inr y, by omega⟩))
  have hl3 : ∀ s, 0 ≤ s → s < zp2 n1 → G3 1 ((b : Int) + 17) s = zMS (fun j => zLen A (O1 j)) s := fun s s1 s2 => by
    rw [o3 1 _ _ (fun z => absurd z (by decide))]
    exact hl2 s s1 s2
  refine zloop (P := fun k => ∀ G : gH, zPs e b m G0 G A T n1 O1 n2 O2 (fun _ => -1) → (∀ s, 0 ≤ s → s < zp2 n1 → G 1 ((b : Int) + 17) s = zMS (fun j => zLen A (O1 j)) s) → zTb n1 (G 2 ((b : Int) + 15)) (zVk A O1 n1 k) → EX e b m m_Planner_makeByBest _ 0 0 33 [(2, ((b : Int) + 12)), (0, A 789 0), (9, 0), (0, n1), (0, k), (9, 0), (9, 0)] [] G) (i := 0) (A 786 0) bt.1 ?_ ?_ G3 hp3 hl3 (fun s s1 s2 => ?_)
  · intro G hp hl ht
    have hQ1 := zPF_Q hTg hlo hD hp.1.1 hQ
    have hT1 := zPF_T hTg hlo hD hp.1.1 hT
    refine sg_Planner_makeByBest_33 ?_
    rw [hQ1.1.2.1]
    refine ⟨hQ1.1.1, fun _ => ?_, fun z => absurd z (by omega)⟩
    have z00 : zVk A O1 n1 (A 786 0) 0 0 := ⟨fun _ => -1, fun j j1 j2 => ⟨fun z => absurd z (zb_0 j), fun _ => rfl⟩, fun i i1 i2 q q1 q2 hq => by
      have : q = 0 := zb_ext (n := n1) ⟨q1, q2⟩ ⟨by decide, by omega⟩ (fun j j1 j2 => ⟨fun z => by
        have y : (-1 : Int) = i := (hq j j1 (by omega)).1 z
        omega, fun z => absurd z (zb_0 j)⟩)
      rw [this]
      exact fun i i1 i2 z => absurd z (zb_0 i), zMS_0.symm⟩
    refine zloop (P := fun s => ∀ x, (∃ i, (0 ≤ i ∧ i < zp2 n1) ∧ zVk A O1 n1 (A 786 0) i x) → 0 ≤ x → (∀ i, 0 ≤ i → i < s → G 2 ((b : Int) + 15) i ≤ x) → EX e b m m_Planner_makeByBest _ 0 0 91 [(2, ((b : Int) + 12)), (9, 0), (9, 0), (0, n1), (1, x), (9, 0), (0, s)] [] G) (i := 0) (zp2 n1) (by omega) ?_ ?_ 0 ⟨0, ⟨by decide, by omega⟩, z00⟩ (by decide) (fun i i1 i2 => by omega)
    · intro x hx x0 hm
      have w := zBest_is hB en1 hn hx (fun s y s1 s2 hy => by
        rcases ht s s1 s2 with k | k
        · exact absurd hy (k.2 y)
        · have := k.2 y hy
          have := hm s s1 s2
          omega)
      refine sg_Planner_makeByBest_91 ?_
      rw [zshl1 ⟨n0, hn⟩]
      refine ⟨fun _ z => absurd z (by omega), fun _ => GM.mono (c_chooseBy hB hTg hlo hD hT hp w.1 w.2.2.2.1 ⟨w.2.2.2.2.1, w.2.2.2.2.2⟩) ?_⟩
      rintro _ G4 ⟨C', k1, k2⟩
      have bb := zBest_b hB
      refine ⟨?_, ⟨n1, O1, n2, O2, C', k1, k2⟩, fun u u1 _ u3 => w.2.2.1 u u1 u3⟩
      rw [zlshrI (P := 4294967296) ⟨w.2.2.2.2.1, by omega⟩ (by decide) (by decide), w.2.1, w32_id ⟨by omega, by omega⟩]
    · intro s s1 s2 st x hx x0 hm
      refine sg_Planner_makeByBest_91 ?_
      rw [zshl1 ⟨n0, hn⟩]
      refine ⟨fun _ _ => ⟨⟨s1, by omega⟩, by omega, ?_⟩, fun z => absurd z (by omega)⟩
      by_cases c : x < G 2 ((b : Int) + 15) s
      · rw [if_pos c]
        refine st _ ⟨s, ⟨s1, s2⟩, ?_⟩ (by omega) (fun i i1 i2 => ?_)
        · rcases ht s s1 s2 with k | k
          · omega
          · exact k.1
        · by_cases z : i = s
          · rw [z]; exact Int.le_refl _
          · have := hm i i1 (by omega); omega
      · rw [if_neg c]
        refine st _ hx x0 (fun i i1 i2 => ?_)
        by_cases z : i = s
        · rw [z]; omega
        · exact hm i i1 (by omega)
  · intro k k1 k2 st G hp hl ht
    have hQ1 := zPF_Q hTg hlo hD hp.1.1 hQ
    have hT1 := zPF_T hTg hlo hD hp.1.1 hT
    have w := zAL_g hQ1.1 ⟨k1, k2⟩
    refine sg_Planner_makeByBest_33 ?_
    rw [hQ1.1.2.1, w.2.2.1, zshl1 ⟨n0, hn⟩]
    refine ⟨hQ1.1.1, fun z => absurd z (by omega), fun _ => ⟨w.1, ⟨k1, k2⟩, w.2.1, w.2.2.2, GM.inv fun hFG => GM.mono (c_scoreTeam hB hp hT1 hQ1 hFG ⟨k1, k2⟩ hn hl) ?_⟩⟩
    rintro _ G4 ⟨o4, hv4⟩
    refine GM.inv fun hF4 => ?_
    have g15 : G4 0 ((b : Int) + 15) 0 = 101 ∧ G4 0 ((b : Int) + 15) 1 = 256 := by
      obtain ⟨⟨h1, -⟩, -⟩ := hF4
      exact h1 (15, 101, 256) (by decide)
    have g16 : G4 0 ((b : Int) + 16) 0 = 101 ∧ G4 0 ((b : Int) + 16) 1 = 256 := by
      obtain ⟨⟨h1, -⟩, -⟩ := hF4
      exact h1 (16, 101, 256) (by decide)
    have e15 : G4 2 ((b : Int) + 15) = G 2 ((b : Int) + 15) := funext fun j => o4 2 _ j (fun _ => by omega)
    have tV : zTb n1 (G4 2 ((b : Int) + 15)) (zVk A O1 n1 k) := by rw [e15]; exact ht
    have tU := zUv_t hv4
    have bV := zVk_b (k := k) hB en1 ⟨k1, by omega⟩
    have bU := zUk_b (k := k) hB en1 ⟨k1, by omega⟩
    refine GM.mono (c_join g15 g16 (by omega) (by omega) hn (zTb_ot tV bV (by decide)) (zTb_ot tU bU (by decide))) ?_
    rintro _ G5 ⟨o5, hj⟩
    refine ⟨by omega, st G5 (zPs_sc hlo.1 (zPs_sc hlo.1 hp aT (fun c i j z => o4 c i j (fun y x => z ⟨Or.inr y, by omega⟩))) aT (fun c i j z => o5 c i j (fun y x => z ⟨Or.inr y, by omega⟩))) (fun s s1 s2 => ?_) ?_⟩
    · rw [o5 1 _ _ (fun z => absurd z (by decide)), o4 1 _ _ (fun z => absurd z (by decide))]
      exact hl s s1 s2
    · exact zTb_c (zTb_join hn tV tU bV bU (by decide) hj) (fun s v s1 s2 => (zVk_s hn k1 ⟨s1, s2⟩).symm)
  · rw [hv3 s s1 (by omega)]
    by_cases z : s = 0
    · rw [if_pos z]
      exact Or.inr ⟨(zVk_0 hn ⟨s1, s2⟩).2 ⟨z, rfl⟩, fun v hv => by rw [((zVk_0 hn ⟨s1, s2⟩).1 hv).2]; exact Int.le_refl _⟩
    · rw [if_neg z]
      exact Or.inl ⟨rfl, fun v hv => z ((zVk_0 hn ⟨s1, s2⟩).1 hv).1⟩
