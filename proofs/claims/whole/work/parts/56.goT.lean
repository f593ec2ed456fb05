/-! THE CLASS, 7: a thing goes -/
/-- changed are only cells behind the reference's, in some components -/
def zFW (m : Int) (S : List Nat) (G G1 : gH) : Prop := G 9 0 0 ≤ G1 9 0 0 ∧ ∀ (c : Nat) (i j : Int), c ≠ 9 → i < G 9 0 0 → ¬ (c ∈ S ∧ m + 45 < i) → G1 c i j = G c i j
theorem zFW_r {m : Int} {S : List Nat} {G : gH} : zFW m S G G := ⟨Int.le_refl _, fun _ _ _ _ _ _ => rfl⟩
theorem zFW_t {m : Int} {S : List Nat} {G G1 G2 : gH} (h : zFW m S G G1) (h2 : zFW m S G1 G2) : zFW m S G G2 := ⟨Int.le_trans h.1 h2.1, fun c i j c1 c2 c3 => (h2.2 c i j c1 (by have := h.1; omega) c3).trans (h.2 c i j c1 c2 c3)⟩
theorem zFW_m {m : Int} {S S' : List Nat} {G G1 : gH} (h : zFW m S G G1) (q : ∀ c, c ∈ S → c ∈ S') : zFW m S' G G1 := ⟨h.1, fun c i j c1 c2 c3 => h.2 c i j c1 c2 (fun z => c3 ⟨q c z.1, z.2⟩)⟩
theorem zFW_u {m : Int} {S : List Nat} {G : gH} {c : Nat} {i j v : Int} (hc : c ∈ S) (h9 : c ≠ 9) (hi : m + 45 < i) : zFW m S G (gU G c i j v) := ⟨Int.le_of_eq (gU_c _ (fun z => h9 z.symm)).symm, fun c' i' j' c1 c2 c3 => gU_ne (fun z => c3 ⟨by rw [z.1]; exact hc, by omega⟩)⟩
theorem zRkT_go {e : gE} {b : Nat} {m : Int} {G G1 : gH} {A : zA} {T τ : Int → Int} {t w : Int} (hT : ∀ a : Int, G 0 a 0 ≠ 0 → 0 < a ∧ a < G 9 0 0) (hb : (b : Int) + 53 < m) (hR : zRkT e b m G A T τ) (hS : 0 ≤ A 794 0) (hc : zSeals A t < 1024) (ht : 0 ≤ t ∧ t < A 785 0) (hw : 200 ≤ w) (hg : zGt m (T t) w (zTime A) G G1) : zRkT e b m G1 (zGo A t w) T τ ∧ zFW m [598, 604, 605, 1] G G1 := by
  have hR0 := hR
  obtain ⟨h1, h2, h3⟩ := hR
  obtain ⟨s', g1, g2, g3, g4, g5, g6, g7, g8, g9, g10⟩ := hg
  have ct := h2 t ht.1 ht.2
  have c0 : 0 ≤ zSeals A t := (zRkB (t := t) hS).1
  obtain ⟨⟨⟨t1, t2⟩, t3⟩, ⟨⟨l1, l2⟩, ⟨l3, l4⟩, l5⟩, ⟨⟨p1, p2⟩, ⟨p3, p4⟩, p5⟩⟩ := ct
  rw [l1] at g5 g6 g7 g8
  rw [l4] at g5
  have hta := hT (T t) (by omega)
  have htl := hT (G 604 (T t) 0) (by omega)
  have htp := hT (G 606 (T t) 0) (by omega)
  have ht2 := hT ((b : Int) + 2) (by rw [h1.1]; decide)
  have e0 : ∀ i j, G 0 i 0 ≠ 0 → G1 0 i j = G 0 i j := fun i j q => g10 0 i j (by decide) (hT i q).2 (by omega) (by omega)
  have eU : ∀ u, 0 ≤ u → u < A 785 0 → u ≠ t → T u ≠ T t := fun u u1 u2 q z => q (zRkT_i hR0 ⟨u1, u2⟩ ht z)
  have eC : ∀ u, 0 ≤ u → u < A 785 0 → ∀ c : Nat, c ≠ 1 → c ≠ 9 → (u ≠ t ∨ ¬ (c = 598 ∨ c = 604 ∨ c = 605)) → G1 c (T u) 0 = G c (T u) 0 := fun u u1 u2 c c1 c2 c3 => by
    have := hT (T u) (by have := (h2 u u1 u2).1.1.1; omega)
    refine g10 c (T u) 0 c2 this.2 (fun z => ?_) (by omega)
    rcases c3 with c3 | c3
    · exact eU u u1 u2 c3 z.1
    · exact c3 z.2
  have eP : ∀ u, 0 ≤ u → u < A 785 0 → ∀ j, G1 1 (G 606 (T u) 0) j = G 1 (G 606 (T u) 0) j := fun u u1 u2 j => by
    have := hT (G 606 (T u) 0) (by have := (h2 u u1 u2).2.2.2.1.1; omega)
    exact g10 1 _ j (by decide) this.2 (by omega) (fun z => (h3 t u ht.1 ht.2 u1 u2).2.2 z.2.symm)
  have eS : ∀ u, 0 ≤ u → u < A 785 0 → u ≠ t → ∀ j, G1 1 (G 604 (T u) 0) j = G 1 (G 604 (T u) 0) j := fun u u1 u2 q j => by
    have := hT (G 604 (T u) 0) (by have := (h2 u u1 u2).2.1.2.1.1; omega)
    exact g10 1 _ j (by decide) this.2 (by omega) (fun z => q ((h3 u t u1 u2 ht.1 ht.2).1 z.2))
  have eA : zGo A t w 785 0 = A 785 0 := zGo_k (by decide)
  refine ⟨⟨?_, fun u u1 u2 => ?_, fun u v u1 u2 v1 v2 => ?_⟩, g9, fun c i j c1 c2 c3 => g10 c i j c1 c2 (fun z => c3 ⟨?_, by omega⟩) (fun z => c3 ⟨by rw [z.1]; decide, by omega⟩)⟩
  · rw [eA]
    exact zAL_fr (by decide) h1 e0 (g10 _ _ 0 (by decide) ht2.2 (by omega) (by omega)) (g10 _ _ 0 (by decide) ht2.2 (by omega) (by omega)) (fun q j => g10 _ _ j (by decide) (hT _ (by omega)).2 (by omega) (by omega))
  · rw [eA] at u2
    by_cases q : u = t
    · subst q
      refine ⟨?_, ?_, ?_⟩
      · obtain ⟨a3, a4, a5, a6, a7, a8, a9, a10, a11⟩ := t3
        refine ⟨⟨by rw [e0 _ _ (by omega)]; exact t1, t2⟩, ?_⟩
        rw [eC u u1 u2 592 (by decide) (by decide) (Or.inr (by decide)), eC u u1 u2 593 (by decide) (by decide) (Or.inr (by decide)), eC u u1 u2 594 (by decide) (by decide) (Or.inr (by decide)), eC u u1 u2 595 (by decide) (by decide) (Or.inr (by decide)), eC u u1 u2 597 (by decide) (by decide) (Or.inr (by decide)), eC u u1 u2 599 (by decide) (by decide) (Or.inr (by decide)), eC u u1 u2 600 (by decide) (by decide) (Or.inr (by decide)), g8.2, zGo_k (by decide), zGo_k (by decide), zGo_k (by decide), zGo_k (by decide), zGo_w, if_pos rfl, zGo_k (by decide)]
        refine ⟨a3, a4, a5, a6, a7, rfl, a9, a10, fun z => ?_⟩
        have z2 : 100 ≤ zGo A u w 11 u ∧ zGo A u w 11 u < 200 := z
        rw [zGo_w, if_pos rfl] at z2
        omega
      · unfold zSlR
        rw [zGo_seals hS, if_pos rfl, g1, g4, g5, g8.1, zSL_s ⟨c0, hc⟩, zGo_n]
        refine ⟨⟨rfl, g2⟩, ⟨rfl, rfl⟩, fun k k1 k2 k3 => ?_⟩
        rw [zGo_rank k1 (by omega), zGo_36, zGo_37, zGo_38]
        by_cases z : k = A 794 0
        · rw [if_pos z, if_pos z, if_pos z, z]
          exact ⟨g7.1, g7.2.1.trans t3.2.2.2.2.2.1, g7.2.2⟩
        · rw [zGo_35, if_neg z] at k3
          have r1 := zRkM k1 (by omega) k3
          have r2 := zRkB (A := A) (t := u) k1
          have w5 := l5 k k1 (by omega) k3
          rw [if_neg z, if_neg z, if_neg z, g6 _ (by omega) (by omega), g6 _ (by omega) (by omega), g6 _ (by omega) (by omega)]
          exact w5
      · unfold zPpR
        rw [eC u u1 u2 606 (by decide) (by decide) (Or.inr (by decide)), eC u u1 u2 607 (by decide) (by decide) (Or.inr (by decide)), e0 _ _ (by omega), e0 _ _ (by omega), zGo_k (by decide)]
        refine ⟨⟨p1, p2⟩, ⟨p3, p4⟩, fun i i1 i2 => ?_⟩
        rw [eP u u1 u2, eP u u1 u2, eP u u1 u2, zGo_k (by decide), zGo_k (by decide), zGo_k (by decide)]
        exact p5 i i1 i2
    · have hu := h2 u u1 u2
      have w1 := zThR_fr (G1 := G1) hu.1 e0 (fun c hc => eC u u1 u2 c (by omega) (by omega) (Or.inl q))
      have w2 := zSlR_fr (G1 := G1) hu.2.1 e0 (eC u u1 u2 604 (by decide) (by decide) (Or.inl q)) (eC u u1 u2 605 (by decide) (by decide) (Or.inl q)) (eS u u1 u2 q)
      have w3 := zPpR_fr (G1 := G1) hu.2.2 e0 (eC u u1 u2 606 (by decide) (by decide) (Or.inl q)) (eC u u1 u2 607 (by decide) (by decide) (Or.inl q)) (eP u u1 u2)
      refine ⟨?_, ?_, ?_⟩
      · unfold zThR zIn at *
        rw [zGo_k (by decide), zGo_k (by decide), zGo_k (by decide), zGo_k (by decide), zGo_w, if_neg q, zGo_k (by decide)]
        exact w1
      · unfold zSlR at *
        rw [zGo_seals hS, if_neg (fun z => q z.symm), Int.add_zero (zSeals A u), zGo_n]
        refine ⟨w2.1, w2.2.1, fun k k1 k2 k3 => ?_⟩
        rw [zGo_35] at k3
        have z : k ≠ A 794 0 := fun z => by rw [if_pos z] at k3; exact q k3.symm
        rw [if_neg z] at k3
        rw [zGo_rank k1 (by omega), zGo_36, zGo_37, zGo_38, if_neg z, if_neg z, if_neg z]
        exact w2.2.2 k k1 (by omega) k3
      · unfold zPpR at *
        rw [zGo_k (by decide)]
        refine ⟨w3.1, w3.2.1, fun i i1 i2 => ?_⟩
        rw [zGo_k (by decide), zGo_k (by decide), zGo_k (by decide)]
        exact w3.2.2 i i1 i2
  · rw [eA] at u2 v2
    have hu := h2 u u1 u2
    have hv := h2 v v1 v2
    have lu := hT (G 604 (T u) 0) (by have := hu.2.1.2.1.1; omega)
    have lv := hT (G 604 (T v) 0) (by have := hv.2.1.2.1.1; omega)
    have pu := hT (G 606 (T u) 0) (by have := hu.2.2.2.1.1; omega)
    have pv := hT (G 606 (T v) 0) (by have := hv.2.2.2.1.1; omega)
    have d := h3 u v u1 u2 v1 v2
    rw [eC u u1 u2 606 (by decide) (by decide) (Or.inr (by decide)), eC v v1 v2 606 (by decide) (by decide) (Or.inr (by decide))]
    have su : G1 604 (T u) 0 = if u = t then s' else G 604 (T u) 0 := by
      by_cases q : u = t
      · rw [q, if_pos rfl]; exact g1
      · rw [if_neg q]; exact eC u u1 u2 604 (by decide) (by decide) (Or.inl q)
    have sv : G1 604 (T v) 0 = if v = t then s' else G 604 (T v) 0 := by
      by_cases q : v = t
      · rw [q, if_pos rfl]; exact g1
      · rw [if_neg q]; exact eC v v1 v2 604 (by decide) (by decide) (Or.inl q)
    have dt := h3 t v ht.1 ht.2 v1 v2
    have dt2 := h3 u t u1 u2 ht.1 ht.2
    rw [su, sv]
    refine ⟨fun q => ?_, d.2.1, fun q => ?_⟩
    · by_cases q1 : u = t
      · by_cases q2 : v = t
        · omega
        · rw [if_pos q1, if_neg q2] at q
          rcases g3 with g3 | g3
          · exact q1.trans (dt.1 (g3.symm.trans q))
          · omega
      · by_cases q2 : v = t
        · rw [if_neg q1, if_pos q2] at q
          rcases g3 with g3 | g3
          · exact (dt2.1 (q.trans g3)).trans q2.symm
          · omega
        · rw [if_neg q1, if_neg q2] at q
          exact d.1 q
    · by_cases q1 : u = t
      · rw [if_pos q1] at q
        rcases g3 with g3 | g3
        · exact dt.2.2 (g3.symm.trans q)
        · omega
      · rw [if_neg q1] at q
        exact d.2.2 q
  · rcases z.2 with z | z | z <;> rw [z] <;> decide
theorem c_goTo {e : gE} {b : Nat} {m : Int} {G : gH} {A : zA} {T τ : Int → Int} {t w : Int} (hR : zRkT e b m G A T τ) (hS : 0 ≤ A 794 0) (hc : zSeals A t < 1024) (ht : 0 ≤ t ∧ t < A 785 0) (hw : 200 ≤ w) : GX e b m m_Thing_goTo [(2, T t), (0, w), (0, zTime A)] G 1 (2 * zSL (zSeals A t + 1) - 2 * zSL (zSeals A t)).toNat (fun _ G1 => zRkT e b m G1 (zGo A t w) T τ ∧ zFW m [598, 604, 605, 1] G G1) := by
  refine GM.tg fun hT => GM.inv fun hF => ?_
  have ct := hR.2.1 t ht.1 ht.2
  have c0 : 0 ≤ zSeals A t := (zRkB (t := t) hS).1
  have sb := zSL_b (zSeals A t) (by omega)
  have es := zSL_s ⟨c0, hc⟩
  obtain ⟨⟨⟨t1, t2⟩, t3⟩, ⟨⟨l1, l2⟩, ⟨l3, l4⟩, l5⟩, -⟩ := ct
  have k := c_Thing_goTo (e := e) (b := b) (m := m) (w := w) (t := zTime A) t1 l3 ⟨t2, l2⟩ (by rw [l1]; exact ⟨c0, hc⟩) (by rw [l1, l4]; omega)
  rw [l1, l4] at k
  have em : (if 3 * zSeals A t + 3 ≤ zSL (zSeals A t) then 0 else (2 * zSL (zSeals A t)).toNat) = (2 * zSL (zSeals A t + 1) - 2 * zSL (zSeals A t)).toNat := by
    rw [es]
    split <;> omega
  rw [em] at k
  exact GM.mono k (fun v G1 hg => zRkT_go hT (fx_lo hF).1 hR hS hc ht hw hg)
