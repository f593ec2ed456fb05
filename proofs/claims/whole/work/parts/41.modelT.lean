/-! THE REFERENCE, 19: the search for the best plan -/
theorem zVd_set {A : zA} {R : Int → Int} {t c : Int} (h0 : 0 ≤ A 785 0) (hL : ∀ i, 0 ≤ i → i < A 785 0 → zIn A i → 0 ≤ zLen A i) (h : zVd A R) (hR : R t = -1) (ht : zIn A t) (hc : 0 ≤ c ∧ c < A 786 0) (hd : zDo A (zSet R t c) c) : zVd A (zSet R t c) := by
  refine ⟨fun i i1 i2 => ?_, fun k k1 k2 => ?_⟩
  · by_cases q : i = t
    · rw [q, zSet_eq]; exact Or.inr ⟨ht, hc⟩
    · rw [zSet_ne q]; exact h.1 i i1 i2
  · by_cases q : k = c
    · rw [q]; exact hd
    · refine zDo_mono h0 hL (fun i i1 i2 w => ?_) (h.2 k k1 k2)
      by_cases q2 : i = t
      · have := w.1
        rw [q2, zSet_eq] at this
        exact absurd this.symm q
      · exact ⟨by have := w.1; rw [zSet_ne q2] at this; exact this, w.2⟩
theorem zDR_t {m n i : Int} {G G1 G2 : gH} (h : zDR m n i G G1) (h2 : zDR m n i G1 G2) : zDR m n i G G2 := by
  obtain ⟨a1, a2, a3, a4, a5, a6⟩ := h
  obtain ⟨b1, b2, b3, b4, b5, b6⟩ := h2
  exact ⟨b1.trans a1, zC_t a2 b2, fun k => (b3 k).trans (a3 k), fun k k1 k2 => (b4 k k1 k2).trans (a4 k k1 k2), b5, fun t => (b6 t).trans (a6 t)⟩
theorem l_M_byAll_92 {e : gE} {b : Nat} {m : Int} {Z : Int → gH → Prop} {kc ks : Nat} {A : zA} {n : Int} {L : Int → Int} (hB : zB 512 A) (hI : zIr A) (hE : zEnum (zIn A) (fun _ => 0) (A 785 0) n L) : ∀ (r : Nat) (i M : Int) (G : gH), i + r = n → 0 ≤ i → zDS A m n L i G → (∀ M' G', zDR m n i G G' → zBt A (zXi A L i (G 1 (m + 41))) M (G 1 (m + 42)) M' (G' 1 (m + 42)) → EX e b m m_M_byAll Z kc ks 92 [(2, (m + 0)), (0, n), (0, zRi A L n i), (0, M'), (0, zSi A L (G 1 (m + 41)) i), (0, (i + (-1))), (9, 0), (9, 0)] [] G') → EX e b m m_M_byAll Z kc ks 92 [(2, (m + 0)), (0, n), (0, zRi A L n i), (0, M), (0, zSi A L (G 1 (m + 41)) i), (0, i), (9, 0), (9, 0)] [] G := by
  have b0 : 0 ≤ A 785 0 ∧ A 785 0 ≤ 16 := hB 785 0
  have b1 : 0 ≤ A 786 0 ∧ A 786 0 ≤ 3 := hB 786 0
  have h0 := zLen_0 hB hI
  have hn := hE.1
  intro r
  induction r with
  | zero =>
    intro i M G hr hi hS K
    obtain ⟨s1, s2, s3, s4, s5⟩ := hS
    have ei : i = n := by omega
    subst ei
    have same : ∀ E, zXi A L i (G 1 (m + 41)) E → ∀ t, 0 ≤ t → t < A 785 0 → E t = G 1 (m + 41) t := fun E hX t t1 t2 => by
      by_cases q : zIn A t
      · obtain ⟨k, hk, ek⟩ := hE.2.2.2 t t1 t2 q
        subst ek
        exact hX.2 k hk.1 hk.2
      · rw [zVd_off hX.1 ⟨t1, t2⟩ q, zVd_off s4 ⟨t1, t2⟩ q]
    have eW : zW A (G 1 (m + 41)) = zSi A L (G 1 (m + 41)) i := zW_L hB hE s4
    refine sg_M_byAll_92 ⟨fun q => absurd q (by omega), fun _ => ⟨fun q => absurd rfl q, fun _ => ⟨fun q => ⟨by omega, ?_⟩, fun q => ?_⟩⟩⟩
    · refine K M G ⟨rfl, zC_r, fun _ => rfl, fun _ _ _ => rfl, s3, fun _ => rfl⟩ (zBt_skip (fun E hX => ?_))
      rw [zW_c b0.1 (same E hX), eW]
      exact q
    · refine l_M_byAll_115 hB (by omega) s1 (fun G' d f => ?_)
      have cW := zW_c b0.1 f
      have cT := zTt_c b0.1 f
      refine K _ G' d ⟨fun E hX => by rw [zW_c b0.1 (same E hX), eW]; exact Int.le_refl _, Or.inr ⟨q, ⟨zVd_c b0.1 h0 f s4, fun j j1 j2 => ?_⟩, cW.trans eW, fun E hX _ => by rw [zTt_c b0.1 (same E hX), cT]; exact Int.le_refl _⟩⟩
      have := hE.2.1 j j1 j2
      exact f _ this.1.1 this.1.2
  | succ r ih =>
    intro i M G hr hi hS K
    obtain ⟨s1, s2, s3, s4, s5⟩ := hS
    have hm := hE.2.1 i hi (by omega)
    have bw : 0 ≤ A 8 (L i) ∧ A 8 (L i) ≤ 100 := hB 8 (L i)
    have bS := zSR_b hB hE (i := i) (R := G 1 (m + 41)) (by omega)
    have bR := zSR_b hB hE (i := i + 1) (R := G 1 (m + 41)) (by omega)
    have eR := zRi_s (A := A) (L := L) (n := n) hi
    have key : ∀ c, 0 ≤ c → c ≤ 4 → ∀ (M1 : Int) (G1 : gH), zM m G1 = A → zC m G G1 → (∀ k, G1 1 (m + 43) k = G 1 (m + 43) k) → (∀ k, 0 ≤ k → k < i → G1 1 (m + 44) k = G 1 (m + 44) k) → G1 1 (m + 44) i = c - 1 → (∀ k, i < k → k < n → G1 1 (m + 44) k = -1) → (∀ t, G1 1 (m + 41) t = G 1 (m + 41) t) → zBt A (zXc A L i (G 1 (m + 41)) c) M (G 1 (m + 42)) M1 (G1 1 (m + 42)) → EX e b m m_M_byAll Z kc ks 214 [(2, (m + 0)), (0, n), (0, zRi A L n (i + 1)), (0, M1), (0, zSi A L (G 1 (m + 41)) i), (0, i), (0, L i), (0, 0)] [] G1 := by
      intro c c1 c2
      refine zloop (P := fun c => ∀ (M1 : Int) (G1 : gH), zM m G1 = A → zC m G G1 → (∀ k, G1 1 (m + 43) k = G 1 (m + 43) k) → (∀ k, 0 ≤ k → k < i → G1 1 (m + 44) k = G 1 (m + 44) k) → G1 1 (m + 44) i = c - 1 → (∀ k, i < k → k < n → G1 1 (m + 44) k = -1) → (∀ t, G1 1 (m + 41) t = G 1 (m + 41) t) → zBt A (zXc A L i (G 1 (m + 41)) c) M (G 1 (m + 42)) M1 (G1 1 (m + 42)) → EX e b m m_M_byAll Z kc ks 214 [(2, (m + 0)), (0, n), (0, zRi A L n (i + 1)), (0, M1), (0, zSi A L (G 1 (m + 41)) i), (0, i), (0, L i), (0, 0)] [] G1) (i := c) 4 c2 ?_ ?_
      · intro M1 G1 k1 k2 k3 k4 k5 k6 k7 k8
        refine sg_M_byAll_214 ⟨fun _ => ⟨by omega, fun q => absurd q (by omega)⟩, fun _ => ⟨fun _ => ⟨by omega, ?_⟩, fun q => absurd rfl q⟩⟩
        rintro _ rfl
        have e1 : zM m (gU G1 1 (m + 44) i (-1)) = A := by rw [zM_u44]; exact k1
        rw [e1]
        refine ⟨by omega, by omega, by omega, ?_⟩
        have eX : zXc A L i (G 1 (m + 41)) 4 = zXi A L i (G 1 (m + 41)) := by
          funext E
          refine propext ⟨fun q => q.1, fun q => ⟨q, ?_⟩⟩
          have := q.1.1 _ hm.1.1 hm.1.2
          unfold zCd
          split <;> omega
        rw [eX] at k8
        rw [show zRi A L n (i + 1) + A 8 (L i) = zRi A L n i from by omega]
        refine K M1 _ ⟨e1.trans s1.symm, zC_u k2 (by decide), fun k => by rw [gU_k (by decide)]; exact k3 k, fun k q1 q2 => by rw [gU_j (by omega)]; exact k4 k q1 q2, fun k q1 q2 => ?_, fun t => by rw [gU_k (by decide)]; exact k7 t⟩ ?_
        · by_cases z : k = i
          · rw [z, gU_eq]
          · rw [gU_j z]; exact k6 k (by omega) q2
        · have : gU G1 1 (m + 44) i (-1) 1 (m + 42) = G1 1 (m + 42) := by funext t; exact gU_k (by decide)
          rw [this]
          exact k8
      · intro c c3 c4 st M1 G1 k1 k2 k3 k4 k5 k6 k7 k8
        have split1 : ∀ (M2 : Int) (F2 : Int → Int), zBt A (zXe A L i (G 1 (m + 41)) c) M1 (G1 1 (m + 42)) M2 F2 → zBt A (zXc A L i (G 1 (m + 41)) (c + 1)) M (G 1 (m + 42)) M2 F2 := fun M2 F2 w => by
          refine zBt_t k8 w (fun E E' q1 q2 => zXe_lt hB hE (by omega) q1 q2) (fun E => ?_)
          unfold zXc zXe
          constructor
          · rintro ⟨q1, q2⟩
            by_cases z : zCd (E (L i)) < c
            · exact Or.inl ⟨q1, z⟩
            · exact Or.inr ⟨q1, by omega⟩
          · rintro (⟨q1, q2⟩ | ⟨q1, q2⟩)
            · exact ⟨q1, by omega⟩
            · exact ⟨q1, by omega⟩
        have e7 : zM m (gU G1 1 (m + 44) i c) = A := by rw [zM_u44]; exact k1
        have L7 : ∀ k, gU G1 1 (m + 44) i c 1 (m + 43) k = G 1 (m + 43) k := fun k => by rw [gU_k (by decide)]; exact k3 k
        have S7 : ∀ k, 0 ≤ k → k < i → gU G1 1 (m + 44) i c 1 (m + 44) k = G 1 (m + 44) k := fun k q1 q2 => by rw [gU_j (by omega)]; exact k4 k q1 q2
        have N7 : ∀ k, i < k → k < n → gU G1 1 (m + 44) i c 1 (m + 44) k = -1 := fun k q1 q2 => by rw [gU_j (by omega)]; exact k6 k q1 q2
        have T7 : ∀ t, gU G1 1 (m + 44) i c 1 (m + 41) t = G 1 (m + 41) t := fun t => by rw [gU_k (by decide)]; exact k7 t
        have F7 : gU G1 1 (m + 44) i c 1 (m + 42) = G1 1 (m + 42) := by funext t; exact gU_k (by decide)
        have hit : G 1 (m + 41) (L i) = -1 := s5 i (Int.le_refl _) (by omega)
        have next := st
        refine sg_M_byAll_214 ⟨fun _ => ⟨by omega, fun _ => ⟨by omega, ?_⟩⟩, fun q => absurd q (by omega)⟩
        rw [k5, show c - 1 + 1 = c from by omega]
        rintro _ rfl
        rw [gU_eq, e7, k1]
        have skip : (∀ E, zXe A L i (G 1 (m + 41)) c E → zW A E ≤ M1) → EX e b m m_M_byAll Z kc ks 214 [(2, (m + 0)), (0, n), (0, zRi A L n (i + 1)), (0, M1), (0, zSi A L (G 1 (m + 41)) i), (0, i), (0, L i), (0, 0)] [] (gU G1 1 (m + 44) i c) := fun w => by
          refine st M1 _ e7 (zC_u k2 (by decide)) L7 S7 (by rw [gU_eq]; omega) N7 T7 ?_
          rw [F7]
          exact split1 _ _ (zBt_skip w)
        refine ⟨fun q3 => ⟨fun q => skip (fun E w => ?_), fun q => ⟨by omega, by omega, by omega, fun q2 => skip (fun E w => ?_), fun q2 => ?_⟩⟩, fun q3 => ⟨by omega, fun q2 => skip (fun E w => ?_), fun q2 => ?_⟩⟩
        · exfalso
          have v1 := w.1.1.1 _ hm.1.1 hm.1.2
          have v2 := w.2
          unfold zCd at v2
          split at v2 <;> omega
        · have v2 := w.2
          have v3 : E (L i) = c := by unfold zCd at v2; split at v2 <;> omega
          have hX : zXi A L (i + 1) (zSet (G 1 (m + 41)) (L i) c) E := ⟨w.1.1, fun j j1 j2 => by
            by_cases z : j = i
            · rw [z, zSet_eq, v3]
            · have := (zL_lt hE (i := j) (j := i) ⟨j1, by omega⟩ ⟨hi, by omega⟩).mp (by omega)
              rw [zSet_ne (by omega)]; exact w.1.2 j j1 (by omega)⟩
          have := zXi_W hB hE (i := i + 1) (by omega) hX
          have e5 : zSi A L (zSet (G 1 (m + 41)) (L i) c) (i + 1) = zSi A L (G 1 (m + 41)) i + A 8 (L i) := by
            unfold zSi
            rw [zS_s hi, zSet_eq, if_neg (by omega)]
            congr 1
            refine zS_eq i hi (fun k q1 q2 => ?_)
            have := (zL_lt hE (i := k) (j := i) ⟨q1, by omega⟩ ⟨hi, by omega⟩).mp q2
            show (if zSet (G 1 (m + 41)) (L i) c (L k) = -1 then 0 else A 8 (L k)) = _
            rw [zSet_ne (by omega)]
          omega
        · rintro _ rfl
          have s17 : gU (gU G1 1 (m + 44) i c) 1 (m + 41) (L i) c 1 (m + 44) i = c := by rw [gU_k (by decide), gU_eq]
          have e17 : zM m (gU (gU G1 1 (m + 44) i c) 1 (m + 41) (L i) c) = A := by rw [zM_u41]; exact e7
          have T17 : ∀ t, gU (gU G1 1 (m + 44) i c) 1 (m + 41) (L i) c 1 (m + 41) t = zSet (G 1 (m + 41)) (L i) c t := fun t => by
            by_cases z : t = L i
            · rw [z, gU_eq, zSet_eq]
            · rw [gU_j z, zSet_ne z]; exact T7 t
          rw [s17]
          refine z_ctw 41 rfl fun hk => ?_
          refine GM.mono (c_M_isDoing (by rw [e17]; exact hB) (by rw [e17]; exact hI) (by omega) hk (by omega)) ?_
          rintro v G2 ⟨l1, l2⟩
          have eT : gU (gU G1 1 (m + 44) i c) 1 (m + 41) (L i) c 1 (m + 41) = zSet (G 1 (m + 41)) (L i) c := by funext t; exact T17 t
          rw [e17, eT] at l1
          have e2 : zM m G2 = A := (zO_M l2 (by decide)).trans e17
          have C2 : zC m G G2 := zC_t (zC_u (zC_u k2 (by decide)) (by decide)) (zO_C l2 (by decide))
          have L2 : ∀ k, G2 1 (m + 43) k = G 1 (m + 43) k := fun k => by rw [l2 1 (m + 43) k (fun _ => by omega), gU_k (by decide)]; exact L7 k
          have S2 : ∀ k, G2 1 (m + 44) k = gU G1 1 (m + 44) i c 1 (m + 44) k := fun k => by rw [l2 1 (m + 44) k (fun _ => by omega), gU_k (by decide)]
          have T2 : ∀ t, G2 1 (m + 41) t = zSet (G 1 (m + 41)) (L i) c t := fun t => by rw [l2 1 (m + 41) t (fun _ => by omega)]; exact T17 t
          have F2 : G2 1 (m + 42) = G1 1 (m + 42) := by funext t; rw [l2 1 (m + 42) t (fun _ => by omega), gU_k (by decide), F7]
          refine ⟨fun qv => ?_, fun qv => ?_⟩
          · rintro _ rfl
            have nd : ¬ zDo A (zSet (G 1 (m + 41)) (L i) c) c := by
              rcases l1 with l1 | l1
              · omega
              · exact l1.2
            refine st M1 _ (by rw [zM_u41]; exact e2) (zC_u C2 (by decide)) (fun k => by rw [gU_k (by decide)]; exact L2 k) (fun k q1 q2 => by rw [gU_k (by decide), S2]; exact S7 k q1 q2) (by rw [gU_k (by decide), S2, gU_eq]; omega) (fun k q1 q2 => by rw [gU_k (by decide), S2]; exact N7 k q1 q2) (fun t => ?_) ?_
            · by_cases z : t = L i
              · rw [z, gU_eq, hit]
              · rw [gU_j z, T2, zSet_ne z]
            · have : gU G2 1 (m + 41) (L i) (-1) 1 (m + 42) = G1 1 (m + 42) := by rw [← F2]; funext t; exact gU_k (by decide)
              rw [this]
              refine split1 _ _ (zBt_skip (fun E w => ?_))
              exfalso
              have v2 := w.2
              have v3 : E (L i) = c := by unfold zCd at v2; split at v2 <;> omega
              refine nd (zDo_mono b0.1 h0 (fun t t1 t2 g => ?_) (w.1.1.2 c (by omega) (by omega)))
              by_cases z : t = L i
              · rw [z]; exact ⟨v3, hm.2⟩
              · have g1 := g.1
                rw [zSet_ne z] at g1
                obtain ⟨k, hk, ek⟩ := hE.2.2.2 t t1 t2 g.2
                have : k < i := by
                  by_cases y : k < i
                  · exact y
                  · have := s5 k (by omega) hk.2
                    rw [ek] at this
                    omega
                refine ⟨?_, g.2⟩
                rw [← ek, w.1.2 k hk.1 this, ek]
                exact g1
          · have hd : zDo A (zSet (G 1 (m + 41)) (L i) c) c := by
              rcases l1 with l1 | l1
              · exact l1.2
              · exact absurd l1.1 qv
            have hV := zVd_set b0.1 h0 s4 hit hm.2 (by omega) hd
            rw [e2]
            refine ⟨by omega, ?_⟩
            refine sg_M_byAll_214 ⟨fun q => absurd q (by decide), fun _ => ⟨fun q => absurd q (by decide), fun _ => ⟨by omega, ?_⟩⟩⟩
            have TT2 : G2 1 (m + 41) = zSet (G 1 (m + 41)) (L i) c := by funext t; exact T2 t
            have e5 : zSi A L (G2 1 (m + 41)) (i + 1) = zSi A L (G 1 (m + 41)) i + A 8 (L i) := by
              rw [TT2]
              unfold zSi
              rw [zS_s hi, zSet_eq, if_neg (by omega)]
              congr 1
              refine zS_eq i hi (fun k q1 q2 => ?_)
              have := (zL_lt hE (i := k) (j := i) ⟨q1, by omega⟩ ⟨hi, by omega⟩).mp q2
              show (if zSet (G 1 (m + 41)) (L i) c (L k) = -1 then 0 else A 8 (L k)) = _
              rw [zSet_ne (by omega)]
            rw [← e5]
            refine ih (i + 1) M1 G2 (by omega) (by omega) ⟨e2, fun k q1 q2 => (L2 k).trans (s2 k q1 q2), fun k q1 q2 => by rw [S2]; exact N7 k (by omega) q2, by rw [TT2]; exact hV, fun k q1 q2 => ?_⟩ (fun M2 G3 d w => ?_)
            · have := (zL_lt hE (i := i) (j := k) ⟨hi, by omega⟩ ⟨by omega, q2⟩).mp (by omega)
              rw [T2, zSet_ne (by omega)]
              exact s5 k (by omega) q2
            · obtain ⟨d1, d2, d3, d4, d5, d6⟩ := d
              have g1 : G3 1 (m + 44) i = c := by rw [d4 i hi (by omega), S2, gU_eq]
              have g2 : G3 1 (m + 43) i = L i := (d3 i).trans ((L2 i).trans (s2 i hi (by omega)))
              have g3 : G3 1 (m + 41) (L i) = c := by rw [d6, T2, zSet_eq]
              have e3 : zM m G3 = A := d1.trans e2
              rw [show i + 1 + (-1) = i from by omega, e5]
              refine sg_M_byAll_92 ⟨fun q => absurd q (by omega), fun _ => ⟨fun _ => ⟨by omega, ?_⟩, fun q => absurd q (by omega)⟩⟩
              rw [g1, g2, g3, e3]
              refine ⟨fun _ => ⟨by omega, fun q => absurd q (by omega), fun _ => ⟨by omega, ?_⟩⟩, fun q => absurd q (by omega)⟩
              rintro _ rfl
              rw [show zSi A L (G 1 (m + 41)) i + A 8 (L i) - A 8 (L i) = zSi A L (G 1 (m + 41)) i from by omega]
              refine st M2 _ (by rw [zM_u41]; exact e3) (zC_u (zC_t C2 d2) (by decide)) (fun k => by rw [gU_k (by decide)]; exact (d3 k).trans (L2 k)) (fun k q1 q2 => by rw [gU_k (by decide), d4 k q1 (by omega), S2]; exact S7 k q1 q2) (by rw [gU_k (by decide), g1]; omega) (fun k q1 q2 => by rw [gU_k (by decide)]; exact d5 k (by omega) q2) (fun t => ?_) ?_
              · by_cases z : t = L i
                · rw [z, gU_eq, hit]
                · rw [gU_j z, d6, T2, zSet_ne z]
              · have : gU G3 1 (m + 41) (L i) (-1) 1 (m + 42) = G3 1 (m + 42) := by funext t; exact gU_k (by decide)
                rw [this]
                rw [F2, TT2] at w
                have eX : zXi A L (i + 1) (zSet (G 1 (m + 41)) (L i) c) = zXe A L i (G 1 (m + 41)) c := by
                  funext E
                  refine propext ⟨fun q => ⟨⟨q.1, fun j j1 j2 => ?_⟩, ?_⟩, fun q => ⟨q.1.1, fun j j1 j2 => ?_⟩⟩
                  · have := (zL_lt hE (i := j) (j := i) ⟨j1, by omega⟩ ⟨hi, by omega⟩).mp (by omega)
                    rw [q.2 j j1 (by omega), zSet_ne (by omega)]
                  · rw [q.2 i hi (by omega), zSet_eq]
                    unfold zCd
                    rw [if_neg (by omega)]
                  · by_cases z : j = i
                    · have v2 := q.2
                      rw [z, zSet_eq]
                      unfold zCd at v2
                      split at v2 <;> omega
                    · have := (zL_lt hE (i := j) (j := i) ⟨j1, by omega⟩ ⟨hi, by omega⟩).mp (by omega)
                      rw [zSet_ne (by omega)]
                      exact q.1.2 j j1 (by omega)
                rw [eX] at w
                exact split1 _ _ w
        · have v2 := w.2
          have := zXi_W hB hE (i := i + 1) (R := G 1 (m + 41)) (E := E) (by omega) ⟨w.1.1, fun j j1 j2 => by
            by_cases z : j = i
            · rw [z, hit]
              unfold zCd at v2
              have := w.1.1.1 _ hm.1.1 hm.1.2
              split at v2 <;> omega
            · exact w.1.2 j j1 (by omega)⟩
          have e5 : zSi A L (G 1 (m + 41)) (i + 1) = zSi A L (G 1 (m + 41)) i := by
            unfold zSi
            rw [zS_s hi, if_pos hit, Int.add_zero]
          omega
        · subst q3
          refine sg_M_byAll_214 ⟨fun q => absurd q (by decide), fun _ => ⟨fun q => absurd q (by decide), fun _ => ⟨by omega, ?_⟩⟩⟩
          have TT7 : gU G1 1 (m + 44) i 3 1 (m + 41) = G 1 (m + 41) := by funext t; exact T7 t
          have e5 : zSi A L (gU G1 1 (m + 44) i 3 1 (m + 41)) (i + 1) = zSi A L (G 1 (m + 41)) i := by
            rw [TT7]
            unfold zSi
            rw [zS_s hi, if_pos hit, Int.add_zero]
          rw [← e5]
          refine ih (i + 1) M1 _ (by omega) (by omega) ⟨e7, fun k q1 q2 => (L7 k).trans (s2 k q1 q2), fun k q1 q2 => N7 k (by omega) q2, by rw [TT7]; exact s4, fun k q1 q2 => by rw [TT7]; exact s5 k (by omega) q2⟩ (fun M2 G3 d w => ?_)
          obtain ⟨d1, d2, d3, d4, d5, d6⟩ := d
          have g1 : G3 1 (m + 44) i = 3 := by rw [d4 i hi (by omega), gU_eq]
          have g2 : G3 1 (m + 43) i = L i := (d3 i).trans ((L7 i).trans (s2 i hi (by omega)))
          have g3 : G3 1 (m + 41) (L i) = -1 := by rw [d6, T7, hit]
          have e3 : zM m G3 = A := d1.trans e7
          rw [show i + 1 + (-1) = i from by omega, e5]
          refine sg_M_byAll_92 ⟨fun q => absurd q (by omega), fun _ => ⟨fun _ => ⟨by omega, ?_⟩, fun q => absurd q (by omega)⟩⟩
          rw [g1, g2, g3]
          refine ⟨fun _ => ⟨by omega, fun _ => ?_, fun q => absurd rfl q⟩, fun q => absurd q (by decide)⟩
          refine st M2 G3 e3 (zC_t (zC_u k2 (by decide)) d2) (fun k => (d3 k).trans (L7 k)) (fun k q1 q2 => (d4 k q1 (by omega)).trans (S7 k q1 q2)) (by rw [g1]; decide) (fun k q1 q2 => d5 k (by omega) q2) (fun t => (d6 t).trans (T7 t)) ?_
          rw [F7, TT7] at w
          have eX : zXi A L (i + 1) (G 1 (m + 41)) = zXe A L i (G 1 (m + 41)) 3 := by
            funext E
            refine propext ⟨fun q => ⟨⟨q.1, fun j j1 j2 => q.2 j j1 (by omega)⟩, ?_⟩, fun q => ⟨q.1.1, fun j j1 j2 => ?_⟩⟩
            · rw [q.2 i hi (by omega), hit]
              rfl
            · by_cases z : j = i
              · have v2 := q.2
                have := q.1.1.1 _ hm.1.1 hm.1.2
                rw [z, hit]
                unfold zCd at v2
                split at v2 <;> omega
              · exact q.1.2 j j1 (by omega)
          rw [eX] at w
          exact split1 _ _ w
    have s3i := s3 i (Int.le_refl _) (by omega)
    have s2i := s2 i hi (by omega)
    have s5i := s5 i (Int.le_refl _) (by omega)
    refine sg_M_byAll_92 ⟨fun q => absurd q (by omega), fun _ => ⟨fun _ => ⟨by omega, ?_⟩, fun q => absurd q (by omega)⟩⟩
    rw [s3i, s2i, s5i, s1]
    refine ⟨fun q => absurd rfl q, fun _ => ⟨by omega, by omega, fun _ => ?_, fun q => absurd rfl q⟩⟩
    rw [show zRi A L n i - A 8 (L i) = zRi A L n (i + 1) from by omega]
    refine key 0 (by decide) (by decide) M G s1 zC_r (fun _ => rfl) (fun _ _ _ => rfl) (by rw [s3i]; decide) (fun k q1 q2 => s3 k (by omega) q2) (fun _ => rfl) (zBt_skip (fun E w => ?_))
    exfalso
    have := w.1.1.1 _ hm.1.1 hm.1.2
    have := w.2
    unfold zCd at this
    split at this <;> omega
