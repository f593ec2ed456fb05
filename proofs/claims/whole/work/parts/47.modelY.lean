/-! THE REFERENCE, 24: the search for the spread, its steps -/
theorem l_M_spread_228 {e : gE} {b : Nat} {m : Int} {Z : Int → gH → Prop} {kc ks : Nat} {A : zA} {p1 n : Int} {L : Int → Int} (hB : zB 512 A) (hP : zPl A) (hE : zEnum (zMv A) (fun _ => 0) (A 785 0) n L) : ∀ (r : Nat) (i M : Int) (G : gH), i + r = n → 0 ≤ i → zDT A m n L i G → (∀ M' G', zDQ m n i (A 787 0) G G' → zMt (zXs A n L i (G 1 (m + 41))) (zCo A n L) (zSt n L) M (G 1 (m + 42)) M' (G' 1 (m + 42)) → EX e b m m_M_spread Z kc ks 228 [(2, (m + 0)), (0, p1), (0, n), (2, (m + 44)), (0, M'), (0, zCo A i L (G 1 (m + 41))), (0, (i + (-1))), (9, 0), (9, 0)] [] G') → EX e b m m_M_spread Z kc ks 228 [(2, (m + 0)), (0, p1), (0, n), (2, (m + 44)), (0, M), (0, zCo A i L (G 1 (m + 41))), (0, i), (9, 0), (9, 0)] [] G := by
  have b0 : 0 ≤ A 785 0 ∧ A 785 0 ≤ 16 := hB 785 0
  have b1 : 0 ≤ A 787 0 ∧ A 787 0 ≤ 5 := hB 787 0
  have hn := hE.1
  intro r
  induction r with
  | zero =>
    intro i M G hr hi hS K
    obtain ⟨s1, s2, s3, s4, s5⟩ := hS
    have ei : i = n := by omega
    subst ei
    have same : ∀ f, zXs A i L i (G 1 (m + 41)) f → zCo A i L f = zCo A i L (G 1 (m + 41)) ∧ zSt i L f = zSt i L (G 1 (m + 41)) := fun f hX => ⟨zCo_c hn.1 hX.2, zSt_c hn.1 hX.2⟩
    have same2 : ∀ g, (∀ k, 0 ≤ k → k < i → g k = G 1 (m + 41) k) → zEf i L g = zEf i L (G 1 (m + 41)) := fun g hg => zEf_c hn.1 hg
    refine sg_M_spread_228 ⟨⟨fun q => absurd q (by omega), fun _ => ⟨fun q => absurd rfl q, fun _ q1 q2 => ⟨by omega, ?_⟩⟩⟩, fun q => ?_⟩
    · refine K M G ⟨rfl, zC_r, fun _ => rfl, fun _ _ _ => rfl, s4, fun _ _ _ => rfl⟩ (zMt_no (fun f hX => ?_))
      have := (same f hX).1
      omega
    · refine GM.mono (c_M_isKept (E := zEf i L (G 1 (m + 41))) (by rw [s1]; exact hB) (by rw [s1]; exact hP) (by rw [s1]; exact hE) s2 (fun k k1 k2 => (zEf_L (A := A) hE ⟨k1, k2⟩).symm) (fun k k1 k2 => by rw [zEf_L (A := A) hE ⟨k1, k2⟩, s1]; exact (s3 k k1 k2).1.1)) ?_
      rintro v G2 ⟨l1, l2⟩
      subst l2
      rw [s1] at l1
      refine ⟨fun qv => ⟨by omega, ?_⟩, fun qv => ?_⟩
      · have nk : ¬ zKp A (zEf i L (G2 1 (m + 41))) := by
          rcases l1 with l1 | l1
          · omega
          · exact l1.2
        refine K M G2 ⟨rfl, zC_r, fun _ => rfl, fun _ _ _ => rfl, s4, fun _ _ _ => rfl⟩ (zMt_no (fun f hX => ?_))
        exfalso
        have := hX.1.2
        rw [same2 f hX.2] at this
        exact nk this
      · have hk : zKp A (zEf i L (G2 1 (m + 41))) := by
          rcases l1 with l1 | l1
          · exact l1.2
          · exact absurd l1.1 qv
        refine l_M_spread_267 (P := A 787 0) (by omega) (by omega) (fun G' d f => ?_)
        have bc := zCo_b (L := L) (f := G2 1 (m + 41)) hB (n := i) (by omega)
        have hv : zSv A i L (G2 1 (m + 41)) := ⟨s3, hk⟩
        have hv2 : zSv A i L (G' 1 (m + 42)) := zSv_c hn.1 (fun k k1 k2 => (f k k1 k2).symm) hv
        refine K _ G' d ⟨fun g hX => ?_, Or.inr ⟨by omega, by omega, ⟨hv2, f⟩, zCo_c hn.1 f, fun g hX _ => ?_⟩⟩
        · have := (same g hX).1
          omega
        · rw [(same g hX).2, zSt_c hn.1 f]
          exact Int.le_refl _
  | succ r ih =>
    intro i M G hr hi hS K
    obtain ⟨s1, s2, s3, s4, s5⟩ := hS
    have hm := hE.2.1 i hi (by omega)
    have bh : 0 ≤ A 9 (L i) ∧ A 9 (L i) ≤ 4 := hB 9 (L i)
    have bk : 0 ≤ A 7 (L i) ∧ A 7 (L i) ≤ 3 := hB 7 (L i)
    have bw : 0 ≤ A 791 0 ∧ A 791 0 ≤ 1000 := hB 791 0
    have bC := zCo_b (L := L) (f := G 1 (m + 41)) hB (n := i) (by omega)
    have at5 : zAt A (L i) → A 11 (L i) < 405 := fun q => by have := hP _ q; omega
    have key : ∀ c, 0 ≤ c → c ≤ A 787 0 → ∀ (M1 : Int) (G1 : gH), zM m G1 = A → zC m G G1 → (∀ k, G1 1 (m + 43) k = G 1 (m + 43) k) → (∀ k, 0 ≤ k → k < i → G1 1 (m + 41) k = G 1 (m + 41) k) → (∀ k, i < k → k < n → G1 1 (m + 41) k = -1) → (∀ p, 0 ≤ p → p < A 787 0 → G1 1 (m + 44) p = G 1 (m + 44) p) → zMt (zXsc A n L i (G 1 (m + 41)) c) (zCo A n L) (zSt n L) M (G 1 (m + 42)) M1 (G1 1 (m + 42)) → EX e b m m_M_spread Z kc ks 367 [(2, (m + 0)), (0, p1), (0, n), (2, (m + 44)), (0, M1), (0, zCo A i L (G 1 (m + 41))), (0, i), (0, L i), (0, c)] [] G1 := by
      intro c c1 c2
      refine zloop (P := fun c => ∀ (M1 : Int) (G1 : gH), zM m G1 = A → zC m G G1 → (∀ k, G1 1 (m + 43) k = G 1 (m + 43) k) → (∀ k, 0 ≤ k → k < i → G1 1 (m + 41) k = G 1 (m + 41) k) → (∀ k, i < k → k < n → G1 1 (m + 41) k = -1) → (∀ p, 0 ≤ p → p < A 787 0 → G1 1 (m + 44) p = G 1 (m + 44) p) → zMt (zXsc A n L i (G 1 (m + 41)) c) (zCo A n L) (zSt n L) M (G 1 (m + 42)) M1 (G1 1 (m + 42)) → EX e b m m_M_spread Z kc ks 367 [(2, (m + 0)), (0, p1), (0, n), (2, (m + 44)), (0, M1), (0, zCo A i L (G 1 (m + 41))), (0, i), (0, L i), (0, c)] [] G1) (i := c) (A 787 0) c2 ?_ ?_
      · intro M1 G1 k1 k2 k3 k4 k5 k6 k7
        refine sg_M_spread_367 ?_
        rw [k1]
        refine ⟨fun q => absurd q (by omega), fun q => absurd q (by omega), fun _ => ⟨fun q => absurd q (by omega), fun _ => ⟨by omega, ?_⟩⟩⟩
        rintro _ rfl
        have eX : zXsc A n L i (G 1 (m + 41)) (A 787 0) = zXs A n L i (G 1 (m + 41)) := by
          funext f
          refine propext ⟨fun q => q.1, fun q => ⟨q, ?_⟩⟩
          exact (q.1.1 i hi (by omega)).1.1.2
        rw [eX] at k7
        refine ⟨by omega, K M1 _ ⟨by rw [zM_u41]; exact k1.trans s1.symm, zC_u k2 (by decide), fun k => by rw [gU_k (by decide)]; exact k3 k, fun k q1 q2 => by rw [gU_j (by omega)]; exact k4 k q1 q2, fun k q1 q2 => ?_, fun p q1 q2 => by rw [gU_k (by decide)]; exact k6 p q1 q2⟩ ?_⟩
        · by_cases z : k = i
          · rw [z, gU_eq]
          · rw [gU_j z]; exact k5 k (by omega) q2
        · have : gU G1 1 (m + 41) i (-1) 1 (m + 42) = G1 1 (m + 42) := by funext t; exact gU_k (by decide)
          rw [this]
          exact k7
      · intro c c3 c4 st M1 G1 k1 k2 k3 k4 k5 k6 k7
        have bp := zPrice_b (t := L i) (p := c) hB
        have ba : 0 ≤ A 26 c ∧ A 26 c ≤ 60 := hB 26 c
        have hz : zP A c (A 791 0) := ⟨by omega, bw.1, ba⟩
        have l6 := k6 c (by omega) c4
        have l5 := s5 c (by omega) c4
        have blf := zLf_b (p := c) hB
        have bld := zLd_b (L := L) (f := G 1 (m + 41)) (n := i) (p := c) hB (by omega)
        refine z_etw 44 rfl (by decide) fun hT => ?_
        refine sg_M_spread_367 ?_
        rw [k1, l6]
        refine ⟨fun _ => ⟨by omega, by omega, fun q1 => ⟨hz, by omega, fun q2 => ⟨hT.1.1, by omega, by omega, fun q3 q4 => ⟨hB, by omega, at5, by omega⟩⟩⟩⟩, fun q => ⟨by omega, ?_⟩, fun q => ⟨fun _ => ⟨by omega, ?_⟩, fun q2 => absurd q2 (by omega)⟩⟩
        · refine st M1 G1 k1 k2 k3 k4 k5 k6 (zXs_t hE b0.2 b1.2 ⟨hi, by omega⟩ k7 (zMt_no (fun f hX => ?_)))
          have hv := hX.1.1.1 i hi (by omega)
          have hc := hX.2
          rw [hc] at hv
          have e1 : zLd A L f (i + 1) c = zLd A L (G 1 (m + 41)) i c + A 9 (L i) := by
            rw [zLd_s hi, hc, if_pos rfl, zLd_c hi (fun k q1 q2 => hX.1.2 k q1 q2)]
          have e2 : zLd A L f (i + 1) c ≤ zLd A L f n c := zS_up ⟨by omega, by omega⟩ (fun k _ _ => by
            have bh : 0 ≤ A 9 (L k) ∧ A 9 (L k) ≤ 4 := hB 9 (L k)
            show 0 ≤ if f k = c then A 9 (L k) else 0
            split <;> omega)
          have e3 : zCo A (i + 1) L f = zCo A i L (G 1 (m + 41)) + zPrice A (L i) c := by
            rw [zCo_s hi, hc, zCo_c hi (fun k q1 q2 => hX.1.2 k q1 q2)]
          have e4 : zCo A (i + 1) L f ≤ zCo A n L f := zS_up ⟨by omega, by omega⟩ (fun k _ _ => (zPrice_b hB).1)
          rcases q with q | q | q | q
          · exfalso
            have w := hm.2
            have hg := hv.1.2
            rcases w with w | w
            · omega
            · rw [q.2, show 400 + c - 400 = c from by omega] at w
              exact w.2 hg
          · exact absurd hv.1.2 q.2.2
          · exfalso; omega
          · omega
        · rintro _ rfl
          refine ⟨hT.1.1, by omega, by omega, by omega, ?_⟩
          have e32 : zM m (gU G1 1 (m + 41) i c) = A := by rw [zM_u41]; exact k1
          have l32 : gU G1 1 (m + 41) i c 1 (m + 44) c = zLf A c - zLd A L (G 1 (m + 41)) i c := by rw [gU_k (by decide), l6, l5]
          rw [e32, l32]
          refine ⟨by omega, hT.2, ?_⟩
          rintro _ rfl
          have e39 : zM m (gU (gU G1 1 (m + 41) i c) 1 (m + 44) c (zLf A c - zLd A L (G 1 (m + 41)) i c - A 9 (L i))) = A := by rw [zM_u44]; exact e32
          rw [e39]
          refine ⟨hB, by omega, at5, by omega, by omega, ?_⟩
          rw [l5] at q
          generalize hG9 : gU (gU G1 1 (m + 41) i c) 1 (m + 44) c (zLf A c - zLd A L (G 1 (m + 41)) i c - A 9 (L i)) = G9 at *
          have T9 : ∀ k, 0 ≤ k → k < i → G9 1 (m + 41) k = G 1 (m + 41) k := fun k q1 q2 => by rw [← hG9, gU_k (by decide), gU_j (by omega)]; exact k4 k q1 q2
          have t9 : G9 1 (m + 41) i = c := by rw [← hG9, gU_k (by decide), gU_eq]
          have F9 : G9 1 (m + 42) = G1 1 (m + 42) := by rw [← hG9]; funext t; rw [gU_k (by decide), gU_k (by decide)]
          have L9 : ∀ k, G9 1 (m + 43) k = G 1 (m + 43) k := fun k => by rw [← hG9, gU_k (by decide), gU_k (by decide)]; exact k3 k
          have S9 : ∀ p, 0 ≤ p → p < A 787 0 → p ≠ c → G9 1 (m + 44) p = G 1 (m + 44) p := fun p q1 q2 q3 => by rw [← hG9, gU_j q3, gU_k (by decide)]; exact k6 p q1 q2
          have s9 : G9 1 (m + 44) c = zLf A c - zLd A L (G 1 (m + 41)) i c - A 9 (L i) := by rw [← hG9, gU_eq]
          have N9 : ∀ k, i < k → k < n → G9 1 (m + 41) k = -1 := fun k q1 q2 => by rw [← hG9, gU_k (by decide), gU_j (by omega)]; exact k5 k q1 q2
          have C9 : zC m G G9 := by rw [← hG9]; exact zC_u (zC_u k2 (by decide)) (by decide)
          have eC : zCo A (i + 1) L (G9 1 (m + 41)) = zCo A i L (G 1 (m + 41)) + zPrice A (L i) c := by rw [zCo_s hi, t9, zCo_c hi T9]
          have eL : ∀ p, zLd A L (G9 1 (m + 41)) (i + 1) p = zLd A L (G 1 (m + 41)) i p + if c = p then A 9 (L i) else 0 := fun p => by rw [zLd_s hi, t9, zLd_c hi T9]
          rw [← eC]
          refine ih (i + 1) M1 G9 (by omega) (by omega) ⟨e39, fun k q1 q2 => (L9 k).trans (s2 k q1 q2), fun k q1 q2 => ?_, fun k q1 q2 => N9 k (by omega) q2, fun p q1 q2 => ?_⟩ (fun M2 G3 d w => ?_)
          · by_cases z : k = i
            · rw [z, t9, eL, if_pos rfl]
              refine ⟨⟨by omega, ?_⟩, by omega⟩
              rcases q with q | q | q
              · omega
              · exact q.2.2.1
              · exact q.2.2.1
            · rw [T9 k q1 (by omega), eL]
              have := s3 k q1 (by omega)
              refine ⟨this.1, ?_⟩
              by_cases y : c = G 1 (m + 41) k
              · rw [if_pos y, ← y]; omega
              · rw [if_neg y]; omega
          · rw [eL]
            by_cases y : c = p
            · rw [if_pos y, ← y, s9]; omega
            · rw [if_neg y, S9 p q1 q2 (fun z => y z.symm), s5 p q1 q2]; omega
          · obtain ⟨d1, d2, d3, d4, d5, d6⟩ := d
            have g1 : G3 1 (m + 41) i = c := by rw [d4 i hi (by omega), t9]
            have g2 : G3 1 (m + 43) i = L i := (d3 i).trans ((L9 i).trans (s2 i hi (by omega)))
            have g3 : G3 1 (m + 44) c = zLf A c - zLd A L (G 1 (m + 41)) i c - A 9 (L i) := by rw [d6 c (by omega) c4, s9]
            have e3 : zM m G3 = A := d1.trans e39
            rw [show i + 1 + (-1) = i from by omega, eC]
            refine z_etw 44 rfl (by decide) fun hT3 => ?_
            refine sg_M_spread_228 ⟨⟨fun q => absurd q (by omega), fun _ => ⟨fun _ => ⟨by omega, ?_⟩, fun q => absurd q (by omega)⟩⟩, fun q => absurd q (by omega)⟩
            rw [g1, g2, g3, e3]
            refine ⟨fun q => absurd q (by omega), fun _ => ⟨hT3.1.1, by omega, by omega, by omega, by omega, hT3.2, ?_⟩⟩
            rintro _ rfl
            have t28 : ∀ k, gU G3 1 (m + 44) c (zLf A c - zLd A L (G 1 (m + 41)) i c - A 9 (L i) + A 9 (L i)) 1 (m + 41) k = G3 1 (m + 41) k := fun k => gU_k (by decide)
            have e28 : zM m (gU G3 1 (m + 44) c (zLf A c - zLd A L (G 1 (m + 41)) i c - A 9 (L i) + A 9 (L i))) = A := by rw [zM_u44]; exact e3
            rw [e28, t28, g1]
            refine ⟨hB, by omega, at5, by omega, by omega, ?_⟩
            rw [show zCo A i L (G 1 (m + 41)) + zPrice A (L i) c - zPrice A (L i) c = zCo A i L (G 1 (m + 41)) from by omega]
            refine st M2 _ e28 (zC_u (zC_t C9 d2) (by decide)) (fun k => by rw [gU_k (by decide)]; exact (d3 k).trans (L9 k)) (fun k q1 q2 => by rw [t28, d4 k q1 (by omega)]; exact T9 k q1 q2) (fun k q1 q2 => by rw [t28]; exact d5 k (by omega) q2) (fun p q1 q2 => ?_) ?_
            · by_cases z : p = c
              · rw [z, gU_eq, l5]; omega
              · rw [gU_j z, d6 p q1 q2]; exact S9 p q1 q2 z
            · have : gU G3 1 (m + 44) c (zLf A c - zLd A L (G 1 (m + 41)) i c - A 9 (L i) + A 9 (L i)) 1 (m + 42) = G3 1 (m + 42) := by funext t; exact gU_k (by decide)
              rw [this]
              rw [F9] at w
              have eX : zXs A n L (i + 1) (G9 1 (m + 41)) = zXse A n L i (G 1 (m + 41)) c := by
                funext f
                refine propext ⟨fun q => ⟨⟨q.1, fun j j1 j2 => ?_⟩, ?_⟩, fun q => ⟨q.1.1, fun j j1 j2 => ?_⟩⟩
                · rw [q.2 j j1 (by omega)]; exact T9 j j1 j2
                · rw [q.2 i hi (by omega), t9]
                · by_cases z : j = i
                  · rw [z, t9]; exact q.2
                  · rw [T9 j j1 (by omega)]; exact q.1.2 j j1 (by omega)
              rw [eX] at w
              exact zXs_t hE b0.2 b1.2 ⟨hi, by omega⟩ k7 w
    have s4i := s4 i (Int.le_refl _) (by omega)
    have s2i := s2 i hi (by omega)
    refine sg_M_spread_228 ⟨⟨fun q => absurd q (by omega), fun _ => ⟨fun _ => ⟨by omega, ?_⟩, fun q => absurd q (by omega)⟩⟩, fun q => absurd q (by omega)⟩
    rw [s4i, s2i]
    refine ⟨fun _ => ⟨by omega, ?_⟩, fun q => absurd rfl q⟩
    exact key 0 (by decide) (by omega) M G s1 zC_r (fun _ => rfl) (fun _ _ _ => rfl) (fun k q1 q2 => s4 k (by omega) q2) (fun _ _ _ => rfl) (zMt_no (fun f hX => by
      have := (hX.1.1.1 i hi (by omega)).1.1.1
      have := hX.2
      omega))
