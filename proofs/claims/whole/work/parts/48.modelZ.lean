/-! THE REFERENCE, 25: spread -/
/-- the things that are moved, in their order -/
noncomputable def zMn (A : zA) : Int × (Int → Int) := @dite _ (∃ p : Int × (Int → Int), zEnum (zMv A) (fun _ => 0) (A 785 0) p.1 p.2) (Classical.propDecidable _) (fun h => Classical.choose h) (fun _ => (0, fun _ => 0))
theorem zMn_u {A : zA} {n : Int} {L : Int → Int} (h : zEnum (zMv A) (fun _ => 0) (A 785 0) n L) : zEnum (zMv A) (fun _ => 0) (A 785 0) (zMn A).1 (zMn A).2 ∧ (zMn A).1 = n ∧ ∀ k, 0 ≤ k → k < n → (zMn A).2 k = L k := by
  have hx : ∃ p : Int × (Int → Int), zEnum (zMv A) (fun _ => 0) (A 785 0) p.1 p.2 := ⟨(n, L), h⟩
  have e : zMn A = Classical.choose hx := dif_pos hx
  rw [e]
  have w := zEnum_u h (Classical.choose_spec hx)
  exact ⟨Classical.choose_spec hx, w.1.symm, fun k k1 k2 => (w.2 k k1 k2).symm⟩
/-- the spread and what it costs; -1: there is none -/
noncomputable def zSp (A : zA) : (Int → Int) × Int := @dite _ (∃ f, zIsS A (zMn A).1 (zMn A).2 f) (Classical.propDecidable _) (fun h => (Classical.choose h, zCo A (zMn A).1 (zMn A).2 (Classical.choose h))) (fun _ => (fun _ => -1, -1))
theorem zSp_u {A : zA} {f : Int → Int} (hE : zEnum (zMv A) (fun _ => 0) (A 785 0) (zMn A).1 (zMn A).2) (hT : A 785 0 ≤ 16) (hp : A 787 0 ≤ 5) (h : zIsS A (zMn A).1 (zMn A).2 f) : (zSp A).2 = zCo A (zMn A).1 (zMn A).2 f ∧ ∀ k, 0 ≤ k → k < (zMn A).1 → (zSp A).1 k = f k := by
  have hx : ∃ f, zIsS A (zMn A).1 (zMn A).2 f := ⟨f, h⟩
  have eS : zSp A = (Classical.choose hx, zCo A (zMn A).1 (zMn A).2 (Classical.choose hx)) := dif_pos hx
  have uq := zIsS_u hE hT hp (Classical.choose_spec hx) h
  rw [eS]
  exact ⟨uq.2, uq.1⟩
def zGs1 (L F : Int → Int) (k : Int) (r : Int × zA) : Int × zA := (r.1, zGo r.2 (L k) (400 + F k))
noncomputable def zfSpread (A : zA) (mv : Int) : Int × zA := if A 788 0 ≠ 2 then zNo A (-6) else if 8 < (zMn A).1 then zNo A (-7) else if (zSp A).2 = -1 then zNo A (-6) else if mv = 0 then ((zSp A).2, A) else if A 792 0 < (zSp A).2 then zNo A (-7) else ((zSp A).2, (zF (zGs1 (zMn A).2 (zSp A).1) (0, zU A 792 0 (A 792 0 - (zSp A).2)) (zMn A).1).2)
theorem zF_c {f g : Int → Int × zA → Int × zA} {r : Int × zA} (n : Int) (hn : 0 ≤ n) (h : ∀ i q, 0 ≤ i → i < n → f i q = g i q) : zF f r n = zF g r n := by
  refine zloopI (i := 0) (I := fun i => zF f r i = zF g r i) (P := fun _ => zF f r n = zF g r n) n hn rfl ?_ (fun q => q) (fun j h1 h2 hi q => q)
  intro j h1 h2 hi
  rw [zF_s h1, zF_s h1, hi, h j _ h1 h2]
theorem zGs_w {A : zA} {L F : Int → Int} (v : Int) (n : Int) (hn : 0 ≤ n) : (zF (zGs1 L F) (v, A) n).2 794 0 = A 794 0 + n ∧ (zF (zGs1 L F) (v, A) n).2 791 0 = A 791 0 :=
  zF_i (I := fun i q => q.2 794 0 = A 794 0 + i ∧ q.2 791 0 = A 791 0) n hn ⟨by show A 794 0 = A 794 0 + 0; omega, rfl⟩ (fun i q h1 h2 hi => by
    unfold zGs1
    dsimp only
    rw [zGo_n, zGo_k (by decide)]
    omega)
theorem l_M_spread_565 {e : gE} {b : Nat} {m : Int} {kc ks : Nat} {G0 G : gH} {n cost : Int} {L F : Int → Int} (A : zA) (hA : zM m G = A) (hC : zC m G0 G) (hs : 0 ≤ A 794 0 ∧ A 794 0 ≤ 11000) (hw : 0 ≤ A 791 0 ∧ A 791 0 ≤ 1000) (hn : 0 ≤ n ∧ n ≤ 16) (hL : ∀ k, 0 ≤ k → k < n → G 1 (m + 43) k = L k) (hF : ∀ k, 0 ≤ k → k < n → G 1 (m + 42) k = F k) (hl : ∀ k, 0 ≤ k → k < n → 0 ≤ L k ∧ L k < 16) (hf : ∀ k, 0 ≤ k → k < n → 0 ≤ F k ∧ F k ≤ 5) : EX e b m m_M_spread (zQ m G0 (cost, (zF (zGs1 L F) (0, A) n).2)) kc ks 565 [(2, (m + 0)), (9, 0), (0, n), (9, 0), (0, cost), (9, 0), (9, 0), (0, 0), (9, 0)] [] G := by
  refine zloop (P := fun i => ∀ G1, zM m G1 = (zF (zGs1 L F) (0, A) i).2 → zC m G0 G1 → (∀ k j, 40 ≤ k → k ≤ 45 → G1 1 (m + k) j = G 1 (m + k) j) → EX e b m m_M_spread (zQ m G0 (cost, (zF (zGs1 L F) (0, A) n).2)) kc ks 565 [(2, (m + 0)), (9, 0), (0, n), (9, 0), (0, cost), (9, 0), (9, 0), (0, i), (9, 0)] [] G1) (i := 0) n hn.1 ?_ ?_ G hA hC (fun _ _ _ _ => rfl)
  · intro G1 h1 h2 h3
    exact sg_M_spread_565 ⟨fun _ => ⟨rfl, h1, h2⟩, fun q => absurd q (by omega)⟩
  · intro j j1 j2 st G1 h1 h2 h3
    have e1 : G1 1 (m + 43) j = L j := (h3 43 j (by decide) (by decide)).trans (hL j j1 j2)
    have e2 : G1 1 (m + 42) j = F j := (h3 42 j (by decide) (by decide)).trans (hF j j1 j2)
    have w := zGs_w (A := A) (L := L) (F := F) 0 j j1
    rw [← h1] at w
    have l1 := hl j j1 j2
    have f1 := hf j j1 j2
    refine sg_M_spread_565 ⟨fun q => absurd q (by omega), fun _ => ⟨by omega, by omega, ?_⟩⟩
    rw [e1, e2]
    refine GM.mono (c_M_goes2 (by omega) (by omega) l1) ?_
    rintro v G2 ⟨⟨-, o1, o2⟩, o3⟩
    rw [zF_s j1] at st
    refine ⟨by omega, st G2 ?_ (zC_t h2 o2) (fun k i k1 k2 => (o3 k i k1 k2).trans (h3 k i k1 k2))⟩
    rw [o1, h1]
    rfl
theorem l_M_spread_152 {e : gE} {b : Nat} {m : Int} {Z : Int → gH → Prop} {kc ks : Nat} {G : gH} {p1 n : Int} {A : zA} {L : Int → Int} (hB : zB 512 A) (hP : zPl A) (hE : zEnum (zMv A) (fun _ => 0) (A 785 0) n L) (hA : zM m G = A) (hL : ∀ k, 0 ≤ k → k < n → G 1 (m + 43) k = L k) (hR : ∀ p, 0 ≤ p → p < A 787 0 → G 1 (m + 44) p = A 23 p - zUsed A p) (K : ∀ G', zM m G' = A → zC m G G' → (∀ k, 0 ≤ k → k < n → G' 1 (m + 43) k = L k) → (∀ k, 0 ≤ k → k < n → G' 1 (m + 41) k = -1) → (∀ p, 0 ≤ p → p < A 787 0 → G' 1 (m + 44) p = zLf A p) → EX e b m m_M_spread Z kc ks 228 [(2, (m + 0)), (0, p1), (0, n), (2, (m + 44)), (0, (-1)), (0, 0), (0, 0), (9, 0), (9, 0)] [] G') : EX e b m m_M_spread Z kc ks 152 [(2, (m + 0)), (0, p1), (0, n), (2, (m + 44)), (0, 0), (9, 0), (9, 0), (9, 0), (9, 0)] [] G := by
  have b0 : 0 ≤ A 785 0 ∧ A 785 0 ≤ 16 := hB 785 0
  have b1 : 0 ≤ A 787 0 ∧ A 787 0 ≤ 5 := hB 787 0
  have hn := hE.1
  refine zloop (P := fun i => ∀ G1, zM m G1 = A → zC m G G1 → (∀ k, 0 ≤ k → k < n → G1 1 (m + 43) k = L k) → (∀ k, 0 ≤ k → k < i → G1 1 (m + 41) k = -1) → (∀ p, 0 ≤ p → p < A 787 0 → G1 1 (m + 44) p = A 23 p - zUsed A p + zS (fun k => if A 11 (L k) = 400 + p then A 9 (L k) else 0) i) → EX e b m m_M_spread Z kc ks 152 [(2, (m + 0)), (0, p1), (0, n), (2, (m + 44)), (0, i), (9, 0), (9, 0), (9, 0), (9, 0)] [] G1) (i := 0) n hn.1 ?_ ?_ G hA zC_r hL (fun k k1 k2 => by omega) (fun p q1 q2 => by rw [zS_0, hR p q1 q2]; omega)
  · intro G1 k1 k2 k3 k4 k5
    refine sg_M_spread_152 ⟨fun _ => K G1 k1 k2 k3 k4 (fun p q1 q2 => ?_), fun q => absurd q (by omega)⟩
    rw [k5 p q1 q2, zEnum_all hE (fun t => if A 11 t = 400 + p then A 9 t else 0)]
    unfold zLf
    congr 1
    refine zS_eq (A 785 0) b0.1 (fun t t1 t2 => ?_)
    show (if zMv A t then (if A 11 t = 400 + p then A 9 t else 0) else 0) = if zMv A t ∧ A 11 t = 400 + p then A 9 t else 0
    by_cases q : zMv A t
    · by_cases q2 : A 11 t = 400 + p
      · rw [if_pos q, if_pos q2, if_pos ⟨q, q2⟩]
      · rw [if_pos q, if_neg q2, if_neg (fun w => q2 w.2)]
    · rw [if_neg q, if_neg (fun w => q w.1)]
  · intro j j1 j2 st G1 k1 k2 k3 k4 k5
    have hm := hE.2.1 j j1 j2
    refine z_etw 44 rfl (by decide) fun hT => ?_
    refine sg_M_spread_152 ⟨fun q => absurd q (by omega), fun _ => ⟨by omega, ?_⟩⟩
    rw [k3 j j1 j2, k1]
    refine ⟨by omega, fun q => ?_, fun q => ?_⟩
    · rintro _ rfl
      refine ⟨by omega, st _ (by rw [zM_u41]; exact k1) (zC_u k2 (by decide)) (fun k q1 q2 => by rw [gU_k (by decide)]; exact k3 k q1 q2) (fun k q1 q2 => ?_) (fun p q1 q2 => ?_)⟩
      · by_cases z : k = j
        · rw [z, gU_eq]
        · rw [gU_j z]; exact k4 k q1 (by omega)
      · rw [gU_k (by decide), k5 p q1 q2, zS_z j1 (if_neg (by omega))]
    · have hp := hP _ q
      have l5 := k5 (A 11 (L j) - 400) (by omega) (by omega)
      have bh : 0 ≤ A 9 (L j) ∧ A 9 (L j) ≤ 4 := hB 9 (L j)
      have br : 0 ≤ A 23 (A 11 (L j) - 400) ∧ A 23 (A 11 (L j) - 400) ≤ 40 := hB 23 (A 11 (L j) - 400)
      have h1 := zS_b (f := fun t => if A 11 t = 400 + (A 11 (L j) - 400) then A 9 t else 0) (c := 4) (A 785 0) (fun i _ _ => by
        have bh : 0 ≤ A 9 i ∧ A 9 i ≤ 4 := hB 9 i
        show 0 ≤ (if A 11 i = 400 + (A 11 (L j) - 400) then A 9 i else 0) ∧ (if A 11 i = 400 + (A 11 (L j) - 400) then A 9 i else 0) ≤ 4
        split <;> omega) b0.1 (by decide)
      have h2 := zS_b (f := fun k => if A 11 (L k) = 400 + (A 11 (L j) - 400) then A 9 (L k) else 0) (c := 4) j (fun i _ _ => by
        have bh : 0 ≤ A 9 (L i) ∧ A 9 (L i) ≤ 4 := hB 9 (L i)
        show 0 ≤ (if A 11 (L i) = 400 + (A 11 (L j) - 400) then A 9 (L i) else 0) ∧ (if A 11 (L i) = 400 + (A 11 (L j) - 400) then A 9 (L i) else 0) ≤ 4
        split <;> omega) j1 (by decide)
      unfold zUsed at l5
      refine ⟨by omega, hT.1.1, by omega, by omega, by omega, hT.2, ?_⟩
      rintro _ rfl _ rfl
      refine ⟨by omega, st _ (by rw [zM_u41, zM_u44]; exact k1) (zC_u (zC_u k2 (by decide)) (by decide)) (fun k q1 q2 => by rw [gU_k (by decide), gU_k (by decide)]; exact k3 k q1 q2) (fun k q1 q2 => ?_) (fun p q1 q2 => ?_)⟩
      · by_cases z : k = j
        · rw [z, gU_eq]
        · rw [gU_j z, gU_k (by decide)]; exact k4 k q1 (by omega)
      · rw [gU_k (by decide)]
        by_cases z : p = A 11 (L j) - 400
        · subst z
          rw [gU_eq, zS_s j1, if_pos (by omega), k5 _ q1 q2]
          omega
        · rw [gU_j z, zS_z j1 (if_neg (by omega))]
          exact k5 p q1 q2
theorem c_M_spread {e : gE} {b : Nat} {m : Int} {G : gH} {p1 : Int} (h : zB 512 (zM m G)) (hP : zPl (zM m G)) : GX e b m m_M_spread [(2, (m + 0)), (0, p1)] G 0 0 (zQ m G (zfSpread (zM m G) p1)) := by
  have hA : zM m G = zM m G := rfl
  generalize hAA : zM m G = A at *
  have b0 : 0 ≤ A 785 0 ∧ A 785 0 ≤ 16 := h 785 0
  have b1 : 0 ≤ A 787 0 ∧ A 787 0 ≤ 5 := h 787 0
  have bw : 0 ≤ A 791 0 ∧ A 791 0 ≤ 1000 := h 791 0
  have bs : 0 ≤ A 794 0 ∧ A 794 0 ≤ 16 * 512 + 32 := h 794 0
  have bfu : 0 ≤ A 792 0 ∧ A 792 0 ≤ 1000000 := h 792 0
  have no : ∀ (G1 : gH) (k : Int), -7 ≤ k ∧ k ≤ -1 → zM m G1 = A → zC m G G1 → GX e b m m_M_no [(2, (m + 0)), (0, k)] G1 0 0 (zQ m G (zNo A k)) := fun G1 k hk k1 k2 => by
    refine GM.mono (c_M_no (by rw [k1]; exact h) hk) (fun v G2 h2 => ?_)
    rw [k1] at h2
    exact zQ_t k2 h2
  refine GM.ofEV (by decide) (Nat.le_of_ble_eq_true rfl) (sg_M_spread_0 ?_)
  rw [hAA]
  unfold zfSpread
  refine ⟨fun q0 => ?_, fun q => by rw [if_pos q]; exact no G (-6) (by decide) hAA zC_r⟩
  rw [if_neg (by omega)]
  refine zloop (P := fun T => ∀ (n : Int) (L0 : Int → Int) (G1 : gH), zEnum (zMv A) (fun _ => 0) T n L0 → zM m G1 = A → zC m G G1 → (∀ k, 0 ≤ k → k < n → k < 9 → G1 1 (m + 43) k = L0 k) → EX e b m m_M_spread _ _ _ 19 [(2, (m + 0)), (0, p1), (0, n), (0, T), (9, 0), (9, 0), (9, 0), (9, 0), (9, 0)] [] G1) (i := 0) (A 785 0) b0.1 ?_ ?_ 0 (fun _ => 0) G zEnum_0 hAA zC_r (fun k k1 k2 => by omega)
  · intro n L0 G1 hE0 k1 k2 k3
    have hn := hE0.1
    obtain ⟨hE, en, eL⟩ := zMn_u hE0
    refine sg_M_spread_19 ?_
    rw [k1]
    refine ⟨⟨fun _ => ⟨fun q8 => ?_, fun q8 => by rw [if_pos (by omega)]; exact no G1 (-7) (by decide) k1 k2⟩, fun q => absurd q (by omega)⟩, fun q => absurd q (by omega), fun q => absurd q (by omega)⟩
    rw [if_neg (by omega)]
    rw [en] at hE ⊢
    generalize hL : (zMn A).2 = L at *
    have k4 : ∀ k, 0 ≤ k → k < n → G1 1 (m + 43) k = L k := fun k q1 q2 => (k3 k q1 q2 (by omega)).trans (eL k q1 q2).symm
    refine zloop (P := fun i => ∀ G2, zO (m + 44) G1 G2 → (∀ p, 0 ≤ p → p < i → G2 1 (m + 44) p = A 23 p - zUsed A p) → EX e b m m_M_spread _ _ _ 116 [(2, (m + 0)), (0, p1), (0, n), (2, (m + 44)), (0, i), (9, 0), (9, 0), (9, 0), (9, 0)] [] G2) (i := 0) (A 787 0) b1.1 ?_ ?_ G1 zO_r (fun p q1 q2 => by omega)
    · intro G2 l1 l2
      have m2 := (zO_M l1 (by decide)).trans k1
      refine sg_M_spread_116 ?_
      rw [m2]
      refine ⟨fun _ => ?_, fun q => absurd q (by omega)⟩
      refine l_M_spread_152 h hP hE m2 (fun k q1 q2 => (l1 1 (m + 43) k (fun _ => by omega)).trans (k4 k q1 q2)) l2 (fun G3 m3 c3 L3 T3 S3 => ?_)
      have C3 := zC_t (zC_t k2 (zO_C l1 (by decide))) c3
      refine l_M_spread_228 h hP hE n.toNat 0 (-1) G3 (by omega) (Int.le_refl _) ⟨m3, L3, fun k q1 q2 => by omega, fun k q1 q2 => T3 k q1 q2, fun p q1 q2 => ?_⟩ (fun M' G4 d w => ?_)
      · rw [S3 p q1 q2]
        show _ = _ - zS _ 0
        rw [zS_0]
        omega
      · obtain ⟨d1, d2, d3, d4, d5, d6⟩ := d
        have m4 := d1.trans m3
        have C4 := zC_t C3 d2
        have all : ∀ f, zSv A n L f → zXs A n L 0 (G3 1 (m + 41)) f := fun f hf => ⟨hf, fun j j1 j2 => by omega⟩
        refine sg_M_spread_228 ?_
        rw [m4]
        refine ⟨⟨fun _ => ⟨fun q1 => ?_, fun q1 => ?_⟩, fun q => absurd q (by decide)⟩, fun q => absurd q (by omega)⟩
        · have opt : zIsS A n L (G4 1 (m + 42)) ∧ zCo A n L (G4 1 (m + 42)) = M' := by
            rcases w.2 with z | ⟨z1, z2, z3, z4, z5⟩
            · exact absurd z.1 q1
            · refine ⟨⟨z3.1, fun g hg => ?_⟩, z4⟩
              have u1 := w.1 g (all g hg)
              by_cases u2 : zCo A n L g = M'
              · exact Or.inr ⟨by omega, z5 g (all g hg) u2⟩
              · exact Or.inl (by omega)
          have uq := zSp_u (f := G4 1 (m + 42)) (by rw [en, hL]; exact hE) b0.2 b1.2 (by rw [en, hL]; exact opt.1)
          rw [en, hL] at uq
          have bc := zCo_b (L := L) (f := G4 1 (m + 42)) h (n := n) (by omega)
          have e2 : (zSp A).2 = M' := uq.1.trans opt.2
          have e1 : ∀ k, 0 ≤ k → k < n → (zSp A).1 k = G4 1 (m + 42) k := uq.2
          rw [e2, if_neg q1]
          refine ⟨fun q2 => ⟨fun q3 => ⟨by omega, ?_⟩, fun q3 => ?_⟩, fun q2 => ?_⟩
          · rintro _ rfl
            rw [if_neg q2, if_neg (by omega)]
            have m5 : zM m (gU G4 792 (m + 0) 0 (A 792 0 - M')) = zU A 792 0 (A 792 0 - M') := by rw [zM_u792, m4]
            refine l_M_spread_565 (zU A 792 0 (A 792 0 - M')) m5 (zC_u C4 (by decide)) (by rw [zU_k (by decide)]; omega) (by rw [zU_k (by decide)]; omega) (by omega) (fun k q1 q2 => ?_) (fun k q1 q2 => ?_) (fun k q1 q2 => ?_) (fun k q1 q2 => ?_)
            · rw [gU_c _ (by decide), d3, L3 k q1 q2]
            · rw [gU_c _ (by decide)]; exact (e1 k q1 q2).symm
            · have := (hE.2.1 k q1 q2).1; omega
            · rw [e1 k q1 q2]; have := (opt.1.1.1 k q1 q2).1.1; omega
          · rw [if_neg q2, if_pos q3]
            exact no G4 (-7) (by decide) m4 C4
          · rw [if_pos q2]
            exact ⟨rfl, m4, C4⟩
        · have e2 : (zSp A).2 = -1 := by
            by_cases hx : ∃ f, zIsS A (zMn A).1 (zMn A).2 f
            · obtain ⟨f, hf⟩ := hx
              rw [en, hL] at hf
              exact absurd q1 (w.1 f (all f hf.1)).1
            · have eS : zSp A = (fun _ => -1, -1) := dif_neg hx
              rw [eS]
          rw [if_pos e2]
          exact no G4 (-6) (by decide) m4 C4
    · intro j j1 j2 st G2 l1 l2
      have m2 := (zO_M l1 (by decide)).trans k1
      have br : 0 ≤ A 23 j ∧ A 23 j ≤ 40 := h 23 j
      have h1 := zS_b (f := fun t => if A 11 t = 400 + j then A 9 t else 0) (c := 4) (A 785 0) (fun i _ _ => by
        have bh : 0 ≤ A 9 i ∧ A 9 i ≤ 4 := h 9 i
        show 0 ≤ (if A 11 i = 400 + j then A 9 i else 0) ∧ (if A 11 i = 400 + j then A 9 i else 0) ≤ 4
        split <;> omega) b0.1 (by decide)
      have h2 : 0 ≤ zUsed A j ∧ zUsed A j ≤ 64 := by unfold zUsed; omega
      refine z_etw 44 rfl (by decide) fun hT => ?_
      refine sg_M_spread_116 ?_
      rw [m2]
      refine ⟨fun q => absurd q (by omega), fun _ => ⟨by omega, ⟨b0, fun t => h 9 t⟩, by omega, hT.1.1, j1, by omega, hT.2, ?_⟩⟩
      rintro _ rfl
      refine ⟨by omega, st _ (zO_u l1) (fun p q1 q2 => ?_)⟩
      by_cases z : p = j
      · rw [z, gU_eq]
      · rw [gU_j z]; exact l2 p q1 (by omega)
  · intro T t1 t2 st n L0 G1 hE0 k1 k2 k3
    have hn := hE0.1
    have bwh : 0 ≤ A 11 T ∧ A 11 T ≤ 609 := h 11 T
    have bk : 0 ≤ A 7 T ∧ A 7 T ≤ 3 := h 7 T
    have hz : zAt A T → zP A (A 11 T - 400) (A 791 0) := fun q => ⟨by have := hP T q; omega, bw.1, h 26 _⟩
    have ins : zMv A T → zEnum (zMv A) (fun _ => 0) (T + 1) (n + 1) (zSet L0 n T) := fun q => zEnum_ins hE0 q (k := n) ⟨hn.1, Int.le_refl _⟩ (fun i _ _ => Int.le_refl _) (fun i i1 i2 => by omega) (fun i i1 i2 => zSet_ne (by omega)) zSet_eq (fun i i1 i2 => by omega)
    refine sg_M_spread_19 ?_
    rw [k1]
    refine ⟨⟨fun q => absurd q (by omega), fun _ => ⟨by omega, fun q1 q2 => ⟨by omega, hz q2, by omega⟩⟩⟩, fun q => ?_, fun q => ⟨by omega, ?_⟩⟩
    · have hm : zMv A T := by
        rcases q with q | q
        · exact Or.inl q.2
        · exact Or.inr q.2.2
      refine ⟨fun q9 => ⟨by omega, by omega, st (n + 1) _ G1 (ins hm) k1 k2 (fun k q1 q2 q3 => ?_)⟩, fun q9 => ⟨by omega, ?_⟩⟩
      · rw [zSet_ne (by omega)]; exact k3 k q1 (by omega) q3
      · rintro _ rfl
        refine ⟨by omega, by omega, st (n + 1) _ _ (ins hm) (by rw [zM_u43]; exact k1) (zC_u k2 (by decide)) (fun k q1 q2 q3 => ?_)⟩
        by_cases z : k = n
        · rw [z, gU_eq, zSet_eq]
        · rw [gU_j z, zSet_ne z]; exact k3 k q1 (by omega) q3
    · refine st n L0 G1 (zEnum_skip hE0 (fun hm => ?_)) k1 k2 k3
      rcases hm with hm | hm
      · rcases q with q | q
        · exact q.2.1 hm
        · exact q.2.1 hm
      · rcases q with q | q
        · exact q.2.2 hm.1
        · exact hm.2 q.2.2.2
