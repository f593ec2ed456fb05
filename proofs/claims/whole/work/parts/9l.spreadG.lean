/-! THE CLASS, 54: the spread is found -/
/-- what is found: the movers in order, and the number that holds their places -/
def zFd (e : gE) (b : Nat) (m : Int) (G : gH) (A : zA) (T : Int → Int) : Prop := zAL e b m G ((b : Int) + 24) 10 (zMn A).1 (fun k => T ((zMn A).2 k)) ∧ zEnum (zMv A) (fun _ => 0) (A 785 0) (zMn A).1 (zMn A).2 ∧ (zMn A).1 ≤ 8 ∧ ∃ x, G 2 ((b : Int) + 25) (zp2 (zMn A).1 - 1) = x ∧ (0 ≤ -x ∧ -x < 4611686018427387904) ∧ ∀ k, 0 ≤ k → k < (zMn A).1 → (-x) / zP8 ((zMn A).2 k) % 8 = (zSp A).1 k ∧ 0 ≤ (zSp A).1 k ∧ (zSp A).1 k < A 787 0
theorem c_scoreFound {e : gE} {b : Nat} {m : Int} {G : gH} {tg n : Int} {f : Int → Int} (hl : zAL e b m G ((b : Int) + 24) tg n f) (hn : 0 ≤ n ∧ n ≤ 8) : GX e b m m_Spread_scoreFound [(2, ((b : Int) + 23))] G 0 0 (fun v G1 => v = G 2 ((b : Int) + 25) (zp2 n - 1) ∧ G1 = G) := by
  have b8 := zp2_b hn.2
  refine GM.ofEV (by decide) (Nat.le_of_ble_eq_true rfl) (sg_Spread_scoreFound_0 (GM.mono (c_sets hl hn) ?_))
  rintro v G1 ⟨rfl, rfl⟩
  refine ⟨fun z => absurd b8 z, fun _ => GM.mono (c_sets hl hn) ?_⟩
  rintro v G2 ⟨rfl, rfl⟩
  exact ⟨by omega, ⟨by omega, by omega⟩, rfl, rfl⟩
theorem c_find {e : gE} {b : Nat} {m : Int} {G0 : gH} {A : zA} {T Q P : Int → Int} (hc : zRc e b m G0 A T Q P) (hB : zB 512 A) (hft : zFt A) (hPl : zPl A) (hWv : zWv A) : GX e b m m_Spread_find [(2, ((b : Int) + 23))] G0 16 640 (fun v G1 => (zRc e b m G1 A T Q P ∧ zRf m G0 G1) ∧ ((8 < (zMn A).1 ∧ v = -7) ∨ ((zMn A).1 ≤ 8 ∧ (zSp A).2 = -1 ∧ v = -6) ∨ ((zMn A).1 ≤ 8 ∧ (v = (zSp A).2 ∧ 0 ≤ v ∧ v ≤ 1152) ∧ zFd e b m G1 A T))) := by
  refine GM.tg fun hTg => GM.inv fun hF => ?_
  have hlo := fx_lo hF
  have bgr : ∀ p, 0 ≤ A 24 p ∧ A 24 p ≤ 3 := fun p => hB 24 p
  refine GM.ofEV (by decide) (Nat.le_of_ble_eq_true rfl) (sg_Spread_find_0 ⟨0, 0, 16, 640, rfl, rfl, GM.mono (c_gatherS hc hB hft hPl hWv) ?_⟩)
  rintro _ G1 ⟨n, L0, h0⟩
  obtain ⟨w0, l0, en0, t30, t31, t32⟩ := h0
  obtain ⟨hE, e1, e2⟩ := zMn_u en0
  have l1 : zAL e b m G1 ((b : Int) + 24) 10 (zMn A).1 (fun k => T ((zMn A).2 k)) := by
    rw [e1]
    exact zAL_c l0 (fun i i1 i2 => by rw [e2 i i1 i2])
  generalize hgL : (zMn A).2 = L at *
  generalize hgn : (zMn A).1 = n' at *
  have hs : zSs e b m G0 G1 A T n' L := ⟨w0, l1, t30, t31, t32⟩
  have n0 := hE.1.1
  rw [l1.2.1]
  refine ⟨l1.1, fun q1 => ?_, fun q1 => ⟨zSs_rc hTg hF hc hs, Or.inl ⟨q1, rfl⟩⟩⟩
  have b8 := zp2_b q1
  refine GM.mono (c_noteMovers hB hs (zSs_rc hTg hF hc hs).1.2.1 hE q1) ?_
  rintro _ G2 ⟨hs2, hN2⟩
  have fx : ∀ {G : gH}, gFix b m G → (G 0 ((b : Int) + 25) 0 = 101 ∧ G 0 ((b : Int) + 25) 1 = 256) ∧ (G 0 ((b : Int) + 26) 0 = 101 ∧ G 0 ((b : Int) + 26) 1 = 256) := fun hFG => by
    obtain ⟨⟨h1, -⟩, -⟩ := hFG
    exact ⟨h1 (25, 101, 256) (by decide), h1 (26, 101, 256) (by decide)⟩
  refine GM.inv fun hF2 => ?_
  refine GM.mono (c_clear (fx hF2).1.1 (fx hF2).1.2 (by omega)) ?_
  rintro _ G3 ⟨o3, v3⟩
  have sub : ∀ {G : gH}, (∀ (c : Nat) (i j : Int), ¬ (c = 2 ∧ ((b : Int) + 25 ≤ i ∧ i ≤ (b : Int) + 27)) → G c i j = G2 c i j) → zSs e b m G0 G A T n' L ∧ zNt b G A n' L := fun {G} o => ⟨zSs_sc hs2 (fun c i j z => o c i j (fun y => z ⟨Or.inr y.1, by omega⟩)), ⟨fun s s1 s2 => by rw [o 1 _ _ (by omega)]; exact hN2.1 s s1 s2, fun k k1 k2 => by rw [o 1 _ _ (by omega)]; exact hN2.2 k k1 k2⟩⟩
  refine zloop (P := fun g => ∀ G : gH, (∀ (c : Nat) (i j : Int), ¬ (c = 2 ∧ ((b : Int) + 25 ≤ i ∧ i ≤ (b : Int) + 27)) → G c i j = G2 c i j) → zTb n' (G 2 ((b : Int) + 25)) (zAx A L n' (fun p => A 24 p < g) (fun x => x < g)) → EX e b m m_Spread_find _ 0 0 32 [(2, ((b : Int) + 23)), (0, g), (9, 0)] [] G) (i := 0) 4 (by decide) ?_ ?_ G3 (fun c i j z => o3 c i j (by omega)) ?_
  · intro G o hv
    have hs4 := (sub o).1
    have rc := zSs_rc hTg hF hc hs4
    have tT : zTb n' (G 2 ((b : Int) + 25)) (zAx A L n' (fun _ => True) (fun _ => True)) := zTb_c hv (fun s v s1 s2 => zAx_c (fun p p1 p2 => ⟨fun _ => trivial, fun _ => by have := bgr p; omega⟩) (fun g g1 g2 => ⟨fun _ => trivial, fun _ => g2⟩))
    refine sg_Spread_find_32 ⟨fun _ => GM.mono (c_scoreFound hs4.2.1 ⟨n0, q1⟩) ?_, fun z => absurd z (by omega)⟩
    rintro v G4 ⟨rfl, rfl⟩
    rcases tT (zp2 n' - 1) (by omega) (by omega) with k | k
    · refine ⟨fun z => absurd k.1 z, fun _ => ⟨rc, Or.inr (Or.inl ⟨q1, zSpread_no hgL hgn hB hWv hE q1 k.2, rfl⟩)⟩⟩
    · have w := zSpread_is hgL hgn hB hWv hE q1 k.1 k.2
      obtain ⟨w1, w2, w3, w4, w5⟩ := w
      refine ⟨fun _ => ⟨⟨by omega, by omega⟩, rc, Or.inr (Or.inr ⟨q1, ?_, ?_⟩)⟩, fun z => by omega⟩
      · rw [zlshrI (P := 281474976710656) ⟨w4, w5⟩ (by decide) (by decide), w1, w32_id ⟨by omega, by omega⟩]
        exact ⟨rfl, w3⟩
      · unfold zFd
        rw [hgL, hgn]
        exact ⟨hs4.2.1, hE, q1, _, rfl, ⟨w4, w5⟩, w2⟩
  · intro g g1 g2 st G o hv
    have hs4 := sub o
    refine sg_Spread_find_32 ⟨fun z => absurd z (by omega), fun _ => GM.mono (c_scoreGroup hTg hF hc hB hft hPl hE q1 hs4.1 hs4.2 ⟨g1, g2⟩) ?_⟩
    rintro _ G4 ⟨o4, hv4⟩
    have o4' : ∀ (c : Nat) (i j : Int), ¬ (c = 2 ∧ ((b : Int) + 25 ≤ i ∧ i ≤ (b : Int) + 27)) → G4 c i j = G2 c i j := fun c i j z => by rw [o4 c i j (by omega)]; exact o c i j z
    refine GM.mono (c_sets (sub o4').1.2.1 ⟨n0, q1⟩) ?_
    rintro v G5 ⟨rfl, rfl⟩
    refine GM.inv fun hF5 => ?_
    have f5 := fx hF5
    have e25 : G5 2 ((b : Int) + 25) = G 2 ((b : Int) + 25) := funext fun j => o4 2 _ j (by omega)
    have tV : zTb n' (G5 2 ((b : Int) + 25)) (zAx A L n' (fun p => A 24 p < g) (fun x => x < g)) := by rw [e25]; exact hv
    have bV := zAx_b (R := fun p => A 24 p < g) (Gs := fun x => x < g) hB hE
    have bU := zAx_b (R := fun p => A 24 p = g) (Gs := fun x => x = g) hB hE
    refine GM.mono (c_join f5.1 f5.2 (by omega) (by omega) q1 (zTb_ot tV bV (by decide)) (zTb_ot hv4 bU (by decide))) ?_
    rintro _ G6 ⟨o6, hj⟩
    refine ⟨by omega, st G6 (fun c i j z => by rw [o6 c i j (by omega)]; exact o4' c i j z) (zTb_c (zTb_join q1 tV hv4 bV bU (by decide) hj) (fun s v s1 s2 => ?_))⟩
    rw [← zAx_j ⟨n0, q1⟩ ⟨s1, s2⟩ (fun x y1 y2 => by omega) (fun x y z1 z2 => by omega) (fun x y z1 z2 => by omega)]
    exact zAx_c (fun x x1 x2 => ⟨fun y => by omega, fun y => by omega⟩) (fun x _ _ => ⟨fun y => by omega, fun y => by omega⟩)
  · intro s s1 s2
    have e0 : ∀ v, zAx A L n' (fun p => A 24 p < 0) (fun x => x < 0) s v ↔ (s = 0 ∧ v = 0) := fun v => (zAx_c (fun x x1 x2 => ⟨fun y => by have := bgr x; omega, fun y => y.elim⟩) (fun x x1 _ => ⟨fun y => by omega, fun y => y.elim⟩)).trans (zAx_0 q1 ⟨s1, s2⟩)
    rw [v3 s s1 (by omega)]
    by_cases z : s = 0
    · rw [if_pos z]
      exact Or.inr ⟨(e0 0).2 ⟨z, rfl⟩, fun v hv => by rw [((e0 v).1 hv).2]; exact Int.le_refl _⟩
    · rw [if_neg z]
      exact Or.inl ⟨rfl, fun v hv => z ((e0 v).1 hv).1⟩
