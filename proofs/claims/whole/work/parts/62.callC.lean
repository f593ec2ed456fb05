/-! THE CLASS, 13: rows -/
theorem c_Row_renew {e : gE} {b : Nat} {m : Int} {G : gH} {a o n : Int} (h0 : G 0 a 0 = 7) (ho : 0 ≤ o ∧ o ≤ 3) (hn : 0 ≤ n ∧ n ≤ 60) (he : G 0 (G 400 a 0) 0 = 101 ∧ G 0 (G 400 a 0) 1 = 60) (hb : (b : Int) < a ∧ (b : Int) < G 400 a 0) : GX e b m m_Row_renew [(2, a), (0, o), (0, n)] G 0 0 (fun _ G1 => G1 401 a 0 = o ∧ G1 402 a 0 = n ∧ (∀ i, 0 ≤ i → i < 60 → G1 2 (G 400 a 0) i = 0) ∧ ∀ (c : Nat) (i j : Int), ¬ (i = a ∧ (c = 401 ∨ c = 402)) → ¬ (c = 2 ∧ i = G 400 a 0) → G1 c i j = G c i j) := by
  refine GM.ofEV (by decide) (Nat.le_of_ble_eq_true rfl) (sg_Row_renew_0 h0 ⟨fun q => absurd ho q, fun _ => ⟨hb.1, ?_⟩⟩)
  rintro _ rfl _ rfl
  have en : (if 0 < (if 60 < n then 60 else n) then (if 60 < n then 60 else n) else 0) = n := by (repeat' split) <;> omega
  rw [en]
  have t0 : gU (gU G 401 a 0 o) 402 a 0 n 0 (G 400 a 0) 0 = 101 := by rw [gU_c _ (by decide), gU_c _ (by decide)]; exact he.1
  have t1 : gU (gU G 401 a 0 o) 402 a 0 n 0 (G 400 a 0) 1 = 60 := by rw [gU_c _ (by decide), gU_c _ (by decide)]; exact he.2
  refine GM.mono (c_Arrays_fill_b t0 (by rw [t1]; decide) hb.2) ?_
  rintro v G1 ⟨k1, k2⟩
  rw [t1] at k2
  refine ⟨?_, ?_, k2, fun c i j c1 c2 => ?_⟩
  · rw [k1 _ _ _ (fun z => absurd z (by decide)), gU_c _ (by decide), gU_eq]
  · rw [k1 _ _ _ (fun z => absurd z (by decide)), gU_eq]
  · rw [k1 c i j (fun z y => c2 ⟨z, y⟩), gU_ne (fun z => c1 ⟨z.2.1, Or.inr z.1⟩), gU_ne (fun z => c1 ⟨z.2.1, Or.inl z.1⟩)]
theorem zR3_row {b : Nat} {G G1 : gH} {A B : zA} {s : Int} (h : zR3 b G A) (hs : zSh s) (q : zCh [18, 19, 20, 22] A B) (k : ∀ t, t ≠ s → B 18 t = A 18 t ∧ B 19 t = A 19 t ∧ B 20 t = A 20 t ∧ ∀ i, 0 ≤ i → i < 60 → B 22 (60 * t + i) = A 22 (60 * t + i)) (g : zSx b [(401, 34 + 2 * s), (402, 34 + 2 * s), (2, 35 + 2 * s), (1, 50)] G G1) (g50 : ∀ t, t ≠ s → G1 1 ((b : Int) + 50) t = G 1 ((b : Int) + 50) t) (n : G1 401 ((b : Int) + (34 + 2 * s)) 0 = B 19 s ∧ G1 402 ((b : Int) + (34 + 2 * s)) 0 = B 20 s ∧ G1 1 ((b : Int) + 50) s = zfHolds B s ∧ ∀ i, 0 ≤ i → i < 60 → G1 2 ((b : Int) + (35 + 2 * s)) i = B 22 (60 * s + i)) : zR3 b G1 B := by
  refine ⟨fun t ht => ?_, fun i i1 i2 => ?_⟩
  · by_cases z : t = s
    · rw [z]; exact n
    · have w := h.1 t ht
      have y := k t z
      rw [g 401 (34 + 2 * t) 0 (by decide) (by omega) (by omega) (by simp; omega), g 402 (34 + 2 * t) 0 (by decide) (by omega) (by omega) (by simp; omega), g50 t z, y.2.1, y.2.2.1]
      refine ⟨w.1, w.2.1, ?_, fun i i1 i2 => ?_⟩
      · unfold zfHolds at *
        rw [y.1, y.2.1, q 21 (by decide)]
        exact w.2.2.1
      · rw [g 2 (35 + 2 * t) i (by decide) (by omega) (by omega) (by simp; omega), y.2.2.2 i i1 i2]
        exact w.2.2.2 i i1 i2
  · rw [g 1 53 i (by decide) (by decide) (by decide) (by simp), q 39 (by decide)]
    exact h.2 i i1 i2
theorem zDyn_st {b : Nat} {m : Int} {G G1 : gH} (hlo : (b : Int) + 53 < m) (h : ∀ (c : Nat) (i j : Int), ¬ ((b : Int) ≤ i ∧ i ≤ (b : Int) + 53 ∧ ¬ (c = 0 ∨ c = 9 ∨ c = 16 ∨ c = 17 ∨ c = 18)) → G1 c i j = G c i j) : zDyn m G G1 := ⟨fun c i j q => h c i j (by omega), fun c i j q => h c i j (fun z => z.2.2 q)⟩
theorem zCh_V {A : zA} {k : Nat} {lo hi : Int} {f : Int → Int} : zCh [k] A (zV A k lo hi f) := fun k' h => funext fun i => zV_k (fun z => h (by rw [z]; exact List.mem_cons_self))
theorem c_C_row {e : gE} {b : Nat} {m : Int} {G : gH} {A : zA} {p1 p2 p3 : Int} (hR : zRel e b m G A) (hB : zB 512 A) : GX e b m m_C_row [(2, ((b : Int) + 1)), (0, p1), (0, p2), (0, p3)] G 0 0 (zCQ e b m G (zfRow A p1 p2 p3)) := by
  refine GM.inv fun hF => ?_
  have hlo := fx_lo hF
  refine GM.ofEV (by decide) (Nat.le_of_ble_eq_true rfl) (sg_C_row_0 ?_)
  unfold zfRow
  refine ⟨fun hs => ⟨fun q1 => ⟨fun q2 => ⟨fun q3 => ⟨hs, ?_⟩, fun q3 => ?_⟩, fun q2 => ?_⟩, fun q1 => ?_⟩, fun hs => ?_⟩
  · obtain ⟨x1, x2, x3, x4, x5⟩ := fx_row hF hs
    rw [x1, if_neg (fun z => z hs), if_neg (by omega), if_neg (by omega), if_neg (by omega)]
    refine ⟨x2, GM.mono (c_Row_renew x2 q2 ⟨q1, q3⟩ ⟨by rw [x3]; exact x4, by rw [x3]; exact x5⟩ ⟨by omega, by rw [x3]; omega⟩) ?_⟩
    rintro v G1 ⟨k1, k2, k3, k4⟩
    rw [x3] at k3 k4
    refine ⟨by omega, ?_⟩
    rintro _ rfl
    have qc : zCh [18, 19, 20, 22] A (zV (zU (zU (zU A 18 p1 1) 19 p1 p2) 20 p1 p3) 22 (60 * p1) (60 * p1 + 60) (fun _ => 0)) := zCh_m (zCh_t (zCh_t (zCh_t zCh_u zCh_u) zCh_u) zCh_V) (by decide)
    have qx : zSx b [(401, 34 + 2 * p1), (402, 34 + 2 * p1), (2, 35 + 2 * p1), (1, 50)] G (gU G1 1 ((b : Int) + 50) p1 (100 + p2)) := fun c k j c9 k0 kk hn => by
      simp only [List.mem_cons, List.mem_nil_iff, Prod.mk.injEq, or_false, not_or, not_and] at hn
      have e1 : gU G1 1 ((b : Int) + 50) p1 (100 + p2) c ((b : Int) + k) j = G1 c ((b : Int) + k) j := gU_ne (fun z => by have := hn.2.2.2 z.1; omega)
      rw [e1]
      refine k4 c _ j (fun z => ?_) (fun z => ?_)
      · rcases z.2 with y | y
        · have := hn.1 y; omega
        · have := hn.2.1 y; omega
      · have := hn.2.2.1 z.1; omega
    have o : ∀ (c : Nat) (i j : Int), ¬ (c = 1 ∧ i = (b : Int) + 50) → ¬ (i = (b : Int) + (34 + 2 * p1) ∧ (c = 401 ∨ c = 402)) → ¬ (c = 2 ∧ i = (b : Int) + (35 + 2 * p1)) → gU G1 1 ((b : Int) + 50) p1 (100 + p2) c i j = G c i j := fun c i j c1 c2 c3 => by rw [gU_ne (by omega), k4 c i j c2 c3]
    refine zCQ_mk rfl ?_ (fun c i j i1 i2 => o c i j (by omega) (by omega) (by omega))
    refine zRel_st hR (zDyn_st hlo.1 (fun c i j q => o c i j (by omega) (by omega) (by omega))) qc (by decide) (fun r1 r2 r3 r4 => ⟨zR1_A qc (by decide) (zR1_G qx (by simp) r1), zR2_A qc (by decide) (zR2_G qx (by simp) r2), zR3_row r3 hs qc (fun t z => ⟨?_, ?_, ?_, fun i i1 i2 => ?_⟩) qx (fun t z => ?_) ⟨?_, ?_, ?_, fun i i1 i2 => ?_⟩, zR4_A qc (by decide) (zR4_G qx (by simp) r4)⟩)
    · rw [zV_k (by decide), zU_k (by decide), zU_k (by decide), zU_i z]
    · rw [zV_k (by decide), zU_k (by decide), zU_i z, zU_k (by decide)]
    · rw [zV_k (by decide), zU_i z, zU_k (by decide), zU_k (by decide)]
    · rw [zV_out (by omega), zU_k (by decide), zU_k (by decide), zU_k (by decide)]
    · rw [gU_j z, k4 _ _ _ (by omega) (by omega)]
    · rw [gU_c _ (by decide), k1, zV_k (by decide), zU_k (by decide), zU_eq]
    · rw [gU_c _ (by decide), k2, zV_k (by decide), zU_eq]
    · rw [gU_eq]
      unfold zfHolds
      rw [if_pos hs, zV_k (by decide), zU_k (by decide), zU_k (by decide), zU_eq, zV_k (by decide), zU_k (by decide), zU_eq, if_neg (by decide), if_pos rfl]
    · rw [gU_c _ (by decide), zV_in (by omega)]
      exact k3 i i1 i2
  · rw [if_neg (fun z => z hs), if_neg (by omega), if_neg (by omega), if_pos (by omega)]; exact c_C_refuse hR hB (by decide)
  · rw [if_neg (fun z => z hs), if_neg (by omega), if_pos (by omega)]; exact c_C_refuse hR hB (by decide)
  · rw [if_neg (fun z => z hs), if_pos (by omega)]; exact c_C_refuse hR hB (by decide)
  · rw [if_pos hs]; exact c_C_refuse hR hB (by decide)
