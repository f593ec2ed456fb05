/-! THE CLASS, 31: label -/
theorem zLF_b {A : zA} {s : Int} (hn : A 20 s ≤ 60) : -1 ≤ zLF A s ∧ zLF A s ≤ 60 := by
  have := (zL_b hn).1.2.2.2.2
  unfold zLF
  split <;> omega
theorem zNw_f {A : zA} {v : Int} (h : zNw A) : zNw (zU A 793 0 v) := by
  unfold zNw at *
  rw [zU_k (by decide), zU_k (by decide), zU_k (by decide), zU_k (by decide)]
  exact ⟨h.1, fun k k1 k2 => by rw [zU_k (by decide)]; exact h.2.1 k k1 k2, fun k => by rw [zU_k (by decide)]; exact h.2.2 k⟩
theorem c_C_label {e : gE} {b : Nat} {m : Int} {G : gH} {A : zA} {p1 : Int} (hR : zRel e b m G A) (hB : zB 512 A) (hS : zShw A) (hz : zNw A) : GX e b m m_C_label [(2, ((b : Int) + 1)), (0, p1)] G 4 86 (zCQ e b m G (zfLabel A p1)) := by
  refine GM.inv fun hF => ?_
  have hlo := fx_lo hF
  have hr := hR
  obtain ⟨T, Q, P, ⟨-, -, r3, -⟩, -⟩ := hr
  refine GM.ofEV (by decide) (Nat.le_of_ble_eq_true rfl) (sg_C_label_0 ?_)
  unfold zfLabel
  by_cases q : zSh p1 ∧ A 18 p1 = 1
  · obtain ⟨hs, h1⟩ := q
    have k := zHk r3 hB hS hs
    obtain ⟨x1, x2, x3, x4, x5⟩ := fx_row hF hs
    have w := r3.1 p1 hs
    have bs : 0 ≤ A 20 p1 ∧ A 20 p1 ≤ 60 := hB 20 p1
    have hrw : zRw G A p1 ((b : Int) + (34 + 2 * p1)) := by
      unfold zRw zEl
      rw [x3, w.2.1]
      exact ⟨⟨x2, x4, by omega⟩, rfl, fun i i1 i2 => w.2.2.2 i i1 (by omega)⟩
    rw [if_pos (k.1.mpr h1), x1, if_pos hs, if_neg (show ¬ A 18 p1 = 2 by omega), if_neg (show ¬ A 18 p1 = 0 by omega)]
    refine ⟨fun _ => GM.mono (c_Label_read bs.2 hrw) ?_, fun z => by omega⟩
    rintro v G1 ⟨rfl, g1, g2⟩
    rintro _ rfl
    have bf := zLF_b bs.2
    have hB2 : zB 512 (zU A 793 0 (zLF A p1)) := zB_u hB ⟨bf.1, bf.2⟩
    have qc : zCh [793] A (zU A 793 0 (zLF A p1)) := zCh_u
    have o : ∀ (c : Nat) (i j : Int), ¬ (c = 1 ∧ i = (b : Int) + 52) → ¬ (c = 729 ∧ i = (b : Int) + 1) → gU G1 729 ((b : Int) + 1) 0 (zLF A p1) c i j = G c i j := fun c i j c1 c2 => by rw [gU_ne (by omega), g1 c i j c1]
    have sx : zSx b [(1, 52), (729, 1)] G (gU G1 729 ((b : Int) + 1) 0 (zLF A p1)) := fun c k j c9 k0 k1 hn => by
      simp only [List.mem_cons, List.mem_nil_iff, Prod.mk.injEq, or_false, not_or, not_and] at hn
      exact o c _ j (fun z => hn.1 z.1 (by omega)) (fun z => hn.2 z.1 (by omega))
    have rf : zRf m G (gU G1 729 ((b : Int) + 1) 0 (zLF A p1)) := fun c i j _ i1 i2 => o c i j (by omega) (by omega)
    have hR2 : zRel e b m (gU G1 729 ((b : Int) + 1) 0 (zLF A p1)) (zU A 793 0 (zLF A p1)) := by
      refine zRel_st hR (zDyn_st hlo.1 (fun c i j q => o c i j (by omega) (by omega))) qc (by decide) (fun r1 r2 r3 r4 => ⟨zR1_A qc (by decide) (zR1_G sx (by decide) r1), ?_, zR3_A qc (by decide) (zR3_G sx (by decide) r3), zR4_A qc (by decide) (zR4_G sx (by decide) r4)⟩)
      unfold zR2 at *
      rw [gU_eq, zU_eq, o _ _ _ (by omega) (by omega), o _ _ _ (by omega) (by omega), o _ _ _ (by omega) (by omega), o _ _ _ (by omega) (by omega), qc 789 (by decide), qc 790 (by decide), qc 795 (by decide), qc 788 (by decide)]
      exact ⟨r2.1, r2.2.1, r2.2.2.1, r2.2.2.2.1, rfl⟩
    rw [gU_eq]
    refine ⟨fun z => ⟨0, 0, 4, 86, rfl, rfl, ?_⟩, fun z => ?_⟩
    · obtain ⟨v0, v1, v2, v3, v4⟩ := g2 z
      have n1 := (zL_b bs.2).2
      have n5 : (zL5 A p1).1 ≠ -1 := fun y => by
        have : zLF A p1 = (zL5 A p1).2 := by unfold zLF; rw [if_pos (Or.inl y)]
        have := (zL_b bs.2).1.2.2.2.2.1
        omega
      have n4 : 1 ≤ (zL4 A p1).1 ∧ (zL4 A p1).1 ≤ 11 := by
        rcases n1 with y | y
        · exact absurd y n5
        · exact y.2.2.2.1
      rw [if_pos (by decide), if_pos (by decide), if_pos (by decide), if_pos (by decide), if_pos (by decide), gU_c _ (by decide), gU_c _ (by decide), gU_c _ (by decide), gU_c _ (by decide), gU_c _ (by decide), v0, v1, v2, v3, v4]
      have es : (if zLF A p1 ≠ -1 ∨ A 788 0 ≠ 0 then zNo (zU A 793 0 (zLF A p1)) (-6) else if A 785 0 = 16 then zNo (zU A 793 0 (zLF A p1)) (-7) else (A 785 0, zPuts (zU A 793 0 (zLF A p1)) (zL1 A p1).1 (zL2 A p1).1 (zL3 A p1).1 (zL4 A p1).1 (zL5 A p1).1)) = zAdd (zU A 793 0 (zLF A p1)) (zL1 A p1).1 (zL2 A p1).1 (zL3 A p1).1 (zL4 A p1).1 (zL5 A p1).1 := by
        unfold zAdd
        rw [qc 788 (by decide), qc 785 (by decide)]
        by_cases y : A 788 0 ≠ 0
        · rw [if_pos (Or.inr y), if_pos y]
        · rw [if_neg (fun x => x.elim (fun x => x z) y), if_neg y]
      rw [es]
      refine GM.mono (c_C_addThing hR2 hB2 (zNw_f hz) n4) ?_
      rintro x G2 ⟨k1, k2, k3⟩
      exact ⟨k1, k2, zRf_t rf k3⟩
    · rw [if_pos (Or.inl z)]
      refine GM.mono (c_C_refuse hR2 hB2 (by decide)) ?_
      rintro x G2 ⟨k1, k2, k3⟩
      exact ⟨k1, k2, zRf_t rf k3⟩
  · have ew := zWhy_1 r3 hB hS q
    have hn : ¬ zHr b G p1 := fun z => q ⟨z.1, (zHk r3 hB hS z.1).1.mp z⟩
    rw [if_neg hn, ew]
    refine ⟨fun z => absurd rfl z, fun _ => ?_⟩
    by_cases hs : zSh p1
    · have b1 : 0 ≤ A 18 p1 ∧ A 18 p1 ≤ 2 := hB 18 p1
      have n1 : A 18 p1 ≠ 1 := fun z => q ⟨hs, z⟩
      rw [if_pos hs, if_pos hs]
      by_cases h2 : A 18 p1 = 2
      · rw [if_pos h2, if_pos h2]; exact c_C_refuse hR hB (by decide)
      · rw [if_neg h2, if_neg h2, if_pos (by omega)]; exact c_C_refuse hR hB (by decide)
    · rw [if_neg hs, if_neg hs]; exact c_C_refuse hR hB (by decide)
