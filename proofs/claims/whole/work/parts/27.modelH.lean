/-! THE REFERENCE, 8: loops that change the state -/
def zFN (f : Int → Int × zA → Int × zA) (r : Int × zA) : Nat → Int × zA
  | 0 => r
  | n + 1 => f n (zFN f r n)
/-- f for each 0 ≤ i < n in turn -/
def zF (f : Int → Int × zA → Int × zA) (r : Int × zA) (n : Int) : Int × zA := zFN f r n.toNat
theorem zF_0 {f : Int → Int × zA → Int × zA} {r : Int × zA} : zF f r 0 = r := rfl
theorem zF_s {f : Int → Int × zA → Int × zA} {r : Int × zA} {n : Int} (h : 0 ≤ n) : zF f r (n + 1) = f n (zF f r n) := by
  unfold zF
  rw [show (n + 1).toNat = n.toNat + 1 from by omega, zFN, show (n.toNat : Int) = n from by omega]
/-- what holds at the start and is kept holds at the end -/
theorem zF_i {f : Int → Int × zA → Int × zA} {r : Int × zA} {I : Int → Int × zA → Prop} (n : Int) (hn : 0 ≤ n) (h0 : I 0 r) (hs : ∀ i q, 0 ≤ i → i < n → I i q → I (i + 1) (f i q)) : I n (zF f r n) := by
  refine zloopI (I := fun i => I i (zF f r i)) (P := fun _ => I n (zF f r n)) n hn h0 ?_ (fun q => q) (fun j h1 h2 hi q => q)
  intro j h1 h2 hi
  rw [zF_s h1]
  exact hs j _ h1 h2 hi
def zLose1 (g : Int) (t : Int) (r : Int × zA) : Int × zA := if zAt r.2 t ∧ r.2 24 (r.2 11 t - 400) = g then (r.1 + 1, zGo r.2 t 500) else r
def zfLose (A : zA) (g : Int) : Int × zA := if g < 0 ∨ g > 3 then zNo A (-1) else if A 788 0 ≠ 2 then zNo A (-6) else zF (zLose1 g) (0, A) (A 785 0)
theorem zGo_k {A : zA} {t w i : Int} {k : Nat} (h : k ≠ 35 ∧ k ≠ 36 ∧ k ≠ 37 ∧ k ≠ 38 ∧ k ≠ 794 ∧ k ≠ 11) : zGo A t w k i = A k i := by
  unfold zGo
  rw [zU_k h.2.2.2.2.2, zU_k h.2.2.2.1, zU_k h.2.2.2.2.1, zU_k h.2.2.1, zU_k h.2.1, zU_k h.1]
theorem zGo_w {A : zA} {t w i : Int} : zGo A t w 11 i = if i = t then w else A 11 i := by
  unfold zGo
  by_cases h : i = t
  · rw [h, zU_eq, if_pos rfl]
  · rw [zU_i h, zU_k (by decide), zU_k (by decide), zU_k (by decide), zU_k (by decide), zU_k (by decide), if_neg h]
theorem zGo_n {A : zA} {t w : Int} : zGo A t w 794 0 = A 794 0 + 1 := by
  unfold zGo
  rw [zU_k (by decide), zU_k (by decide), zU_eq]
theorem l_M_lose {e : gE} {b : Nat} {m : Int} {Z : Int → gH → Prop} {kc ks : Nat} {G : gH} {p1 : Int} (h : zB 512 (zM m G)) (hP : zPl (zM m G)) (hs : zM m G 794 0 + zM m G 785 0 < 12000) (hg : 0 ≤ p1 ∧ p1 ≤ 3) (hZ : ∀ v G1, zQ m G (zF (zLose1 p1) (0, zM m G) (zM m G 785 0)) v G1 → Z v G1) : EX e b m m_M_lose Z kc ks 34 [(2, (m + 0)), (0, p1), (0, 0), (0, 0)] [] G := by
  have b0 : 0 ≤ zM m G 785 0 ∧ zM m G 785 0 ≤ 16 := h 785 0
  have b1 : 0 ≤ zM m G 794 0 ∧ zM m G 794 0 ≤ 16 * 512 + 32 := h 794 0
  have b2 : 0 ≤ zM m G 787 0 ∧ zM m G 787 0 ≤ 5 := h 787 0
  have b7 : 0 ≤ zM m G 791 0 ∧ zM m G 791 0 ≤ 1000 := h 791 0
  have key : ∀ i, 0 ≤ i → i ≤ zM m G 785 0 → (0 ≤ (zF (zLose1 p1) (0, zM m G) i).1 ∧ (zF (zLose1 p1) (0, zM m G) i).1 ≤ i) ∧ (0 ≤ (zF (zLose1 p1) (0, zM m G) i).2 794 0 ∧ (zF (zLose1 p1) (0, zM m G) i).2 794 0 ≤ zM m G 794 0 + i) ∧ zPl (zF (zLose1 p1) (0, zM m G) i).2 ∧ (zF (zLose1 p1) (0, zM m G) i).2 785 0 = zM m G 785 0 ∧ (zF (zLose1 p1) (0, zM m G) i).2 787 0 = zM m G 787 0 ∧ (zF (zLose1 p1) (0, zM m G) i).2 791 0 = zM m G 791 0 := by
    intro i hi _
    refine zF_i (I := fun i r => (0 ≤ r.1 ∧ r.1 ≤ i) ∧ (0 ≤ r.2 794 0 ∧ r.2 794 0 ≤ zM m G 794 0 + i) ∧ zPl r.2 ∧ r.2 785 0 = zM m G 785 0 ∧ r.2 787 0 = zM m G 787 0 ∧ r.2 791 0 = zM m G 791 0) i hi ⟨⟨Int.le_refl _, Int.le_refl _⟩, ⟨b1.1, by simp⟩, hP, rfl, rfl, rfl⟩ ?_
    rintro j ⟨v, A⟩ h1 h2 ⟨i1, i2, i3, i4, i5, i6⟩
    unfold zLose1
    dsimp only at *
    split
    · refine ⟨by dsimp only; omega, ?_, ?_, ?_, ?_, ?_⟩
      · dsimp only; rw [zGo_n]; omega
      · intro t ht
        have e1 := ht
        simp only [zAt, zGo_w] at e1 ⊢
        rw [zGo_k (by decide)]
        split at e1
        · omega
        · rename_i hne
          rw [if_neg hne]; exact i3 t e1
      · dsimp only; rw [zGo_k (by decide)]; exact i4
      · dsimp only; rw [zGo_k (by decide)]; exact i5
      · dsimp only; rw [zGo_k (by decide)]; exact i6
    · exact ⟨by dsimp only; omega, by dsimp only; omega, i3, i4, i5, i6⟩
  refine zloop (P := fun i => ∀ G1, zM m G1 = (zF (zLose1 p1) (0, zM m G) i).2 → zC m G G1 → EX e b m m_M_lose Z kc ks 34 [(2, (m + 0)), (0, p1), (0, (zF (zLose1 p1) (0, zM m G) i).1), (0, i)] [] G1) (i := 0) (zM m G 785 0) b0.1 ?_ ?_ G rfl zC_r
  · intro G1 h1 h2
    have k1 := key _ b0.1 (Int.le_refl _)
    rw [← h1] at k1
    exact sg_M_lose_34 ⟨⟨fun _ => hZ _ _ ⟨rfl, h1, h2⟩, fun q => absurd q (by omega)⟩, fun q => absurd q (by omega)⟩
  · intro j j1 j2 ih G1 h1 h2
    have k1 := key j j1 (by omega)
    rw [zF_s j1] at ih
    generalize hr : zF (zLose1 p1) (0, zM m G) j = r at *
    obtain ⟨v, A⟩ := r
    dsimp only at *
    rw [← h1] at k1
    obtain ⟨i1, i2, i3, i4, i5, i6⟩ := k1
    refine sg_M_lose_34 ⟨⟨fun q => absurd q (by omega), fun _ => ⟨by omega, fun q1 => ⟨by omega, by have := i3 _ q1; omega, fun q2 => ?_⟩⟩⟩, fun q => ⟨by omega, ?_⟩⟩
    · refine GM.mono (c_M_goes (by omega) (by omega) (by omega)) (fun v2 G2 h3 => ⟨by omega, by omega, ?_⟩)
      obtain ⟨-, h4, h5⟩ := h3
      rw [h1] at h4 q1 q2
      unfold zLose1 at ih
      rw [if_pos ⟨q1, q2⟩] at ih
      exact ih G2 h4 (zC_t h2 h5)
    · rw [h1] at q
      unfold zLose1 at ih
      rw [if_neg (by rintro ⟨z1, z2⟩; change zAt A j at z1; change A 24 (A 11 j - 400) = p1 at z2; omega)] at ih
      exact ih G1 h1 h2
theorem c_M_lose {e : gE} {b : Nat} {m : Int} {G : gH} {p1 : Int} (h : zB 512 (zM m G)) (hP : zPl (zM m G)) : GX e b m m_M_lose [(2, (m + 0)), (0, p1)] G 0 0 (zQ m G (zfLose (zM m G) p1)) := by
  have b0 : 0 ≤ zM m G 785 0 ∧ zM m G 785 0 ≤ 16 := h 785 0
  have b1 : 0 ≤ zM m G 794 0 ∧ zM m G 794 0 ≤ 16 * 512 + 32 := h 794 0
  refine GM.ofEV (by decide) (Nat.le_of_ble_eq_true rfl) (sg_M_lose_0 ?_)
  unfold zfLose
  refine ⟨fun q1 q2 => ⟨fun q3 => ?_, fun q3 => ?_⟩, fun q => ?_⟩
  · rw [if_neg (by omega), if_neg (by omega)]
    exact l_M_lose h hP (by omega) (by omega) (fun v G1 h1 => h1)
  · rw [if_neg (by omega), if_pos q3]; exact c_M_no h (by decide)
  · rw [if_pos (by omega)]; exact c_M_no h (by decide)
