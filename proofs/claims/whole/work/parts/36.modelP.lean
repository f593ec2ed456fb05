/-! THE REFERENCE, 16: minutes -/
def zMn1 (_ : Int) (r : Int × zA) : Int × zA := if r.2 789 0 < r.2 790 0 then (r.1, zComes (zU (zBegin r.2) 789 0 (zBegin r.2 789 0 + 1))) else r
def zLs1 (t : Int) (r : Int × zA) : Int × zA := if zIn r.2 t then (r.1, zGo (zU r.2 14 t (-1)) t 500) else r
/-- the end of the hours -/
def zOver (A : zA) : zA := if A 789 0 = A 790 0 then zU (zF zLs1 (0, A) (A 785 0)).2 788 0 2 else A
def zfMinutes (A : zA) (n : Int) : Int × zA := if n < 1 ∨ n > 240 ∨ A 788 0 ≠ 1 then zNo A (-6) else ((zF zMn1 (0, A) n).2 789 0, zOver (zF zMn1 (0, A) n).2)
abbrev zSk (A B : zA) : Prop := A 785 0 = B 785 0 ∧ A 786 0 = B 786 0 ∧ A 790 0 = B 790 0 ∧ A 788 0 = B 788 0 ∧ A 791 0 = B 791 0
theorem zSm_k {A B : zA} (h : zSm A B) : zSk A B := ⟨h _ _ (by decide), h _ _ (by decide), h _ _ (by decide), h _ _ (by decide), h _ _ (by decide)⟩
theorem zSk_t {A B C : zA} (h : zSk A B) (h2 : zSk B C) : zSk A C := ⟨h.1.trans h2.1, h.2.1.trans h2.2.1, h.2.2.1.trans h2.2.2.1, h.2.2.2.1.trans h2.2.2.2.1, h.2.2.2.2.trans h2.2.2.2.2⟩
theorem zBegin_w {A : zA} (h : zHI A) : zHI (zBegin A) ∧ zSm (zBegin A) A := zBg_w h 0 _ (h.1 786 0)
theorem zComes_w {A : zA} (h : zHI A) : zHI (zComes A) ∧ zSm (zComes A) A := zCm_w h 0 _ (h.1 786 0)
theorem zMn1_w {i : Int} {r : Int × zA} (h : zHI r.2) : zHI (zMn1 i r).2 ∧ zSk (zMn1 i r).2 r.2 ∧ (r.2 789 0 ≤ r.2 790 0 → (zMn1 i r).2 789 0 ≤ r.2 790 0) := by
  unfold zMn1
  split
  · rename_i q
    obtain ⟨v, A⟩ := r
    dsimp only at *
    have w := zBegin_w h
    have b1 : 0 ≤ A 790 0 ∧ A 790 0 ≤ 240 := h.1 790 0
    have b2 : 0 ≤ A 789 0 ∧ A 789 0 ≤ 240 := h.1 789 0
    have e1 : zBegin A 789 0 = A 789 0 := w.2 _ _ (by decide)
    have h2 : zHI (zU (zBegin A) 789 0 (zBegin A 789 0 + 1)) := zHI_u w.1 (by decide) (by show 0 ≤ zBegin A 789 0 + 1 ∧ zBegin A 789 0 + 1 ≤ 240; omega)
    have w2 := zComes_w h2
    refine ⟨w2.1, zSk_t (zSm_k w2.2) (zSk_t ?_ (zSm_k w.2)), fun _ => ?_⟩
    · exact ⟨zU_k (by decide), zU_k (by decide), zU_k (by decide), zU_k (by decide), zU_k (by decide)⟩
    · rw [w2.2 789 0 (by decide), zU_eq]; omega
  · exact ⟨h, ⟨rfl, rfl, rfl, rfl, rfl⟩, fun q => q⟩
theorem zMn_w {A : zA} (h : zHI A) (he : A 789 0 ≤ A 790 0) (v : Int) (n : Int) (hn : 0 ≤ n) : zHI (zF zMn1 (v, A) n).2 ∧ zSk (zF zMn1 (v, A) n).2 A ∧ (zF zMn1 (v, A) n).2 789 0 ≤ A 790 0 :=
  zF_i (I := fun _ q => zHI q.2 ∧ zSk q.2 A ∧ q.2 789 0 ≤ A 790 0) n hn ⟨h, ⟨rfl, rfl, rfl, rfl, rfl⟩, he⟩ (fun i q h1 h2 hi => by
    have w := zMn1_w (i := i) hi.1
    refine ⟨w.1, zSk_t w.2.1 hi.2.1, ?_⟩
    have := hi.2.1.2.2.1
    have := w.2.2
    omega)
theorem zMn_stop {r : Int × zA} {j n : Int} (h0 : 0 ≤ j) (h1 : j ≤ n) (q : ¬ (zF zMn1 r j).2 789 0 < (zF zMn1 r j).2 790 0) : zF zMn1 r n = zF zMn1 r j := by
  refine zloopI (i := j) (I := fun i => zF zMn1 r i = zF zMn1 r j) (P := fun _ => zF zMn1 r n = zF zMn1 r j) n h1 rfl ?_ (fun q => q) (fun j h1 h2 hi q => q)
  intro i h2 h3 hi
  rw [zF_s (by omega), hi]
  exact if_neg q
theorem zLs1_w {t : Int} {r : Int × zA} (ht : 0 ≤ t ∧ t < r.2 785 0) (h : zHI r.2) : zHI (zLs1 t r).2 ∧ zSk (zLs1 t r).2 r.2 ∧ (zLs1 t r).2 789 0 = r.2 789 0 := by
  unfold zLs1
  split
  · rename_i q
    obtain ⟨v, A⟩ := r
    dsimp only at *
    have b0 : 0 ≤ A 785 0 ∧ A 785 0 ≤ 16 := h.1 785 0
    have hA1 : zHI (zU A 14 t (-1)) := zHI_u h (by decide) (by decide)
    have hw : zPw 500 < zPw (zU A 14 t (-1) 11 t) := by
      rw [zU_k (by decide)]
      unfold zPw
      rw [if_neg (by omega), if_neg (by omega), if_pos (by omega)]
      decide
    have et : zU A 14 t (-1) 785 0 = A 785 0 := zU_k (by decide)
    refine ⟨⟨zGo_B hA1.1 (zGo_s hA1.1 hA1.2.2.2 (by rw [et]; exact ht) hw) (by omega) (by decide), zGo_I hA1.2.1 (by decide), fun j j1 j2 q2 => ?_, zGo_P hA1.2.2.2 (by rw [et]; exact ht) hw⟩, ⟨?_, ?_, ?_, ?_, ?_⟩, ?_⟩
    · rw [zGo_k (by decide), zU_k (by decide)] at q2 ⊢
      have := h.2.2.1 j j1 j2 q2
      rw [zGo_k (by decide), et, zGo_w, zU_k (by decide)]
      refine ⟨this.1, ?_⟩
      split
      · rename_i w
        rw [w] at this
        omega
      · exact this.2
    all_goals rw [zGo_k (by decide), zU_k (by decide)]
  · exact ⟨h, ⟨rfl, rfl, rfl, rfl, rfl⟩, rfl⟩
theorem zLs_w {A : zA} (h : zHI A) (v : Int) (n : Int) (hn : 0 ≤ n ∧ n ≤ A 785 0) : zHI (zF zLs1 (v, A) n).2 ∧ zSk (zF zLs1 (v, A) n).2 A ∧ (zF zLs1 (v, A) n).2 789 0 = A 789 0 :=
  zF_i (I := fun _ q => zHI q.2 ∧ zSk q.2 A ∧ q.2 789 0 = A 789 0) n hn.1 ⟨h, ⟨rfl, rfl, rfl, rfl, rfl⟩, rfl⟩ (fun i q h1 h2 hi => by
    have w := zLs1_w (t := i) (r := q) (by have := hi.2.1.1; omega) hi.1
    exact ⟨w.1, zSk_t w.2.1 hi.2.1, w.2.2.trans hi.2.2⟩)
theorem l_M_minutes_82 {e : gE} {b : Nat} {m : Int} {Z : Int → gH → Prop} {kc ks : Nat} {G0 G : gH} (A : zA) (hA : zM m G = A) (hC : zC m G0 G) (h : zHI A) (K : ∀ G1, zM m G1 = zU (zF zLs1 (0, A) (A 785 0)).2 788 0 2 → zC m G0 G1 → Z (A 789 0) G1) : EX e b m m_M_minutes Z kc ks 82 [(2, (m + 0)), (9, 0), (0, 0)] [] G := by
  have b0 : 0 ≤ A 785 0 ∧ A 785 0 ≤ 16 := h.1 785 0
  refine zloop (P := fun i => ∀ G1, zM m G1 = (zF zLs1 (0, A) i).2 → zC m G0 G1 → EX e b m m_M_minutes Z kc ks 82 [(2, (m + 0)), (9, 0), (0, i)] [] G1) (i := 0) (A 785 0) b0.1 ?_ ?_ G hA hC
  · intro G1 h1 h2
    have w := zLs_w h 0 (A 785 0) ⟨b0.1, Int.le_refl _⟩
    rw [← h1] at w
    have e1 := w.2.1.1
    refine sg_M_minutes_82 ⟨fun _ => ?_, fun q => absurd q (by omega)⟩
    rintro _ rfl
    rw [w.2.2]
    exact K _ (by rw [zM_u788, h1]) (zC_u h2 (by decide))
  · intro j j1 j2 st G1 h1 h2
    have w := zLs_w h 0 j ⟨j1, by omega⟩
    rw [← h1] at w
    have e1 := w.2.1.1
    rw [zF_s j1] at st
    have es : zLs1 j (zF zLs1 (0, A) j) = zLs1 j ((zF zLs1 (0, A) j).1, zM m G1) := by rw [h1]
    rw [es] at st
    have b3 : 0 ≤ zM m G1 791 0 ∧ zM m G1 791 0 ≤ 1000 := w.1.1 791 0
    have b4 : 0 ≤ zM m G1 794 0 ∧ zM m G1 794 0 ≤ 16 * 512 + 32 := w.1.1 794 0
    refine sg_M_minutes_82 ⟨fun q => absurd q (by omega), fun _ => ⟨by omega, fun q => ⟨by omega, st G1 ?_ h2⟩, fun q => ?_⟩⟩
    · unfold zLs1; rw [if_neg q]
    · rintro _ rfl
      have e5 : zM m (gU G1 1 (m + 14) j (-1)) = zU (zM m G1) 14 j (-1) := zM_u14
      refine GM.mono (c_M_goes (by rw [e5, zU_k (by decide)]; omega) (by rw [e5, zU_k (by decide)]; omega) (by omega)) ?_
      rintro v G2 ⟨-, l1, l2⟩
      refine ⟨by omega, st G2 ?_ (zC_t (zC_u h2 (by decide)) l2)⟩
      rw [l1, e5]
      unfold zLs1
      rw [if_pos q]
theorem c_M_minutes {e : gE} {b : Nat} {m : Int} {G : gH} {p1 : Int} (h : zHI (zM m G)) (he : zM m G 788 0 = 1 → zM m G 789 0 ≤ zM m G 790 0) : GX e b m m_M_minutes [(2, (m + 0)), (0, p1)] G 0 0 (zQ m G (zfMinutes (zM m G) p1)) := by
  refine GM.ofEV (by decide) (Nat.le_of_ble_eq_true rfl) (sg_M_minutes_0 ⟨fun q1 q2 q3 => ?_, fun q => ?_⟩)
  · unfold zfMinutes
    rw [if_neg (by omega)]
    have out : ∀ G1, zM m G1 = (zF zMn1 (0, zM m G) p1).2 → zC m G G1 → (zM m G1 789 0 ≠ zM m G1 790 0 → zQ m G ((zF zMn1 (0, zM m G) p1).2 789 0, zOver (zF zMn1 (0, zM m G) p1).2) (zM m G1 789 0) G1) ∧ (zM m G1 789 0 = zM m G1 790 0 → EX e b m m_M_minutes (zQ m G ((zF zMn1 (0, zM m G) p1).2 789 0, zOver (zF zMn1 (0, zM m G) p1).2)) 0 0 82 [(2, (m + 0)), (9, 0), (0, 0)] [] G1) := by
      intro G1 h1 h2
      have w := zMn_w h (he q3) 0 p1 (by omega)
      rw [← h1] at w ⊢
      refine ⟨fun q => ⟨rfl, ?_, h2⟩, fun q => l_M_minutes_82 (zM m G1) rfl h2 w.1 (fun G2 h3 h4 => ⟨rfl, ?_, h4⟩)⟩
      · unfold zOver; rw [if_neg q]
      · rw [h3]; unfold zOver; rw [if_pos q]
    refine zloop (P := fun i => ∀ G1, zM m G1 = (zF zMn1 (0, zM m G) i).2 → zC m G G1 → EX e b m m_M_minutes _ _ _ 29 [(2, (m + 0)), (0, p1), (0, i)] [] G1) (i := 0) p1 (by omega) ?_ ?_ G rfl zC_r
    · intro G1 h1 h2
      exact sg_M_minutes_29 ⟨fun q => absurd q (by omega), fun _ => out G1 h1 h2⟩
    · intro j j1 j2 st G1 h1 h2
      have w := zMn_w h (he q3) 0 j j1
      rw [← h1] at w
      have b1 : 0 ≤ zM m G1 790 0 ∧ zM m G1 790 0 ≤ 240 := w.1.1 790 0
      have b2 : 0 ≤ zM m G1 789 0 ∧ zM m G1 789 0 ≤ 240 := w.1.1 789 0
      refine sg_M_minutes_29 ⟨fun _ q => ?_, fun q => out G1 ?_ h2⟩
      · rw [zF_s j1] at st
        have es : zMn1 j (zF zMn1 (0, zM m G) j) = zMn1 j ((zF zMn1 (0, zM m G) j).1, zM m G1) := by rw [h1]
        rw [es] at st
        unfold zMn1 at st
        rw [if_pos q] at st
        have wb := zBegin_w w.1
        have e1 : zBegin (zM m G1) 789 0 = zM m G1 789 0 := wb.2 _ _ (by decide)
        refine GM.mono (c_M_begin w.1) ?_
        rintro v G2 ⟨l1, l2⟩
        rw [l1]
        refine ⟨by omega, ?_⟩
        rintro _ rfl
        have e5 : zM m (gU G2 789 (m + 0) 0 (zBegin (zM m G1) 789 0 + 1)) = zU (zBegin (zM m G1)) 789 0 (zBegin (zM m G1) 789 0 + 1) := by rw [zM_u789, l1]
        have h2c : zHI (zU (zBegin (zM m G1)) 789 0 (zBegin (zM m G1) 789 0 + 1)) := zHI_u wb.1 (by decide) (by show 0 ≤ zBegin (zM m G1) 789 0 + 1 ∧ zBegin (zM m G1) 789 0 + 1 ≤ 240; omega)
        refine GM.mono (c_M_comes (by rw [e5]; exact h2c)) ?_
        rintro v2 G3 ⟨l3, l4⟩
        rw [e5] at l3
        exact ⟨by omega, st G3 l3 (zC_t (zC_u (zC_t h2 l2) (by decide)) l4)⟩
      · rw [h1]
        refine congrArg Prod.snd (zMn_stop (n := p1) j1 (by omega) ?_).symm
        rw [← h1]
        omega
  · unfold zfMinutes
    rw [if_pos (by omega)]
    exact c_M_no h.1 (by decide)
