/-! THE REFERENCE, 12: ways -/
theorem zS_at {f g : Int → Int} {n j : Int} (hj : 0 ≤ j ∧ j < n) (h : ∀ i, 0 ≤ i → i < n → i ≠ j → f i = g i) : zS f n = zS g n + (f j - g j) := by
  have : zS f n = zS g n + if j < n then f j - g j else 0 := by
    refine zloopI (i := 0) (I := fun i => zS f i = zS g i + if j < i then f j - g j else 0) (P := fun _ => zS f n = zS g n + if j < n then f j - g j else 0) n (by omega) ?_ ?_ (fun q => q) (fun j h1 h2 hi q => q)
    · rw [zS_0, zS_0, if_neg (by omega)]; rfl
    · intro i h1 h2 hi
      rw [zS_s h1, zS_s h1, hi]
      by_cases q : i = j
      · subst q
        rw [if_neg (by omega), if_pos (by omega)]
        omega
      · rw [h i h1 h2 q]
        by_cases q2 : j < i
        · rw [if_pos q2, if_pos (by omega)]; omega
        · rw [if_neg q2, if_neg (by omega)]; omega
  rw [if_pos hj.2] at this
  exact this
def zEdge (A : zA) (a r w : Int) : Prop := ∃ d, (0 ≤ d ∧ d < A 784 0) ∧ A 4 d = 0 ∧ A 3 d = w ∧ ((A 1 d = a ∧ A 2 d = r) ∨ (A 2 d = a ∧ A 1 d = r))
/-- a walk of so many doors out of room 0 -/
def zWlk (A : zA) : Nat → Int → Int → Prop
  | 0, r, l => r = 0 ∧ l = 0
  | k + 1, r, l => ∃ a l' w, zWlk A k a l' ∧ zEdge A a r w ∧ l = l' + w
def zIsW (A : zA) (f : Int → Int) : Prop := f 0 = 0 ∧ (∀ r, 0 ≤ r → r < 12 → f r ≠ -1 → (0 ≤ f r ∧ f r ≤ 99) ∧ ∃ k, zWlk A k r (f r)) ∧ (∀ a r w, zEdge A a r w → f a ≠ -1 → f r ≠ -1 ∧ f r ≤ f a + w)
theorem zIsW_le {A : zA} {f : Int → Int} (h : zIsW A f) : ∀ (k : Nat) (r l : Int), zWlk A k r l → f r ≠ -1 ∧ f r ≤ l := by
  intro k
  induction k with
  | zero => rintro r l ⟨h1, h2⟩; rw [h1, h.1]; omega
  | succ k ih =>
    rintro r l ⟨a, l', w, h1, h2, h3⟩
    have q := ih a l' h1
    have q2 := h.2.2 a r w h2 q.1
    exact ⟨q2.1, by omega⟩
theorem zIsW_u {A : zA} {f g : Int → Int} (h : zIsW A f) (h' : zIsW A g) {r : Int} (hr : 0 ≤ r ∧ r < 12) : f r = g r := by
  by_cases q : f r = -1
  · by_cases q2 : g r = -1
    · omega
    · obtain ⟨_, k, hk⟩ := h'.2.1 r hr.1 hr.2 q2
      exact absurd q (zIsW_le h k r _ hk).1
  · obtain ⟨_, k, hk⟩ := h.2.1 r hr.1 hr.2 q
    have q3 := zIsW_le h' k r _ hk
    obtain ⟨_, k2, hk2⟩ := h'.2.1 r hr.1 hr.2 q3.1
    have q4 := zIsW_le h k2 r _ hk2
    omega
noncomputable def zWay (A : zA) : Int → Int := @dite (Int → Int) (∃ f, zIsW A f) (Classical.propDecidable _) (fun h => Classical.choose h) (fun _ _ => -1)
theorem zWay_u {A : zA} {f : Int → Int} (h : zIsW A f) {r : Int} (hr : 0 ≤ r ∧ r < 12) : f r = zWay A r := by
  have hx : ∃ f, zIsW A f := ⟨f, h⟩
  have e : zWay A = Classical.choose hx := dif_pos hx
  rw [e]
  exact zIsW_u h (Classical.choose_spec hx) hr
def zPhi (F : Int → Int) : Int := zS (fun r => if F r = -1 then 1000 else F r) 12
def zCnt (F : Int → Int) : Int := zS (fun r => if F r = -1 then 0 else 1) 12
def zJ (A : zA) (F : Int → Int) : Prop := F 0 = 0 ∧ ∀ r, 0 ≤ r → r < 12 → F r = -1 ∨ ((0 ≤ F r ∧ F r ≤ 9 * (zCnt F - 1)) ∧ ∃ k, zWlk A k r (F r))
theorem zCnt_b {F : Int → Int} : 0 ≤ zCnt F ∧ zCnt F ≤ 12 := by
  have := zS_b (f := fun r => if F r = -1 then 0 else 1) (c := 1) 12 (fun i _ _ => by show 0 ≤ (if F i = -1 then (0 : Int) else 1) ∧ _; constructor <;> split <;> omega) (by decide) (by decide)
  unfold zCnt
  omega
theorem zJ_b {A : zA} {F : Int → Int} (h : zJ A F) {r : Int} (hr : 0 ≤ r ∧ r < 12) (q : F r ≠ -1) : 0 ≤ F r ∧ F r ≤ 99 := by
  have := (h.2 r hr.1 hr.2).resolve_left q
  have c := zCnt_b (F := F)
  omega
theorem zPhi_b {A : zA} {F : Int → Int} (h : zJ A F) : 0 ≤ zPhi F := by
  refine (zS_b (c := 1000) 12 (fun i h1 h2 => ?_) (by decide) (by decide)).1
  show 0 ≤ (if F i = -1 then 1000 else F i) ∧ (if F i = -1 then 1000 else F i) ≤ 1000
  split
  · omega
  · rename_i q; have := zJ_b h ⟨h1, h2⟩ q; omega
theorem zJ_u {A : zA} {F F' : Int → Int} {a r w : Int} (hJ : zJ A F) (ha : 0 ≤ a ∧ a < 12) (hr : 0 ≤ r ∧ r < 12) (hF : F a ≠ -1) (he : zEdge A a r w) (hw : 0 ≤ w ∧ w ≤ 9) (hl : F r = -1 ∨ F a + w < F r) (hF' : ∀ i, F' i = if i = r then F a + w else F i) : zJ A F' ∧ zPhi F' < zPhi F := by
  have e1 : F' r = F a + w := by rw [hF', if_pos rfl]
  have e2 : ∀ i, i ≠ r → F' i = F i := fun i q => by rw [hF', if_neg q]
  have ba := zJ_b hJ ha hF
  have c1 : zCnt F' = zCnt F + ((if F' r = -1 then 0 else 1) - (if F r = -1 then 0 else 1)) := zS_at hr (fun i _ _ q => by show (if F' i = -1 then (0 : Int) else 1) = (if F i = -1 then (0 : Int) else 1); rw [e2 i q])
  have p1 : zPhi F' = zPhi F + ((if F' r = -1 then 1000 else F' r) - (if F r = -1 then 1000 else F r)) := zS_at hr (fun i _ _ q => by show (if F' i = -1 then (1000 : Int) else F' i) = (if F i = -1 then (1000 : Int) else F i); rw [e2 i q])
  have a2 := (hJ.2 a ha.1 ha.2).resolve_left hF
  obtain ⟨a3, k, hk⟩ := a2
  rw [e1, if_neg (by omega)] at c1 p1
  have r2 : F r ≠ -1 → 0 ≤ F r ∧ F r ≤ 9 * (zCnt F - 1) := fun q => ((hJ.2 r hr.1 hr.2).resolve_left q).1
  refine ⟨⟨?_, fun i h1 h2 => ?_⟩, ?_⟩
  · by_cases q : r = 0
    · subst q; have := hJ.1; omega
    · rw [e2 0 (fun z => q z.symm)]; exact hJ.1
  · by_cases q : i = r
    · subst q
      refine Or.inr ⟨?_, k + 1, a, F a, w, hk, he, e1⟩
      rw [e1]
      by_cases q2 : F i = -1
      · rw [if_pos q2] at c1; omega
      · rw [if_neg q2] at c1; have := r2 q2; omega
    · rw [e2 i q]
      refine (hJ.2 i h1 h2).imp id (fun z => ⟨?_, z.2⟩)
      have : zCnt F ≤ zCnt F' := by rw [c1]; split <;> omega
      omega
  · by_cases q2 : F r = -1
    · rw [if_pos q2] at p1; omega
    · rw [if_neg q2] at p1; omega
/-- the rooms' ways, found afresh -/
noncomputable def zWs (A : zA) : zA := zV A 6 0 12 (zWay A)
def zWI (A : zA) (G0 : gH) (m : Int) (G : gH) : Prop := zC m G0 G ∧ (∀ (k : Nat) (i : Int), (k ≠ 6 ∨ ¬ (0 ≤ i ∧ i < 12)) → zM m G k i = A k i) ∧ zJ A (zM m G 6)
def zOkE (A : zA) (F : Int → Int) (j : Int) : Prop := A 4 (j / 2) = 0 → (F (A 1 (j / 2)) ≠ -1 → j % 2 = 0 → F (A 2 (j / 2)) ≠ -1 ∧ F (A 2 (j / 2)) ≤ F (A 1 (j / 2)) + A 3 (j / 2)) ∧ (F (A 2 (j / 2)) ≠ -1 → j % 2 ≠ 0 → F (A 1 (j / 2)) ≠ -1 ∧ F (A 1 (j / 2)) ≤ F (A 2 (j / 2)) + A 3 (j / 2))
theorem zOk_W {A : zA} {F : Int → Int} (hJ : zJ A F) (h : ∀ j, 0 ≤ j → j < 2 * A 784 0 → zOkE A F j) : zIsW A F := by
  refine ⟨hJ.1, fun r h1 h2 q => ⟨zJ_b hJ ⟨h1, h2⟩ q, ((hJ.2 r h1 h2).resolve_left q).2⟩, ?_⟩
  rintro a r w ⟨d, hd, hb, hw, he⟩ ha
  rcases he with he | he
  · have q := h (2 * d) (by omega) (by omega)
    unfold zOkE at q
    rw [show 2 * d / 2 = d from by omega, he.1, he.2, hw] at q
    exact (q hb).1 ha (by omega)
  · have q := h (2 * d + 1) (by omega) (by omega)
    unfold zOkE at q
    rw [show (2 * d + 1) / 2 = d from by omega, he.1, he.2, hw] at q
    exact (q hb).2 ha (by omega)
set_option maxRecDepth 20000 in
set_option maxHeartbeats 4000000 in
theorem sg_M_ways_0 {e : gE} {b : Nat} {m : Int} {Z : Int → gH → Prop} {kc ks : Nat} {G : gH} (h : EX e b m m_M_ways Z kc ks 2 [(2, (m + 0)), (0, 0), (9, 0), (9, 0), (9, 0), (9, 0)] [] G) : EX e b m m_M_ways Z kc ks 0 [(2, (m + 0)), (9, 0), (9, 0), (9, 0), (9, 0), (9, 0)] [] G := by
  refine e_iconst d_M_ways_0 (by decide) ?_
  refine e_istore_n (ls' := [(2, (m + 0)), (0, 0), (9, 0), (9, 0), (9, 0), (9, 0)]) d_M_ways_1 (by decide) rfl ?_
  exact e_forget (ls' := [(2, (m + 0)), (0, 0), (9, 0), (9, 0), (9, 0), (9, 0)]) ⟨Or.inr rfl, Or.inr rfl, Or.inl rfl, Or.inl rfl, Or.inl rfl, Or.inl rfl, trivial⟩ h
set_option maxRecDepth 20000 in
set_option maxHeartbeats 4000000 in
theorem sg_M_ways_2 {e : gE} {b : Nat} {m : Int} {Z : Int → gH → Prop} {kc ks : Nat} {G : gH} {x1 : Int} (h : (12 ≤ x1 → EX e b m m_M_ways Z kc ks 31 [(2, (m + 0)), (0, 1), (9, 0), (9, 0), (9, 0), (9, 0)] [] G) ∧ (x1 < 12 → (x1 ≠ 0 → (0 ≤ x1 ∧ x1 < 12) ∧ (∀ G6 : gH, G6 = gU G 1 (m + 6) x1 (-1) → (inI (x1 + 1)) ∧ EX e b m m_M_ways Z kc ks 2 [(2, (m + 0)), (0, (x1 + 1)), (9, 0), (9, 0), (9, 0), (9, 0)] [] G6)) ∧ (x1 = 0 → (0 ≤ x1 ∧ x1 < 12) ∧ (∀ G9 : gH, G9 = gU G 1 (m + 6) x1 0 → (inI (x1 + 1)) ∧ EX e b m m_M_ways Z kc ks 2 [(2, (m + 0)), (0, (x1 + 1)), (9, 0), (9, 0), (9, 0), (9, 0)] [] G9)))) : EX e b m m_M_ways Z kc ks 2 [(2, (m + 0)), (0, x1), (9, 0), (9, 0), (9, 0), (9, 0)] [] G := by
  refine e_iload_n d_M_ways_2 rfl ?_
  refine e_bipush d_M_ways_3 (by decide) (by decide) ?_
  refine e_icmp_ge (tgt := 29) d_M_ways_5 (by decide) (fun q1 => ?_) (fun q2 => ?_)
  · have h := h.1 q1
    refine e_iconst d_M_ways_29 (by decide) ?_
    refine e_istore_n (ls' := [(2, (m + 0)), (0, 1), (9, 0), (9, 0), (9, 0), (9, 0)]) d_M_ways_30 (by decide) rfl ?_
    exact e_forget (ls' := [(2, (m + 0)), (0, 1), (9, 0), (9, 0), (9, 0), (9, 0)]) ⟨Or.inr rfl, Or.inr rfl, Or.inl rfl, Or.inl rfl, Or.inl rfl, Or.inl rfl, trivial⟩ h
  · have h := h.2 q2
    refine e_aload_n d_M_ways_8 rfl ?_
    refine gx_M_30 d_M_ways_9 rfl ?_
    refine e_iload_n d_M_ways_12 rfl ?_
    refine e_iload_n d_M_ways_13 rfl ?_
    refine e_if_ne (tgt := 21) d_M_ways_14 (by decide) (fun q3 => ?_) (fun q4 => ?_)
    · have h := h.1 q3
      refine e_iconst d_M_ways_21 (by decide) ?_
      obtain ⟨o5, h⟩ := h
      refine xM_iast 6 rfl d_M_ways_22 o5 ?_
      let G6 : gH := gU G 1 (m + 6) x1 (-1)
      have h := h G6 rfl
      obtain ⟨o7, h⟩ := h
      refine e_iinc (ls' := [(2, (m + 0)), (0, (x1 + 1)), (9, 0), (9, 0), (9, 0), (9, 0)]) d_M_ways_23 rfl (by decide) o7 rfl ?_
      refine e_goto (tgt := 2) d_M_ways_26 (by decide) ?_
      exact e_forget (ls' := [(2, (m + 0)), (0, (x1 + 1)), (9, 0), (9, 0), (9, 0), (9, 0)]) ⟨Or.inr rfl, Or.inr rfl, Or.inl rfl, Or.inl rfl, Or.inl rfl, Or.inl rfl, trivial⟩ h
    · have h := h.2 q4
      refine e_iconst d_M_ways_17 (by decide) ?_
      refine e_goto (tgt := 22) d_M_ways_18 (by decide) ?_
      obtain ⟨o8, h⟩ := h
      refine xM_iast 6 rfl d_M_ways_22 o8 ?_
      let G9 : gH := gU G 1 (m + 6) x1 0
      have h := h G9 rfl
      obtain ⟨o10, h⟩ := h
      refine e_iinc (ls' := [(2, (m + 0)), (0, (x1 + 1)), (9, 0), (9, 0), (9, 0), (9, 0)]) d_M_ways_23 rfl (by decide) o10 rfl ?_
      refine e_goto (tgt := 2) d_M_ways_26 (by decide) ?_
      exact e_forget (ls' := [(2, (m + 0)), (0, (x1 + 1)), (9, 0), (9, 0), (9, 0), (9, 0)]) ⟨Or.inr rfl, Or.inr rfl, Or.inl rfl, Or.inl rfl, Or.inl rfl, Or.inl rfl, trivial⟩ h
set_option maxRecDepth 20000 in
set_option maxHeartbeats 4000000 in
theorem sg_M_ways_31 {e : gE} {b : Nat} {m : Int} {Z : Int → gH → Prop} {kc ks : Nat} {G : gH} {x1 : Int} (h : (x1 = 0 → Z 0 G) ∧ (x1 ≠ 0 → EX e b m m_M_ways Z kc ks 39 [(2, (m + 0)), (0, 0), (0, 0), (9, 0), (9, 0), (9, 0)] [] G)) : EX e b m m_M_ways Z kc ks 31 [(2, (m + 0)), (0, x1), (9, 0), (9, 0), (9, 0), (9, 0)] [] G := by
  refine e_iload_n d_M_ways_31 rfl ?_
  refine e_if_eq (tgt := 189) d_M_ways_32 (by decide) (fun q1 => ?_) (fun q2 => ?_)
  · have h := h.1 q1
    exact e_vret d_M_ways_189 rfl h
  · have h := h.2 q2
    refine e_iconst d_M_ways_35 (by decide) ?_
    refine e_istore_n (ls' := [(2, (m + 0)), (0, 0), (9, 0), (9, 0), (9, 0), (9, 0)]) d_M_ways_36 (by decide) rfl ?_
    refine e_iconst d_M_ways_37 (by decide) ?_
    refine e_istore_n (ls' := [(2, (m + 0)), (0, 0), (0, 0), (9, 0), (9, 0), (9, 0)]) d_M_ways_38 (by decide) rfl ?_
    exact e_forget (ls' := [(2, (m + 0)), (0, 0), (0, 0), (9, 0), (9, 0), (9, 0)]) ⟨Or.inr rfl, Or.inr rfl, Or.inr rfl, Or.inl rfl, Or.inl rfl, Or.inl rfl, trivial⟩ h
set_option maxRecDepth 20000 in
set_option maxHeartbeats 4000000 in
theorem sg_M_ways_39 {e : gE} {b : Nat} {m : Int} {Z : Int → gH → Prop} {kc ks : Nat} {G : gH} {x1 x2 : Int} (h : ((inI (2 * (zM m G 784 0))) ∧ (((2 * (zM m G 784 0)) ≤ x2 → EX e b m m_M_ways Z kc ks 31 [(2, (m + 0)), (0, x1), (9, 0), (9, 0), (9, 0), (9, 0)] [] G) ∧ (x2 < (2 * (zM m G 784 0)) → (0 ≤ x2) ∧ (((x2 % 2) ≠ 0 → (0 ≤ (x2 / 2) ∧ (x2 / 2) < 20) ∧ ((zM m G 4 (x2 / 2)) = 0 → (0 ≤ (zM m G 2 (x2 / 2)) ∧ (zM m G 2 (x2 / 2)) < 12) ∧ ((zM m G 6 (zM m G 2 (x2 / 2))) ≠ (-1) → (0 ≤ (zM m G 1 (x2 / 2)) ∧ (zM m G 1 (x2 / 2)) < 12) ∧ ((zM m G 6 (zM m G 1 (x2 / 2))) ≠ (-1) → (inI ((zM m G 6 (zM m G 2 (x2 / 2))) + (zM m G 3 (x2 / 2)))))))) ∧ ((x2 % 2) = 0 → (0 ≤ (x2 / 2) ∧ (x2 / 2) < 20) ∧ ((zM m G 4 (x2 / 2)) = 0 → (0 ≤ (zM m G 1 (x2 / 2)) ∧ (zM m G 1 (x2 / 2)) < 12) ∧ ((zM m G 6 (zM m G 1 (x2 / 2))) ≠ (-1) → (0 ≤ (zM m G 2 (x2 / 2)) ∧ (zM m G 2 (x2 / 2)) < 12) ∧ ((zM m G 6 (zM m G 2 (x2 / 2))) ≠ (-1) → (inI ((zM m G 6 (zM m G 1 (x2 / 2))) + (zM m G 3 (x2 / 2)))))))))))) ∧ (((x2 < (2 * (zM m G 784 0)) ∧ (x2 % 2) ≠ 0 ∧ (zM m G 4 (x2 / 2)) = 0 ∧ (zM m G 6 (zM m G 2 (x2 / 2))) ≠ (-1) ∧ (zM m G 6 (zM m G 1 (x2 / 2))) = (-1)) ∨ (x2 < (2 * (zM m G 784 0)) ∧ (x2 % 2) ≠ 0 ∧ (zM m G 4 (x2 / 2)) = 0 ∧ (zM m G 6 (zM m G 2 (x2 / 2))) ≠ (-1) ∧ (zM m G 6 (zM m G 1 (x2 / 2))) ≠ (-1) ∧ ((zM m G 6 (zM m G 2 (x2 / 2))) + (zM m G 3 (x2 / 2))) < (zM m G 6 (zM m G 1 (x2 / 2))))) → (0 ≤ (zM m G 2 (x2 / 2)) ∧ (zM m G 2 (x2 / 2)) < 12) ∧ ((0 ≤ (x2 / 2) ∧ (x2 / 2) < 20) ∧ ((inI ((zM m G 6 (zM m G 2 (x2 / 2))) + (zM m G 3 (x2 / 2)))) ∧ ((0 ≤ (zM m G 1 (x2 / 2)) ∧ (zM m G 1 (x2 / 2)) < 12) ∧ (∀ G40 : gH, G40 = gU G 1 (m + 6) (zM m G 1 (x2 / 2)) ((zM m G 6 (zM m G 2 (x2 / 2))) + (zM m G 3 (x2 / 2))) → (inI (x2 + 1)) ∧ EX e b m m_M_ways Z kc ks 39 [(2, (m + 0)), (0, 1), (0, (x2 + 1)), (9, 0), (9, 0), (9, 0)] [] G40))))) ∧ (((x2 < (2 * (zM m G 784 0)) ∧ (x2 % 2) = 0 ∧ (zM m G 4 (x2 / 2)) = 0 ∧ (zM m G 6 (zM m G 1 (x2 / 2))) ≠ (-1) ∧ (zM m G 6 (zM m G 2 (x2 / 2))) = (-1)) ∨ (x2 < (2 * (zM m G 784 0)) ∧ (x2 % 2) = 0 ∧ (zM m G 4 (x2 / 2)) = 0 ∧ (zM m G 6 (zM m G 1 (x2 / 2))) ≠ (-1) ∧ (zM m G 6 (zM m G 2 (x2 / 2))) ≠ (-1) ∧ ((zM m G 6 (zM m G 1 (x2 / 2))) + (zM m G 3 (x2 / 2))) < (zM m G 6 (zM m G 2 (x2 / 2))))) → (0 ≤ (zM m G 1 (x2 / 2)) ∧ (zM m G 1 (x2 / 2)) < 12) ∧ ((0 ≤ (x2 / 2) ∧ (x2 / 2) < 20) ∧ ((inI ((zM m G 6 (zM m G 1 (x2 / 2))) + (zM m G 3 (x2 / 2)))) ∧ ((0 ≤ (zM m G 2 (x2 / 2)) ∧ (zM m G 2 (x2 / 2)) < 12) ∧ (∀ G47 : gH, G47 = gU G 1 (m + 6) (zM m G 2 (x2 / 2)) ((zM m G 6 (zM m G 1 (x2 / 2))) + (zM m G 3 (x2 / 2))) → (inI (x2 + 1)) ∧ EX e b m m_M_ways Z kc ks 39 [(2, (m + 0)), (0, 1), (0, (x2 + 1)), (9, 0), (9, 0), (9, 0)] [] G47))))) ∧ (((x2 < (2 * (zM m G 784 0)) ∧ (x2 % 2) ≠ 0 ∧ (zM m G 4 (x2 / 2)) ≠ 0) ∨ (x2 < (2 * (zM m G 784 0)) ∧ (x2 % 2) ≠ 0 ∧ (zM m G 4 (x2 / 2)) = 0 ∧ (zM m G 6 (zM m G 2 (x2 / 2))) ≠ (-1) ∧ (zM m G 6 (zM m G 1 (x2 / 2))) ≠ (-1) ∧ (zM m G 6 (zM m G 1 (x2 / 2))) ≤ ((zM m G 6 (zM m G 2 (x2 / 2))) + (zM m G 3 (x2 / 2)))) ∨ (x2 < (2 * (zM m G 784 0)) ∧ (x2 % 2) ≠ 0 ∧ (zM m G 4 (x2 / 2)) = 0 ∧ (zM m G 6 (zM m G 2 (x2 / 2))) = (-1))) → (inI (x2 + 1)) ∧ EX e b m m_M_ways Z kc ks 39 [(2, (m + 0)), (0, x1), (0, (x2 + 1)), (9, 0), (9, 0), (9, 0)] [] G) ∧ (((x2 < (2 * (zM m G 784 0)) ∧ (x2 % 2) = 0 ∧ (zM m G 4 (x2 / 2)) ≠ 0) ∨ (x2 < (2 * (zM m G 784 0)) ∧ (x2 % 2) = 0 ∧ (zM m G 4 (x2 / 2)) = 0 ∧ (zM m G 6 (zM m G 1 (x2 / 2))) ≠ (-1) ∧ (zM m G 6 (zM m G 2 (x2 / 2))) ≠ (-1) ∧ (zM m G 6 (zM m G 2 (x2 / 2))) ≤ ((zM m G 6 (zM m G 1 (x2 / 2))) + (zM m G 3 (x2 / 2)))) ∨ (x2 < (2 * (zM m G 784 0)) ∧ (x2 % 2) = 0 ∧ (zM m G 4 (x2 / 2)) = 0 ∧ (zM m G 6 (zM m G 1 (x2 / 2))) = (-1))) → (inI (x2 + 1)) ∧ EX e b m m_M_ways Z kc ks 39 [(2, (m + 0)), (0, x1), (0, (x2 + 1)), (9, 0), (9, 0), (9, 0)] [] G)) : EX e b m m_M_ways Z kc ks 39 [(2, (m + 0)), (0, x1), (0, x2), (9, 0), (9, 0), (9, 0)] [] G := by
  obtain ⟨h, hJ35, hJ42, hJ49, hJ51⟩ := h
  have kJ51 : ((x2 < (2 * (zM m G 784 0)) ∧ (x2 % 2) = 0 ∧ (zM m G 4 (x2 / 2)) ≠ 0) ∨ (x2 < (2 * (zM m G 784 0)) ∧ (x2 % 2) = 0 ∧ (zM m G 4 (x2 / 2)) = 0 ∧ (zM m G 6 (zM m G 1 (x2 / 2))) ≠ (-1) ∧ (zM m G 6 (zM m G 2 (x2 / 2))) ≠ (-1) ∧ (zM m G 6 (zM m G 2 (x2 / 2))) ≤ ((zM m G 6 (zM m G 1 (x2 / 2))) + (zM m G 3 (x2 / 2)))) ∨ (x2 < (2 * (zM m G 784 0)) ∧ (x2 % 2) = 0 ∧ (zM m G 4 (x2 / 2)) = 0 ∧ (zM m G 6 (zM m G 1 (x2 / 2))) = (-1))) → EX e b m m_M_ways Z kc ks 180 [(2, (m + 0)), (0, x1), (0, x2), (0, (x2 / 2)), (0, (zM m G 1 (x2 / 2))), (0, (zM m G 2 (x2 / 2)))] [] G := by
    intro rJ51
    have h := hJ51 rJ51
    obtain ⟨o52, h⟩ := h
    refine e_iinc (ls' := [(2, (m + 0)), (0, x1), (0, (x2 + 1)), (0, (x2 / 2)), (0, (zM m G 1 (x2 / 2))), (0, (zM m G 2 (x2 / 2)))]) d_M_ways_180 rfl (by decide) o52 rfl ?_
    refine e_goto (tgt := 39) d_M_ways_183 (by decide) ?_
    exact e_forget (ls' := [(2, (m + 0)), (0, x1), (0, (x2 + 1)), (9, 0), (9, 0), (9, 0)]) ⟨Or.inr rfl, Or.inr rfl, Or.inr rfl, Or.inl rfl, Or.inl rfl, Or.inl rfl, trivial⟩ h
  have kJ49 : ((x2 < (2 * (zM m G 784 0)) ∧ (x2 % 2) ≠ 0 ∧ (zM m G 4 (x2 / 2)) ≠ 0) ∨ (x2 < (2 * (zM m G 784 0)) ∧ (x2 % 2) ≠ 0 ∧ (zM m G 4 (x2 / 2)) = 0 ∧ (zM m G 6 (zM m G 2 (x2 / 2))) ≠ (-1) ∧ (zM m G 6 (zM m G 1 (x2 / 2))) ≠ (-1) ∧ (zM m G 6 (zM m G 1 (x2 / 2))) ≤ ((zM m G 6 (zM m G 2 (x2 / 2))) + (zM m G 3 (x2 / 2)))) ∨ (x2 < (2 * (zM m G 784 0)) ∧ (x2 % 2) ≠ 0 ∧ (zM m G 4 (x2 / 2)) = 0 ∧ (zM m G 6 (zM m G 2 (x2 / 2))) = (-1))) → EX e b m m_M_ways Z kc ks 180 [(2, (m + 0)), (0, x1), (0, x2), (0, (x2 / 2)), (0, (zM m G 2 (x2 / 2))), (0, (zM m G 1 (x2 / 2)))] [] G := by
    intro rJ49
    have h := hJ49 rJ49
    obtain ⟨o50, h⟩ := h
    refine e_iinc (ls' := [(2, (m + 0)), (0, x1), (0, (x2 + 1)), (0, (x2 / 2)), (0, (zM m G 2 (x2 / 2))), (0, (zM m G 1 (x2 / 2)))]) d_M_ways_180 rfl (by decide) o50 rfl ?_
    refine e_goto (tgt := 39) d_M_ways_183 (by decide) ?_
    exact e_forget (ls' := [(2, (m + 0)), (0, x1), (0, (x2 + 1)), (9, 0), (9, 0), (9, 0)]) ⟨Or.inr rfl, Or.inr rfl, Or.inr rfl, Or.inl rfl, Or.inl rfl, Or.inl rfl, trivial⟩ h
  have kJ42 : ((x2 < (2 * (zM m G 784 0)) ∧ (x2 % 2) = 0 ∧ (zM m G 4 (x2 / 2)) = 0 ∧ (zM m G 6 (zM m G 1 (x2 / 2))) ≠ (-1) ∧ (zM m G 6 (zM m G 2 (x2 / 2))) = (-1)) ∨ (x2 < (2 * (zM m G 784 0)) ∧ (x2 % 2) = 0 ∧ (zM m G 4 (x2 / 2)) = 0 ∧ (zM m G 6 (zM m G 1 (x2 / 2))) ≠ (-1) ∧ (zM m G 6 (zM m G 2 (x2 / 2))) ≠ (-1) ∧ ((zM m G 6 (zM m G 1 (x2 / 2))) + (zM m G 3 (x2 / 2))) < (zM m G 6 (zM m G 2 (x2 / 2))))) → EX e b m m_M_ways Z kc ks 157 [(2, (m + 0)), (0, x1), (0, x2), (0, (x2 / 2)), (0, (zM m G 1 (x2 / 2))), (0, (zM m G 2 (x2 / 2)))] [] G := by
    intro rJ42
    have h := hJ42 rJ42
    refine e_aload_n d_M_ways_157 rfl ?_
    refine gx_M_30 d_M_ways_158 rfl ?_
    refine e_iload d_M_ways_161 rfl ?_
    refine e_aload_n d_M_ways_163 rfl ?_
    refine gx_M_30 d_M_ways_164 rfl ?_
    refine e_iload d_M_ways_167 rfl ?_
    obtain ⟨o43, h⟩ := h
    refine xM_iald 6 rfl d_M_ways_169 o43 ?_
    refine e_aload_n d_M_ways_170 rfl ?_
    refine gx_M_20 d_M_ways_171 rfl ?_
    refine e_iload_n d_M_ways_174 rfl ?_
    obtain ⟨o44, h⟩ := h
    refine xM_iald 3 rfl d_M_ways_175 o44 ?_
    obtain ⟨o45, h⟩ := h
    refine e_iadd d_M_ways_176 o45 ?_
    obtain ⟨o46, h⟩ := h
    refine xM_iast 6 rfl d_M_ways_177 o46 ?_
    let G47 : gH := gU G 1 (m + 6) (zM m G 2 (x2 / 2)) ((zM m G 6 (zM m G 1 (x2 / 2))) + (zM m G 3 (x2 / 2)))
    have h := h G47 rfl
    refine e_iconst d_M_ways_178 (by decide) ?_
    refine e_istore_n (ls' := [(2, (m + 0)), (0, 1), (0, x2), (0, (x2 / 2)), (0, (zM m G 1 (x2 / 2))), (0, (zM m G 2 (x2 / 2)))]) d_M_ways_179 (by decide) rfl ?_
    obtain ⟨o48, h⟩ := h
    refine e_iinc (ls' := [(2, (m + 0)), (0, 1), (0, (x2 + 1)), (0, (x2 / 2)), (0, (zM m G 1 (x2 / 2))), (0, (zM m G 2 (x2 / 2)))]) d_M_ways_180 rfl (by decide) o48 rfl ?_
    refine e_goto (tgt := 39) d_M_ways_183 (by decide) ?_
    exact e_forget (ls' := [(2, (m + 0)), (0, 1), (0, (x2 + 1)), (9, 0), (9, 0), (9, 0)]) ⟨Or.inr rfl, Or.inr rfl, Or.inr rfl, Or.inl rfl, Or.inl rfl, Or.inl rfl, trivial⟩ h
  have kJ35 : ((x2 < (2 * (zM m G 784 0)) ∧ (x2 % 2) ≠ 0 ∧ (zM m G 4 (x2 / 2)) = 0 ∧ (zM m G 6 (zM m G 2 (x2 / 2))) ≠ (-1) ∧ (zM m G 6 (zM m G 1 (x2 / 2))) = (-1)) ∨ (x2 < (2 * (zM m G 784 0)) ∧ (x2 % 2) ≠ 0 ∧ (zM m G 4 (x2 / 2)) = 0 ∧ (zM m G 6 (zM m G 2 (x2 / 2))) ≠ (-1) ∧ (zM m G 6 (zM m G 1 (x2 / 2))) ≠ (-1) ∧ ((zM m G 6 (zM m G 2 (x2 / 2))) + (zM m G 3 (x2 / 2))) < (zM m G 6 (zM m G 1 (x2 / 2))))) → EX e b m m_M_ways Z kc ks 157 [(2, (m + 0)), (0, x1), (0, x2), (0, (x2 / 2)), (0, (zM m G 2 (x2 / 2))), (0, (zM m G 1 (x2 / 2)))] [] G := by
    intro rJ35
    have h := hJ35 rJ35
    refine e_aload_n d_M_ways_157 rfl ?_
    refine gx_M_30 d_M_ways_158 rfl ?_
    refine e_iload d_M_ways_161 rfl ?_
    refine e_aload_n d_M_ways_163 rfl ?_
    refine gx_M_30 d_M_ways_164 rfl ?_
    refine e_iload d_M_ways_167 rfl ?_
    obtain ⟨o36, h⟩ := h
    refine xM_iald 6 rfl d_M_ways_169 o36 ?_
    refine e_aload_n d_M_ways_170 rfl ?_
    refine gx_M_20 d_M_ways_171 rfl ?_
    refine e_iload_n d_M_ways_174 rfl ?_
    obtain ⟨o37, h⟩ := h
    refine xM_iald 3 rfl d_M_ways_175 o37 ?_
    obtain ⟨o38, h⟩ := h
    refine e_iadd d_M_ways_176 o38 ?_
    obtain ⟨o39, h⟩ := h
    refine xM_iast 6 rfl d_M_ways_177 o39 ?_
    let G40 : gH := gU G 1 (m + 6) (zM m G 1 (x2 / 2)) ((zM m G 6 (zM m G 2 (x2 / 2))) + (zM m G 3 (x2 / 2)))
    have h := h G40 rfl
    refine e_iconst d_M_ways_178 (by decide) ?_
    refine e_istore_n (ls' := [(2, (m + 0)), (0, 1), (0, x2), (0, (x2 / 2)), (0, (zM m G 2 (x2 / 2))), (0, (zM m G 1 (x2 / 2)))]) d_M_ways_179 (by decide) rfl ?_
    obtain ⟨o41, h⟩ := h
    refine e_iinc (ls' := [(2, (m + 0)), (0, 1), (0, (x2 + 1)), (0, (x2 / 2)), (0, (zM m G 2 (x2 / 2))), (0, (zM m G 1 (x2 / 2)))]) d_M_ways_180 rfl (by decide) o41 rfl ?_
    refine e_goto (tgt := 39) d_M_ways_183 (by decide) ?_
    exact e_forget (ls' := [(2, (m + 0)), (0, 1), (0, (x2 + 1)), (9, 0), (9, 0), (9, 0)]) ⟨Or.inr rfl, Or.inr rfl, Or.inr rfl, Or.inl rfl, Or.inl rfl, Or.inl rfl, trivial⟩ h
  refine e_iload_n d_M_ways_39 rfl ?_
  refine e_iconst d_M_ways_40 (by decide) ?_
  refine e_aload_n d_M_ways_41 rfl ?_
  refine gx_M_168 d_M_ways_42 rfl ?_
  obtain ⟨o1, h⟩ := h
  refine e_imul d_M_ways_45 o1 ?_
  refine e_icmp_ge (tgt := 186) d_M_ways_46 (by decide) (fun q2 => ?_) (fun q3 => ?_)
  · have h := h.1 q2
    refine e_goto (tgt := 31) d_M_ways_186 (by decide) ?_
    exact e_forget (ls' := [(2, (m + 0)), (0, x1), (9, 0), (9, 0), (9, 0), (9, 0)]) ⟨Or.inr rfl, Or.inr rfl, Or.inl rfl, Or.inl rfl, Or.inl rfl, Or.inl rfl, trivial⟩ h
  · have h := h.2 q3
    refine e_iload_n d_M_ways_49 rfl ?_
    refine e_iconst d_M_ways_50 (by decide) ?_
    obtain ⟨o4, h⟩ := h
    refine e_idiv d_M_ways_51 o4 (by decide) ?_
    refine e_istore_n (ls' := [(2, (m + 0)), (0, x1), (0, x2), (0, (x2 / 2)), (9, 0), (9, 0)]) d_M_ways_52 (by decide) rfl ?_
    refine e_iload_n d_M_ways_53 rfl ?_
    refine e_iconst d_M_ways_54 (by decide) ?_
    refine e_irem d_M_ways_55 o4 (by decide) ?_
    refine e_if_ne (tgt := 68) d_M_ways_56 (by decide) (fun q5 => ?_) (fun q6 => ?_)
    · have h := h.1 q5
      refine e_aload_n d_M_ways_68 rfl ?_
      refine gx_M_17 d_M_ways_69 rfl ?_
      refine e_iload_n d_M_ways_72 rfl ?_
      obtain ⟨o7, h⟩ := h
      refine xM_iald 2 rfl d_M_ways_73 o7 ?_
      refine e_istore (ls' := [(2, (m + 0)), (0, x1), (0, x2), (0, (x2 / 2)), (0, (zM m G 2 (x2 / 2))), (9, 0)]) d_M_ways_74 (by decide) rfl ?_
      refine e_iload_n d_M_ways_76 rfl ?_
      refine e_iconst d_M_ways_77 (by decide) ?_
      refine e_irem d_M_ways_78 o4 (by decide) ?_
      refine e_if_ne (tgt := 91) d_M_ways_79 (by decide) (fun q9 => ?_) (fun q10 => ?_)
      · refine e_aload_n d_M_ways_91 rfl ?_
        refine gx_M_13 d_M_ways_92 rfl ?_
        refine e_iload_n d_M_ways_95 rfl ?_
        refine xM_iald 1 rfl d_M_ways_96 o7 ?_
        refine e_istore (ls' := [(2, (m + 0)), (0, x1), (0, x2), (0, (x2 / 2)), (0, (zM m G 2 (x2 / 2))), (0, (zM m G 1 (x2 / 2)))]) d_M_ways_97 (by decide) rfl ?_
        refine e_aload_n d_M_ways_99 rfl ?_
        refine gx_M_23 d_M_ways_100 rfl ?_
        refine e_iload_n d_M_ways_103 rfl ?_
        refine xM_zald 4 rfl d_M_ways_104 o7 ?_
        refine e_if_ne (tgt := 180) d_M_ways_105 (by decide) (fun q13 => ?_) (fun q14 => ?_)
        · exact kJ49 (Or.inl ⟨q3, q5, q13⟩)
        · have h := h q14
          refine e_aload_n d_M_ways_108 rfl ?_
          refine gx_M_30 d_M_ways_109 rfl ?_
          refine e_iload d_M_ways_112 rfl ?_
          obtain ⟨o15, h⟩ := h
          refine xM_iald 6 rfl d_M_ways_114 o15 ?_
          refine e_iconst d_M_ways_115 (by decide) ?_
          refine e_icmp_ne (tgt := 122) d_M_ways_116 (by decide) (fun q16 => ?_) (fun q17 => ?_)
          · have h := h q16
            refine e_aload_n d_M_ways_122 rfl ?_
            refine gx_M_30 d_M_ways_123 rfl ?_
            refine e_iload d_M_ways_126 rfl ?_
            obtain ⟨o18, h⟩ := h
            refine xM_iald 6 rfl d_M_ways_128 o18 ?_
            refine e_iconst d_M_ways_129 (by decide) ?_
            refine e_icmp_eq (tgt := 157) d_M_ways_130 (by decide) (fun q19 => ?_) (fun q20 => ?_)
            · exact kJ35 (Or.inl ⟨q3, q5, q14, q16, q19⟩)
            · have h := h q20
              refine e_aload_n d_M_ways_133 rfl ?_
              refine gx_M_30 d_M_ways_134 rfl ?_
              refine e_iload d_M_ways_137 rfl ?_
              refine xM_iald 6 rfl d_M_ways_139 o18 ?_
              refine e_aload_n d_M_ways_140 rfl ?_
              refine gx_M_30 d_M_ways_141 rfl ?_
              refine e_iload d_M_ways_144 rfl ?_
              refine xM_iald 6 rfl d_M_ways_146 o15 ?_
              refine e_aload_n d_M_ways_147 rfl ?_
              refine gx_M_20 d_M_ways_148 rfl ?_
              refine e_iload_n d_M_ways_151 rfl ?_
              refine xM_iald 3 rfl d_M_ways_152 o7 ?_
              have o21 := h
              refine e_iadd d_M_ways_153 o21 ?_
              refine e_icmp_le (tgt := 180) d_M_ways_154 (by decide) (fun q22 => ?_) (fun q23 => ?_)
              · exact kJ49 (Or.inr (Or.inl ⟨q3, q5, q14, q16, q20, q22⟩))
              · exact kJ35 (Or.inr ⟨q3, q5, q14, q16, q20, q23⟩)
          · refine e_goto (tgt := 180) d_M_ways_119 (by decide) ?_
            exact kJ49 (Or.inr (Or.inr ⟨q3, q5, q14, q17⟩))
      · exact absurd q5 (by omega)
    · have h := h.2 q6
      refine e_aload_n d_M_ways_59 rfl ?_
      refine gx_M_13 d_M_ways_60 rfl ?_
      refine e_iload_n d_M_ways_63 rfl ?_
      obtain ⟨o8, h⟩ := h
      refine xM_iald 1 rfl d_M_ways_64 o8 ?_
      refine e_goto (tgt := 74) d_M_ways_65 (by decide) ?_
      refine e_istore (ls' := [(2, (m + 0)), (0, x1), (0, x2), (0, (x2 / 2)), (0, (zM m G 1 (x2 / 2))), (9, 0)]) d_M_ways_74 (by decide) rfl ?_
      refine e_iload_n d_M_ways_76 rfl ?_
      refine e_iconst d_M_ways_77 (by decide) ?_
      refine e_irem d_M_ways_78 o4 (by decide) ?_
      refine e_if_ne (tgt := 91) d_M_ways_79 (by decide) (fun q11 => ?_) (fun q12 => ?_)
      · exact absurd q6 (by omega)
      · refine e_aload_n d_M_ways_82 rfl ?_
        refine gx_M_17 d_M_ways_83 rfl ?_
        refine e_iload_n d_M_ways_86 rfl ?_
        refine xM_iald 2 rfl d_M_ways_87 o8 ?_
        refine e_goto (tgt := 97) d_M_ways_88 (by decide) ?_
        refine e_istore (ls' := [(2, (m + 0)), (0, x1), (0, x2), (0, (x2 / 2)), (0, (zM m G 1 (x2 / 2))), (0, (zM m G 2 (x2 / 2)))]) d_M_ways_97 (by decide) rfl ?_
        refine e_aload_n d_M_ways_99 rfl ?_
        refine gx_M_23 d_M_ways_100 rfl ?_
        refine e_iload_n d_M_ways_103 rfl ?_
        refine xM_zald 4 rfl d_M_ways_104 o8 ?_
        refine e_if_ne (tgt := 180) d_M_ways_105 (by decide) (fun q24 => ?_) (fun q25 => ?_)
        · exact kJ51 (Or.inl ⟨q3, q6, q24⟩)
        · have h := h q25
          refine e_aload_n d_M_ways_108 rfl ?_
          refine gx_M_30 d_M_ways_109 rfl ?_
          refine e_iload d_M_ways_112 rfl ?_
          obtain ⟨o26, h⟩ := h
          refine xM_iald 6 rfl d_M_ways_114 o26 ?_
          refine e_iconst d_M_ways_115 (by decide) ?_
          refine e_icmp_ne (tgt := 122) d_M_ways_116 (by decide) (fun q27 => ?_) (fun q28 => ?_)
          · have h := h q27
            refine e_aload_n d_M_ways_122 rfl ?_
            refine gx_M_30 d_M_ways_123 rfl ?_
            refine e_iload d_M_ways_126 rfl ?_
            obtain ⟨o29, h⟩ := h
            refine xM_iald 6 rfl d_M_ways_128 o29 ?_
            refine e_iconst d_M_ways_129 (by decide) ?_
            refine e_icmp_eq (tgt := 157) d_M_ways_130 (by decide) (fun q30 => ?_) (fun q31 => ?_)
            · exact kJ42 (Or.inl ⟨q3, q6, q25, q27, q30⟩)
            · have h := h q31
              refine e_aload_n d_M_ways_133 rfl ?_
              refine gx_M_30 d_M_ways_134 rfl ?_
              refine e_iload d_M_ways_137 rfl ?_
              refine xM_iald 6 rfl d_M_ways_139 o29 ?_
              refine e_aload_n d_M_ways_140 rfl ?_
              refine gx_M_30 d_M_ways_141 rfl ?_
              refine e_iload d_M_ways_144 rfl ?_
              refine xM_iald 6 rfl d_M_ways_146 o26 ?_
              refine e_aload_n d_M_ways_147 rfl ?_
              refine gx_M_20 d_M_ways_148 rfl ?_
              refine e_iload_n d_M_ways_151 rfl ?_
              refine xM_iald 3 rfl d_M_ways_152 o8 ?_
              have o32 := h
              refine e_iadd d_M_ways_153 o32 ?_
              refine e_icmp_le (tgt := 180) d_M_ways_154 (by decide) (fun q33 => ?_) (fun q34 => ?_)
              · exact kJ51 (Or.inr (Or.inl ⟨q3, q6, q25, q27, q31, q33⟩))
              · exact kJ42 (Or.inr ⟨q3, q6, q25, q27, q31, q34⟩)
          · refine e_goto (tgt := 180) d_M_ways_119 (by decide) ?_
            exact kJ51 (Or.inr (Or.inr ⟨q3, q6, q25, q28⟩))
set_option maxRecDepth 20000 in
set_option maxHeartbeats 4000000 in
theorem sg_M_door_0 {e : gE} {b : Nat} {m : Int} {Z : Int → gH → Prop} {kc ks : Nat} {G : gH} {p1 p2 p3 : Int} (h : ((0 ≤ p1 ∧ p1 < 12) → ((0 ≤ p2 ∧ p2 < 12) → (p1 ≠ p2 → (1 ≤ p3 → (p3 ≤ 9 → ((zM m G 788 0) = 0 → ((zM m G 784 0) ≠ 20 → (0 ≤ (zM m G 784 0) ∧ (zM m G 784 0) < 20) ∧ (∀ G16 : gH, G16 = gU G 1 (m + 1) (zM m G 784 0) p1 → ∀ G17 : gH, G17 = gU G16 1 (m + 2) (zM m G 784 0) p2 → ∀ G18 : gH, G18 = gU G17 1 (m + 3) (zM m G 784 0) p3 → (inI ((zM m G 784 0) + 1)) ∧ (∀ G20 : gH, G20 = gU G18 784 (m + 0) 0 ((zM m G 784 0) + 1) → GX e b m m_M_ways [(2, (m + 0))] G20 0 0 (fun _ G23 => (inI ((zM m G23 784 0) - 1)) ∧ Z ((zM m G23 784 0) - 1) G23)))) ∧ ((zM m G 784 0) = 20 → GX e b m m_M_no [(2, (m + 0)), (0, (-7))] G 0 0 (fun v26 G27 => Z v26 G27)))))))) ∧ ((((¬ (0 ≤ p1 ∧ p1 < 12))) ∨ ((0 ≤ p1 ∧ p1 < 12) ∧ (¬ (0 ≤ p2 ∧ p2 < 12)))) → GX e b m m_M_no [(2, (m + 0)), (0, (-1))] G 0 0 (fun v30 G31 => Z v30 G31)) ∧ ((((0 ≤ p1 ∧ p1 < 12) ∧ (0 ≤ p2 ∧ p2 < 12) ∧ p1 = p2) ∨ ((0 ≤ p1 ∧ p1 < 12) ∧ (0 ≤ p2 ∧ p2 < 12) ∧ p1 ≠ p2 ∧ p3 < 1) ∨ ((0 ≤ p1 ∧ p1 < 12) ∧ (0 ≤ p2 ∧ p2 < 12) ∧ p1 ≠ p2 ∧ 1 ≤ p3 ∧ 9 < p3) ∨ ((0 ≤ p1 ∧ p1 < 12) ∧ (0 ≤ p2 ∧ p2 < 12) ∧ p1 ≠ p2 ∧ 1 ≤ p3 ∧ p3 ≤ 9 ∧ (zM m G 788 0) ≠ 0)) → GX e b m m_M_no [(2, (m + 0)), (0, (-6))] G 0 0 (fun v34 G35 => Z v34 G35))) : EX e b m m_M_door Z kc ks 0 [(2, (m + 0)), (0, p1), (0, p2), (0, p3)] [] G := by
  obtain ⟨h, hJ28, hJ32⟩ := h
  have kJ32 : (((0 ≤ p1 ∧ p1 < 12) ∧ (0 ≤ p2 ∧ p2 < 12) ∧ p1 = p2) ∨ ((0 ≤ p1 ∧ p1 < 12) ∧ (0 ≤ p2 ∧ p2 < 12) ∧ p1 ≠ p2 ∧ p3 < 1) ∨ ((0 ≤ p1 ∧ p1 < 12) ∧ (0 ≤ p2 ∧ p2 < 12) ∧ p1 ≠ p2 ∧ 1 ≤ p3 ∧ 9 < p3) ∨ ((0 ≤ p1 ∧ p1 < 12) ∧ (0 ≤ p2 ∧ p2 < 12) ∧ p1 ≠ p2 ∧ 1 ≤ p3 ∧ p3 ≤ 9 ∧ (zM m G 788 0) ≠ 0)) → EX e b m m_M_door Z kc ks 43 [(2, (m + 0)), (0, p1), (0, p2), (0, p3)] [] G := by
    intro rJ32
    have h := hJ32 rJ32
    refine e_aload_n d_M_door_43 rfl ?_
    refine e_bipush d_M_door_44 (by decide) (by decide) ?_
    refine EV.inv fun hFf33 => ?_
    have f33 := (fx_mt 0 rfl hFf33).1
    refine e_callV m_M_no 12 lw_good d_M_door_46 (k_M_no _) ⟨Nat.le_of_ble_eq_true rfl, Nat.le_of_ble_eq_true rfl⟩ w_1569 w_1571 w_s42 (q_M _) rfl f33 (args := [(0, (-6))]) rfl rfl (Nat.le_of_ble_eq_true rfl) (kc' := kc) (ks' := ks) (mc := 0) (ms := 0) rfl rfl h ?_
    intro v34 G35 h
    exact e_iret d_M_door_49 rfl h
  have kJ28 : (((¬ (0 ≤ p1 ∧ p1 < 12))) ∨ ((0 ≤ p1 ∧ p1 < 12) ∧ (¬ (0 ≤ p2 ∧ p2 < 12)))) → EX e b m m_M_door Z kc ks 14 [(2, (m + 0)), (0, p1), (0, p2), (0, p3)] [] G := by
    intro rJ28
    have h := hJ28 rJ28
    refine e_aload_n d_M_door_14 rfl ?_
    refine e_iconst d_M_door_15 (by decide) ?_
    refine EV.inv fun hFf29 => ?_
    have f29 := (fx_mt 0 rfl hFf29).1
    refine e_callV m_M_no 12 lw_good d_M_door_16 (k_M_no _) ⟨Nat.le_of_ble_eq_true rfl, Nat.le_of_ble_eq_true rfl⟩ w_1569 w_1571 w_s42 (q_M _) rfl f29 (args := [(0, (-1))]) rfl rfl (Nat.le_of_ble_eq_true rfl) (kc' := kc) (ks' := ks) (mc := 0) (ms := 0) rfl rfl h ?_
    intro v30 G31 h
    exact e_iret d_M_door_19 rfl h
  refine e_iload_n d_M_door_0 rfl ?_
  refine e_callS m_M_isRoom lw_good d_M_door_1 (k_M_isRoom _) ⟨Nat.le_of_ble_eq_true rfl, Nat.le_of_ble_eq_true rfl⟩ w_1566 w_1567 (args := [(0, p1)]) rfl rfl (Nat.le_of_ble_eq_true rfl) (kc' := kc) (ks' := ks) (mc := 0) (ms := 0) rfl rfl (c_M_isRoom) (pureK ?_)
  refine e_if_eq (tgt := 14) d_M_door_4 (by decide) (fun q1 => ?_) (fun q2 => ?_)
  · replace q1 := gb0.mp q1
    exact kJ28 (Or.inl q1)
  · replace q2 := gb1.mp q2
    have h := h q2
    refine e_iload_n d_M_door_7 rfl ?_
    refine e_callS m_M_isRoom lw_good d_M_door_8 (k_M_isRoom _) ⟨Nat.le_of_ble_eq_true rfl, Nat.le_of_ble_eq_true rfl⟩ w_1566 w_1567 (args := [(0, p2)]) rfl rfl (Nat.le_of_ble_eq_true rfl) (kc' := kc) (ks' := ks) (mc := 0) (ms := 0) rfl rfl (c_M_isRoom) (pureK ?_)
    refine e_if_ne (tgt := 20) d_M_door_11 (by decide) (fun q3 => ?_) (fun q4 => ?_)
    · replace q3 := gb1.mp q3
      have h := h q3
      refine e_iload_n d_M_door_20 rfl ?_
      refine e_iload_n d_M_door_21 rfl ?_
      refine e_icmp_eq (tgt := 43) d_M_door_22 (by decide) (fun q5 => ?_) (fun q6 => ?_)
      · exact kJ32 (Or.inl ⟨q2, q3, q5⟩)
      · have h := h q6
        refine e_iload_n d_M_door_25 rfl ?_
        refine e_iconst d_M_door_26 (by decide) ?_
        refine e_icmp_lt (tgt := 43) d_M_door_27 (by decide) (fun q7 => ?_) (fun q8 => ?_)
        · exact kJ32 (Or.inr (Or.inl ⟨q2, q3, q6, q7⟩))
        · have h := h q8
          refine e_iload_n d_M_door_30 rfl ?_
          refine e_bipush d_M_door_31 (by decide) (by decide) ?_
          refine e_icmp_gt (tgt := 43) d_M_door_33 (by decide) (fun q9 => ?_) (fun q10 => ?_)
          · exact kJ32 (Or.inr (Or.inr (Or.inl ⟨q2, q3, q6, q8, q9⟩)))
          · have h := h q10
            refine e_aload_n d_M_door_36 rfl ?_
            refine gx_M_165 d_M_door_37 rfl ?_
            refine e_if_eq (tgt := 50) d_M_door_40 (by decide) (fun q11 => ?_) (fun q12 => ?_)
            · have h := h q11
              refine e_aload_n d_M_door_50 rfl ?_
              refine gx_M_168 d_M_door_51 rfl ?_
              refine e_bipush d_M_door_54 (by decide) (by decide) ?_
              refine e_icmp_ne (tgt := 66) d_M_door_56 (by decide) (fun q13 => ?_) (fun q14 => ?_)
              · have h := h.1 q13
                refine e_aload_n d_M_door_66 rfl ?_
                refine gx_M_13 d_M_door_67 rfl ?_
                refine e_aload_n d_M_door_70 rfl ?_
                refine gx_M_168 d_M_door_71 rfl ?_
                refine e_iload_n d_M_door_74 rfl ?_
                obtain ⟨o15, h⟩ := h
                refine xM_iast 1 rfl d_M_door_75 o15 ?_
                let G16 : gH := gU G 1 (m + 1) (zM m G 784 0) p1
                have h := h G16 rfl
                refine e_aload_n d_M_door_76 rfl ?_
                refine gx_M_17 d_M_door_77 rfl ?_
                refine e_aload_n d_M_door_80 rfl ?_
                refine gx_M_168 d_M_door_81 rfl ?_
                refine e_iload_n d_M_door_84 rfl ?_
                refine xM_iast 2 rfl d_M_door_85 o15 ?_
                let G17 : gH := gU G16 1 (m + 2) (zM m G 784 0) p2
                have h := h G17 rfl
                refine e_aload_n d_M_door_86 rfl ?_
                refine gx_M_20 d_M_door_87 rfl ?_
                refine e_aload_n d_M_door_90 rfl ?_
                refine gx_M_168 d_M_door_91 rfl ?_
                refine e_iload_n d_M_door_94 rfl ?_
                refine xM_iast 3 rfl d_M_door_95 o15 ?_
                let G18 : gH := gU G17 1 (m + 3) (zM m G 784 0) p3
                have h := h G18 rfl
                refine e_aload_n d_M_door_96 rfl ?_
                refine e_dup d_M_door_97 (by simp) ?_
                refine gx_M_168 d_M_door_98 rfl ?_
                refine e_iconst d_M_door_101 (by decide) ?_
                obtain ⟨o19, h⟩ := h
                refine e_iadd d_M_door_102 o19 ?_
                refine px_M_168 d_M_door_103 rfl ?_
                let G20 : gH := gU G18 784 (m + 0) 0 ((zM m G 784 0) + 1)
                have h := h G20 rfl
                refine e_aload_n d_M_door_106 rfl ?_
                refine EV.inv fun hFf21 => ?_
                have f21 := (fx_mt 0 rfl hFf21).1
                refine e_callV m_M_ways 12 lw_good d_M_door_107 (k_M_ways _) ⟨Nat.le_of_ble_eq_true rfl, Nat.le_of_ble_eq_true rfl⟩ w_1573 w_1575 w_s43 (q_M _) rfl f21 (args := []) rfl rfl (Nat.le_of_ble_eq_true rfl) (kc' := kc) (ks' := ks) (mc := 0) (ms := 0) rfl rfl h ?_
                intro v22 G23 h
                refine e_aload_n d_M_door_110 rfl ?_
                refine gx_M_168 d_M_door_111 rfl ?_
                refine e_iconst d_M_door_114 (by decide) ?_
                obtain ⟨o24, h⟩ := h
                refine e_isub d_M_door_115 o24 ?_
                exact e_iret d_M_door_116 rfl h
              · have h := h.2 q14
                refine e_aload_n d_M_door_59 rfl ?_
                refine e_bipush d_M_door_60 (by decide) (by decide) ?_
                refine EV.inv fun hFf25 => ?_
                have f25 := (fx_mt 0 rfl hFf25).1
                refine e_callV m_M_no 12 lw_good d_M_door_62 (k_M_no _) ⟨Nat.le_of_ble_eq_true rfl, Nat.le_of_ble_eq_true rfl⟩ w_1569 w_1571 w_s42 (q_M _) rfl f25 (args := [(0, (-7))]) rfl rfl (Nat.le_of_ble_eq_true rfl) (kc' := kc) (ks' := ks) (mc := 0) (ms := 0) rfl rfl h ?_
                intro v26 G27 h
                exact e_iret d_M_door_65 rfl h
            · exact kJ32 (Or.inr (Or.inr (Or.inr ⟨q2, q3, q6, q8, q10, q12⟩)))
    · replace q4 := gb0.mp q4
      exact kJ28 (Or.inr ⟨q2, q4⟩)
set_option maxRecDepth 20000 in
set_option maxHeartbeats 4000000 in
theorem sg_M_block_0 {e : gE} {b : Nat} {m : Int} {Z : Int → gH → Prop} {kc ks : Nat} {G : gH} {p1 : Int} (h : (0 ≤ p1 → (p1 < (zM m G 784 0) → ((zM m G 788 0) ≠ 2 → (0 ≤ p1 ∧ p1 < 20) ∧ ((zM m G 4 p1) = 0 → ∀ G10 : gH, G10 = gU G 1 (m + 4) p1 1 → GX e b m m_M_ways [(2, (m + 0))] G10 0 0 (fun _ G13 => ((zM m G13 788 0) ≠ 0 → GX e b m m_M_plans [(2, (m + 0))] G13 0 0 (fun v17 G18 => Z v17 G18)) ∧ ((zM m G13 788 0) = 0 → Z 0 G13)))))) ∧ ((p1 < 0 ∨ (0 ≤ p1 ∧ (zM m G 784 0) ≤ p1)) → GX e b m m_M_no [(2, (m + 0)), (0, (-1))] G 0 0 (fun v21 G22 => Z v21 G22)) ∧ (((0 ≤ p1 ∧ p1 < (zM m G 784 0) ∧ (zM m G 788 0) = 2) ∨ (0 ≤ p1 ∧ p1 < (zM m G 784 0) ∧ (zM m G 788 0) ≠ 2 ∧ (zM m G 4 p1) ≠ 0)) → GX e b m m_M_no [(2, (m + 0)), (0, (-6))] G 0 0 (fun v25 G26 => Z v25 G26))) : EX e b m m_M_block Z kc ks 0 [(2, (m + 0)), (0, p1)] [] G := by
  obtain ⟨h, hJ19, hJ23⟩ := h
  have kJ23 : ((0 ≤ p1 ∧ p1 < (zM m G 784 0) ∧ (zM m G 788 0) = 2) ∨ (0 ≤ p1 ∧ p1 < (zM m G 784 0) ∧ (zM m G 788 0) ≠ 2 ∧ (zM m G 4 p1) ≠ 0)) → EX e b m m_M_block Z kc ks 35 [(2, (m + 0)), (0, p1)] [] G := by
    intro rJ23
    have h := hJ23 rJ23
    refine e_aload_n d_M_block_35 rfl ?_
    refine e_bipush d_M_block_36 (by decide) (by decide) ?_
    refine EV.inv fun hFf24 => ?_
    have f24 := (fx_mt 0 rfl hFf24).1
    refine e_callV m_M_no 12 lw_good d_M_block_38 (k_M_no _) ⟨Nat.le_of_ble_eq_true rfl, Nat.le_of_ble_eq_true rfl⟩ w_1569 w_1571 w_s42 (q_M _) rfl f24 (args := [(0, (-6))]) rfl rfl (Nat.le_of_ble_eq_true rfl) (kc' := kc) (ks' := ks) (mc := 0) (ms := 0) rfl rfl h ?_
    intro v25 G26 h
    exact e_iret d_M_block_41 rfl h
  have kJ19 : (p1 < 0 ∨ (0 ≤ p1 ∧ (zM m G 784 0) ≤ p1)) → EX e b m m_M_block Z kc ks 12 [(2, (m + 0)), (0, p1)] [] G := by
    intro rJ19
    have h := hJ19 rJ19
    refine e_aload_n d_M_block_12 rfl ?_
    refine e_iconst d_M_block_13 (by decide) ?_
    refine EV.inv fun hFf20 => ?_
    have f20 := (fx_mt 0 rfl hFf20).1
    refine e_callV m_M_no 12 lw_good d_M_block_14 (k_M_no _) ⟨Nat.le_of_ble_eq_true rfl, Nat.le_of_ble_eq_true rfl⟩ w_1569 w_1571 w_s42 (q_M _) rfl f20 (args := [(0, (-1))]) rfl rfl (Nat.le_of_ble_eq_true rfl) (kc' := kc) (ks' := ks) (mc := 0) (ms := 0) rfl rfl h ?_
    intro v21 G22 h
    exact e_iret d_M_block_17 rfl h
  refine e_iload_n d_M_block_0 rfl ?_
  refine e_if_lt (tgt := 12) d_M_block_1 (by decide) (fun q1 => ?_) (fun q2 => ?_)
  · exact kJ19 (Or.inl q1)
  · have h := h q2
    refine e_iload_n d_M_block_4 rfl ?_
    refine e_aload_n d_M_block_5 rfl ?_
    refine gx_M_168 d_M_block_6 rfl ?_
    refine e_icmp_lt (tgt := 18) d_M_block_9 (by decide) (fun q3 => ?_) (fun q4 => ?_)
    · have h := h q3
      refine e_aload_n d_M_block_18 rfl ?_
      refine gx_M_165 d_M_block_19 rfl ?_
      refine e_iconst d_M_block_22 (by decide) ?_
      refine e_icmp_eq (tgt := 35) d_M_block_23 (by decide) (fun q5 => ?_) (fun q6 => ?_)
      · exact kJ23 (Or.inl ⟨q2, q3, q5⟩)
      · have h := h q6
        refine e_aload_n d_M_block_26 rfl ?_
        refine gx_M_23 d_M_block_27 rfl ?_
        refine e_iload_n d_M_block_30 rfl ?_
        obtain ⟨o7, h⟩ := h
        refine xM_zald 4 rfl d_M_block_31 o7 ?_
        refine e_if_eq (tgt := 42) d_M_block_32 (by decide) (fun q8 => ?_) (fun q9 => ?_)
        · have h := h q8
          refine e_aload_n d_M_block_42 rfl ?_
          refine gx_M_23 d_M_block_43 rfl ?_
          refine e_iload_n d_M_block_46 rfl ?_
          refine e_iconst d_M_block_47 (by decide) ?_
          refine xM_zast 4 rfl d_M_block_48 o7 (by decide) ?_
          let G10 : gH := gU G 1 (m + 4) p1 1
          have h := h G10 rfl
          refine e_aload_n d_M_block_49 rfl ?_
          refine EV.inv fun hFf11 => ?_
          have f11 := (fx_mt 0 rfl hFf11).1
          refine e_callV m_M_ways 12 lw_good d_M_block_50 (k_M_ways _) ⟨Nat.le_of_ble_eq_true rfl, Nat.le_of_ble_eq_true rfl⟩ w_1573 w_1575 w_s43 (q_M _) rfl f11 (args := []) rfl rfl (Nat.le_of_ble_eq_true rfl) (kc' := kc) (ks' := ks) (mc := 0) (ms := 0) rfl rfl h ?_
          intro v12 G13 h
          refine e_aload_n d_M_block_53 rfl ?_
          refine gx_M_165 d_M_block_54 rfl ?_
          refine e_if_ne (tgt := 64) d_M_block_57 (by decide) (fun q14 => ?_) (fun q15 => ?_)
          · have h := h.1 q14
            refine e_aload_n d_M_block_64 rfl ?_
            refine EV.inv fun hFf16 => ?_
            have f16 := (fx_mt 0 rfl hFf16).1
            refine e_callV m_M_plans 12 lw_good d_M_block_65 (k_M_plans _) ⟨Nat.le_of_ble_eq_true rfl, Nat.le_of_ble_eq_true rfl⟩ w_1616 w_1618 w_s48 (q_M _) rfl f16 (args := []) rfl rfl (Nat.le_of_ble_eq_true rfl) (kc' := kc) (ks' := ks) (mc := 0) (ms := 0) rfl rfl h ?_
            intro v17 G18 h
            exact e_iret d_M_block_68 rfl h
          · have h := h.2 q15
            refine e_iconst d_M_block_60 (by decide) ?_
            refine e_goto (tgt := 68) d_M_block_61 (by decide) ?_
            exact e_iret d_M_block_68 rfl h
        · exact kJ23 (Or.inr ⟨q2, q3, q6, q9⟩)
    · exact kJ19 (Or.inr ⟨q2, q4⟩)
theorem l_M_ways {e : gE} {b : Nat} {m : Int} {Z : Int → gH → Prop} {kc ks : Nat} {G0 : gH} (A : zA) (hB : zB 512 A) (K : ∀ G1, zM m G1 = zWs A → zC m G0 G1 → Z 0 G1) : ∀ (n : Nat) (G : gH), zWI A G0 m G → zPhi (zM m G 6) < n → EX e b m m_M_ways Z kc ks 31 [(2, (m + 0)), (0, 1), (9, 0), (9, 0), (9, 0), (9, 0)] [] G := by
  have bd : 0 ≤ A 784 0 ∧ A 784 0 ≤ 20 := hB 784 0
  intro n
  induction n with
  | zero => intro G hI hn; have := zPhi_b hI.2.2; omega
  | succ n ih =>
    intro G hI hn
    refine sg_M_ways_31 ⟨fun q => absurd q (by decide), fun _ => ?_⟩
    refine zloop (P := fun i => ∀ (x : Int) (G1 : gH), zWI A G0 m G1 → ((x = 0 ∧ ∀ j, 0 ≤ j → j < i → zOkE A (zM m G1 6) j) ∨ (x = 1 ∧ zPhi (zM m G1 6) < n)) → zPhi (zM m G1 6) ≤ n → EX e b m m_M_ways Z kc ks 39 [(2, (m + 0)), (0, x), (0, i), (9, 0), (9, 0), (9, 0)] [] G1) (i := 0) (2 * A 784 0) (by omega) ?_ ?_ 0 G hI (Or.inl ⟨rfl, fun j h1 h2 => by omega⟩) (by omega)
    · intro x G1 hI1 hx hp
      refine sg_M_ways_39 ?_
      rw [hI1.2.1 784 0 (Or.inl (by decide))]
      refine ⟨⟨by omega, fun _ => ?_, fun q => absurd q (by omega)⟩, fun q => absurd q (by omega), fun q => absurd q (by omega), fun q => absurd q (by omega), fun q => absurd q (by omega)⟩
      rcases hx with ⟨hx, hok⟩ | ⟨hx, hp2⟩
      · subst hx
        refine sg_M_ways_31 ⟨fun _ => K G1 ?_ hI1.1, fun q => absurd rfl q⟩
        have hW := zOk_W hI1.2.2 hok
        funext k i
        by_cases q : k = 6 ∧ 0 ≤ i ∧ i < 12
        · obtain ⟨q1, q2⟩ := q
          subst q1
          exact (zWay_u hW q2).trans (zV_in q2).symm
        · rw [hI1.2.1 k i (by omega)]
          exact (if_neg q).symm
      · subst hx
        exact ih G1 hI1 hp2
    · intro j h1 h2 st x G1 hI1 hx hp
      have bA : 0 ≤ A 1 (j / 2) ∧ A 1 (j / 2) ≤ 11 := hB 1 (j / 2)
      have bB : 0 ≤ A 2 (j / 2) ∧ A 2 (j / 2) ≤ 11 := hB 2 (j / 2)
      have bM : 0 ≤ A 3 (j / 2) ∧ A 3 (j / 2) ≤ 9 := hB 3 (j / 2)
      have upd : ∀ a r, (0 ≤ a ∧ a < 12) → (0 ≤ r ∧ r < 12) → zEdge A a r (A 3 (j / 2)) → zM m G1 6 a ≠ -1 → (zM m G1 6 r = -1 ∨ zM m G1 6 a + A 3 (j / 2) < zM m G1 6 r) → EX e b m m_M_ways Z kc ks 39 [(2, (m + 0)), (0, 1), (0, j + 1), (9, 0), (9, 0), (9, 0)] [] (gU G1 1 (m + 6) r (zM m G1 6 a + A 3 (j / 2))) := by
        intro a r ha hr he hf hl
        have eF : zM m (gU G1 1 (m + 6) r (zM m G1 6 a + A 3 (j / 2))) = zU (zM m G1) 6 r (zM m G1 6 a + A 3 (j / 2)) := zM_u6
        have hu := zJ_u (F' := zM m (gU G1 1 (m + 6) r (zM m G1 6 a + A 3 (j / 2))) 6) hI1.2.2 ha hr hf he bM hl (fun i => by rw [eF]; unfold zU; simp)
        refine st 1 _ ⟨zC_u hI1.1 (by decide), fun k i q => ?_, hu.1⟩ (Or.inr ⟨rfl, by omega⟩) (by omega)
        rw [eF]
        refine Eq.trans (if_neg (fun z => ?_)) (hI1.2.1 k i q)
        rcases q with q | q
        · exact q z.1
        · exact q (by rw [z.2]; exact hr)
      have keep : zOkE A (zM m G1 6) j → EX e b m m_M_ways Z kc ks 39 [(2, (m + 0)), (0, x), (0, j + 1), (9, 0), (9, 0), (9, 0)] [] G1 := by
        intro ok
        refine st x G1 hI1 ?_ hp
        rcases hx with ⟨hx, hok⟩ | hx
        · refine Or.inl ⟨hx, fun i q1 q2 => ?_⟩
          by_cases q : i = j
          · rw [q]; exact ok
          · exact hok i q1 (by omega)
        · exact Or.inr hx
      have fA : zM m G1 6 (A 1 (j / 2)) ≠ -1 → 0 ≤ zM m G1 6 (A 1 (j / 2)) ∧ zM m G1 6 (A 1 (j / 2)) ≤ 99 := zJ_b hI1.2.2 (by omega)
      have fB : zM m G1 6 (A 2 (j / 2)) ≠ -1 → 0 ≤ zM m G1 6 (A 2 (j / 2)) ∧ zM m G1 6 (A 2 (j / 2)) ≤ 99 := zJ_b hI1.2.2 (by omega)
      refine sg_M_ways_39 ?_
      rw [hI1.2.1 784 0 (Or.inl (by decide)), hI1.2.1 4 (j / 2) (Or.inl (by decide)), hI1.2.1 1 (j / 2) (Or.inl (by decide)), hI1.2.1 2 (j / 2) (Or.inl (by decide)), hI1.2.1 3 (j / 2) (Or.inl (by decide))]
      refine ⟨⟨by omega, fun q => absurd q (by omega), fun _ => ⟨h1, fun o => ⟨by omega, fun q1 => ⟨by omega, fun q2 => ⟨by omega, fun q3 => ?_⟩⟩⟩, fun o => ⟨by omega, fun q1 => ⟨by omega, fun q2 => ⟨by omega, fun q3 => ?_⟩⟩⟩⟩⟩, fun q => ?_, fun q => ?_, fun q => ?_, fun q => ?_⟩
      · have := fA q3; have := fB q2; omega
      · have := fA q2; have := fB q3; omega
      · have q1 : zM m G1 6 (A 2 (j / 2)) ≠ -1 := by omega
        have := fB q1
        refine ⟨by omega, by omega, by omega, by omega, ?_⟩
        rintro _ rfl
        exact ⟨by omega, upd _ _ (by omega) (by omega) ⟨j / 2, by omega, by omega, rfl, Or.inr ⟨rfl, rfl⟩⟩ q1 (by omega)⟩
      · have q1 : zM m G1 6 (A 1 (j / 2)) ≠ -1 := by omega
        have := fA q1
        refine ⟨by omega, by omega, by omega, by omega, ?_⟩
        rintro _ rfl
        exact ⟨by omega, upd _ _ (by omega) (by omega) ⟨j / 2, by omega, by omega, rfl, Or.inl ⟨rfl, rfl⟩⟩ q1 (by omega)⟩
      · refine ⟨by omega, keep ?_⟩
        unfold zOkE
        omega
      · refine ⟨by omega, keep ?_⟩
        unfold zOkE
        omega
theorem zJ_0 {A : zA} {F : Int → Int} (h0 : F 0 = 0) (h : ∀ r, 0 < r → r < 12 → F r = -1) : zJ A F := by
  have c : zCnt F = 1 := by
    have : zCnt F = zCnt (fun r => if r = 0 then 0 else -1) := zS_eq 12 (by decide) (fun i q1 q2 => by
      show (if F i = -1 then (0 : Int) else 1) = if (if i = 0 then (0 : Int) else -1) = -1 then 0 else 1
      by_cases q : i = 0
      · rw [q, h0]; rfl
      · rw [h i (by omega) q2, if_neg q])
    rw [this]
    decide
  refine ⟨h0, fun r h1 h2 => ?_⟩
  by_cases q : r = 0
  · subst q
    exact Or.inr ⟨by rw [h0, c]; decide, 0, rfl, h0⟩
  · exact Or.inl (h r (by omega) h2)
theorem c_M_ways {e : gE} {b : Nat} {m : Int} {G : gH} (h : zB 512 (zM m G)) : GX e b m m_M_ways [(2, (m + 0))] G 0 0 (fun _ G1 => zM m G1 = zWs (zM m G) ∧ zC m G G1) := by
  refine GM.ofEV (by decide) (Nat.le_of_ble_eq_true rfl) (sg_M_ways_0 ?_)
  refine zloop (P := fun i => ∀ G1, zM m G1 = zV (zM m G) 6 0 i (fun r => if r = 0 then 0 else -1) → zC m G G1 → EX e b m m_M_ways _ _ _ 2 [(2, (m + 0)), (0, i), (9, 0), (9, 0), (9, 0), (9, 0)] [] G1) (i := 0) 12 (by decide) ?_ ?_ G zV_0.symm zC_r
  · intro G1 h1 h2
    refine sg_M_ways_2 ⟨fun _ => ?_, fun q => absurd q (by decide)⟩
    refine l_M_ways (G0 := G) (zM m G) h (fun G2 h3 h4 => ⟨h3, h4⟩) ((zPhi (zM m G1 6)).toNat + 1) G1 ⟨h2, fun k i q => ?_, ?_⟩ (by omega)
    · rw [h1]
      exact if_neg (by omega)
    · rw [h1]
      refine zJ_0 ?_ (fun r q1 q2 => ?_)
      · rw [zV_in (by decide)]; rfl
      · rw [zV_in (by omega), if_neg (by omega)]
  · intro j j1 j2 st G1 h1 h2
    refine sg_M_ways_2 ⟨fun q => absurd q (by omega), fun _ => ⟨fun q => ⟨by omega, ?_⟩, fun q => ⟨by omega, ?_⟩⟩⟩
    · rintro _ rfl
      exact ⟨by omega, st _ (by rw [zM_u6, h1, zV_s j1 (by rw [if_neg q])]) (zC_u h2 (by decide))⟩
    · rintro _ rfl
      exact ⟨by omega, st _ (by rw [zM_u6, h1, zV_s j1 (by rw [if_pos q])]) (zC_u h2 (by decide))⟩
