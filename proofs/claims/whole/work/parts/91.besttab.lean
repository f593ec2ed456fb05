/-! TABLES over sets: what they hold -/
/-- the greatest of what a set may have -/
def zTb (n : Int) (f : Int → Int) (V : Int → Int → Prop) : Prop := ∀ s, 0 ≤ s → s < zp2 n → (f s = (-4611686018427387904) ∧ ∀ v, ¬ V s v) ∨ (V s (f s) ∧ ∀ v, V s v → v ≤ f s)
def zVb (n B : Int) (V : Int → Int → Prop) : Prop := ∀ s v, 0 ≤ s → s < zp2 n → V s v → -B ≤ v ∧ v ≤ B
/-- the cuts of a set in two, with what both parts have -/
def zCu (V U : Int → Int → Prop) (s v : Int) : Prop := ∃ q, zPr q s ∧ ∃ x y, V q x ∧ U (gxor s q) y ∧ v = x + y
theorem zTb_ot {n B : Int} {f : Int → Int} {V : Int → Int → Prop} (h : zTb n f V) (hV : zVb n B V) (hB : B ≤ 1152921504606846976) : zOt n f := fun s s1 s2 => by
  rcases h s s1 s2 with w | w
  · exact Or.inl w.1
  · have := hV s _ s1 s2 w.1
    exact Or.inr ⟨by omega, by omega⟩
theorem zTb_join {n B C : Int} {f g h : Int → Int} {V U : Int → Int → Prop} (hn : n ≤ 8) (hf : zTb n f V) (hg : zTb n g U) (hV : zVb n B V) (hU : zVb n C U) (hb : B + C < 4611686018427387904 ∧ 0 ≤ B ∧ 0 ≤ C) (hj : zJn n f g h) : zTb n h (zCu V U) := fun s s1 s2 => by
  have b8 := zp2_b hn
  have hs : 0 ≤ s ∧ s < 256 := ⟨s1, by omega⟩
  have cl : ∀ q, zPr q s → (zsm (f q) (g (gxor s q)) = (-4611686018427387904) ∧ ¬ ∃ x y, V q x ∧ U (gxor s q) y) ∨ ((V q (f q) ∧ U (gxor s q) (g (gxor s q)) ∧ zsm (f q) (g (gxor s q)) = f q + g (gxor s q) ∧ (-4611686018427387904) < f q + g (gxor s q)) ∧ ∀ x y, V q x → U (gxor s q) y → x + y ≤ f q + g (gxor s q)) := fun q hq => by
    have w := (zPr_xor hs hq).1.1
    have q1 := hq.1
    rcases hf q q1.1 (by omega) with k | k
    · exact Or.inl ⟨by rw [k.1, zn_sm], fun ⟨x, y, z, _⟩ => k.2 x z⟩
    · rcases hg (gxor s q) w.1 (by omega) with l | l
      · exact Or.inl ⟨by rw [l.1, zsm_n], fun ⟨x, y, _, z⟩ => l.2 y z⟩
      · have b1 := hV q _ q1.1 (by omega) k.1
        have b2 := hU _ _ w.1 (by omega) l.1
        refine Or.inr ⟨⟨k.1, l.1, ?_, by omega⟩, fun x y hx hy => ?_⟩
        · unfold zsm
          rw [if_neg (by omega)]
        · have := k.2 x hx
          have := l.2 y hy
          omega
  obtain ⟨⟨q, hq, e⟩, hm⟩ := hj s s1 s2
  rcases cl q hq with k | k
  · refine Or.inl ⟨by rw [e]; exact k.1, ?_⟩
    rintro v ⟨q', hq', x, y, hx, hy, rfl⟩
    rcases cl q' hq' with l | l
    · exact l.2 ⟨x, y, hx, hy⟩
    · have := hm q' hq'
      rw [e, k.1, l.1.2.2.1] at this
      have := l.1.2.2.2
      omega
  · refine Or.inr ⟨⟨q, hq, f q, g (gxor s q), k.1.1, k.1.2.1, by rw [e]; exact k.1.2.2.1⟩, ?_⟩
    rintro v ⟨q', hq', x, y, hx, hy, rfl⟩
    rcases cl q' hq' with l | l
    · exact absurd ⟨x, y, hx, hy⟩ l.2
    · have h1 := hm q' hq'
      rw [l.1.2.2.1] at h1
      have := l.2 x y hx hy
      omega
theorem zTb_c {n : Int} {f : Int → Int} {V U : Int → Int → Prop} (h : zTb n f V) (e : ∀ s v, 0 ≤ s → s < zp2 n → (V s v ↔ U s v)) : zTb n f U := fun s s1 s2 => by
  rcases h s s1 s2 with k | k
  · exact Or.inl ⟨k.1, fun v z => k.2 v ((e s v s1 s2).2 z)⟩
  · exact Or.inr ⟨(e s _ s1 s2).1 k.1, fun v z => k.2 v ((e s v s1 s2).2 z)⟩
theorem zS_cut {f : Int → Int} {n N : Int} (hn : 0 ≤ n ∧ n ≤ N) (h : ∀ i, n ≤ i → i < N → f i = 0) : zS f N = zS f n := by
  refine zloopI (i := n) (I := fun i => zS f i = zS f n) (P := fun _ => zS f N = zS f n) N hn.2 rfl ?_ (fun q => q) (fun _ _ _ _ q => q)
  intro j h1 h2 hi
  rw [zS_z (by omega) (h j h1 h2), hi]
theorem zMS_n {w : Int → Int} {n s : Int} (hn : 0 ≤ n ∧ n ≤ 8) (hs : 0 ≤ s ∧ s < zp2 n) : zMS w s = zS (fun j => if zb s j then w j else 0) n :=
  zS_cut hn (fun i i1 i2 => if_neg (zb_hi hs i1))
/-! THE PLAN BY BEST as the class finds it -/
/-- what a job is worth with a team: its worth ahead of two bits a thing -/
def zSc (A : zA) (O : Int → Int) (k j : Int) : Int := A 8 (O j) * 4294967296 + (3 - k) * zP4 (O j)
/-- a set does for a team -/
def zDs (A : zA) (O : Int → Int) (n k s : Int) : Prop := ∀ i, 0 ≤ i → i < n → zb s i → A 9 (O i) ≤ A 15 k ∧ zFree A k + zS (fun j => if zb s j then zLen A (O j) else 0) i ≤ zLat A (O i)
def zUk (A : zA) (O : Int → Int) (n k s v : Int) : Prop := zDs A O n k s ∧ v = zMS (zSc A O k) s
/-- a set given to the first teams -/
def zVk (A : zA) (O : Int → Int) (n k s v : Int) : Prop := ∃ g : Int → Int, (∀ j, 0 ≤ j → j < 8 → (zb s j → 0 ≤ g j ∧ g j < k) ∧ (¬ zb s j → g j = -1)) ∧ (∀ i, 0 ≤ i → i < k → ∀ q, 0 ≤ q → q < zp2 n → (∀ j, 0 ≤ j → j < 8 → (zb q j ↔ g j = i)) → zDs A O n i q) ∧ v = zMS (fun j => zSc A O (g j) j) s
theorem zVk_0 {A : zA} {O : Int → Int} {n s v : Int} (hn : n ≤ 8) (hs : 0 ≤ s ∧ s < zp2 n) : zVk A O n 0 s v ↔ (s = 0 ∧ v = 0) := by
  constructor
  · rintro ⟨g, h1, h2, h3⟩
    have e : s = 0 := zb_ext (n := n) hs ⟨by decide, by have := zp2_1 (n := n); omega⟩ (fun j j1 j2 => ⟨fun z => by have := (h1 j j1 (by omega)).1 z; omega, fun z => absurd z (zb_0 j)⟩)
    rw [e, zMS_0] at h3
    exact ⟨e, h3⟩
  · rintro ⟨rfl, rfl⟩
    exact ⟨fun _ => -1, fun j j1 j2 => ⟨fun z => absurd z (zb_0 j), fun _ => rfl⟩, fun i i1 i2 => by omega, zMS_0.symm⟩
theorem zVk_s {A : zA} {O : Int → Int} {n k s v : Int} (hn : n ≤ 8) (hk : 0 ≤ k) (hs : 0 ≤ s ∧ s < zp2 n) : zVk A O n (k + 1) s v ↔ zCu (zVk A O n k) (zUk A O n k) s v := by
  have b8 := zp2_b hn
  have hs2 : 0 ≤ s ∧ s < 256 := ⟨hs.1, by omega⟩
  have e8 : zp2 ((8 : Nat) : Int) = 256 := zp2_8
  constructor
  · rintro ⟨g, h1, h2, h3⟩
    obtain ⟨q, hq, hb⟩ := zmk (fun j => zb s j ∧ g j ≠ k) 8
    rw [e8] at hq
    have hp : zPr q s := zPr_of hq hs2 (fun j j1 j2 z => ((hb j j1 j2).1 z).1)
    have hx := zPr_xor hs2 hp
    have q1 := hp.1
    have x1 := hx.1.1
    have bx : ∀ j, 0 ≤ j → j < 8 → (zb (gxor s q) j ↔ g j = k) := fun j j1 j2 => by
      rw [hx.2 j j1 j2, hb j j1 j2]
      constructor
      · intro z
        by_cases y : g j = k
        · exact y
        · exact absurd ⟨z.1, y⟩ z.2
      · intro z
        refine ⟨?_, fun y => y.2 z⟩
        by_cases y : zb s j
        · exact y
        · have := (h1 j j1 j2).2 y
          omega
    refine ⟨q, hp, _, _, ⟨fun j => if g j = k then -1 else g j, fun j j1 j2 => ⟨fun z => ?_, fun z => ?_⟩, fun i i1 i2 r r1 r2 hr => h2 i i1 (by omega) r r1 r2 (fun j j1 j2 => ?_), rfl⟩, ⟨h2 k hk (by omega) _ x1.1 (by omega) bx, rfl⟩, ?_⟩
    · have w := (hb j j1 j2).1 z
      have w1 := (h1 j j1 j2).1 w.1
      show 0 ≤ (if g j = k then -1 else g j) ∧ (if g j = k then -1 else g j) < k
      rw [if_neg w.2]
      have := w.2
      omega
    · show (if g j = k then -1 else g j) = -1
      by_cases y : g j = k
      · rw [if_pos y]
      · rw [if_neg y]
        exact (h1 j j1 j2).2 (fun x => z ((hb j j1 j2).2 ⟨x, y⟩))
    · rw [hr j j1 j2]
      show (if g j = k then -1 else g j) = i ↔ g j = i
      by_cases y : g j = k
      · rw [if_pos y]; omega
      · rw [if_neg y]
    · rw [h3, zMS_xor hs2 hp]
      rw [zMS_c (s := q) (w' := fun j => zSc A O (if g j = k then -1 else g j) j) (fun j j1 j2 z => by
        show zSc A O (g j) j = zSc A O (if g j = k then -1 else g j) j
        rw [if_neg ((hb j j1 j2).1 z).2])]
      rw [zMS_c (s := gxor s q) (w' := zSc A O k) (fun j j1 j2 z => by
        show zSc A O (g j) j = zSc A O k j
        rw [(bx j j1 j2).1 z])]
  · rintro ⟨q, hp, x, y, ⟨g, h1, h2, h3⟩, ⟨u1, u2⟩, rfl⟩
    have hx := zPr_xor hs2 hp
    have q1 := hp.1
    have x1 := hx.1.1
    have bx : ∀ j, 0 ≤ j → j < 8 → (zb (gxor s q) j ↔ (zb s j ∧ ¬ zb q j)) := hx.2
    refine ⟨fun j => if zb q j then g j else if zb s j then k else -1, fun j j1 j2 => ⟨fun z => ?_, fun z => ?_⟩, fun i i1 i2 r r1 r2 hr => ?_, ?_⟩
    · show 0 ≤ (if zb q j then g j else if zb s j then k else -1) ∧ (if zb q j then g j else if zb s j then k else -1) < k + 1
      by_cases w : zb q j
      · rw [if_pos w]
        have := (h1 j j1 j2).1 w
        omega
      · rw [if_neg w, if_pos z]
        omega
    · show (if zb q j then g j else if zb s j then k else -1) = -1
      rw [if_neg (fun w => z (hp.2 j j1 j2 w)), if_neg z]
    · by_cases z : i = k
      · rw [z] at hr ⊢
        have e : r = gxor s q := zb_ext (n := n) ⟨r1, r2⟩ ⟨x1.1, by omega⟩ (fun j j1 j2 => by
          rw [hr j j1 (by omega), bx j j1 (by omega)]
          show (if zb q j then g j else if zb s j then k else -1) = k ↔ (zb s j ∧ ¬ zb q j)
          by_cases w : zb q j
          · rw [if_pos w]
            have := (h1 j j1 (by omega)).1 w
            exact ⟨fun z => by omega, fun z => absurd w z.2⟩
          · rw [if_neg w]
            by_cases w2 : zb s j
            · rw [if_pos w2]; exact ⟨fun _ => ⟨w2, w⟩, fun _ => rfl⟩
            · rw [if_neg w2]; exact ⟨fun z => by omega, fun z => absurd z.1 w2⟩)
        rw [e]
        exact u1
      · refine h2 i i1 (by omega) r r1 r2 (fun j j1 j2 => ?_)
        rw [hr j j1 j2]
        show (if zb q j then g j else if zb s j then k else -1) = i ↔ g j = i
        by_cases w : zb q j
        · rw [if_pos w]
        · rw [if_neg w, (h1 j j1 j2).2 w]
          by_cases w2 : zb s j
          · rw [if_pos w2]; omega
          · rw [if_neg w2]
    · rw [zMS_xor hs2 hp, h3, u2]
      rw [zMS_c (s := q) (w' := fun j => zSc A O (g j) j) (w := fun j => zSc A O (if zb q j then g j else if zb s j then k else -1) j) (fun j j1 j2 z => by
        show zSc A O (if zb q j then g j else if zb s j then k else -1) j = zSc A O (g j) j
        rw [if_pos z])]
      rw [zMS_c (s := gxor s q) (w' := zSc A O k) (w := fun j => zSc A O (if zb q j then g j else if zb s j then k else -1) j) (fun j j1 j2 z => by
        have := (bx j j1 j2).1 z
        show zSc A O (if zb q j then g j else if zb s j then k else -1) j = zSc A O k j
        rw [if_neg this.2, if_pos this.1])]
