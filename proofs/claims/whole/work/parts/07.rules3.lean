/-! THE RULES, 3: new cells, casts, copies, statics, calls, returns -/
theorem gN_old {G : gH} {t n : Int} {c : Nat} {i j : Int} (h : i ≠ G 9 0 0) (h9 : c ≠ 9) : gN G t n c i j = G c i j := by
  unfold gN
  rw [if_neg h9, if_neg h]
theorem gN_new {G : gH} {t n : Int} {c : Nat} {j : Int} (h9 : c ≠ 9) (h0 : c ≠ 0) : gN G t n c (G 9 0 0) j = 0 := by
  unfold gN
  rw [if_neg h9, if_pos rfl, if_neg h0]
theorem gN_tag {G : gH} {t n : Int} : gN G t n 0 (G 9 0 0) 0 = t := by
  unfold gN
  rw [if_neg (by decide), if_pos rfl, if_pos rfl, if_pos rfl]
theorem gN_len {G : gH} {t n : Int} : gN G t n 0 (G 9 0 0) 1 = n := by
  unfold gN
  rw [if_neg (by decide), if_pos rfl, if_pos rfl, if_neg (by decide), if_pos rfl]
theorem gN_nxt {G : gH} {t n : Int} : gN G t n 9 0 0 = G 9 0 0 + 1 := by
  unfold gN
  rw [if_pos rfl, if_pos ⟨rfl, rfl⟩]
theorem okK_0 (k : Nat) : okK k 0 := ⟨fun _ => by decide, fun _ => by decide, fun _ => by decide, fun _ => Or.inl rfl⟩
theorem gC_new {B : gB} {G : gH} {H H' : Heap} {t n : Int} (hC : gC B G H) (hn : inI n) (hn0 : 0 ≤ n) (hsz : H'.size = H.size + 1) (ho : ∀ q : Nat, q < H.size → H'[q]? = H[q]?) (hcell : gCell B (gN G t n) H' H.size (H.size + 1)) (hinv : ginv B (gN G t n)) : gC B (gN G t n) H' := by
  obtain ⟨c1, c2, c3, c4, c5, c6, c7, c8, -⟩ := hC
  refine ⟨?_, by omega, c3, fun q hq => ?_, fun c i j => ?_, fun q => ?_, fun i hi => ?_, fun i => ?_, hinv⟩
  · rw [gN_nxt, c1, hsz]; omega
  · rw [ho q (by omega)]; exact c4 q hq
  · by_cases h9 : c = 9
    · subst h9
      have : gck B 9 = 9 := rfl
      rw [this]
      exact ⟨fun h => absurd h (by decide), fun h => absurd h (by decide), fun h => absurd h (by decide), fun h => absurd h (by decide)⟩
    · by_cases h : i = G 9 0 0
      · subst h
        by_cases h0 : c = 0
        · subst h0
          have : gck B 0 = 9 := rfl
          rw [this]
          exact ⟨fun h => absurd h (by decide), fun h => absurd h (by decide), fun h => absurd h (by decide), fun h => absurd h (by decide)⟩
        · rw [gN_new h9 h0]; exact okK_0 _
      · rw [gN_old h h9]; exact c5 c i j
  · by_cases h : q = H.size
    · subst h; exact hcell
    · have hne : (q : Int) + 1 ≠ G 9 0 0 := by omega
      by_cases hq : q < H.size
      · exact gCell_congr (c6 q) (fun c j h9 => gN_old hne h9) (ho q hq)
      · have ht0 : gN G t n 0 (q + 1) 0 = 0 := by
          rw [gN_old hne (by decide)]
          by_cases hz : G 0 (q + 1) 0 = 0
          · exact hz
          · have := (c7 _ hz).2; omega
        refine ⟨fun ci r h64 hr ht => ?_, fun ht => ?_, fun ht => ?_, fun ht => ?_, fun ht => ?_, fun ht => ?_, fun ht => ?_⟩ <;> exact absurd (ht0.symm.trans ht) (by omega)
  · rw [gN_nxt]
    by_cases h : i = G 9 0 0
    · subst h; omega
    · rw [gN_old h (by decide)] at hi
      have := c7 i hi
      omega
  · by_cases h : i = G 9 0 0
    · subst h; rw [gN_len]; exact ⟨hn, hn0⟩
    · rw [gN_old h (by decide)]; exact c8 i
section R3
variable {l : Launch} {B : gB} {M : gM} {Z : Int → gH → Prop} {kc ks pc : Nat} {ls rest : List gV} {G : gH}
/-- new -/
theorem e_new (ci : Nat) {idx kc' ks' : Nat} {r : vw_C} {ty : Nat → FieldType} (hd : decode (gcc M) pc = .ok (.new idx, 3)) (hcl : gcls B ci r ty) (hw : Cond.classLink (gy M).cls idx r.1 ∈ gws B) (hw2 : Cond.instantiable r.1 r.2.2 ∈ gws B) (hw3 : Cond.initialized r.1 ∈ gws B) (hkc : kc = kc' + 1) (hks : ks = ks' + r.2.2) (hinv : ginv B G → ginv B (gN G (1 + ci) 0))
    (k : EV l B M Z kc' ks' (pc + 3) ls ((2, G 9 0 0) :: rest) (gN G (1 + ci) 0)) : EV l B M Z kc ks pc ls rest G := by
  intro p e R s m args below meth c H locs cells slots lsr hX h1 h2 hC hL hS hO
  have hK := hX.2.2.2.2.2.2.2.2.2.2.1
  have hKn := hK.1 ci _ hcl.1
  refine W.newcK hX.1 hX.2.1 hX.2.2.2.2.1 (hX.2.2.2.2.2.1 _ hw) (hX.2.2.2.2.2.1 _ hw2) (hX.2.2.2.2.2.1 _ hw3) rfl hd (by omega) (by omega) hKn.2.1 rfl fun H' kC hkC e1 z1 o1 => ?_
  have hn9 : G 9 0 0 = (H.size : Int) + 1 := hC.1
  have hk := k p e R s m args below meth c H' locs (cells + 1) (slots + r.2.2) lsr hX (by omega) (by omega) (gC_new (t := 1 + ci) (n := 0) hC (by decide) (by decide) z1 o1 ?_ (hinv hC.2.2.2.2.2.2.2.2)) hL hS (List.forall_mem_cons.mpr ⟨okV_r.mpr (by omega), hO⟩)
  · rw [List.map_cons, hn9, cV_rn trivial] at hk
    exact hk
  · have ht : gN G (1 + ci) 0 0 ((H.size : Int) + 1) 0 = 1 + ci := by rw [← hn9, gN_tag]
    have h64 := hcl.2.2.2.2.2.1
    refine ⟨fun ci' r' _ hr' ht' => ?_, fun h => ?_, fun h => ?_, fun h => ?_, fun h => ?_, fun h => ?_, fun h => ?_⟩
    · have hci : ci' = ci := by rw [ht] at ht'; omega
      subst hci
      have er : r' = r := Option.some.inj (hr'.symm.trans hcl.1)
      subst er
      refine ⟨_, hcl.1, (u_born ty hX.2.2.2.2.2.1 hcl.2.1 hKn hkC e1 hcl.2.2.1).to fun j hj => ?_⟩
      unfold vp_V
      rw [List.getD_eq_getElem?_getD, gF_get hj, ← hn9, gN_new (by unfold gfid; omega) (by unfold gfid; omega)]
      rcases hcl.2.2.2.2.2.2 j hj with ⟨h1, h2⟩ | ⟨h1, h2⟩ | ⟨h1, h2⟩ | ⟨⟨n, h1⟩, h2⟩ | ⟨⟨n, h1⟩, h2⟩ <;> (rw [h1, h2]; rfl)
    all_goals (rw [ht] at h; exact absurd h (by omega))
theorem bsz {n m : Int} (h0 : 0 ≤ n) (h : n * m ≤ 536870912) (hm : m = 4 ∨ m = 8 ∨ m = 1) : n.toNat * m.toNat ≤ 536870912 := by
  rcases hm with rfl | rfl | rfl <;> simp <;> omega
theorem e_newi {n : Int} {kc' ks' : Nat} (hd : decode (gcc M) pc = .ok (.newarray .int, 2)) (hw : Cond.arrayClass .int ∈ gws B) (hn0 : 0 ≤ n) (hnb : n * 4 ≤ 536870912) (hkc : kc = kc' + 1) (hks : ks = ks' + n.toNat) (hinv : ginv B G → ginv B (gN G 100 n))
    (k : EV l B M Z kc' ks' (pc + 2) ls ((2, G 9 0 0) :: rest) (gN G 100 n)) : EV l B M Z kc ks pc ls ((0, n) :: rest) G := by
  intro p e R s m args below meth c H locs cells slots lsr hX h1 h2 hC hL hS hO
  have hn := okV_i.mp (List.forall_mem_cons.mp hO).1
  have hn9 : G 9 0 0 = (H.size : Int) + 1 := hC.1
  refine va_newaK (atype := .int) hX.1 hX.2.1 (hX.2.2.2.2.2.1 _ hw) rfl hd rfl (by rw [Int32.lt_iff_toInt_lt, tiI hn, Int32.toInt_zero]; omega) (ixI hn0 hn) (by show n.toNat * 4 ≤ 536870912; omega) (by omega) (by omega) rfl fun H' cA e1 z1 o1 hA hf => ?_
  have hcA : cA = gn B 1 := Option.some.inj (hf.symm.trans (hX.2.2.2.2.2.2.2.2.2.2.1.2 0 _ rfl).2)
  subst hcA
  have ht : gN G 100 n 0 ((H.size : Int) + 1) 0 = 100 := by rw [← hn9, gN_tag]
  have hk := k p e R s m args below meth c H' locs (cells + 1) (slots + n.toNat) lsr hX (by omega) (by omega) (gC_new (t := 100) (n := n) hC hn hn0 z1 o1 ⟨fun ci r h64 hr ht2 => absurd (ht.symm.trans ht2) (by omega), fun _ => ?_, fun ht2 => absurd (ht.symm.trans ht2) (by omega), fun ht2 => absurd (ht.symm.trans ht2) (by omega), fun ht2 => absurd (ht.symm.trans ht2) (by omega), fun ht2 => absurd (ht.symm.trans ht2) (by omega), fun ht2 => absurd (ht.symm.trans ht2) (by omega)⟩ (hinv hC.2.2.2.2.2.2.2.2)) hL hS (List.forall_mem_cons.mpr ⟨okV_r.mpr (by omega), (List.forall_mem_cons.mp hO).2⟩)
  · rw [List.map_cons, hn9, cV_rn trivial] at hk
    exact hk
  · show H'[H.size]? = some (vp_cell _ _)
    rw [e1, vp_cell_i, ← hn9, gN_len]
    refine congrArg some (congrArg (arrV _ _) (funext fun j => ?_))
    rw [gN_new (by decide) (by decide)]
    rfl
theorem e_newj {n : Int} {kc' ks' : Nat} (hd : decode (gcc M) pc = .ok (.newarray .long, 2)) (hw : Cond.arrayClass .long ∈ gws B) (hn0 : 0 ≤ n) (hnb : n * 8 ≤ 536870912) (hkc : kc = kc' + 1) (hks : ks = ks' + n.toNat) (hinv : ginv B G → ginv B (gN G 101 n))
    (k : EV l B M Z kc' ks' (pc + 2) ls ((2, G 9 0 0) :: rest) (gN G 101 n)) : EV l B M Z kc ks pc ls ((0, n) :: rest) G := by
  intro p e R s m args below meth c H locs cells slots lsr hX h1 h2 hC hL hS hO
  have hn := okV_i.mp (List.forall_mem_cons.mp hO).1
  have hn9 : G 9 0 0 = (H.size : Int) + 1 := hC.1
  refine va_newaK (atype := .long) hX.1 hX.2.1 (hX.2.2.2.2.2.1 _ hw) rfl hd rfl (by rw [Int32.lt_iff_toInt_lt, tiI hn, Int32.toInt_zero]; omega) (ixI hn0 hn) (by show n.toNat * 8 ≤ 536870912; omega) (by omega) (by omega) rfl fun H' cA e1 z1 o1 hA hf => ?_
  have hcA : cA = gn B 2 := Option.some.inj (hf.symm.trans (hX.2.2.2.2.2.2.2.2.2.2.1.2 1 _ rfl).2)
  subst hcA
  have ht : gN G 101 n 0 ((H.size : Int) + 1) 0 = 101 := by rw [← hn9, gN_tag]
  have hk := k p e R s m args below meth c H' locs (cells + 1) (slots + n.toNat) lsr hX (by omega) (by omega) (gC_new (t := 101) (n := n) hC hn hn0 z1 o1 ⟨fun ci r h64 hr ht2 => absurd (ht.symm.trans ht2) (by omega), fun ht2 => absurd (ht.symm.trans ht2) (by omega), fun _ => ?_, fun ht2 => absurd (ht.symm.trans ht2) (by omega), fun ht2 => absurd (ht.symm.trans ht2) (by omega), fun ht2 => absurd (ht.symm.trans ht2) (by omega), fun ht2 => absurd (ht.symm.trans ht2) (by omega)⟩ (hinv hC.2.2.2.2.2.2.2.2)) hL hS (List.forall_mem_cons.mpr ⟨okV_r.mpr (by omega), (List.forall_mem_cons.mp hO).2⟩)
  · rw [List.map_cons, hn9, cV_rn trivial] at hk
    exact hk
  · show H'[H.size]? = some (vp_cell _ _)
    rw [e1, vp_cell_l, ← hn9, gN_len]
    refine congrArg some (congrArg (arrV _ _) (funext fun j => ?_))
    rw [gN_new (by decide) (by decide)]
    rfl
theorem e_newz {n : Int} {kc' ks' : Nat} (hd : decode (gcc M) pc = .ok (.newarray .boolean, 2)) (hw : Cond.arrayClass .boolean ∈ gws B) (hn0 : 0 ≤ n) (hnb : n * 1 ≤ 536870912) (hkc : kc = kc' + 1) (hks : ks = ks' + n.toNat) (hinv : ginv B G → ginv B (gN G 102 n))
    (k : EV l B M Z kc' ks' (pc + 2) ls ((2, G 9 0 0) :: rest) (gN G 102 n)) : EV l B M Z kc ks pc ls ((0, n) :: rest) G := by
  intro p e R s m args below meth c H locs cells slots lsr hX h1 h2 hC hL hS hO
  have hn := okV_i.mp (List.forall_mem_cons.mp hO).1
  have hn9 : G 9 0 0 = (H.size : Int) + 1 := hC.1
  refine va_newaK (atype := .boolean) hX.1 hX.2.1 (hX.2.2.2.2.2.1 _ hw) rfl hd rfl (by rw [Int32.lt_iff_toInt_lt, tiI hn, Int32.toInt_zero]; omega) (ixI hn0 hn) (by show n.toNat * 1 ≤ 536870912; omega) (by omega) (by omega) rfl fun H' cA e1 z1 o1 hA hf => ?_
  have hcA : cA = gn B 3 := Option.some.inj (hf.symm.trans (hX.2.2.2.2.2.2.2.2.2.2.1.2 2 _ rfl).2)
  subst hcA
  have ht : gN G 102 n 0 ((H.size : Int) + 1) 0 = 102 := by rw [← hn9, gN_tag]
  have hk := k p e R s m args below meth c H' locs (cells + 1) (slots + n.toNat) lsr hX (by omega) (by omega) (gC_new (t := 102) (n := n) hC hn hn0 z1 o1 ⟨fun ci r h64 hr ht2 => absurd (ht.symm.trans ht2) (by omega), fun ht2 => absurd (ht.symm.trans ht2) (by omega), fun ht2 => absurd (ht.symm.trans ht2) (by omega), fun _ => ?_, fun ht2 => absurd (ht.symm.trans ht2) (by omega), fun ht2 => absurd (ht.symm.trans ht2) (by omega), fun ht2 => absurd (ht.symm.trans ht2) (by omega)⟩ (hinv hC.2.2.2.2.2.2.2.2)) hL hS (List.forall_mem_cons.mpr ⟨okV_r.mpr (by omega), (List.forall_mem_cons.mp hO).2⟩)
  · rw [List.map_cons, hn9, cV_rn trivial] at hk
    exact hk
  · show H'[H.size]? = some (vp_cell _ _)
    rw [e1, vp_cell_i, ← hn9, gN_len]
    refine congrArg some (congrArg (arrV _ _) (funext fun j => ?_))
    rw [gN_new (by decide) (by decide)]
    rfl
/-- anewarray: Object (kind 103), Row (kind 104) -/
theorem e_newq (tag : Int) (E : String) {n : Int} {idx kc' ks' : Nat} (hd : decode (gcc M) pc = .ok (.anewarray idx, 3)) (hE : (tag = 103 ∧ E = "java/lang/Object") ∨ (tag = 104 ∧ E = "MuseumFlight$Row")) (hw : Cond.classLink (gy M).cls idx E ∈ gws B) (hw2 : Cond.arrayOver (.object E) ∈ gsoft B) (hn0 : 0 ≤ n) (hnb : n * 4 ≤ 536870912) (hkc : kc = kc' + 1) (hks : ks = ks' + n.toNat) (hinv : ginv B G → ginv B (gN G tag n))
    (k : EV l B M Z kc' ks' (pc + 3) ls ((2, G 9 0 0) :: rest) (gN G tag n)) : EV l B M Z kc ks pc ls ((0, n) :: rest) G := by
  intro p e R s m args below meth c H locs cells slots lsr hX h1 h2 hC hL hS hO
  have hn := okV_i.mp (List.forall_mem_cons.mp hO).1
  have hn9 : G 9 0 0 = (H.size : Int) + 1 := hC.1
  have hix := ixI hn0 hn
  refine W.anew hX.1 hX.2.1 hX.2.2.2.2.1 (hX.2.2.2.2.2.1 _ hw) (gsoft_use hX.2.2.2.2.2.2.2.2.2.2.2 hw2) rfl hd rfl (by rw [Int32.lt_iff_toInt_lt, tiI hn, Int32.toInt_zero]; omega) (by rw [hix]; omega) (by omega) (by rw [hix]; omega) fun cA kA comp f1 f2 f3 f4 => ?_
  rw [hix]
  generalize hH1 : H.push ({ cls := cA, slots := Array.replicate n.toNat .null, vm := .none } : Cell) = H1
  have z1 : H1.size = H.size + 1 := by rw [← hH1, Array.size_push]
  have e1 : H1[H.size]? = some (arrV cA n.toNat (fun _ => .null)) := by rw [← hH1, Array.getElem?_push_size, ← arrV_new]
  have o1 : ∀ q : Nat, q < H.size → H1[q]? = H[q]? := fun q hq => by rw [← hH1, Array.getElem?_push, if_neg (Nat.ne_of_lt hq)]
  have ht : gN G tag n 0 ((H.size : Int) + 1) 0 = tag := by rw [← hn9, gN_tag]
  have hcell : ∀ cB : ClassId, cA = cB → va_at (gD B) (gcl B) (H.size, .inl (cB, (gN G tag n 0 ((H.size : Int) + 1) 1).toNat, .inr (.inr (.inr (.inr fun i : Nat => gq (gN G tag n 3 ((H.size : Int) + 1) i)))))) H1 := by
    rintro cB rfl
    show H1[H.size]? = some (vp_cell _ _)
    rw [e1, vp_cell_q, ← hn9, gN_len]
    refine congrArg some (congrArg (arrV _ _) (funext fun j => ?_))
    rw [gN_new (by decide) (by decide)]
    rfl
  have hk := k p e R s m args below meth c H1 locs (cells + 1) (slots + n.toNat) lsr hX (by omega) (by omega) (gC_new (t := tag) (n := n) hC hn hn0 z1 o1 ?_ (hinv hC.2.2.2.2.2.2.2.2)) hL hS (List.forall_mem_cons.mpr ⟨okV_r.mpr (by omega), (List.forall_mem_cons.mp hO).2⟩)
  · rw [List.map_cons, hn9, cV_rn trivial] at hk
    exact hk
  · rcases hE with ⟨rfl, rfl⟩ | ⟨rfl, rfl⟩
    · obtain ⟨-, -, -, -, -, g4⟩ := (hX.2.2.2.2.2.2.2.2.2.2.1.2 3 _ rfl).2
      exact ⟨fun ci r h64 hr ht2 => absurd (ht.symm.trans ht2) (by omega), fun ht2 => absurd (ht.symm.trans ht2) (by omega), fun ht2 => absurd (ht.symm.trans ht2) (by omega), fun ht2 => absurd (ht.symm.trans ht2) (by omega), fun _ => hcell _ (Option.some.inj (f1.symm.trans g4)), fun ht2 => absurd (ht.symm.trans ht2) (by omega), fun ht2 => absurd (ht.symm.trans ht2) (by omega)⟩
    · obtain ⟨-, -, -, -, -, g4⟩ := (hX.2.2.2.2.2.2.2.2.2.2.1.2 4 _ rfl).2
      exact ⟨fun ci r h64 hr ht2 => absurd (ht.symm.trans ht2) (by omega), fun ht2 => absurd (ht.symm.trans ht2) (by omega), fun ht2 => absurd (ht.symm.trans ht2) (by omega), fun ht2 => absurd (ht.symm.trans ht2) (by omega), fun ht2 => absurd (ht.symm.trans ht2) (by omega), fun _ => hcell _ (Option.some.inj (f1.symm.trans g4)), fun ht2 => absurd (ht.symm.trans ht2) (by omega)⟩
end R3
