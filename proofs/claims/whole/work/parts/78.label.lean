/-! THE CLASS, 29: labels -/
section R78
variable {l : Launch} {B : gB} {M : gM} {Z : Int → gH → Prop} {kc ks pc : Nat} {ls rest : List gV} {G : gH}
/-- invokevirtual on the String constant -/
theorem e_callStr (M' : gM) {idx n mc ms kc' ks' : Nat} {args : List gV} {Z' : Int → gH → Prop} {st : List gV} (hgood : ∀ w ∈ gws B, goodWord w = true) (hd : decode (gcc M) pc = .ok (.invokevirtual idx, 3)) (hlk : gLk B M' n) (hrm : gRm M M') (hw : Cond.methodLink (gy M).cls idx (gy M') ∈ gws B) (hw2 : Cond.instanceMethod (gy M') ∈ gws B) (hw3 : Cond.selects (gy M').cls (gy M') (gy M') ∈ gws B) (hr1 : (gy M').cls = "java/lang/String") (hst : st = args.reverse ++ (2, (gn B 14 : Int) + 1) :: rest) (hn : args.length = n) (hrs : rest.length ≤ 4) (hkc : kc = kc' + mc) (hks : ks = ks' + ms) (hM : GM l B M' ((2, (gn B 14 : Int) + 1) :: args) G mc ms Z') (k : ∀ (v : Int) (G' : gH), Z' v G' → EV l B M Z kc' ks' (pc + 3) ls (gpush (grt M') v rest) G') : EV l B M Z kc ks pc ls st G := by
  subst hst
  intro p e R s m args9 below meth c H locs cells slots lsr hX h1 h2 hC hL hS hO
  have hcr := gcat rest
  have hok : ∀ x ∈ (2, (gn B 14 : Int) + 1) :: args, okV x := List.forall_mem_cons.mpr ⟨okN _, fun x hx => hO x (List.mem_append_left _ (List.mem_reverse.mpr hx))⟩
  obtain ⟨cell, q1, q2, q3, q4⟩ := (show gSF B s from hX.2.2.2.2.2.2.2.2.2.2.2).2.2.2.2.2.2.2.2.2.2.2.2.1
  have hpre := gPre (args := (2, (gn B 14 : Int) + 1) :: args) hX hok hC
  rw [List.map_cons, cV_rn trivial] at hpre
  have hr := va_runV (C := (gy M').cls) (b := gn B 14) (As := args.map cV) (rest := rest.map cV) (g := F0 m pc lsr ((args.reverse ++ (2, (gn B 14 : Int) + 1) :: rest).map cV)) (cells := cells) (slots := slots) (locs := locs) (H := H) (below := below) (e := e) (meth := meth) (l := l) (p := p) ⟨hX.1, hX.2.1, hX.2.2.1, hX.2.2.2.2.1, hX.2.2.2.2.2.1⟩ hM ⟨gcallB hX hgood hlk hrm hw, hX.2.2.2.2.2.1 _ hw2, hX.2.2.2.2.2.1 _ hw3⟩ ⟨pc_blind, ⟨cell, by rw [gC_low hC q4]; exact q1, q2, by rw [hr1]; exact q3⟩, fun U hU hW => by
      have := hpre.2 U hU hW
      rw [List.map_cons, cV_rn trivial]
      exact this⟩ rfl (by rw [List.length_map, hn]) hS.1 (by show List.map cV (args.reverse ++ _) = _; rw [List.map_append, List.map_reverse, List.map_cons, cV_rn trivial]) (by show 2 * 0 + _ ≤ 8; omega) hd ⟨by omega, by omega⟩
  exact e_back hr rfl hX hkc hks h1 h2 hL hS (fun x hx => hO x (List.mem_append_right _ (List.mem_cons_of_mem _ hx))) hlk.2.2.2.2 k
theorem gcat1 (r : List gV) (h : (Nat.ble r.length 8 && r.all (fun x => !(Nat.beq x.1 1))) = true) : ((r.map cV).map fun v => v.category).sum ≤ 8 := by
  rw [Bool.and_eq_true] at h
  have h1 := Nat.le_of_ble_eq_true h.1
  have h2 : ∀ r : List gV, (r.all (fun x => !(Nat.beq x.1 1))) = true → ((r.map cV).map fun v => v.category).sum ≤ r.length := by
    intro r
    induction r with
    | nil => exact fun _ => Nat.le_refl _
    | cons x r ih =>
      intro q
      rw [List.all_cons, Bool.and_eq_true] at q
      have w := ih q.2
      have n1 : ¬ x.1 = 1 := fun z => by rw [z] at q; exact absurd q.1 (by decide)
      have hx : (cV x).category = 1 := by
        unfold cV
        by_cases z : x.1 = 0
        · rw [if_pos z]; rfl
        · rw [if_neg z, if_neg n1]
          split <;> rfl
      simp only [List.map_cons, List.sum_cons, List.length_cons] at w ⊢
      omega
  exact Nat.le_trans (h2 r h.2) h1
theorem e_callV5 (M' : gM) (ci : Nat) {idx n mc ms kc' ks' : Nat} {r : vw_C} {ty : Nat → FieldType} {args : List gV} {a : Int} {Z' : Int → gH → Prop} {st : List gV} (hgood : ∀ w ∈ gws B, goodWord w = true) (hd : decode (gcc M) pc = .ok (.invokevirtual idx, 3)) (hlk : gLk B M' n) (hrm : gRm M M') (hw : Cond.methodLink (gy M).cls idx (gy M') ∈ gws B) (hw2 : Cond.instanceMethod (gy M') ∈ gws B) (hw3 : Cond.selects (gy M').cls (gy M') (gy M') ∈ gws B) (hcl : gcls B ci r ty) (hr1 : r.1 = (gy M').cls) (ht : G 0 a 0 = 1 + ci) (hst : st = args.reverse ++ (2, a) :: rest) (hn : args.length = n) (hrs : (Nat.ble rest.length 8 && rest.all (fun x => !(Nat.beq x.1 1))) = true) (hkc : kc = kc' + mc) (hks : ks = ks' + ms)
    (hM : GM l B M' ((2, a) :: args) G mc ms Z') (k : ∀ (v : Int) (G' : gH), Z' v G' → EV l B M Z kc' ks' (pc + 3) ls (gpush (grt M') v rest) G') : EV l B M Z kc ks pc ls st G := by
  subst hst
  intro p e R s m args9 below meth c H locs cells slots lsr hX h1 h2 hC hL hS hO
  have hcr := gcat1 rest hrs
  obtain ⟨q, rfl, hq0, hqs, -⟩ := gC_addr hC (a := a) (by omega)
  have hok : ∀ x ∈ (2, (q : Int) + 1) :: args, okV x := List.forall_mem_cons.mpr ⟨okN q, fun x hx => hO x (List.mem_append_left _ (List.mem_reverse.mpr hx))⟩
  obtain ⟨r', hr', cell, q1, q2, q3, q4⟩ := (hC.2.2.2.2.2.1 q).1 ci r hcl.2.2.2.2.2.1 hcl.1 ht
  have er : r' = r := Option.some.inj (hr'.symm.trans hcl.1)
  subst er
  have hcls := (hX.2.2.2.2.2.2.2.2.2.2.1.1 ci _ hcl.1).2
  have hpre := gPre (args := (2, (q : Int) + 1) :: args) hX hok hC
  rw [List.map_cons, cV_rn trivial] at hpre
  have hr := va_runV (C := (gy M').cls) (b := q) (As := args.map cV) (rest := rest.map cV) (g := F0 m pc lsr ((args.reverse ++ (2, (q : Int) + 1) :: rest).map cV)) (cells := cells) (slots := slots) (locs := locs) (H := H) (below := below) (e := e) (meth := meth) (l := l) (p := p) ⟨hX.1, hX.2.1, hX.2.2.1, hX.2.2.2.2.1, hX.2.2.2.2.2.1⟩ hM ⟨gcallB hX hgood hlk hrm hw, hX.2.2.2.2.2.1 _ hw2, hX.2.2.2.2.2.1 _ hw3⟩ ⟨pc_blind, ⟨cell, q1, by rw [q3]; rfl, by rw [q2, ← hr1]; exact hcls.1⟩, fun U hU hW => by
      have := hpre.2 U hU hW
      rw [List.map_cons, cV_rn trivial]
      exact this⟩ rfl (by rw [List.length_map, hn]) hS.1 (by show List.map cV (args.reverse ++ _) = _; rw [List.map_append, List.map_reverse, List.map_cons, cV_rn trivial]) (by show 2 * 0 + _ ≤ 8; omega) hd ⟨by omega, by omega⟩
  exact e_back hr rfl hX hkc hks h1 h2 hL hS (fun x hx => hO x (List.mem_append_right _ (List.mem_cons_of_mem _ hx))) hlk.2.2.2.2 k
end R78
set_option maxRecDepth 20000 in
set_option maxHeartbeats 4000000 in
theorem sg_String_checkIndex_0 {e : gE} {b : Nat} {m : Int} {Z : Int → gH → Prop} {kc ks : Nat} {G : gH} {p0 p1 : Int} (h : (0 ≤ p0 ∧ p0 < p1) ∧ Z 0 G) : EX e b m m_String_checkIndex Z kc ks 0 [(0, p0), (0, p1)] [] G := by
  refine e_iload_n d_String_checkIndex_0 rfl ?_
  refine e_iload_n d_String_checkIndex_1 rfl ?_
  refine e_gets "jdk/internal/util/Preconditions" "SIOOBE_FORMATTER" "Ljava/util/function/BiFunction;" (2, (gn (gX e b m) 16 : Int)) (fun s h => h.2.2.2.2.2.2.2.2.2.2.1) (okV_r.mpr (by omega)) d_String_checkIndex_2 w_541 ?_
  obtain ⟨o1, h⟩ := h
  refine e_callS m_PC_checkIndex lw_good d_String_checkIndex_5 (k_PC_checkIndex _) ⟨Nat.le_of_ble_eq_true rfl, Nat.le_of_ble_eq_true rfl⟩ w_543 w_544 (args := [(0, p0), (0, p1), (2, (gn (gX e b m) 16 : Int))]) rfl rfl (Nat.le_of_ble_eq_true rfl) (kc' := kc) (ks' := ks) (mc := 0) (ms := 0) rfl rfl (c_PC_checkIndex o1) (pureK ?_)
  refine e_pop d_String_checkIndex_8 (by simp) ?_
  exact e_vret d_String_checkIndex_9 rfl h
theorem c_String_checkIndex {e : gE} {b : Nat} {m : Int} {G : gH} {p0 p1 : Int} (h1 : 0 ≤ p0 ∧ p0 < p1) : GX e b m m_String_checkIndex [(0, p0), (0, p1)] G 0 0 (fun v9 G9 => v9 = (0 : Int) ∧ G9 = G) := by
  refine GM.ofJ (by decide +kernel) (Nat.le_of_ble_eq_true rfl) (sg_String_checkIndex_0 ?_)
  repeat' (first | apply And.intro | intro _)
  all_goals first | assumption | rfl | omega | (rw [if_pos (by omega)]) | (rw [if_neg (by omega)])
set_option maxRecDepth 20000 in
set_option maxHeartbeats 4000000 in
theorem sg_StringLatin1_charAt_0 {e : gE} {b : Nat} {m : Int} {Z : Int → gH → Prop} {kc ks : Nat} {G : gH} {p1 : Int} (h : (0 ≤ p1 ∧ p1 < 5) ∧ (0 ≤ p1) ∧ (p1 < 5) ∧ (0 ≤ (gand (gt15 p1) 255) ∧ (gand (gt15 p1) 255) < 256) ∧ Z (gand (gt15 p1) 255) G) : EX e b m m_StringLatin1_charAt Z kc ks 0 [(2, ((gn (gX e b m) 15 : Int) + 1)), (0, p1)] [] G := by
  refine e_iload_n d_StringLatin1_charAt_0 rfl ?_
  refine e_aload_n d_StringLatin1_charAt_1 rfl ?_
  refine e_tlen .byte (gn (gX e b m) 15) 5 _ (fun s h => h.2.2.2.2.2.2.2.2.2.2.2.2.2.2.2.1) (by decide) d_StringLatin1_charAt_2 ?_
  obtain ⟨o1, h⟩ := h
  refine e_callS m_String_checkIndex lw_good d_StringLatin1_charAt_3 (k_String_checkIndex _) ⟨Nat.le_of_ble_eq_true rfl, Nat.le_of_ble_eq_true rfl⟩ w_538 w_539 (args := [(0, p1), (0, 5)]) rfl rfl (Nat.le_of_ble_eq_true rfl) (kc' := kc) (ks' := ks) (mc := 0) (ms := 0) rfl rfl (c_String_checkIndex o1) (pureK ?_)
  refine e_aload_n d_StringLatin1_charAt_6 rfl ?_
  refine e_iload_n d_StringLatin1_charAt_7 rfl ?_
  obtain ⟨o2, o3, h⟩ := h
  refine e_tld_b (gn (gX e b m) 15) 5 gt15 (fun s h => h.2.2.2.2.2.2.2.2.2.2.2.2.2.2.2.1) (gt15_in _) d_StringLatin1_charAt_8 o2 (by exact_mod_cast o3) ?_
  refine e_sipush d_StringLatin1_charAt_9 (by decide) (by decide) ?_
  refine e_iand d_StringLatin1_charAt_12 ?_
  obtain ⟨o4, h⟩ := h
  refine e_i2c d_StringLatin1_charAt_13 o4 ?_
  exact e_zret .char d_StringLatin1_charAt_14 rfl (Or.inr ⟨rfl, o4.1, o4.2, gchr o4⟩) h
theorem gt15_a (i : Int) : gand (gt15 i) 255 = gt15 i := by
  unfold gt15
  (repeat' split) <;> decide +kernel
theorem gt15_b (i : Int) : 0 ≤ gt15 i ∧ gt15 i < 256 := by
  unfold gt15
  (repeat' split) <;> decide
theorem c_StringLatin1_charAt {e : gE} {b : Nat} {m : Int} {G : gH} {p1 : Int} (h1 : 0 ≤ p1 ∧ p1 < 5) : GX e b m m_StringLatin1_charAt [(2, ((gn (gX e b m) 15 : Int) + 1)), (0, p1)] G 0 0 (fun v9 G9 => v9 = (gt15 p1 : Int) ∧ G9 = G) := by
  refine GM.ofJ (by decide +kernel) (Nat.le_of_ble_eq_true rfl) (sg_StringLatin1_charAt_0 ?_)
  rw [gt15_a]; exact ⟨h1, h1.1, h1.2, gt15_b _, rfl, rfl⟩
set_option maxRecDepth 20000 in
set_option maxHeartbeats 4000000 in
theorem sg_String_isLatin1_0 {e : gE} {b : Nat} {m : Int} {Z : Int → gH → Prop} {kc ks : Nat} {G : gH} (h : Z 1 G) : EX e b m m_String_isLatin1 Z kc ks 0 [(2, ((gn (gX e b m) 14 : Int) + 1))] [] G := by
  refine e_gets "java/lang/String" "COMPACT_STRINGS" "Z" (0, 1) (fun s h => h.2.2.2.2.2.2.2.2.2.1) (okV_i.mpr (by decide)) d_String_isLatin1_0 w_533 ?_
  refine e_if_eq (tgt := 17) d_String_isLatin1_3 (by decide) (fun q1 => ?_) (fun q2 => ?_)
  · exact absurd q1 (by decide)
  · refine e_aload_n d_String_isLatin1_6 rfl ?_
    refine e_sget "coder" "B" (0, 0) (fun s h => h.2.2.2.2.2.2.2.2.2.2.2.2.2.1) (okV_i.mpr (by decide)) d_String_isLatin1_7 w_1908 ?_
    refine e_if_ne (tgt := 17) d_String_isLatin1_10 (by decide) (fun q3 => ?_) (fun q4 => ?_)
    · exact absurd q3 (by decide)
    · refine e_iconst d_String_isLatin1_13 (by decide) ?_
      refine e_goto (tgt := 18) d_String_isLatin1_14 (by decide) ?_
      exact e_zret .boolean d_String_isLatin1_18 rfl (by decide) h
theorem c_String_isLatin1 {e : gE} {b : Nat} {m : Int} {G : gH} : GX e b m m_String_isLatin1 [(2, ((gn (gX e b m) 14 : Int) + 1))] G 0 0 (fun v9 G9 => v9 = (1 : Int) ∧ G9 = G) := by
  refine GM.ofJ (by decide +kernel) (Nat.le_of_ble_eq_true rfl) (sg_String_isLatin1_0 ?_)
  repeat' (first | apply And.intro | intro _)
  all_goals first | assumption | rfl | omega | (rw [if_pos (by omega)]) | (rw [if_neg (by omega)])
set_option maxRecDepth 20000 in
set_option maxHeartbeats 4000000 in
theorem sg_String_charAt_0 {e : gE} {b : Nat} {m : Int} {Z : Int → gH → Prop} {kc ks : Nat} {G : gH} {p1 : Int} (h : (0 ≤ p1 ∧ p1 < 5) ∧ (0 ≤ (gt15 p1) ∧ (gt15 p1) < 256) ∧ Z (gt15 p1) G) : EX e b m m_String_charAt Z kc ks 0 [(2, ((gn (gX e b m) 14 : Int) + 1)), (0, p1)] [] G := by
  refine e_aload_n d_String_charAt_0 rfl ?_
  refine e_callStr m_String_isLatin1 lw_good d_String_charAt_1 (k_String_isLatin1 _) ⟨Nat.le_of_ble_eq_true rfl, Nat.le_of_ble_eq_true rfl⟩ w_529 w_530 w_531 rfl (args := []) rfl rfl (Nat.le_of_ble_eq_true rfl) (kc' := kc) (ks' := ks) (mc := 0) (ms := 0) rfl rfl (c_String_isLatin1) (pureK ?_)
  refine e_if_eq (tgt := 16) d_String_charAt_4 (by decide) (fun q1 => ?_) (fun q2 => ?_)
  · exact absurd q1 (by decide)
  · refine e_aload_n d_String_charAt_7 rfl ?_
    refine e_sget "value" "[B" (2, ((gn (gX e b m) 15 : Int) + 1)) (fun s h => by rw [cV_rn trivial]; exact h.2.2.2.2.2.2.2.2.2.2.2.2.2.2.1) (okN _) d_String_charAt_8 w_1909 ?_
    refine e_iload_n d_String_charAt_11 rfl ?_
    obtain ⟨o3, h⟩ := h
    refine e_callS m_StringLatin1_charAt lw_good d_String_charAt_12 (k_StringLatin1_charAt _) ⟨Nat.le_of_ble_eq_true rfl, Nat.le_of_ble_eq_true rfl⟩ w_535 w_536 (args := [(2, ((gn (gX e b m) 15 : Int) + 1)), (0, p1)]) rfl rfl (Nat.le_of_ble_eq_true rfl) (kc' := kc) (ks' := ks) (mc := 0) (ms := 0) rfl rfl (c_StringLatin1_charAt o3) (pureK ?_)
    obtain ⟨o4, h⟩ := h
    exact e_zret .char d_String_charAt_15 rfl (Or.inr ⟨rfl, o4.1, o4.2, gchr o4⟩) h
theorem c_String_charAt {e : gE} {b : Nat} {m : Int} {G : gH} {p1 : Int} (h1 : 0 ≤ p1 ∧ p1 < 5) : GX e b m m_String_charAt [(2, ((gn (gX e b m) 14 : Int) + 1)), (0, p1)] G 0 0 (fun v9 G9 => v9 = (gt15 p1 : Int) ∧ G9 = G) := by
  refine GM.ofJ (by decide +kernel) (Nat.le_of_ble_eq_true rfl) (sg_String_charAt_0 ?_)
  exact ⟨h1, gt15_b _, rfl, rfl⟩
set_option maxRecDepth 20000 in
set_option maxHeartbeats 4000000 in
theorem sg_Label_letterAt_0 {e : gE} {b : Nat} {m : Int} {Z : Int → gH → Prop} {kc ks : Nat} {G : gH} {p0 p1 : Int} (h : (G 0 p0 0 = 7) ∧ (G 0 p0 0 = 7) ∧ (zEl G p0) ∧ Z (w32 (if zHs G p0 p1 then G 2 (G 400 p0 0) p1 else 0)) G) : EX e b m m_Label_letterAt Z kc ks 0 [(2, p0), (0, p1)] [] G := by
  refine e_aload_n d_Label_letterAt_0 rfl ?_
  refine e_iload_n d_Label_letterAt_1 rfl ?_
  obtain ⟨o1, o2, o3, h⟩ := h
  refine e_callV m_Row_at 6 lw_good d_Label_letterAt_2 (k_Row_at _) ⟨Nat.le_of_ble_eq_true rfl, Nat.le_of_ble_eq_true rfl⟩ w_519 w_520 w_521 (q_Row _) rfl o1 (args := [(0, p1)]) rfl rfl (Nat.le_of_ble_eq_true rfl) (kc' := kc) (ks' := ks) (mc := 0) (ms := 0) rfl rfl (c_Row_at o2 o3) (pureK ?_)
  refine e_l2i d_Label_letterAt_5 ?_
  exact e_iret d_Label_letterAt_6 rfl h
theorem c_Label_letterAt {e : gE} {b : Nat} {m : Int} {G : gH} {p0 p1 : Int} (h1 : G 0 p0 0 = 7) (h2 : zEl G p0) : GX e b m m_Label_letterAt [(2, p0), (0, p1)] G 0 0 (fun v9 G9 => v9 = (w32 (if zHs G p0 p1 then G 2 (G 400 p0 0) p1 else 0) : Int) ∧ G9 = G) := by
  refine GM.ofEV (by decide) (Nat.le_of_ble_eq_true rfl) (sg_Label_letterAt_0 ?_)
  repeat' (first | apply And.intro | intro _)
  all_goals first | assumption | rfl | omega | (rw [if_pos (by omega)]) | (rw [if_neg (by omega)])
set_option maxRecDepth 20000 in
set_option maxHeartbeats 4000000 in
theorem sg_Label_withDigit_0 {e : gE} {b : Nat} {m : Int} {Z : Int → gH → Prop} {kc ks : Nat} {G : gH} {p0 p1 : Int} (h : ((0 ≤ p1 ∧ p1 ≤ 9) → (p0 ≠ 0 → (p0 ≠ (-1) → (inI (p0 * 10)) ∧ (inI ((p0 * 10) + p1)) ∧ Z ((p0 * 10) + p1) G) ∧ (p0 = (-1) → Z p1 G))) ∧ ((((¬ (0 ≤ p1 ∧ p1 ≤ 9))) ∨ ((0 ≤ p1 ∧ p1 ≤ 9) ∧ p0 = 0)) → Z (-1) G)) : EX e b m m_Label_withDigit Z kc ks 0 [(0, p0), (0, p1)] [] G := by
  obtain ⟨h, hJ9⟩ := h
  have kJ9 : (((¬ (0 ≤ p1 ∧ p1 ≤ 9))) ∨ ((0 ≤ p1 ∧ p1 ≤ 9) ∧ p0 = 0)) → EX e b m m_Label_withDigit Z kc ks 14 [(0, p0), (0, p1)] [] G := by
    intro rJ9
    have h := hJ9 rJ9
    refine e_iconst d_Label_withDigit_14 (by decide) ?_
    exact e_iret d_Label_withDigit_15 rfl h
  refine e_iload_n d_Label_withDigit_0 rfl ?_
  refine e_iconst d_Label_withDigit_1 (by decide) ?_
  refine e_bipush d_Label_withDigit_2 (by decide) (by decide) ?_
  refine e_callSN m_C_within "MuseumFlight" lw_good d_Label_withDigit_4 (k_C_within _) ⟨Nat.le_of_ble_eq_true rfl, Nat.le_of_ble_eq_true rfl⟩ w_572 w_295 (args := [(0, p1), (0, 0), (0, 9)]) rfl rfl (Nat.le_of_ble_eq_true rfl) (kc' := kc) (ks' := ks) (mc := 0) (ms := 0) rfl rfl (c_C_within) (pureK ?_)
  refine e_if_eq (tgt := 14) d_Label_withDigit_7 (by decide) (fun q1 => ?_) (fun q2 => ?_)
  · replace q1 := gb0.mp q1
    exact kJ9 (Or.inl q1)
  · replace q2 := gb1.mp q2
    have h := h q2
    refine e_iload_n d_Label_withDigit_10 rfl ?_
    refine e_if_ne (tgt := 16) d_Label_withDigit_11 (by decide) (fun q3 => ?_) (fun q4 => ?_)
    · have h := h q3
      refine e_iload_n d_Label_withDigit_16 rfl ?_
      refine e_iconst d_Label_withDigit_17 (by decide) ?_
      refine e_icmp_ne (tgt := 25) d_Label_withDigit_18 (by decide) (fun q5 => ?_) (fun q6 => ?_)
      · have h := h.1 q5
        refine e_iload_n d_Label_withDigit_25 rfl ?_
        refine e_bipush d_Label_withDigit_26 (by decide) (by decide) ?_
        obtain ⟨o7, h⟩ := h
        refine e_imul d_Label_withDigit_28 o7 ?_
        refine e_iload_n d_Label_withDigit_29 rfl ?_
        obtain ⟨o8, h⟩ := h
        refine e_iadd d_Label_withDigit_30 o8 ?_
        exact e_iret d_Label_withDigit_31 rfl h
      · have h := h.2 q6
        refine e_iload_n d_Label_withDigit_21 rfl ?_
        refine e_goto (tgt := 31) d_Label_withDigit_22 (by decide) ?_
        exact e_iret d_Label_withDigit_31 rfl h
    · exact kJ9 (Or.inr ⟨q2, q4⟩)
def zWD (n d : Int) : Int := if ¬ (0 ≤ d ∧ d ≤ 9) ∨ n = 0 then -1 else if n = -1 then d else n * 10 + d
theorem c_Label_withDigit {e : gE} {b : Nat} {m : Int} {G : gH} {p0 p1 : Int} (h1 : -1 ≤ p0 ∧ p0 ≤ 1000) : GX e b m m_Label_withDigit [(0, p0), (0, p1)] G 0 0 (fun v9 G9 => v9 = (zWD p0 p1 : Int) ∧ G9 = G) := by
  refine GM.ofEV (by decide) (Nat.le_of_ble_eq_true rfl) (sg_Label_withDigit_0 ?_)
  unfold zWD
  exact ⟨fun q1 q2 => ⟨fun q3 => ⟨by omega, by omega, by rw [if_neg (show ¬ (¬ (0 ≤ p1 ∧ p1 ≤ 9) ∨ p0 = 0) by omega), if_neg q3], rfl⟩, fun q3 => ⟨by rw [if_neg (show ¬ (¬ (0 ≤ p1 ∧ p1 ≤ 9) ∨ p0 = 0) by omega), if_pos q3], rfl⟩⟩, fun q => ⟨by rw [if_pos (show (¬ (0 ≤ p1 ∧ p1 ≤ 9) ∨ p0 = 0) by omega)], rfl⟩⟩
set_option maxRecDepth 20000 in
set_option maxHeartbeats 4000000 in
theorem sg_Label_number_0 {e : gE} {b : Nat} {m : Int} {Z : Int → gH → Prop} {kc ks : Nat} {G : gH} {p1 : Int} (h : ((¬ (0 ≤ p1 ∧ p1 ≤ 4)) → Z (-1) G) ∧ ((0 ≤ p1 ∧ p1 ≤ 4) → (0 ≤ p1 ∧ p1 < 5) ∧ Z (G 1 ((b : Int) + 52) p1) G)) : EX e b m m_Label_number Z kc ks 0 [(2, ((b : Int) + 51)), (0, p1)] [] G := by
  refine e_iload_n d_Label_number_0 rfl ?_
  refine e_iconst d_Label_number_1 (by decide) ?_
  refine e_iconst d_Label_number_2 (by decide) ?_
  refine e_callSN m_C_within "MuseumFlight" lw_good d_Label_number_3 (k_C_within _) ⟨Nat.le_of_ble_eq_true rfl, Nat.le_of_ble_eq_true rfl⟩ w_572 w_295 (args := [(0, p1), (0, 0), (0, 4)]) rfl rfl (Nat.le_of_ble_eq_true rfl) (kc' := kc) (ks' := ks) (mc := 0) (ms := 0) rfl rfl (c_C_within) (pureK ?_)
  refine e_if_eq (tgt := 18) d_Label_number_6 (by decide) (fun q1 => ?_) (fun q2 => ?_)
  · replace q1 := gb0.mp q1
    have h := h.1 q1
    refine e_iconst d_Label_number_18 (by decide) ?_
    exact e_iret d_Label_number_19 rfl h
  · replace q2 := gb1.mp q2
    have h := h.2 q2
    refine e_aload_n d_Label_number_9 rfl ?_
    refine gx_Label_11 d_Label_number_10 rfl ?_
    refine e_iload_n d_Label_number_13 rfl ?_
    obtain ⟨o3, h⟩ := h
    refine xC_iald 51 rfl d_Label_number_14 o3 ?_
    refine e_goto (tgt := 19) d_Label_number_15 (by decide) ?_
    exact e_iret d_Label_number_19 rfl h
theorem c_Label_number {e : gE} {b : Nat} {m : Int} {G : gH} {p1 : Int} : GX e b m m_Label_number [(2, ((b : Int) + 51)), (0, p1)] G 0 0 (fun v9 G9 => v9 = (if 0 ≤ p1 ∧ p1 ≤ 4 then G 1 ((b : Int) + 52) p1 else -1 : Int) ∧ G9 = G) := by
  refine GM.ofEV (by decide) (Nat.le_of_ble_eq_true rfl) (sg_Label_number_0 ?_)
  exact ⟨fun q => ⟨(if_neg q).symm, rfl⟩, fun q => ⟨by omega, (if_pos q).symm, rfl⟩⟩
set_option maxRecDepth 20000 in
set_option maxHeartbeats 4000000 in
theorem sg_Label_readNumber_0 {e : gE} {b : Nat} {m : Int} {Z : Int → gH → Prop} {kc ks : Nat} {G : gH} {p1 p2 p3 : Int} (h : (0 ≤ p3 ∧ p3 < 5) ∧ (∀ G2 : gH, G2 = gU G 1 ((b : Int) + 52) p3 (-1) → EX e b m m_Label_readNumber Z kc ks 13 [(2, ((b : Int) + 51)), (2, p1), (9, 0), (0, p3), (0, p2), (0, 0), (9, 0)] [] G2)) : EX e b m m_Label_readNumber Z kc ks 0 [(2, ((b : Int) + 51)), (2, p1), (0, p2), (0, p3), (9, 0), (9, 0), (9, 0)] [] G := by
  refine e_aload_n d_Label_readNumber_0 rfl ?_
  refine gx_Label_11 d_Label_readNumber_1 rfl ?_
  refine e_iload_n d_Label_readNumber_4 rfl ?_
  refine e_iconst d_Label_readNumber_5 (by decide) ?_
  obtain ⟨o1, h⟩ := h
  refine xC_iast 51 rfl d_Label_readNumber_6 o1 ?_
  let G2 : gH := gU G 1 ((b : Int) + 52) p3 (-1)
  have h := h G2 rfl
  refine e_iload_n d_Label_readNumber_7 rfl ?_
  refine e_istore (ls' := [(2, ((b : Int) + 51)), (2, p1), (0, p2), (0, p3), (0, p2), (9, 0), (9, 0)]) d_Label_readNumber_8 (by decide) rfl ?_
  refine e_iconst d_Label_readNumber_10 (by decide) ?_
  refine e_istore (ls' := [(2, ((b : Int) + 51)), (2, p1), (0, p2), (0, p3), (0, p2), (0, 0), (9, 0)]) d_Label_readNumber_11 (by decide) rfl ?_
  exact e_forget (ls' := [(2, ((b : Int) + 51)), (2, p1), (9, 0), (0, p3), (0, p2), (0, 0), (9, 0)]) ⟨Or.inr rfl, Or.inr rfl, Or.inl rfl, Or.inr rfl, Or.inr rfl, Or.inr rfl, Or.inl rfl, trivial⟩ h
set_option maxRecDepth 20000 in
set_option maxHeartbeats 4000000 in
theorem sg_Label_readNumber_13 {e : gE} {b : Nat} {m : Int} {Z : Int → gH → Prop} {kc ks : Nat} {G : gH} {p1 p3 x4 x5 : Int} (h : (3 ≤ x5 → Z x4 G) ∧ (x5 < 3 → (G 0 p1 0 = 7) ∧ ((G 0 p1 0 = 7) ∧ (((¬ (zHs G p1 x4)) → (0 ≤ p3) ∧ ((p3 < 5) ∧ ((((gt12 p3) ≤ (-1) ∧ (-1) ≤ (gt13 p3)) → (0 ≤ p3 ∧ p3 < 5) ∧ (∀ G15 : gH, G15 = gU G 1 ((b : Int) + 52) p3 (-1) → (inI (x4 + 1)) ∧ (inI (x5 + 1)) ∧ EX e b m m_Label_readNumber Z kc ks 13 [(2, ((b : Int) + 51)), (2, p1), (9, 0), (0, p3), (0, (x4 + 1)), (0, (x5 + 1)), (9, 0)] [] G15)) ∧ ((¬ ((gt12 p3) ≤ (-1) ∧ (-1) ≤ (gt13 p3))) → Z x4 G)))) ∧ (zHs G p1 x4 → (0 ≤ p3 ∧ p3 < 5) ∧ ((zEl G p1) ∧ ((-1 ≤ (G 1 ((b : Int) + 52) p3) ∧ (G 1 ((b : Int) + 52) p3) ≤ 1000) ∧ ((0 ≤ p3) ∧ ((p3 < 5) ∧ ((((gt12 p3) ≤ (zWD (G 1 ((b : Int) + 52) p3) (w32 ((w32 (if zHs G p1 x4 then G 2 (G 400 p1 0) x4 else 0)) - 48))) ∧ (zWD (G 1 ((b : Int) + 52) p3) (w32 ((w32 (if zHs G p1 x4 then G 2 (G 400 p1 0) x4 else 0)) - 48))) ≤ (gt13 p3)) → ∀ G22 : gH, G22 = gU G 1 ((b : Int) + 52) p3 (zWD (G 1 ((b : Int) + 52) p3) (w32 ((w32 (if zHs G p1 x4 then G 2 (G 400 p1 0) x4 else 0)) - 48))) → (inI (x4 + 1)) ∧ (inI (x5 + 1)) ∧ EX e b m m_Label_readNumber Z kc ks 13 [(2, ((b : Int) + 51)), (2, p1), (9, 0), (0, p3), (0, (x4 + 1)), (0, (x5 + 1)), (9, 0)] [] G22) ∧ ((¬ ((gt12 p3) ≤ (zWD (G 1 ((b : Int) + 52) p3) (w32 ((w32 (if zHs G p1 x4 then G 2 (G 400 p1 0) x4 else 0)) - 48))) ∧ (zWD (G 1 ((b : Int) + 52) p3) (w32 ((w32 (if zHs G p1 x4 then G 2 (G 400 p1 0) x4 else 0)) - 48))) ≤ (gt13 p3))) → Z x4 G))))))))))) : EX e b m m_Label_readNumber Z kc ks 13 [(2, ((b : Int) + 51)), (2, p1), (9, 0), (0, p3), (0, x4), (0, x5), (9, 0)] [] G := by
  refine e_iload d_Label_readNumber_13 rfl ?_
  refine e_iconst d_Label_readNumber_15 (by decide) ?_
  refine e_icmp_ge (tgt := 90) d_Label_readNumber_16 (by decide) (fun q1 => ?_) (fun q2 => ?_)
  · have h := h.1 q1
    refine e_iload d_Label_readNumber_90 rfl ?_
    exact e_iret d_Label_readNumber_92 rfl h
  · have h := h.2 q2
    refine e_aload_n d_Label_readNumber_19 rfl ?_
    refine e_iload d_Label_readNumber_20 rfl ?_
    obtain ⟨o3, o4, h⟩ := h
    refine e_callV m_Row_has 6 lw_good d_Label_readNumber_22 (k_Row_has _) ⟨Nat.le_of_ble_eq_true rfl, Nat.le_of_ble_eq_true rfl⟩ w_512 w_513 w_514 (q_Row _) rfl o3 (args := [(0, x4)]) rfl rfl (Nat.le_of_ble_eq_true rfl) (kc' := kc) (ks' := ks) (mc := 0) (ms := 0) rfl rfl (c_Row_has o4) (pureK ?_)
    refine e_if_eq (tgt := 49) d_Label_readNumber_25 (by decide) (fun q5 => ?_) (fun q6 => ?_)
    · replace q5 := gb0.mp q5
      have h := h.1 q5
      refine e_iconst d_Label_readNumber_49 (by decide) ?_
      refine e_istore (ls' := [(2, ((b : Int) + 51)), (2, p1), (9, 0), (0, p3), (0, x4), (0, x5), (0, (-1))]) d_Label_readNumber_50 (by decide) rfl ?_
      refine e_iload d_Label_readNumber_52 rfl ?_
      refine e_gets "MuseumFlight$Label" "LEAST" "[I" (2, ((gn (gX e b m) 12 : Int) + 1)) (fun s h => by rw [cV_rn trivial]; exact h.2.2.2.2.2.1) (okN _) d_Label_readNumber_54 w_573 ?_
      refine e_iload_n d_Label_readNumber_57 rfl ?_
      obtain ⟨o10, o11, h⟩ := h
      refine e_tld_i (gn (gX e b m) 12) 5 gt12 (fun s h => h.2.2.2.2.2.2.1) (gt12_in _) d_Label_readNumber_58 o10 (by exact_mod_cast o11) ?_
      refine e_gets "MuseumFlight$Label" "MOST" "[I" (2, ((gn (gX e b m) 13 : Int) + 1)) (fun s h => by rw [cV_rn trivial]; exact h.2.2.2.2.2.2.2.1) (okN _) d_Label_readNumber_59 w_575 ?_
      refine e_iload_n d_Label_readNumber_62 rfl ?_
      refine e_tld_i (gn (gX e b m) 13) 5 gt13 (fun s h => h.2.2.2.2.2.2.2.2.1) (gt13_in _) d_Label_readNumber_63 o10 (by exact_mod_cast o11) ?_
      refine e_callSN m_C_within "MuseumFlight" lw_good d_Label_readNumber_64 (k_C_within _) ⟨Nat.le_of_ble_eq_true rfl, Nat.le_of_ble_eq_true rfl⟩ w_572 w_295 (args := [(0, (-1)), (0, (gt12 p3)), (0, (gt13 p3))]) rfl rfl (Nat.le_of_ble_eq_true rfl) (kc' := kc) (ks' := ks) (mc := 0) (ms := 0) rfl rfl (c_C_within) (pureK ?_)
      refine e_if_ne (tgt := 73) d_Label_readNumber_67 (by decide) (fun q12 => ?_) (fun q13 => ?_)
      · replace q12 := gb1.mp q12
        have h := h.1 q12
        refine e_aload_n d_Label_readNumber_73 rfl ?_
        refine gx_Label_11 d_Label_readNumber_74 rfl ?_
        refine e_iload_n d_Label_readNumber_77 rfl ?_
        refine e_iload d_Label_readNumber_78 rfl ?_
        obtain ⟨o14, h⟩ := h
        refine xC_iast 51 rfl d_Label_readNumber_80 o14 ?_
        let G15 : gH := gU G 1 ((b : Int) + 52) p3 (-1)
        have h := h G15 rfl
        obtain ⟨o16, h⟩ := h
        refine e_iinc (ls' := [(2, ((b : Int) + 51)), (2, p1), (9, 0), (0, p3), (0, (x4 + 1)), (0, x5), (0, (-1))]) d_Label_readNumber_81 rfl (by decide) o16 rfl ?_
        obtain ⟨o17, h⟩ := h
        refine e_iinc (ls' := [(2, ((b : Int) + 51)), (2, p1), (9, 0), (0, p3), (0, (x4 + 1)), (0, (x5 + 1)), (0, (-1))]) d_Label_readNumber_84 rfl (by decide) o17 rfl ?_
        refine e_goto (tgt := 13) d_Label_readNumber_87 (by decide) ?_
        exact e_forget (ls' := [(2, ((b : Int) + 51)), (2, p1), (9, 0), (0, p3), (0, (x4 + 1)), (0, (x5 + 1)), (9, 0)]) ⟨Or.inr rfl, Or.inr rfl, Or.inl rfl, Or.inr rfl, Or.inr rfl, Or.inr rfl, Or.inl rfl, trivial⟩ h
      · replace q13 := gb0.mp q13
        have h := h.2 q13
        refine e_iload d_Label_readNumber_70 rfl ?_
        exact e_iret d_Label_readNumber_72 rfl h
    · replace q6 := gb1.mp q6
      have h := h.2 q6
      refine e_aload_n d_Label_readNumber_28 rfl ?_
      refine gx_Label_11 d_Label_readNumber_29 rfl ?_
      refine e_iload_n d_Label_readNumber_32 rfl ?_
      obtain ⟨o7, h⟩ := h
      refine xC_iald 51 rfl d_Label_readNumber_33 o7 ?_
      refine e_aload_n d_Label_readNumber_34 rfl ?_
      refine e_iload d_Label_readNumber_35 rfl ?_
      obtain ⟨o8, h⟩ := h
      refine e_callS m_Label_letterAt lw_good d_Label_readNumber_37 (k_Label_letterAt _) ⟨Nat.le_of_ble_eq_true rfl, Nat.le_of_ble_eq_true rfl⟩ w_516 w_517 (args := [(2, p1), (0, x4)]) rfl rfl (Nat.le_of_ble_eq_true rfl) (kc' := kc) (ks' := ks) (mc := 0) (ms := 0) rfl rfl (c_Label_letterAt o4 o8) (pureK ?_)
      refine e_bipush d_Label_readNumber_40 (by decide) (by decide) ?_
      refine e_isubW d_Label_readNumber_42 ?_
      obtain ⟨o9, h⟩ := h
      refine e_callS m_Label_withDigit lw_good d_Label_readNumber_43 (k_Label_withDigit _) ⟨Nat.le_of_ble_eq_true rfl, Nat.le_of_ble_eq_true rfl⟩ w_569 w_570 (args := [(0, (G 1 ((b : Int) + 52) p3)), (0, (w32 ((w32 (if zHs G p1 x4 then G 2 (G 400 p1 0) x4 else 0)) - 48)))]) rfl rfl (Nat.le_of_ble_eq_true rfl) (kc' := kc) (ks' := ks) (mc := 0) (ms := 0) rfl rfl (c_Label_withDigit o9) (pureK ?_)
      refine e_goto (tgt := 50) d_Label_readNumber_46 (by decide) ?_
      refine e_istore (ls' := [(2, ((b : Int) + 51)), (2, p1), (9, 0), (0, p3), (0, x4), (0, x5), (0, (zWD (G 1 ((b : Int) + 52) p3) (w32 ((w32 (if zHs G p1 x4 then G 2 (G 400 p1 0) x4 else 0)) - 48))))]) d_Label_readNumber_50 (by decide) rfl ?_
      refine e_iload d_Label_readNumber_52 rfl ?_
      refine e_gets "MuseumFlight$Label" "LEAST" "[I" (2, ((gn (gX e b m) 12 : Int) + 1)) (fun s h => by rw [cV_rn trivial]; exact h.2.2.2.2.2.1) (okN _) d_Label_readNumber_54 w_573 ?_
      refine e_iload_n d_Label_readNumber_57 rfl ?_
      obtain ⟨o18, o19, h⟩ := h
      refine e_tld_i (gn (gX e b m) 12) 5 gt12 (fun s h => h.2.2.2.2.2.2.1) (gt12_in _) d_Label_readNumber_58 o18 (by exact_mod_cast o19) ?_
      refine e_gets "MuseumFlight$Label" "MOST" "[I" (2, ((gn (gX e b m) 13 : Int) + 1)) (fun s h => by rw [cV_rn trivial]; exact h.2.2.2.2.2.2.2.1) (okN _) d_Label_readNumber_59 w_575 ?_
      refine e_iload_n d_Label_readNumber_62 rfl ?_
      refine e_tld_i (gn (gX e b m) 13) 5 gt13 (fun s h => h.2.2.2.2.2.2.2.2.1) (gt13_in _) d_Label_readNumber_63 o18 (by exact_mod_cast o19) ?_
      refine e_callSN m_C_within "MuseumFlight" lw_good d_Label_readNumber_64 (k_C_within _) ⟨Nat.le_of_ble_eq_true rfl, Nat.le_of_ble_eq_true rfl⟩ w_572 w_295 (args := [(0, (zWD (G 1 ((b : Int) + 52) p3) (w32 ((w32 (if zHs G p1 x4 then G 2 (G 400 p1 0) x4 else 0)) - 48)))), (0, (gt12 p3)), (0, (gt13 p3))]) rfl rfl (Nat.le_of_ble_eq_true rfl) (kc' := kc) (ks' := ks) (mc := 0) (ms := 0) rfl rfl (c_C_within) (pureK ?_)
      refine e_if_ne (tgt := 73) d_Label_readNumber_67 (by decide) (fun q20 => ?_) (fun q21 => ?_)
      · replace q20 := gb1.mp q20
        have h := h.1 q20
        refine e_aload_n d_Label_readNumber_73 rfl ?_
        refine gx_Label_11 d_Label_readNumber_74 rfl ?_
        refine e_iload_n d_Label_readNumber_77 rfl ?_
        refine e_iload d_Label_readNumber_78 rfl ?_
        refine xC_iast 51 rfl d_Label_readNumber_80 o7 ?_
        let G22 : gH := gU G 1 ((b : Int) + 52) p3 (zWD (G 1 ((b : Int) + 52) p3) (w32 ((w32 (if zHs G p1 x4 then G 2 (G 400 p1 0) x4 else 0)) - 48)))
        have h := h G22 rfl
        obtain ⟨o23, h⟩ := h
        refine e_iinc (ls' := [(2, ((b : Int) + 51)), (2, p1), (9, 0), (0, p3), (0, (x4 + 1)), (0, x5), (0, (zWD (G 1 ((b : Int) + 52) p3) (w32 ((w32 (if zHs G p1 x4 then G 2 (G 400 p1 0) x4 else 0)) - 48))))]) d_Label_readNumber_81 rfl (by decide) o23 rfl ?_
        obtain ⟨o24, h⟩ := h
        refine e_iinc (ls' := [(2, ((b : Int) + 51)), (2, p1), (9, 0), (0, p3), (0, (x4 + 1)), (0, (x5 + 1)), (0, (zWD (G 1 ((b : Int) + 52) p3) (w32 ((w32 (if zHs G p1 x4 then G 2 (G 400 p1 0) x4 else 0)) - 48))))]) d_Label_readNumber_84 rfl (by decide) o24 rfl ?_
        refine e_goto (tgt := 13) d_Label_readNumber_87 (by decide) ?_
        exact e_forget (ls' := [(2, ((b : Int) + 51)), (2, p1), (9, 0), (0, p3), (0, (x4 + 1)), (0, (x5 + 1)), (9, 0)]) ⟨Or.inr rfl, Or.inr rfl, Or.inl rfl, Or.inr rfl, Or.inr rfl, Or.inr rfl, Or.inl rfl, trivial⟩ h
      · replace q21 := gb0.mp q21
        have h := h.2 q21
        refine e_iload d_Label_readNumber_70 rfl ?_
        exact e_iret d_Label_readNumber_72 rfl h
set_option maxRecDepth 20000 in
set_option maxHeartbeats 4000000 in
theorem sg_Label_read_0 {e : gE} {b : Nat} {m : Int} {Z : Int → gH → Prop} {kc ks : Nat} {G : gH} {p1 : Int} (h : EX e b m m_Label_read Z kc ks 4 [(2, ((b : Int) + 51)), (2, p1), (0, 0), (0, 0), (9, 0)] [] G) : EX e b m m_Label_read Z kc ks 0 [(2, ((b : Int) + 51)), (2, p1), (9, 0), (9, 0), (9, 0)] [] G := by
  refine e_iconst d_Label_read_0 (by decide) ?_
  refine e_istore_n (ls' := [(2, ((b : Int) + 51)), (2, p1), (0, 0), (9, 0), (9, 0)]) d_Label_read_1 (by decide) rfl ?_
  refine e_iconst d_Label_read_2 (by decide) ?_
  refine e_istore_n (ls' := [(2, ((b : Int) + 51)), (2, p1), (0, 0), (0, 0), (9, 0)]) d_Label_read_3 (by decide) rfl ?_
  exact e_forget (ls' := [(2, ((b : Int) + 51)), (2, p1), (0, 0), (0, 0), (9, 0)]) ⟨Or.inr rfl, Or.inr rfl, Or.inr rfl, Or.inr rfl, Or.inl rfl, trivial⟩ h
set_option maxRecDepth 20000 in
set_option maxHeartbeats 4000000 in
theorem sg_Label_read_4 {e : gE} {b : Nat} {m : Int} {Z : Int → gH → Prop} {kc ks : Nat} {G : gH} {p1 x2 x3 : Int} (h : ((5 ≤ x3 → (G 0 p1 0 = 7) ∧ ((G 0 p1 0 = 7) ∧ (((¬ (zHs G p1 x2)) → Z (-1) G) ∧ (zHs G p1 x2 → Z x2 G)))) ∧ (x3 < 5 → (G 0 p1 0 = 7) ∧ ((G 0 p1 0 = 7) ∧ (zHs G p1 x2 → (zEl G p1) ∧ ((0 ≤ x3 ∧ x3 < 5) ∧ ((w32 (if zHs G p1 x2 then G 2 (G 400 p1 0) x2 else 0)) = (gt15 x3) → (inI (x2 + 1)) ∧ (GX e b m m_Label_readNumber [(2, ((b : Int) + 51)), (2, p1), (0, (x2 + 1)), (0, x3)] G 0 0 (fun v17 G18 => (v17 ≠ (x2 + 1) → (inI (x3 + 1)) ∧ EX e b m m_Label_read Z kc ks 4 [(2, ((b : Int) + 51)), (2, p1), (0, v17), (0, (x3 + 1)), (9, 0)] [] G18) ∧ (v17 = (x2 + 1) → Z v17 G18))))))))) ∧ (((x3 < 5 ∧ (¬ (zHs G p1 x2))) ∨ (x3 < 5 ∧ zHs G p1 x2 ∧ (w32 (if zHs G p1 x2 then G 2 (G 400 p1 0) x2 else 0)) ≠ (gt15 x3))) → Z x2 G)) : EX e b m m_Label_read Z kc ks 4 [(2, ((b : Int) + 51)), (2, p1), (0, x2), (0, x3), (9, 0)] [] G := by
  obtain ⟨h, hJ22⟩ := h
  have kJ22 : ((x3 < 5 ∧ (¬ (zHs G p1 x2))) ∨ (x3 < 5 ∧ zHs G p1 x2 ∧ (w32 (if zHs G p1 x2 then G 2 (G 400 p1 0) x2 else 0)) ≠ (gt15 x3))) → EX e b m m_Label_read Z kc ks 31 [(2, ((b : Int) + 51)), (2, p1), (0, x2), (0, x3), (9, 0)] [] G := by
    intro rJ22
    have h := hJ22 rJ22
    refine e_iload_n d_Label_read_31 rfl ?_
    exact e_iret d_Label_read_32 rfl h
  refine e_iload_n d_Label_read_4 rfl ?_
  refine e_iconst d_Label_read_5 (by decide) ?_
  refine e_icmp_ge (tgt := 64) d_Label_read_6 (by decide) (fun q1 => ?_) (fun q2 => ?_)
  · have h := h.1 q1
    refine e_aload_n d_Label_read_64 rfl ?_
    refine e_iload_n d_Label_read_65 rfl ?_
    obtain ⟨o3, o4, h⟩ := h
    refine e_callV m_Row_has 6 lw_good d_Label_read_66 (k_Row_has _) ⟨Nat.le_of_ble_eq_true rfl, Nat.le_of_ble_eq_true rfl⟩ w_512 w_513 w_514 (q_Row _) rfl o3 (args := [(0, x2)]) rfl rfl (Nat.le_of_ble_eq_true rfl) (kc' := kc) (ks' := ks) (mc := 0) (ms := 0) rfl rfl (c_Row_has o4) (pureK ?_)
    refine e_if_eq (tgt := 76) d_Label_read_69 (by decide) (fun q5 => ?_) (fun q6 => ?_)
    · replace q5 := gb0.mp q5
      have h := h.1 q5
      refine e_iconst d_Label_read_76 (by decide) ?_
      exact e_iret d_Label_read_77 rfl h
    · replace q6 := gb1.mp q6
      have h := h.2 q6
      refine e_iload_n d_Label_read_72 rfl ?_
      refine e_goto (tgt := 77) d_Label_read_73 (by decide) ?_
      exact e_iret d_Label_read_77 rfl h
  · have h := h.2 q2
    refine e_aload_n d_Label_read_9 rfl ?_
    refine e_iload_n d_Label_read_10 rfl ?_
    obtain ⟨o7, o8, h⟩ := h
    refine e_callV m_Row_has 6 lw_good d_Label_read_11 (k_Row_has _) ⟨Nat.le_of_ble_eq_true rfl, Nat.le_of_ble_eq_true rfl⟩ w_512 w_513 w_514 (q_Row _) rfl o7 (args := [(0, x2)]) rfl rfl (Nat.le_of_ble_eq_true rfl) (kc' := kc) (ks' := ks) (mc := 0) (ms := 0) rfl rfl (c_Row_has o8) (pureK ?_)
    refine e_if_eq (tgt := 31) d_Label_read_14 (by decide) (fun q9 => ?_) (fun q10 => ?_)
    · replace q9 := gb0.mp q9
      exact kJ22 (Or.inl ⟨q2, q9⟩)
    · replace q10 := gb1.mp q10
      have h := h q10
      refine e_aload_n d_Label_read_17 rfl ?_
      refine e_iload_n d_Label_read_18 rfl ?_
      obtain ⟨o11, h⟩ := h
      refine e_callS m_Label_letterAt lw_good d_Label_read_19 (k_Label_letterAt _) ⟨Nat.le_of_ble_eq_true rfl, Nat.le_of_ble_eq_true rfl⟩ w_516 w_517 (args := [(2, p1), (0, x2)]) rfl rfl (Nat.le_of_ble_eq_true rfl) (kc' := kc) (ks' := ks) (mc := 0) (ms := 0) rfl rfl (c_Label_letterAt o8 o11) (pureK ?_)
      refine e_ldcS rfl d_Label_read_22 ?_
      refine e_iload_n d_Label_read_24 rfl ?_
      obtain ⟨o12, h⟩ := h
      refine e_callStr m_String_charAt lw_good d_Label_read_25 (k_String_charAt _) ⟨Nat.le_of_ble_eq_true rfl, Nat.le_of_ble_eq_true rfl⟩ w_525 w_526 w_527 rfl (args := [(0, x3)]) rfl rfl (Nat.le_of_ble_eq_true rfl) (kc' := kc) (ks' := ks) (mc := 0) (ms := 0) rfl rfl (c_String_charAt o12) (pureK ?_)
      refine e_icmp_eq (tgt := 33) d_Label_read_28 (by decide) (fun q13 => ?_) (fun q14 => ?_)
      · have h := h q13
        refine e_aload_n d_Label_read_33 rfl ?_
        refine e_aload_n d_Label_read_34 rfl ?_
        refine e_iload_n d_Label_read_35 rfl ?_
        refine e_iconst d_Label_read_36 (by decide) ?_
        obtain ⟨o15, h⟩ := h
        refine e_iadd d_Label_read_37 o15 ?_
        refine e_iload_n d_Label_read_38 rfl ?_
        refine EV.inv fun hFf16 => ?_
        have f16 := (fx_ct 50 rfl hFf16).1
        refine e_callV m_Label_readNumber 3 lw_good d_Label_read_39 (k_Label_readNumber _) ⟨Nat.le_of_ble_eq_true rfl, Nat.le_of_ble_eq_true rfl⟩ w_565 w_567 w_s12 (q_Label _) rfl f16 (args := [(2, p1), (0, (x2 + 1)), (0, x3)]) rfl rfl (Nat.le_of_ble_eq_true rfl) (kc' := kc) (ks' := ks) (mc := 0) (ms := 0) rfl rfl h ?_
        intro v17 G18 h
        refine e_istore (ls' := [(2, ((b : Int) + 51)), (2, p1), (0, x2), (0, x3), (0, v17)]) d_Label_read_42 (by decide) rfl ?_
        refine e_iload d_Label_read_44 rfl ?_
        refine e_iload_n d_Label_read_46 rfl ?_
        refine e_iconst d_Label_read_47 (by decide) ?_
        refine e_iadd d_Label_read_48 o15 ?_
        refine e_icmp_ne (tgt := 55) d_Label_read_49 (by decide) (fun q19 => ?_) (fun q20 => ?_)
        · have h := h.1 q19
          refine e_iload d_Label_read_55 rfl ?_
          refine e_istore_n (ls' := [(2, ((b : Int) + 51)), (2, p1), (0, v17), (0, x3), (0, v17)]) d_Label_read_57 (by decide) rfl ?_
          obtain ⟨o21, h⟩ := h
          refine e_iinc (ls' := [(2, ((b : Int) + 51)), (2, p1), (0, v17), (0, (x3 + 1)), (0, v17)]) d_Label_read_58 rfl (by decide) o21 rfl ?_
          refine e_goto (tgt := 4) d_Label_read_61 (by decide) ?_
          exact e_forget (ls' := [(2, ((b : Int) + 51)), (2, p1), (0, v17), (0, (x3 + 1)), (9, 0)]) ⟨Or.inr rfl, Or.inr rfl, Or.inr rfl, Or.inr rfl, Or.inl rfl, trivial⟩ h
        · have h := h.2 q20
          refine e_iload d_Label_read_52 rfl ?_
          exact e_iret d_Label_read_54 rfl h
      · exact kJ22 (Or.inr ⟨q2, q10, q14⟩)
set_option maxRecDepth 20000 in
set_option maxHeartbeats 4000000 in
theorem sg_C_label_0 {e : gE} {b : Nat} {m : Int} {Z : Int → gH → Prop} {kc ks : Nat} {G : gH} {p1 : Int} (h : ((if zHr b G p1 then G 3 ((b : Int) + 33) p1 else 0) ≠ 0 → GX e b m m_Label_read [(2, ((b : Int) + 51)), (2, (if zHr b G p1 then G 3 ((b : Int) + 33) p1 else 0))] G 0 0 (fun v5 G6 => ∀ G7 : gH, G7 = gU G6 729 ((b : Int) + 1) 0 v5 → ((G7 729 ((b : Int) + 1) 0) = (-1) → ∃ kc18 ks19 mc20 ms21 : Nat, kc = kc18 + mc20 ∧ ks = ks19 + ms21 ∧ GX e b m m_C_addThing [(2, ((b : Int) + 1)), (0, (if 0 ≤ 0 ∧ 0 ≤ 4 then G7 1 ((b : Int) + 52) 0 else -1)), (0, (if 0 ≤ 1 ∧ 1 ≤ 4 then G7 1 ((b : Int) + 52) 1 else -1)), (0, (if 0 ≤ 2 ∧ 2 ≤ 4 then G7 1 ((b : Int) + 52) 2 else -1)), (0, (if 0 ≤ 3 ∧ 3 ≤ 4 then G7 1 ((b : Int) + 52) 3 else -1)), (0, (if 0 ≤ 4 ∧ 4 ≤ 4 then G7 1 ((b : Int) + 52) 4 else -1))] G7 mc20 ms21 (fun v16 G17 => Z v16 G17)) ∧ ((G7 729 ((b : Int) + 1) 0) ≠ (-1) → GX e b m m_C_refuse [(2, ((b : Int) + 1)), (0, (-6))] G7 0 0 (fun v23 G24 => Z v23 G24)))) ∧ ((if zHr b G p1 then G 3 ((b : Int) + 33) p1 else 0) = 0 → GX e b m m_C_refuse [(2, ((b : Int) + 1)), (0, (zWhy b G p1 p1 p1))] G 0 0 (fun v27 G28 => Z v27 G28))) : EX e b m m_C_label Z kc ks 0 [(2, ((b : Int) + 1)), (0, p1), (9, 0)] [] G := by
  refine e_aload_n d_C_label_0 rfl ?_
  refine e_iload_n d_C_label_1 rfl ?_
  refine EV.inv fun hFf1 => ?_
  have f1 := (fx_ct 0 rfl hFf1).1
  refine e_callV m_C_rowIn 11 lw_good d_C_label_2 (k_C_rowIn _) ⟨Nat.le_of_ble_eq_true rfl, Nat.le_of_ble_eq_true rfl⟩ w_482 w_484 w_s7 (q_C _) rfl f1 (args := [(0, p1)]) rfl rfl (Nat.le_of_ble_eq_true rfl) (kc' := kc) (ks' := ks) (mc := 0) (ms := 0) rfl rfl (c_C_rowIn) (pureK ?_)
  refine e_astore_n (ls' := [(2, ((b : Int) + 1)), (0, p1), (2, (if zHr b G p1 then G 3 ((b : Int) + 33) p1 else 0))]) d_C_label_5 (by decide) rfl ?_
  refine e_aload_n d_C_label_6 rfl ?_
  refine e_ifnonnull (tgt := 20) d_C_label_7 (by decide) (fun q2 => ?_) (fun q3 => ?_)
  · have h := h.1 q2
    refine e_aload_n d_C_label_20 rfl ?_
    refine e_aload_n d_C_label_21 rfl ?_
    refine gx_C_70 d_C_label_22 rfl ?_
    refine e_aload_n d_C_label_25 rfl ?_
    refine EV.inv fun hFf4 => ?_
    have f4 := (fx_ct 50 rfl hFf4).1
    refine e_callV m_Label_read 3 lw_good d_C_label_26 (k_Label_read _) ⟨Nat.le_of_ble_eq_true rfl, Nat.le_of_ble_eq_true rfl⟩ w_508 w_509 w_510 (q_Label _) rfl f4 (args := [(2, (if zHr b G p1 then G 3 ((b : Int) + 33) p1 else 0))]) rfl rfl (Nat.le_of_ble_eq_true rfl) (kc' := kc) (ks' := ks) (mc := 0) (ms := 0) rfl rfl h ?_
    intro v5 G6 h
    refine px_C_77 d_C_label_29 rfl ?_
    let G7 : gH := gU G6 729 ((b : Int) + 1) 0 v5
    have h := h G7 rfl
    refine e_aload_n d_C_label_32 rfl ?_
    refine gx_C_77 d_C_label_33 rfl ?_
    refine e_iconst d_C_label_36 (by decide) ?_
    refine e_icmp_eq (tgt := 47) d_C_label_37 (by decide) (fun q8 => ?_) (fun q9 => ?_)
    · have h := h.1 q8
      refine e_aload_n d_C_label_47 rfl ?_
      refine e_aload_n d_C_label_48 rfl ?_
      refine gx_C_70 d_C_label_49 rfl ?_
      refine e_iconst d_C_label_52 (by decide) ?_
      refine EV.inv fun hFf10 => ?_
      have f10 := (fx_ct 50 rfl hFf10).1
      refine e_callV m_Label_number 3 lw_good d_C_label_53 (k_Label_number _) ⟨Nat.le_of_ble_eq_true rfl, Nat.le_of_ble_eq_true rfl⟩ w_577 w_578 w_579 (q_Label _) rfl f10 (args := [(0, 0)]) rfl rfl (Nat.le_of_ble_eq_true rfl) (kc' := kc) (ks' := ks) (mc := 0) (ms := 0) rfl rfl (c_Label_number) (pureK ?_)
      refine e_aload_n d_C_label_56 rfl ?_
      refine gx_C_70 d_C_label_57 rfl ?_
      refine e_iconst d_C_label_60 (by decide) ?_
      refine EV.inv fun hFf11 => ?_
      have f11 := (fx_ct 50 rfl hFf11).1
      refine e_callV m_Label_number 3 lw_good d_C_label_61 (k_Label_number _) ⟨Nat.le_of_ble_eq_true rfl, Nat.le_of_ble_eq_true rfl⟩ w_577 w_578 w_579 (q_Label _) rfl f11 (args := [(0, 1)]) rfl rfl (Nat.le_of_ble_eq_true rfl) (kc' := kc) (ks' := ks) (mc := 0) (ms := 0) rfl rfl (c_Label_number) (pureK ?_)
      refine e_aload_n d_C_label_64 rfl ?_
      refine gx_C_70 d_C_label_65 rfl ?_
      refine e_iconst d_C_label_68 (by decide) ?_
      refine EV.inv fun hFf12 => ?_
      have f12 := (fx_ct 50 rfl hFf12).1
      refine e_callV m_Label_number 3 lw_good d_C_label_69 (k_Label_number _) ⟨Nat.le_of_ble_eq_true rfl, Nat.le_of_ble_eq_true rfl⟩ w_577 w_578 w_579 (q_Label _) rfl f12 (args := [(0, 2)]) rfl rfl (Nat.le_of_ble_eq_true rfl) (kc' := kc) (ks' := ks) (mc := 0) (ms := 0) rfl rfl (c_Label_number) (pureK ?_)
      refine e_aload_n d_C_label_72 rfl ?_
      refine gx_C_70 d_C_label_73 rfl ?_
      refine e_iconst d_C_label_76 (by decide) ?_
      refine EV.inv fun hFf13 => ?_
      have f13 := (fx_ct 50 rfl hFf13).1
      refine e_callV m_Label_number 3 lw_good d_C_label_77 (k_Label_number _) ⟨Nat.le_of_ble_eq_true rfl, Nat.le_of_ble_eq_true rfl⟩ w_577 w_578 w_579 (q_Label _) rfl f13 (args := [(0, 3)]) rfl rfl (Nat.le_of_ble_eq_true rfl) (kc' := kc) (ks' := ks) (mc := 0) (ms := 0) rfl rfl (c_Label_number) (pureK ?_)
      refine e_aload_n d_C_label_80 rfl ?_
      refine gx_C_70 d_C_label_81 rfl ?_
      refine e_iconst d_C_label_84 (by decide) ?_
      refine EV.inv fun hFf14 => ?_
      have f14 := (fx_ct 50 rfl hFf14).1
      refine e_callV5 m_Label_number 3 lw_good d_C_label_85 (k_Label_number _) ⟨Nat.le_of_ble_eq_true rfl, Nat.le_of_ble_eq_true rfl⟩ w_577 w_578 w_579 (q_Label _) rfl f14 (args := [(0, 4)]) rfl rfl rfl (kc' := kc) (ks' := ks) (mc := 0) (ms := 0) rfl rfl (c_Label_number) (pureK ?_)
      refine EV.inv fun hFf15 => ?_
      have f15 := (fx_ct 0 rfl hFf15).1
      obtain ⟨kc18, ks19, mc20, ms21, hkc18, hks19, h⟩ := h
      refine e_callV m_C_addThing 11 lw_good d_C_label_88 (k_C_addThing _) ⟨Nat.le_of_ble_eq_true rfl, Nat.le_of_ble_eq_true rfl⟩ w_417 w_419 w_s6 (q_C _) rfl f15 (args := [(0, (if 0 ≤ 0 ∧ 0 ≤ 4 then G7 1 ((b : Int) + 52) 0 else -1)), (0, (if 0 ≤ 1 ∧ 1 ≤ 4 then G7 1 ((b : Int) + 52) 1 else -1)), (0, (if 0 ≤ 2 ∧ 2 ≤ 4 then G7 1 ((b : Int) + 52) 2 else -1)), (0, (if 0 ≤ 3 ∧ 3 ≤ 4 then G7 1 ((b : Int) + 52) 3 else -1)), (0, (if 0 ≤ 4 ∧ 4 ≤ 4 then G7 1 ((b : Int) + 52) 4 else -1))]) rfl rfl (Nat.le_of_ble_eq_true rfl) (kc' := kc18) (ks' := ks19) (mc := mc20) (ms := ms21) hkc18 hks19 h ?_
      intro v16 G17 h
      exact e_iret d_C_label_91 rfl h
    · have h := h.2 q9
      refine e_aload_n d_C_label_40 rfl ?_
      refine e_bipush d_C_label_41 (by decide) (by decide) ?_
      refine EV.inv fun hFf22 => ?_
      have f22 := (fx_ct 0 rfl hFf22).1
      refine e_callV m_C_refuse 11 lw_good d_C_label_43 (k_C_refuse _) ⟨Nat.le_of_ble_eq_true rfl, Nat.le_of_ble_eq_true rfl⟩ w_297 w_299 w_s0 (q_C _) rfl f22 (args := [(0, (-6))]) rfl rfl (Nat.le_of_ble_eq_true rfl) (kc' := kc) (ks' := ks) (mc := 0) (ms := 0) rfl rfl h ?_
      intro v23 G24 h
      exact e_iret d_C_label_46 rfl h
  · have h := h.2 q3
    refine e_aload_n d_C_label_10 rfl ?_
    refine e_aload_n d_C_label_11 rfl ?_
    refine e_iload_n d_C_label_12 rfl ?_
    refine EV.inv fun hFf25 => ?_
    have f25 := (fx_ct 0 rfl hFf25).1
    refine e_callV m_C_whyNoRow 11 lw_good d_C_label_13 (k_C_whyNoRow _) ⟨Nat.le_of_ble_eq_true rfl, Nat.le_of_ble_eq_true rfl⟩ w_489 w_491 w_s8 (q_C _) rfl f25 (args := [(0, p1)]) rfl rfl (Nat.le_of_ble_eq_true rfl) (kc' := kc) (ks' := ks) (mc := 0) (ms := 0) rfl rfl (c_C_whyNoRow) (pureK ?_)
    refine EV.inv fun hFf26 => ?_
    have f26 := (fx_ct 0 rfl hFf26).1
    refine e_callV m_C_refuse 11 lw_good d_C_label_16 (k_C_refuse _) ⟨Nat.le_of_ble_eq_true rfl, Nat.le_of_ble_eq_true rfl⟩ w_297 w_299 w_s0 (q_C _) rfl f26 (args := [(0, (zWhy b G p1 p1 p1))]) rfl rfl (Nat.le_of_ble_eq_true rfl) (kc' := kc) (ks' := ks) (mc := 0) (ms := 0) rfl rfl h ?_
    intro v27 G28 h
    exact e_iret d_C_label_19 rfl h
