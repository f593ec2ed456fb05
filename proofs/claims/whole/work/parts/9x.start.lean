/-! THE START: what the Statement gives, as an environment -/
theorem ze_i {args : Array Value} {s : State} {t : Term} {z : Int32} {y : Int} (hz : z = Int32.ofInt y) (h : (Cond.eq t (.int z)).before args s = true) : t.eval args s none [] s = some (.int (Int32.ofInt y)) := by
  rw [← hz]
  exact va_eqt h
theorem ze_l {args : Array Value} {s : State} {t : Term} {z : Int64} {y : Int} (hz : z = Int64.ofInt y) (h : (Cond.eq t (.long z)).before args s = true) : t.eval args s none [] s = some (.long (Int64.ofInt y)) := by
  rw [← hz]
  exact va_eqtl h
abbrev zGiv (bs : Nat) (s : State) : Prop := ∀ c ∈ flatC (Jvm.Cond.and given_1 narrow_1), c.before #[Value.ref bs] s = true
abbrev zOuts (s : State) : Nat → Prop := fun q => s.heap.size ≤ q
theorem zouts {s : State} : ∀ a : Nat, a < s.heap.size → ¬ zOuts s a := fun a h => Nat.not_le.mpr h
theorem zs_11 {bs : Nat} {s : State} (hs : zGiv bs s) : ∃ t : Nat, (Term.static "MuseumFlight$Row" "LEAST" "[J").eval #[Value.ref bs] s none [] s = some (.ref t) ∧ va_T .long t 4 (fun j => .long (Int64.ofInt (gt11 j))) (zOuts s) s s.heap := by
  refine va_Tof (by decide) (hs _ (by decide +kernel)) (va_eqt (z := 4) (hs _ (by decide +kernel))) (fun j hj => ?_) zouts
  match j, hj with
  | 0, _ => exact ze_l (z := (-128)) (by decide) (hs _ (by decide +kernel))
  | 1, _ => exact ze_l (z := (-32768)) (by decide) (hs _ (by decide +kernel))
  | 2, _ => exact ze_l (z := (-2147483648)) (by decide) (hs _ (by decide +kernel))
  | 3, _ => exact ze_l (z := (-9223372036854775808)) (by decide) (hs _ (by decide +kernel))
  | j + 4, h => exact absurd h (by omega)
theorem zs_12 {bs : Nat} {s : State} (hs : zGiv bs s) : ∃ t : Nat, (Term.static "MuseumFlight$Label" "LEAST" "[I").eval #[Value.ref bs] s none [] s = some (.ref t) ∧ va_T .int t 5 (fun j => .int (Int32.ofInt (gt12 j))) (zOuts s) s s.heap := by
  refine va_Tof (by decide) (hs _ (by decide +kernel)) (va_eqt (z := 5) (hs _ (by decide +kernel))) (fun j hj => ?_) zouts
  match j, hj with
  | 0, _ => exact ze_i (z := 0) (by decide) (hs _ (by decide +kernel))
  | 1, _ => exact ze_i (z := 1) (by decide) (hs _ (by decide +kernel))
  | 2, _ => exact ze_i (z := 1) (by decide) (hs _ (by decide +kernel))
  | 3, _ => exact ze_i (z := 1) (by decide) (hs _ (by decide +kernel))
  | 4, _ => exact ze_i (z := 0) (by decide) (hs _ (by decide +kernel))
  | j + 5, h => exact absurd h (by omega)
theorem zs_13 {bs : Nat} {s : State} (hs : zGiv bs s) : ∃ t : Nat, (Term.static "MuseumFlight$Label" "MOST" "[I").eval #[Value.ref bs] s none [] s = some (.ref t) ∧ va_T .int t 5 (fun j => .int (Int32.ofInt (gt13 j))) (zOuts s) s s.heap := by
  refine va_Tof (by decide) (hs _ (by decide +kernel)) (va_eqt (z := 5) (hs _ (by decide +kernel))) (fun j hj => ?_) zouts
  match j, hj with
  | 0, _ => exact ze_i (z := 3) (by decide) (hs _ (by decide +kernel))
  | 1, _ => exact ze_i (z := 100) (by decide) (hs _ (by decide +kernel))
  | 2, _ => exact ze_i (z := 4) (by decide) (hs _ (by decide +kernel))
  | 3, _ => exact ze_i (z := 11) (by decide) (hs _ (by decide +kernel))
  | 4, _ => exact ze_i (z := 20) (by decide) (hs _ (by decide +kernel))
  | j + 5, h => exact absurd h (by omega)
theorem zs_15 {bs : Nat} {s : State} (hs : zGiv bs s) : ∃ t : Nat, (Term.field (Term.string "MuseumFlight$Label" 29) "java/lang/String" "value" "[B").eval #[Value.ref bs] s none [] s = some (.ref t) ∧ va_T .byte t 5 (fun j => .int (Int32.ofInt (gt15 j))) (zOuts s) s s.heap := by
  refine va_Tof (by decide) (hs _ (by decide +kernel)) (va_eqt (z := 5) (hs _ (by decide +kernel))) (fun j hj => ?_) zouts
  match j, hj with
  | 0, _ => exact ze_i (z := 107) (by decide) (hs _ (by decide +kernel))
  | 1, _ => exact ze_i (z := 119) (by decide) (hs _ (by decide +kernel))
  | 2, _ => exact ze_i (z := 104) (by decide) (hs _ (by decide +kernel))
  | 3, _ => exact ze_i (z := 114) (by decide) (hs _ (by decide +kernel))
  | 4, _ => exact ze_i (z := 112) (by decide) (hs _ (by decide +kernel))
  | j + 5, h => exact absurd h (by omega)
theorem zs_10 {bs : Nat} {s : State} (hs : zGiv bs s) : ∃ t : Nat, (Term.static "java/util/ArrayList" "DEFAULTCAPACITY_EMPTY_ELEMENTDATA" "[Ljava/lang/Object;").eval #[Value.ref bs] s none [] s = some (.ref t) ∧ va_T (.object "java/lang/Object") t 0 (fun _ => .null) (zOuts s) s s.heap :=
  va_Tof (by decide) (hs _ (by decide +kernel)) (va_eqt (z := 0) (hs _ (by decide +kernel))) (fun j hj => absurd hj (Nat.not_lt_zero j)) zouts
theorem zs_14 {bs : Nat} {s : State} (hs : zGiv bs s) : ∃ a : Nat, (Term.string "MuseumFlight$Label" 29).eval #[Value.ref bs] s none [] s = some (.ref a) ∧ va_O "java/lang/String" a (zOuts s) s s.heap ∧ va_OF "java/lang/String" "coder" "B" (.int 0) a (zOuts s) s s.heap := by
  have hx : (Cond.exactly (Term.string "MuseumFlight$Label" 29) "java/lang/String").before #[Value.ref bs] s = true := hs _ (by decide +kernel)
  obtain ⟨a, c, cell, k, q1, -⟩ := Cond.exactly_spec (args := #[Value.ref bs]) (first := s) (o := none) (s := s) (idx := []) (t := Term.string "MuseumFlight$Label" 29) (cls := "java/lang/String") hx
  exact ⟨a, q1, va_Oof hx q1 zouts, vk_OFof q1 (va_eqt (z := 0) (hs _ (by decide +kernel))) zouts⟩
def zsoft (w : Cond) : Bool := match w with
  | .arrayOver (.object _) => true
  | .methodLinkNest _ _ _ _ => true
  | .declares _ => true
  | .castable _ _ => true
  | _ => false
theorem zsoft_k {w : Cond} (h : zsoft w = true) : softK w := by
  unfold zsoft at h
  split at h
  · exact Or.inl ⟨_, rfl⟩
  · exact Or.inr (Or.inl ⟨_, _, _, _, rfl⟩)
  · exact Or.inr (Or.inr (Or.inl ⟨_, rfl⟩))
  · exact Or.inr (Or.inr (Or.inr ⟨_, _, rfl⟩))
  · cases h
theorem zsoft_all : lwS.all zsoft = true := by decide +kernel
theorem zsoft_n {w : Cond} {A : Array Value} {s : State} (h : zsoft w = true) (g : w.before A s = true) : softK w ∧ va_Nw w s := by
  have hk := zsoft_k h
  refine ⟨hk, ?_⟩
  rcases hk with ⟨C, rfl⟩ | ⟨a, i, x, b, rfl⟩ | ⟨x, rfl⟩ | ⟨C, T, rfl⟩
  · exact va_AO.of g
  all_goals exact va_Nw.of rfl g
theorem zi32 (x : Int32) : Int32.ofNat x.toBitVec.toNat = x := by
  apply Int32.toBitVec_inj.mp
  simp
theorem zC0 {e : gE} {b : Nat} (hb : e.2.2.2.size = b) (hz : gn (gX0 e b) 10 < b) : gC (gX0 e b) (zH b ((gn (gX0 e b) 10 : Int) + 1) []) e.2.2.2 := by
  have k : ∀ (x j : Int), zH b ((gn (gX0 e b) 10 : Int) + 1) [] 0 x j = if x = (gn (gX0 e b) 10 : Int) + 1 ∧ j = 0 then 105 else 0 := fun x j => by
    show zG0 b _ 0 x j = _
    unfold zG0
    rw [if_neg (by decide)]
    by_cases q : x = (gn (gX0 e b) 10 : Int) + 1 ∧ j = 0
    · rw [if_pos ⟨rfl, q⟩, if_pos q]
    · rw [if_neg (fun y => q y.2), if_neg q]
  have k0 : ∀ x : Int, zH b ((gn (gX0 e b) 10 : Int) + 1) [] 0 x 0 = 105 ∧ x = (gn (gX0 e b) 10 : Int) + 1 ∨ zH b ((gn (gX0 e b) 10 : Int) + 1) [] 0 x 0 = 0 := fun x => by
    rw [k]
    by_cases q : x = (gn (gX0 e b) 10 : Int) + 1
    · exact Or.inl ⟨if_pos ⟨q, rfl⟩, q⟩
    · exact Or.inr (if_neg (fun y => q y.1))
  have k1 : ∀ x : Int, zH b ((gn (gX0 e b) 10 : Int) + 1) [] 0 x 1 = 0 := fun x => by rw [k, if_neg (fun q => absurd q.2 (by decide))]
  refine ⟨by rw [zH_9, hb]; rfl, Nat.le_of_eq hb.symm, hb, fun q _ => rfl, fun c i j => ?_, fun a => ⟨fun ci r h64 hr ht => ?_, fun ht => ?_, fun ht => ?_, fun ht => ?_, fun ht => ?_, fun ht => ?_, fun ht => ?_⟩, fun a ha => ?_, fun a => ?_, trivial⟩
  · by_cases h9 : c = 9
    · subst h9
      exact ⟨fun q => absurd q (by show ¬ (9 = 0); decide), fun q => absurd q (by show ¬ (9 = 1); decide), fun q => absurd q (by show ¬ (9 = 2); decide), fun q => absurd q (by show ¬ (9 = 3); decide)⟩
    by_cases h0 : c = 0
    · subst h0
      exact ⟨fun q => absurd q (by show ¬ (9 = 0); decide), fun q => absurd q (by show ¬ (9 = 1); decide), fun q => absurd q (by show ¬ (9 = 2); decide), fun q => absurd q (by show ¬ (9 = 3); decide)⟩
    · have hv : zH b ((gn (gX0 e b) 10 : Int) + 1) [] c i j = 0 := by
        show zG0 b _ c i j = 0
        unfold zG0
        rw [if_neg h9, if_neg (fun q => h0 q.1)]
      rw [hv]
      exact ⟨fun _ => by decide, fun _ => by decide, fun _ => by decide, fun _ => Or.inl rfl⟩
  · rcases k0 (a + 1) with q | q <;> omega
  · rcases k0 (a + 1) with q | q <;> omega
  · rcases k0 (a + 1) with q | q <;> omega
  · rcases k0 (a + 1) with q | q <;> omega
  · rcases k0 (a + 1) with q | q <;> omega
  · rcases k0 (a + 1) with q | q <;> omega
  · rcases k0 (a + 1) with q | q
    · exact ⟨q.2, k1 _⟩
    · omega
  · rcases k0 a with q | q
    · rw [zH_9]
      show 0 < a ∧ a < (b : Int) + 1
      omega
    · exact absurd q ha
  · rw [k1]
    exact ⟨by decide, by decide⟩
theorem same_forget {s t : State} {L : List Loc} {k n : Nat} (hL : ∀ q ∈ L, s.heap.size ≤ q.base) (h : s.sameButNew t L k n) : s.sameButNew t [] k n := by
  obtain ⟨h1, h2, h3, h4, h5, h6⟩ := h
  refine ⟨h1, h2, h3, h4, h5, fun a c hc => ?_⟩
  obtain ⟨c', k1, k2, k3, k4⟩ := h6 a c hc
  refine ⟨c', k1, k2, k3, fun i _ => k4 i (fun hm => ?_)⟩
  have w := hL _ hm
  have w2 := (Array.getElem?_eq_some_iff.mp hc).1
  exact absurd w (Nat.not_le.mpr w2)
theorem zKn {bs : Nat} {s : State} (hts : ∀ w ∈ lw_tbl, w.before #[Value.ref bs] s = true) : ∀ (ci : Nat), ∃ x : ClassId × (Nat → Nat), ∀ r : vw_C, vwCl[ci]? = some r → u_Kn s r.1 r.2.1 r.2.2 x.1 x.2 := by
  have g : ∀ w ∈ lwG, w.before #[Value.ref bs] s = true := fun w hw => hts w (lwG_sub w hw)
  have d : ∀ (ci : Nat) (r0 : vw_C), vwCl[ci]? = some r0 → (∃ (cC : ClassId) (iS : Nat → Nat), u_Kn s r0.1 r0.2.1 r0.2.2 cC iS) → ∃ x : ClassId × (Nat → Nat), ∀ r : vw_C, vwCl[ci]? = some r → u_Kn s r.1 r.2.1 r.2.2 x.1 x.2 := by
    rintro ci r0 h0 ⟨cC, iS, h⟩
    refine ⟨(cC, iS), fun r hr => ?_⟩
    have er : r0 = r := Option.some.inj (h0.symm.trans hr)
    subst er
    exact h
  intro ci
  match ci with
  | 0 => exact d 0 _ rfl (u_known (n := 3) g lay_AL (g _ w_36))
  | 1 => exact d 1 _ rfl (u_known (n := 6) g lay_Hours (g _ w_95))
  | 2 => exact d 2 _ rfl (u_known (n := 7) g lay_House (g _ w_62))
  | 3 => exact d 3 _ rfl (u_known (n := 1) g lay_Label (g _ w_247))
  | 4 => exact d 4 _ rfl (u_known (n := 4) g lay_Place (g _ w_1023))
  | 5 => exact d 5 _ rfl (u_known (n := 8) g lay_Planner (g _ w_103))
  | 6 => exact d 6 _ rfl (u_known (n := 3) g lay_Row (g _ w_230))
  | 7 => exact d 7 _ rfl (u_known (n := 11) g lay_Spread (g _ w_187))
  | 8 => exact d 8 _ rfl (u_known (n := 3) g lay_Team (g _ w_338))
  | 9 => exact d 9 _ rfl (u_known (n := 16) g lay_Thing (g _ w_423))
  | 10 => exact d 10 _ rfl (u_known (n := 7) g lay_Years (g _ w_156))
  | 11 => exact d 11 _ rfl (u_known (n := 11) g lay_C (g _ w_28))
  | 12 => exact d 12 _ rfl (u_known (n := 58) g lay_M (g _ w_1382))
  | k + 13 => exact ⟨(0, fun _ => 0), fun r h => by simp [vwCl] at h⟩
theorem zKt {s : State} {c1 c2 c3 c4 c5 : ClassId} (h1 : ArrOfT s c1 .int ∧ va_RA s c1 .int) (h2 : ArrOfT s c2 .long ∧ va_RA s c2 .long) (h3 : ArrOfT s c3 .boolean ∧ va_RA s c3 .boolean) (h4 : ArrOfT s c4 (.object "java/lang/Object") ∧ va_RA s c4 (.object "java/lang/Object")) (h5 : ArrOfT s c5 (.object "MuseumFlight$Row") ∧ va_RA s c5 (.object "MuseumFlight$Row")) : ∀ (k : Nat) (q : ClassId × FieldType), ([(c1, .int), (c2, .long), (c3, .boolean), (c4, .object "java/lang/Object"), (c5, .object "MuseumFlight$Row")] : List (ClassId × FieldType))[k]? = some q → ArrOfT s q.1 q.2 ∧ va_RA s q.1 q.2 := by
  intro k q hq
  have w := List.mem_of_getElem? hq
  simp only [List.mem_cons, List.not_mem_nil, or_false] at w
  rcases w with rfl | rfl | rfl | rfl | rfl
  · exact h1
  · exact h2
  · exact h3
  · exact h4
  · exact h5
theorem zLs0 {ls : Array Slot} {b : Nat} (hl : lv_has ls 4 [(0, .ref b)]) : gLS ls 4 [(2, (b : Int) + 1), (9, 0), (9, 0), (9, 0)] := by
  refine ⟨hl.1, hl.2.1, fun i x hi h9 => ?_⟩
  match i, hi with
  | 0, hi =>
    rw [← Option.some.inj (show some ((2, (b : Int) + 1) : gV) = some x from hi)]
    refine ⟨okN _, ?_⟩
    rw [cV_rn trivial]
    exact hl.2.2 (0, .ref b) List.mem_cons_self
  | 1, hi => exact absurd (by rw [← Option.some.inj (show some ((9, 0) : gV) = some x from hi)]) h9
  | 2, hi => exact absurd (by rw [← Option.some.inj (show some ((9, 0) : gV) = some x from hi)]) h9
  | 3, hi => exact absurd (by rw [← Option.some.inj (show some ((9, 0) : gV) = some x from hi)]) h9
  | k + 4, hi => exact absurd (show (none : Option gV) = some x from hi) (by simp)
