/-! THE GHOST HEAP: a heap as numbers, by component, place, index. Component 0: kind and length of a cell; 1: elements of int and boolean arrays;
2: of long arrays; 3: of arrays of references; 9: the next address; 16 + 64 * class + field: fields. A reference is its address and one, null is 0. -/
abbrev gH : Type := Nat → Int → Int → Int
abbrev gV : Type := Nat × Int
abbrev inI (x : Int) : Prop := -2147483648 ≤ x ∧ x < 2147483648
abbrev inL (x : Int) : Prop := -9223372036854775808 ≤ x ∧ x < 9223372036854775808
def cV : gV → Value := fun x => if x.1 = 0 then .int (Int32.ofInt x.2) else if x.1 = 1 then .long (Int64.ofInt x.2) else if x.2 = 0 then .null else .ref (x.2.toNat - 1)
def okV (x : gV) : Prop := (x.1 = 0 ∧ inI x.2) ∨ (x.1 = 1 ∧ inL x.2) ∨ (x.1 = 2 ∧ 0 ≤ x.2)
def gU (G : gH) (c : Nat) (i j v : Int) : gH := fun c' i' j' => if c' = c ∧ i' = i ∧ j' = j then v else G c' i' j'
/-- a new cell of kind t (and length n) at the next address -/
def gN (G : gH) (t n : Int) : gH := fun c i j => if c = 9 then (if i = 0 ∧ j = 0 then G 9 0 0 + 1 else G c i j) else if i = G 9 0 0 then (if c = 0 then (if j = 0 then t else if j = 1 then n else 0) else 0) else G c i j
/-- the environment: words, classes, fields' kinds; numbers (0: where the run's own cells begin, 1..5: classes of arrays int, long, boolean, Object, Row; 10..: addresses of statics), slots, the heap at the start, what always holds -/
abbrev gB : Type := (List Cond × List vw_C × (Nat → Nat → Nat) × List Cond) × ((Nat → Nat) × va_G × Heap × (gH → Prop))
abbrev gws (B : gB) : List Cond := B.1.1
abbrev gcl (B : gB) : List vw_C := B.1.2.1
abbrev gft (B : gB) : Nat → Nat → Nat := B.1.2.2.1
abbrev gsoft (B : gB) : List Cond := B.1.2.2.2
abbrev gn (B : gB) : Nat → Nat := B.2.1
abbrev gD (B : gB) : va_G := B.2.2.1
abbrev gHs (B : gB) : Heap := B.2.2.2.1
abbrev ginv (B : gB) : gH → Prop := B.2.2.2.2
/-- a method: its name, code, locals, what it returns, the frames and words of locals that it needs -/
abbrev gM : Type := MethodName × ByteArray × Nat × Option FieldType × Nat × Nat
abbrev gy (M : gM) : MethodName := M.1
abbrev gcc (M : gM) : ByteArray := M.2.1
abbrev gnL (M : gM) : Nat := M.2.2.1
abbrev grt (M : gM) : Option FieldType := M.2.2.2.1
abbrev gfr (M : gM) : Nat := M.2.2.2.2.1
abbrev glo (M : gM) : Nat := M.2.2.2.2.2
def okK (k : Nat) (x : Int) : Prop := (k = 0 → inI x) ∧ (k = 1 → inL x) ∧ (k = 2 → 0 ≤ x) ∧ (k = 3 → x = 0 ∨ x = 1)
def gfid (ci j : Nat) : Nat := 16 + 64 * ci + j
def gck (B : gB) (c : Nat) : Nat := if c = 1 then 0 else if c = 2 then 1 else if c = 3 then 2 else if 16 ≤ c then gft B ((c - 16) / 64) ((c - 16) % 64) else 9
def gk (k : Nat) : Nat := if k = 3 then 0 else k
def gF (B : gB) (ci N : Nat) (G : gH) (a : Int) : List Value := (List.range N).map fun j => cV (gk (gft B ci j), G (gfid ci j) a 0)
abbrev gtys (B : gB) : List (ClassId × FieldType) := [(gn B 1, .int), (gn B 2, .long), (gn B 3, .boolean), (gn B 4, .object "java/lang/Object"), (gn B 5, .object "MuseumFlight$Row")]
def gq (x : Int) : Option Nat := if x = 0 then none else some (x.toNat - 1)
def gCell (B : gB) (G : gH) (H : Heap) (a : Nat) (x : Int) : Prop :=
  (∀ (ci : Nat) (r : vw_C), ci < 64 → (gcl B)[ci]? = some r → G 0 x 0 = 1 + ci → va_at (gD B) (gcl B) (a, .inr (ci, gF B ci r.2.2 G x)) H) ∧
  (G 0 x 0 = 100 → va_at (gD B) (gcl B) (a, .inl (gn B 1, (G 0 x 1).toNat, .inl fun i => Int32.ofInt (G 1 x i))) H) ∧
  (G 0 x 0 = 101 → va_at (gD B) (gcl B) (a, .inl (gn B 2, (G 0 x 1).toNat, .inr (.inl fun i => Int64.ofInt (G 2 x i)))) H) ∧
  (G 0 x 0 = 102 → va_at (gD B) (gcl B) (a, .inl (gn B 3, (G 0 x 1).toNat, .inl fun i => Int32.ofInt (G 1 x i))) H) ∧
  (G 0 x 0 = 103 → va_at (gD B) (gcl B) (a, .inl (gn B 4, (G 0 x 1).toNat, .inr (.inr (.inr (.inr fun i => gq (G 3 x i)))))) H) ∧
  (G 0 x 0 = 104 → va_at (gD B) (gcl B) (a, .inl (gn B 5, (G 0 x 1).toNat, .inr (.inr (.inr (.inr fun i => gq (G 3 x i)))))) H) ∧
  (G 0 x 0 = 105 → x = gn B 10 + 1 ∧ G 0 x 1 = 0)
def gC (B : gB) (G : gH) (H : Heap) : Prop :=
  G 9 0 0 = H.size + 1 ∧ gn B 0 ≤ H.size ∧ (gHs B).size = gn B 0 ∧ (∀ q : Nat, q < gn B 0 → H[q]? = (gHs B)[q]?) ∧ (∀ (c : Nat) (i j : Int), okK (gck B c) (G c i j)) ∧
  (∀ a : Nat, gCell B G H a (a + 1)) ∧ (∀ a : Int, G 0 a 0 ≠ 0 → 0 < a ∧ a < G 9 0 0) ∧ (∀ a : Int, inI (G 0 a 1) ∧ 0 ≤ G 0 a 1) ∧ ginv B G
def gt11 (j : Int) : Int := if j = 0 then -128 else if j = 1 then -32768 else if j = 2 then -2147483648 else -9223372036854775808
def gt12 (j : Int) : Int := if j = 1 then 1 else if j = 2 then 1 else if j = 3 then 1 else 0
def gt13 (j : Int) : Int := if j = 0 then 3 else if j = 1 then 100 else if j = 2 then 4 else if j = 3 then 11 else 20
def gt15 (j : Int) : Int := if j = 0 then 107 else if j = 1 then 119 else if j = 2 then 104 else if j = 3 then 114 else 112
/-- words that want a lemma of their own to be carried over a call -/
def softK (w : Cond) : Prop := (∃ C, w = .arrayOver (.object C)) ∨ (∃ a i x h, w = .methodLinkNest a i x h) ∨ (∃ x, w = .declares x) ∨ ∃ C T, w = .castable C T
/-- the script: its ints are numbers of B -/
def gscr (B : gB) (j : Int) : Int := (Int32.ofNat (gn B (20 + j.toNat))).toInt
/-- what of the statics is told, and the script -/
def gSF (B : gB) (s : State) : Prop :=
  (∀ w ∈ gsoft B, softK w ∧ va_Nw w s) ∧
  va_Z "java/util/ArrayList" "DEFAULTCAPACITY_EMPTY_ELEMENTDATA" "[Ljava/lang/Object;" (.ref (gn B 10)) (fun q => gn B 0 ≤ q) s (gHs B) ∧ va_T (.object "java/lang/Object") (gn B 10) 0 (fun _ => .null) (fun q => gn B 0 ≤ q) s (gHs B) ∧
  va_Z "MuseumFlight$Row" "LEAST" "[J" (.ref (gn B 11)) (fun q => gn B 0 ≤ q) s (gHs B) ∧ va_T .long (gn B 11) 4 (fun j => .long (Int64.ofInt (gt11 j))) (fun q => gn B 0 ≤ q) s (gHs B) ∧
  va_Z "MuseumFlight$Label" "LEAST" "[I" (.ref (gn B 12)) (fun q => gn B 0 ≤ q) s (gHs B) ∧ va_T .int (gn B 12) 5 (fun j => .int (Int32.ofInt (gt12 j))) (fun q => gn B 0 ≤ q) s (gHs B) ∧
  va_Z "MuseumFlight$Label" "MOST" "[I" (.ref (gn B 13)) (fun q => gn B 0 ≤ q) s (gHs B) ∧ va_T .int (gn B 13) 5 (fun j => .int (Int32.ofInt (gt13 j))) (fun q => gn B 0 ≤ q) s (gHs B) ∧
  va_Z "java/lang/String" "COMPACT_STRINGS" "Z" (.int 1) (fun q => gn B 0 ≤ q) s (gHs B) ∧ va_Z "jdk/internal/util/Preconditions" "SIOOBE_FORMATTER" "Ljava/util/function/BiFunction;" (cV (2, gn B 16)) (fun q => gn B 0 ≤ q) s (gHs B) ∧
  vk_R "MuseumFlight$Label" 29 "kwhrp" (gn B 14) s ∧ va_O "java/lang/String" (gn B 14) (fun q => gn B 0 ≤ q) s (gHs B) ∧ va_OF "java/lang/String" "coder" "B" (.int 0) (gn B 14) (fun q => gn B 0 ≤ q) s (gHs B) ∧ va_OF "java/lang/String" "value" "[B" (.ref (gn B 15)) (gn B 14) (fun q => gn B 0 ≤ q) s (gHs B) ∧ va_T .byte (gn B 15) 5 (fun j => .int (Int32.ofInt (gt15 j))) (fun q => gn B 0 ≤ q) s (gHs B) ∧
  va_Mi "[Ljava/lang/Object;" (gn B 17) s ∧ va_T .int (gn B 18) (gn B 19) (fun j : Nat => .int (Int32.ofInt (gscr B j))) (fun q => gn B 0 ≤ q) s (gHs B)
def gSX (B : gB) (M : gM) (p : Program) (R : Room) (s : State) (m : MethodId) (args : Array Value) (meth : Method) (c : Code) : Prop :=
  p.tables.exec = Jvm.exec ∧ c.code = gcc M ∧ c.maxLocals = gnL M ∧ meth.sig.returnType = grt M ∧ s.vm.findClass (gy M).cls = some m.cls ∧ (∀ w ∈ gws B, w.before args s = true) ∧ meth.locks = false ∧ meth.name = (gy M).name ∧ gfr M ≤ R.frames ∧ glo M ≤ R.locals ∧ va_K (gD B) (gcl B) (gtys B) s ∧ gSF B s
def gLS (lsr : Array Slot) (nL : Nat) (ls : List gV) : Prop := lsr.size = nL ∧ lv_wf lsr ∧ ∀ (i : Nat) (x : gV), ls[i]? = some x → x.1 ≠ 9 → okV x ∧ lsr[i]? = some (.val (cV x))
def grv (rt : Option FieldType) (v : Int) : Option Value := match rt with
  | none => none
  | some .long => some (cV (1, v))
  | some (.object _) => some (cV (2, v))
  | some (.array _) => some (cV (2, v))
  | some _ => some (cV (0, v))
def grk (rt : Option FieldType) (v : Int) : Prop := match rt with
  | none => True
  | some .long => inL v
  | some (.object _) => 0 ≤ v
  | some (.array _) => 0 ≤ v
  | some _ => inI v
def gQ (B : gB) (M : gM) (Z : Int → gH → Prop) : Array Value → State → Outcome → State → Prop := fun _ _ o t => ∃ (v : Int) (G : gH), o = .returned (grv (grt M) v) ∧ gC B G t.heap ∧ grk (grt M) v ∧ Z v G
/-- FROM HERE the method ends with Z: at pc with locals ls, operands st, ghost heap G, kc cells and ks slots left -/
def EV (l : Launch) (B : gB) (M : gM) (Z : Int → gH → Prop) (kc ks pc : Nat) (ls st : List gV) (G : gH) : Prop :=
  ∀ (p : Program) (e : Env) (R : Room) (s : State) (m : MethodId) (args : Array Value) (below : List Frame) (meth : Method) (c : Code) (H : Heap) (locs : List Loc) (cells slots : Nat) (lsr : Array Slot),
    gSX B M p R s m args meth c → cells + kc ≤ R.cells → slots + ks ≤ R.slots → gC B G H → (∀ q ∈ locs, gn B 0 ≤ q.base) → gLS lsr (gnL M) ls → (∀ x ∈ st, okV x) →
    W p l e R s m args below meth c H locs cells slots (MQ below (gQ B M Z) args s R.cells R.slots (fun q => gn B 0 ≤ q)) (F0 m pc lsr (st.map cV))
/-- a method's contract: called with args at the ghost heap G it ends with Z, with at most mc new cells of ms slots -/
def GM (l : Launch) (B : gB) (M : gM) (args : List gV) (G : gH) (mc ms : Nat) (Z : Int → gH → Prop) : Prop :=
  Met l (gy M) (Cond.code (gy M) (gcc M) (gnL M) (grt M) :: gws B) { frames := gfr M, cells := mc, slots := ms, locals := glo M }
    (fun a U => a = (args.map cV).toArray ∧ (∀ x ∈ args, okV x) ∧ gC B G U.heap ∧ va_K (gD B) (gcl B) (gtys B) U ∧ gSF B U) (gQ B M Z) mc ms (fun q => gn B 0 ≤ q)
theorem cV_i (x : Int) : cV (0, x) = .int (Int32.ofInt x) := rfl
theorem cV_l (x : Int) : cV (1, x) = .long (Int64.ofInt x) := rfl
theorem cV_n : cV (2, 0) = .null := rfl
theorem cV_r {x : Int} (h : x ≠ 0) : cV (2, x) = .ref (x.toNat - 1) := by simp [cV, h]
theorem tiI {x : Int} (h : inI x) : (Int32.ofInt x).toInt = x := Int32.toInt_ofInt_of_le (by have := h.1; simpa using this) (by have := h.2; simpa using this)
theorem tiL {x : Int} (h : inL x) : (Int64.ofInt x).toInt = x := Int64.toInt_ofInt_of_le (by have := h.1; simpa using this) (by have := h.2; simpa using this)
theorem ofI (x : Int32) : Int32.ofInt x.toInt = x := Int32.ofInt_toInt x
theorem ofL (x : Int64) : Int64.ofInt x.toInt = x := Int64.ofInt_toInt x
theorem inI_t (x : Int32) : inI x.toInt := ⟨by have := Int32.le_toInt x; simpa using this, by have := Int32.toInt_lt x; simpa using this⟩
theorem inL_t (x : Int64) : inL x.toInt := ⟨by have := Int64.le_toInt x; simpa using this, by have := Int64.toInt_lt x; simpa using this⟩
theorem ltI {x y : Int} (hx : inI x) (hy : inI y) : Int32.ofInt x < Int32.ofInt y ↔ x < y := by rw [Int32.lt_iff_toInt_lt, tiI hx, tiI hy]
theorem leI {x y : Int} (hx : inI x) (hy : inI y) : Int32.ofInt x ≤ Int32.ofInt y ↔ x ≤ y := by rw [Int32.le_iff_toInt_le, tiI hx, tiI hy]
theorem eqI {x y : Int} (hx : inI x) (hy : inI y) : Int32.ofInt x = Int32.ofInt y ↔ x = y := by rw [← Int32.toInt_inj, tiI hx, tiI hy]
theorem ltL {x y : Int} (hx : inL x) (hy : inL y) : Int64.ofInt x < Int64.ofInt y ↔ x < y := by rw [Int64.lt_iff_toInt_lt, tiL hx, tiL hy]
theorem eqL {x y : Int} (hx : inL x) (hy : inL y) : Int64.ofInt x = Int64.ofInt y ↔ x = y := by rw [← Int64.toInt_inj, tiL hx, tiL hy]
theorem okV_i {x : Int} : okV (0, x) ↔ inI x := by simp [okV]
theorem okV_l {x : Int} : okV (1, x) ↔ inL x := by simp [okV]
theorem okV_r {x : Int} : okV (2, x) ↔ 0 ≤ x := by simp [okV]
theorem cat1 {x : gV} (h : x.1 ≠ 1) : (cV x).category = 1 := by
  unfold cV
  rw [if_neg h]
  split
  · rfl
  · split <;> rfl
theorem cat2 {x : Int} : (cV (1, x)).category = 2 := rfl
theorem gLS_get {lsr : Array Slot} {nL : Nat} {ls : List gV} (h : gLS lsr nL ls) {i : Nat} {x : gV} (hi : ls[i]? = some x) (h9 : x.1 ≠ 9) : lsr[i]? = some (.val (cV x)) := (h.2.2 i x hi h9).2
def gtoL (ls : List gV) : List (Nat × Value) := (List.range ls.length).filterMap fun i => match ls[i]? with
  | some x => if x.1 = 9 then none else some (i, cV x)
  | none => none
theorem gtoL_mem {ls : List gV} {i : Nat} {x : gV} (hi : ls[i]? = some x) (h9 : x.1 ≠ 9) : (i, cV x) ∈ gtoL ls := by
  refine List.mem_filterMap.mpr ⟨i, List.mem_range.mpr (List.getElem?_eq_some_iff.mp hi).1, ?_⟩
  rw [hi]
  simp [h9]
theorem gtoL_of {ls : List gV} {q : Nat × Value} (h : q ∈ gtoL ls) : ∃ x, ls[q.1]? = some x ∧ x.1 ≠ 9 ∧ q.2 = cV x := by
  obtain ⟨i, -, hi⟩ := List.mem_filterMap.mp h
  cases hx : ls[i]? with
  | none => rw [hx] at hi; simp at hi
  | some x =>
    rw [hx] at hi
    by_cases h9 : x.1 = 9
    · simp [h9] at hi
    · simp only [h9, if_false] at hi
      cases hi
      exact ⟨x, hx, h9, rfl⟩
theorem gLS_has {lsr : Array Slot} {nL : Nat} {ls : List gV} (h : gLS lsr nL ls) : lv_has lsr nL (gtoL ls) := by
  refine ⟨h.1, h.2.1, fun q hq => ?_⟩
  obtain ⟨x, h1, h2, h3⟩ := gtoL_of hq
  rw [h3]
  exact gLS_get h h1 h2
/-- a store of one word, of two words -/
def gset1 (ls : List gV) (i : Nat) (x : gV) : List gV := (match i with
  | 0 => ls
  | k + 1 => match ls[k]? with
    | some y => if y.1 = 1 then ls.set k (9, 0) else ls
    | none => ls).set i x
def gset2 (ls : List gV) (i : Nat) (x : gV) : List gV := (gset1 ls i x).set (i + 1) (9, 0)
theorem gset1_get {ls : List gV} {i : Nat} {x y : gV} {j : Nat} (hj : (gset1 ls i x)[j]? = some y) (h9 : y.1 ≠ 9) : (j = i ∧ y = x) ∨ (j ≠ i ∧ ls[j]? = some y ∧ (j + 1 = i → y.1 ≠ 1)) := by
  by_cases hji : j = i
  · subst hji
    left
    refine ⟨rfl, ?_⟩
    unfold gset1 at hj
    rw [List.getElem?_set] at hj
    simp only [if_true] at hj
    split at hj <;> simp_all
  · right
    refine ⟨hji, ?_⟩
    unfold gset1 at hj
    rw [List.getElem?_set_ne (Ne.symm hji)] at hj
    cases i with
    | zero => exact ⟨hj, fun h => absurd h (by omega)⟩
    | succ k =>
      dsimp only at hj
      cases hk : ls[k]? with
      | none =>
        rw [hk] at hj
        refine ⟨hj, fun h => ?_⟩
        have : j = k := by omega
        subst this
        rw [hk] at hj
        cases hj
      | some z =>
        rw [hk] at hj
        dsimp only at hj
        by_cases hz : z.1 = 1
        · rw [if_pos hz] at hj
          by_cases hjk : j = k
          · subst hjk
            rw [List.getElem?_set] at hj
            simp only [if_true] at hj
            split at hj
            · cases hj; exact absurd rfl h9
            · cases hj
          · rw [List.getElem?_set_ne (Ne.symm hjk)] at hj
            exact ⟨hj, fun h => absurd h (by omega)⟩
        · rw [if_neg hz] at hj
          refine ⟨hj, fun h => ?_⟩
          have : j = k := by omega
          subst this
          rw [hk] at hj
          cases hj
          exact hz
theorem gLS_set1 {lsr lsr' : Array Slot} {nL : Nat} {ls : List gV} {i : Nat} {x : gV} (h : gLS lsr nL ls) (hx : okV x) (h' : lv_has lsr' nL ((i, cV x) :: (gtoL ls).filter (fun q => !(q.1 == i) && !(q.1 + 1 == i && q.2.category == 2)))) : gLS lsr' nL (gset1 ls i x) := by
  refine ⟨h'.1, h'.2.1, fun j y hj h9 => ?_⟩
  rcases gset1_get hj h9 with ⟨rfl, rfl⟩ | ⟨h1, h2, h3⟩
  · exact ⟨hx, h'.2.2 _ List.mem_cons_self⟩
  · refine ⟨(h.2.2 j y h2 h9).1, h'.2.2 (j, cV y) (List.mem_cons_of_mem _ (List.mem_filter.mpr ⟨gtoL_mem h2 h9, ?_⟩))⟩
    by_cases h4 : j + 1 = i
    · have := cat1 (h3 h4)
      simp [h1, this]
    · simp [h1, h4]
theorem gLS_set2 {lsr lsr' : Array Slot} {nL : Nat} {ls : List gV} {i : Nat} {x : gV} (h : gLS lsr nL ls) (hx : okV x) (h' : lv_has lsr' nL ((i, cV x) :: (gtoL ls).filter (fun q => !(q.1 == i) && (!(q.1 == i + 1) && !(q.1 + 1 == i && q.2.category == 2))))) : gLS lsr' nL (gset2 ls i x) := by
  refine ⟨h'.1, h'.2.1, fun j y hj h9 => ?_⟩
  unfold gset2 at hj
  by_cases hj1 : j = i + 1
  · subst hj1
    rw [List.getElem?_set] at hj
    simp only [if_true] at hj
    split at hj
    · cases hj; exact absurd rfl h9
    · cases hj
  · rw [List.getElem?_set_ne (Ne.symm hj1)] at hj
    rcases gset1_get hj h9 with ⟨rfl, rfl⟩ | ⟨h1, h2, h3⟩
    · exact ⟨hx, h'.2.2 _ List.mem_cons_self⟩
    · refine ⟨(h.2.2 j y h2 h9).1, h'.2.2 (j, cV y) (List.mem_cons_of_mem _ (List.mem_filter.mpr ⟨gtoL_mem h2 h9, ?_⟩))⟩
      by_cases h4 : j + 1 = i
      · have := cat1 (h3 h4)
        simp [h1, hj1, this]
      · simp [h1, hj1, h4]
theorem gLS_cat {lsr : Array Slot} {nL : Nat} {ls : List gV} (h : gLS lsr nL ls) {i : Nat} {x : gV} (hi : ls[i]? = some x) (h9 : x.1 ≠ 9) : okV x := (h.2.2 i x hi h9).1
theorem EV.ls {l : Launch} {B : gB} {M : gM} {Z : Int → gH → Prop} {kc ks pc : Nat} {ls st : List gV} {G : gH} {i : Nat} {x : gV} (hi : ls[i]? = some x) (h9 : x.1 ≠ 9) (k : okV x → EV l B M Z kc ks pc ls st G) : EV l B M Z kc ks pc ls st G :=
  fun p e R s m args below meth c H locs cells slots lsr hX h1 h2 hC hL hS hO => k (gLS_cat hS hi h9) p e R s m args below meth c H locs cells slots lsr hX h1 h2 hC hL hS hO
theorem EV.st {l : Launch} {B : gB} {M : gM} {Z : Int → gH → Prop} {kc ks pc : Nat} {ls st : List gV} {G : gH} {x : gV} (hi : x ∈ st) (k : okV x → EV l B M Z kc ks pc ls st G) : EV l B M Z kc ks pc ls st G :=
  fun p e R s m args below meth c H locs cells slots lsr hX h1 h2 hC hL hS hO => k (hO x hi) p e R s m args below meth c H locs cells slots lsr hX h1 h2 hC hL hS hO
theorem EV.rg {l : Launch} {B : gB} {M : gM} {Z : Int → gH → Prop} {kc ks pc : Nat} {ls st : List gV} {G : gH} (k : (∀ (c : Nat) (i j : Int), okK (gck B c) (G c i j)) → EV l B M Z kc ks pc ls st G) : EV l B M Z kc ks pc ls st G :=
  fun p e R s m args below meth c H locs cells slots lsr hX h1 h2 hC hL hS hO => k hC.2.2.2.2.1 p e R s m args below meth c H locs cells slots lsr hX h1 h2 hC hL hS hO
theorem EV.inv {l : Launch} {B : gB} {M : gM} {Z : Int → gH → Prop} {kc ks pc : Nat} {ls st : List gV} {G : gH} (k : ginv B G → EV l B M Z kc ks pc ls st G) : EV l B M Z kc ks pc ls st G :=
  fun p e R s m args below meth c H locs cells slots lsr hX h1 h2 hC hL hS hO => k hC.2.2.2.2.2.2.2.2 p e R s m args below meth c H locs cells slots lsr hX h1 h2 hC hL hS hO
theorem EV.tag {l : Launch} {B : gB} {M : gM} {Z : Int → gH → Prop} {kc ks pc : Nat} {ls st : List gV} {G : gH} (k : (∀ a : Int, G 0 a 0 ≠ 0 → 0 < a ∧ a < G 9 0 0) → (∀ a : Int, inI (G 0 a 1) ∧ 0 ≤ G 0 a 1) → EV l B M Z kc ks pc ls st G) : EV l B M Z kc ks pc ls st G :=
  fun p e R s m args below meth c H locs cells slots lsr hX h1 h2 hC hL hS hO => k hC.2.2.2.2.2.2.1 hC.2.2.2.2.2.2.2.1 p e R s m args below meth c H locs cells slots lsr hX h1 h2 hC hL hS hO
/-- less is wanted, more is left -/
theorem EV.mono {l : Launch} {B : gB} {M : gM} {Z Z' : Int → gH → Prop} {kc ks kc' ks' pc : Nat} {ls st : List gV} {G : gH} (h : EV l B M Z kc ks pc ls st G) (hZ : ∀ v G', Z v G' → Z' v G') (hc : kc ≤ kc') (hs : ks ≤ ks') : EV l B M Z' kc' ks' pc ls st G := by
  intro p e R s m args below meth c H locs cells slots lsr hX h1 h2 hC hL hS hO T hT X
  obtain ⟨t, a, o, b1, b2, ⟨v, G', b3, b4, b7, b5⟩, b6⟩ := h p e R s m args below meth c H locs cells slots lsr hX (by omega) (by omega) hC hL hS hO T hT X
  exact ⟨t, a, o, b1, b2, ⟨v, G', b3, b4, b7, hZ v G' b5⟩, b6⟩
theorem soft_warm {B : gB} {s U : State} (hW : s.WarmedH U.vm) (h : ∀ w ∈ gsoft B, softK w ∧ va_Nw w s) : ∀ w ∈ gsoft B, softK w ∧ va_Nw w U := by
  intro w hw
  obtain ⟨hk, hs⟩ := h w hw
  refine ⟨hk, ?_⟩
  rcases hk with ⟨C, rfl⟩ | ⟨a, i, x, b, rfl⟩ | ⟨x, rfl⟩ | ⟨C, T, rfl⟩
  · exact va_AO.moved hW.alike hs
  · exact va_Nw.warmM hW hs
  · exact va_Nw.warmD hW hs
  · exact va_Nw.warmC hW hs
theorem soft_same {B : gB} {s U : State} (hv : s.vm = U.vm) (h : ∀ w ∈ gsoft B, softK w ∧ va_Nw w s) : ∀ w ∈ gsoft B, softK w ∧ va_Nw w U := by
  intro w hw
  obtain ⟨hk, hs⟩ := h w hw
  refine ⟨hk, ?_⟩
  rcases hk with ⟨C, rfl⟩ | ⟨a, i, x, b, rfl⟩ | ⟨x, rfl⟩ | ⟨C, T, rfl⟩
  · exact va_AO.moved (by rw [hv]; exact Vm.Alike.refl _) hs
  all_goals exact va_Nw.same rfl hv hs
theorem gSF_str {B : gB} {s : State} (h : gSF B s) : vk_R "MuseumFlight$Label" 29 "kwhrp" (gn B 14) s := h.2.2.2.2.2.2.2.2.2.2.2.1
theorem gSF_mi {B : gB} {s : State} (h : gSF B s) : va_Mi "[Ljava/lang/Object;" (gn B 17) s := h.2.2.2.2.2.2.2.2.2.2.2.2.2.2.2.2.1
theorem gsoft_use {B : gB} {s : State} {w : Cond} {A : Array Value} (h : gSF B s) (hw : w ∈ gsoft B) : w.before A s = true := by
  obtain ⟨hk, hs⟩ := h.1 w hw
  rcases hk with ⟨C, rfl⟩ | ⟨a, i, x, b, rfl⟩ | ⟨x, rfl⟩ | ⟨C, T, rfl⟩
  · exact va_AO.use hs
  all_goals exact va_Nw.use rfl hs
