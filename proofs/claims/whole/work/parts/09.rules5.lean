/-! THE RULES, 5: statics, returns, calls -/
theorem gC_low {B : gB} {G : gH} {H : Heap} (hC : gC B G H) {q : Nat} (h : ¬ gn B 0 ≤ q) : H[q]? = (gHs B)[q]? := hC.2.2.2.1 q (Nat.not_le.mp h)
theorem gSF_moved {B : gB} {u U : State} (hvm : u.vm.Alike U.vm) (hN : (∀ w ∈ gsoft B, softK w ∧ va_Nw w u) → ∀ w ∈ gsoft B, softK w ∧ va_Nw w U) (hW : ∀ a : Nat, vk_R "MuseumFlight$Label" 29 "kwhrp" a u → vk_R "MuseumFlight$Label" 29 "kwhrp" a U) (hM : ∀ a : Nat, va_Mi "[Ljava/lang/Object;" a u → va_Mi "[Ljava/lang/Object;" a U) (h : gSF B u) : gSF B U := by
  obtain ⟨a0, a1, a2, a3, a4, a5, a6, a7, a8, a9, a10, a11, a12, a13, a14, a15, a16, a17⟩ := h
  refine ⟨hN a0, a1.moved hvm, a2.moved hvm, a3.moved hvm, a4.moved hvm, a5.moved hvm, a6.moved hvm, a7.moved hvm, a8.moved hvm, a9.moved hvm, a10.moved hvm, hW _ a11, ?_, ?_, ?_, a15.moved hvm, hM _ a16, a17.moved hvm⟩
  · obtain ⟨cell, b1, b2, b3, b4⟩ := a12
    exact ⟨cell, b1, b2, by rw [hvm.findClass]; exact b3, b4⟩
  · obtain ⟨cf, k, i, f, cell, b1, b2⟩ := a13
    obtain ⟨k', hi', he⟩ := State.fieldFound?_setVm hvm b1
    exact ⟨cf, k', i, f, cell, hi', b2⟩
  · obtain ⟨cf, k, i, f, cell, b1, b2⟩ := a14
    obtain ⟨k', hi', he⟩ := State.fieldFound?_setVm hvm b1
    exact ⟨cf, k', i, f, cell, hi', b2⟩
theorem gSF_warm {B : gB} {s U : State} (hW : s.WarmedH U.vm) (h : gSF B s) : gSF B U := gSF_moved hW.alike (soft_warm hW) (fun _ q => q.warm hW) (fun _ q => va_Mi.moved hW.alike q) h
theorem gSF_calling {B : gB} {U : State} {g : JFrame} {mk : MethodId} {a : Array Value} (h : gSF B U) : gSF B (U.calling g mk a) := gSF_moved (u := U) (U := U.calling g mk a) (Vm.Alike.refl U.vm) (soft_same rfl) (fun _ q => q.same rfl) (fun _ q => q) h
section R6
variable {l : Launch} {B : gB} {M : gM} {Z : Int → gH → Prop} {kc ks pc : Nat} {ls rest : List gV} {G : gH}
/-- getstatic -/
theorem e_gets (C n d : String) (x : gV) {idx : Nat} (hz : ∀ s : State, gSF B s → va_Z C n d (cV x) (fun q => gn B 0 ≤ q) s (gHs B)) (hx : okV x) (hd : decode (gcc M) pc = .ok (.getstatic idx, 3)) (hw : Cond.fieldLink (gy M).cls idx C n d ∈ gws B) (k : EV l B M Z kc ks (pc + 3) ls (x :: rest) G) : EV l B M Z kc ks pc ls rest G := by
  intro p e R s m args below meth c H locs cells slots lsr hX h1 h2 hC hL hS hO
  obtain ⟨cf, kf, fi, f, a, cell, g1, g2, g3, g4, g5, g6, g7, g8⟩ := hz s hX.2.2.2.2.2.2.2.2.2.2.2
  have hK := k p e R s m args below meth c H locs cells slots lsr hX h1 h2 hC hL hS (List.forall_mem_cons.mpr ⟨hx, hO⟩)
  exact W.gets hX.1 hX.2.1 hX.2.2.2.2.1 (hX.2.2.2.2.2.1 _ hw) g1 g2 g3 g4 (by rw [gC_low hC g8]; exact g5) (fun h => by rw [h] at g6; cases g6) g7 rfl hd hK
theorem okN (n : Nat) : okV (2, (n : Int) + 1) := okV_r.mpr (by omega)
theorem e_tld_i (t N : Nat) (f : Int → Int) {i : Int} (hz : ∀ s : State, gSF B s → va_T .int t N (fun j => .int (Int32.ofInt (f j))) (fun q => gn B 0 ≤ q) s (gHs B)) (hf : inI (f i)) (hd : decode (gcc M) pc = .ok (.iaload, 1)) (hi0 : 0 ≤ i) (hi1 : i < N) (k : EV l B M Z kc ks (pc + 1) ls ((0, f i) :: rest) G) : EV l B M Z kc ks pc ls ((0, i) :: (2, (t : Int) + 1) :: rest) G := by
  intro p e R s m args below meth c H locs cells slots lsr hX h1 h2 hC hL hS hO
  obtain ⟨cell, g1, g2, g3, g4, g5, g6, g7⟩ := hz s hX.2.2.2.2.2.2.2.2.2.2.2
  have hi := okV_i.mp (List.forall_mem_cons.mp hO).1
  have hK := k p e R s m args below meth c H locs cells slots lsr hX h1 h2 hC hL hS (List.forall_mem_cons.mpr ⟨okV_i.mpr hf, (List.forall_mem_cons.mp (List.forall_mem_cons.mp hO).2).2⟩)
  have e0 : ((0, i) :: (2, (t : Int) + 1) :: rest).map cV = Value.int (Int32.ofInt i) :: Value.ref t :: rest.map cV := by rw [List.map_cons, List.map_cons, cV_rn trivial, cV_i]
  rw [e0]
  refine W.iald (v := .int (Int32.ofInt (f i))) hX.1 hX.2.1 (by rw [gC_low hC g7]; exact g1) g2 g3 (fun h => ?_) ?_ rfl rfl hd hK
  · rcases h with h | h
    · rw [Int32.lt_iff_toInt_lt, tiI hi, Int32.toInt_zero] at h; omega
    · rw [ixI hi0 hi] at h; omega
  · rw [ixI hi0 hi, g6 _ (by omega)]
    dsimp only
    rw [ixC hi0]
theorem e_tld_l (t N : Nat) (f : Int → Int) {i : Int} (hz : ∀ s : State, gSF B s → va_T .long t N (fun j => .long (Int64.ofInt (f j))) (fun q => gn B 0 ≤ q) s (gHs B)) (hf : inL (f i)) (hd : decode (gcc M) pc = .ok (.laload, 1)) (hi0 : 0 ≤ i) (hi1 : i < N) (k : EV l B M Z kc ks (pc + 1) ls ((1, f i) :: rest) G) : EV l B M Z kc ks pc ls ((0, i) :: (2, (t : Int) + 1) :: rest) G := by
  intro p e R s m args below meth c H locs cells slots lsr hX h1 h2 hC hL hS hO
  obtain ⟨cell, g1, g2, g3, g4, g5, g6, g7⟩ := hz s hX.2.2.2.2.2.2.2.2.2.2.2
  have hi := okV_i.mp (List.forall_mem_cons.mp hO).1
  have hK := k p e R s m args below meth c H locs cells slots lsr hX h1 h2 hC hL hS (List.forall_mem_cons.mpr ⟨okV_l.mpr hf, (List.forall_mem_cons.mp (List.forall_mem_cons.mp hO).2).2⟩)
  have e0 : ((0, i) :: (2, (t : Int) + 1) :: rest).map cV = Value.int (Int32.ofInt i) :: Value.ref t :: rest.map cV := by rw [List.map_cons, List.map_cons, cV_rn trivial, cV_i]
  rw [e0]
  refine W.lald (v := .long (Int64.ofInt (f i))) hX.1 hX.2.1 (by rw [gC_low hC g7]; exact g1) g2 g3 (fun h => ?_) ?_ rfl rfl hd hK
  · rcases h with h | h
    · rw [Int32.lt_iff_toInt_lt, tiI hi, Int32.toInt_zero] at h; omega
    · rw [ixI hi0 hi] at h; omega
  · rw [ixI hi0 hi, g6 _ (by omega)]
    dsimp only
    rw [ixC hi0]
theorem e_tld_b (t N : Nat) (f : Int → Int) {i : Int} (hz : ∀ s : State, gSF B s → va_T .byte t N (fun j => .int (Int32.ofInt (f j))) (fun q => gn B 0 ≤ q) s (gHs B)) (hf : inI (f i)) (hd : decode (gcc M) pc = .ok (.baload, 1)) (hi0 : 0 ≤ i) (hi1 : i < N) (k : EV l B M Z kc ks (pc + 1) ls ((0, f i) :: rest) G) : EV l B M Z kc ks pc ls ((0, i) :: (2, (t : Int) + 1) :: rest) G := by
  intro p e R s m args below meth c H locs cells slots lsr hX h1 h2 hC hL hS hO
  obtain ⟨cell, g1, g2, g3, g4, g5, g6, g7⟩ := hz s hX.2.2.2.2.2.2.2.2.2.2.2
  have hi := okV_i.mp (List.forall_mem_cons.mp hO).1
  have hK := k p e R s m args below meth c H locs cells slots lsr hX h1 h2 hC hL hS (List.forall_mem_cons.mpr ⟨okV_i.mpr hf, (List.forall_mem_cons.mp (List.forall_mem_cons.mp hO).2).2⟩)
  have e0 : ((0, i) :: (2, (t : Int) + 1) :: rest).map cV = Value.int (Int32.ofInt i) :: Value.ref t :: rest.map cV := by rw [List.map_cons, List.map_cons, cV_rn trivial, cV_i]
  rw [e0]
  refine W.bald (v := .int (Int32.ofInt (f i))) hX.1 hX.2.1 (by rw [gC_low hC g7]; exact g1) g2 g3 (fun h => ?_) ?_ rfl rfl hd hK
  · rcases h with h | h
    · rw [Int32.lt_iff_toInt_lt, tiI hi, Int32.toInt_zero] at h; omega
    · rw [ixI hi0 hi] at h; omega
  · rw [ixI hi0 hi, g6 _ (by omega)]
    dsimp only
    rw [ixC hi0]
theorem e_tlen (ty : FieldType) (t N : Nat) (f : Nat → Value) (hz : ∀ s : State, gSF B s → va_T ty t N f (fun q => gn B 0 ≤ q) s (gHs B)) (hN : inI N) (hd : decode (gcc M) pc = .ok (.arraylength, 1)) (k : EV l B M Z kc ks (pc + 1) ls ((0, (N : Int)) :: rest) G) : EV l B M Z kc ks pc ls ((2, (t : Int) + 1) :: rest) G := by
  intro p e R s m args below meth c H locs cells slots lsr hX h1 h2 hC hL hS hO
  obtain ⟨cell, g1, g2, g3, g4, g5, g6, g7⟩ := hz s hX.2.2.2.2.2.2.2.2.2.2.2
  have hK := k p e R s m args below meth c H locs cells slots lsr hX h1 h2 hC hL hS (List.forall_mem_cons.mpr ⟨okV_i.mpr hN, (List.forall_mem_cons.mp hO).2⟩)
  have e0 : ((2, (t : Int) + 1) :: rest).map cV = Value.ref t :: rest.map cV := by rw [List.map_cons, cV_rn trivial]
  rw [e0]
  exact W.alen (n := Int32.ofInt N) hX.1 hX.2.1 (by rw [gC_low hC g7]; exact g1) g2 g5 rfl rfl hd hK
/-- a field of the String constant -/
theorem e_sget (n d : String) (x : gV) {idx : Nat} (hz : ∀ s : State, gSF B s → va_OF "java/lang/String" n d (cV x) (gn B 14) (fun q => gn B 0 ≤ q) s (gHs B)) (hx : okV x) (hd : decode (gcc M) pc = .ok (.getfield idx, 3)) (hw : Cond.fieldLink (gy M).cls idx "java/lang/String" n d ∈ gws B) (k : EV l B M Z kc ks (pc + 3) ls (x :: rest) G) : EV l B M Z kc ks pc ls ((2, (gn B 14 : Int) + 1) :: rest) G := by
  intro p e R s m args below meth c H locs cells slots lsr hX h1 h2 hC hL hS hO
  obtain ⟨cf, kf, i, f, cell, g1, g2, g3, g4, g5, g6⟩ := hz s hX.2.2.2.2.2.2.2.2.2.2.2
  have hK := k p e R s m args below meth c H locs cells slots lsr hX h1 h2 hC hL hS (List.forall_mem_cons.mpr ⟨hx, (List.forall_mem_cons.mp hO).2⟩)
  have e0 : ((2, (gn B 14 : Int) + 1) :: rest).map cV = Value.ref (gn B 14) :: rest.map cV := by rw [List.map_cons, cV_rn trivial]
  rw [e0]
  exact W.getf hX.1 hX.2.1 hX.2.2.2.2.1 (hX.2.2.2.2.2.1 _ hw) g1 g2 (by rw [gC_low hC g6]; exact g3) g4 g5 rfl rfl hd hK
theorem e_ldcS (hc : (gy M).cls = "MuseumFlight$Label") (hd : decode (gcc M) pc = .ok (.ldc 29, 2)) (k : EV l B M Z kc ks (pc + 2) ls ((2, (gn B 14 : Int) + 1) :: rest) G) : EV l B M Z kc ks pc ls rest G := by
  intro p e R s m args below meth c H locs cells slots lsr hX h1 h2 hC hL hS hO
  have hK := k p e R s m args below meth c H locs cells slots lsr hX h1 h2 hC hL hS (List.forall_mem_cons.mpr ⟨okN _, hO⟩)
  rw [List.map_cons, cV_rn trivial] at hK
  exact va_ldcS hX.1 hX.2.1 (hc ▸ hX.2.2.2.2.1) (gSF_str hX.2.2.2.2.2.2.2.2.2.2.2) hd hK
/-- ldc of Object[].class -/
theorem e_ldcM {idx : Nat} (hd : decode (gcc M) pc = .ok (.ldc idx, 2)) (hw : Cond.classLink (gy M).cls idx "[Ljava/lang/Object;" ∈ gws B) (k : EV l B M Z kc ks (pc + 2) ls ((2, (gn B 17 : Int) + 1) :: rest) G) : EV l B M Z kc ks pc ls rest G := by
  intro p e R s m args below meth c H locs cells slots lsr hX h1 h2 hC hL hS hO
  have hK := k p e R s m args below meth c H locs cells slots lsr hX h1 h2 hC hL hS (List.forall_mem_cons.mpr ⟨okN _, hO⟩)
  rw [List.map_cons, cV_rn trivial] at hK
  exact va_ldcM hX.1 hX.2.1 hX.2.2.2.2.1 (hX.2.2.2.2.2.1 _ hw) (gSF_mi hX.2.2.2.2.2.2.2.2.2.2.2) hd hK
/-- getClass of an Object[] -/
theorem e_getC {idx : Nat} {a : Int} (hd : decode (gcc M) pc = .ok (.invokevirtual idx, 3)) (hw : Cond.methodLink (gy M).cls idx ⟨"java/lang/Object", "getClass", "()Ljava/lang/Class;"⟩ ∈ gws B) (hw2 : Cond.declares ⟨"java/lang/Object", "getClass", "()Ljava/lang/Class;"⟩ ∈ gsoft B) (hw3 : Cond.selects "[Ljava/lang/Object;" ⟨"java/lang/Object", "getClass", "()Ljava/lang/Class;"⟩ ⟨"java/lang/Object", "getClass", "()Ljava/lang/Class;"⟩ ∈ gws B) (hw4 : Cond.instanceMethod ⟨"java/lang/Object", "getClass", "()Ljava/lang/Class;"⟩ ∈ gws B) (hw5 : Cond.native ⟨"java/lang/Object", "getClass", "()Ljava/lang/Class;"⟩ ∈ gws B)
    (ht : G 0 a 0 = 103) (hfr : 1 ≤ gfr M) (hlo : 22 ≤ glo M) (hrs : ((rest.map cV).map fun v => v.category).sum ≤ 8) (k : EV l B M Z kc ks (pc + 3) ls ((2, (gn B 17 : Int) + 1) :: rest) G) : EV l B M Z kc ks pc ls ((2, a) :: rest) G := by
  intro p e R s m args below meth c H locs cells slots lsr hX h1 h2 hC hL hS hO
  obtain ⟨q, rfl, hq0, hqs, -⟩ := gC_addr hC (a := a) (by omega)
  have hK := k p e R s m args below meth c H locs cells slots lsr hX h1 h2 hC hL hS (List.forall_mem_cons.mpr ⟨okN _, (List.forall_mem_cons.mp hO).2⟩)
  have e0 : ((2, (q : Int) + 1) :: rest).map cV = Value.ref q :: rest.map cV := by rw [List.map_cons, cV_rn trivial]
  rw [e0]
  rw [List.map_cons, cV_rn trivial] at hK
  obtain ⟨-, -, -, -, -, g4⟩ := (hX.2.2.2.2.2.2.2.2.2.2.1.2 3 _ rfl).2
  have hfR := hX.2.2.2.2.2.2.2.2.1
  have hlR := hX.2.2.2.2.2.2.2.2.2.1
  exact va_getC hX.1 hX.2.1 (hX.2.2.1.trans hS.1.symm) hX.2.2.2.2.1 (hX.2.2.2.2.2.1 _ hw) (gsoft_use hX.2.2.2.2.2.2.2.2.2.2.2 hw2) (hX.2.2.2.2.2.1 _ hw3) (hX.2.2.2.2.2.1 _ hw4) (hX.2.2.2.2.2.1 _ hw5) (gSF_mi hX.2.2.2.2.2.2.2.2.2.2.2) ⟨_, (hC.2.2.2.2.2.1 q).2.2.2.2.1 ht, rfl, g4⟩ (by omega) (by omega) hd hK
/-- returns -/
theorem e_iret {x : Int} (hd : decode (gcc M) pc = .ok (.ireturn, 1)) (hr : grt M = some .int) (hz : Z x G) : EV l B M Z kc ks pc ls [(0, x)] G := by
  intro p e R s m args below meth c H locs cells slots lsr hX h1 h2 hC hL hS hO
  refine W.widen (k := R.cells) (n := R.slots) (by omega) (by omega) ?_
  exact W.iret (v := Int32.ofInt x) hX.1 hX.2.1 (hX.2.2.2.1.trans hr) (fun t ht hW => ⟨x, G, by rw [hr]; rfl, by rw [ht]; exact hC, by rw [hr]; exact okV_i.mp (hO _ List.mem_cons_self), hz⟩) hL hd hX.2.2.2.2.2.2.1
theorem e_zret {x : Int} (ty : FieldType) (hd : decode (gcc M) pc = .ok (.ireturn, 1)) (hr : grt M = some ty) (hty : (ty = .boolean ∧ (x = 0 ∨ x = 1)) ∨ (ty = .char ∧ 0 ≤ x ∧ x < 256 ∧ narrow .char (.int (Int32.ofInt x)) = .int (Int32.ofInt x))) (hz : Z x G) : EV l B M Z kc ks pc ls [(0, x)] G := by
  intro p e R s m args below meth c H locs cells slots lsr hX h1 h2 hC hL hS hO
  refine W.widen (k := R.cells) (n := R.slots) (by omega) (by omega) ?_
  have hx := okV_i.mp (hO _ List.mem_cons_self)
  rcases hty with ⟨rfl, h⟩ | ⟨rfl, h, h', hn⟩
  · exact W.zret (v := Int32.ofInt x) hX.1 hX.2.1 (hX.2.2.2.1.trans hr) (by rcases h with rfl | rfl <;> decide) (fun t ht hW => ⟨x, G, by rw [hr]; rfl, by rw [ht]; exact hC, by rw [hr]; exact hx, hz⟩) hL hd hX.2.2.2.2.2.2.1
  · exact W.zret (v := Int32.ofInt x) hX.1 hX.2.1 (hX.2.2.2.1.trans hr) hn (fun t ht hW => ⟨x, G, by rw [hr]; rfl, by rw [ht]; exact hC, by rw [hr]; exact hx, hz⟩) hL hd hX.2.2.2.2.2.2.1
theorem e_lret {x : Int} (hd : decode (gcc M) pc = .ok (.lreturn, 1)) (hr : grt M = some .long) (hz : Z x G) : EV l B M Z kc ks pc ls [(1, x)] G := by
  intro p e R s m args below meth c H locs cells slots lsr hX h1 h2 hC hL hS hO
  refine W.widen (k := R.cells) (n := R.slots) (by omega) (by omega) ?_
  exact W.lret (v := Int64.ofInt x) hX.1 hX.2.1 (hX.2.2.2.1.trans hr) (fun t ht hW => ⟨x, G, by rw [hr]; rfl, by rw [ht]; exact hC, by rw [hr]; exact okV_l.mp (hO _ List.mem_cons_self), hz⟩) hL hd hX.2.2.2.2.2.2.1
theorem e_vret (hd : decode (gcc M) pc = .ok (.return_, 1)) (hr : grt M = none) (hz : Z 0 G) : EV l B M Z kc ks pc ls [] G := by
  intro p e R s m args below meth c H locs cells slots lsr hX h1 h2 hC hL hS hO
  refine W.widen (k := R.cells) (n := R.slots) (by omega) (by omega) ?_
  exact W.vret hX.1 hX.2.1 (hX.2.2.2.1.trans hr) (fun t ht hW => ⟨0, G, by rw [hr]; rfl, by rw [ht]; exact hC, by rw [hr]; trivial, hz⟩) hL hd hX.2.2.2.2.2.2.1
theorem e_aret {x : Int} (hd : decode (gcc M) pc = .ok (.areturn, 1)) (hr : (∃ n, grt M = some (.object n)) ∨ ∃ t, grt M = some (.array t)) (hz : Z x G) : EV l B M Z kc ks pc ls [(2, x)] G := by
  intro p e R s m args below meth c H locs cells slots lsr hX h1 h2 hC hL hS hO
  refine W.widen (k := R.cells) (n := R.slots) (by omega) (by omega) ?_
  have hv : cV (2, x) = .null ∨ ∃ a, cV (2, x) = .ref a := by
    by_cases h : x = 0
    · subst h; exact Or.inl rfl
    · exact Or.inr ⟨_, cV_r h⟩
  have hx := okV_r.mp (hO _ List.mem_cons_self)
  rcases hr with ⟨n, hr⟩ | ⟨t, hr⟩
  · exact W.aret (v := cV (2, x)) hX.1 hX.2.1 (hX.2.2.2.1.trans hr) (Or.inl ⟨n, rfl⟩) hv (fun t ht hW => ⟨x, G, by rw [hr]; rfl, by rw [ht]; exact hC, by rw [hr]; exact hx, hz⟩) hL hd hX.2.2.2.2.2.2.1
  · exact W.aret (v := cV (2, x)) hX.1 hX.2.1 (hX.2.2.2.1.trans hr) (Or.inr ⟨t, rfl⟩) hv (fun t ht hW => ⟨x, G, by rw [hr]; rfl, by rw [ht]; exact hC, by rw [hr]; exact hx, hz⟩) hL hd hX.2.2.2.2.2.2.1
/-- Object.<init> -/
theorem e_objI {idx : Nat} {a : Int} (hd : decode (gcc M) pc = .ok (.invokespecial idx, 3)) (hw : Cond.methodLink (gy M).cls idx Lib.objectInit ∈ gws B) (hw2 : Cond.instanceMethod Lib.objectInit ∈ gws B) (hw3 : Cond.code Lib.objectInit ⟨#[0xb1]⟩ 1 none ∈ gws B) (ha : a ≠ 0) (hfr : 1 ≤ gfr M) (hlo : 20 ≤ glo M) (hrs : ((rest.map cV).map fun v => v.category).sum ≤ 8) (k : EV l B M Z kc ks (pc + 3) ls rest G) : EV l B M Z kc ks pc ls ((2, a) :: rest) G := by
  intro p e R s m args below meth c H locs cells slots lsr hX h1 h2 hC hL hS hO
  have hK := k p e R s m args below meth c H locs cells slots lsr hX h1 h2 hC hL hS (List.forall_mem_cons.mp hO).2
  have e0 : ((2, a) :: rest).map cV = Value.ref (a.toNat - 1) :: rest.map cV := by rw [List.map_cons, cV_r ha]
  rw [e0]
  have hfR := hX.2.2.2.2.2.2.2.2.1
  have hlR := hX.2.2.2.2.2.2.2.2.2.1
  refine W.objInit hX.1 hX.2.1 hX.2.2.2.2.1 (hX.2.2.2.2.2.1 _ hw) (hX.2.2.2.2.2.1 _ hw2) (hX.2.2.2.2.2.1 _ hw3) rfl (hS.1.trans hX.2.2.1.symm) rfl hd (by omega) (by show 2 * 0 + _ + _ ≤ _; omega) hK
end R6
/-- what a call leaves on the stack -/
def gpush (rt : Option FieldType) (v : Int) (r : List gV) : List gV := match rt with
  | none => r
  | some .long => (1, v) :: r
  | some (.object _) => (2, v) :: r
  | some (.array _) => (2, v) :: r
  | some _ => (0, v) :: r
theorem gpush_map {rt : Option FieldType} {v : Int} {r : List gV} (hrt : rt ≠ some .float ∧ rt ≠ some .double) : (gpush rt v r).map cV = (grv rt v).toList ++ r.map cV := by
  cases rt with
  | none => rfl
  | some t => cases t <;> first | rfl | exact absurd rfl hrt.1 | exact absurd rfl hrt.2
theorem gpush_ok {rt : Option FieldType} {v : Int} {r : List gV} (h : grk rt v) (hr : ∀ x ∈ r, okV x) : ∀ x ∈ gpush rt v r, okV x := by
  cases rt with
  | none => exact hr
  | some t => cases t <;> exact List.forall_mem_cons.mpr ⟨by first | exact okV_i.mpr h | exact okV_l.mpr h | exact okV_r.mpr h, hr⟩
def gEn (args : List gV) : List gV := args.flatMap fun x => if x.1 = 1 then [x, (9, 0)] else [x]
theorem gEn_get (args : List gV) (h : ∀ x ∈ args, okV x) : ∀ (i : Nat) (x : gV), (gEn args)[i]? = some x → x.1 ≠ 9 → okV x ∧ (lg_sl (args.map cV))[i]? = some (.val (cV x)) := by
  induction args with
  | nil => intro i x hi; simp [gEn] at hi
  | cons a r ih =>
    intro i x hi h9
    have ha := h a List.mem_cons_self
    have ihr := ih (fun x hx => h x (List.mem_cons_of_mem _ hx))
    by_cases h1 : a.1 = 1
    · have hc : (cV a).category = 2 := by
        obtain ⟨t, v⟩ := a
        dsimp only at h1
        subst h1
        rfl
      have e1 : gEn (a :: r) = a :: (9, 0) :: gEn r := by simp [gEn, h1]
      have e2 : lg_sl ((a :: r).map cV) = .val (cV a) :: .second :: lg_sl (r.map cV) := by simp [lg_sl, hc]
      rw [e1] at hi
      rw [e2]
      match i with
      | 0 => cases hi; exact ⟨ha, rfl⟩
      | 1 => cases hi; exact absurd rfl h9
      | i + 2 => exact ihr i x hi h9
    · have hc : (cV a).category = 1 := cat1 h1
      have e1 : gEn (a :: r) = a :: gEn r := by simp [gEn, h1]
      have e2 : lg_sl ((a :: r).map cV) = .val (cV a) :: lg_sl (r.map cV) := by simp [lg_sl, hc]
      rw [e1] at hi
      rw [e2]
      match i with
      | 0 => cases hi; exact ⟨ha, rfl⟩
      | i + 1 => exact ihr i x hi h9
theorem gEn_len (args : List gV) : (lg_sl (args.map cV)).length = (gEn args).length := by
  induction args with
  | nil => rfl
  | cons a r ih =>
    by_cases h1 : a.1 = 1
    · have hc : (cV a).category = 2 := by
        obtain ⟨t, v⟩ := a
        dsimp only at h1
        subst h1
        rfl
      have e1 : gEn (a :: r) = a :: (9, 0) :: gEn r := by simp [gEn, h1]
      have e2 : lg_sl ((a :: r).map cV) = .val (cV a) :: .second :: lg_sl (r.map cV) := by simp [lg_sl, hc]
      rw [e1, e2]; simp [ih]
    · have hc : (cV a).category = 1 := cat1 h1
      have e1 : gEn (a :: r) = a :: gEn r := by simp [gEn, h1]
      have e2 : lg_sl ((a :: r).map cV) = .val (cV a) :: lg_sl (r.map cV) := by simp [lg_sl, hc]
      rw [e1, e2]; simp [ih]
def gpad (n : Nat) (r : List gV) : List gV := r ++ List.replicate (n - r.length) (9, 0)
/-- a contract out of the walk of the body -/
theorem GM.ofEV {l : Launch} {B : gB} {M : gM} {args : List gV} {G : gH} {mc ms : Nat} {Z : Int → gH → Prop} (hy : plainName (gy M).cls = true) (hn : (gEn args).length ≤ gnL M) (h : EV l B M Z mc ms 0 (gpad (gnL M) (gEn args)) [] G) : GM l B M args G mc ms Z := by
  refine Met.ofW (cc := gcc M) (maxL := gnL M) (ret := grt M) hy rfl ?_
  intro p e s m a below meth c s₁ Bd hml hv
  obtain ⟨rfl, hok, hC, hK, hSF⟩ := hv
  have hts := atoms_spec Bd.pre
  rw [lg_entry_eq]
  have hl := lv_entry (args.map cV) (n := gnL M) (by rw [gEn_len]; exact hn)
  refine h p e _ s m _ below meth c s.heap [] 0 0 _ ⟨Bd.exec, Bd.bytes, hml, Bd.returns, findClass_of_methodNamed Bd.named, fun w hw => hts w (List.mem_cons_of_mem _ hw), Bd.notSynchronized, (name_of_methodNamed Bd.named Bd.method).1, Nat.le_refl _, Nat.le_refl _, hK, hSF⟩ (by show 0 + mc ≤ mc; omega) (by show 0 + ms ≤ ms; omega) hC (fun q hq => absurd hq List.not_mem_nil) ⟨hl.1, hl.2.1, fun i x hi h9 => ?_⟩ (fun x hx => absurd hx List.not_mem_nil)
  have hi' : (gEn args)[i]? = some x := by
    unfold gpad at hi
    by_cases hlt : i < (gEn args).length
    · rwa [List.getElem?_append_left hlt] at hi
    · rw [List.getElem?_append_right (by omega), List.getElem?_replicate] at hi
      split at hi
      · cases hi; exact absurd rfl h9
      · cases hi
  obtain ⟨h1, h2⟩ := gEn_get args hok i x hi' h9
  refine ⟨h1, ?_⟩
  rw [List.getElem?_toArray, List.getElem?_append_left (List.getElem?_eq_some_iff.mp h2).1]
  exact h2
theorem GM.mono {l : Launch} {B : gB} {M : gM} {args : List gV} {G : gH} {mc ms : Nat} {Z Z' : Int → gH → Prop} (h : GM l B M args G mc ms Z) (hZ : ∀ v G', Z v G' → Z' v G') : GM l B M args G mc ms Z' := by
  intro p e ha hc hk s m a below hf happ hp hq
  obtain ⟨n, o, h1, h2, h3, ⟨v, G', h4, h5, h6, h7⟩, h8⟩ := h p e ha hc hk s m a below hf happ hp hq
  exact ⟨n, o, h1, h2, h3, ⟨v, G', h4, h5, h6, hZ v G' h7⟩, h8⟩
section R7
variable {l : Launch} {B : gB} {M : gM} {Z : Int → gH → Prop} {kc ks pc : Nat} {ls rest : List gV} {G : gH}
/-- the words of a call -/
def gLk (B : gB) (M' : gM) (n : Nat) : Prop := Cond.code (gy M') (gcc M') (gnL M') (grt M') ∈ gws B ∧ Cond.initialized (gy M').cls ∈ gws B ∧ ((gy M').cls ≠ "java/lang/invoke/MethodHandle" ∧ (gy M').cls ≠ "java/lang/invoke/VarHandle") ∧ (parseMethodDescriptor (gy M').desc).map (fun d => d.parameters.length) = some n ∧ (grt M' ≠ some .float ∧ grt M' ≠ some .double)
def gRm (M M' : gM) : Prop := gfr M' + 1 ≤ gfr M ∧ 8 + (gnL M' + 11) + glo M' ≤ glo M
theorem pc_blind {args : List gV} : FrameBlind (fun a U => a = (args.map cV).toArray ∧ (∀ x ∈ args, okV x) ∧ gC B G U.heap ∧ va_K (gD B) (gcl B) (gtys B) U ∧ gSF B U) := fun a U g mk h => ⟨h.1, h.2.1, h.2.2.1, va_K.moved (u := U) (U := U.calling g mk a) (Vm.Alike.refl U.vm) h.2.2.2.1, gSF_calling h.2.2.2.2⟩
theorem e_back {M' : gM} {mc ms kc' ks' : Nat} {Z' : Int → gH → Prop} {p : Program} {e : Env} {R : Room} {s : State} {m : MethodId} {sa : Array Value} {below : List Frame} {meth : Method} {c : Code} {H : Heap} {locs : List Loc} {cells slots : Nat} {lsr : Array Slot} {g : JFrame} {aa : Array Value}
    (hr : va_Run p l e R s m sa below meth c H locs cells slots mc ms g (rest.map cV) (gQ B M' Z' aa) (fun q => gn B 0 ≤ q)) (hg : g = F0 m pc lsr g.stack) (hX : gSX B M p R s m sa meth c) (hkc : kc = kc' + mc) (hks : ks = ks' + ms) (h1 : cells + kc ≤ R.cells) (h2 : slots + ks ≤ R.slots) (hL : ∀ q ∈ locs, gn B 0 ≤ q.base) (hS : gLS lsr (gnL M) ls) (hO : ∀ x ∈ rest, okV x) (hrt : grt M' ≠ some .float ∧ grt M' ≠ some .double)
    (k : ∀ (v : Int) (G' : gH), Z' v G' → EV l B M Z kc' ks' (pc + 3) ls (gpush (grt M') v rest) G') : W p l e R s m sa below meth c H locs cells slots (MQ below (gQ B M Z) sa s R.cells R.slots (fun q => gn B 0 ≤ q)) g := by
  intro T hT X
  obtain ⟨v, st₀, t, T', L, h0, X', hLq, e1, e2, ⟨v', G', hv, hG, hgk, hZ⟩, st⟩ := hr T hT X
  cases hv
  have hK := k v' G' hZ p e R s m sa below meth c t.heap (locs ++ L) (cells + mc) (slots + ms) lsr hX (by omega) (by omega) hG (fun q hq => (List.mem_append.mp hq).elim (hL q) (hLq q)) hS (gpush_ok hgk hO)
  rw [gpush_map hrt] at hK
  obtain ⟨t2, a1, b1⟩ := hK T' e1 X'
  refine ⟨t2, st t2 ?_, b1⟩
  rw [hg]
  exact a1
theorem gcat (r : List gV) : ((r.map cV).map fun v => v.category).sum ≤ 2 * r.length := by
  induction r with
  | nil => exact Nat.le_refl _
  | cons x r ih =>
    have hx : (cV x).category ≤ 2 := by rcases lv_cat (cV x) with h | h <;> omega
    simp only [List.map_cons, List.sum_cons, List.length_cons] at ih ⊢
    omega
theorem gcallB {M' : gM} {n mc ms : Nat} {p : Program} {R : Room} {s : State} {m : MethodId} {sa : Array Value} {meth : Method} {c : Code} {idx : Nat} (hX : gSX B M p R s m sa meth c) (hgood : ∀ w ∈ gws B, goodWord w = true) (hlk : gLk B M' n) (hrm : gRm M M') (hw : Cond.methodLink (gy M).cls idx (gy M') ∈ gws B) : CallB R s sa (gy M).cls idx (gy M') (gcc M') (gnL M') (grt M') (Cond.code (gy M') (gcc M') (gnL M') (grt M') :: gws B) { frames := gfr M', cells := mc, slots := ms, locals := glo M' } mc ms n := by
  have hfR := hX.2.2.2.2.2.2.2.2.1
  have hlR := hX.2.2.2.2.2.2.2.2.2.1
  refine callB_of n (Ts := gws B) hX.2.2.2.2.2.1 (fun w hw => ?_) rfl rfl rfl (hX.2.2.2.2.2.1 _ hlk.2.1) (hX.2.2.2.2.2.1 _ hw) ⟨hlk.2.2.1.1, hlk.2.2.1.2, hlk.2.2.2.1⟩ ⟨Nat.le_trans hrm.1 hfR, Nat.le_trans hrm.2 hlR⟩
  rcases List.mem_cons.mp hw with rfl | hw
  · exact ⟨hlk.1, good_of_word (hgood _ hlk.1)⟩
  · exact ⟨hw, good_of_word (hgood _ hw)⟩
theorem gPre {args : List gV} {s : State} {H : Heap} {p : Program} {R : Room} {m : MethodId} {sa : Array Value} {meth : Method} {c : Code} (hX : gSX B M p R s m sa meth c) (hok : ∀ x ∈ args, okV x) (hC : gC B G H) : PreS s H (fun a U => a = (args.map cV).toArray ∧ (∀ x ∈ args, okV x) ∧ gC B G U.heap ∧ va_K (gD B) (gcl B) (gtys B) U ∧ gSF B U) (args.map cV) :=
  ⟨pc_blind, fun U hU hW => ⟨rfl, hok, by rw [hU]; exact hC, va_K.moved hW.alike hX.2.2.2.2.2.2.2.2.2.2.1, gSF_warm hW hX.2.2.2.2.2.2.2.2.2.2.2⟩⟩
/-- invokestatic of an own method -/
theorem e_callS (M' : gM) {idx n mc ms kc' ks' : Nat} {args : List gV} {Z' : Int → gH → Prop} {st : List gV} (hgood : ∀ w ∈ gws B, goodWord w = true) (hd : decode (gcc M) pc = .ok (.invokestatic idx, 3)) (hlk : gLk B M' n) (hrm : gRm M M') (hw : Cond.methodLink (gy M).cls idx (gy M') ∈ gws B) (hw2 : Cond.static (gy M') ∈ gws B) (hst : st = args.reverse ++ rest) (hn : args.length = n) (hrs : rest.length ≤ 4) (hkc : kc = kc' + mc) (hks : ks = ks' + ms)
    (hM : GM l B M' args G mc ms Z') (k : ∀ (v : Int) (G' : gH), Z' v G' → EV l B M Z kc' ks' (pc + 3) ls (gpush (grt M') v rest) G') : EV l B M Z kc ks pc ls st G := by
  subst hst
  intro p e R s m args9 below meth c H locs cells slots lsr hX h1 h2 hC hL hS hO
  have hcr := gcat rest
  have hok : ∀ x ∈ args, okV x := fun x hx => hO x (List.mem_append_left _ (List.mem_reverse.mpr hx))
  have hr := va_runS (As := args.map cV) (rest := rest.map cV) (g := F0 m pc lsr ((args.reverse ++ rest).map cV)) (cells := cells) (slots := slots) (locs := locs) (H := H) (below := below) (e := e) (meth := meth) (l := l) (p := p) ⟨hX.1, hX.2.1, hX.2.2.1, hX.2.2.2.2.1, hX.2.2.2.2.2.1⟩ hM ⟨gcallB hX hgood hlk hrm hw, hX.2.2.2.2.2.1 _ hw2⟩ (gPre hX hok hC) rfl (by rw [List.length_map, hn]) hS.1 (by show List.map cV (args.reverse ++ rest) = _; rw [List.map_append, List.map_reverse]) (by show 2 * 0 + _ ≤ 8; omega) hd ⟨by omega, by omega⟩
  exact e_back hr rfl hX hkc hks h1 h2 hL hS (fun x hx => hO x (List.mem_append_right _ hx)) hlk.2.2.2.2 k
/-- invokestatic of a nest mate's private method -/
theorem e_callSN (M' : gM) (host : String) {idx n mc ms kc' ks' : Nat} {args : List gV} {Z' : Int → gH → Prop} {st : List gV} (hgood : ∀ w ∈ gws B, goodWord w = true) (hd : decode (gcc M) pc = .ok (.invokestatic idx, 3)) (hlk : gLk B M' n) (hrm : gRm M M') (hw : Cond.methodLinkNest (gy M).cls idx (gy M') host ∈ gsoft B) (hw2 : Cond.static (gy M') ∈ gws B) (hst : st = args.reverse ++ rest) (hn : args.length = n) (hrs : rest.length ≤ 4) (hkc : kc = kc' + mc) (hks : ks = ks' + ms)
    (hM : GM l B M' args G mc ms Z') (k : ∀ (v : Int) (G' : gH), Z' v G' → EV l B M Z kc' ks' (pc + 3) ls (gpush (grt M') v rest) G') : EV l B M Z kc ks pc ls st G := by
  subst hst
  intro p e R s m args9 below meth c H locs cells slots lsr hX h1 h2 hC hL hS hO
  have hcr := gcat rest
  have hfR := hX.2.2.2.2.2.2.2.2.1
  have hlR := hX.2.2.2.2.2.2.2.2.2.1
  have hok : ∀ x ∈ args, okV x := fun x hx => hO x (List.mem_append_left _ (List.mem_reverse.mpr hx))
  have hcn : va_CN R s args9 (gy M).cls idx (gy M') host (gcc M') (gnL M') (grt M') (Cond.code (gy M') (gcc M') (gnL M') (grt M') :: gws B) { frames := gfr M', cells := mc, slots := ms, locals := glo M' } mc ms n := by
    refine va_cnB n (Ts := gws B) hX.2.2.2.2.2.1 (fun w hw => ?_) rfl rfl rfl (gsoft_use hX.2.2.2.2.2.2.2.2.2.2.2 hw) (hX.2.2.2.2.2.1 _ hlk.2.1) ⟨hlk.2.2.1.1, hlk.2.2.1.2, hlk.2.2.2.1⟩ ⟨Nat.le_trans hrm.1 hfR, Nat.le_trans hrm.2 hlR⟩
    rcases List.mem_cons.mp hw with rfl | hw
    · exact ⟨hlk.1, good_of_word (hgood _ hlk.1)⟩
    · exact ⟨hw, good_of_word (hgood _ hw)⟩
  have hr := va_runSN (As := args.map cV) (rest := rest.map cV) (g := F0 m pc lsr ((args.reverse ++ rest).map cV)) (cells := cells) (slots := slots) (locs := locs) (H := H) (below := below) (e := e) (meth := meth) (l := l) (p := p) ⟨hX.1, hX.2.1, hX.2.2.1, hX.2.2.2.2.1, hX.2.2.2.2.2.1⟩ hM ⟨hcn, hX.2.2.2.2.2.1 _ hw2, trivial⟩ (gPre hX hok hC) rfl (by rw [List.length_map, hn]) hS.1 (by show List.map cV (args.reverse ++ rest) = _; rw [List.map_append, List.map_reverse]) (by show 2 * 0 + _ ≤ 8; omega) hd ⟨by omega, by omega⟩
  exact e_back hr rfl hX hkc hks h1 h2 hL hS (fun x hx => hO x (List.mem_append_right _ hx)) hlk.2.2.2.2 k
/-- invokevirtual of an own method on an object of its class -/
theorem e_callV (M' : gM) (ci : Nat) {idx n mc ms kc' ks' : Nat} {r : vw_C} {ty : Nat → FieldType} {args : List gV} {a : Int} {Z' : Int → gH → Prop} {st : List gV} (hgood : ∀ w ∈ gws B, goodWord w = true) (hd : decode (gcc M) pc = .ok (.invokevirtual idx, 3)) (hlk : gLk B M' n) (hrm : gRm M M') (hw : Cond.methodLink (gy M).cls idx (gy M') ∈ gws B) (hw2 : Cond.instanceMethod (gy M') ∈ gws B) (hw3 : Cond.selects (gy M').cls (gy M') (gy M') ∈ gws B) (hcl : gcls B ci r ty) (hr1 : r.1 = (gy M').cls) (ht : G 0 a 0 = 1 + ci) (hst : st = args.reverse ++ (2, a) :: rest) (hn : args.length = n) (hrs : rest.length ≤ 4) (hkc : kc = kc' + mc) (hks : ks = ks' + ms)
    (hM : GM l B M' ((2, a) :: args) G mc ms Z') (k : ∀ (v : Int) (G' : gH), Z' v G' → EV l B M Z kc' ks' (pc + 3) ls (gpush (grt M') v rest) G') : EV l B M Z kc ks pc ls st G := by
  subst hst
  intro p e R s m args9 below meth c H locs cells slots lsr hX h1 h2 hC hL hS hO
  have hcr := gcat rest
  obtain ⟨q, rfl, hq0, hqs, -⟩ := gC_addr hC (a := a) (by omega)
  have hok : ∀ x ∈ (2, (q : Int) + 1) :: args, okV x := List.forall_mem_cons.mpr ⟨okN q, fun x hx => hO x (List.mem_append_left _ (List.mem_reverse.mpr hx))⟩
  obtain ⟨r', hr', cell, q1, q2, q3, q4⟩ := (hC.2.2.2.2.2.1 q).1 ci r hcl.2.2.2.2.2.1 hcl.1 ht
  have er : r' = r := Option.some.inj (hr'.symm.trans hcl.1)
  subst er
  have hcls := (hX.2.2.2.2.2.2.2.2.2.2.1.1 ci _ hcl.1).2
  have hpre := gPre (args := (2, (q : Int) + 1) :: args) hX hok hC
  rw [List.map_cons, cV_rn trivial] at hpre
  have hr := va_runV (C := (gy M').cls) (b := q) (As := args.map cV) (rest := rest.map cV) (g := F0 m pc lsr ((args.reverse ++ (2, (q : Int) + 1) :: rest).map cV)) (cells := cells) (slots := slots) (locs := locs) (H := H) (below := below) (e := e) (meth := meth) (l := l) (p := p) ⟨hX.1, hX.2.1, hX.2.2.1, hX.2.2.2.2.1, hX.2.2.2.2.2.1⟩ hM ⟨gcallB hX hgood hlk hrm hw, hX.2.2.2.2.2.1 _ hw2, hX.2.2.2.2.2.1 _ hw3⟩ ⟨pc_blind, ⟨cell, q1, by rw [q3]; rfl, by rw [q2, ← hr1]; exact hcls.1⟩, fun U hU hW => by
      have := hpre.2 U hU hW
      rw [List.map_cons, cV_rn trivial]
      exact this⟩ rfl (by rw [List.length_map, hn]) hS.1 (by show List.map cV (args.reverse ++ _) = _; rw [List.map_append, List.map_reverse, List.map_cons, cV_rn trivial]) (by show 2 * 0 + _ ≤ 8; omega) hd ⟨by omega, by omega⟩
  exact e_back hr rfl hX hkc hks h1 h2 hL hS (fun x hx => hO x (List.mem_append_right _ (List.mem_cons_of_mem _ hx))) hlk.2.2.2.2 k
/-- invokespecial of a constructor -/
theorem e_callI (M' : gM) {idx n mc ms kc' ks' : Nat} {args : List gV} {a : Int} {Z' : Int → gH → Prop} {st : List gV} (hgood : ∀ w ∈ gws B, goodWord w = true) (hd : decode (gcc M) pc = .ok (.invokespecial idx, 3)) (hlk : gLk B M' n) (hrm : gRm M M') (hw : Cond.methodLink (gy M).cls idx (gy M') ∈ gws B) (hw2 : Cond.instanceMethod (gy M') ∈ gws B) (hnm : (gy M').name = "<init>") (hvo : grt M' = none) (ha : a ≠ 0) (hst : st = args.reverse ++ (2, a) :: rest) (hn : args.length = n) (hrs : rest.length ≤ 4) (hkc : kc = kc' + mc) (hks : ks = ks' + ms)
    (hM : GM l B M' ((2, a) :: args) G mc ms Z') (k : ∀ (v : Int) (G' : gH), Z' v G' → EV l B M Z kc' ks' (pc + 3) ls rest G') : EV l B M Z kc ks pc ls st G := by
  subst hst
  intro p e R s m args9 below meth c H locs cells slots lsr hX h1 h2 hC hL hS hO
  have hcr := gcat rest
  have ha0 := okV_r.mp (hO (2, a) (List.mem_append_right _ List.mem_cons_self))
  have hok : ∀ x ∈ (2, a) :: args, okV x := List.forall_mem_cons.mpr ⟨okV_r.mpr ha0, fun x hx => hO x (List.mem_append_left _ (List.mem_reverse.mpr hx))⟩
  have hpre := gPre (args := (2, a) :: args) hX hok hC
  rw [List.map_cons, cV_r ha] at hpre
  have hB := gcallB (mc := mc) (ms := ms) hX hgood hlk hrm hw
  have hM2 : Met l (gy M') (Cond.code (gy M') (gcc M') (gnL M') (grt M') :: gws B) { frames := gfr M', cells := mc, slots := ms, locals := glo M' } (fun a9 U => a9 = (((2, a) :: args).map cV).toArray ∧ (∀ x ∈ (2, a) :: args, okV x) ∧ gC B G U.heap ∧ va_K (gD B) (gcl B) (gtys B) U ∧ gSF B U) (gQ B M' Z') mc ms (fun q => gn B 0 ≤ q) := hM
  rw [hvo] at hB hM2
  have hr := va_runI (b := a.toNat - 1) (As := args.map cV) (rest := rest.map cV) (g := F0 m pc lsr ((args.reverse ++ (2, a) :: rest).map cV)) (cells := cells) (slots := slots) (locs := locs) (H := H) (below := below) (e := e) (meth := meth) (l := l) (p := p) ⟨hX.1, hX.2.1, hX.2.2.1, hX.2.2.2.2.1, hX.2.2.2.2.2.1⟩ hM2 ⟨hB, hnm, hX.2.2.2.2.2.1 _ hw2⟩ ⟨pc_blind, fun U hU hW => by
      have := hpre.2 U hU hW
      rw [List.map_cons, cV_r ha]
      exact this⟩ rfl (by rw [List.length_map, hn]) hS.1 (by show List.map cV (args.reverse ++ _) = _; rw [List.map_append, List.map_reverse, List.map_cons, cV_r ha]) (by show 2 * 0 + _ ≤ 8; omega) hd ⟨by omega, by omega⟩
  exact e_back hr rfl hX hkc hks h1 h2 hL hS (fun x hx => hO x (List.mem_append_right _ (List.mem_cons_of_mem _ hx))) hlk.2.2.2.2 (fun v G' hz => by rw [hvo]; exact k v G' hz)
end R7
