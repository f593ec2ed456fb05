/-! THE RULES, 2: fields, arrays, new cells -/
theorem gCell_congr {B : gB} {G G' : gH} {H H' : Heap} {q : Nat} {x : Int} (h : gCell B G H q x) (hG : ∀ (c : Nat) (j : Int), c ≠ 9 → G' c x j = G c x j) (hH : H'[q]? = H[q]?) : gCell B G' H' q x := by
  obtain ⟨h1, h2, h3, h4, h5, h6, h7⟩ := h
  have e0 := fun j => hG 0 j (by decide)
  have e1 := fun j => hG 1 j (by decide)
  have e2 := fun j => hG 2 j (by decide)
  have e3 := fun j => hG 3 j (by decide)
  refine ⟨fun ci r h64 hr ht => ?_, fun ht => ?_, fun ht => ?_, fun ht => ?_, fun ht => ?_, fun ht => ?_, fun ht => ?_⟩
  · rw [e0] at ht
    have := (h1 ci r h64 hr ht).kept (H1 := H') hH
    have hf : gF B ci r.2.2 G' x = gF B ci r.2.2 G x := by
      unfold gF
      apply List.map_congr_left
      intro j _
      rw [hG (gfid ci j) 0 (by unfold gfid; omega)]
    rw [hf]
    exact this
  all_goals rw [e0] at ht
  · simp only [e0, e1]; exact (h2 ht).kept (H1 := H') hH
  · simp only [e0, e2]; exact (h3 ht).kept (H1 := H') hH
  · simp only [e0, e1]; exact (h4 ht).kept (H1 := H') hH
  · simp only [e0, e3]; exact (h5 ht).kept (H1 := H') hH
  · simp only [e0, e3]; exact (h6 ht).kept (H1 := H') hH
  · rw [e0]; exact h7 ht
theorem gC_upd {B : gB} {G G' : gH} {H H' : Heap} (hC : gC B G H) {a : Nat} (ha : gn B 0 ≤ a) (ht0 : G 0 (a + 1) 0 ≠ 0) (hsz : H'.size = H.size) (ho : ∀ q : Nat, q ≠ a → H'[q]? = H[q]?) (hG : ∀ (c : Nat) (i j : Int), i ≠ a + 1 → G' c i j = G c i j) (htag : ∀ j : Int, G' 0 (a + 1) j = G 0 (a + 1) j) (hrg : ∀ (c : Nat) (j : Int), okK (gck B c) (G' c (a + 1) j)) (hcell : gCell B G' H' a (a + 1)) (hinv : ginv B G') : gC B G' H' := by
  obtain ⟨c1, c2, c3, c4, c5, c6, c7, c8, -⟩ := hC
  have h9 : G' 9 0 0 = G 9 0 0 := hG 9 0 0 (by omega)
  refine ⟨?_, by omega, c3, fun q hq => ?_, fun c i j => ?_, fun q => ?_, fun i hi => ?_, fun i => ?_, hinv⟩
  · rw [h9, c1, hsz]
  · rw [ho q (by omega)]; exact c4 q hq
  · by_cases h : i = a + 1
    · subst h; exact hrg c j
    · rw [hG c i j h]; exact c5 c i j
  · by_cases h : q = a
    · subst h; exact hcell
    · exact gCell_congr (c6 q) (fun c j _ => hG c _ j (by omega)) (ho q h)
  · rw [h9]
    by_cases h : i = a + 1
    · subst h; rw [htag] at hi; exact c7 _ hi
    · rw [hG 0 i 0 h] at hi; exact c7 i hi
  · by_cases h : i = a + 1
    · subst h; rw [htag]; exact c8 _
    · rw [hG 0 i 1 h]; exact c8 i
theorem gU_ne {G : gH} {c c' : Nat} {i j v i' j' : Int} (h : ¬ (c' = c ∧ i' = i ∧ j' = j)) : gU G c i j v c' i' j' = G c' i' j' := if_neg h
theorem gU_eq {G : gH} {c : Nat} {i j v : Int} : gU G c i j v c i j = v := if_pos ⟨rfl, rfl, rfl⟩
/-- a cell's address as a number -/
theorem gC_addr {B : gB} {G : gH} {H : Heap} (hC : gC B G H) {a : Int} (h : G 0 a 0 ≠ 0) : ∃ q : Nat, a = q + 1 ∧ True ∧ q < H.size ∧ True := by
  obtain ⟨h1, h2⟩ := hC.2.2.2.2.2.2.1 a h
  rw [hC.1] at h2
  exact ⟨a.toNat - 1, by omega, trivial, by omega, trivial⟩
theorem cV_rn {q : Nat} (_ : True) : cV (2, (q : Int) + 1) = .ref q := by
  rw [cV_r (by omega)]
  congr 1
theorem one_P {D : va_G} {cl : List vw_C} {H : Heap} {q : Nat × va_E} (h : va_at D cl q H) : va_P D cl [q] H := fun k x hx => by
  have hz : k < 1 := (List.getElem?_eq_some_iff.mp hx).1
  rw [show k = 0 by omega] at hx
  cases hx
  exact h
theorem gF_len {B : gB} {ci N : Nat} {G : gH} {a : Int} : (gF B ci N G a).length = N := by simp [gF]
theorem gF_get {B : gB} {ci N : Nat} {G : gH} {a : Int} {j : Nat} (hj : j < N) : (gF B ci N G a)[j]? = some (cV (gk (gft B ci j), G (gfid ci j) a 0)) := by simp [gF, hj]
/-- what the tables say of a class of the list -/
def gcls (B : gB) (ci : Nat) (r : vw_C) (ty : Nat → FieldType) : Prop :=
  (gcl B)[ci]? = some r ∧ (∀ w ∈ u_ws r.1 r.2.1 r.2.2, w ∈ gws B) ∧ (∀ k, k < r.2.2 → parseFieldDescriptor (r.2.1 k).2.2.1 = some (ty k)) ∧ (∀ a, a < r.2.2 → ∀ b, b < r.2.2 → a ≠ b → (r.2.1 a).2.1 ≠ (r.2.1 b).2.1) ∧ r.2.2 ≤ 64 ∧ ci < 64 ∧
  (∀ k, k < r.2.2 → (ty k = .int ∧ gft B ci k = 0) ∨ (ty k = .boolean ∧ gft B ci k = 3) ∨ (ty k = .long ∧ gft B ci k = 1) ∨ ((∃ n, ty k = .object n) ∧ gft B ci k = 2) ∨ ((∃ t, ty k = .array t) ∧ gft B ci k = 2))
theorem okK_okV {k : Nat} {x : Int} (h : okK k x) (hk : k < 4) : okV (gk k, x) := by
  obtain ⟨h0, h1, h2, h3⟩ := h
  unfold gk okV
  rcases (show k = 0 ∨ k = 1 ∨ k = 2 ∨ k = 3 by omega) with rfl | rfl | rfl | rfl
  · left; exact ⟨rfl, h0 rfl⟩
  · right; left; exact ⟨rfl, h1 rfl⟩
  · right; right; exact ⟨rfl, h2 rfl⟩
  · left
    refine ⟨rfl, ?_⟩
    rcases h3 rfl with h | h <;> simp only [h] <;> decide
theorem gfid_div {ci j : Nat} (hj : j < 64) : (gfid ci j - 16) / 64 = ci ∧ (gfid ci j - 16) % 64 = j := by unfold gfid; omega
theorem gck_f {B : gB} {ci j : Nat} (hj : j < 64) : gck B (gfid ci j) = gft B ci j := by
  unfold gck
  have h1 : gfid ci j = 16 + 64 * ci + j := rfl
  rw [if_neg (by omega), if_neg (by omega), if_neg (by omega), if_pos (by omega), (gfid_div hj).1, (gfid_div hj).2]
theorem gft_lt {B : gB} {ci j : Nat} {r : vw_C} {ty : Nat → FieldType} (h : gcls B ci r ty) (hj : j < r.2.2) : gft B ci j < 4 := by
  rcases h.2.2.2.2.2.2 j hj with ⟨-, h⟩ | ⟨-, h⟩ | ⟨-, h⟩ | ⟨-, h⟩ | ⟨-, h⟩ <;> omega
section R2
variable {l : Launch} {B : gB} {M : gM} {Z : Int → gH → Prop} {kc ks pc : Nat} {ls rest : List gV} {G : gH}
/-- getfield -/
theorem e_getf (ci j : Nat) {idx t : Nat} {r : vw_C} {ty : Nat → FieldType} {ref : String} {a : Int} (hd : decode (gcc M) pc = .ok (.getfield idx, 3)) (hcl : gcls B ci r ty) (hj : j < r.2.2) (hft : gk (gft B ci j) = t) (hw : Cond.fieldLink (gy M).cls idx ref (r.2.1 j).2.1 (r.2.1 j).2.2.1 ∈ gws B) (hs : (r.2.1 j).1 = ref ∨ Cond.sameField ref (r.2.1 j).1 (r.2.1 j).2.1 (r.2.1 j).2.2.1 ∈ gws B)
    (ht : G 0 a 0 = 1 + ci) (k : EV l B M Z kc ks (pc + 3) ls ((t, G (gfid ci j) a 0) :: rest) G) : EV l B M Z kc ks pc ls ((2, a) :: rest) G := by
  intro p e R s m args below meth c H locs cells slots lsr hX h1 h2 hC hL hS hO
  obtain ⟨q, rfl, hq0, hqs, -⟩ := gC_addr hC (a := a) (by omega)
  have hat := (hC.2.2.2.2.2.1 q).1 ci r hcl.2.2.2.2.2.1 hcl.1 ht
  have hr : okV (t, G (gfid ci j) (q + 1) 0) := by
    rw [← hft]
    have := hC.2.2.2.2.1 (gfid ci j) (q + 1) 0
    rw [gck_f (Nat.lt_of_lt_of_le hj hcl.2.2.2.2.1)] at this
    exact okK_okV this (gft_lt hcl hj)
  have hK := k p e R s m args below meth c H locs cells slots lsr hX h1 h2 hC hL hS (List.forall_mem_cons.mpr ⟨hr, (List.forall_mem_cons.mp hO).2⟩)
  have e0 : ((2, (q : Int) + 1) :: rest).map cV = Value.ref q :: rest.map cV := by rw [List.map_cons, cV_rn hq0]
  rw [e0]
  refine va_get (ci := ci) (ref := ref) (C := r.1) (T := r.2.1) (N := r.2.2) hX.1 hX.2.1 hX.2.2.2.2.2.1 hcl.2.1 hX.2.2.2.2.1 hX.2.2.2.2.2.2.2.2.2.2.1 (one_P hat) 0 rfl hcl.1 j hj (hX.2.2.2.2.2.1 _ hw) ?_ (gF_get hj) hd ?_
  · intro x hx
    rcases hs with hs | hs
    · rw [← hs]; exact hx
    · exact u_same (hX.2.2.2.2.2.1 _ hs) x hx
  · rw [hft]; exact hK
theorem g_nf {ty : FieldType} {t : Nat} {v : Int} (h : (ty = .int ∧ t = 0) ∨ (ty = .boolean ∧ t = 3) ∨ (ty = .long ∧ t = 1) ∨ ((∃ n, ty = .object n) ∧ t = 2) ∨ ((∃ u, ty = .array u) ∧ t = 2)) (hv : t = 3 → v = 0 ∨ v = 1) : narrow ty (cV (gk t, v)) = cV (gk t, v) ∧ fits ty (cV (gk t, v)) = true := by
  rcases h with ⟨rfl, rfl⟩ | ⟨rfl, rfl⟩ | ⟨rfl, rfl⟩ | ⟨⟨n, rfl⟩, rfl⟩ | ⟨⟨n, rfl⟩, rfl⟩
  · exact ⟨rfl, rfl⟩
  · rcases hv rfl with rfl | rfl <;> exact ⟨by decide, by decide⟩
  · exact ⟨rfl, rfl⟩
  · by_cases h0 : v = 0
    · subst h0; exact ⟨rfl, rfl⟩
    · rw [show gk 2 = 2 from rfl, cV_r h0]; exact ⟨rfl, rfl⟩
  · by_cases h0 : v = 0
    · subst h0; exact ⟨rfl, rfl⟩
    · rw [show gk 2 = 2 from rfl, cV_r h0]; exact ⟨rfl, rfl⟩
theorem gF_set {B : gB} {ci N j : Nat} {G : gH} {a v : Int} (hj : j < N) (hN : N ≤ 64) : gF B ci N (gU G (gfid ci j) a 0 v) a = (gF B ci N G a).set j (cV (gk (gft B ci j), v)) := by
  apply List.ext_getElem?
  intro i
  by_cases hi : i < N
  · by_cases hij : i = j
    · subst hij
      rw [gF_get hi, gU_eq, List.getElem?_set_self (by rw [gF_len]; exact hi)]
    · rw [gF_get hi, List.getElem?_set_ne (Ne.symm hij), gF_get hi, gU_ne]
      intro h
      have := h.1
      unfold gfid at this
      omega
  · rw [List.getElem?_eq_none (by rw [gF_len]; omega), List.getElem?_eq_none (by rw [List.length_set, gF_len]; omega)]
/-- the heap behind a store into a field -/
theorem gC_put {ci j : Nat} {r : vw_C} {ty : Nat → FieldType} {q : Nat} {v : Int} {H H' : Heap} (hC : gC B G H) (hcl : gcls B ci r ty) (hj : j < r.2.2) (ht : G 0 (q + 1) 0 = 1 + ci) (ha : gn B 0 ≤ q) (hinv : ginv B G → ginv B (gU G (gfid ci j) (q + 1) 0 v)) (hok : okK (gft B ci j) v)
    (hsz : H'.size = H.size) (ho : ∀ x : Nat, x ≠ q → H'[x]? = H[x]?) (hat : va_at (gD B) (gcl B) (q, .inr (ci, (gF B ci r.2.2 G (q + 1)).set j (cV (gk (gft B ci j), v)))) H') : gC B (gU G (gfid ci j) (q + 1) 0 v) H' := by
  have h64 := hcl.2.2.2.2.1
  have hf16 : 16 ≤ gfid ci j := by unfold gfid; omega
  refine gC_upd hC ha (by omega) hsz ho (fun c i k hi => gU_ne (fun h => hi h.2.1)) (fun k => gU_ne (fun h => by have := h.1; omega)) (fun c k => ?_) ?_ (hinv hC.2.2.2.2.2.2.2.2)
  · by_cases h : c = gfid ci j ∧ k = 0
    · obtain ⟨rfl, rfl⟩ := h
      rw [gU_eq, gck_f (by omega)]
      exact hok
    · rw [gU_ne (fun h2 => h ⟨h2.1, h2.2.2⟩)]
      exact hC.2.2.2.2.1 c (q + 1) k
  · have h0 : ∀ k : Int, gU G (gfid ci j) (q + 1) 0 v 0 (q + 1) k = G 0 (q + 1) k := fun k => gU_ne (fun h => by have := h.1; omega)
    refine ⟨fun ci' r' _ hr' ht' => ?_, fun h => ?_, fun h => ?_, fun h => ?_, fun h => ?_, fun h => ?_, fun h => ?_⟩
    · rw [h0] at ht'
      have hci : ci' = ci := by omega
      subst hci
      have : r' = r := Option.some.inj (hr'.symm.trans hcl.1)
      subst this
      rw [gF_set hj h64]
      exact hat
    all_goals (rw [h0, ht] at h; unfold gfid at hf16)
    all_goals exact absurd h (by have := hcl.2.2.2.2.2.1; omega)
/-- putfield -/
theorem e_putf (ci j : Nat) {idx t : Nat} {r : vw_C} {ty : Nat → FieldType} {ref : String} {a v : Int} (hd : decode (gcc M) pc = .ok (.putfield idx, 3)) (hcl : gcls B ci r ty) (hj : j < r.2.2) (hft : gk (gft B ci j) = t) (hw : Cond.fieldLink (gy M).cls idx ref (r.2.1 j).2.1 (r.2.1 j).2.2.1 ∈ gws B) (hs : (r.2.1 j).1 = ref ∨ Cond.sameField ref (r.2.1 j).1 (r.2.1 j).2.1 (r.2.1 j).2.2.1 ∈ gws B)
    (hfin : (r.2.1 j).2.2.2 = false) (ht : G 0 a 0 = 1 + ci) (ha : (gn B 0 : Int) < a) (hv : gft B ci j = 3 → v = 0 ∨ v = 1) (hinv : ginv B G → ginv B (gU G (gfid ci j) a 0 v)) (k : EV l B M Z kc ks (pc + 3) ls rest (gU G (gfid ci j) a 0 v)) : EV l B M Z kc ks pc ls ((t, v) :: (2, a) :: rest) G := by
  intro p e R s m args below meth c H locs cells slots lsr hX h1 h2 hC hL hS hO
  obtain ⟨q, rfl, hq0, hqs, -⟩ := gC_addr hC (a := a) (by omega)
  have hat := (hC.2.2.2.2.2.1 q).1 ci r hcl.2.2.2.2.2.1 hcl.1 ht
  have hvo := (List.forall_mem_cons.mp hO).1
  have hok : okK (gft B ci j) v := by
    have h4 := gft_lt hcl hj
    rw [← hft] at hvo
    unfold okV gk at hvo
    refine ⟨fun h => ?_, fun h => ?_, fun h => ?_, hv⟩
    all_goals (rw [h] at hvo; simp at hvo; exact hvo)
  have e0 : ((t, v) :: (2, (q : Int) + 1) :: rest).map cV = cV (gk (gft B ci j), v) :: Value.ref q :: rest.map cV := by rw [List.map_cons, List.map_cons, cV_rn hq0, hft]
  rw [e0]
  obtain ⟨nn, nf⟩ := g_nf (v := v) (hcl.2.2.2.2.2.2 j hj) hv
  have hK := hX.2.2.2.2.2.2.2.2.2.2.1
  have hap := va_apart (own := (gy M).cls) hX.2.2.2.2.2.1 hcl.2.1 ty hcl.2.2.1 hcl.2.2.2.1 hK hcl.1
  obtain ⟨r', hr', cell, q1, q2, q3, q4⟩ := hat
  have er : r' = r := Option.some.inj (hr'.symm.trans hcl.1)
  subst er
  obtain ⟨hSl, hfc, kC, hkC, hkind⟩ := hK.1 ci _ hcl.1
  obtain ⟨cf, kf, fi, f, hi, hsl⟩ := hSl j hj
  have hlay := hX.2.2.2.2.2.1 _ (hcl.2.1 _ (u_in_lay hj))
  unfold u_lay at hlay
  rw [if_neg (by rw [hfin]; decide)] at hlay
  have hsame : s.fieldFound? ref (r'.2.1 j).2.1 (r'.2.1 j).2.2.1 = some (cf, kf, fi, f) := by
    rcases hs with hs | hs
    · rw [← hs]; exact hi
    · exact u_same (hX.2.2.2.2.2.1 _ hs) _ hi
  have hst := (u_facts hfc hkC (u_lays hX.2.2.2.2.2.1 hcl.2.1 hj) hi).1
  have h6 := u_store hfc hkC hkind hlay hi (hcl.2.2.1 j hj) nn nf
  refine W.putK hX.1 hX.2.1 (f := f) ⟨hX.2.2.2.2.1, hX.2.2.2.2.2.1 _ hw, ⟨_, _, _, hsame⟩, hst⟩ (by rw [q2]; exact h6) q1 q3 (by rw [hsl]; exact k2_hasslot (q4 j hj)) rfl rfl hd fun H' e1 e2 e3 => ?_
  rw [hsl] at e1
  refine k p e R s m args below meth c H' _ cells slots lsr hX h1 h2 (gC_put hC hcl hj ht (by omega) hinv hok e2 e3 ⟨_, hcl.1, t_OB.to (V := updV (vp_V (gF B ci r'.2.2 G (q + 1))) j (cV (gk (gft B ci j), v))) ⟨_, e1, q2, q3, t_set q4 hap hj _⟩ (fun i _ => vp_updV_set (by rw [gF_len]; exact hj) _ i)⟩) (fun x hx => ?_) hS (List.forall_mem_cons.mp (List.forall_mem_cons.mp hO).2).2
  rcases List.mem_append.mp hx with h | h
  · exact hL x h
  · rw [List.mem_singleton.mp h]; show gn B 0 ≤ q; omega
/-- putfield of a final field, in its constructor -/
theorem e_putF (ci j : Nat) {idx t : Nat} {r : vw_C} {ty : Nat → FieldType} {a v : Int} (hd : decode (gcc M) pc = .ok (.putfield idx, 3)) (hcl : gcls B ci r ty) (hj : j < r.2.2) (hft : gk (gft B ci j) = t) (hw : Cond.fieldLink (gy M).cls idx (r.2.1 j).1 (r.2.1 j).2.1 (r.2.1 j).2.2.1 ∈ gws B)
    (hfin : (r.2.1 j).2.2.2 = true) (hinit : (gy M).name = "<init>") (hdecl : (r.2.1 j).1 = (gy M).cls) (ht : G 0 a 0 = 1 + ci) (ha : (gn B 0 : Int) < a) (hv : gft B ci j = 3 → v = 0 ∨ v = 1) (hinv : ginv B G → ginv B (gU G (gfid ci j) a 0 v)) (k : EV l B M Z kc ks (pc + 3) ls rest (gU G (gfid ci j) a 0 v)) : EV l B M Z kc ks pc ls ((t, v) :: (2, a) :: rest) G := by
  intro p e R s m args below meth c H locs cells slots lsr hX h1 h2 hC hL hS hO
  obtain ⟨q, rfl, hq0, hqs, -⟩ := gC_addr hC (a := a) (by omega)
  have hat := (hC.2.2.2.2.2.1 q).1 ci r hcl.2.2.2.2.2.1 hcl.1 ht
  have hvo := (List.forall_mem_cons.mp hO).1
  have hok : okK (gft B ci j) v := by
    have h4 := gft_lt hcl hj
    rw [← hft] at hvo
    unfold okV gk at hvo
    refine ⟨fun h => ?_, fun h => ?_, fun h => ?_, hv⟩
    all_goals (rw [h] at hvo; simp at hvo; exact hvo)
  have e0 : ((t, v) :: (2, (q : Int) + 1) :: rest).map cV = cV (gk (gft B ci j), v) :: Value.ref q :: rest.map cV := by rw [List.map_cons, List.map_cons, cV_rn hq0, hft]
  rw [e0]
  obtain ⟨nn, nf⟩ := g_nf (v := v) (hcl.2.2.2.2.2.2 j hj) hv
  have hK := hX.2.2.2.2.2.2.2.2.2.2.1
  have hap := va_apart (own := (gy M).cls) hX.2.2.2.2.2.1 hcl.2.1 ty hcl.2.2.1 hcl.2.2.2.1 hK hcl.1
  obtain ⟨r', hr', cell, q1, q2, q3, q4⟩ := hat
  have er : r' = r := Option.some.inj (hr'.symm.trans hcl.1)
  subst er
  obtain ⟨hSl, hfc, kC, hkC, hkind⟩ := hK.1 ci _ hcl.1
  obtain ⟨cf, kf, fi, f, hi, hsl⟩ := hSl j hj
  have hlay := hX.2.2.2.2.2.1 _ (hcl.2.1 _ (u_in_lay hj))
  unfold u_lay at hlay
  rw [if_pos hfin] at hlay
  have hcf : m.cls = cf := by
    obtain ⟨_, _, c', _, _, _, -, -, hf', -, -, -, hown2, -⟩ := Cond.laysFinal_spec hlay
    have e1 : c' = cf := by have := hi.symm.trans hf'; simp at this; exact this.1.symm
    rw [hdecl] at hown2
    rw [← e1]
    exact Option.some.inj (hX.2.2.2.2.1.symm.trans hown2)
  have hst := (u_facts hfc hkC (u_lays hX.2.2.2.2.2.1 hcl.2.1 hj) hi).1
  have h6 := u_fits hfc hkC hkind (Or.inr hlay) hi (hcl.2.2.1 j hj) nn nf
  refine W.putFinK hX.1 hX.2.1 hX.2.2.2.2.1 (hX.2.2.2.2.2.1 _ hw) hi hst hcf (hX.2.2.2.2.2.2.2.1.trans hinit) (by rw [q2]; exact h6) q1 q3 (by rw [hsl]; exact k2_hasslot (q4 j hj)) rfl rfl hd fun H' e1 e2 e3 => ?_
  rw [hsl] at e1
  refine k p e R s m args below meth c H' _ cells slots lsr hX h1 h2 (gC_put hC hcl hj ht (by omega) hinv hok e2 e3 ⟨_, hcl.1, t_OB.to (V := updV (vp_V (gF B ci r'.2.2 G (q + 1))) j (cV (gk (gft B ci j), v))) ⟨_, e1, q2, q3, t_set q4 hap hj _⟩ (fun i _ => vp_updV_set (by rw [gF_len]; exact hj) _ i)⟩) (fun x hx => ?_) hS (List.forall_mem_cons.mp (List.forall_mem_cons.mp hO).2).2
  rcases List.mem_append.mp hx with h | h
  · exact hL x h
  · rw [List.mem_singleton.mp h]; show gn B 0 ≤ q; omega
theorem ixI {i : Int} (h0 : 0 ≤ i) (hi : inI i) : (Int32.ofInt i).toNatClampNeg = i.toNat := by
  show (Int32.ofInt i).toInt.toNat = i.toNat
  rw [tiI hi]
theorem ixC {i : Int} (h0 : 0 ≤ i) : ((i.toNat : Nat) : Int) = i := by omega
theorem in_of {i n : Int} (hi : inI i) (h0 : 0 ≤ i) (h1 : i < n) : vp_in (Int32.ofInt i) n.toNat := by
  rw [vp_in_iff, tiI hi]
  omega
/-- the heap behind a store into an array -/
theorem gC_st {c : Nat} {q : Nat} {i x : Int} {H H' : Heap} (hC : gC B G H) (hc : c = 1 ∨ c = 2 ∨ c = 3) (ha : gn B 0 ≤ q) (ht : G 0 (q + 1) 0 ≠ 0) (hok : okK (gck B c) x) (hinv : ginv B G → ginv B (gU G c (q + 1) i x))
    (hsz : H'.size = H.size) (ho : ∀ x : Nat, x ≠ q → H'[x]? = H[x]?) (hcell : (∀ j : Int, gU G c (q + 1) i x 0 (q + 1) j = G 0 (q + 1) j) → gCell B (gU G c (q + 1) i x) H' q (q + 1)) : gC B (gU G c (q + 1) i x) H' := by
  have h0 : ∀ k : Int, gU G c (q + 1) i x 0 (q + 1) k = G 0 (q + 1) k := fun k => gU_ne (fun h => by have := h.1; omega)
  refine gC_upd hC ha ht hsz ho (fun c i k hi => gU_ne (fun h => hi h.2.1)) h0 (fun c' k => ?_) (hcell h0) (hinv hC.2.2.2.2.2.2.2.2)
  by_cases h : c' = c ∧ k = i
  · obtain ⟨rfl, rfl⟩ := h
    rw [gU_eq]; exact hok
  · rw [gU_ne (fun h2 => h ⟨h2.1, h2.2.2⟩)]
    exact hC.2.2.2.2.1 c' (q + 1) k
theorem okK0 {x : Int} (h : inI x) : okK 0 x := ⟨fun _ => h, fun h => absurd h (by decide), fun h => absurd h (by decide), fun h => absurd h (by decide)⟩
theorem okK1 {x : Int} (h : inL x) : okK 1 x := ⟨fun h => absurd h (by decide), fun _ => h, fun h => absurd h (by decide), fun h => absurd h (by decide)⟩
theorem okK2 {x : Int} (h : 0 ≤ x) : okK 2 x := ⟨fun h => absurd h (by decide), fun h => absurd h (by decide), fun _ => h, fun h => absurd h (by decide)⟩
theorem e_iald {a i : Int} (hd : decode (gcc M) pc = .ok (.iaload, 1)) (ht : G 0 a 0 = 100) (hi0 : 0 ≤ i) (hi1 : i < G 0 a 1) (k : EV l B M Z kc ks (pc + 1) ls ((0, G 1 a i) :: rest) G) : EV l B M Z kc ks pc ls ((0, i) :: (2, a) :: rest) G := by
  intro p e R s m args below meth c H locs cells slots lsr hX h1 h2 hC hL hS hO
  obtain ⟨q, rfl, hq0, hqs, -⟩ := gC_addr hC (a := a) (by omega)
  have hi := okV_i.mp (List.forall_mem_cons.mp hO).1
  have hat := (hC.2.2.2.2.2.1 q).2.1 ht
  have hK := k p e R s m args below meth c H locs cells slots lsr hX h1 h2 hC hL hS (List.forall_mem_cons.mpr ⟨okV_i.mpr ((hC.2.2.2.2.1 1 (q + 1) i).1 rfl), (List.forall_mem_cons.mp (List.forall_mem_cons.mp hO).2).2⟩)
  have e0 : ((0, i) :: (2, (q : Int) + 1) :: rest).map cV = Value.int (Int32.ofInt i) :: Value.ref q :: rest.map cV := by rw [List.map_cons, List.map_cons, cV_rn hq0, cV_i]
  rw [e0]
  refine va_iald hX.1 hX.2.1 hX.2.2.2.2.2.2.2.2.2.2.1 (one_P hat) 0 0 rfl rfl (in_of hi hi0 hi1) hd ?_
  rw [ixI hi0 hi, ixC hi0]
  exact hK
theorem e_zald {a i : Int} (hd : decode (gcc M) pc = .ok (.baload, 1)) (ht : G 0 a 0 = 102) (hi0 : 0 ≤ i) (hi1 : i < G 0 a 1) (k : EV l B M Z kc ks (pc + 1) ls ((0, G 1 a i) :: rest) G) : EV l B M Z kc ks pc ls ((0, i) :: (2, a) :: rest) G := by
  intro p e R s m args below meth c H locs cells slots lsr hX h1 h2 hC hL hS hO
  obtain ⟨q, rfl, hq0, hqs, -⟩ := gC_addr hC (a := a) (by omega)
  have hi := okV_i.mp (List.forall_mem_cons.mp hO).1
  have hat := (hC.2.2.2.2.2.1 q).2.2.2.1 ht
  have hK := k p e R s m args below meth c H locs cells slots lsr hX h1 h2 hC hL hS (List.forall_mem_cons.mpr ⟨okV_i.mpr ((hC.2.2.2.2.1 1 (q + 1) i).1 rfl), (List.forall_mem_cons.mp (List.forall_mem_cons.mp hO).2).2⟩)
  have e0 : ((0, i) :: (2, (q : Int) + 1) :: rest).map cV = Value.int (Int32.ofInt i) :: Value.ref q :: rest.map cV := by rw [List.map_cons, List.map_cons, cV_rn hq0, cV_i]
  rw [e0]
  refine va_zald hX.1 hX.2.1 hX.2.2.2.2.2.2.2.2.2.2.1 (one_P hat) 0 2 rfl rfl (in_of hi hi0 hi1) hd ?_
  rw [ixI hi0 hi, ixC hi0]
  exact hK
theorem e_lald {a i : Int} (hd : decode (gcc M) pc = .ok (.laload, 1)) (ht : G 0 a 0 = 101) (hi0 : 0 ≤ i) (hi1 : i < G 0 a 1) (k : EV l B M Z kc ks (pc + 1) ls ((1, G 2 a i) :: rest) G) : EV l B M Z kc ks pc ls ((0, i) :: (2, a) :: rest) G := by
  intro p e R s m args below meth c H locs cells slots lsr hX h1 h2 hC hL hS hO
  obtain ⟨q, rfl, hq0, hqs, -⟩ := gC_addr hC (a := a) (by omega)
  have hi := okV_i.mp (List.forall_mem_cons.mp hO).1
  have hat := (hC.2.2.2.2.2.1 q).2.2.1 ht
  have hK := k p e R s m args below meth c H locs cells slots lsr hX h1 h2 hC hL hS (List.forall_mem_cons.mpr ⟨okV_l.mpr ((hC.2.2.2.2.1 2 (q + 1) i).2.1 rfl), (List.forall_mem_cons.mp (List.forall_mem_cons.mp hO).2).2⟩)
  have e0 : ((0, i) :: (2, (q : Int) + 1) :: rest).map cV = Value.int (Int32.ofInt i) :: Value.ref q :: rest.map cV := by rw [List.map_cons, List.map_cons, cV_rn hq0, cV_i]
  rw [e0]
  refine va_lald hX.1 hX.2.1 hX.2.2.2.2.2.2.2.2.2.2.1 (one_P hat) 0 1 rfl rfl (in_of hi hi0 hi1) hd ?_
  rw [ixI hi0 hi, ixC hi0]
  exact hK
theorem e_aald {a i : Int} (hd : decode (gcc M) pc = .ok (.aaload, 1)) (ht : G 0 a 0 = 103 ∨ G 0 a 0 = 104) (hi0 : 0 ≤ i) (hi1 : i < G 0 a 1) (k : EV l B M Z kc ks (pc + 1) ls ((2, G 3 a i) :: rest) G) : EV l B M Z kc ks pc ls ((0, i) :: (2, a) :: rest) G := by
  intro p e R s m args below meth c H locs cells slots lsr hX h1 h2 hC hL hS hO
  obtain ⟨q, rfl, hq0, hqs, -⟩ := gC_addr hC (a := a) (by omega)
  have hi := okV_i.mp (List.forall_mem_cons.mp hO).1
  have hK := k p e R s m args below meth c H locs cells slots lsr hX h1 h2 hC hL hS (List.forall_mem_cons.mpr ⟨okV_r.mpr ((hC.2.2.2.2.1 3 (q + 1) i).2.2.1 rfl), (List.forall_mem_cons.mp (List.forall_mem_cons.mp hO).2).2⟩)
  have e0 : ((0, i) :: (2, (q : Int) + 1) :: rest).map cV = Value.int (Int32.ofInt i) :: Value.ref q :: rest.map cV := by rw [List.map_cons, List.map_cons, cV_rn hq0, cV_i]
  rw [e0]
  rw [List.map_cons, cV_q] at hK
  rcases ht with ht | ht
  · refine va_aldq hX.1 hX.2.1 hX.2.2.2.2.2.2.2.2.2.2.1 (one_P ((hC.2.2.2.2.2.1 q).2.2.2.2.1 ht)) 0 3 rfl rfl (in_of hi hi0 hi1) hd ?_
    rw [ixI hi0 hi, ixC hi0]
    exact hK
  · refine va_aldq hX.1 hX.2.1 hX.2.2.2.2.2.2.2.2.2.2.1 (one_P ((hC.2.2.2.2.2.1 q).2.2.2.2.2.1 ht)) 0 4 rfl rfl (in_of hi hi0 hi1) hd ?_
    rw [ixI hi0 hi, ixC hi0]
    exact hK
theorem updV_gU {f : Int → Value} {c : Nat} {q : Nat} {i x : Int} {mk : Int → Value} (h0 : 0 ≤ i) : updV (fun k : Nat => mk (G c (q + 1) k)) i.toNat (mk x) = fun k : Nat => mk (gU G c (q + 1) i x c (q + 1) k) := by
  funext k
  unfold updV
  by_cases h : k = i.toNat
  · subst h
    rw [if_pos rfl, ixC h0, gU_eq]
  · rw [if_neg h, gU_ne (fun h2 => h (by have := h2.2.2; omega))]
theorem e_iast {a i x : Int} (hd : decode (gcc M) pc = .ok (.iastore, 1)) (ht : G 0 a 0 = 100) (hi0 : 0 ≤ i) (hi1 : i < G 0 a 1) (ha : (gn B 0 : Int) < a) (hinv : ginv B G → ginv B (gU G 1 a i x)) (k : EV l B M Z kc ks (pc + 1) ls rest (gU G 1 a i x)) : EV l B M Z kc ks pc ls ((0, x) :: (0, i) :: (2, a) :: rest) G := by
  intro p e R s m args below meth c H locs cells slots lsr hX h1 h2 hC hL hS hO
  obtain ⟨q, rfl, hq0, hqs, -⟩ := gC_addr hC (a := a) (by omega)
  have hi := okV_i.mp (List.forall_mem_cons.mp (List.forall_mem_cons.mp hO).2).1
  have hat := (hC.2.2.2.2.2.1 q).2.1 ht
  have e0 : ((0, x) :: (0, i) :: (2, (q : Int) + 1) :: rest).map cV = Value.int (Int32.ofInt x) :: Value.int (Int32.ofInt i) :: Value.ref q :: rest.map cV := by rw [List.map_cons, List.map_cons, List.map_cons, cV_rn hq0]; rfl
  rw [e0]
  have hvin := in_of hi hi0 hi1
  refine W.iast hX.1 hX.2.1 hat ((hX.2.2.2.2.2.2.2.2.2.2.1.2 0 _ rfl).1 (G 0 (q + 1) 1).toNat (fun k : Nat => (fun z => Value.int (Int32.ofInt z)) (G 1 (q + 1) k))) (fun h => by cases h) (by show ¬ (_ ∨ (arrV _ _ _).slots.size ≤ _); rw [arrV_size]; exact hvin) rfl rfl hd fun H' e1 e2 e3 => ?_
  refine k p e R s m args below meth c H' _ cells slots lsr hX h1 h2 (gC_st hC (by decide) (by omega) (by omega) (okK0 (okV_i.mp (List.forall_mem_cons.mp hO).1)) hinv e2 e3 (fun hz => ⟨fun ci r h64 hr ht2 => absurd (hz 0 ▸ ht2) (by omega), fun _ => ?_, fun ht2 => absurd (hz 0 ▸ ht2) (by omega), fun ht2 => absurd (hz 0 ▸ ht2) (by omega), fun ht2 => absurd (hz 0 ▸ ht2) (by omega), fun ht2 => absurd (hz 0 ▸ ht2) (by omega), fun ht2 => absurd (hz 0 ▸ ht2) (by omega)⟩)) (fun y hy => ?_) hS (List.forall_mem_cons.mp (List.forall_mem_cons.mp (List.forall_mem_cons.mp hO).2).2).2
  · show H'[q]? = some (vp_cell _ _)
    rw [e1, hz 1, vp_cell_i, vp_cell_i, ixI hi0 hi, arrV_store]
    exact congrArg some (congrArg (arrV _ _) (updV_gU (f := fun z => Value.int (Int32.ofInt z)) (mk := fun z => Value.int (Int32.ofInt z)) hi0))
  · rcases List.mem_append.mp hy with h | h
    · exact hL y h
    · rw [List.mem_singleton.mp h]; show gn B 0 ≤ q; omega
theorem e_zast {a i x : Int} (hd : decode (gcc M) pc = .ok (.bastore, 1)) (ht : G 0 a 0 = 102) (hi0 : 0 ≤ i) (hi1 : i < G 0 a 1) (ha : (gn B 0 : Int) < a) (hx : x = 0 ∨ x = 1) (hinv : ginv B G → ginv B (gU G 1 a i x)) (k : EV l B M Z kc ks (pc + 1) ls rest (gU G 1 a i x)) : EV l B M Z kc ks pc ls ((0, x) :: (0, i) :: (2, a) :: rest) G := by
  intro p e R s m args below meth c H locs cells slots lsr hX h1 h2 hC hL hS hO
  obtain ⟨q, rfl, hq0, hqs, -⟩ := gC_addr hC (a := a) (by omega)
  have hi := okV_i.mp (List.forall_mem_cons.mp (List.forall_mem_cons.mp hO).2).1
  have hat := (hC.2.2.2.2.2.1 q).2.2.2.1 ht
  have e0 : ((0, x) :: (0, i) :: (2, (q : Int) + 1) :: rest).map cV = Value.int (Int32.ofInt x) :: Value.int (Int32.ofInt i) :: Value.ref q :: rest.map cV := by rw [List.map_cons, List.map_cons, List.map_cons, cV_rn hq0]; rfl
  rw [e0]
  have hvin := in_of hi hi0 hi1
  refine W.zast hX.1 hX.2.1 hat ((hX.2.2.2.2.2.2.2.2.2.2.1.2 2 _ rfl).1 (G 0 (q + 1) 1).toNat (fun k : Nat => (fun z => Value.int (Int32.ofInt z)) (G 1 (q + 1) k))) (fun h => by cases h) (by show ¬ (_ ∨ (arrV _ _ _).slots.size ≤ _); rw [arrV_size]; exact hvin) rfl rfl hd fun H' e1 e2 e3 => ?_
  refine k p e R s m args below meth c H' _ cells slots lsr hX h1 h2 (gC_st hC (by decide) (by omega) (by omega) (okK0 (okV_i.mp (List.forall_mem_cons.mp hO).1)) hinv e2 e3 (fun hz => ⟨fun ci r h64 hr ht2 => absurd (hz 0 ▸ ht2) (by omega), fun ht2 => absurd (hz 0 ▸ ht2) (by omega), fun ht2 => absurd (hz 0 ▸ ht2) (by omega), fun _ => ?_, fun ht2 => absurd (hz 0 ▸ ht2) (by omega), fun ht2 => absurd (hz 0 ▸ ht2) (by omega), fun ht2 => absurd (hz 0 ▸ ht2) (by omega)⟩)) (fun y hy => ?_) hS (List.forall_mem_cons.mp (List.forall_mem_cons.mp (List.forall_mem_cons.mp hO).2).2).2
  · show H'[q]? = some (vp_cell _ _)
    have hnx : narrow .boolean (.int (Int32.ofInt x)) = .int (Int32.ofInt x) := by rcases hx with rfl | rfl <;> decide
    rw [hnx] at e1
    rw [e1, hz 1, vp_cell_i, vp_cell_i, ixI hi0 hi, arrV_store]
    exact congrArg some (congrArg (arrV _ _) (updV_gU (f := fun z => Value.int (Int32.ofInt z)) (mk := fun z => Value.int (Int32.ofInt z)) hi0))
  · rcases List.mem_append.mp hy with h | h
    · exact hL y h
    · rw [List.mem_singleton.mp h]; show gn B 0 ≤ q; omega
theorem e_last {a i x : Int} (hd : decode (gcc M) pc = .ok (.lastore, 1)) (ht : G 0 a 0 = 101) (hi0 : 0 ≤ i) (hi1 : i < G 0 a 1) (ha : (gn B 0 : Int) < a) (hinv : ginv B G → ginv B (gU G 2 a i x)) (k : EV l B M Z kc ks (pc + 1) ls rest (gU G 2 a i x)) : EV l B M Z kc ks pc ls ((1, x) :: (0, i) :: (2, a) :: rest) G := by
  intro p e R s m args below meth c H locs cells slots lsr hX h1 h2 hC hL hS hO
  obtain ⟨q, rfl, hq0, hqs, -⟩ := gC_addr hC (a := a) (by omega)
  have hi := okV_i.mp (List.forall_mem_cons.mp (List.forall_mem_cons.mp hO).2).1
  have hat := (hC.2.2.2.2.2.1 q).2.2.1 ht
  have e0 : ((1, x) :: (0, i) :: (2, (q : Int) + 1) :: rest).map cV = Value.long (Int64.ofInt x) :: Value.int (Int32.ofInt i) :: Value.ref q :: rest.map cV := by rw [List.map_cons, List.map_cons, List.map_cons, cV_rn hq0]; rfl
  rw [e0]
  have hvin := in_of hi hi0 hi1
  refine W.last hX.1 hX.2.1 hat ((hX.2.2.2.2.2.2.2.2.2.2.1.2 1 _ rfl).1 (G 0 (q + 1) 1).toNat (fun k : Nat => (fun z => Value.long (Int64.ofInt z)) (G 2 (q + 1) k))) (fun h => by cases h) (by show ¬ (_ ∨ (arrV _ _ _).slots.size ≤ _); rw [arrV_size]; exact hvin) rfl rfl hd fun H' e1 e2 e3 => ?_
  refine k p e R s m args below meth c H' _ cells slots lsr hX h1 h2 (gC_st hC (by decide) (by omega) (by omega) (okK1 (okV_l.mp (List.forall_mem_cons.mp hO).1)) hinv e2 e3 (fun hz => ⟨fun ci r h64 hr ht2 => absurd (hz 0 ▸ ht2) (by omega), fun ht2 => absurd (hz 0 ▸ ht2) (by omega), fun _ => ?_, fun ht2 => absurd (hz 0 ▸ ht2) (by omega), fun ht2 => absurd (hz 0 ▸ ht2) (by omega), fun ht2 => absurd (hz 0 ▸ ht2) (by omega), fun ht2 => absurd (hz 0 ▸ ht2) (by omega)⟩)) (fun y hy => ?_) hS (List.forall_mem_cons.mp (List.forall_mem_cons.mp (List.forall_mem_cons.mp hO).2).2).2
  · show H'[q]? = some (vp_cell _ _)
    rw [e1, hz 1, vp_cell_l, vp_cell_l, ixI hi0 hi, arrV_store]
    exact congrArg some (congrArg (arrV _ _) (updV_gU (f := fun z => Value.long (Int64.ofInt z)) (mk := fun z => Value.long (Int64.ofInt z)) hi0))
  · rcases List.mem_append.mp hy with h | h
    · exact hL y h
    · rw [List.mem_singleton.mp h]; show gn B 0 ≤ q; omega
/-- arraylength -/
theorem e_alen {a : Int} (hd : decode (gcc M) pc = .ok (.arraylength, 1)) (ht : 100 ≤ G 0 a 0 ∧ G 0 a 0 ≤ 105) (k : EV l B M Z kc ks (pc + 1) ls ((0, G 0 a 1) :: rest) G) : EV l B M Z kc ks pc ls ((2, a) :: rest) G := by
  intro p e R s m args below meth c H locs cells slots lsr hX h1 h2 hC hL hS hO
  obtain ⟨q, rfl, hq0, hqs, -⟩ := gC_addr hC (a := a) (by omega)
  have hlen := hC.2.2.2.2.2.2.2.1 (q + 1)
  have hK := k p e R s m args below meth c H locs cells slots lsr hX h1 h2 hC hL hS (List.forall_mem_cons.mpr ⟨okV_i.mpr hlen.1, (List.forall_mem_cons.mp hO).2⟩)
  have e0 : ((2, (q : Int) + 1) :: rest).map cV = Value.ref q :: rest.map cV := by rw [List.map_cons, cV_rn hq0]
  rw [e0]
  have hn : ∀ (cA : ClassId) (f : Nat → Value), (arrV cA (G 0 (q + 1) 1).toNat f).slots.size.toInt32 = Int32.ofInt (G 0 (q + 1) 1) := by
    intro cA f
    rw [arrV_size]
    show Int32.ofInt (((G 0 (q + 1) 1).toNat : Nat) : Int) = _
    rw [ixC hlen.2]
  have hk := hX.2.2.2.2.2.2.2.2.2.2.1.2
  have hcl := hC.2.2.2.2.2.1 q
  rcases (show G 0 (q + 1) 0 = 100 ∨ G 0 (q + 1) 0 = 101 ∨ G 0 (q + 1) 0 = 102 ∨ G 0 (q + 1) 0 = 103 ∨ G 0 (q + 1) 0 = 104 ∨ G 0 (q + 1) 0 = 105 by omega) with h | h | h | h | h | h
  · exact W.alen hX.1 hX.2.1 (hcl.2.1 h) ((hk 0 _ rfl).1 _ (fun j : Nat => .int (Int32.ofInt (G 1 (q + 1) j)))) (hn _ _) rfl rfl hd hK
  · exact W.alen hX.1 hX.2.1 (hcl.2.2.1 h) ((hk 1 _ rfl).1 _ (fun j : Nat => .long (Int64.ofInt (G 2 (q + 1) j)))) (hn _ _) rfl rfl hd hK
  · exact W.alen hX.1 hX.2.1 (hcl.2.2.2.1 h) ((hk 2 _ rfl).1 _ (fun j : Nat => .int (Int32.ofInt (G 1 (q + 1) j)))) (hn _ _) rfl rfl hd hK
  · exact W.alen hX.1 hX.2.1 (hcl.2.2.2.2.1 h) ((hk 3 _ rfl).1 _ (fun j : Nat => va_rf (gq (G 3 (q + 1) j)))) (hn _ _) rfl rfl hd hK
  · exact W.alen hX.1 hX.2.1 (hcl.2.2.2.2.2.1 h) ((hk 4 _ rfl).1 _ (fun j : Nat => va_rf (gq (G 3 (q + 1) j)))) (hn _ _) rfl rfl hd hK
  · obtain ⟨hqe, hl0⟩ := hcl.2.2.2.2.2.2 h
    obtain ⟨cell, g1, g2, g3, g4, g5, -, g7⟩ := hX.2.2.2.2.2.2.2.2.2.2.2.2.2.1
    rw [hl0] at hK
    have hqe : q = gn B 10 := by omega
    subst hqe
    refine W.alen (n := Int32.ofInt 0) hX.1 hX.2.1 (by rw [hC.2.2.2.1 _ (Nat.not_le.mp g7)]; exact g1) g2 g5 rfl rfl hd hK
end R2
