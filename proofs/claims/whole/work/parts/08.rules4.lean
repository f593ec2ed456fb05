/-! THE RULES, 4: references into arrays, casts, copies -/
/-- v may be stored where an E is wanted -/
def gRv (B : gB) (G : gH) (E : String) (v : Int) : Prop := v = 0 ∨ ∃ (ci : Nat) (r : vw_C) (ty : Nat → FieldType), gcls B ci r ty ∧ G 0 v 0 = 1 + ci ∧ (Cond.castable r.1 E ∈ gsoft B ∨ r.1 = E)
theorem gRv_cell {B : gB} {M : gM} {G : gH} {E : String} {v : Int} {p : Program} {R : Room} {s : State} {m : MethodId} {args : Array Value} {meth : Method} {c : Code} {H : Heap} (hX : gSX B M p R s m args meth c) (hC : gC B G H) (h : gRv B G E v) (hv : v ≠ 0) :
    ∃ (q : Nat) (cell : Cell) (kC : Class), v = q + 1 ∧ True ∧ H[q]? = some cell ∧ cell.vm = .none ∧ s.vm.classes[cell.cls]? = some kC ∧ ∀ comp : ClassId, s.vm.findClass E = some comp → s.vm.assignable cell.cls comp = true := by
  rcases h with h | ⟨ci, r, ty, hcl, ht, hE⟩
  · exact absurd h hv
  · obtain ⟨q, rfl, hq0, hqs, -⟩ := gC_addr hC (a := v) (by omega)
    obtain ⟨r', hr', cell, q1, q2, q3, q4⟩ := (hC.2.2.2.2.2.1 q).1 ci r hcl.2.2.2.2.2.1 hcl.1 ht
    have er : r' = r := Option.some.inj (hr'.symm.trans hcl.1)
    subst er
    have hcls := (hX.2.2.2.2.2.2.2.2.2.2.1.1 ci _ hcl.1).2
    obtain ⟨kC, hkC, -⟩ := hcls.2
    refine ⟨q, cell, kC, rfl, hq0, q1, q3, by rw [q2]; exact hkC, fun comp hcomp => ?_⟩
    rw [q2]
    rcases hE with hE | hE
    · obtain ⟨c0, t1, f1, f2, f3⟩ := Cond.castable_spec (gsoft_use (A := #[]) hX.2.2.2.2.2.2.2.2.2.2.2 hE)
      cases hcls.1.symm.trans f1
      cases hcomp.symm.trans f2
      exact f3
    · rw [← hE] at hcomp
      cases hcls.1.symm.trans hcomp
      exact va_assign hcls
section R4
variable {l : Launch} {B : gB} {M : gM} {Z : Int → gH → Prop} {kc ks pc : Nat} {ls rest : List gV} {G : gH}
theorem e_aast (tag : Int) (E : String) {a i v : Int} (hd : decode (gcc M) pc = .ok (.aastore, 1)) (hE : (tag = 103 ∧ E = "java/lang/Object") ∨ (tag = 104 ∧ E = "MuseumFlight$Row")) (ht : G 0 a 0 = tag) (hi0 : 0 ≤ i) (hi1 : i < G 0 a 1) (ha : (gn B 0 : Int) < a) (hv : gRv B G E v) (hinv : ginv B G → ginv B (gU G 3 a i v)) (k : EV l B M Z kc ks (pc + 1) ls rest (gU G 3 a i v)) : EV l B M Z kc ks pc ls ((2, v) :: (0, i) :: (2, a) :: rest) G := by
  intro p e R s m args below meth c H locs cells slots lsr hX h1 h2 hC hL hS hO
  have ht2 : G 0 a 0 = 103 ∨ G 0 a 0 = 104 := by rcases hE with ⟨rfl, -⟩ | ⟨rfl, -⟩ <;> simp [ht]
  obtain ⟨q, rfl, hq0, hqs, -⟩ := gC_addr hC (a := a) (by omega)
  have hi := okV_i.mp (List.forall_mem_cons.mp (List.forall_mem_cons.mp hO).2).1
  have hv0 := okV_r.mp (List.forall_mem_cons.mp hO).1
  have hvin := in_of hi hi0 hi1
  have hOr := (List.forall_mem_cons.mp (List.forall_mem_cons.mp (List.forall_mem_cons.mp hO).2).2).2
  obtain ⟨t0, cA, hty, hat, hput⟩ : ∃ (t0 : Nat) (cA : ClassId), (gtys B)[t0]? = some (cA, .object E) ∧ va_at (gD B) (gcl B) (q, .inl (cA, (G 0 (q + 1) 1).toNat, .inr (.inr (.inr (.inr fun i : Nat => gq (G 3 (q + 1) i)))))) H ∧
      ∀ H' : Heap, (∀ j : Int, gU G 3 (q + 1) i v 0 (q + 1) j = G 0 (q + 1) j) → va_at (gD B) (gcl B) (q, .inl (cA, (G 0 (q + 1) 1).toNat, .inr (.inr (.inr (.inr fun j : Nat => gq (gU G 3 (q + 1) i v 3 (q + 1) j)))))) H' → gCell B (gU G 3 (q + 1) i v) H' q (q + 1) := by
    rcases hE with ⟨rfl, rfl⟩ | ⟨rfl, rfl⟩
    · refine ⟨3, _, rfl, (hC.2.2.2.2.2.1 q).2.2.2.2.1 ht, fun H' hz h => ⟨fun ci r h64 hr ht2 => absurd (hz 0 ▸ ht2) (by omega), fun ht2 => absurd (hz 0 ▸ ht2) (by omega), fun ht2 => absurd (hz 0 ▸ ht2) (by omega), fun ht2 => absurd (hz 0 ▸ ht2) (by omega), fun _ => ?_, fun ht2 => absurd (hz 0 ▸ ht2) (by omega), fun ht2 => absurd (hz 0 ▸ ht2) (by omega)⟩⟩
      rw [hz 1]; exact h
    · refine ⟨4, _, rfl, (hC.2.2.2.2.2.1 q).2.2.2.2.2.1 ht, fun H' hz h => ⟨fun ci r h64 hr ht2 => absurd (hz 0 ▸ ht2) (by omega), fun ht2 => absurd (hz 0 ▸ ht2) (by omega), fun ht2 => absurd (hz 0 ▸ ht2) (by omega), fun ht2 => absurd (hz 0 ▸ ht2) (by omega), fun ht2 => absurd (hz 0 ▸ ht2) (by omega), fun _ => ?_, fun ht2 => absurd (hz 0 ▸ ht2) (by omega)⟩⟩
      rw [hz 1]; exact h
  have hK := hX.2.2.2.2.2.2.2.2.2.2.1
  have key : ∀ (H' : Heap) (L : List Loc), H'[q]? = some ((vp_cell cA ((G 0 (q + 1) 1).toNat, .inr (.inr (.inr (.inr fun i : Nat => gq (G 3 (q + 1) i)))))).setSlot i.toNat (va_rf (gq v))) → H'.size = H.size → (∀ x : Nat, x ≠ q → H'[x]? = H[x]?) → (∀ x ∈ L, x.base = q) →
      W p l e R s m args below meth c H' (locs ++ L) cells slots (MQ below (gQ B M Z) args s R.cells R.slots (fun q => gn B 0 ≤ q)) (F0 m (pc + 1) lsr (rest.map cV)) := by
    intro H' L e1 e2 e3 hLb
    refine k p e R s m args below meth c H' _ cells slots lsr hX h1 h2 (gC_st hC (by decide) (by omega) (by omega) (okK2 hv0) hinv e2 e3 (fun hz => hput H' hz ?_)) (fun y hy => ?_) hS hOr
    · show H'[q]? = some (vp_cell _ _)
      rw [e1, vp_cell_q, vp_cell_q, arrV_store]
      exact congrArg some (congrArg (arrV _ _) (updV_gU (f := fun z => va_rf (gq z)) (mk := fun z => va_rf (gq z)) hi0))
    · rcases List.mem_append.mp hy with h | h
      · exact hL y h
      · rw [hLb y h]; omega
  by_cases hv9 : v = 0
  · subst hv9
    have e0 : ((2, 0) :: (0, i) :: (2, (q : Int) + 1) :: rest).map cV = Value.null :: Value.int (Int32.ofInt i) :: Value.ref q :: rest.map cV := by rw [List.map_cons, List.map_cons, List.map_cons, cV_rn hq0]; rfl
    rw [e0]
    refine va_WaastN (C := E) hX.1 hX.2.1 hat ((hK.2 t0 _ hty).1 _ (fun j : Nat => va_rf (gq (G 3 (q + 1) j)))) (fun h => by cases h) (by show ¬ (_ ∨ (arrV _ _ _).slots.size ≤ _); rw [arrV_size]; exact hvin) rfl rfl hd fun H' e1 e2 e3 => ?_
    rw [ixI hi0 hi] at e1 ⊢
    exact key H' _ e1 e2 e3 (fun x hx => by rw [List.mem_singleton.mp hx])
  · obtain ⟨x, cell, kC, rfl, hx0, g1, g2, g3, g4⟩ := gRv_cell hX hC hv hv9
    obtain ⟨kA, comp, k1, k2, k3, -⟩ := (hK.2 t0 _ hty).2
    obtain ⟨kE, hkE, -⟩ := Vm.findClass_spec k3
    have e0 : ((2, (x : Int) + 1) :: (0, i) :: (2, (q : Int) + 1) :: rest).map cV = Value.ref x :: Value.int (Int32.ofInt i) :: Value.ref q :: rest.map cV := by rw [List.map_cons, List.map_cons, List.map_cons, cV_rn hq0, cV_rn hx0]; rfl
    rw [e0]
    have hgx : va_rf (gq ((x : Int) + 1)) = .ref x := by rw [← cV_q, cV_rn hx0]
    refine W.aast hX.1 hX.2.1 hat (fun q h => by cases h) (fun h => by cases h) k1 k2 rfl hkE ⟨fun h => hvin (Or.inl h), by show _ < (arrV _ _ _).slots.size; rw [arrV_size]; exact Nat.not_le.mp fun h => hvin (Or.inr h)⟩ g1 (fun q h => by rw [g2] at h; cases h) g3 (g4 comp k3) rfl rfl hd fun H' e1 e2 e3 => ?_
    rw [ixI hi0 hi] at e1 ⊢
    exact key H' _ (by rw [hgx]; exact e1) e2 e3 (fun x hx => by rw [List.mem_singleton.mp hx])
/-- checkcast to a class of the list -/
theorem e_cast (ci : Nat) {idx : Nat} {r : vw_C} {ty : Nat → FieldType} {a : Int} (hd : decode (gcc M) pc = .ok (.checkcast idx, 3)) (hcl : gcls B ci r ty) (hw : Cond.classLink (gy M).cls idx r.1 ∈ gws B) (ht : a = 0 ∨ G 0 a 0 = 1 + ci) (k : EV l B M Z kc ks (pc + 3) ls ((2, a) :: rest) G) : EV l B M Z kc ks pc ls ((2, a) :: rest) G := by
  intro p e R s m args below meth c H locs cells slots lsr hX h1 h2 hC hL hS hO
  have hK := k p e R s m args below meth c H locs cells slots lsr hX h1 h2 hC hL hS hO
  by_cases h0 : a = 0
  · subst h0
    exact lv_castN hX.1 hX.2.1 hd hK
  · have ht := ht.resolve_left h0
    obtain ⟨q, rfl, hq0, hqs, -⟩ := gC_addr hC (a := a) (by omega)
    obtain ⟨r', hr', cell, q1, q2, q3, q4⟩ := (hC.2.2.2.2.2.1 q).1 ci r hcl.2.2.2.2.2.1 hcl.1 ht
    have er : r' = r := Option.some.inj (hr'.symm.trans hcl.1)
    subst er
    have hcls := (hX.2.2.2.2.2.2.2.2.2.2.1.1 ci _ hcl.1).2
    have e0 : ((2, (q : Int) + 1) :: rest).map cV = Value.ref q :: rest.map cV := by rw [List.map_cons, cV_rn hq0]
    rw [e0] at hK ⊢
    exact va_castS hX.1 hX.2.1 hX.2.2.2.2.1 (hX.2.2.2.2.2.1 _ hw) hcls ⟨cell, q1, by rw [q3]; rfl, by rw [q2]; exact hcls.1⟩ hd hK
/-- checkcast to Object[] -/
theorem e_castO {idx : Nat} {a : Int} (hd : decode (gcc M) pc = .ok (.checkcast idx, 3)) (hw : Cond.classLink (gy M).cls idx "[Ljava/lang/Object;" ∈ gws B) (ht : G 0 a 0 = 103) (k : EV l B M Z kc ks (pc + 3) ls ((2, a) :: rest) G) : EV l B M Z kc ks pc ls ((2, a) :: rest) G := by
  intro p e R s m args below meth c H locs cells slots lsr hX h1 h2 hC hL hS hO
  have hK := k p e R s m args below meth c H locs cells slots lsr hX h1 h2 hC hL hS hO
  obtain ⟨q, rfl, hq0, hqs, -⟩ := gC_addr hC (a := a) (by omega)
  have e0 : ((2, (q : Int) + 1) :: rest).map cV = Value.ref q :: rest.map cV := by rw [List.map_cons, cV_rn hq0]
  rw [e0] at hK ⊢
  obtain ⟨-, -, -, -, -, g4⟩ := (hX.2.2.2.2.2.2.2.2.2.2.1.2 3 _ rfl).2
  exact va_castA hX.1 hX.2.1 hX.2.2.2.2.1 (hX.2.2.2.2.2.1 _ hw) (one_P ((hC.2.2.2.2.2.1 q).2.2.2.2.1 ht)) 0 rfl g4 hd hK
/-- n elements copied from place i of array a to place j of array b, component c -/
def gCp (G : gH) (c : Nat) (a i b j n : Int) : gH := fun c' a' k => if c' = c ∧ a' = b ∧ j ≤ k ∧ k < j + n then G c a (i + (k - j)) else G c' a' k
theorem gCp_fn {α : Type} (mk : Int → α) {G : gH} {c : Nat} {a b : Int} {i j n : Int} (hi : 0 ≤ i) (hj : 0 ≤ j) (hn : 0 ≤ n) : va_cpy (fun k : Nat => mk (G c a k)) (fun k : Nat => mk (G c b k)) i.toNat j.toNat n.toNat = fun k : Nat => mk (gCp G c a i b j n c b k) := by
  funext k
  unfold va_cpy gCp
  by_cases h : j.toNat ≤ k ∧ k < j.toNat + n.toNat
  · rw [if_pos h, if_pos ⟨rfl, rfl, by omega, by omega⟩]
    dsimp only
    rw [show ((i.toNat + (k - j.toNat) : Nat) : Int) = i + ((k : Int) - j) by omega]
  · rw [if_neg h, if_neg (fun h2 => h (by omega))]
end R4
theorem nnI {z : Int32} (hz : ¬ z < 0) : z.toInt = (z.toNatClampNeg : Int) := by
  have hz0 : (0 : Int) ≤ z.toInt := by
    have := Int32.not_lt.mp hz
    simpa using Int32.le_iff_toInt_le.mp this
  show z.toInt = ((z.toInt.toNat : Nat) : Int)
  omega
section R5
variable {l : Launch} {B : gB} {M : gM} {Z : Int → gH → Prop} {kc ks pc : Nat} {ls rest : List gV} {G : gH}
theorem e_copyi {a b i j n : Int} {idx : Nat} (hd : decode (gcc M) pc = .ok (.invokestatic idx, 3)) (hw : Cond.methodLink (gy M).cls idx arraycopyName ∈ gws B) (hw2 : Cond.native arraycopyName ∈ gws B) (hw3 : Cond.static arraycopyName ∈ gws B) (hw4 : Cond.initialized "java/lang/System" ∈ gws B) (hfr : 1 ≤ gfr M) (hlo : 26 ≤ glo M) (hrs : rest.length ≤ 4)
    (ha : G 0 a 0 = 100) (hb : G 0 b 0 = 100) (hbb : (gn B 0 : Int) < b) (hi0 : 0 ≤ i) (hj0 : 0 ≤ j) (hn0 : 0 ≤ n) (hin1 : i + n ≤ G 0 a 1) (hjn1 : j + n ≤ G 0 b 1) (hinv : ginv B G → ginv B (gCp G 1 a i b j n)) (k : EV l B M Z kc ks (pc + 3) ls rest (gCp G 1 a i b j n)) : EV l B M Z kc ks pc ls ((0, n) :: (0, j) :: (2, b) :: (0, i) :: (2, a) :: rest) G := by
  intro p e R s m args below meth c H locs cells slots lsr hX h1 h2 hC hL hS hO
  obtain ⟨qa, rfl, ha0, has, -⟩ := gC_addr hC (a := a) (by omega)
  obtain ⟨qb, rfl, hb0, hbs, -⟩ := gC_addr hC (a := b) (by omega)
  have hO1 := (List.forall_mem_cons.mp hO).2
  have hO2 := (List.forall_mem_cons.mp hO1).2
  have hO3 := (List.forall_mem_cons.mp hO2).2
  have hin := okV_i.mp (List.forall_mem_cons.mp hO).1
  have hij := okV_i.mp (List.forall_mem_cons.mp hO1).1
  have hii := okV_i.mp (List.forall_mem_cons.mp hO3).1
  have hOr := (List.forall_mem_cons.mp (List.forall_mem_cons.mp hO3).2).2
  have e0 : ((0, n) :: (0, j) :: (2, (qb : Int) + 1) :: (0, i) :: (2, (qa : Int) + 1) :: rest).map cV = Value.int (Int32.ofInt n) :: Value.int (Int32.ofInt j) :: Value.ref qb :: Value.int (Int32.ofInt i) :: Value.ref qa :: rest.map cV := by
    rw [List.map_cons, List.map_cons, List.map_cons, List.map_cons, List.map_cons, cV_rn ha0, cV_rn hb0]; rfl
  rw [e0]
  have hla := hC.2.2.2.2.2.2.2.1 (qa + 1)
  have hlb := hC.2.2.2.2.2.2.2.1 (qb + 1)
  have hata := (hC.2.2.2.2.2.1 qa).2.1 ha
  have hatb := (hC.2.2.2.2.2.1 qb).2.1 hb
  have hK := hX.2.2.2.2.2.2.2.2.2.2.1
  have n1 : ¬ Int32.ofInt i < 0 := by rw [Int32.lt_iff_toInt_lt, tiI hii, Int32.toInt_zero]; omega
  have n2 : ¬ Int32.ofInt j < 0 := by rw [Int32.lt_iff_toInt_lt, tiI hij, Int32.toInt_zero]; omega
  have n3 : ¬ Int32.ofInt n < 0 := by rw [Int32.lt_iff_toInt_lt, tiI hin, Int32.toInt_zero]; omega
  have hcat : ∀ r : List gV, ((r.map cV).map fun v => v.category).sum ≤ 2 * r.length := by
    intro r
    induction r with
    | nil => exact Nat.le_refl _
    | cons x r ih =>
      have hx : (cV x).category ≤ 2 := by rcases lv_cat (cV x) with h | h <;> omega
      simp only [List.map_cons, List.sum_cons, List.length_cons] at ih ⊢
      omega
  have hcr := hcat rest
  have hfR := hX.2.2.2.2.2.2.2.2.1
  have hlR := hX.2.2.2.2.2.2.2.2.2.1
  have hnat5 : nativeFrameWords "java/lang/System" "arraycopy" 5 = 7 := by decide
  intro T hT X
  obtain ⟨-, k0, hk0, cm0, hkk0⟩ := (hK.2 0 _ rfl).1 (G 0 (qa + 1) 1).toNat (fun k : Nat => (fun z => Value.int (Int32.ofInt z)) (G 1 (qa + 1) k))
  obtain ⟨-, k1, hk1, cm1, hkk1⟩ := (hK.2 0 _ rfl).1 (G 0 (qb + 1) 1).toNat (fun k : Nat => (fun z => Value.int (Int32.ofInt z)) (G 1 (qb + 1) k))
  obtain ⟨vm', X', step⟩ := X.arraycopy hX.1 hX.2.2.2.2.1 (hX.2.2.2.2.2.1 _ hw) (hX.2.2.2.2.2.1 _ hw2) (hX.2.2.2.2.2.1 _ hw3) (hX.2.2.2.2.2.1 _ hw4) (src := qa) (dst := qb) (cs := vp_cell (gn B 1) ((G 0 (qa + 1) 1).toNat, .inl fun k : Nat => Int32.ofInt (G 1 (qa + 1) k))) (cd := vp_cell (gn B 1) ((G 0 (qb + 1) 1).toNat, .inl fun k : Nat => Int32.ofInt (G 1 (qb + 1) k))) (srcPos := Int32.ofInt i) (destPos := Int32.ofInt j) (n := Int32.ofInt n) (by rw [hT]; exact hata) (by rw [hT]; exact hatb)
    (fun _ h => by cases h) (fun _ h => by cases h) (fun h => by cases h) (fun h => by cases h) hk0 hk1 hkk0 hkk1 rfl n1 n2 n3
    (by rw [tiI hii, tiI hin]; show ¬ _ > ((arrV _ _ _).slots.size : Int); rw [arrV_size]; omega)
    (by rw [tiI hij, tiI hin]; show ¬ _ > ((arrV _ _ _).slots.size : Int); rw [arrV_size]; omega)
    (fun vm₁ hal k hk => by
      have e : (vp_cell (gn B 1) ((G 0 (qa + 1) 1).toNat, .inl fun k : Nat => Int32.ofInt (G 1 (qa + 1) k))).slots.getD ((Int32.ofInt i).toNatClampNeg + k) .null = (fun z => Value.int (Int32.ofInt z)) (G 1 (qa + 1) (i + k)) := by
        show (arrV _ _ _).slots.getD _ _ = _
        rw [Array.getD_eq_getD_getElem?, arrV_read _ _ (by rw [ixI hi0 hii]; rw [ixI hn0 hin] at hk; omega), ixI hi0 hii]
        show (fun z => Value.int (Int32.ofInt z)) (G 1 (qa + 1) ((i.toNat + k : Nat) : Int)) = _
        rw [show ((i.toNat + k : Nat) : Int) = i + k by omega]
      rw [e]
      exact ⟨rfl, trivial⟩)
    (g := F0 m pc lsr (.int (Int32.ofInt n) :: .int (Int32.ofInt j) :: .ref qb :: .int (Int32.ofInt i) :: .ref qa :: rest.map cV)) rfl (hS.1.trans hX.2.2.1.symm) (rest := rest.map cV) rfl (by rw [hX.2.1]; exact hd) (by omega) (by show 2 * 0 + _ + _ ≤ _; omega)
  have e1 : copied (vp_cell (gn B 1) ((G 0 (qa + 1) 1).toNat, .inl fun k : Nat => Int32.ofInt (G 1 (qa + 1) k))) (vp_cell (gn B 1) ((G 0 (qb + 1) 1).toNat, .inl fun k : Nat => Int32.ofInt (G 1 (qb + 1) k))) (Int32.ofInt i) (Int32.ofInt j) (Int32.ofInt n) = arrV (gn B 1) (G 0 (qb + 1) 1).toNat (fun k : Nat => (fun z => Value.int (Int32.ofInt z)) (gCp G 1 (qa + 1) i (qb + 1) j n 1 (qb + 1) k)) := by
    rw [vp_cell_i, vp_cell_i]
    unfold copied
    rw [ixI hi0 hii, ixI hj0 hij, ixI hn0 hin]
    rw [va_copied (fun z => Value.int (Int32.ofInt z)) (gn B 1) (gn B 1) (fun k : Nat => G 1 (qa + 1) k) (fun k : Nat => G 1 (qb + 1) k) (by omega)]
    refine congrArg (arrV _ _) ?_
    have := gCp_fn (fun z => z) (G := G) (c := 1) (a := (qa : Int) + 1) (b := (qb : Int) + 1) hi0 hj0 hn0
    funext z
    exact congrArg (fun z => Value.int (Int32.ofInt z)) (congrFun this z)
  rw [e1] at X' step
  generalize hH1 : H.setIfInBounds qb (arrV (gn B 1) (G 0 (qb + 1) 1).toNat (fun k : Nat => (fun z => Value.int (Int32.ofInt z)) (gCp G 1 (qa + 1) i (qb + 1) j n 1 (qb + 1) k))) = H1
  have z1 : H1.size = H.size := by rw [← hH1]; simp
  have o1 : ∀ x : Nat, x ≠ qb → H1[x]? = H[x]? := fun x hx => by rw [← hH1]; simp [Array.getElem?_setIfInBounds, Ne.symm hx]
  have f1 : H1[qb]? = some (arrV (gn B 1) (G 0 (qb + 1) 1).toNat (fun k : Nat => (fun z => Value.int (Int32.ofInt z)) (gCp G 1 (qa + 1) i (qb + 1) j n 1 (qb + 1) k))) := by rw [← hH1]; simp [Array.getElem?_setIfInBounds, hbs]
  have hz : ∀ z : Int, gCp G 1 (qa + 1) i (qb + 1) j n 0 (qb + 1) z = G 0 (qb + 1) z := fun z => if_neg (fun h => absurd h.1 (by decide))
  have hG' : gC B (gCp G 1 (qa + 1) i (qb + 1) j n) H1 := by
    refine gC_upd hC (by omega) (by omega) z1 o1 (fun c i k hi => if_neg (fun h => hi h.2.1)) hz (fun c' z => ?_) ⟨fun ci r h64 hr ht2 => absurd (hz 0 ▸ ht2) (by omega), fun _ => ?_, fun ht2 => absurd (hz 0 ▸ ht2) (by omega), fun ht2 => absurd (hz 0 ▸ ht2) (by omega), fun ht2 => absurd (hz 0 ▸ ht2) (by omega), fun ht2 => absurd (hz 0 ▸ ht2) (by omega), fun ht2 => absurd (hz 0 ▸ ht2) (by omega)⟩ (hinv hC.2.2.2.2.2.2.2.2)
    · unfold gCp
      split
      · rename_i h; rw [h.1]; exact hC.2.2.2.2.1 1 (qa + 1) _
      · exact hC.2.2.2.2.1 c' (qb + 1) z
    · show H1[qb]? = some (vp_cell _ _)
      rw [f1, hz 1, vp_cell_i]
  obtain ⟨t, a1, b1⟩ := k p e R s m args below meth c H1 _ cells slots lsr hX h1 h2 hG' (fun y hy => by
    rcases List.mem_append.mp hy with h | h
    · exact hL y h
    · obtain ⟨z, -, hz⟩ := List.mem_map.mp h
      rw [← hz]; show gn B 0 ≤ qb; omega) hS hOr _ (by rw [← hH1, ← hT]; rfl) X'
  exact ⟨t, step t a1, b1⟩
theorem e_copyl {a b i j n : Int} {idx : Nat} (hd : decode (gcc M) pc = .ok (.invokestatic idx, 3)) (hw : Cond.methodLink (gy M).cls idx arraycopyName ∈ gws B) (hw2 : Cond.native arraycopyName ∈ gws B) (hw3 : Cond.static arraycopyName ∈ gws B) (hw4 : Cond.initialized "java/lang/System" ∈ gws B) (hfr : 1 ≤ gfr M) (hlo : 26 ≤ glo M) (hrs : rest.length ≤ 4)
    (ha : G 0 a 0 = 101) (hb : G 0 b 0 = 101) (hbb : (gn B 0 : Int) < b) (hi0 : 0 ≤ i) (hj0 : 0 ≤ j) (hn0 : 0 ≤ n) (hin1 : i + n ≤ G 0 a 1) (hjn1 : j + n ≤ G 0 b 1) (hinv : ginv B G → ginv B (gCp G 2 a i b j n)) (k : EV l B M Z kc ks (pc + 3) ls rest (gCp G 2 a i b j n)) : EV l B M Z kc ks pc ls ((0, n) :: (0, j) :: (2, b) :: (0, i) :: (2, a) :: rest) G := by
  intro p e R s m args below meth c H locs cells slots lsr hX h1 h2 hC hL hS hO
  obtain ⟨qa, rfl, ha0, has, -⟩ := gC_addr hC (a := a) (by omega)
  obtain ⟨qb, rfl, hb0, hbs, -⟩ := gC_addr hC (a := b) (by omega)
  have hO1 := (List.forall_mem_cons.mp hO).2
  have hO2 := (List.forall_mem_cons.mp hO1).2
  have hO3 := (List.forall_mem_cons.mp hO2).2
  have hin := okV_i.mp (List.forall_mem_cons.mp hO).1
  have hij := okV_i.mp (List.forall_mem_cons.mp hO1).1
  have hii := okV_i.mp (List.forall_mem_cons.mp hO3).1
  have hOr := (List.forall_mem_cons.mp (List.forall_mem_cons.mp hO3).2).2
  have e0 : ((0, n) :: (0, j) :: (2, (qb : Int) + 1) :: (0, i) :: (2, (qa : Int) + 1) :: rest).map cV = Value.int (Int32.ofInt n) :: Value.int (Int32.ofInt j) :: Value.ref qb :: Value.int (Int32.ofInt i) :: Value.ref qa :: rest.map cV := by
    rw [List.map_cons, List.map_cons, List.map_cons, List.map_cons, List.map_cons, cV_rn ha0, cV_rn hb0]; rfl
  rw [e0]
  have hla := hC.2.2.2.2.2.2.2.1 (qa + 1)
  have hlb := hC.2.2.2.2.2.2.2.1 (qb + 1)
  have hata := (hC.2.2.2.2.2.1 qa).2.2.1 ha
  have hatb := (hC.2.2.2.2.2.1 qb).2.2.1 hb
  have hK := hX.2.2.2.2.2.2.2.2.2.2.1
  have n1 : ¬ Int32.ofInt i < 0 := by rw [Int32.lt_iff_toInt_lt, tiI hii, Int32.toInt_zero]; omega
  have n2 : ¬ Int32.ofInt j < 0 := by rw [Int32.lt_iff_toInt_lt, tiI hij, Int32.toInt_zero]; omega
  have n3 : ¬ Int32.ofInt n < 0 := by rw [Int32.lt_iff_toInt_lt, tiI hin, Int32.toInt_zero]; omega
  have hcat : ∀ r : List gV, ((r.map cV).map fun v => v.category).sum ≤ 2 * r.length := by
    intro r
    induction r with
    | nil => exact Nat.le_refl _
    | cons x r ih =>
      have hx : (cV x).category ≤ 2 := by rcases lv_cat (cV x) with h | h <;> omega
      simp only [List.map_cons, List.sum_cons, List.length_cons] at ih ⊢
      omega
  have hcr := hcat rest
  have hfR := hX.2.2.2.2.2.2.2.2.1
  have hlR := hX.2.2.2.2.2.2.2.2.2.1
  have hnat5 : nativeFrameWords "java/lang/System" "arraycopy" 5 = 7 := by decide
  intro T hT X
  obtain ⟨-, k0, hk0, cm0, hkk0⟩ := (hK.2 1 _ rfl).1 (G 0 (qa + 1) 1).toNat (fun k : Nat => (fun z => Value.long (Int64.ofInt z)) (G 2 (qa + 1) k))
  obtain ⟨-, k1, hk1, cm1, hkk1⟩ := (hK.2 1 _ rfl).1 (G 0 (qb + 1) 1).toNat (fun k : Nat => (fun z => Value.long (Int64.ofInt z)) (G 2 (qb + 1) k))
  obtain ⟨vm', X', step⟩ := X.arraycopy hX.1 hX.2.2.2.2.1 (hX.2.2.2.2.2.1 _ hw) (hX.2.2.2.2.2.1 _ hw2) (hX.2.2.2.2.2.1 _ hw3) (hX.2.2.2.2.2.1 _ hw4) (src := qa) (dst := qb) (cs := vp_cell (gn B 2) ((G 0 (qa + 1) 1).toNat, .inr (.inl fun k : Nat => Int64.ofInt (G 2 (qa + 1) k)))) (cd := vp_cell (gn B 2) ((G 0 (qb + 1) 1).toNat, .inr (.inl fun k : Nat => Int64.ofInt (G 2 (qb + 1) k)))) (srcPos := Int32.ofInt i) (destPos := Int32.ofInt j) (n := Int32.ofInt n) (by rw [hT]; exact hata) (by rw [hT]; exact hatb)
    (fun _ h => by cases h) (fun _ h => by cases h) (fun h => by cases h) (fun h => by cases h) hk0 hk1 hkk0 hkk1 rfl n1 n2 n3
    (by rw [tiI hii, tiI hin]; show ¬ _ > ((arrV _ _ _).slots.size : Int); rw [arrV_size]; omega)
    (by rw [tiI hij, tiI hin]; show ¬ _ > ((arrV _ _ _).slots.size : Int); rw [arrV_size]; omega)
    (fun vm₁ hal k hk => by
      have e : (vp_cell (gn B 2) ((G 0 (qa + 1) 1).toNat, .inr (.inl fun k : Nat => Int64.ofInt (G 2 (qa + 1) k)))).slots.getD ((Int32.ofInt i).toNatClampNeg + k) .null = (fun z => Value.long (Int64.ofInt z)) (G 2 (qa + 1) (i + k)) := by
        show (arrV _ _ _).slots.getD _ _ = _
        rw [Array.getD_eq_getD_getElem?, arrV_read _ _ (by rw [ixI hi0 hii]; rw [ixI hn0 hin] at hk; omega), ixI hi0 hii]
        show (fun z => Value.long (Int64.ofInt z)) (G 2 (qa + 1) ((i.toNat + k : Nat) : Int)) = _
        rw [show ((i.toNat + k : Nat) : Int) = i + k by omega]
      rw [e]
      exact ⟨rfl, trivial⟩)
    (g := F0 m pc lsr (.int (Int32.ofInt n) :: .int (Int32.ofInt j) :: .ref qb :: .int (Int32.ofInt i) :: .ref qa :: rest.map cV)) rfl (hS.1.trans hX.2.2.1.symm) (rest := rest.map cV) rfl (by rw [hX.2.1]; exact hd) (by omega) (by show 2 * 0 + _ + _ ≤ _; omega)
  have e1 : copied (vp_cell (gn B 2) ((G 0 (qa + 1) 1).toNat, .inr (.inl fun k : Nat => Int64.ofInt (G 2 (qa + 1) k)))) (vp_cell (gn B 2) ((G 0 (qb + 1) 1).toNat, .inr (.inl fun k : Nat => Int64.ofInt (G 2 (qb + 1) k)))) (Int32.ofInt i) (Int32.ofInt j) (Int32.ofInt n) = arrV (gn B 2) (G 0 (qb + 1) 1).toNat (fun k : Nat => (fun z => Value.long (Int64.ofInt z)) (gCp G 2 (qa + 1) i (qb + 1) j n 2 (qb + 1) k)) := by
    rw [vp_cell_l, vp_cell_l]
    unfold copied
    rw [ixI hi0 hii, ixI hj0 hij, ixI hn0 hin]
    rw [va_copied (fun z => Value.long (Int64.ofInt z)) (gn B 2) (gn B 2) (fun k : Nat => G 2 (qa + 1) k) (fun k : Nat => G 2 (qb + 1) k) (by omega)]
    refine congrArg (arrV _ _) ?_
    have := gCp_fn (fun z => z) (G := G) (c := 2) (a := (qa : Int) + 1) (b := (qb : Int) + 1) hi0 hj0 hn0
    funext z
    exact congrArg (fun z => Value.long (Int64.ofInt z)) (congrFun this z)
  rw [e1] at X' step
  generalize hH1 : H.setIfInBounds qb (arrV (gn B 2) (G 0 (qb + 1) 1).toNat (fun k : Nat => (fun z => Value.long (Int64.ofInt z)) (gCp G 2 (qa + 1) i (qb + 1) j n 2 (qb + 1) k))) = H1
  have z1 : H1.size = H.size := by rw [← hH1]; simp
  have o1 : ∀ x : Nat, x ≠ qb → H1[x]? = H[x]? := fun x hx => by rw [← hH1]; simp [Array.getElem?_setIfInBounds, Ne.symm hx]
  have f1 : H1[qb]? = some (arrV (gn B 2) (G 0 (qb + 1) 1).toNat (fun k : Nat => (fun z => Value.long (Int64.ofInt z)) (gCp G 2 (qa + 1) i (qb + 1) j n 2 (qb + 1) k))) := by rw [← hH1]; simp [Array.getElem?_setIfInBounds, hbs]
  have hz : ∀ z : Int, gCp G 2 (qa + 1) i (qb + 1) j n 0 (qb + 1) z = G 0 (qb + 1) z := fun z => if_neg (fun h => absurd h.1 (by decide))
  have hG' : gC B (gCp G 2 (qa + 1) i (qb + 1) j n) H1 := by
    refine gC_upd hC (by omega) (by omega) z1 o1 (fun c i k hi => if_neg (fun h => hi h.2.1)) hz (fun c' z => ?_) ⟨fun ci r h64 hr ht2 => absurd (hz 0 ▸ ht2) (by omega), fun ht2 => absurd (hz 0 ▸ ht2) (by omega), fun _ => ?_, fun ht2 => absurd (hz 0 ▸ ht2) (by omega), fun ht2 => absurd (hz 0 ▸ ht2) (by omega), fun ht2 => absurd (hz 0 ▸ ht2) (by omega), fun ht2 => absurd (hz 0 ▸ ht2) (by omega)⟩ (hinv hC.2.2.2.2.2.2.2.2)
    · unfold gCp
      split
      · rename_i h; rw [h.1]; exact hC.2.2.2.2.1 2 (qa + 1) _
      · exact hC.2.2.2.2.1 c' (qb + 1) z
    · show H1[qb]? = some (vp_cell _ _)
      rw [f1, hz 1, vp_cell_l]
  obtain ⟨t, a1, b1⟩ := k p e R s m args below meth c H1 _ cells slots lsr hX h1 h2 hG' (fun y hy => by
    rcases List.mem_append.mp hy with h | h
    · exact hL y h
    · obtain ⟨z, -, hz⟩ := List.mem_map.mp h
      rw [← hz]; show gn B 0 ≤ qb; omega) hS hOr _ (by rw [← hH1, ← hT]; rfl) X'
  exact ⟨t, step t a1, b1⟩
theorem e_copyq {a b i j n : Int} {idx : Nat} (hd : decode (gcc M) pc = .ok (.invokestatic idx, 3)) (hw : Cond.methodLink (gy M).cls idx arraycopyName ∈ gws B) (hw2 : Cond.native arraycopyName ∈ gws B) (hw3 : Cond.static arraycopyName ∈ gws B) (hw4 : Cond.initialized "java/lang/System" ∈ gws B) (hfr : 1 ≤ gfr M) (hlo : 26 ≤ glo M) (hrs : rest.length ≤ 4)
    (ha : G 0 a 0 = 103) (hb : G 0 b 0 = 103) (hbb : (gn B 0 : Int) < b) (hi0 : 0 ≤ i) (hj0 : 0 ≤ j) (hn0 : 0 ≤ n) (hin1 : i + n ≤ G 0 a 1) (hjn1 : j + n ≤ G 0 b 1) (hel : ∀ k : Int, 0 ≤ k → k < n → gRv B G "java/lang/Object" (G 3 a (i + k))) (hinv : ginv B G → ginv B (gCp G 3 a i b j n)) (k : EV l B M Z kc ks (pc + 3) ls rest (gCp G 3 a i b j n)) : EV l B M Z kc ks pc ls ((0, n) :: (0, j) :: (2, b) :: (0, i) :: (2, a) :: rest) G := by
  intro p e R s m args below meth c H locs cells slots lsr hX h1 h2 hC hL hS hO
  obtain ⟨qa, rfl, ha0, has, -⟩ := gC_addr hC (a := a) (by omega)
  obtain ⟨qb, rfl, hb0, hbs, -⟩ := gC_addr hC (a := b) (by omega)
  have hO1 := (List.forall_mem_cons.mp hO).2
  have hO2 := (List.forall_mem_cons.mp hO1).2
  have hO3 := (List.forall_mem_cons.mp hO2).2
  have hin := okV_i.mp (List.forall_mem_cons.mp hO).1
  have hij := okV_i.mp (List.forall_mem_cons.mp hO1).1
  have hii := okV_i.mp (List.forall_mem_cons.mp hO3).1
  have hOr := (List.forall_mem_cons.mp (List.forall_mem_cons.mp hO3).2).2
  have e0 : ((0, n) :: (0, j) :: (2, (qb : Int) + 1) :: (0, i) :: (2, (qa : Int) + 1) :: rest).map cV = Value.int (Int32.ofInt n) :: Value.int (Int32.ofInt j) :: Value.ref qb :: Value.int (Int32.ofInt i) :: Value.ref qa :: rest.map cV := by
    rw [List.map_cons, List.map_cons, List.map_cons, List.map_cons, List.map_cons, cV_rn ha0, cV_rn hb0]; rfl
  rw [e0]
  have hla := hC.2.2.2.2.2.2.2.1 (qa + 1)
  have hlb := hC.2.2.2.2.2.2.2.1 (qb + 1)
  have hata := (hC.2.2.2.2.2.1 qa).2.2.2.2.1 ha
  have hatb := (hC.2.2.2.2.2.1 qb).2.2.2.2.1 hb
  have hK := hX.2.2.2.2.2.2.2.2.2.2.1
  have n1 : ¬ Int32.ofInt i < 0 := by rw [Int32.lt_iff_toInt_lt, tiI hii, Int32.toInt_zero]; omega
  have n2 : ¬ Int32.ofInt j < 0 := by rw [Int32.lt_iff_toInt_lt, tiI hij, Int32.toInt_zero]; omega
  have n3 : ¬ Int32.ofInt n < 0 := by rw [Int32.lt_iff_toInt_lt, tiI hin, Int32.toInt_zero]; omega
  have hcat : ∀ r : List gV, ((r.map cV).map fun v => v.category).sum ≤ 2 * r.length := by
    intro r
    induction r with
    | nil => exact Nat.le_refl _
    | cons x r ih =>
      have hx : (cV x).category ≤ 2 := by rcases lv_cat (cV x) with h | h <;> omega
      simp only [List.map_cons, List.sum_cons, List.length_cons] at ih ⊢
      omega
  have hcr := hcat rest
  have hfR := hX.2.2.2.2.2.2.2.2.1
  have hlR := hX.2.2.2.2.2.2.2.2.2.1
  have hnat5 : nativeFrameWords "java/lang/System" "arraycopy" 5 = 7 := by decide
  intro T hT X
  obtain ⟨-, k0, hk0, cm0, hkk0⟩ := (hK.2 3 _ rfl).1 (G 0 (qa + 1) 1).toNat (fun k : Nat => (fun z => va_rf (gq z)) (G 3 (qa + 1) k))
  obtain ⟨-, k1, hk1, cm1, hkk1⟩ := (hK.2 3 _ rfl).1 (G 0 (qb + 1) 1).toNat (fun k : Nat => (fun z => va_rf (gq z)) (G 3 (qb + 1) k))
  obtain ⟨vm', X', step⟩ := X.arraycopy hX.1 hX.2.2.2.2.1 (hX.2.2.2.2.2.1 _ hw) (hX.2.2.2.2.2.1 _ hw2) (hX.2.2.2.2.2.1 _ hw3) (hX.2.2.2.2.2.1 _ hw4) (src := qa) (dst := qb) (cs := vp_cell (gn B 4) ((G 0 (qa + 1) 1).toNat, .inr (.inr (.inr (.inr fun k : Nat => gq (G 3 (qa + 1) k)))))) (cd := vp_cell (gn B 4) ((G 0 (qb + 1) 1).toNat, .inr (.inr (.inr (.inr fun k : Nat => gq (G 3 (qb + 1) k)))))) (srcPos := Int32.ofInt i) (destPos := Int32.ofInt j) (n := Int32.ofInt n) (by rw [hT]; exact hata) (by rw [hT]; exact hatb)
    (fun _ h => by cases h) (fun _ h => by cases h) (fun h => by cases h) (fun h => by cases h) hk0 hk1 hkk0 hkk1 rfl n1 n2 n3
    (by rw [tiI hii, tiI hin]; show ¬ _ > ((arrV _ _ _).slots.size : Int); rw [arrV_size]; omega)
    (by rw [tiI hij, tiI hin]; show ¬ _ > ((arrV _ _ _).slots.size : Int); rw [arrV_size]; omega)
    (fun vm₁ hal k hk => by
      have e : (vp_cell (gn B 4) ((G 0 (qa + 1) 1).toNat, .inr (.inr (.inr (.inr fun k : Nat => gq (G 3 (qa + 1) k)))))).slots.getD ((Int32.ofInt i).toNatClampNeg + k) .null = va_rf (gq (G 3 (qa + 1) (i + k))) := by
        show (arrV _ _ _).slots.getD _ _ = _
        rw [Array.getD_eq_getD_getElem?, arrV_read _ _ (by rw [ixI hi0 hii]; rw [ixI hn0 hin] at hk; omega), ixI hi0 hii]
        show va_rf (gq (G 3 (qa + 1) ((i.toNat + k : Nat) : Int))) = _
        rw [show ((i.toNat + k : Nat) : Int) = i + k by omega]
      rw [e]
      by_cases hv9 : G 3 (qa + 1) (i + k) = 0
      · rw [hv9]; exact ⟨rfl, trivial⟩
      · obtain ⟨x, cell, kC, hx, hx0, g1, g2, g3, g4⟩ := gRv_cell hX hC (hel k (by omega) (by rw [ixI hn0 hin] at hk; omega)) hv9
        obtain ⟨kA, comp, r1, r2, r3, -⟩ := (hK.2 3 _ rfl).2
        cases hk1.symm.trans r1
        cases hkk1.symm.trans r2
        obtain ⟨kE, hkE, -⟩ := Vm.findClass_spec r3
        obtain ⟨kC', hkC', -⟩ := hal.2.2 _ _ g3
        obtain ⟨kE', hkE', -⟩ := hal.2.2 _ _ hkE
        have hgx : va_rf (gq (G 3 (qa + 1) (i + k))) = .ref x := by rw [hx, ← cV_q, cV_rn hx0]
        rw [hgx]
        refine ⟨rfl, cell, (show T.heap[x]? = some cell by rw [hT]; exact g1), (fun q h => by rw [g2] at h; cases h), ⟨kC', hkC'⟩, ⟨kE', hkE'⟩, ?_⟩
        show vm₁.assignable _ _ = true
        rw [hal.assignable]
        exact g4 _ r3)
    (g := F0 m pc lsr (.int (Int32.ofInt n) :: .int (Int32.ofInt j) :: .ref qb :: .int (Int32.ofInt i) :: .ref qa :: rest.map cV)) rfl (hS.1.trans hX.2.2.1.symm) (rest := rest.map cV) rfl (by rw [hX.2.1]; exact hd) (by omega) (by show 2 * 0 + _ + _ ≤ _; omega)
  have e1 : copied (vp_cell (gn B 4) ((G 0 (qa + 1) 1).toNat, .inr (.inr (.inr (.inr fun k : Nat => gq (G 3 (qa + 1) k)))))) (vp_cell (gn B 4) ((G 0 (qb + 1) 1).toNat, .inr (.inr (.inr (.inr fun k : Nat => gq (G 3 (qb + 1) k)))))) (Int32.ofInt i) (Int32.ofInt j) (Int32.ofInt n) = arrV (gn B 4) (G 0 (qb + 1) 1).toNat (fun k : Nat => (fun z => va_rf (gq z)) (gCp G 3 (qa + 1) i (qb + 1) j n 3 (qb + 1) k)) := by
    rw [vp_cell_q, vp_cell_q]
    unfold copied
    rw [ixI hi0 hii, ixI hj0 hij, ixI hn0 hin]
    rw [va_copied (fun z => va_rf (gq z)) (gn B 4) (gn B 4) (fun k : Nat => G 3 (qa + 1) k) (fun k : Nat => G 3 (qb + 1) k) (by omega)]
    refine congrArg (arrV _ _) ?_
    have := gCp_fn (fun z => z) (G := G) (c := 3) (a := (qa : Int) + 1) (b := (qb : Int) + 1) hi0 hj0 hn0
    funext z
    exact congrArg (fun z => va_rf (gq z)) (congrFun this z)
  rw [e1] at X' step
  generalize hH1 : H.setIfInBounds qb (arrV (gn B 4) (G 0 (qb + 1) 1).toNat (fun k : Nat => (fun z => va_rf (gq z)) (gCp G 3 (qa + 1) i (qb + 1) j n 3 (qb + 1) k))) = H1
  have z1 : H1.size = H.size := by rw [← hH1]; simp
  have o1 : ∀ x : Nat, x ≠ qb → H1[x]? = H[x]? := fun x hx => by rw [← hH1]; simp [Array.getElem?_setIfInBounds, Ne.symm hx]
  have f1 : H1[qb]? = some (arrV (gn B 4) (G 0 (qb + 1) 1).toNat (fun k : Nat => (fun z => va_rf (gq z)) (gCp G 3 (qa + 1) i (qb + 1) j n 3 (qb + 1) k))) := by rw [← hH1]; simp [Array.getElem?_setIfInBounds, hbs]
  have hz : ∀ z : Int, gCp G 3 (qa + 1) i (qb + 1) j n 0 (qb + 1) z = G 0 (qb + 1) z := fun z => if_neg (fun h => absurd h.1 (by decide))
  have hG' : gC B (gCp G 3 (qa + 1) i (qb + 1) j n) H1 := by
    refine gC_upd hC (by omega) (by omega) z1 o1 (fun c i k hi => if_neg (fun h => hi h.2.1)) hz (fun c' z => ?_) ⟨fun ci r h64 hr ht2 => absurd (hz 0 ▸ ht2) (by omega), fun ht2 => absurd (hz 0 ▸ ht2) (by omega), fun ht2 => absurd (hz 0 ▸ ht2) (by omega), fun ht2 => absurd (hz 0 ▸ ht2) (by omega), fun _ => ?_, fun ht2 => absurd (hz 0 ▸ ht2) (by omega), fun ht2 => absurd (hz 0 ▸ ht2) (by omega)⟩ (hinv hC.2.2.2.2.2.2.2.2)
    · unfold gCp
      split
      · rename_i h; rw [h.1]; exact hC.2.2.2.2.1 3 (qa + 1) _
      · exact hC.2.2.2.2.1 c' (qb + 1) z
    · show H1[qb]? = some (vp_cell _ _)
      rw [f1, hz 1, vp_cell_q]
  obtain ⟨t, a1, b1⟩ := k p e R s m args below meth c H1 _ cells slots lsr hX h1 h2 hG' (fun y hy => by
    rcases List.mem_append.mp hy with h | h
    · exact hL y h
    · obtain ⟨z, -, hz⟩ := List.mem_map.mp h
      rw [← hz]; show gn B 0 ≤ qb; omega) hS hOr _ (by rw [← hH1, ← hT]; rfl) X'
  exact ⟨t, step t a1, b1⟩
end R5
