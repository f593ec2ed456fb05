/-! THE CONSTRUCTORS, 1 (printed by wip/tools/ctor.py): the heap as a list of stores; (c, i, j, k, v): v (k = 0), the cell b + v (1), the library's empty array (2); c = 9: a new cell of kind i, length j -/
abbrev zOp : Type := Nat × Int × Int × Nat × Int
def zVl (b : Nat) (z : Int) (k : Nat) (v : Int) : Int := bif Nat.beq k 0 then v else bif Nat.beq k 1 then (b : Int) + v else z
def zG0 (b : Nat) (z : Int) : gH := fun c i j => if c = 9 then (if i = 0 ∧ j = 0 then (b : Int) + 1 else 0) else if c = 0 ∧ i = z ∧ j = 0 then 105 else 0
def zH (b : Nat) (z : Int) (l : List zOp) : gH := match l with
  | [] => zG0 b z
  | o :: l => bif Nat.beq o.1 9 then gN (zH b z l) o.2.1 o.2.2.1 else gU (zH b z l) o.1 ((b : Int) + o.2.1) o.2.2.1 (zVl b z o.2.2.2.1 o.2.2.2.2)
def zNx (l : List zOp) : Int := match l with
  | [] => 1
  | o :: l => bif Nat.beq o.1 9 then zNx l + 1 else zNx l
def zLk (l : List zOp) (c : Nat) (i j : Int) : Option (Nat × Int) := match l with
  | [] => none
  | o :: l => bif Nat.beq o.1 9 then (if i = zNx l then some (0, if c = 0 then (if j = 0 then o.2.1 else if j = 1 then o.2.2.1 else 0) else 0) else zLk l c i j) else if c = o.1 ∧ i = o.2.1 ∧ j = o.2.2.1 then some (o.2.2.2.1, o.2.2.2.2) else zLk l c i j
theorem zH_9 {b : Nat} {z : Int} (l : List zOp) : zH b z l 9 0 0 = (b : Int) + zNx l := by
  induction l with
  | nil => rfl
  | cons o l ih =>
    unfold zH zNx
    cases h : Nat.beq o.1 9 with
    | true =>
      dsimp only [cond]
      rw [gN_nxt, ih]; omega
    | false =>
      dsimp only [cond]
      rw [gU_ne (fun q => by rw [← q.1] at h; exact absurd h (by decide)), ih]
theorem zH_n {b : Nat} {z : Int} {l : List zOp} {t n : Int} : zH b z ((9, t, n, 0, 0) :: l) = gN (zH b z l) t n := rfl
theorem zH_u {b : Nat} {z : Int} {l : List zOp} {c : Nat} {i j v : Int} {k : Nat} (h : Nat.beq c 9 = false) : zH b z ((c, i, j, k, v) :: l) = gU (zH b z l) c ((b : Int) + i) j (zVl b z k v) := by
  show (bif Nat.beq c 9 then _ else _) = _
  rw [h]; rfl
theorem zH_u0 {b : Nat} {z : Int} {l : List zOp} {c : Nat} {i j v : Int} (h : Nat.beq c 9 = false) : zH b z ((c, i, j, 0, v) :: l) = gU (zH b z l) c ((b : Int) + i) j v := zH_u h
theorem zH_u1 {b : Nat} {z : Int} {l : List zOp} {c : Nat} {i j v : Int} (h : Nat.beq c 9 = false) : zH b z ((c, i, j, 1, v) :: l) = gU (zH b z l) c ((b : Int) + i) j ((b : Int) + v) := zH_u h
theorem zH_u2 {b : Nat} {z : Int} {l : List zOp} {c : Nat} {i j : Int} (h : Nat.beq c 9 = false) : zH b z ((c, i, j, 2, 0) :: l) = gU (zH b z l) c ((b : Int) + i) j z := zH_u h
theorem zLk_s {b : Nat} {z : Int} {l : List zOp} {c k : Nat} {i j v : Int} (hc : c ≠ 9) (h : zLk l c i j = some (k, v)) : zH b z l c ((b : Int) + i) j = zVl b z k v := by
  induction l with
  | nil => cases h
  | cons o l ih =>
    obtain ⟨c1, i1, j1, k1, v1⟩ := o
    unfold zLk at h
    unfold zH
    dsimp only at h ⊢
    cases h9 : Nat.beq c1 9 with
    | true =>
      rw [h9] at h
      dsimp only [cond] at h ⊢
      by_cases hi : i = zNx l
      · rw [if_pos hi] at h
        cases h
        unfold gN
        rw [if_neg hc, zH_9, hi, if_pos rfl]
        rfl
      · rw [if_neg hi] at h
        unfold gN
        rw [if_neg hc, zH_9, if_neg (by omega)]
        exact ih h
    | false =>
      rw [h9] at h
      dsimp only [cond] at h ⊢
      by_cases hi : c = c1 ∧ i = i1 ∧ j = j1
      · rw [if_pos hi] at h
        cases h
        obtain ⟨rfl, rfl, rfl⟩ := hi
        exact gU_eq
      · rw [if_neg hi] at h
        rw [gU_ne (fun q => hi ⟨q.1, by have := q.2.1; omega, q.2.2⟩)]
        exact ih h
/-- what never was stored -/
def zNs (l : List zOp) (c : Nat) (i : Int) : Bool := l.all fun o => Nat.beq o.1 9 || !(decide (o.1 = c ∧ o.2.1 = i))
theorem zH_0 {b : Nat} {z : Int} {l : List zOp} {c : Nat} {i : Int} (hc : c ≠ 9 ∧ c ≠ 0) (h : zNs l c i = true) (j : Int) : zH b z l c ((b : Int) + i) j = 0 := by
  induction l with
  | nil =>
    show zG0 b z c _ j = 0
    unfold zG0
    rw [if_neg hc.1, if_neg (fun q => hc.2 q.1)]
  | cons o l ih =>
    unfold zNs at h ih
    rw [List.all_cons, Bool.and_eq_true] at h
    obtain ⟨h1, h2⟩ := h
    unfold zH
    cases h9 : Nat.beq o.1 9 with
    | true =>
      dsimp only [cond]
      unfold gN
      rw [if_neg hc.1]
      split
      · rw [if_neg hc.2]
      · exact ih h2
    | false =>
      rw [h9] at h1
      dsimp only [cond]
      rw [gU_ne (fun q => by
        have hd : ¬ (o.1 = c ∧ o.2.1 = i) := by
          intro y
          simp [y.1, y.2] at h1
        exact hd ⟨q.1.symm, by have := q.2.1; omega⟩)]
      exact ih h2
abbrev gX0 (e : gE) (b : Nat) : gB := (bS, (fun k => if k = 0 then b else e.2.1 k), e.2.2.1, e.2.2.2, fun _ => True)
theorem zTg {b : Nat} {z : Int} {l : List zOp} {i j v : Int} (h : zLk l 0 i j = some (0, v)) : zH b z l 0 ((b : Int) + i) j = v := zLk_s (by decide) h
theorem zLo {e : gE} {b : Nat} {i : Int} (h : 0 < i) : (gn (gX0 e b) 0 : Int) < (b : Int) + i := by
  show (b : Int) < _
  omega
section CT
variable {l : Launch} {B : gB} {M : gM} {Z : Int → gH → Prop} {kc ks pc : Nat} {ls rest : List gV} {G : gH} {b : Nat} {z : Int} {o : List zOp}
theorem zE (h : zH b z o = G) (k : EV l B M Z kc ks pc ls rest (zH b z o)) : EV l B M Z kc ks pc ls rest G := h ▸ k
theorem zNc {t n p : Int} (hp : zNx o = p) (k : EV l B M Z kc ks pc ls ((2, (b : Int) + p) :: rest) (zH b z ((9, t, n, 0, 0) :: o))) : EV l B M Z kc ks pc ls ((2, zH b z o 9 0 0) :: rest) (gN (zH b z o) t n) := by
  rw [zH_9, hp]
  exact k
theorem zGl {i v : Int} (h : zLk o 0 i 1 = some (0, v)) (k : EV l B M Z kc ks pc ls ((0, v) :: rest) (zH b z o)) : EV l B M Z kc ks pc ls ((0, zH b z o 0 ((b : Int) + i) 1) :: rest) (zH b z o) := by
  rw [zTg h]
  exact k
theorem zGa {c : Nat} {t : Nat} {i v : Int} (h : zLk o c i 0 = some (0, v)) (hc : c ≠ 9) (k : EV l B M Z kc ks pc ls ((t, v) :: rest) (zH b z o)) : EV l B M Z kc ks pc ls ((t, zH b z o c ((b : Int) + i) 0) :: rest) (zH b z o) := by
  rw [zLk_s hc h]
  exact k
theorem zGb {c : Nat} {i v : Int} (h : zLk o c i 0 = some (1, v)) (hc : c ≠ 9) (k : EV l B M Z kc ks pc ls ((2, (b : Int) + v) :: rest) (zH b z o)) : EV l B M Z kc ks pc ls ((2, zH b z o c ((b : Int) + i) 0) :: rest) (zH b z o) := by
  rw [zLk_s hc h]
  exact k
end CT
theorem gp_ABL_7 {l : Launch} {d : (Nat → Nat) × va_G × Heap × (gH → Prop)} {M : gM} {Z : Int → gH → Prop} {kc ks pc : Nat} {ls rest : List gV} {G : gH} {a v : Int} (hd : decode (gcc M) pc = .ok (.putfield 7, 3)) (hM : (gy M).cls = "java/util/AbstractList") (ht : G 0 a 0 = 1) (ha : (gn (bS, d) 0 : Int) < a) (hinv : ginv (bS, d) G → ginv (bS, d) (gU G 16 a 0 v)) (k : EV l (bS, d) M Z kc ks (pc + 3) ls rest (gU G 16 a 0 v)) : EV l (bS, d) M Z kc ks pc ls ((0, v) :: (2, a) :: rest) G :=
  e_putf 0 0 (ref := "java/util/AbstractList") hd (q_AL d) (by decide) rfl (by rw [hM]; exact w_51) (Or.inl rfl) rfl ht ha (fun h => absurd (show ftab 0 0 = 3 from h) (by decide)) hinv k

def zo1 : List zOp := (9, 12, 0, 0, 0) :: []
def zo2 : List zOp := (9, 1, 0, 0, 0) :: zo1
def zo3 : List zOp := (16, 2, 0, 0, 0) :: zo2
def zo4 : List zOp := (17, 2, 0, 2, 0) :: zo3
def zo5 : List zOp := (9, 3, 0, 0, 0) :: (720, 1, 0, 1, 2) :: zo4
def zo6 : List zOp := (148, 3, 0, 1, 8) :: (9, 100, 12, 0, 0) :: (147, 3, 0, 1, 7) :: (9, 102, 20, 0, 0) :: (146, 3, 0, 1, 6) :: (9, 100, 20, 0, 0) :: (145, 3, 0, 1, 5) :: (9, 100, 20, 0, 0) :: (144, 3, 0, 1, 4) :: (9, 100, 20, 0, 0) :: zo5
def zo7 : List zOp := (1, 8, 11, 0, (-1)) :: (1, 8, 10, 0, (-1)) :: (1, 8, 9, 0, (-1)) :: (1, 8, 8, 0, (-1)) :: (1, 8, 7, 0, (-1)) :: (1, 8, 6, 0, (-1)) :: (1, 8, 5, 0, (-1)) :: (1, 8, 4, 0, (-1)) :: (1, 8, 3, 0, (-1)) :: (1, 8, 2, 0, (-1)) :: (1, 8, 1, 0, (-1)) :: (1, 8, 0, 0, (-1)) :: zo6
def zo8 : List zOp := (149, 3, 0, 1, 9) :: (9, 100, 12, 0, 0) :: (1, 8, 0, 0, 0) :: zo7
def zo9 : List zOp := (1, 9, 11, 0, (-1)) :: (1, 9, 10, 0, (-1)) :: (1, 9, 9, 0, (-1)) :: (1, 9, 8, 0, (-1)) :: (1, 9, 7, 0, (-1)) :: (1, 9, 6, 0, (-1)) :: (1, 9, 5, 0, (-1)) :: (1, 9, 4, 0, (-1)) :: (1, 9, 3, 0, (-1)) :: (1, 9, 2, 0, (-1)) :: (1, 9, 1, 0, (-1)) :: (1, 9, 0, 0, (-1)) :: zo8
def zo10 : List zOp := (9, 2, 0, 0, 0) :: (721, 1, 0, 1, 3) :: zo9
def zo11 : List zOp := (9, 1, 0, 0, 0) :: (80, 10, 0, 1, 2) :: zo10
def zo12 : List zOp := (16, 11, 0, 0, 0) :: zo11
def zo13 : List zOp := (17, 11, 0, 2, 0) :: zo12
def zo14 : List zOp := (9, 6, 0, 0, 0) :: (81, 10, 0, 1, 11) :: zo13
def zo15 : List zOp := (9, 1, 0, 0, 0) :: (338, 12, 0, 1, 3) :: (337, 12, 0, 1, 11) :: (336, 12, 0, 1, 2) :: zo14
def zo16 : List zOp := (16, 13, 0, 0, 0) :: zo15
def zo17 : List zOp := (17, 13, 0, 2, 0) :: zo16
def zo18 : List zOp := (9, 1, 0, 0, 0) :: (339, 12, 0, 1, 13) :: zo17
def zo19 : List zOp := (16, 14, 0, 0, 0) :: zo18
def zo20 : List zOp := (17, 14, 0, 2, 0) :: zo19
def zo21 : List zOp := (343, 12, 0, 1, 17) :: (9, 100, 256, 0, 0) :: (342, 12, 0, 1, 16) :: (9, 101, 256, 0, 0) :: (341, 12, 0, 1, 15) :: (9, 101, 256, 0, 0) :: (340, 12, 0, 1, 14) :: zo20
def zo22 : List zOp := (82, 10, 0, 1, 12) :: zo21
def zo23 : List zOp := (9, 11, 0, 0, 0) :: (722, 1, 0, 1, 10) :: zo22
def zo24 : List zOp := (9, 1, 0, 0, 0) :: (656, 18, 0, 1, 2) :: zo23
def zo25 : List zOp := (16, 19, 0, 0, 0) :: zo24
def zo26 : List zOp := (17, 19, 0, 2, 0) :: zo25
def zo27 : List zOp := (659, 18, 0, 1, 21) :: (9, 100, 4, 0, 0) :: (658, 18, 0, 1, 20) :: (9, 100, 4, 0, 0) :: (657, 18, 0, 1, 19) :: zo26
def zo28 : List zOp := (1, 21, 3, 0, 100) :: (1, 21, 2, 0, 100) :: (1, 21, 1, 0, 100) :: (1, 21, 0, 0, 100) :: zo27
def zo29 : List zOp := (660, 18, 0, 1, 22) :: (9, 100, 4, 0, 0) :: zo28
def zo30 : List zOp := (9, 8, 0, 0, 0) :: (723, 1, 0, 1, 18) :: zo29
def zo31 : List zOp := (9, 1, 0, 0, 0) :: (465, 23, 0, 1, 18) :: (464, 23, 0, 1, 2) :: zo30
def zo32 : List zOp := (16, 24, 0, 0, 0) :: zo31
def zo33 : List zOp := (17, 24, 0, 2, 0) :: zo32
def zo34 : List zOp := (474, 23, 0, 1, 32) :: (9, 100, 5, 0, 0) :: (473, 23, 0, 1, 31) :: (9, 100, 16, 0, 0) :: (472, 23, 0, 1, 30) :: (9, 100, 4, 0, 0) :: (471, 23, 0, 1, 29) :: (9, 100, 4, 0, 0) :: (470, 23, 0, 1, 28) :: (9, 100, 256, 0, 0) :: (469, 23, 0, 1, 27) :: (9, 101, 256, 0, 0) :: (468, 23, 0, 1, 26) :: (9, 101, 256, 0, 0) :: (467, 23, 0, 1, 25) :: (9, 101, 256, 0, 0) :: (466, 23, 0, 1, 24) :: zo33
def zo35 : List zOp := (9, 7, 0, 0, 0) :: (725, 1, 0, 1, 33) :: (9, 104, 8, 0, 0) :: (724, 1, 0, 1, 23) :: zo34
def zo36 : List zOp := (400, 34, 0, 1, 35) :: (9, 101, 60, 0, 0) :: zo35
def zo37 : List zOp := (9, 7, 0, 0, 0) :: (3, 33, 0, 1, 34) :: zo36
def zo38 : List zOp := (400, 36, 0, 1, 37) :: (9, 101, 60, 0, 0) :: zo37
def zo39 : List zOp := (9, 7, 0, 0, 0) :: (3, 33, 1, 1, 36) :: zo38
def zo40 : List zOp := (400, 38, 0, 1, 39) :: (9, 101, 60, 0, 0) :: zo39
def zo41 : List zOp := (9, 7, 0, 0, 0) :: (3, 33, 2, 1, 38) :: zo40
def zo42 : List zOp := (400, 40, 0, 1, 41) :: (9, 101, 60, 0, 0) :: zo41
def zo43 : List zOp := (9, 7, 0, 0, 0) :: (3, 33, 3, 1, 40) :: zo42
def zo44 : List zOp := (400, 42, 0, 1, 43) :: (9, 101, 60, 0, 0) :: zo43
def zo45 : List zOp := (9, 7, 0, 0, 0) :: (3, 33, 4, 1, 42) :: zo44
def zo46 : List zOp := (400, 44, 0, 1, 45) :: (9, 101, 60, 0, 0) :: zo45
def zo47 : List zOp := (9, 7, 0, 0, 0) :: (3, 33, 5, 1, 44) :: zo46
def zo48 : List zOp := (400, 46, 0, 1, 47) :: (9, 101, 60, 0, 0) :: zo47
def zo49 : List zOp := (9, 7, 0, 0, 0) :: (3, 33, 6, 1, 46) :: zo48
def zo50 : List zOp := (400, 48, 0, 1, 49) :: (9, 101, 60, 0, 0) :: zo49
def zo51 : List zOp := (726, 1, 0, 1, 50) :: (9, 100, 8, 0, 0) :: (3, 33, 7, 1, 48) :: zo50
def zo52 : List zOp := (1, 50, 7, 0, (-1)) :: (1, 50, 6, 0, (-1)) :: (1, 50, 5, 0, (-1)) :: (1, 50, 4, 0, (-1)) :: (1, 50, 3, 0, (-1)) :: (1, 50, 2, 0, (-1)) :: (1, 50, 1, 0, (-1)) :: (1, 50, 0, 0, (-1)) :: zo51
def zo53 : List zOp := (9, 4, 0, 0, 0) :: zo52
def zo54 : List zOp := (208, 51, 0, 1, 52) :: (9, 100, 5, 0, 0) :: zo53
def zo55 : List zOp := (730, 1, 0, 0, 0) :: (729, 1, 0, 0, (-1)) :: (728, 1, 0, 1, 53) :: (9, 100, 8, 0, 0) :: (727, 1, 0, 1, 51) :: zo54
def zo56 : List zOp := (9, 13, 0, 0, 0) :: zo55
def zo57 : List zOp := (1, 71, 2, 0, (-1)) :: (1, 71, 1, 0, (-1)) :: (1, 71, 0, 0, (-1)) :: (1, 84, 3, 0, 100) :: (1, 84, 2, 0, 100) :: (1, 84, 1, 0, 100) :: (1, 84, 0, 0, 100) :: (1, 59, 11, 0, (-1)) :: (1, 59, 10, 0, (-1)) :: (1, 59, 9, 0, (-1)) :: (1, 59, 8, 0, (-1)) :: (1, 59, 7, 0, (-1)) :: (1, 59, 6, 0, (-1)) :: (1, 59, 5, 0, (-1)) :: (1, 59, 4, 0, (-1)) :: (1, 59, 3, 0, (-1)) :: (1, 59, 2, 0, (-1)) :: (1, 59, 1, 0, (-1)) :: (1, 59, 0, 0, (-1)) :: (840, 54, 0, 1, 99) :: (9, 101, 60, 0, 0) :: (839, 54, 0, 1, 98) :: (9, 100, 16, 0, 0) :: (838, 54, 0, 1, 97) :: (9, 100, 16, 0, 0) :: (837, 54, 0, 1, 96) :: (9, 100, 16, 0, 0) :: (836, 54, 0, 1, 95) :: (9, 100, 16, 0, 0) :: (835, 54, 0, 1, 94) :: (9, 100, 16, 0, 0) :: (834, 54, 0, 1, 93) :: (9, 100, 8, 0, 0) :: (833, 54, 0, 1, 92) :: (9, 100, 12000, 0, 0) :: (832, 54, 0, 1, 91) :: (9, 100, 12000, 0, 0) :: (831, 54, 0, 1, 90) :: (9, 100, 12000, 0, 0) :: (830, 54, 0, 1, 89) :: (9, 100, 12000, 0, 0) :: (829, 54, 0, 1, 88) :: (9, 100, 96, 0, 0) :: (828, 54, 0, 1, 87) :: (9, 100, 96, 0, 0) :: (827, 54, 0, 1, 86) :: (9, 100, 96, 0, 0) :: (826, 54, 0, 1, 85) :: (9, 100, 4, 0, 0) :: (825, 54, 0, 1, 84) :: (9, 100, 4, 0, 0) :: (824, 54, 0, 1, 83) :: (9, 100, 4, 0, 0) :: (823, 54, 0, 1, 82) :: (9, 101, 300, 0, 0) :: (822, 54, 0, 1, 81) :: (9, 100, 5, 0, 0) :: (821, 54, 0, 1, 80) :: (9, 100, 5, 0, 0) :: (820, 54, 0, 1, 79) :: (9, 100, 5, 0, 0) :: (819, 54, 0, 1, 78) :: (9, 100, 5, 0, 0) :: (818, 54, 0, 1, 77) :: (9, 100, 5, 0, 0) :: (817, 54, 0, 1, 76) :: (9, 101, 480, 0, 0) :: (816, 54, 0, 1, 75) :: (9, 100, 8, 0, 0) :: (815, 54, 0, 1, 74) :: (9, 100, 8, 0, 0) :: (814, 54, 0, 1, 73) :: (9, 100, 8, 0, 0) :: (813, 54, 0, 1, 72) :: (9, 100, 8, 0, 0) :: (812, 54, 0, 1, 71) :: (9, 100, 3, 0, 0) :: (811, 54, 0, 1, 70) :: (9, 100, 3, 0, 0) :: (810, 54, 0, 1, 69) :: (9, 100, 3, 0, 0) :: (809, 54, 0, 1, 68) :: (9, 100, 16, 0, 0) :: (808, 54, 0, 1, 67) :: (9, 100, 16, 0, 0) :: (807, 54, 0, 1, 66) :: (9, 100, 16, 0, 0) :: (806, 54, 0, 1, 65) :: (9, 100, 16, 0, 0) :: (805, 54, 0, 1, 64) :: (9, 100, 16, 0, 0) :: (804, 54, 0, 1, 63) :: (9, 100, 16, 0, 0) :: (803, 54, 0, 1, 62) :: (9, 100, 16, 0, 0) :: (802, 54, 0, 1, 61) :: (9, 100, 16, 0, 0) :: (801, 54, 0, 1, 60) :: (9, 100, 12, 0, 0) :: (800, 54, 0, 1, 59) :: (9, 100, 12, 0, 0) :: (799, 54, 0, 1, 58) :: (9, 102, 20, 0, 0) :: (798, 54, 0, 1, 57) :: (9, 100, 20, 0, 0) :: (797, 54, 0, 1, 56) :: (9, 100, 20, 0, 0) :: (796, 54, 0, 1, 55) :: (9, 100, 20, 0, 0) :: (793, 54, 0, 0, (-1)) :: zo56
set_option maxRecDepth 20000 in
set_option maxHeartbeats 4000000 in
theorem k0_AC_init_1 {e : gE} {b : Nat} : GM e.1 (gX0 e b) m_AC_init [(2, ((b : Int) + 2))] (zH b ((gn (gX0 e b) 10 : Int) + 1) zo2) 0 0 (fun _ G1 => G1 = zH b ((gn (gX0 e b) 10 : Int) + 1) zo2) := by
  refine GM.ofJ (by decide +kernel) (Nat.le_of_ble_eq_true rfl) ?_
  show EV e.1 (gX0 e b) m_AC_init _ 0 0 0 [(2, ((b : Int) + 2))] [] _
  refine e_aload_n d_AC_init_0 rfl ?_
  refine e_objI d_AC_init_1 w_46 w_33 w_34 (by omega) (by decide) (Nat.le_of_ble_eq_true rfl) (Nat.le_trans (gcat _) (by simp)) ?_
  exact e_vret d_AC_init_4 rfl rfl
set_option maxRecDepth 20000 in
set_option maxHeartbeats 4000000 in
theorem k0_ABL_init_1 {e : gE} {b : Nat} : GM e.1 (gX0 e b) m_ABL_init [(2, ((b : Int) + 2))] (zH b ((gn (gX0 e b) 10 : Int) + 1) zo2) 0 0 (fun _ G1 => G1 = zH b ((gn (gX0 e b) 10 : Int) + 1) zo3) := by
  refine GM.ofJ (by decide +kernel) (Nat.le_of_ble_eq_true rfl) ?_
  show EV e.1 (gX0 e b) m_ABL_init _ 0 0 0 [(2, ((b : Int) + 2))] [] _
  refine e_aload_n d_ABL_init_0 rfl ?_
  refine e_callI m_AC_init lw_good d_ABL_init_1 (k_AC_init _) ⟨Nat.le_of_ble_eq_true rfl, Nat.le_of_ble_eq_true rfl⟩ w_43 w_44 rfl rfl (by omega) (args := []) rfl rfl (Nat.le_of_ble_eq_true rfl) (kc' := 0) (ks' := 0) (mc := 0) (ms := 0) (by decide +kernel) (by decide +kernel) k0_AC_init_1 ?_
  rintro _ _ rfl
  refine e_aload_n d_ABL_init_4 rfl ?_
  refine e_iconst d_ABL_init_5 (by decide) ?_
  refine gp_ABL_7 d_ABL_init_6 rfl (zTg (by decide +kernel)) (zLo (by decide)) (fun _ => trivial) (zE (zH_u0 rfl) ?_)
  exact e_vret d_ABL_init_9 rfl rfl
set_option maxRecDepth 20000 in
set_option maxHeartbeats 4000000 in
theorem k0_AL_init_1 {e : gE} {b : Nat} : GM e.1 (gX0 e b) m_AL_init [(2, ((b : Int) + 2))] (zH b ((gn (gX0 e b) 10 : Int) + 1) zo2) 0 0 (fun _ G1 => G1 = zH b ((gn (gX0 e b) 10 : Int) + 1) zo4) := by
  refine GM.ofJ (by decide +kernel) (Nat.le_of_ble_eq_true rfl) ?_
  show EV e.1 (gX0 e b) m_AL_init _ 0 0 0 [(2, ((b : Int) + 2))] [] _
  refine e_aload_n d_AL_init_0 rfl ?_
  refine e_callI m_ABL_init lw_good d_AL_init_1 (k_ABL_init _) ⟨Nat.le_of_ble_eq_true rfl, Nat.le_of_ble_eq_true rfl⟩ w_40 w_41 rfl rfl (by omega) (args := []) rfl rfl (Nat.le_of_ble_eq_true rfl) (kc' := 0) (ks' := 0) (mc := 0) (ms := 0) (by decide +kernel) (by decide +kernel) k0_ABL_init_1 ?_
  rintro _ _ rfl
  refine e_aload_n d_AL_init_4 rfl ?_
  refine e_gets "java/util/ArrayList" "DEFAULTCAPACITY_EMPTY_ELEMENTDATA" "[Ljava/lang/Object;" (2, ((gn (gX0 e b) 10 : Int) + 1)) (fun s h => by rw [cV_rn trivial]; exact h.2.1) (okN _) d_AL_init_5 w_47 ?_
  refine gp_AL_9 d_AL_init_8 rfl (zTg (by decide +kernel)) (zLo (by decide)) (fun _ => trivial) (zE (zH_u2 rfl) ?_)
  exact e_vret d_AL_init_11 rfl rfl
set_option maxRecDepth 20000 in
set_option maxHeartbeats 4000000 in
theorem k0_Arrays_fill_a_1 {e : gE} {b : Nat} : GM e.1 (gX0 e b) m_Arrays_fill_a [(2, ((b : Int) + 8)), (0, (-1))] (zH b ((gn (gX0 e b) 10 : Int) + 1) zo6) 0 0 (fun _ G1 => G1 = zH b ((gn (gX0 e b) 10 : Int) + 1) zo7) := by
  refine GM.ofJ (by decide +kernel) (Nat.le_of_ble_eq_true rfl) ?_
  show EV e.1 (gX0 e b) m_Arrays_fill_a _ 0 0 0 [(2, ((b : Int) + 8)), (0, (-1)), (9, 0), (9, 0)] [] _
  refine e_iconst d_Arrays_fill_a_0 (by decide) ?_
  refine e_istore_n (ls' := [(2, ((b : Int) + 8)), (0, (-1)), (0, 0), (9, 0)]) d_Arrays_fill_a_1 (by decide) rfl ?_
  refine e_aload_n d_Arrays_fill_a_2 rfl ?_
  refine e_alen d_Arrays_fill_a_3 (by rw [zTg (v := 100) (by decide +kernel)]; decide) (zGl (v := 12) (by decide +kernel) ?_)
  refine e_istore_n (ls' := [(2, ((b : Int) + 8)), (0, (-1)), (0, 0), (0, 12)]) d_Arrays_fill_a_4 (by decide) rfl ?_
  refine e_iload_n d_Arrays_fill_a_5 rfl ?_
  refine e_iload_n d_Arrays_fill_a_6 rfl ?_
  refine e_icmp_ge (tgt := 20) d_Arrays_fill_a_7 (by decide) (fun q => absurd q (by decide)) (fun _ => ?_)
  refine e_aload_n d_Arrays_fill_a_10 rfl ?_
  refine e_iload_n d_Arrays_fill_a_11 rfl ?_
  refine e_iload_n d_Arrays_fill_a_12 rfl ?_
  refine e_iast d_Arrays_fill_a_13 (zTg (by decide +kernel)) (by decide) (by rw [zTg (v := 12) (by decide +kernel)]; decide) (zLo (by decide)) (fun _ => trivial) (zE (zH_u0 rfl) ?_)
  refine e_iinc (ls' := [(2, ((b : Int) + 8)), (0, (-1)), (0, 1), (0, 12)]) d_Arrays_fill_a_14 rfl (by decide) (by decide) rfl ?_
  refine e_goto (tgt := 5) d_Arrays_fill_a_17 (by decide) ?_
  refine e_iload_n d_Arrays_fill_a_5 rfl ?_
  refine e_iload_n d_Arrays_fill_a_6 rfl ?_
  refine e_icmp_ge (tgt := 20) d_Arrays_fill_a_7 (by decide) (fun q => absurd q (by decide)) (fun _ => ?_)
  refine e_aload_n d_Arrays_fill_a_10 rfl ?_
  refine e_iload_n d_Arrays_fill_a_11 rfl ?_
  refine e_iload_n d_Arrays_fill_a_12 rfl ?_
  refine e_iast d_Arrays_fill_a_13 (zTg (by decide +kernel)) (by decide) (by rw [zTg (v := 12) (by decide +kernel)]; decide) (zLo (by decide)) (fun _ => trivial) (zE (zH_u0 rfl) ?_)
  refine e_iinc (ls' := [(2, ((b : Int) + 8)), (0, (-1)), (0, 2), (0, 12)]) d_Arrays_fill_a_14 rfl (by decide) (by decide) rfl ?_
  refine e_goto (tgt := 5) d_Arrays_fill_a_17 (by decide) ?_
  refine e_iload_n d_Arrays_fill_a_5 rfl ?_
  refine e_iload_n d_Arrays_fill_a_6 rfl ?_
  refine e_icmp_ge (tgt := 20) d_Arrays_fill_a_7 (by decide) (fun q => absurd q (by decide)) (fun _ => ?_)
  refine e_aload_n d_Arrays_fill_a_10 rfl ?_
  refine e_iload_n d_Arrays_fill_a_11 rfl ?_
  refine e_iload_n d_Arrays_fill_a_12 rfl ?_
  refine e_iast d_Arrays_fill_a_13 (zTg (by decide +kernel)) (by decide) (by rw [zTg (v := 12) (by decide +kernel)]; decide) (zLo (by decide)) (fun _ => trivial) (zE (zH_u0 rfl) ?_)
  refine e_iinc (ls' := [(2, ((b : Int) + 8)), (0, (-1)), (0, 3), (0, 12)]) d_Arrays_fill_a_14 rfl (by decide) (by decide) rfl ?_
  refine e_goto (tgt := 5) d_Arrays_fill_a_17 (by decide) ?_
  refine e_iload_n d_Arrays_fill_a_5 rfl ?_
  refine e_iload_n d_Arrays_fill_a_6 rfl ?_
  refine e_icmp_ge (tgt := 20) d_Arrays_fill_a_7 (by decide) (fun q => absurd q (by decide)) (fun _ => ?_)
  refine e_aload_n d_Arrays_fill_a_10 rfl ?_
  refine e_iload_n d_Arrays_fill_a_11 rfl ?_
  refine e_iload_n d_Arrays_fill_a_12 rfl ?_
  refine e_iast d_Arrays_fill_a_13 (zTg (by decide +kernel)) (by decide) (by rw [zTg (v := 12) (by decide +kernel)]; decide) (zLo (by decide)) (fun _ => trivial) (zE (zH_u0 rfl) ?_)
  refine e_iinc (ls' := [(2, ((b : Int) + 8)), (0, (-1)), (0, 4), (0, 12)]) d_Arrays_fill_a_14 rfl (by decide) (by decide) rfl ?_
  refine e_goto (tgt := 5) d_Arrays_fill_a_17 (by decide) ?_
  refine e_iload_n d_Arrays_fill_a_5 rfl ?_
  refine e_iload_n d_Arrays_fill_a_6 rfl ?_
  refine e_icmp_ge (tgt := 20) d_Arrays_fill_a_7 (by decide) (fun q => absurd q (by decide)) (fun _ => ?_)
  refine e_aload_n d_Arrays_fill_a_10 rfl ?_
  refine e_iload_n d_Arrays_fill_a_11 rfl ?_
  refine e_iload_n d_Arrays_fill_a_12 rfl ?_
  refine e_iast d_Arrays_fill_a_13 (zTg (by decide +kernel)) (by decide) (by rw [zTg (v := 12) (by decide +kernel)]; decide) (zLo (by decide)) (fun _ => trivial) (zE (zH_u0 rfl) ?_)
  refine e_iinc (ls' := [(2, ((b : Int) + 8)), (0, (-1)), (0, 5), (0, 12)]) d_Arrays_fill_a_14 rfl (by decide) (by decide) rfl ?_
  refine e_goto (tgt := 5) d_Arrays_fill_a_17 (by decide) ?_
  refine e_iload_n d_Arrays_fill_a_5 rfl ?_
  refine e_iload_n d_Arrays_fill_a_6 rfl ?_
  refine e_icmp_ge (tgt := 20) d_Arrays_fill_a_7 (by decide) (fun q => absurd q (by decide)) (fun _ => ?_)
  refine e_aload_n d_Arrays_fill_a_10 rfl ?_
  refine e_iload_n d_Arrays_fill_a_11 rfl ?_
  refine e_iload_n d_Arrays_fill_a_12 rfl ?_
  refine e_iast d_Arrays_fill_a_13 (zTg (by decide +kernel)) (by decide) (by rw [zTg (v := 12) (by decide +kernel)]; decide) (zLo (by decide)) (fun _ => trivial) (zE (zH_u0 rfl) ?_)
  refine e_iinc (ls' := [(2, ((b : Int) + 8)), (0, (-1)), (0, 6), (0, 12)]) d_Arrays_fill_a_14 rfl (by decide) (by decide) rfl ?_
  refine e_goto (tgt := 5) d_Arrays_fill_a_17 (by decide) ?_
  refine e_iload_n d_Arrays_fill_a_5 rfl ?_
  refine e_iload_n d_Arrays_fill_a_6 rfl ?_
  refine e_icmp_ge (tgt := 20) d_Arrays_fill_a_7 (by decide) (fun q => absurd q (by decide)) (fun _ => ?_)
  refine e_aload_n d_Arrays_fill_a_10 rfl ?_
  refine e_iload_n d_Arrays_fill_a_11 rfl ?_
  refine e_iload_n d_Arrays_fill_a_12 rfl ?_
  refine e_iast d_Arrays_fill_a_13 (zTg (by decide +kernel)) (by decide) (by rw [zTg (v := 12) (by decide +kernel)]; decide) (zLo (by decide)) (fun _ => trivial) (zE (zH_u0 rfl) ?_)
  refine e_iinc (ls' := [(2, ((b : Int) + 8)), (0, (-1)), (0, 7), (0, 12)]) d_Arrays_fill_a_14 rfl (by decide) (by decide) rfl ?_
  refine e_goto (tgt := 5) d_Arrays_fill_a_17 (by decide) ?_
  refine e_iload_n d_Arrays_fill_a_5 rfl ?_
  refine e_iload_n d_Arrays_fill_a_6 rfl ?_
  refine e_icmp_ge (tgt := 20) d_Arrays_fill_a_7 (by decide) (fun q => absurd q (by decide)) (fun _ => ?_)
  refine e_aload_n d_Arrays_fill_a_10 rfl ?_
  refine e_iload_n d_Arrays_fill_a_11 rfl ?_
  refine e_iload_n d_Arrays_fill_a_12 rfl ?_
  refine e_iast d_Arrays_fill_a_13 (zTg (by decide +kernel)) (by decide) (by rw [zTg (v := 12) (by decide +kernel)]; decide) (zLo (by decide)) (fun _ => trivial) (zE (zH_u0 rfl) ?_)
  refine e_iinc (ls' := [(2, ((b : Int) + 8)), (0, (-1)), (0, 8), (0, 12)]) d_Arrays_fill_a_14 rfl (by decide) (by decide) rfl ?_
  refine e_goto (tgt := 5) d_Arrays_fill_a_17 (by decide) ?_
  refine e_iload_n d_Arrays_fill_a_5 rfl ?_
  refine e_iload_n d_Arrays_fill_a_6 rfl ?_
  refine e_icmp_ge (tgt := 20) d_Arrays_fill_a_7 (by decide) (fun q => absurd q (by decide)) (fun _ => ?_)
  refine e_aload_n d_Arrays_fill_a_10 rfl ?_
  refine e_iload_n d_Arrays_fill_a_11 rfl ?_
  refine e_iload_n d_Arrays_fill_a_12 rfl ?_
  refine e_iast d_Arrays_fill_a_13 (zTg (by decide +kernel)) (by decide) (by rw [zTg (v := 12) (by decide +kernel)]; decide) (zLo (by decide)) (fun _ => trivial) (zE (zH_u0 rfl) ?_)
  refine e_iinc (ls' := [(2, ((b : Int) + 8)), (0, (-1)), (0, 9), (0, 12)]) d_Arrays_fill_a_14 rfl (by decide) (by decide) rfl ?_
  refine e_goto (tgt := 5) d_Arrays_fill_a_17 (by decide) ?_
  refine e_iload_n d_Arrays_fill_a_5 rfl ?_
  refine e_iload_n d_Arrays_fill_a_6 rfl ?_
  refine e_icmp_ge (tgt := 20) d_Arrays_fill_a_7 (by decide) (fun q => absurd q (by decide)) (fun _ => ?_)
  refine e_aload_n d_Arrays_fill_a_10 rfl ?_
  refine e_iload_n d_Arrays_fill_a_11 rfl ?_
  refine e_iload_n d_Arrays_fill_a_12 rfl ?_
  refine e_iast d_Arrays_fill_a_13 (zTg (by decide +kernel)) (by decide) (by rw [zTg (v := 12) (by decide +kernel)]; decide) (zLo (by decide)) (fun _ => trivial) (zE (zH_u0 rfl) ?_)
  refine e_iinc (ls' := [(2, ((b : Int) + 8)), (0, (-1)), (0, 10), (0, 12)]) d_Arrays_fill_a_14 rfl (by decide) (by decide) rfl ?_
  refine e_goto (tgt := 5) d_Arrays_fill_a_17 (by decide) ?_
  refine e_iload_n d_Arrays_fill_a_5 rfl ?_
  refine e_iload_n d_Arrays_fill_a_6 rfl ?_
  refine e_icmp_ge (tgt := 20) d_Arrays_fill_a_7 (by decide) (fun q => absurd q (by decide)) (fun _ => ?_)
  refine e_aload_n d_Arrays_fill_a_10 rfl ?_
  refine e_iload_n d_Arrays_fill_a_11 rfl ?_
  refine e_iload_n d_Arrays_fill_a_12 rfl ?_
  refine e_iast d_Arrays_fill_a_13 (zTg (by decide +kernel)) (by decide) (by rw [zTg (v := 12) (by decide +kernel)]; decide) (zLo (by decide)) (fun _ => trivial) (zE (zH_u0 rfl) ?_)
  refine e_iinc (ls' := [(2, ((b : Int) + 8)), (0, (-1)), (0, 11), (0, 12)]) d_Arrays_fill_a_14 rfl (by decide) (by decide) rfl ?_
  refine e_goto (tgt := 5) d_Arrays_fill_a_17 (by decide) ?_
  refine e_iload_n d_Arrays_fill_a_5 rfl ?_
  refine e_iload_n d_Arrays_fill_a_6 rfl ?_
  refine e_icmp_ge (tgt := 20) d_Arrays_fill_a_7 (by decide) (fun q => absurd q (by decide)) (fun _ => ?_)
  refine e_aload_n d_Arrays_fill_a_10 rfl ?_
  refine e_iload_n d_Arrays_fill_a_11 rfl ?_
  refine e_iload_n d_Arrays_fill_a_12 rfl ?_
  refine e_iast d_Arrays_fill_a_13 (zTg (by decide +kernel)) (by decide) (by rw [zTg (v := 12) (by decide +kernel)]; decide) (zLo (by decide)) (fun _ => trivial) (zE (zH_u0 rfl) ?_)
  refine e_iinc (ls' := [(2, ((b : Int) + 8)), (0, (-1)), (0, 12), (0, 12)]) d_Arrays_fill_a_14 rfl (by decide) (by decide) rfl ?_
  refine e_goto (tgt := 5) d_Arrays_fill_a_17 (by decide) ?_
  refine e_iload_n d_Arrays_fill_a_5 rfl ?_
  refine e_iload_n d_Arrays_fill_a_6 rfl ?_
  refine e_icmp_ge (tgt := 20) d_Arrays_fill_a_7 (by decide) (fun _ => ?_) (fun q => absurd q (by decide))
  exact e_vret d_Arrays_fill_a_20 rfl rfl
set_option maxRecDepth 20000 in
set_option maxHeartbeats 4000000 in
theorem k0_Arrays_fill_a_2 {e : gE} {b : Nat} : GM e.1 (gX0 e b) m_Arrays_fill_a [(2, ((b : Int) + 9)), (0, (-1))] (zH b ((gn (gX0 e b) 10 : Int) + 1) zo8) 0 0 (fun _ G1 => G1 = zH b ((gn (gX0 e b) 10 : Int) + 1) zo9) := by
  refine GM.ofJ (by decide +kernel) (Nat.le_of_ble_eq_true rfl) ?_
  show EV e.1 (gX0 e b) m_Arrays_fill_a _ 0 0 0 [(2, ((b : Int) + 9)), (0, (-1)), (9, 0), (9, 0)] [] _
  refine e_iconst d_Arrays_fill_a_0 (by decide) ?_
  refine e_istore_n (ls' := [(2, ((b : Int) + 9)), (0, (-1)), (0, 0), (9, 0)]) d_Arrays_fill_a_1 (by decide) rfl ?_
  refine e_aload_n d_Arrays_fill_a_2 rfl ?_
  refine e_alen d_Arrays_fill_a_3 (by rw [zTg (v := 100) (by decide +kernel)]; decide) (zGl (v := 12) (by decide +kernel) ?_)
  refine e_istore_n (ls' := [(2, ((b : Int) + 9)), (0, (-1)), (0, 0), (0, 12)]) d_Arrays_fill_a_4 (by decide) rfl ?_
  refine e_iload_n d_Arrays_fill_a_5 rfl ?_
  refine e_iload_n d_Arrays_fill_a_6 rfl ?_
  refine e_icmp_ge (tgt := 20) d_Arrays_fill_a_7 (by decide) (fun q => absurd q (by decide)) (fun _ => ?_)
  refine e_aload_n d_Arrays_fill_a_10 rfl ?_
  refine e_iload_n d_Arrays_fill_a_11 rfl ?_
  refine e_iload_n d_Arrays_fill_a_12 rfl ?_
  refine e_iast d_Arrays_fill_a_13 (zTg (by decide +kernel)) (by decide) (by rw [zTg (v := 12) (by decide +kernel)]; decide) (zLo (by decide)) (fun _ => trivial) (zE (zH_u0 rfl) ?_)
  refine e_iinc (ls' := [(2, ((b : Int) + 9)), (0, (-1)), (0, 1), (0, 12)]) d_Arrays_fill_a_14 rfl (by decide) (by decide) rfl ?_
  refine e_goto (tgt := 5) d_Arrays_fill_a_17 (by decide) ?_
  refine e_iload_n d_Arrays_fill_a_5 rfl ?_
  refine e_iload_n d_Arrays_fill_a_6 rfl ?_
  refine e_icmp_ge (tgt := 20) d_Arrays_fill_a_7 (by decide) (fun q => absurd q (by decide)) (fun _ => ?_)
  refine e_aload_n d_Arrays_fill_a_10 rfl ?_
  refine e_iload_n d_Arrays_fill_a_11 rfl ?_
  refine e_iload_n d_Arrays_fill_a_12 rfl ?_
  refine e_iast d_Arrays_fill_a_13 (zTg (by decide +kernel)) (by decide) (by rw [zTg (v := 12) (by decide +kernel)]; decide) (zLo (by decide)) (fun _ => trivial) (zE (zH_u0 rfl) ?_)
  refine e_iinc (ls' := [(2, ((b : Int) + 9)), (0, (-1)), (0, 2), (0, 12)]) d_Arrays_fill_a_14 rfl (by decide) (by decide) rfl ?_
  refine e_goto (tgt := 5) d_Arrays_fill_a_17 (by decide) ?_
  refine e_iload_n d_Arrays_fill_a_5 rfl ?_
  refine e_iload_n d_Arrays_fill_a_6 rfl ?_
  refine e_icmp_ge (tgt := 20) d_Arrays_fill_a_7 (by decide) (fun q => absurd q (by decide)) (fun _ => ?_)
  refine e_aload_n d_Arrays_fill_a_10 rfl ?_
  refine e_iload_n d_Arrays_fill_a_11 rfl ?_
  refine e_iload_n d_Arrays_fill_a_12 rfl ?_
  refine e_iast d_Arrays_fill_a_13 (zTg (by decide +kernel)) (by decide) (by rw [zTg (v := 12) (by decide +kernel)]; decide) (zLo (by decide)) (fun _ => trivial) (zE (zH_u0 rfl) ?_)
  refine e_iinc (ls' := [(2, ((b : Int) + 9)), (0, (-1)), (0, 3), (0, 12)]) d_Arrays_fill_a_14 rfl (by decide) (by decide) rfl ?_
  refine e_goto (tgt := 5) d_Arrays_fill_a_17 (by decide) ?_
  refine e_iload_n d_Arrays_fill_a_5 rfl ?_
  refine e_iload_n d_Arrays_fill_a_6 rfl ?_
  refine e_icmp_ge (tgt := 20) d_Arrays_fill_a_7 (by decide) (fun q => absurd q (by decide)) (fun _ => ?_)
  refine e_aload_n d_Arrays_fill_a_10 rfl ?_
  refine e_iload_n d_Arrays_fill_a_11 rfl ?_
  refine e_iload_n d_Arrays_fill_a_12 rfl ?_
  refine e_iast d_Arrays_fill_a_13 (zTg (by decide +kernel)) (by decide) (by rw [zTg (v := 12) (by decide +kernel)]; decide) (zLo (by decide)) (fun _ => trivial) (zE (zH_u0 rfl) ?_)
  refine e_iinc (ls' := [(2, ((b : Int) + 9)), (0, (-1)), (0, 4), (0, 12)]) d_Arrays_fill_a_14 rfl (by decide) (by decide) rfl ?_
  refine e_goto (tgt := 5) d_Arrays_fill_a_17 (by decide) ?_
  refine e_iload_n d_Arrays_fill_a_5 rfl ?_
  refine e_iload_n d_Arrays_fill_a_6 rfl ?_
  refine e_icmp_ge (tgt := 20) d_Arrays_fill_a_7 (by decide) (fun q => absurd q (by decide)) (fun _ => ?_)
  refine e_aload_n d_Arrays_fill_a_10 rfl ?_
  refine e_iload_n d_Arrays_fill_a_11 rfl ?_
  refine e_iload_n d_Arrays_fill_a_12 rfl ?_
  refine e_iast d_Arrays_fill_a_13 (zTg (by decide +kernel)) (by decide) (by rw [zTg (v := 12) (by decide +kernel)]; decide) (zLo (by decide)) (fun _ => trivial) (zE (zH_u0 rfl) ?_)
  refine e_iinc (ls' := [(2, ((b : Int) + 9)), (0, (-1)), (0, 5), (0, 12)]) d_Arrays_fill_a_14 rfl (by decide) (by decide) rfl ?_
  refine e_goto (tgt := 5) d_Arrays_fill_a_17 (by decide) ?_
  refine e_iload_n d_Arrays_fill_a_5 rfl ?_
  refine e_iload_n d_Arrays_fill_a_6 rfl ?_
  refine e_icmp_ge (tgt := 20) d_Arrays_fill_a_7 (by decide) (fun q => absurd q (by decide)) (fun _ => ?_)
  refine e_aload_n d_Arrays_fill_a_10 rfl ?_
  refine e_iload_n d_Arrays_fill_a_11 rfl ?_
  refine e_iload_n d_Arrays_fill_a_12 rfl ?_
  refine e_iast d_Arrays_fill_a_13 (zTg (by decide +kernel)) (by decide) (by rw [zTg (v := 12) (by decide +kernel)]; decide) (zLo (by decide)) (fun _ => trivial) (zE (zH_u0 rfl) ?_)
  refine e_iinc (ls' := [(2, ((b : Int) + 9)), (0, (-1)), (0, 6), (0, 12)]) d_Arrays_fill_a_14 rfl (by decide) (by decide) rfl ?_
  refine e_goto (tgt := 5) d_Arrays_fill_a_17 (by decide) ?_
  refine e_iload_n d_Arrays_fill_a_5 rfl ?_
  refine e_iload_n d_Arrays_fill_a_6 rfl ?_
  refine e_icmp_ge (tgt := 20) d_Arrays_fill_a_7 (by decide) (fun q => absurd q (by decide)) (fun _ => ?_)
  refine e_aload_n d_Arrays_fill_a_10 rfl ?_
  refine e_iload_n d_Arrays_fill_a_11 rfl ?_
  refine e_iload_n d_Arrays_fill_a_12 rfl ?_
  refine e_iast d_Arrays_fill_a_13 (zTg (by decide +kernel)) (by decide) (by rw [zTg (v := 12) (by decide +kernel)]; decide) (zLo (by decide)) (fun _ => trivial) (zE (zH_u0 rfl) ?_)
  refine e_iinc (ls' := [(2, ((b : Int) + 9)), (0, (-1)), (0, 7), (0, 12)]) d_Arrays_fill_a_14 rfl (by decide) (by decide) rfl ?_
  refine e_goto (tgt := 5) d_Arrays_fill_a_17 (by decide) ?_
  refine e_iload_n d_Arrays_fill_a_5 rfl ?_
  refine e_iload_n d_Arrays_fill_a_6 rfl ?_
  refine e_icmp_ge (tgt := 20) d_Arrays_fill_a_7 (by decide) (fun q => absurd q (by decide)) (fun _ => ?_)
  refine e_aload_n d_Arrays_fill_a_10 rfl ?_
  refine e_iload_n d_Arrays_fill_a_11 rfl ?_
  refine e_iload_n d_Arrays_fill_a_12 rfl ?_
  refine e_iast d_Arrays_fill_a_13 (zTg (by decide +kernel)) (by decide) (by rw [zTg (v := 12) (by decide +kernel)]; decide) (zLo (by decide)) (fun _ => trivial) (zE (zH_u0 rfl) ?_)
  refine e_iinc (ls' := [(2, ((b : Int) + 9)), (0, (-1)), (0, 8), (0, 12)]) d_Arrays_fill_a_14 rfl (by decide) (by decide) rfl ?_
  refine e_goto (tgt := 5) d_Arrays_fill_a_17 (by decide) ?_
  refine e_iload_n d_Arrays_fill_a_5 rfl ?_
  refine e_iload_n d_Arrays_fill_a_6 rfl ?_
  refine e_icmp_ge (tgt := 20) d_Arrays_fill_a_7 (by decide) (fun q => absurd q (by decide)) (fun _ => ?_)
  refine e_aload_n d_Arrays_fill_a_10 rfl ?_
  refine e_iload_n d_Arrays_fill_a_11 rfl ?_
  refine e_iload_n d_Arrays_fill_a_12 rfl ?_
  refine e_iast d_Arrays_fill_a_13 (zTg (by decide +kernel)) (by decide) (by rw [zTg (v := 12) (by decide +kernel)]; decide) (zLo (by decide)) (fun _ => trivial) (zE (zH_u0 rfl) ?_)
  refine e_iinc (ls' := [(2, ((b : Int) + 9)), (0, (-1)), (0, 9), (0, 12)]) d_Arrays_fill_a_14 rfl (by decide) (by decide) rfl ?_
  refine e_goto (tgt := 5) d_Arrays_fill_a_17 (by decide) ?_
  refine e_iload_n d_Arrays_fill_a_5 rfl ?_
  refine e_iload_n d_Arrays_fill_a_6 rfl ?_
  refine e_icmp_ge (tgt := 20) d_Arrays_fill_a_7 (by decide) (fun q => absurd q (by decide)) (fun _ => ?_)
  refine e_aload_n d_Arrays_fill_a_10 rfl ?_
  refine e_iload_n d_Arrays_fill_a_11 rfl ?_
  refine e_iload_n d_Arrays_fill_a_12 rfl ?_
  refine e_iast d_Arrays_fill_a_13 (zTg (by decide +kernel)) (by decide) (by rw [zTg (v := 12) (by decide +kernel)]; decide) (zLo (by decide)) (fun _ => trivial) (zE (zH_u0 rfl) ?_)
  refine e_iinc (ls' := [(2, ((b : Int) + 9)), (0, (-1)), (0, 10), (0, 12)]) d_Arrays_fill_a_14 rfl (by decide) (by decide) rfl ?_
  refine e_goto (tgt := 5) d_Arrays_fill_a_17 (by decide) ?_
  refine e_iload_n d_Arrays_fill_a_5 rfl ?_
  refine e_iload_n d_Arrays_fill_a_6 rfl ?_
  refine e_icmp_ge (tgt := 20) d_Arrays_fill_a_7 (by decide) (fun q => absurd q (by decide)) (fun _ => ?_)
  refine e_aload_n d_Arrays_fill_a_10 rfl ?_
  refine e_iload_n d_Arrays_fill_a_11 rfl ?_
  refine e_iload_n d_Arrays_fill_a_12 rfl ?_
  refine e_iast d_Arrays_fill_a_13 (zTg (by decide +kernel)) (by decide) (by rw [zTg (v := 12) (by decide +kernel)]; decide) (zLo (by decide)) (fun _ => trivial) (zE (zH_u0 rfl) ?_)
  refine e_iinc (ls' := [(2, ((b : Int) + 9)), (0, (-1)), (0, 11), (0, 12)]) d_Arrays_fill_a_14 rfl (by decide) (by decide) rfl ?_
  refine e_goto (tgt := 5) d_Arrays_fill_a_17 (by decide) ?_
  refine e_iload_n d_Arrays_fill_a_5 rfl ?_
  refine e_iload_n d_Arrays_fill_a_6 rfl ?_
  refine e_icmp_ge (tgt := 20) d_Arrays_fill_a_7 (by decide) (fun q => absurd q (by decide)) (fun _ => ?_)
  refine e_aload_n d_Arrays_fill_a_10 rfl ?_
  refine e_iload_n d_Arrays_fill_a_11 rfl ?_
  refine e_iload_n d_Arrays_fill_a_12 rfl ?_
  refine e_iast d_Arrays_fill_a_13 (zTg (by decide +kernel)) (by decide) (by rw [zTg (v := 12) (by decide +kernel)]; decide) (zLo (by decide)) (fun _ => trivial) (zE (zH_u0 rfl) ?_)
  refine e_iinc (ls' := [(2, ((b : Int) + 9)), (0, (-1)), (0, 12), (0, 12)]) d_Arrays_fill_a_14 rfl (by decide) (by decide) rfl ?_
  refine e_goto (tgt := 5) d_Arrays_fill_a_17 (by decide) ?_
  refine e_iload_n d_Arrays_fill_a_5 rfl ?_
  refine e_iload_n d_Arrays_fill_a_6 rfl ?_
  refine e_icmp_ge (tgt := 20) d_Arrays_fill_a_7 (by decide) (fun _ => ?_) (fun q => absurd q (by decide))
  exact e_vret d_Arrays_fill_a_20 rfl rfl
set_option maxRecDepth 20000 in
set_option maxHeartbeats 4000000 in
theorem k0_House_init_1 {e : gE} {b : Nat} : GM e.1 (gX0 e b) m_House_init [(2, ((b : Int) + 3))] (zH b ((gn (gX0 e b) 10 : Int) + 1) zo5) 6 104 (fun _ G1 => G1 = zH b ((gn (gX0 e b) 10 : Int) + 1) zo9) := by
  refine GM.ofEV (by decide) (Nat.le_of_ble_eq_true rfl) ?_
  show EV e.1 (gX0 e b) m_House_init _ 6 104 0 [(2, ((b : Int) + 3))] [] _
  refine e_aload_n d_House_init_0 rfl ?_
  refine e_objI d_House_init_1 w_66 w_33 w_34 (by omega) (by decide) (Nat.le_of_ble_eq_true rfl) (Nat.le_trans (gcat _) (by simp)) ?_
  refine e_aload_n d_House_init_4 rfl ?_
  refine e_bipush d_House_init_5 (by decide) (by decide) ?_
  refine e_newi (kc' := 5) (ks' := 84) d_House_init_7 w_92 (by decide) (by decide) (by decide +kernel) (by decide +kernel) (fun _ => trivial) (zNc (p := 4) (by decide +kernel) ?_)
  refine gp_House_9 d_House_init_9 rfl rfl (zTg (by decide +kernel)) (zLo (by decide)) (fun _ => trivial) (zE (zH_u1 rfl) ?_)
  refine e_aload_n d_House_init_12 rfl ?_
  refine e_bipush d_House_init_13 (by decide) (by decide) ?_
  refine e_newi (kc' := 4) (ks' := 64) d_House_init_15 w_92 (by decide) (by decide) (by decide +kernel) (by decide +kernel) (fun _ => trivial) (zNc (p := 5) (by decide +kernel) ?_)
  refine gp_House_15 d_House_init_17 rfl rfl (zTg (by decide +kernel)) (zLo (by decide)) (fun _ => trivial) (zE (zH_u1 rfl) ?_)
  refine e_aload_n d_House_init_20 rfl ?_
  refine e_bipush d_House_init_21 (by decide) (by decide) ?_
  refine e_newi (kc' := 3) (ks' := 44) d_House_init_23 w_92 (by decide) (by decide) (by decide +kernel) (by decide +kernel) (fun _ => trivial) (zNc (p := 6) (by decide +kernel) ?_)
  refine gp_House_18 d_House_init_25 rfl rfl (zTg (by decide +kernel)) (zLo (by decide)) (fun _ => trivial) (zE (zH_u1 rfl) ?_)
  refine e_aload_n d_House_init_28 rfl ?_
  refine e_bipush d_House_init_29 (by decide) (by decide) ?_
  refine e_newz (kc' := 2) (ks' := 24) d_House_init_31 w_93 (by decide) (by decide) (by decide +kernel) (by decide +kernel) (fun _ => trivial) (zNc (p := 7) (by decide +kernel) ?_)
  refine gp_House_21 d_House_init_33 rfl rfl (zTg (by decide +kernel)) (zLo (by decide)) (fun _ => trivial) (zE (zH_u1 rfl) ?_)
  refine e_aload_n d_House_init_36 rfl ?_
  refine e_bipush d_House_init_37 (by decide) (by decide) ?_
  refine e_newi (kc' := 1) (ks' := 12) d_House_init_39 w_92 (by decide) (by decide) (by decide +kernel) (by decide +kernel) (fun _ => trivial) (zNc (p := 8) (by decide +kernel) ?_)
  refine gp_House_25 d_House_init_41 rfl rfl (zTg (by decide +kernel)) (zLo (by decide)) (fun _ => trivial) (zE (zH_u1 rfl) ?_)
  refine e_aload_n d_House_init_44 rfl ?_
  refine gf_House_25 d_House_init_45 rfl (zTg (by decide +kernel)) ?_
  refine zGb (v := 8) (by decide +kernel) (by decide) ?_
  refine e_iconst d_House_init_48 (by decide) ?_
  refine e_callS m_Arrays_fill_a lw_good d_House_init_49 (k_Arrays_fill_a _) ⟨Nat.le_of_ble_eq_true rfl, Nat.le_of_ble_eq_true rfl⟩ w_67 w_68 (args := [(2, ((b : Int) + 8)), (0, (-1))]) rfl rfl (Nat.le_of_ble_eq_true rfl) (kc' := 1) (ks' := 12) (mc := 0) (ms := 0) (by decide +kernel) (by decide +kernel) k0_Arrays_fill_a_1 ?_
  rintro _ _ rfl
  refine e_aload_n d_House_init_52 rfl ?_
  refine gf_House_25 d_House_init_53 rfl (zTg (by decide +kernel)) ?_
  refine zGb (v := 8) (by decide +kernel) (by decide) ?_
  refine e_iconst d_House_init_56 (by decide) ?_
  refine e_iconst d_House_init_57 (by decide) ?_
  refine e_iast d_House_init_58 (zTg (by decide +kernel)) (by decide) (by rw [zTg (v := 12) (by decide +kernel)]; decide) (zLo (by decide)) (fun _ => trivial) (zE (zH_u0 rfl) ?_)
  refine e_aload_n d_House_init_59 rfl ?_
  refine e_bipush d_House_init_60 (by decide) (by decide) ?_
  refine e_newi (kc' := 0) (ks' := 0) d_House_init_62 w_92 (by decide) (by decide) (by decide +kernel) (by decide +kernel) (fun _ => trivial) (zNc (p := 9) (by decide +kernel) ?_)
  refine gp_House_34 d_House_init_64 rfl rfl (zTg (by decide +kernel)) (zLo (by decide)) (fun _ => trivial) (zE (zH_u1 rfl) ?_)
  refine e_aload_n d_House_init_67 rfl ?_
  refine gf_House_34 d_House_init_68 rfl (zTg (by decide +kernel)) ?_
  refine zGb (v := 9) (by decide +kernel) (by decide) ?_
  refine e_iconst d_House_init_71 (by decide) ?_
  refine e_callS m_Arrays_fill_a lw_good d_House_init_72 (k_Arrays_fill_a _) ⟨Nat.le_of_ble_eq_true rfl, Nat.le_of_ble_eq_true rfl⟩ w_67 w_68 (args := [(2, ((b : Int) + 9)), (0, (-1))]) rfl rfl (Nat.le_of_ble_eq_true rfl) (kc' := 0) (ks' := 0) (mc := 0) (ms := 0) (by decide +kernel) (by decide +kernel) k0_Arrays_fill_a_2 ?_
  rintro _ _ rfl
  exact e_vret d_House_init_75 rfl rfl
set_option maxRecDepth 20000 in
set_option maxHeartbeats 4000000 in
theorem k0_AC_init_2 {e : gE} {b : Nat} : GM e.1 (gX0 e b) m_AC_init [(2, ((b : Int) + 11))] (zH b ((gn (gX0 e b) 10 : Int) + 1) zo11) 0 0 (fun _ G1 => G1 = zH b ((gn (gX0 e b) 10 : Int) + 1) zo11) := by
  refine GM.ofJ (by decide +kernel) (Nat.le_of_ble_eq_true rfl) ?_
  show EV e.1 (gX0 e b) m_AC_init _ 0 0 0 [(2, ((b : Int) + 11))] [] _
  refine e_aload_n d_AC_init_0 rfl ?_
  refine e_objI d_AC_init_1 w_46 w_33 w_34 (by omega) (by decide) (Nat.le_of_ble_eq_true rfl) (Nat.le_trans (gcat _) (by simp)) ?_
  exact e_vret d_AC_init_4 rfl rfl
set_option maxRecDepth 20000 in
set_option maxHeartbeats 4000000 in
theorem k0_ABL_init_2 {e : gE} {b : Nat} : GM e.1 (gX0 e b) m_ABL_init [(2, ((b : Int) + 11))] (zH b ((gn (gX0 e b) 10 : Int) + 1) zo11) 0 0 (fun _ G1 => G1 = zH b ((gn (gX0 e b) 10 : Int) + 1) zo12) := by
  refine GM.ofJ (by decide +kernel) (Nat.le_of_ble_eq_true rfl) ?_
  show EV e.1 (gX0 e b) m_ABL_init _ 0 0 0 [(2, ((b : Int) + 11))] [] _
  refine e_aload_n d_ABL_init_0 rfl ?_
  refine e_callI m_AC_init lw_good d_ABL_init_1 (k_AC_init _) ⟨Nat.le_of_ble_eq_true rfl, Nat.le_of_ble_eq_true rfl⟩ w_43 w_44 rfl rfl (by omega) (args := []) rfl rfl (Nat.le_of_ble_eq_true rfl) (kc' := 0) (ks' := 0) (mc := 0) (ms := 0) (by decide +kernel) (by decide +kernel) k0_AC_init_2 ?_
  rintro _ _ rfl
  refine e_aload_n d_ABL_init_4 rfl ?_
  refine e_iconst d_ABL_init_5 (by decide) ?_
  refine gp_ABL_7 d_ABL_init_6 rfl (zTg (by decide +kernel)) (zLo (by decide)) (fun _ => trivial) (zE (zH_u0 rfl) ?_)
  exact e_vret d_ABL_init_9 rfl rfl
set_option maxRecDepth 20000 in
set_option maxHeartbeats 4000000 in
theorem k0_AL_init_2 {e : gE} {b : Nat} : GM e.1 (gX0 e b) m_AL_init [(2, ((b : Int) + 11))] (zH b ((gn (gX0 e b) 10 : Int) + 1) zo11) 0 0 (fun _ G1 => G1 = zH b ((gn (gX0 e b) 10 : Int) + 1) zo13) := by
  refine GM.ofJ (by decide +kernel) (Nat.le_of_ble_eq_true rfl) ?_
  show EV e.1 (gX0 e b) m_AL_init _ 0 0 0 [(2, ((b : Int) + 11))] [] _
  refine e_aload_n d_AL_init_0 rfl ?_
  refine e_callI m_ABL_init lw_good d_AL_init_1 (k_ABL_init _) ⟨Nat.le_of_ble_eq_true rfl, Nat.le_of_ble_eq_true rfl⟩ w_40 w_41 rfl rfl (by omega) (args := []) rfl rfl (Nat.le_of_ble_eq_true rfl) (kc' := 0) (ks' := 0) (mc := 0) (ms := 0) (by decide +kernel) (by decide +kernel) k0_ABL_init_2 ?_
  rintro _ _ rfl
  refine e_aload_n d_AL_init_4 rfl ?_
  refine e_gets "java/util/ArrayList" "DEFAULTCAPACITY_EMPTY_ELEMENTDATA" "[Ljava/lang/Object;" (2, ((gn (gX0 e b) 10 : Int) + 1)) (fun s h => by rw [cV_rn trivial]; exact h.2.1) (okN _) d_AL_init_5 w_47 ?_
  refine gp_AL_9 d_AL_init_8 rfl (zTg (by decide +kernel)) (zLo (by decide)) (fun _ => trivial) (zE (zH_u2 rfl) ?_)
  exact e_vret d_AL_init_11 rfl rfl
set_option maxRecDepth 20000 in
set_option maxHeartbeats 4000000 in
theorem k0_AC_init_3 {e : gE} {b : Nat} : GM e.1 (gX0 e b) m_AC_init [(2, ((b : Int) + 13))] (zH b ((gn (gX0 e b) 10 : Int) + 1) zo15) 0 0 (fun _ G1 => G1 = zH b ((gn (gX0 e b) 10 : Int) + 1) zo15) := by
  refine GM.ofJ (by decide +kernel) (Nat.le_of_ble_eq_true rfl) ?_
  show EV e.1 (gX0 e b) m_AC_init _ 0 0 0 [(2, ((b : Int) + 13))] [] _
  refine e_aload_n d_AC_init_0 rfl ?_
  refine e_objI d_AC_init_1 w_46 w_33 w_34 (by omega) (by decide) (Nat.le_of_ble_eq_true rfl) (Nat.le_trans (gcat _) (by simp)) ?_
  exact e_vret d_AC_init_4 rfl rfl
set_option maxRecDepth 20000 in
set_option maxHeartbeats 4000000 in
theorem k0_ABL_init_3 {e : gE} {b : Nat} : GM e.1 (gX0 e b) m_ABL_init [(2, ((b : Int) + 13))] (zH b ((gn (gX0 e b) 10 : Int) + 1) zo15) 0 0 (fun _ G1 => G1 = zH b ((gn (gX0 e b) 10 : Int) + 1) zo16) := by
  refine GM.ofJ (by decide +kernel) (Nat.le_of_ble_eq_true rfl) ?_
  show EV e.1 (gX0 e b) m_ABL_init _ 0 0 0 [(2, ((b : Int) + 13))] [] _
  refine e_aload_n d_ABL_init_0 rfl ?_
  refine e_callI m_AC_init lw_good d_ABL_init_1 (k_AC_init _) ⟨Nat.le_of_ble_eq_true rfl, Nat.le_of_ble_eq_true rfl⟩ w_43 w_44 rfl rfl (by omega) (args := []) rfl rfl (Nat.le_of_ble_eq_true rfl) (kc' := 0) (ks' := 0) (mc := 0) (ms := 0) (by decide +kernel) (by decide +kernel) k0_AC_init_3 ?_
  rintro _ _ rfl
  refine e_aload_n d_ABL_init_4 rfl ?_
  refine e_iconst d_ABL_init_5 (by decide) ?_
  refine gp_ABL_7 d_ABL_init_6 rfl (zTg (by decide +kernel)) (zLo (by decide)) (fun _ => trivial) (zE (zH_u0 rfl) ?_)
  exact e_vret d_ABL_init_9 rfl rfl
set_option maxRecDepth 20000 in
set_option maxHeartbeats 4000000 in
theorem k0_AL_init_3 {e : gE} {b : Nat} : GM e.1 (gX0 e b) m_AL_init [(2, ((b : Int) + 13))] (zH b ((gn (gX0 e b) 10 : Int) + 1) zo15) 0 0 (fun _ G1 => G1 = zH b ((gn (gX0 e b) 10 : Int) + 1) zo17) := by
  refine GM.ofJ (by decide +kernel) (Nat.le_of_ble_eq_true rfl) ?_
  show EV e.1 (gX0 e b) m_AL_init _ 0 0 0 [(2, ((b : Int) + 13))] [] _
  refine e_aload_n d_AL_init_0 rfl ?_
  refine e_callI m_ABL_init lw_good d_AL_init_1 (k_ABL_init _) ⟨Nat.le_of_ble_eq_true rfl, Nat.le_of_ble_eq_true rfl⟩ w_40 w_41 rfl rfl (by omega) (args := []) rfl rfl (Nat.le_of_ble_eq_true rfl) (kc' := 0) (ks' := 0) (mc := 0) (ms := 0) (by decide +kernel) (by decide +kernel) k0_ABL_init_3 ?_
  rintro _ _ rfl
  refine e_aload_n d_AL_init_4 rfl ?_
  refine e_gets "java/util/ArrayList" "DEFAULTCAPACITY_EMPTY_ELEMENTDATA" "[Ljava/lang/Object;" (2, ((gn (gX0 e b) 10 : Int) + 1)) (fun s h => by rw [cV_rn trivial]; exact h.2.1) (okN _) d_AL_init_5 w_47 ?_
  refine gp_AL_9 d_AL_init_8 rfl (zTg (by decide +kernel)) (zLo (by decide)) (fun _ => trivial) (zE (zH_u2 rfl) ?_)
  exact e_vret d_AL_init_11 rfl rfl
set_option maxRecDepth 20000 in
set_option maxHeartbeats 4000000 in
theorem k0_AC_init_4 {e : gE} {b : Nat} : GM e.1 (gX0 e b) m_AC_init [(2, ((b : Int) + 14))] (zH b ((gn (gX0 e b) 10 : Int) + 1) zo18) 0 0 (fun _ G1 => G1 = zH b ((gn (gX0 e b) 10 : Int) + 1) zo18) := by
  refine GM.ofJ (by decide +kernel) (Nat.le_of_ble_eq_true rfl) ?_
  show EV e.1 (gX0 e b) m_AC_init _ 0 0 0 [(2, ((b : Int) + 14))] [] _
  refine e_aload_n d_AC_init_0 rfl ?_
  refine e_objI d_AC_init_1 w_46 w_33 w_34 (by omega) (by decide) (Nat.le_of_ble_eq_true rfl) (Nat.le_trans (gcat _) (by simp)) ?_
  exact e_vret d_AC_init_4 rfl rfl
set_option maxRecDepth 20000 in
set_option maxHeartbeats 4000000 in
theorem k0_ABL_init_4 {e : gE} {b : Nat} : GM e.1 (gX0 e b) m_ABL_init [(2, ((b : Int) + 14))] (zH b ((gn (gX0 e b) 10 : Int) + 1) zo18) 0 0 (fun _ G1 => G1 = zH b ((gn (gX0 e b) 10 : Int) + 1) zo19) := by
  refine GM.ofJ (by decide +kernel) (Nat.le_of_ble_eq_true rfl) ?_
  show EV e.1 (gX0 e b) m_ABL_init _ 0 0 0 [(2, ((b : Int) + 14))] [] _
  refine e_aload_n d_ABL_init_0 rfl ?_
  refine e_callI m_AC_init lw_good d_ABL_init_1 (k_AC_init _) ⟨Nat.le_of_ble_eq_true rfl, Nat.le_of_ble_eq_true rfl⟩ w_43 w_44 rfl rfl (by omega) (args := []) rfl rfl (Nat.le_of_ble_eq_true rfl) (kc' := 0) (ks' := 0) (mc := 0) (ms := 0) (by decide +kernel) (by decide +kernel) k0_AC_init_4 ?_
  rintro _ _ rfl
  refine e_aload_n d_ABL_init_4 rfl ?_
  refine e_iconst d_ABL_init_5 (by decide) ?_
  refine gp_ABL_7 d_ABL_init_6 rfl (zTg (by decide +kernel)) (zLo (by decide)) (fun _ => trivial) (zE (zH_u0 rfl) ?_)
  exact e_vret d_ABL_init_9 rfl rfl
set_option maxRecDepth 20000 in
set_option maxHeartbeats 4000000 in
theorem k0_AL_init_4 {e : gE} {b : Nat} : GM e.1 (gX0 e b) m_AL_init [(2, ((b : Int) + 14))] (zH b ((gn (gX0 e b) 10 : Int) + 1) zo18) 0 0 (fun _ G1 => G1 = zH b ((gn (gX0 e b) 10 : Int) + 1) zo20) := by
  refine GM.ofJ (by decide +kernel) (Nat.le_of_ble_eq_true rfl) ?_
  show EV e.1 (gX0 e b) m_AL_init _ 0 0 0 [(2, ((b : Int) + 14))] [] _
  refine e_aload_n d_AL_init_0 rfl ?_
  refine e_callI m_ABL_init lw_good d_AL_init_1 (k_ABL_init _) ⟨Nat.le_of_ble_eq_true rfl, Nat.le_of_ble_eq_true rfl⟩ w_40 w_41 rfl rfl (by omega) (args := []) rfl rfl (Nat.le_of_ble_eq_true rfl) (kc' := 0) (ks' := 0) (mc := 0) (ms := 0) (by decide +kernel) (by decide +kernel) k0_ABL_init_4 ?_
  rintro _ _ rfl
  refine e_aload_n d_AL_init_4 rfl ?_
  refine e_gets "java/util/ArrayList" "DEFAULTCAPACITY_EMPTY_ELEMENTDATA" "[Ljava/lang/Object;" (2, ((gn (gX0 e b) 10 : Int) + 1)) (fun s h => by rw [cV_rn trivial]; exact h.2.1) (okN _) d_AL_init_5 w_47 ?_
  refine gp_AL_9 d_AL_init_8 rfl (zTg (by decide +kernel)) (zLo (by decide)) (fun _ => trivial) (zE (zH_u2 rfl) ?_)
  exact e_vret d_AL_init_11 rfl rfl
set_option maxRecDepth 20000 in
set_option maxHeartbeats 4000000 in
theorem k0_Planner_init_1 {e : gE} {b : Nat} : GM e.1 (gX0 e b) m_Planner_init [(2, ((b : Int) + 12)), (2, ((b : Int) + 2)), (2, ((b : Int) + 11)), (2, ((b : Int) + 3))] (zH b ((gn (gX0 e b) 10 : Int) + 1) zo14) 5 774 (fun _ G1 => G1 = zH b ((gn (gX0 e b) 10 : Int) + 1) zo21) := by
  refine GM.ofEV (by decide) (Nat.le_of_ble_eq_true rfl) ?_
  show EV e.1 (gX0 e b) m_Planner_init _ 5 774 0 [(2, ((b : Int) + 12)), (2, ((b : Int) + 2)), (2, ((b : Int) + 11)), (2, ((b : Int) + 3))] [] _
  refine e_aload_n d_Planner_init_0 rfl ?_
  refine e_objI d_Planner_init_1 w_107 w_33 w_34 (by omega) (by decide) (Nat.le_of_ble_eq_true rfl) (Nat.le_trans (gcat _) (by simp)) ?_
  refine e_aload_n d_Planner_init_4 rfl ?_
  refine e_aload_n d_Planner_init_5 rfl ?_
  refine gp_Planner_9 d_Planner_init_6 rfl rfl (zTg (by decide +kernel)) (zLo (by decide)) (fun _ => trivial) (zE (zH_u1 rfl) ?_)
  refine e_aload_n d_Planner_init_9 rfl ?_
  refine e_aload_n d_Planner_init_10 rfl ?_
  refine gp_Planner_15 d_Planner_init_11 rfl rfl (zTg (by decide +kernel)) (zLo (by decide)) (fun _ => trivial) (zE (zH_u1 rfl) ?_)
  refine e_aload_n d_Planner_init_14 rfl ?_
  refine e_aload_n d_Planner_init_15 rfl ?_
  refine gp_Planner_18 d_Planner_init_16 rfl rfl (zTg (by decide +kernel)) (zLo (by decide)) (fun _ => trivial) (zE (zH_u1 rfl) ?_)
  refine e_aload_n d_Planner_init_19 rfl ?_
  refine e_new (kc' := 4) (ks' := 771) 0 d_Planner_init_20 (q_AL _) w_108 w_36 w_4 (by decide +kernel) (by decide +kernel) (fun _ => trivial) (zNc (p := 13) (by decide +kernel) ?_)
  refine e_dup d_Planner_init_23 (by simp) ?_
  refine e_callI m_AL_init lw_good d_Planner_init_24 (k_AL_init _) ⟨Nat.le_of_ble_eq_true rfl, Nat.le_of_ble_eq_true rfl⟩ w_109 w_38 rfl rfl (by omega) (args := []) rfl rfl (Nat.le_of_ble_eq_true rfl) (kc' := 4) (ks' := 771) (mc := 0) (ms := 0) (by decide +kernel) (by decide +kernel) k0_AL_init_3 ?_
  rintro _ _ rfl
  refine gp_Planner_25 d_Planner_init_27 rfl rfl (zTg (by decide +kernel)) (zLo (by decide)) (fun _ => trivial) (zE (zH_u1 rfl) ?_)
  refine e_aload_n d_Planner_init_30 rfl ?_
  refine e_new (kc' := 3) (ks' := 768) 0 d_Planner_init_31 (q_AL _) w_108 w_36 w_4 (by decide +kernel) (by decide +kernel) (fun _ => trivial) (zNc (p := 14) (by decide +kernel) ?_)
  refine e_dup d_Planner_init_34 (by simp) ?_
  refine e_callI m_AL_init lw_good d_Planner_init_35 (k_AL_init _) ⟨Nat.le_of_ble_eq_true rfl, Nat.le_of_ble_eq_true rfl⟩ w_109 w_38 rfl rfl (by omega) (args := []) rfl rfl (Nat.le_of_ble_eq_true rfl) (kc' := 3) (ks' := 768) (mc := 0) (ms := 0) (by decide +kernel) (by decide +kernel) k0_AL_init_4 ?_
  rintro _ _ rfl
  refine gp_Planner_28 d_Planner_init_38 rfl rfl (zTg (by decide +kernel)) (zLo (by decide)) (fun _ => trivial) (zE (zH_u1 rfl) ?_)
  refine e_aload_n d_Planner_init_41 rfl ?_
  refine e_sipush d_Planner_init_42 (by decide) (by decide) ?_
  refine e_newj (kc' := 2) (ks' := 512) d_Planner_init_45 w_135 (by decide) (by decide) (by decide +kernel) (by decide +kernel) (fun _ => trivial) (zNc (p := 15) (by decide +kernel) ?_)
  refine gp_Planner_31 d_Planner_init_47 rfl rfl (zTg (by decide +kernel)) (zLo (by decide)) (fun _ => trivial) (zE (zH_u1 rfl) ?_)
  refine e_aload_n d_Planner_init_50 rfl ?_
  refine e_sipush d_Planner_init_51 (by decide) (by decide) ?_
  refine e_newj (kc' := 1) (ks' := 256) d_Planner_init_54 w_135 (by decide) (by decide) (by decide +kernel) (by decide +kernel) (fun _ => trivial) (zNc (p := 16) (by decide +kernel) ?_)
  refine gp_Planner_35 d_Planner_init_56 rfl rfl (zTg (by decide +kernel)) (zLo (by decide)) (fun _ => trivial) (zE (zH_u1 rfl) ?_)
  refine e_aload_n d_Planner_init_59 rfl ?_
  refine e_sipush d_Planner_init_60 (by decide) (by decide) ?_
  refine e_newi (kc' := 0) (ks' := 0) d_Planner_init_63 w_92 (by decide) (by decide) (by decide +kernel) (by decide +kernel) (fun _ => trivial) (zNc (p := 17) (by decide +kernel) ?_)
  refine gp_Planner_38 d_Planner_init_65 rfl rfl (zTg (by decide +kernel)) (zLo (by decide)) (fun _ => trivial) (zE (zH_u1 rfl) ?_)
  exact e_vret d_Planner_init_68 rfl rfl
set_option maxRecDepth 20000 in
set_option maxHeartbeats 4000000 in
theorem k0_Hours_init_1 {e : gE} {b : Nat} : GM e.1 (gX0 e b) m_Hours_init [(2, ((b : Int) + 10)), (2, ((b : Int) + 2)), (2, ((b : Int) + 3))] (zH b ((gn (gX0 e b) 10 : Int) + 1) zo10) 7 785 (fun _ G1 => G1 = zH b ((gn (gX0 e b) 10 : Int) + 1) zo22) := by
  refine GM.ofEV (by decide) (Nat.le_of_ble_eq_true rfl) ?_
  show EV e.1 (gX0 e b) m_Hours_init _ 7 785 0 [(2, ((b : Int) + 10)), (2, ((b : Int) + 2)), (2, ((b : Int) + 3))] [] _
  refine e_aload_n d_Hours_init_0 rfl ?_
  refine e_objI d_Hours_init_1 w_99 w_33 w_34 (by omega) (by decide) (Nat.le_of_ble_eq_true rfl) (Nat.le_trans (gcat _) (by simp)) ?_
  refine e_aload_n d_Hours_init_4 rfl ?_
  refine e_aload_n d_Hours_init_5 rfl ?_
  refine gp_Hours_9 d_Hours_init_6 rfl rfl (zTg (by decide +kernel)) (zLo (by decide)) (fun _ => trivial) (zE (zH_u1 rfl) ?_)
  refine e_aload_n d_Hours_init_9 rfl ?_
  refine e_new (kc' := 6) (ks' := 782) 0 d_Hours_init_10 (q_AL _) w_100 w_36 w_4 (by decide +kernel) (by decide +kernel) (fun _ => trivial) (zNc (p := 11) (by decide +kernel) ?_)
  refine e_dup d_Hours_init_13 (by simp) ?_
  refine e_callI m_AL_init lw_good d_Hours_init_14 (k_AL_init _) ⟨Nat.le_of_ble_eq_true rfl, Nat.le_of_ble_eq_true rfl⟩ w_101 w_38 rfl rfl (by omega) (args := []) rfl rfl (Nat.le_of_ble_eq_true rfl) (kc' := 6) (ks' := 782) (mc := 0) (ms := 0) (by decide +kernel) (by decide +kernel) k0_AL_init_2 ?_
  rintro _ _ rfl
  refine gp_Hours_18 d_Hours_init_17 rfl rfl (zTg (by decide +kernel)) (zLo (by decide)) (fun _ => trivial) (zE (zH_u1 rfl) ?_)
  refine e_aload_n d_Hours_init_20 rfl ?_
  refine e_new (kc' := 5) (ks' := 774) 5 d_Hours_init_21 (q_Planner _) w_102 w_103 w_8 (by decide +kernel) (by decide +kernel) (fun _ => trivial) (zNc (p := 12) (by decide +kernel) ?_)
  refine e_dup d_Hours_init_24 (by simp) ?_
  refine e_aload_n d_Hours_init_25 rfl ?_
  refine e_aload_n d_Hours_init_26 rfl ?_
  refine gf_Hours_18 d_Hours_init_27 rfl (zTg (by decide +kernel)) ?_
  refine zGb (v := 11) (by decide +kernel) (by decide) ?_
  refine e_aload_n d_Hours_init_30 rfl ?_
  refine e_callI m_Planner_init lw_good d_Hours_init_31 (k_Planner_init _) ⟨Nat.le_of_ble_eq_true rfl, Nat.le_of_ble_eq_true rfl⟩ w_104 w_105 rfl rfl (by omega) (args := [(2, ((b : Int) + 2)), (2, ((b : Int) + 11)), (2, ((b : Int) + 3))]) rfl rfl (Nat.le_of_ble_eq_true rfl) (kc' := 0) (ks' := 0) (mc := 5) (ms := 774) (by decide +kernel) (by decide +kernel) k0_Planner_init_1 ?_
  rintro _ _ rfl
  refine gp_Hours_26 d_Hours_init_34 rfl rfl (zTg (by decide +kernel)) (zLo (by decide)) (fun _ => trivial) (zE (zH_u1 rfl) ?_)
  exact e_vret d_Hours_init_37 rfl rfl
set_option maxRecDepth 20000 in
set_option maxHeartbeats 4000000 in
theorem k0_AC_init_5 {e : gE} {b : Nat} : GM e.1 (gX0 e b) m_AC_init [(2, ((b : Int) + 19))] (zH b ((gn (gX0 e b) 10 : Int) + 1) zo24) 0 0 (fun _ G1 => G1 = zH b ((gn (gX0 e b) 10 : Int) + 1) zo24) := by
  refine GM.ofJ (by decide +kernel) (Nat.le_of_ble_eq_true rfl) ?_
  show EV e.1 (gX0 e b) m_AC_init _ 0 0 0 [(2, ((b : Int) + 19))] [] _
  refine e_aload_n d_AC_init_0 rfl ?_
  refine e_objI d_AC_init_1 w_46 w_33 w_34 (by omega) (by decide) (Nat.le_of_ble_eq_true rfl) (Nat.le_trans (gcat _) (by simp)) ?_
  exact e_vret d_AC_init_4 rfl rfl
set_option maxRecDepth 20000 in
set_option maxHeartbeats 4000000 in
theorem k0_ABL_init_5 {e : gE} {b : Nat} : GM e.1 (gX0 e b) m_ABL_init [(2, ((b : Int) + 19))] (zH b ((gn (gX0 e b) 10 : Int) + 1) zo24) 0 0 (fun _ G1 => G1 = zH b ((gn (gX0 e b) 10 : Int) + 1) zo25) := by
  refine GM.ofJ (by decide +kernel) (Nat.le_of_ble_eq_true rfl) ?_
  show EV e.1 (gX0 e b) m_ABL_init _ 0 0 0 [(2, ((b : Int) + 19))] [] _
  refine e_aload_n d_ABL_init_0 rfl ?_
  refine e_callI m_AC_init lw_good d_ABL_init_1 (k_AC_init _) ⟨Nat.le_of_ble_eq_true rfl, Nat.le_of_ble_eq_true rfl⟩ w_43 w_44 rfl rfl (by omega) (args := []) rfl rfl (Nat.le_of_ble_eq_true rfl) (kc' := 0) (ks' := 0) (mc := 0) (ms := 0) (by decide +kernel) (by decide +kernel) k0_AC_init_5 ?_
  rintro _ _ rfl
  refine e_aload_n d_ABL_init_4 rfl ?_
  refine e_iconst d_ABL_init_5 (by decide) ?_
  refine gp_ABL_7 d_ABL_init_6 rfl (zTg (by decide +kernel)) (zLo (by decide)) (fun _ => trivial) (zE (zH_u0 rfl) ?_)
  exact e_vret d_ABL_init_9 rfl rfl
set_option maxRecDepth 20000 in
set_option maxHeartbeats 4000000 in
theorem k0_AL_init_5 {e : gE} {b : Nat} : GM e.1 (gX0 e b) m_AL_init [(2, ((b : Int) + 19))] (zH b ((gn (gX0 e b) 10 : Int) + 1) zo24) 0 0 (fun _ G1 => G1 = zH b ((gn (gX0 e b) 10 : Int) + 1) zo26) := by
  refine GM.ofJ (by decide +kernel) (Nat.le_of_ble_eq_true rfl) ?_
  show EV e.1 (gX0 e b) m_AL_init _ 0 0 0 [(2, ((b : Int) + 19))] [] _
  refine e_aload_n d_AL_init_0 rfl ?_
  refine e_callI m_ABL_init lw_good d_AL_init_1 (k_ABL_init _) ⟨Nat.le_of_ble_eq_true rfl, Nat.le_of_ble_eq_true rfl⟩ w_40 w_41 rfl rfl (by omega) (args := []) rfl rfl (Nat.le_of_ble_eq_true rfl) (kc' := 0) (ks' := 0) (mc := 0) (ms := 0) (by decide +kernel) (by decide +kernel) k0_ABL_init_5 ?_
  rintro _ _ rfl
  refine e_aload_n d_AL_init_4 rfl ?_
  refine e_gets "java/util/ArrayList" "DEFAULTCAPACITY_EMPTY_ELEMENTDATA" "[Ljava/lang/Object;" (2, ((gn (gX0 e b) 10 : Int) + 1)) (fun s h => by rw [cV_rn trivial]; exact h.2.1) (okN _) d_AL_init_5 w_47 ?_
  refine gp_AL_9 d_AL_init_8 rfl (zTg (by decide +kernel)) (zLo (by decide)) (fun _ => trivial) (zE (zH_u2 rfl) ?_)
  exact e_vret d_AL_init_11 rfl rfl
set_option maxRecDepth 20000 in
set_option maxHeartbeats 4000000 in
theorem k0_Arrays_fill_a_3 {e : gE} {b : Nat} : GM e.1 (gX0 e b) m_Arrays_fill_a [(2, ((b : Int) + 21)), (0, 100)] (zH b ((gn (gX0 e b) 10 : Int) + 1) zo27) 0 0 (fun _ G1 => G1 = zH b ((gn (gX0 e b) 10 : Int) + 1) zo28) := by
  refine GM.ofJ (by decide +kernel) (Nat.le_of_ble_eq_true rfl) ?_
  show EV e.1 (gX0 e b) m_Arrays_fill_a _ 0 0 0 [(2, ((b : Int) + 21)), (0, 100), (9, 0), (9, 0)] [] _
  refine e_iconst d_Arrays_fill_a_0 (by decide) ?_
  refine e_istore_n (ls' := [(2, ((b : Int) + 21)), (0, 100), (0, 0), (9, 0)]) d_Arrays_fill_a_1 (by decide) rfl ?_
  refine e_aload_n d_Arrays_fill_a_2 rfl ?_
  refine e_alen d_Arrays_fill_a_3 (by rw [zTg (v := 100) (by decide +kernel)]; decide) (zGl (v := 4) (by decide +kernel) ?_)
  refine e_istore_n (ls' := [(2, ((b : Int) + 21)), (0, 100), (0, 0), (0, 4)]) d_Arrays_fill_a_4 (by decide) rfl ?_
  refine e_iload_n d_Arrays_fill_a_5 rfl ?_
  refine e_iload_n d_Arrays_fill_a_6 rfl ?_
  refine e_icmp_ge (tgt := 20) d_Arrays_fill_a_7 (by decide) (fun q => absurd q (by decide)) (fun _ => ?_)
  refine e_aload_n d_Arrays_fill_a_10 rfl ?_
  refine e_iload_n d_Arrays_fill_a_11 rfl ?_
  refine e_iload_n d_Arrays_fill_a_12 rfl ?_
  refine e_iast d_Arrays_fill_a_13 (zTg (by decide +kernel)) (by decide) (by rw [zTg (v := 4) (by decide +kernel)]; decide) (zLo (by decide)) (fun _ => trivial) (zE (zH_u0 rfl) ?_)
  refine e_iinc (ls' := [(2, ((b : Int) + 21)), (0, 100), (0, 1), (0, 4)]) d_Arrays_fill_a_14 rfl (by decide) (by decide) rfl ?_
  refine e_goto (tgt := 5) d_Arrays_fill_a_17 (by decide) ?_
  refine e_iload_n d_Arrays_fill_a_5 rfl ?_
  refine e_iload_n d_Arrays_fill_a_6 rfl ?_
  refine e_icmp_ge (tgt := 20) d_Arrays_fill_a_7 (by decide) (fun q => absurd q (by decide)) (fun _ => ?_)
  refine e_aload_n d_Arrays_fill_a_10 rfl ?_
  refine e_iload_n d_Arrays_fill_a_11 rfl ?_
  refine e_iload_n d_Arrays_fill_a_12 rfl ?_
  refine e_iast d_Arrays_fill_a_13 (zTg (by decide +kernel)) (by decide) (by rw [zTg (v := 4) (by decide +kernel)]; decide) (zLo (by decide)) (fun _ => trivial) (zE (zH_u0 rfl) ?_)
  refine e_iinc (ls' := [(2, ((b : Int) + 21)), (0, 100), (0, 2), (0, 4)]) d_Arrays_fill_a_14 rfl (by decide) (by decide) rfl ?_
  refine e_goto (tgt := 5) d_Arrays_fill_a_17 (by decide) ?_
  refine e_iload_n d_Arrays_fill_a_5 rfl ?_
  refine e_iload_n d_Arrays_fill_a_6 rfl ?_
  refine e_icmp_ge (tgt := 20) d_Arrays_fill_a_7 (by decide) (fun q => absurd q (by decide)) (fun _ => ?_)
  refine e_aload_n d_Arrays_fill_a_10 rfl ?_
  refine e_iload_n d_Arrays_fill_a_11 rfl ?_
  refine e_iload_n d_Arrays_fill_a_12 rfl ?_
  refine e_iast d_Arrays_fill_a_13 (zTg (by decide +kernel)) (by decide) (by rw [zTg (v := 4) (by decide +kernel)]; decide) (zLo (by decide)) (fun _ => trivial) (zE (zH_u0 rfl) ?_)
  refine e_iinc (ls' := [(2, ((b : Int) + 21)), (0, 100), (0, 3), (0, 4)]) d_Arrays_fill_a_14 rfl (by decide) (by decide) rfl ?_
  refine e_goto (tgt := 5) d_Arrays_fill_a_17 (by decide) ?_
  refine e_iload_n d_Arrays_fill_a_5 rfl ?_
  refine e_iload_n d_Arrays_fill_a_6 rfl ?_
  refine e_icmp_ge (tgt := 20) d_Arrays_fill_a_7 (by decide) (fun q => absurd q (by decide)) (fun _ => ?_)
  refine e_aload_n d_Arrays_fill_a_10 rfl ?_
  refine e_iload_n d_Arrays_fill_a_11 rfl ?_
  refine e_iload_n d_Arrays_fill_a_12 rfl ?_
  refine e_iast d_Arrays_fill_a_13 (zTg (by decide +kernel)) (by decide) (by rw [zTg (v := 4) (by decide +kernel)]; decide) (zLo (by decide)) (fun _ => trivial) (zE (zH_u0 rfl) ?_)
  refine e_iinc (ls' := [(2, ((b : Int) + 21)), (0, 100), (0, 4), (0, 4)]) d_Arrays_fill_a_14 rfl (by decide) (by decide) rfl ?_
  refine e_goto (tgt := 5) d_Arrays_fill_a_17 (by decide) ?_
  refine e_iload_n d_Arrays_fill_a_5 rfl ?_
  refine e_iload_n d_Arrays_fill_a_6 rfl ?_
  refine e_icmp_ge (tgt := 20) d_Arrays_fill_a_7 (by decide) (fun _ => ?_) (fun q => absurd q (by decide))
  exact e_vret d_Arrays_fill_a_20 rfl rfl
set_option maxRecDepth 20000 in
set_option maxHeartbeats 4000000 in
theorem k0_Years_init_1 {e : gE} {b : Nat} : GM e.1 (gX0 e b) m_Years_init [(2, ((b : Int) + 18)), (2, ((b : Int) + 2))] (zH b ((gn (gX0 e b) 10 : Int) + 1) zo23) 4 15 (fun _ G1 => G1 = zH b ((gn (gX0 e b) 10 : Int) + 1) zo29) := by
  refine GM.ofEV (by decide) (Nat.le_of_ble_eq_true rfl) ?_
  show EV e.1 (gX0 e b) m_Years_init _ 4 15 0 [(2, ((b : Int) + 18)), (2, ((b : Int) + 2))] [] _
  refine e_aload_n d_Years_init_0 rfl ?_
  refine e_objI d_Years_init_1 w_160 w_33 w_34 (by omega) (by decide) (Nat.le_of_ble_eq_true rfl) (Nat.le_trans (gcat _) (by simp)) ?_
  refine e_aload_n d_Years_init_4 rfl ?_
  refine e_aload_n d_Years_init_5 rfl ?_
  refine gp_Years_9 d_Years_init_6 rfl rfl (zTg (by decide +kernel)) (zLo (by decide)) (fun _ => trivial) (zE (zH_u1 rfl) ?_)
  refine e_aload_n d_Years_init_9 rfl ?_
  refine e_new (kc' := 3) (ks' := 12) 0 d_Years_init_10 (q_AL _) w_161 w_36 w_4 (by decide +kernel) (by decide +kernel) (fun _ => trivial) (zNc (p := 19) (by decide +kernel) ?_)
  refine e_dup d_Years_init_13 (by simp) ?_
  refine e_callI m_AL_init lw_good d_Years_init_14 (k_AL_init _) ⟨Nat.le_of_ble_eq_true rfl, Nat.le_of_ble_eq_true rfl⟩ w_162 w_38 rfl rfl (by omega) (args := []) rfl rfl (Nat.le_of_ble_eq_true rfl) (kc' := 3) (ks' := 12) (mc := 0) (ms := 0) (by decide +kernel) (by decide +kernel) k0_AL_init_5 ?_
  rintro _ _ rfl
  refine gp_Years_18 d_Years_init_17 rfl rfl (zTg (by decide +kernel)) (zLo (by decide)) (fun _ => trivial) (zE (zH_u1 rfl) ?_)
  refine e_aload_n d_Years_init_20 rfl ?_
  refine e_iconst d_Years_init_21 (by decide) ?_
  refine e_newi (kc' := 2) (ks' := 8) d_Years_init_22 w_92 (by decide) (by decide) (by decide +kernel) (by decide +kernel) (fun _ => trivial) (zNc (p := 20) (by decide +kernel) ?_)
  refine gp_Years_21 d_Years_init_24 rfl rfl (zTg (by decide +kernel)) (zLo (by decide)) (fun _ => trivial) (zE (zH_u1 rfl) ?_)
  refine e_aload_n d_Years_init_27 rfl ?_
  refine e_iconst d_Years_init_28 (by decide) ?_
  refine e_newi (kc' := 1) (ks' := 4) d_Years_init_29 w_92 (by decide) (by decide) (by decide +kernel) (by decide +kernel) (fun _ => trivial) (zNc (p := 21) (by decide +kernel) ?_)
  refine gp_Years_25 d_Years_init_31 rfl rfl (zTg (by decide +kernel)) (zLo (by decide)) (fun _ => trivial) (zE (zH_u1 rfl) ?_)
  refine e_aload_n d_Years_init_34 rfl ?_
  refine gf_Years_25 d_Years_init_35 rfl (zTg (by decide +kernel)) ?_
  refine zGb (v := 21) (by decide +kernel) (by decide) ?_
  refine e_bipush d_Years_init_38 (by decide) (by decide) ?_
  refine e_callS m_Arrays_fill_a lw_good d_Years_init_40 (k_Arrays_fill_a _) ⟨Nat.le_of_ble_eq_true rfl, Nat.le_of_ble_eq_true rfl⟩ w_163 w_68 (args := [(2, ((b : Int) + 21)), (0, 100)]) rfl rfl (Nat.le_of_ble_eq_true rfl) (kc' := 1) (ks' := 4) (mc := 0) (ms := 0) (by decide +kernel) (by decide +kernel) k0_Arrays_fill_a_3 ?_
  rintro _ _ rfl
  refine e_aload_n d_Years_init_43 rfl ?_
  refine e_iconst d_Years_init_44 (by decide) ?_
  refine e_newi (kc' := 0) (ks' := 0) d_Years_init_45 w_92 (by decide) (by decide) (by decide +kernel) (by decide +kernel) (fun _ => trivial) (zNc (p := 22) (by decide +kernel) ?_)
  refine gp_Years_34 d_Years_init_47 rfl rfl (zTg (by decide +kernel)) (zLo (by decide)) (fun _ => trivial) (zE (zH_u1 rfl) ?_)
  exact e_vret d_Years_init_50 rfl rfl
set_option maxRecDepth 20000 in
set_option maxHeartbeats 4000000 in
theorem k0_AC_init_6 {e : gE} {b : Nat} : GM e.1 (gX0 e b) m_AC_init [(2, ((b : Int) + 24))] (zH b ((gn (gX0 e b) 10 : Int) + 1) zo31) 0 0 (fun _ G1 => G1 = zH b ((gn (gX0 e b) 10 : Int) + 1) zo31) := by
  refine GM.ofJ (by decide +kernel) (Nat.le_of_ble_eq_true rfl) ?_
  show EV e.1 (gX0 e b) m_AC_init _ 0 0 0 [(2, ((b : Int) + 24))] [] _
  refine e_aload_n d_AC_init_0 rfl ?_
  refine e_objI d_AC_init_1 w_46 w_33 w_34 (by omega) (by decide) (Nat.le_of_ble_eq_true rfl) (Nat.le_trans (gcat _) (by simp)) ?_
  exact e_vret d_AC_init_4 rfl rfl
set_option maxRecDepth 20000 in
set_option maxHeartbeats 4000000 in
theorem k0_ABL_init_6 {e : gE} {b : Nat} : GM e.1 (gX0 e b) m_ABL_init [(2, ((b : Int) + 24))] (zH b ((gn (gX0 e b) 10 : Int) + 1) zo31) 0 0 (fun _ G1 => G1 = zH b ((gn (gX0 e b) 10 : Int) + 1) zo32) := by
  refine GM.ofJ (by decide +kernel) (Nat.le_of_ble_eq_true rfl) ?_
  show EV e.1 (gX0 e b) m_ABL_init _ 0 0 0 [(2, ((b : Int) + 24))] [] _
  refine e_aload_n d_ABL_init_0 rfl ?_
  refine e_callI m_AC_init lw_good d_ABL_init_1 (k_AC_init _) ⟨Nat.le_of_ble_eq_true rfl, Nat.le_of_ble_eq_true rfl⟩ w_43 w_44 rfl rfl (by omega) (args := []) rfl rfl (Nat.le_of_ble_eq_true rfl) (kc' := 0) (ks' := 0) (mc := 0) (ms := 0) (by decide +kernel) (by decide +kernel) k0_AC_init_6 ?_
  rintro _ _ rfl
  refine e_aload_n d_ABL_init_4 rfl ?_
  refine e_iconst d_ABL_init_5 (by decide) ?_
  refine gp_ABL_7 d_ABL_init_6 rfl (zTg (by decide +kernel)) (zLo (by decide)) (fun _ => trivial) (zE (zH_u0 rfl) ?_)
  exact e_vret d_ABL_init_9 rfl rfl
set_option maxRecDepth 20000 in
set_option maxHeartbeats 4000000 in
theorem k0_AL_init_6 {e : gE} {b : Nat} : GM e.1 (gX0 e b) m_AL_init [(2, ((b : Int) + 24))] (zH b ((gn (gX0 e b) 10 : Int) + 1) zo31) 0 0 (fun _ G1 => G1 = zH b ((gn (gX0 e b) 10 : Int) + 1) zo33) := by
  refine GM.ofJ (by decide +kernel) (Nat.le_of_ble_eq_true rfl) ?_
  show EV e.1 (gX0 e b) m_AL_init _ 0 0 0 [(2, ((b : Int) + 24))] [] _
  refine e_aload_n d_AL_init_0 rfl ?_
  refine e_callI m_ABL_init lw_good d_AL_init_1 (k_ABL_init _) ⟨Nat.le_of_ble_eq_true rfl, Nat.le_of_ble_eq_true rfl⟩ w_40 w_41 rfl rfl (by omega) (args := []) rfl rfl (Nat.le_of_ble_eq_true rfl) (kc' := 0) (ks' := 0) (mc := 0) (ms := 0) (by decide +kernel) (by decide +kernel) k0_ABL_init_6 ?_
  rintro _ _ rfl
  refine e_aload_n d_AL_init_4 rfl ?_
  refine e_gets "java/util/ArrayList" "DEFAULTCAPACITY_EMPTY_ELEMENTDATA" "[Ljava/lang/Object;" (2, ((gn (gX0 e b) 10 : Int) + 1)) (fun s h => by rw [cV_rn trivial]; exact h.2.1) (okN _) d_AL_init_5 w_47 ?_
  refine gp_AL_9 d_AL_init_8 rfl (zTg (by decide +kernel)) (zLo (by decide)) (fun _ => trivial) (zE (zH_u2 rfl) ?_)
  exact e_vret d_AL_init_11 rfl rfl
set_option maxRecDepth 20000 in
set_option maxHeartbeats 4000000 in
theorem k0_Spread_init_1 {e : gE} {b : Nat} : GM e.1 (gX0 e b) m_Spread_init [(2, ((b : Int) + 23)), (2, ((b : Int) + 2)), (2, ((b : Int) + 18))] (zH b ((gn (gX0 e b) 10 : Int) + 1) zo30) 9 1056 (fun _ G1 => G1 = zH b ((gn (gX0 e b) 10 : Int) + 1) zo34) := by
  refine GM.ofEV (by decide) (Nat.le_of_ble_eq_true rfl) ?_
  show EV e.1 (gX0 e b) m_Spread_init _ 9 1056 0 [(2, ((b : Int) + 23)), (2, ((b : Int) + 2)), (2, ((b : Int) + 18))] [] _
  refine e_aload_n d_Spread_init_0 rfl ?_
  refine e_objI d_Spread_init_1 w_191 w_33 w_34 (by omega) (by decide) (Nat.le_of_ble_eq_true rfl) (Nat.le_trans (gcat _) (by simp)) ?_
  refine e_aload_n d_Spread_init_4 rfl ?_
  refine e_aload_n d_Spread_init_5 rfl ?_
  refine gp_Spread_11 d_Spread_init_6 rfl rfl (zTg (by decide +kernel)) (zLo (by decide)) (fun _ => trivial) (zE (zH_u1 rfl) ?_)
  refine e_aload_n d_Spread_init_9 rfl ?_
  refine e_aload_n d_Spread_init_10 rfl ?_
  refine gp_Spread_15 d_Spread_init_11 rfl rfl (zTg (by decide +kernel)) (zLo (by decide)) (fun _ => trivial) (zE (zH_u1 rfl) ?_)
  refine e_aload_n d_Spread_init_14 rfl ?_
  refine e_new (kc' := 8) (ks' := 1053) 0 d_Spread_init_15 (q_AL _) w_192 w_36 w_4 (by decide +kernel) (by decide +kernel) (fun _ => trivial) (zNc (p := 24) (by decide +kernel) ?_)
  refine e_dup d_Spread_init_18 (by simp) ?_
  refine e_callI m_AL_init lw_good d_Spread_init_19 (k_AL_init _) ⟨Nat.le_of_ble_eq_true rfl, Nat.le_of_ble_eq_true rfl⟩ w_193 w_38 rfl rfl (by omega) (args := []) rfl rfl (Nat.le_of_ble_eq_true rfl) (kc' := 8) (ks' := 1053) (mc := 0) (ms := 0) (by decide +kernel) (by decide +kernel) k0_AL_init_6 ?_
  rintro _ _ rfl
  refine gp_Spread_22 d_Spread_init_22 rfl rfl (zTg (by decide +kernel)) (zLo (by decide)) (fun _ => trivial) (zE (zH_u1 rfl) ?_)
  refine e_aload_n d_Spread_init_25 rfl ?_
  refine e_sipush d_Spread_init_26 (by decide) (by decide) ?_
  refine e_newj (kc' := 7) (ks' := 797) d_Spread_init_29 w_135 (by decide) (by decide) (by decide +kernel) (by decide +kernel) (fun _ => trivial) (zNc (p := 25) (by decide +kernel) ?_)
  refine gp_Spread_25 d_Spread_init_31 rfl rfl (zTg (by decide +kernel)) (zLo (by decide)) (fun _ => trivial) (zE (zH_u1 rfl) ?_)
  refine e_aload_n d_Spread_init_34 rfl ?_
  refine e_sipush d_Spread_init_35 (by decide) (by decide) ?_
  refine e_newj (kc' := 6) (ks' := 541) d_Spread_init_38 w_135 (by decide) (by decide) (by decide +kernel) (by decide +kernel) (fun _ => trivial) (zNc (p := 26) (by decide +kernel) ?_)
  refine gp_Spread_29 d_Spread_init_40 rfl rfl (zTg (by decide +kernel)) (zLo (by decide)) (fun _ => trivial) (zE (zH_u1 rfl) ?_)
  refine e_aload_n d_Spread_init_43 rfl ?_
  refine e_sipush d_Spread_init_44 (by decide) (by decide) ?_
  refine e_newj (kc' := 5) (ks' := 285) d_Spread_init_47 w_135 (by decide) (by decide) (by decide +kernel) (by decide +kernel) (fun _ => trivial) (zNc (p := 27) (by decide +kernel) ?_)
  refine gp_Spread_32 d_Spread_init_49 rfl rfl (zTg (by decide +kernel)) (zLo (by decide)) (fun _ => trivial) (zE (zH_u1 rfl) ?_)
  refine e_aload_n d_Spread_init_52 rfl ?_
  refine e_sipush d_Spread_init_53 (by decide) (by decide) ?_
  refine e_newi (kc' := 4) (ks' := 29) d_Spread_init_56 w_92 (by decide) (by decide) (by decide +kernel) (by decide +kernel) (fun _ => trivial) (zNc (p := 28) (by decide +kernel) ?_)
  refine gp_Spread_35 d_Spread_init_58 rfl rfl (zTg (by decide +kernel)) (zLo (by decide)) (fun _ => trivial) (zE (zH_u1 rfl) ?_)
  refine e_aload_n d_Spread_init_61 rfl ?_
  refine e_iconst d_Spread_init_62 (by decide) ?_
  refine e_newi (kc' := 3) (ks' := 25) d_Spread_init_63 w_92 (by decide) (by decide) (by decide +kernel) (by decide +kernel) (fun _ => trivial) (zNc (p := 29) (by decide +kernel) ?_)
  refine gp_Spread_39 d_Spread_init_65 rfl rfl (zTg (by decide +kernel)) (zLo (by decide)) (fun _ => trivial) (zE (zH_u1 rfl) ?_)
  refine e_aload_n d_Spread_init_68 rfl ?_
  refine e_iconst d_Spread_init_69 (by decide) ?_
  refine e_newi (kc' := 2) (ks' := 21) d_Spread_init_70 w_92 (by decide) (by decide) (by decide +kernel) (by decide +kernel) (fun _ => trivial) (zNc (p := 30) (by decide +kernel) ?_)
  refine gp_Spread_42 d_Spread_init_72 rfl rfl (zTg (by decide +kernel)) (zLo (by decide)) (fun _ => trivial) (zE (zH_u1 rfl) ?_)
  refine e_aload_n d_Spread_init_75 rfl ?_
  refine e_bipush d_Spread_init_76 (by decide) (by decide) ?_
  refine e_newi (kc' := 1) (ks' := 5) d_Spread_init_78 w_92 (by decide) (by decide) (by decide +kernel) (by decide +kernel) (fun _ => trivial) (zNc (p := 31) (by decide +kernel) ?_)
  refine gp_Spread_45 d_Spread_init_80 rfl rfl (zTg (by decide +kernel)) (zLo (by decide)) (fun _ => trivial) (zE (zH_u1 rfl) ?_)
  refine e_aload_n d_Spread_init_83 rfl ?_
  refine e_iconst d_Spread_init_84 (by decide) ?_
  refine e_newi (kc' := 0) (ks' := 0) d_Spread_init_85 w_92 (by decide) (by decide) (by decide +kernel) (by decide +kernel) (fun _ => trivial) (zNc (p := 32) (by decide +kernel) ?_)
  refine gp_Spread_48 d_Spread_init_87 rfl rfl (zTg (by decide +kernel)) (zLo (by decide)) (fun _ => trivial) (zE (zH_u1 rfl) ?_)
  exact e_vret d_Spread_init_90 rfl rfl
set_option maxRecDepth 20000 in
set_option maxHeartbeats 4000000 in
theorem k0_Row_init_1 {e : gE} {b : Nat} : GM e.1 (gX0 e b) m_Row_init [(2, ((b : Int) + 34))] (zH b ((gn (gX0 e b) 10 : Int) + 1) zo35) 1 60 (fun _ G1 => G1 = zH b ((gn (gX0 e b) 10 : Int) + 1) zo36) := by
  refine GM.ofEV (by decide) (Nat.le_of_ble_eq_true rfl) ?_
  show EV e.1 (gX0 e b) m_Row_init _ 1 60 0 [(2, ((b : Int) + 34))] [] _
  refine e_aload_n d_Row_init_0 rfl ?_
  refine e_objI d_Row_init_1 w_234 w_33 w_34 (by omega) (by decide) (Nat.le_of_ble_eq_true rfl) (Nat.le_trans (gcat _) (by simp)) ?_
  refine e_aload_n d_Row_init_4 rfl ?_
  refine e_bipush d_Row_init_5 (by decide) (by decide) ?_
  refine e_newj (kc' := 0) (ks' := 0) d_Row_init_7 w_135 (by decide) (by decide) (by decide +kernel) (by decide +kernel) (fun _ => trivial) (zNc (p := 35) (by decide +kernel) ?_)
  refine gp_Row_9 d_Row_init_9 rfl rfl (zTg (by decide +kernel)) (zLo (by decide)) (fun _ => trivial) (zE (zH_u1 rfl) ?_)
  exact e_vret d_Row_init_12 rfl rfl
set_option maxRecDepth 20000 in
set_option maxHeartbeats 4000000 in
theorem k0_Row_init_2 {e : gE} {b : Nat} : GM e.1 (gX0 e b) m_Row_init [(2, ((b : Int) + 36))] (zH b ((gn (gX0 e b) 10 : Int) + 1) zo37) 1 60 (fun _ G1 => G1 = zH b ((gn (gX0 e b) 10 : Int) + 1) zo38) := by
  refine GM.ofEV (by decide) (Nat.le_of_ble_eq_true rfl) ?_
  show EV e.1 (gX0 e b) m_Row_init _ 1 60 0 [(2, ((b : Int) + 36))] [] _
  refine e_aload_n d_Row_init_0 rfl ?_
  refine e_objI d_Row_init_1 w_234 w_33 w_34 (by omega) (by decide) (Nat.le_of_ble_eq_true rfl) (Nat.le_trans (gcat _) (by simp)) ?_
  refine e_aload_n d_Row_init_4 rfl ?_
  refine e_bipush d_Row_init_5 (by decide) (by decide) ?_
  refine e_newj (kc' := 0) (ks' := 0) d_Row_init_7 w_135 (by decide) (by decide) (by decide +kernel) (by decide +kernel) (fun _ => trivial) (zNc (p := 37) (by decide +kernel) ?_)
  refine gp_Row_9 d_Row_init_9 rfl rfl (zTg (by decide +kernel)) (zLo (by decide)) (fun _ => trivial) (zE (zH_u1 rfl) ?_)
  exact e_vret d_Row_init_12 rfl rfl
set_option maxRecDepth 20000 in
set_option maxHeartbeats 4000000 in
theorem k0_Row_init_3 {e : gE} {b : Nat} : GM e.1 (gX0 e b) m_Row_init [(2, ((b : Int) + 38))] (zH b ((gn (gX0 e b) 10 : Int) + 1) zo39) 1 60 (fun _ G1 => G1 = zH b ((gn (gX0 e b) 10 : Int) + 1) zo40) := by
  refine GM.ofEV (by decide) (Nat.le_of_ble_eq_true rfl) ?_
  show EV e.1 (gX0 e b) m_Row_init _ 1 60 0 [(2, ((b : Int) + 38))] [] _
  refine e_aload_n d_Row_init_0 rfl ?_
  refine e_objI d_Row_init_1 w_234 w_33 w_34 (by omega) (by decide) (Nat.le_of_ble_eq_true rfl) (Nat.le_trans (gcat _) (by simp)) ?_
  refine e_aload_n d_Row_init_4 rfl ?_
  refine e_bipush d_Row_init_5 (by decide) (by decide) ?_
  refine e_newj (kc' := 0) (ks' := 0) d_Row_init_7 w_135 (by decide) (by decide) (by decide +kernel) (by decide +kernel) (fun _ => trivial) (zNc (p := 39) (by decide +kernel) ?_)
  refine gp_Row_9 d_Row_init_9 rfl rfl (zTg (by decide +kernel)) (zLo (by decide)) (fun _ => trivial) (zE (zH_u1 rfl) ?_)
  exact e_vret d_Row_init_12 rfl rfl
set_option maxRecDepth 20000 in
set_option maxHeartbeats 4000000 in
theorem k0_Row_init_4 {e : gE} {b : Nat} : GM e.1 (gX0 e b) m_Row_init [(2, ((b : Int) + 40))] (zH b ((gn (gX0 e b) 10 : Int) + 1) zo41) 1 60 (fun _ G1 => G1 = zH b ((gn (gX0 e b) 10 : Int) + 1) zo42) := by
  refine GM.ofEV (by decide) (Nat.le_of_ble_eq_true rfl) ?_
  show EV e.1 (gX0 e b) m_Row_init _ 1 60 0 [(2, ((b : Int) + 40))] [] _
  refine e_aload_n d_Row_init_0 rfl ?_
  refine e_objI d_Row_init_1 w_234 w_33 w_34 (by omega) (by decide) (Nat.le_of_ble_eq_true rfl) (Nat.le_trans (gcat _) (by simp)) ?_
  refine e_aload_n d_Row_init_4 rfl ?_
  refine e_bipush d_Row_init_5 (by decide) (by decide) ?_
  refine e_newj (kc' := 0) (ks' := 0) d_Row_init_7 w_135 (by decide) (by decide) (by decide +kernel) (by decide +kernel) (fun _ => trivial) (zNc (p := 41) (by decide +kernel) ?_)
  refine gp_Row_9 d_Row_init_9 rfl rfl (zTg (by decide +kernel)) (zLo (by decide)) (fun _ => trivial) (zE (zH_u1 rfl) ?_)
  exact e_vret d_Row_init_12 rfl rfl
set_option maxRecDepth 20000 in
set_option maxHeartbeats 4000000 in
theorem k0_Row_init_5 {e : gE} {b : Nat} : GM e.1 (gX0 e b) m_Row_init [(2, ((b : Int) + 42))] (zH b ((gn (gX0 e b) 10 : Int) + 1) zo43) 1 60 (fun _ G1 => G1 = zH b ((gn (gX0 e b) 10 : Int) + 1) zo44) := by
  refine GM.ofEV (by decide) (Nat.le_of_ble_eq_true rfl) ?_
  show EV e.1 (gX0 e b) m_Row_init _ 1 60 0 [(2, ((b : Int) + 42))] [] _
  refine e_aload_n d_Row_init_0 rfl ?_
  refine e_objI d_Row_init_1 w_234 w_33 w_34 (by omega) (by decide) (Nat.le_of_ble_eq_true rfl) (Nat.le_trans (gcat _) (by simp)) ?_
  refine e_aload_n d_Row_init_4 rfl ?_
  refine e_bipush d_Row_init_5 (by decide) (by decide) ?_
  refine e_newj (kc' := 0) (ks' := 0) d_Row_init_7 w_135 (by decide) (by decide) (by decide +kernel) (by decide +kernel) (fun _ => trivial) (zNc (p := 43) (by decide +kernel) ?_)
  refine gp_Row_9 d_Row_init_9 rfl rfl (zTg (by decide +kernel)) (zLo (by decide)) (fun _ => trivial) (zE (zH_u1 rfl) ?_)
  exact e_vret d_Row_init_12 rfl rfl
set_option maxRecDepth 20000 in
set_option maxHeartbeats 4000000 in
theorem k0_Row_init_6 {e : gE} {b : Nat} : GM e.1 (gX0 e b) m_Row_init [(2, ((b : Int) + 44))] (zH b ((gn (gX0 e b) 10 : Int) + 1) zo45) 1 60 (fun _ G1 => G1 = zH b ((gn (gX0 e b) 10 : Int) + 1) zo46) := by
  refine GM.ofEV (by decide) (Nat.le_of_ble_eq_true rfl) ?_
  show EV e.1 (gX0 e b) m_Row_init _ 1 60 0 [(2, ((b : Int) + 44))] [] _
  refine e_aload_n d_Row_init_0 rfl ?_
  refine e_objI d_Row_init_1 w_234 w_33 w_34 (by omega) (by decide) (Nat.le_of_ble_eq_true rfl) (Nat.le_trans (gcat _) (by simp)) ?_
  refine e_aload_n d_Row_init_4 rfl ?_
  refine e_bipush d_Row_init_5 (by decide) (by decide) ?_
  refine e_newj (kc' := 0) (ks' := 0) d_Row_init_7 w_135 (by decide) (by decide) (by decide +kernel) (by decide +kernel) (fun _ => trivial) (zNc (p := 45) (by decide +kernel) ?_)
  refine gp_Row_9 d_Row_init_9 rfl rfl (zTg (by decide +kernel)) (zLo (by decide)) (fun _ => trivial) (zE (zH_u1 rfl) ?_)
  exact e_vret d_Row_init_12 rfl rfl
set_option maxRecDepth 20000 in
set_option maxHeartbeats 4000000 in
theorem k0_Row_init_7 {e : gE} {b : Nat} : GM e.1 (gX0 e b) m_Row_init [(2, ((b : Int) + 46))] (zH b ((gn (gX0 e b) 10 : Int) + 1) zo47) 1 60 (fun _ G1 => G1 = zH b ((gn (gX0 e b) 10 : Int) + 1) zo48) := by
  refine GM.ofEV (by decide) (Nat.le_of_ble_eq_true rfl) ?_
  show EV e.1 (gX0 e b) m_Row_init _ 1 60 0 [(2, ((b : Int) + 46))] [] _
  refine e_aload_n d_Row_init_0 rfl ?_
  refine e_objI d_Row_init_1 w_234 w_33 w_34 (by omega) (by decide) (Nat.le_of_ble_eq_true rfl) (Nat.le_trans (gcat _) (by simp)) ?_
  refine e_aload_n d_Row_init_4 rfl ?_
  refine e_bipush d_Row_init_5 (by decide) (by decide) ?_
  refine e_newj (kc' := 0) (ks' := 0) d_Row_init_7 w_135 (by decide) (by decide) (by decide +kernel) (by decide +kernel) (fun _ => trivial) (zNc (p := 47) (by decide +kernel) ?_)
  refine gp_Row_9 d_Row_init_9 rfl rfl (zTg (by decide +kernel)) (zLo (by decide)) (fun _ => trivial) (zE (zH_u1 rfl) ?_)
  exact e_vret d_Row_init_12 rfl rfl
set_option maxRecDepth 20000 in
set_option maxHeartbeats 4000000 in
theorem k0_Row_init_8 {e : gE} {b : Nat} : GM e.1 (gX0 e b) m_Row_init [(2, ((b : Int) + 48))] (zH b ((gn (gX0 e b) 10 : Int) + 1) zo49) 1 60 (fun _ G1 => G1 = zH b ((gn (gX0 e b) 10 : Int) + 1) zo50) := by
  refine GM.ofEV (by decide) (Nat.le_of_ble_eq_true rfl) ?_
  show EV e.1 (gX0 e b) m_Row_init _ 1 60 0 [(2, ((b : Int) + 48))] [] _
  refine e_aload_n d_Row_init_0 rfl ?_
  refine e_objI d_Row_init_1 w_234 w_33 w_34 (by omega) (by decide) (Nat.le_of_ble_eq_true rfl) (Nat.le_trans (gcat _) (by simp)) ?_
  refine e_aload_n d_Row_init_4 rfl ?_
  refine e_bipush d_Row_init_5 (by decide) (by decide) ?_
  refine e_newj (kc' := 0) (ks' := 0) d_Row_init_7 w_135 (by decide) (by decide) (by decide +kernel) (by decide +kernel) (fun _ => trivial) (zNc (p := 49) (by decide +kernel) ?_)
  refine gp_Row_9 d_Row_init_9 rfl rfl (zTg (by decide +kernel)) (zLo (by decide)) (fun _ => trivial) (zE (zH_u1 rfl) ?_)
  exact e_vret d_Row_init_12 rfl rfl
set_option maxRecDepth 20000 in
set_option maxHeartbeats 4000000 in
theorem k0_Arrays_fill_a_4 {e : gE} {b : Nat} : GM e.1 (gX0 e b) m_Arrays_fill_a [(2, ((b : Int) + 50)), (0, (-1))] (zH b ((gn (gX0 e b) 10 : Int) + 1) zo51) 0 0 (fun _ G1 => G1 = zH b ((gn (gX0 e b) 10 : Int) + 1) zo52) := by
  refine GM.ofJ (by decide +kernel) (Nat.le_of_ble_eq_true rfl) ?_
  show EV e.1 (gX0 e b) m_Arrays_fill_a _ 0 0 0 [(2, ((b : Int) + 50)), (0, (-1)), (9, 0), (9, 0)] [] _
  refine e_iconst d_Arrays_fill_a_0 (by decide) ?_
  refine e_istore_n (ls' := [(2, ((b : Int) + 50)), (0, (-1)), (0, 0), (9, 0)]) d_Arrays_fill_a_1 (by decide) rfl ?_
  refine e_aload_n d_Arrays_fill_a_2 rfl ?_
  refine e_alen d_Arrays_fill_a_3 (by rw [zTg (v := 100) (by decide +kernel)]; decide) (zGl (v := 8) (by decide +kernel) ?_)
  refine e_istore_n (ls' := [(2, ((b : Int) + 50)), (0, (-1)), (0, 0), (0, 8)]) d_Arrays_fill_a_4 (by decide) rfl ?_
  refine e_iload_n d_Arrays_fill_a_5 rfl ?_
  refine e_iload_n d_Arrays_fill_a_6 rfl ?_
  refine e_icmp_ge (tgt := 20) d_Arrays_fill_a_7 (by decide) (fun q => absurd q (by decide)) (fun _ => ?_)
  refine e_aload_n d_Arrays_fill_a_10 rfl ?_
  refine e_iload_n d_Arrays_fill_a_11 rfl ?_
  refine e_iload_n d_Arrays_fill_a_12 rfl ?_
  refine e_iast d_Arrays_fill_a_13 (zTg (by decide +kernel)) (by decide) (by rw [zTg (v := 8) (by decide +kernel)]; decide) (zLo (by decide)) (fun _ => trivial) (zE (zH_u0 rfl) ?_)
  refine e_iinc (ls' := [(2, ((b : Int) + 50)), (0, (-1)), (0, 1), (0, 8)]) d_Arrays_fill_a_14 rfl (by decide) (by decide) rfl ?_
  refine e_goto (tgt := 5) d_Arrays_fill_a_17 (by decide) ?_
  refine e_iload_n d_Arrays_fill_a_5 rfl ?_
  refine e_iload_n d_Arrays_fill_a_6 rfl ?_
  refine e_icmp_ge (tgt := 20) d_Arrays_fill_a_7 (by decide) (fun q => absurd q (by decide)) (fun _ => ?_)
  refine e_aload_n d_Arrays_fill_a_10 rfl ?_
  refine e_iload_n d_Arrays_fill_a_11 rfl ?_
  refine e_iload_n d_Arrays_fill_a_12 rfl ?_
  refine e_iast d_Arrays_fill_a_13 (zTg (by decide +kernel)) (by decide) (by rw [zTg (v := 8) (by decide +kernel)]; decide) (zLo (by decide)) (fun _ => trivial) (zE (zH_u0 rfl) ?_)
  refine e_iinc (ls' := [(2, ((b : Int) + 50)), (0, (-1)), (0, 2), (0, 8)]) d_Arrays_fill_a_14 rfl (by decide) (by decide) rfl ?_
  refine e_goto (tgt := 5) d_Arrays_fill_a_17 (by decide) ?_
  refine e_iload_n d_Arrays_fill_a_5 rfl ?_
  refine e_iload_n d_Arrays_fill_a_6 rfl ?_
  refine e_icmp_ge (tgt := 20) d_Arrays_fill_a_7 (by decide) (fun q => absurd q (by decide)) (fun _ => ?_)
  refine e_aload_n d_Arrays_fill_a_10 rfl ?_
  refine e_iload_n d_Arrays_fill_a_11 rfl ?_
  refine e_iload_n d_Arrays_fill_a_12 rfl ?_
  refine e_iast d_Arrays_fill_a_13 (zTg (by decide +kernel)) (by decide) (by rw [zTg (v := 8) (by decide +kernel)]; decide) (zLo (by decide)) (fun _ => trivial) (zE (zH_u0 rfl) ?_)
  refine e_iinc (ls' := [(2, ((b : Int) + 50)), (0, (-1)), (0, 3), (0, 8)]) d_Arrays_fill_a_14 rfl (by decide) (by decide) rfl ?_
  refine e_goto (tgt := 5) d_Arrays_fill_a_17 (by decide) ?_
  refine e_iload_n d_Arrays_fill_a_5 rfl ?_
  refine e_iload_n d_Arrays_fill_a_6 rfl ?_
  refine e_icmp_ge (tgt := 20) d_Arrays_fill_a_7 (by decide) (fun q => absurd q (by decide)) (fun _ => ?_)
  refine e_aload_n d_Arrays_fill_a_10 rfl ?_
  refine e_iload_n d_Arrays_fill_a_11 rfl ?_
  refine e_iload_n d_Arrays_fill_a_12 rfl ?_
  refine e_iast d_Arrays_fill_a_13 (zTg (by decide +kernel)) (by decide) (by rw [zTg (v := 8) (by decide +kernel)]; decide) (zLo (by decide)) (fun _ => trivial) (zE (zH_u0 rfl) ?_)
  refine e_iinc (ls' := [(2, ((b : Int) + 50)), (0, (-1)), (0, 4), (0, 8)]) d_Arrays_fill_a_14 rfl (by decide) (by decide) rfl ?_
  refine e_goto (tgt := 5) d_Arrays_fill_a_17 (by decide) ?_
  refine e_iload_n d_Arrays_fill_a_5 rfl ?_
  refine e_iload_n d_Arrays_fill_a_6 rfl ?_
  refine e_icmp_ge (tgt := 20) d_Arrays_fill_a_7 (by decide) (fun q => absurd q (by decide)) (fun _ => ?_)
  refine e_aload_n d_Arrays_fill_a_10 rfl ?_
  refine e_iload_n d_Arrays_fill_a_11 rfl ?_
  refine e_iload_n d_Arrays_fill_a_12 rfl ?_
  refine e_iast d_Arrays_fill_a_13 (zTg (by decide +kernel)) (by decide) (by rw [zTg (v := 8) (by decide +kernel)]; decide) (zLo (by decide)) (fun _ => trivial) (zE (zH_u0 rfl) ?_)
  refine e_iinc (ls' := [(2, ((b : Int) + 50)), (0, (-1)), (0, 5), (0, 8)]) d_Arrays_fill_a_14 rfl (by decide) (by decide) rfl ?_
  refine e_goto (tgt := 5) d_Arrays_fill_a_17 (by decide) ?_
  refine e_iload_n d_Arrays_fill_a_5 rfl ?_
  refine e_iload_n d_Arrays_fill_a_6 rfl ?_
  refine e_icmp_ge (tgt := 20) d_Arrays_fill_a_7 (by decide) (fun q => absurd q (by decide)) (fun _ => ?_)
  refine e_aload_n d_Arrays_fill_a_10 rfl ?_
  refine e_iload_n d_Arrays_fill_a_11 rfl ?_
  refine e_iload_n d_Arrays_fill_a_12 rfl ?_
  refine e_iast d_Arrays_fill_a_13 (zTg (by decide +kernel)) (by decide) (by rw [zTg (v := 8) (by decide +kernel)]; decide) (zLo (by decide)) (fun _ => trivial) (zE (zH_u0 rfl) ?_)
  refine e_iinc (ls' := [(2, ((b : Int) + 50)), (0, (-1)), (0, 6), (0, 8)]) d_Arrays_fill_a_14 rfl (by decide) (by decide) rfl ?_
  refine e_goto (tgt := 5) d_Arrays_fill_a_17 (by decide) ?_
  refine e_iload_n d_Arrays_fill_a_5 rfl ?_
  refine e_iload_n d_Arrays_fill_a_6 rfl ?_
  refine e_icmp_ge (tgt := 20) d_Arrays_fill_a_7 (by decide) (fun q => absurd q (by decide)) (fun _ => ?_)
  refine e_aload_n d_Arrays_fill_a_10 rfl ?_
  refine e_iload_n d_Arrays_fill_a_11 rfl ?_
  refine e_iload_n d_Arrays_fill_a_12 rfl ?_
  refine e_iast d_Arrays_fill_a_13 (zTg (by decide +kernel)) (by decide) (by rw [zTg (v := 8) (by decide +kernel)]; decide) (zLo (by decide)) (fun _ => trivial) (zE (zH_u0 rfl) ?_)
  refine e_iinc (ls' := [(2, ((b : Int) + 50)), (0, (-1)), (0, 7), (0, 8)]) d_Arrays_fill_a_14 rfl (by decide) (by decide) rfl ?_
  refine e_goto (tgt := 5) d_Arrays_fill_a_17 (by decide) ?_
  refine e_iload_n d_Arrays_fill_a_5 rfl ?_
  refine e_iload_n d_Arrays_fill_a_6 rfl ?_
  refine e_icmp_ge (tgt := 20) d_Arrays_fill_a_7 (by decide) (fun q => absurd q (by decide)) (fun _ => ?_)
  refine e_aload_n d_Arrays_fill_a_10 rfl ?_
  refine e_iload_n d_Arrays_fill_a_11 rfl ?_
  refine e_iload_n d_Arrays_fill_a_12 rfl ?_
  refine e_iast d_Arrays_fill_a_13 (zTg (by decide +kernel)) (by decide) (by rw [zTg (v := 8) (by decide +kernel)]; decide) (zLo (by decide)) (fun _ => trivial) (zE (zH_u0 rfl) ?_)
  refine e_iinc (ls' := [(2, ((b : Int) + 50)), (0, (-1)), (0, 8), (0, 8)]) d_Arrays_fill_a_14 rfl (by decide) (by decide) rfl ?_
  refine e_goto (tgt := 5) d_Arrays_fill_a_17 (by decide) ?_
  refine e_iload_n d_Arrays_fill_a_5 rfl ?_
  refine e_iload_n d_Arrays_fill_a_6 rfl ?_
  refine e_icmp_ge (tgt := 20) d_Arrays_fill_a_7 (by decide) (fun _ => ?_) (fun q => absurd q (by decide))
  exact e_vret d_Arrays_fill_a_20 rfl rfl
set_option maxRecDepth 20000 in
set_option maxHeartbeats 4000000 in
theorem k0_Label_init_1 {e : gE} {b : Nat} : GM e.1 (gX0 e b) m_Label_init [(2, ((b : Int) + 51))] (zH b ((gn (gX0 e b) 10 : Int) + 1) zo53) 1 5 (fun _ G1 => G1 = zH b ((gn (gX0 e b) 10 : Int) + 1) zo54) := by
  refine GM.ofEV (by decide) (Nat.le_of_ble_eq_true rfl) ?_
  show EV e.1 (gX0 e b) m_Label_init _ 1 5 0 [(2, ((b : Int) + 51))] [] _
  refine e_aload_n d_Label_init_0 rfl ?_
  refine e_objI d_Label_init_1 w_251 w_33 w_34 (by omega) (by decide) (Nat.le_of_ble_eq_true rfl) (Nat.le_trans (gcat _) (by simp)) ?_
  refine e_aload_n d_Label_init_4 rfl ?_
  refine e_iconst d_Label_init_5 (by decide) ?_
  refine e_newi (kc' := 0) (ks' := 0) d_Label_init_6 w_92 (by decide) (by decide) (by decide +kernel) (by decide +kernel) (fun _ => trivial) (zNc (p := 52) (by decide +kernel) ?_)
  refine gp_Label_11 d_Label_init_8 rfl rfl (zTg (by decide +kernel)) (zLo (by decide)) (fun _ => trivial) (zE (zH_u1 rfl) ?_)
  exact e_vret d_Label_init_11 rfl rfl
set_option maxRecDepth 20000 in
set_option maxHeartbeats 4000000 in
theorem k0_C_init_1 {e : gE} {b : Nat} : GM e.1 (gX0 e b) m_C_init [(2, ((b : Int) + 1))] (zH b ((gn (gX0 e b) 10 : Int) + 1) zo1) 52 2528 (fun _ G1 => G1 = zH b ((gn (gX0 e b) 10 : Int) + 1) zo55) := by
  refine GM.ofEV (by decide) (Nat.le_of_ble_eq_true rfl) ?_
  show EV e.1 (gX0 e b) m_C_init _ 52 2528 0 [(2, ((b : Int) + 1)), (9, 0)] [] _
  refine e_aload_n d_C_init_0 rfl ?_
  refine e_objI d_C_init_1 w_32 w_33 w_34 (by omega) (by decide) (Nat.le_of_ble_eq_true rfl) (Nat.le_trans (gcat _) (by simp)) ?_
  refine e_aload_n d_C_init_4 rfl ?_
  refine e_new (kc' := 51) (ks' := 2525) 0 d_C_init_5 (q_AL _) w_35 w_36 w_4 (by decide +kernel) (by decide +kernel) (fun _ => trivial) (zNc (p := 2) (by decide +kernel) ?_)
  refine e_dup d_C_init_8 (by simp) ?_
  refine e_callI m_AL_init lw_good d_C_init_9 (k_AL_init _) ⟨Nat.le_of_ble_eq_true rfl, Nat.le_of_ble_eq_true rfl⟩ w_37 w_38 rfl rfl (by omega) (args := []) rfl rfl (Nat.le_of_ble_eq_true rfl) (kc' := 51) (ks' := 2525) (mc := 0) (ms := 0) (by decide +kernel) (by decide +kernel) k0_AL_init_1 ?_
  rintro _ _ rfl
  refine gp_C_12 d_C_init_12 rfl rfl (zTg (by decide +kernel)) (zLo (by decide)) (fun _ => trivial) (zE (zH_u1 rfl) ?_)
  refine e_aload_n d_C_init_15 rfl ?_
  refine e_new (kc' := 50) (ks' := 2518) 2 d_C_init_16 (q_House _) w_61 w_62 w_5 (by decide +kernel) (by decide +kernel) (fun _ => trivial) (zNc (p := 3) (by decide +kernel) ?_)
  refine e_dup d_C_init_19 (by simp) ?_
  refine e_callI m_House_init lw_good d_C_init_20 (k_House_init _) ⟨Nat.le_of_ble_eq_true rfl, Nat.le_of_ble_eq_true rfl⟩ w_63 w_64 rfl rfl (by omega) (args := []) rfl rfl (Nat.le_of_ble_eq_true rfl) (kc' := 44) (ks' := 2414) (mc := 6) (ms := 104) (by decide +kernel) (by decide +kernel) k0_House_init_1 ?_
  rintro _ _ rfl
  refine gp_C_19 d_C_init_23 rfl rfl (zTg (by decide +kernel)) (zLo (by decide)) (fun _ => trivial) (zE (zH_u1 rfl) ?_)
  refine e_aload_n d_C_init_26 rfl ?_
  refine e_new (kc' := 43) (ks' := 2408) 1 d_C_init_27 (q_Hours _) w_94 w_95 w_7 (by decide +kernel) (by decide +kernel) (fun _ => trivial) (zNc (p := 10) (by decide +kernel) ?_)
  refine e_dup d_C_init_30 (by simp) ?_
  refine e_aload_n d_C_init_31 rfl ?_
  refine gf_C_12 d_C_init_32 rfl (zTg (by decide +kernel)) ?_
  refine zGb (v := 2) (by decide +kernel) (by decide) ?_
  refine e_aload_n d_C_init_35 rfl ?_
  refine gf_C_19 d_C_init_36 rfl (zTg (by decide +kernel)) ?_
  refine zGb (v := 3) (by decide +kernel) (by decide) ?_
  refine e_callI m_Hours_init lw_good d_C_init_39 (k_Hours_init _) ⟨Nat.le_of_ble_eq_true rfl, Nat.le_of_ble_eq_true rfl⟩ w_96 w_97 rfl rfl (by omega) (args := [(2, ((b : Int) + 2)), (2, ((b : Int) + 3))]) rfl rfl (Nat.le_of_ble_eq_true rfl) (kc' := 36) (ks' := 1623) (mc := 7) (ms := 785) (by decide +kernel) (by decide +kernel) k0_Hours_init_1 ?_
  rintro _ _ rfl
  refine gp_C_28 d_C_init_42 rfl rfl (zTg (by decide +kernel)) (zLo (by decide)) (fun _ => trivial) (zE (zH_u1 rfl) ?_)
  refine e_aload_n d_C_init_45 rfl ?_
  refine e_new (kc' := 35) (ks' := 1616) 10 d_C_init_46 (q_Years _) w_155 w_156 w_9 (by decide +kernel) (by decide +kernel) (fun _ => trivial) (zNc (p := 18) (by decide +kernel) ?_)
  refine e_dup d_C_init_49 (by simp) ?_
  refine e_aload_n d_C_init_50 rfl ?_
  refine gf_C_12 d_C_init_51 rfl (zTg (by decide +kernel)) ?_
  refine zGb (v := 2) (by decide +kernel) (by decide) ?_
  refine e_callI m_Years_init lw_good d_C_init_54 (k_Years_init _) ⟨Nat.le_of_ble_eq_true rfl, Nat.le_of_ble_eq_true rfl⟩ w_157 w_158 rfl rfl (by omega) (args := [(2, ((b : Int) + 2))]) rfl rfl (Nat.le_of_ble_eq_true rfl) (kc' := 31) (ks' := 1601) (mc := 4) (ms := 15) (by decide +kernel) (by decide +kernel) k0_Years_init_1 ?_
  rintro _ _ rfl
  refine gp_C_37 d_C_init_57 rfl rfl (zTg (by decide +kernel)) (zLo (by decide)) (fun _ => trivial) (zE (zH_u1 rfl) ?_)
  refine e_aload_n d_C_init_60 rfl ?_
  refine e_new (kc' := 30) (ks' := 1590) 7 d_C_init_61 (q_Spread _) w_186 w_187 w_10 (by decide +kernel) (by decide +kernel) (fun _ => trivial) (zNc (p := 23) (by decide +kernel) ?_)
  refine e_dup d_C_init_64 (by simp) ?_
  refine e_aload_n d_C_init_65 rfl ?_
  refine gf_C_12 d_C_init_66 rfl (zTg (by decide +kernel)) ?_
  refine zGb (v := 2) (by decide +kernel) (by decide) ?_
  refine e_aload_n d_C_init_69 rfl ?_
  refine gf_C_37 d_C_init_70 rfl (zTg (by decide +kernel)) ?_
  refine zGb (v := 18) (by decide +kernel) (by decide) ?_
  refine e_callI m_Spread_init lw_good d_C_init_73 (k_Spread_init _) ⟨Nat.le_of_ble_eq_true rfl, Nat.le_of_ble_eq_true rfl⟩ w_188 w_189 rfl rfl (by omega) (args := [(2, ((b : Int) + 2)), (2, ((b : Int) + 18))]) rfl rfl (Nat.le_of_ble_eq_true rfl) (kc' := 21) (ks' := 534) (mc := 9) (ms := 1056) (by decide +kernel) (by decide +kernel) k0_Spread_init_1 ?_
  rintro _ _ rfl
  refine gp_C_46 d_C_init_76 rfl rfl (zTg (by decide +kernel)) (zLo (by decide)) (fun _ => trivial) (zE (zH_u1 rfl) ?_)
  refine e_aload_n d_C_init_79 rfl ?_
  refine e_bipush d_C_init_80 (by decide) (by decide) ?_
  refine e_newq (kc' := 20) (ks' := 526) 104 "MuseumFlight$Row" d_C_init_82 (Or.inr ⟨rfl, rfl⟩) w_228 w_229 (by decide) (by decide) (by decide +kernel) (by decide +kernel) (fun _ => trivial) (zNc (p := 33) (by decide +kernel) ?_)
  refine gp_C_52 d_C_init_85 rfl rfl (zTg (by decide +kernel)) (zLo (by decide)) (fun _ => trivial) (zE (zH_u1 rfl) ?_)
  refine e_iconst d_C_init_88 (by decide) ?_
  refine e_istore_n (ls' := [(2, ((b : Int) + 1)), (0, 0)]) d_C_init_89 (by decide) rfl ?_
  refine e_iload_n d_C_init_90 rfl ?_
  refine e_bipush d_C_init_91 (by decide) (by decide) ?_
  refine e_icmp_ge (tgt := 115) d_C_init_93 (by decide) (fun q => absurd q (by decide)) (fun _ => ?_)
  refine e_aload_n d_C_init_96 rfl ?_
  refine gf_C_52 d_C_init_97 rfl (zTg (by decide +kernel)) ?_
  refine zGb (v := 33) (by decide +kernel) (by decide) ?_
  refine e_iload_n d_C_init_100 rfl ?_
  refine e_new (kc' := 19) (ks' := 523) 6 d_C_init_101 (q_Row _) w_228 w_230 w_11 (by decide +kernel) (by decide +kernel) (fun _ => trivial) (zNc (p := 34) (by decide +kernel) ?_)
  refine e_dup d_C_init_104 (by simp) ?_
  refine e_callI m_Row_init lw_good d_C_init_105 (k_Row_init _) ⟨Nat.le_of_ble_eq_true rfl, Nat.le_of_ble_eq_true rfl⟩ w_231 w_232 rfl rfl (by omega) (args := []) rfl rfl (Nat.le_of_ble_eq_true rfl) (kc' := 18) (ks' := 463) (mc := 1) (ms := 60) (by decide +kernel) (by decide +kernel) k0_Row_init_1 ?_
  rintro _ _ rfl
  refine e_aast 104 "MuseumFlight$Row" d_C_init_108 (Or.inr ⟨rfl, rfl⟩) (zTg (by decide +kernel)) (by decide) (by rw [zTg (v := 8) (by decide +kernel)]; decide) (zLo (by decide)) (Or.inr ⟨6, _, _, q_Row _, (zTg (by decide +kernel)), Or.inr rfl⟩) (fun _ => trivial) (zE (zH_u1 rfl) ?_)
  refine e_iinc (ls' := [(2, ((b : Int) + 1)), (0, 1)]) d_C_init_109 rfl (by decide) (by decide) rfl ?_
  refine e_goto (tgt := 90) d_C_init_112 (by decide) ?_
  refine e_iload_n d_C_init_90 rfl ?_
  refine e_bipush d_C_init_91 (by decide) (by decide) ?_
  refine e_icmp_ge (tgt := 115) d_C_init_93 (by decide) (fun q => absurd q (by decide)) (fun _ => ?_)
  refine e_aload_n d_C_init_96 rfl ?_
  refine gf_C_52 d_C_init_97 rfl (zTg (by decide +kernel)) ?_
  refine zGb (v := 33) (by decide +kernel) (by decide) ?_
  refine e_iload_n d_C_init_100 rfl ?_
  refine e_new (kc' := 17) (ks' := 460) 6 d_C_init_101 (q_Row _) w_228 w_230 w_11 (by decide +kernel) (by decide +kernel) (fun _ => trivial) (zNc (p := 36) (by decide +kernel) ?_)
  refine e_dup d_C_init_104 (by simp) ?_
  refine e_callI m_Row_init lw_good d_C_init_105 (k_Row_init _) ⟨Nat.le_of_ble_eq_true rfl, Nat.le_of_ble_eq_true rfl⟩ w_231 w_232 rfl rfl (by omega) (args := []) rfl rfl (Nat.le_of_ble_eq_true rfl) (kc' := 16) (ks' := 400) (mc := 1) (ms := 60) (by decide +kernel) (by decide +kernel) k0_Row_init_2 ?_
  rintro _ _ rfl
  refine e_aast 104 "MuseumFlight$Row" d_C_init_108 (Or.inr ⟨rfl, rfl⟩) (zTg (by decide +kernel)) (by decide) (by rw [zTg (v := 8) (by decide +kernel)]; decide) (zLo (by decide)) (Or.inr ⟨6, _, _, q_Row _, (zTg (by decide +kernel)), Or.inr rfl⟩) (fun _ => trivial) (zE (zH_u1 rfl) ?_)
  refine e_iinc (ls' := [(2, ((b : Int) + 1)), (0, 2)]) d_C_init_109 rfl (by decide) (by decide) rfl ?_
  refine e_goto (tgt := 90) d_C_init_112 (by decide) ?_
  refine e_iload_n d_C_init_90 rfl ?_
  refine e_bipush d_C_init_91 (by decide) (by decide) ?_
  refine e_icmp_ge (tgt := 115) d_C_init_93 (by decide) (fun q => absurd q (by decide)) (fun _ => ?_)
  refine e_aload_n d_C_init_96 rfl ?_
  refine gf_C_52 d_C_init_97 rfl (zTg (by decide +kernel)) ?_
  refine zGb (v := 33) (by decide +kernel) (by decide) ?_
  refine e_iload_n d_C_init_100 rfl ?_
  refine e_new (kc' := 15) (ks' := 397) 6 d_C_init_101 (q_Row _) w_228 w_230 w_11 (by decide +kernel) (by decide +kernel) (fun _ => trivial) (zNc (p := 38) (by decide +kernel) ?_)
  refine e_dup d_C_init_104 (by simp) ?_
  refine e_callI m_Row_init lw_good d_C_init_105 (k_Row_init _) ⟨Nat.le_of_ble_eq_true rfl, Nat.le_of_ble_eq_true rfl⟩ w_231 w_232 rfl rfl (by omega) (args := []) rfl rfl (Nat.le_of_ble_eq_true rfl) (kc' := 14) (ks' := 337) (mc := 1) (ms := 60) (by decide +kernel) (by decide +kernel) k0_Row_init_3 ?_
  rintro _ _ rfl
  refine e_aast 104 "MuseumFlight$Row" d_C_init_108 (Or.inr ⟨rfl, rfl⟩) (zTg (by decide +kernel)) (by decide) (by rw [zTg (v := 8) (by decide +kernel)]; decide) (zLo (by decide)) (Or.inr ⟨6, _, _, q_Row _, (zTg (by decide +kernel)), Or.inr rfl⟩) (fun _ => trivial) (zE (zH_u1 rfl) ?_)
  refine e_iinc (ls' := [(2, ((b : Int) + 1)), (0, 3)]) d_C_init_109 rfl (by decide) (by decide) rfl ?_
  refine e_goto (tgt := 90) d_C_init_112 (by decide) ?_
  refine e_iload_n d_C_init_90 rfl ?_
  refine e_bipush d_C_init_91 (by decide) (by decide) ?_
  refine e_icmp_ge (tgt := 115) d_C_init_93 (by decide) (fun q => absurd q (by decide)) (fun _ => ?_)
  refine e_aload_n d_C_init_96 rfl ?_
  refine gf_C_52 d_C_init_97 rfl (zTg (by decide +kernel)) ?_
  refine zGb (v := 33) (by decide +kernel) (by decide) ?_
  refine e_iload_n d_C_init_100 rfl ?_
  refine e_new (kc' := 13) (ks' := 334) 6 d_C_init_101 (q_Row _) w_228 w_230 w_11 (by decide +kernel) (by decide +kernel) (fun _ => trivial) (zNc (p := 40) (by decide +kernel) ?_)
  refine e_dup d_C_init_104 (by simp) ?_
  refine e_callI m_Row_init lw_good d_C_init_105 (k_Row_init _) ⟨Nat.le_of_ble_eq_true rfl, Nat.le_of_ble_eq_true rfl⟩ w_231 w_232 rfl rfl (by omega) (args := []) rfl rfl (Nat.le_of_ble_eq_true rfl) (kc' := 12) (ks' := 274) (mc := 1) (ms := 60) (by decide +kernel) (by decide +kernel) k0_Row_init_4 ?_
  rintro _ _ rfl
  refine e_aast 104 "MuseumFlight$Row" d_C_init_108 (Or.inr ⟨rfl, rfl⟩) (zTg (by decide +kernel)) (by decide) (by rw [zTg (v := 8) (by decide +kernel)]; decide) (zLo (by decide)) (Or.inr ⟨6, _, _, q_Row _, (zTg (by decide +kernel)), Or.inr rfl⟩) (fun _ => trivial) (zE (zH_u1 rfl) ?_)
  refine e_iinc (ls' := [(2, ((b : Int) + 1)), (0, 4)]) d_C_init_109 rfl (by decide) (by decide) rfl ?_
  refine e_goto (tgt := 90) d_C_init_112 (by decide) ?_
  refine e_iload_n d_C_init_90 rfl ?_
  refine e_bipush d_C_init_91 (by decide) (by decide) ?_
  refine e_icmp_ge (tgt := 115) d_C_init_93 (by decide) (fun q => absurd q (by decide)) (fun _ => ?_)
  refine e_aload_n d_C_init_96 rfl ?_
  refine gf_C_52 d_C_init_97 rfl (zTg (by decide +kernel)) ?_
  refine zGb (v := 33) (by decide +kernel) (by decide) ?_
  refine e_iload_n d_C_init_100 rfl ?_
  refine e_new (kc' := 11) (ks' := 271) 6 d_C_init_101 (q_Row _) w_228 w_230 w_11 (by decide +kernel) (by decide +kernel) (fun _ => trivial) (zNc (p := 42) (by decide +kernel) ?_)
  refine e_dup d_C_init_104 (by simp) ?_
  refine e_callI m_Row_init lw_good d_C_init_105 (k_Row_init _) ⟨Nat.le_of_ble_eq_true rfl, Nat.le_of_ble_eq_true rfl⟩ w_231 w_232 rfl rfl (by omega) (args := []) rfl rfl (Nat.le_of_ble_eq_true rfl) (kc' := 10) (ks' := 211) (mc := 1) (ms := 60) (by decide +kernel) (by decide +kernel) k0_Row_init_5 ?_
  rintro _ _ rfl
  refine e_aast 104 "MuseumFlight$Row" d_C_init_108 (Or.inr ⟨rfl, rfl⟩) (zTg (by decide +kernel)) (by decide) (by rw [zTg (v := 8) (by decide +kernel)]; decide) (zLo (by decide)) (Or.inr ⟨6, _, _, q_Row _, (zTg (by decide +kernel)), Or.inr rfl⟩) (fun _ => trivial) (zE (zH_u1 rfl) ?_)
  refine e_iinc (ls' := [(2, ((b : Int) + 1)), (0, 5)]) d_C_init_109 rfl (by decide) (by decide) rfl ?_
  refine e_goto (tgt := 90) d_C_init_112 (by decide) ?_
  refine e_iload_n d_C_init_90 rfl ?_
  refine e_bipush d_C_init_91 (by decide) (by decide) ?_
  refine e_icmp_ge (tgt := 115) d_C_init_93 (by decide) (fun q => absurd q (by decide)) (fun _ => ?_)
  refine e_aload_n d_C_init_96 rfl ?_
  refine gf_C_52 d_C_init_97 rfl (zTg (by decide +kernel)) ?_
  refine zGb (v := 33) (by decide +kernel) (by decide) ?_
  refine e_iload_n d_C_init_100 rfl ?_
  refine e_new (kc' := 9) (ks' := 208) 6 d_C_init_101 (q_Row _) w_228 w_230 w_11 (by decide +kernel) (by decide +kernel) (fun _ => trivial) (zNc (p := 44) (by decide +kernel) ?_)
  refine e_dup d_C_init_104 (by simp) ?_
  refine e_callI m_Row_init lw_good d_C_init_105 (k_Row_init _) ⟨Nat.le_of_ble_eq_true rfl, Nat.le_of_ble_eq_true rfl⟩ w_231 w_232 rfl rfl (by omega) (args := []) rfl rfl (Nat.le_of_ble_eq_true rfl) (kc' := 8) (ks' := 148) (mc := 1) (ms := 60) (by decide +kernel) (by decide +kernel) k0_Row_init_6 ?_
  rintro _ _ rfl
  refine e_aast 104 "MuseumFlight$Row" d_C_init_108 (Or.inr ⟨rfl, rfl⟩) (zTg (by decide +kernel)) (by decide) (by rw [zTg (v := 8) (by decide +kernel)]; decide) (zLo (by decide)) (Or.inr ⟨6, _, _, q_Row _, (zTg (by decide +kernel)), Or.inr rfl⟩) (fun _ => trivial) (zE (zH_u1 rfl) ?_)
  refine e_iinc (ls' := [(2, ((b : Int) + 1)), (0, 6)]) d_C_init_109 rfl (by decide) (by decide) rfl ?_
  refine e_goto (tgt := 90) d_C_init_112 (by decide) ?_
  refine e_iload_n d_C_init_90 rfl ?_
  refine e_bipush d_C_init_91 (by decide) (by decide) ?_
  refine e_icmp_ge (tgt := 115) d_C_init_93 (by decide) (fun q => absurd q (by decide)) (fun _ => ?_)
  refine e_aload_n d_C_init_96 rfl ?_
  refine gf_C_52 d_C_init_97 rfl (zTg (by decide +kernel)) ?_
  refine zGb (v := 33) (by decide +kernel) (by decide) ?_
  refine e_iload_n d_C_init_100 rfl ?_
  refine e_new (kc' := 7) (ks' := 145) 6 d_C_init_101 (q_Row _) w_228 w_230 w_11 (by decide +kernel) (by decide +kernel) (fun _ => trivial) (zNc (p := 46) (by decide +kernel) ?_)
  refine e_dup d_C_init_104 (by simp) ?_
  refine e_callI m_Row_init lw_good d_C_init_105 (k_Row_init _) ⟨Nat.le_of_ble_eq_true rfl, Nat.le_of_ble_eq_true rfl⟩ w_231 w_232 rfl rfl (by omega) (args := []) rfl rfl (Nat.le_of_ble_eq_true rfl) (kc' := 6) (ks' := 85) (mc := 1) (ms := 60) (by decide +kernel) (by decide +kernel) k0_Row_init_7 ?_
  rintro _ _ rfl
  refine e_aast 104 "MuseumFlight$Row" d_C_init_108 (Or.inr ⟨rfl, rfl⟩) (zTg (by decide +kernel)) (by decide) (by rw [zTg (v := 8) (by decide +kernel)]; decide) (zLo (by decide)) (Or.inr ⟨6, _, _, q_Row _, (zTg (by decide +kernel)), Or.inr rfl⟩) (fun _ => trivial) (zE (zH_u1 rfl) ?_)
  refine e_iinc (ls' := [(2, ((b : Int) + 1)), (0, 7)]) d_C_init_109 rfl (by decide) (by decide) rfl ?_
  refine e_goto (tgt := 90) d_C_init_112 (by decide) ?_
  refine e_iload_n d_C_init_90 rfl ?_
  refine e_bipush d_C_init_91 (by decide) (by decide) ?_
  refine e_icmp_ge (tgt := 115) d_C_init_93 (by decide) (fun q => absurd q (by decide)) (fun _ => ?_)
  refine e_aload_n d_C_init_96 rfl ?_
  refine gf_C_52 d_C_init_97 rfl (zTg (by decide +kernel)) ?_
  refine zGb (v := 33) (by decide +kernel) (by decide) ?_
  refine e_iload_n d_C_init_100 rfl ?_
  refine e_new (kc' := 5) (ks' := 82) 6 d_C_init_101 (q_Row _) w_228 w_230 w_11 (by decide +kernel) (by decide +kernel) (fun _ => trivial) (zNc (p := 48) (by decide +kernel) ?_)
  refine e_dup d_C_init_104 (by simp) ?_
  refine e_callI m_Row_init lw_good d_C_init_105 (k_Row_init _) ⟨Nat.le_of_ble_eq_true rfl, Nat.le_of_ble_eq_true rfl⟩ w_231 w_232 rfl rfl (by omega) (args := []) rfl rfl (Nat.le_of_ble_eq_true rfl) (kc' := 4) (ks' := 22) (mc := 1) (ms := 60) (by decide +kernel) (by decide +kernel) k0_Row_init_8 ?_
  rintro _ _ rfl
  refine e_aast 104 "MuseumFlight$Row" d_C_init_108 (Or.inr ⟨rfl, rfl⟩) (zTg (by decide +kernel)) (by decide) (by rw [zTg (v := 8) (by decide +kernel)]; decide) (zLo (by decide)) (Or.inr ⟨6, _, _, q_Row _, (zTg (by decide +kernel)), Or.inr rfl⟩) (fun _ => trivial) (zE (zH_u1 rfl) ?_)
  refine e_iinc (ls' := [(2, ((b : Int) + 1)), (0, 8)]) d_C_init_109 rfl (by decide) (by decide) rfl ?_
  refine e_goto (tgt := 90) d_C_init_112 (by decide) ?_
  refine e_iload_n d_C_init_90 rfl ?_
  refine e_bipush d_C_init_91 (by decide) (by decide) ?_
  refine e_icmp_ge (tgt := 115) d_C_init_93 (by decide) (fun _ => ?_) (fun q => absurd q (by decide))
  refine e_aload_n d_C_init_115 rfl ?_
  refine e_bipush d_C_init_116 (by decide) (by decide) ?_
  refine e_newi (kc' := 3) (ks' := 14) d_C_init_118 w_92 (by decide) (by decide) (by decide +kernel) (by decide +kernel) (fun _ => trivial) (zNc (p := 50) (by decide +kernel) ?_)
  refine gp_C_57 d_C_init_120 rfl rfl (zTg (by decide +kernel)) (zLo (by decide)) (fun _ => trivial) (zE (zH_u1 rfl) ?_)
  refine e_aload_n d_C_init_123 rfl ?_
  refine gf_C_57 d_C_init_124 rfl (zTg (by decide +kernel)) ?_
  refine zGb (v := 50) (by decide +kernel) (by decide) ?_
  refine e_iconst d_C_init_127 (by decide) ?_
  refine e_callS m_Arrays_fill_a lw_good d_C_init_128 (k_Arrays_fill_a _) ⟨Nat.le_of_ble_eq_true rfl, Nat.le_of_ble_eq_true rfl⟩ w_245 w_68 (args := [(2, ((b : Int) + 50)), (0, (-1))]) rfl rfl (Nat.le_of_ble_eq_true rfl) (kc' := 3) (ks' := 14) (mc := 0) (ms := 0) (by decide +kernel) (by decide +kernel) k0_Arrays_fill_a_4 ?_
  rintro _ _ rfl
  refine e_aload_n d_C_init_131 rfl ?_
  refine e_new (kc' := 2) (ks' := 13) 3 d_C_init_132 (q_Label _) w_246 w_247 w_12 (by decide +kernel) (by decide +kernel) (fun _ => trivial) (zNc (p := 51) (by decide +kernel) ?_)
  refine e_dup d_C_init_135 (by simp) ?_
  refine e_callI m_Label_init lw_good d_C_init_136 (k_Label_init _) ⟨Nat.le_of_ble_eq_true rfl, Nat.le_of_ble_eq_true rfl⟩ w_248 w_249 rfl rfl (by omega) (args := []) rfl rfl (Nat.le_of_ble_eq_true rfl) (kc' := 1) (ks' := 8) (mc := 1) (ms := 5) (by decide +kernel) (by decide +kernel) k0_Label_init_1 ?_
  rintro _ _ rfl
  refine gp_C_70 d_C_init_139 rfl rfl (zTg (by decide +kernel)) (zLo (by decide)) (fun _ => trivial) (zE (zH_u1 rfl) ?_)
  refine e_aload_n d_C_init_142 rfl ?_
  refine e_bipush d_C_init_143 (by decide) (by decide) ?_
  refine e_newi (kc' := 0) (ks' := 0) d_C_init_145 w_92 (by decide) (by decide) (by decide +kernel) (by decide +kernel) (fun _ => trivial) (zNc (p := 53) (by decide +kernel) ?_)
  refine gp_C_74 d_C_init_147 rfl rfl (zTg (by decide +kernel)) (zLo (by decide)) (fun _ => trivial) (zE (zH_u1 rfl) ?_)
  refine e_aload_n d_C_init_150 rfl ?_
  refine e_iconst d_C_init_151 (by decide) ?_
  refine gp_C_77 d_C_init_152 rfl (zTg (by decide +kernel)) (zLo (by decide)) (fun _ => trivial) (zE (zH_u0 rfl) ?_)
  refine e_aload_n d_C_init_155 rfl ?_
  refine e_iconst d_C_init_156 (by decide) ?_
  refine gp_C_81 d_C_init_157 rfl (zTg (by decide +kernel)) (zLo (by decide)) (fun _ => trivial) (zE (zH_u0 rfl) ?_)
  exact e_vret d_C_init_160 rfl rfl
set_option maxRecDepth 20000 in
set_option maxHeartbeats 4000000 in
theorem k0_M_init_1 {e : gE} {b : Nat} : GM e.1 (gX0 e b) m_M_init [(2, ((b : Int) + 54))] (zH b ((gn (gX0 e b) 10 : Int) + 1) zo56) 45 49526 (fun _ G1 => G1 = zH b ((gn (gX0 e b) 10 : Int) + 1) zo57) := by
  refine GM.ofEV (by decide) (Nat.le_of_ble_eq_true rfl) ?_
  show EV e.1 (gX0 e b) m_M_init _ 45 49526 0 [(2, ((b : Int) + 54)), (9, 0)] [] _
  refine e_aload_n d_M_init_0 rfl ?_
  refine e_objI d_M_init_1 w_1386 w_33 w_34 (by omega) (by decide) (Nat.le_of_ble_eq_true rfl) (Nat.le_trans (gcat _) (by simp)) ?_
  refine e_aload_n d_M_init_4 rfl ?_
  refine e_iconst d_M_init_5 (by decide) ?_
  refine gp_M_9 d_M_init_6 rfl (zTg (by decide +kernel)) (zLo (by decide)) (fun _ => trivial) (zE (zH_u0 rfl) ?_)
  refine e_aload_n d_M_init_9 rfl ?_
  refine e_bipush d_M_init_10 (by decide) (by decide) ?_
  refine e_newi (kc' := 44) (ks' := 49506) d_M_init_12 w_92 (by decide) (by decide) (by decide +kernel) (by decide +kernel) (fun _ => trivial) (zNc (p := 55) (by decide +kernel) ?_)
  refine gp_M_13 d_M_init_14 rfl rfl (zTg (by decide +kernel)) (zLo (by decide)) (fun _ => trivial) (zE (zH_u1 rfl) ?_)
  refine e_aload_n d_M_init_17 rfl ?_
  refine e_bipush d_M_init_18 (by decide) (by decide) ?_
  refine e_newi (kc' := 43) (ks' := 49486) d_M_init_20 w_92 (by decide) (by decide) (by decide +kernel) (by decide +kernel) (fun _ => trivial) (zNc (p := 56) (by decide +kernel) ?_)
  refine gp_M_17 d_M_init_22 rfl rfl (zTg (by decide +kernel)) (zLo (by decide)) (fun _ => trivial) (zE (zH_u1 rfl) ?_)
  refine e_aload_n d_M_init_25 rfl ?_
  refine e_bipush d_M_init_26 (by decide) (by decide) ?_
  refine e_newi (kc' := 42) (ks' := 49466) d_M_init_28 w_92 (by decide) (by decide) (by decide +kernel) (by decide +kernel) (fun _ => trivial) (zNc (p := 57) (by decide +kernel) ?_)
  refine gp_M_20 d_M_init_30 rfl rfl (zTg (by decide +kernel)) (zLo (by decide)) (fun _ => trivial) (zE (zH_u1 rfl) ?_)
  refine e_aload_n d_M_init_33 rfl ?_
  refine e_bipush d_M_init_34 (by decide) (by decide) ?_
  refine e_newz (kc' := 41) (ks' := 49446) d_M_init_36 w_93 (by decide) (by decide) (by decide +kernel) (by decide +kernel) (fun _ => trivial) (zNc (p := 58) (by decide +kernel) ?_)
  refine gp_M_23 d_M_init_38 rfl rfl (zTg (by decide +kernel)) (zLo (by decide)) (fun _ => trivial) (zE (zH_u1 rfl) ?_)
  refine e_aload_n d_M_init_41 rfl ?_
  refine e_bipush d_M_init_42 (by decide) (by decide) ?_
  refine e_newi (kc' := 40) (ks' := 49434) d_M_init_44 w_92 (by decide) (by decide) (by decide +kernel) (by decide +kernel) (fun _ => trivial) (zNc (p := 59) (by decide +kernel) ?_)
  refine gp_M_27 d_M_init_46 rfl rfl (zTg (by decide +kernel)) (zLo (by decide)) (fun _ => trivial) (zE (zH_u1 rfl) ?_)
  refine e_aload_n d_M_init_49 rfl ?_
  refine e_bipush d_M_init_50 (by decide) (by decide) ?_
  refine e_newi (kc' := 39) (ks' := 49422) d_M_init_52 w_92 (by decide) (by decide) (by decide +kernel) (by decide +kernel) (fun _ => trivial) (zNc (p := 60) (by decide +kernel) ?_)
  refine gp_M_30 d_M_init_54 rfl rfl (zTg (by decide +kernel)) (zLo (by decide)) (fun _ => trivial) (zE (zH_u1 rfl) ?_)
  refine e_aload_n d_M_init_57 rfl ?_
  refine e_bipush d_M_init_58 (by decide) (by decide) ?_
  refine e_newi (kc' := 38) (ks' := 49406) d_M_init_60 w_92 (by decide) (by decide) (by decide +kernel) (by decide +kernel) (fun _ => trivial) (zNc (p := 61) (by decide +kernel) ?_)
  refine gp_M_33 d_M_init_62 rfl rfl (zTg (by decide +kernel)) (zLo (by decide)) (fun _ => trivial) (zE (zH_u1 rfl) ?_)
  refine e_aload_n d_M_init_65 rfl ?_
  refine e_bipush d_M_init_66 (by decide) (by decide) ?_
  refine e_newi (kc' := 37) (ks' := 49390) d_M_init_68 w_92 (by decide) (by decide) (by decide +kernel) (by decide +kernel) (fun _ => trivial) (zNc (p := 62) (by decide +kernel) ?_)
  refine gp_M_36 d_M_init_70 rfl rfl (zTg (by decide +kernel)) (zLo (by decide)) (fun _ => trivial) (zE (zH_u1 rfl) ?_)
  refine e_aload_n d_M_init_73 rfl ?_
  refine e_bipush d_M_init_74 (by decide) (by decide) ?_
  refine e_newi (kc' := 36) (ks' := 49374) d_M_init_76 w_92 (by decide) (by decide) (by decide +kernel) (by decide +kernel) (fun _ => trivial) (zNc (p := 63) (by decide +kernel) ?_)
  refine gp_M_39 d_M_init_78 rfl rfl (zTg (by decide +kernel)) (zLo (by decide)) (fun _ => trivial) (zE (zH_u1 rfl) ?_)
  refine e_aload_n d_M_init_81 rfl ?_
  refine e_bipush d_M_init_82 (by decide) (by decide) ?_
  refine e_newi (kc' := 35) (ks' := 49358) d_M_init_84 w_92 (by decide) (by decide) (by decide +kernel) (by decide +kernel) (fun _ => trivial) (zNc (p := 64) (by decide +kernel) ?_)
  refine gp_M_42 d_M_init_86 rfl rfl (zTg (by decide +kernel)) (zLo (by decide)) (fun _ => trivial) (zE (zH_u1 rfl) ?_)
  refine e_aload_n d_M_init_89 rfl ?_
  refine e_bipush d_M_init_90 (by decide) (by decide) ?_
  refine e_newi (kc' := 34) (ks' := 49342) d_M_init_92 w_92 (by decide) (by decide) (by decide +kernel) (by decide +kernel) (fun _ => trivial) (zNc (p := 65) (by decide +kernel) ?_)
  refine gp_M_45 d_M_init_94 rfl rfl (zTg (by decide +kernel)) (zLo (by decide)) (fun _ => trivial) (zE (zH_u1 rfl) ?_)
  refine e_aload_n d_M_init_97 rfl ?_
  refine e_bipush d_M_init_98 (by decide) (by decide) ?_
  refine e_newi (kc' := 33) (ks' := 49326) d_M_init_100 w_92 (by decide) (by decide) (by decide +kernel) (by decide +kernel) (fun _ => trivial) (zNc (p := 66) (by decide +kernel) ?_)
  refine gp_M_48 d_M_init_102 rfl rfl (zTg (by decide +kernel)) (zLo (by decide)) (fun _ => trivial) (zE (zH_u1 rfl) ?_)
  refine e_aload_n d_M_init_105 rfl ?_
  refine e_bipush d_M_init_106 (by decide) (by decide) ?_
  refine e_newi (kc' := 32) (ks' := 49310) d_M_init_108 w_92 (by decide) (by decide) (by decide +kernel) (by decide +kernel) (fun _ => trivial) (zNc (p := 67) (by decide +kernel) ?_)
  refine gp_M_51 d_M_init_110 rfl rfl (zTg (by decide +kernel)) (zLo (by decide)) (fun _ => trivial) (zE (zH_u1 rfl) ?_)
  refine e_aload_n d_M_init_113 rfl ?_
  refine e_bipush d_M_init_114 (by decide) (by decide) ?_
  refine e_newi (kc' := 31) (ks' := 49294) d_M_init_116 w_92 (by decide) (by decide) (by decide +kernel) (by decide +kernel) (fun _ => trivial) (zNc (p := 68) (by decide +kernel) ?_)
  refine gp_M_54 d_M_init_118 rfl rfl (zTg (by decide +kernel)) (zLo (by decide)) (fun _ => trivial) (zE (zH_u1 rfl) ?_)
  refine e_aload_n d_M_init_121 rfl ?_
  refine e_iconst d_M_init_122 (by decide) ?_
  refine e_newi (kc' := 30) (ks' := 49291) d_M_init_123 w_92 (by decide) (by decide) (by decide +kernel) (by decide +kernel) (fun _ => trivial) (zNc (p := 69) (by decide +kernel) ?_)
  refine gp_M_57 d_M_init_125 rfl rfl (zTg (by decide +kernel)) (zLo (by decide)) (fun _ => trivial) (zE (zH_u1 rfl) ?_)
  refine e_aload_n d_M_init_128 rfl ?_
  refine e_iconst d_M_init_129 (by decide) ?_
  refine e_newi (kc' := 29) (ks' := 49288) d_M_init_130 w_92 (by decide) (by decide) (by decide +kernel) (by decide +kernel) (fun _ => trivial) (zNc (p := 70) (by decide +kernel) ?_)
  refine gp_M_60 d_M_init_132 rfl rfl (zTg (by decide +kernel)) (zLo (by decide)) (fun _ => trivial) (zE (zH_u1 rfl) ?_)
  refine e_aload_n d_M_init_135 rfl ?_
  refine e_iconst d_M_init_136 (by decide) ?_
  refine e_newi (kc' := 28) (ks' := 49285) d_M_init_137 w_92 (by decide) (by decide) (by decide +kernel) (by decide +kernel) (fun _ => trivial) (zNc (p := 71) (by decide +kernel) ?_)
  refine gp_M_63 d_M_init_139 rfl rfl (zTg (by decide +kernel)) (zLo (by decide)) (fun _ => trivial) (zE (zH_u1 rfl) ?_)
  refine e_aload_n d_M_init_142 rfl ?_
  refine e_bipush d_M_init_143 (by decide) (by decide) ?_
  refine e_newi (kc' := 27) (ks' := 49277) d_M_init_145 w_92 (by decide) (by decide) (by decide +kernel) (by decide +kernel) (fun _ => trivial) (zNc (p := 72) (by decide +kernel) ?_)
  refine gp_M_66 d_M_init_147 rfl rfl (zTg (by decide +kernel)) (zLo (by decide)) (fun _ => trivial) (zE (zH_u1 rfl) ?_)
  refine e_aload_n d_M_init_150 rfl ?_
  refine e_bipush d_M_init_151 (by decide) (by decide) ?_
  refine e_newi (kc' := 26) (ks' := 49269) d_M_init_153 w_92 (by decide) (by decide) (by decide +kernel) (by decide +kernel) (fun _ => trivial) (zNc (p := 73) (by decide +kernel) ?_)
  refine gp_M_69 d_M_init_155 rfl rfl (zTg (by decide +kernel)) (zLo (by decide)) (fun _ => trivial) (zE (zH_u1 rfl) ?_)
  refine e_aload_n d_M_init_158 rfl ?_
  refine e_bipush d_M_init_159 (by decide) (by decide) ?_
  refine e_newi (kc' := 25) (ks' := 49261) d_M_init_161 w_92 (by decide) (by decide) (by decide +kernel) (by decide +kernel) (fun _ => trivial) (zNc (p := 74) (by decide +kernel) ?_)
  refine gp_M_72 d_M_init_163 rfl rfl (zTg (by decide +kernel)) (zLo (by decide)) (fun _ => trivial) (zE (zH_u1 rfl) ?_)
  refine e_aload_n d_M_init_166 rfl ?_
  refine e_bipush d_M_init_167 (by decide) (by decide) ?_
  refine e_newi (kc' := 24) (ks' := 49253) d_M_init_169 w_92 (by decide) (by decide) (by decide +kernel) (by decide +kernel) (fun _ => trivial) (zNc (p := 75) (by decide +kernel) ?_)
  refine gp_M_75 d_M_init_171 rfl rfl (zTg (by decide +kernel)) (zLo (by decide)) (fun _ => trivial) (zE (zH_u1 rfl) ?_)
  refine e_aload_n d_M_init_174 rfl ?_
  refine e_sipush d_M_init_175 (by decide) (by decide) ?_
  refine e_newj (kc' := 23) (ks' := 48773) d_M_init_178 w_135 (by decide) (by decide) (by decide +kernel) (by decide +kernel) (fun _ => trivial) (zNc (p := 76) (by decide +kernel) ?_)
  refine gp_M_78 d_M_init_180 rfl rfl (zTg (by decide +kernel)) (zLo (by decide)) (fun _ => trivial) (zE (zH_u1 rfl) ?_)
  refine e_aload_n d_M_init_183 rfl ?_
  refine e_iconst d_M_init_184 (by decide) ?_
  refine e_newi (kc' := 22) (ks' := 48768) d_M_init_185 w_92 (by decide) (by decide) (by decide +kernel) (by decide +kernel) (fun _ => trivial) (zNc (p := 77) (by decide +kernel) ?_)
  refine gp_M_82 d_M_init_187 rfl rfl (zTg (by decide +kernel)) (zLo (by decide)) (fun _ => trivial) (zE (zH_u1 rfl) ?_)
  refine e_aload_n d_M_init_190 rfl ?_
  refine e_iconst d_M_init_191 (by decide) ?_
  refine e_newi (kc' := 21) (ks' := 48763) d_M_init_192 w_92 (by decide) (by decide) (by decide +kernel) (by decide +kernel) (fun _ => trivial) (zNc (p := 78) (by decide +kernel) ?_)
  refine gp_M_85 d_M_init_194 rfl rfl (zTg (by decide +kernel)) (zLo (by decide)) (fun _ => trivial) (zE (zH_u1 rfl) ?_)
  refine e_aload_n d_M_init_197 rfl ?_
  refine e_iconst d_M_init_198 (by decide) ?_
  refine e_newi (kc' := 20) (ks' := 48758) d_M_init_199 w_92 (by decide) (by decide) (by decide +kernel) (by decide +kernel) (fun _ => trivial) (zNc (p := 79) (by decide +kernel) ?_)
  refine gp_M_88 d_M_init_201 rfl rfl (zTg (by decide +kernel)) (zLo (by decide)) (fun _ => trivial) (zE (zH_u1 rfl) ?_)
  refine e_aload_n d_M_init_204 rfl ?_
  refine e_iconst d_M_init_205 (by decide) ?_
  refine e_newi (kc' := 19) (ks' := 48753) d_M_init_206 w_92 (by decide) (by decide) (by decide +kernel) (by decide +kernel) (fun _ => trivial) (zNc (p := 80) (by decide +kernel) ?_)
  refine gp_M_91 d_M_init_208 rfl rfl (zTg (by decide +kernel)) (zLo (by decide)) (fun _ => trivial) (zE (zH_u1 rfl) ?_)
  refine e_aload_n d_M_init_211 rfl ?_
  refine e_iconst d_M_init_212 (by decide) ?_
  refine e_newi (kc' := 18) (ks' := 48748) d_M_init_213 w_92 (by decide) (by decide) (by decide +kernel) (by decide +kernel) (fun _ => trivial) (zNc (p := 81) (by decide +kernel) ?_)
  refine gp_M_94 d_M_init_215 rfl rfl (zTg (by decide +kernel)) (zLo (by decide)) (fun _ => trivial) (zE (zH_u1 rfl) ?_)
  refine e_aload_n d_M_init_218 rfl ?_
  refine e_sipush d_M_init_219 (by decide) (by decide) ?_
  refine e_newj (kc' := 17) (ks' := 48448) d_M_init_222 w_135 (by decide) (by decide) (by decide +kernel) (by decide +kernel) (fun _ => trivial) (zNc (p := 82) (by decide +kernel) ?_)
  refine gp_M_97 d_M_init_224 rfl rfl (zTg (by decide +kernel)) (zLo (by decide)) (fun _ => trivial) (zE (zH_u1 rfl) ?_)
  refine e_aload_n d_M_init_227 rfl ?_
  refine e_iconst d_M_init_228 (by decide) ?_
  refine e_newi (kc' := 16) (ks' := 48444) d_M_init_229 w_92 (by decide) (by decide) (by decide +kernel) (by decide +kernel) (fun _ => trivial) (zNc (p := 83) (by decide +kernel) ?_)
  refine gp_M_100 d_M_init_231 rfl rfl (zTg (by decide +kernel)) (zLo (by decide)) (fun _ => trivial) (zE (zH_u1 rfl) ?_)
  refine e_aload_n d_M_init_234 rfl ?_
  refine e_iconst d_M_init_235 (by decide) ?_
  refine e_newi (kc' := 15) (ks' := 48440) d_M_init_236 w_92 (by decide) (by decide) (by decide +kernel) (by decide +kernel) (fun _ => trivial) (zNc (p := 84) (by decide +kernel) ?_)
  refine gp_M_103 d_M_init_238 rfl rfl (zTg (by decide +kernel)) (zLo (by decide)) (fun _ => trivial) (zE (zH_u1 rfl) ?_)
  refine e_aload_n d_M_init_241 rfl ?_
  refine e_iconst d_M_init_242 (by decide) ?_
  refine e_newi (kc' := 14) (ks' := 48436) d_M_init_243 w_92 (by decide) (by decide) (by decide +kernel) (by decide +kernel) (fun _ => trivial) (zNc (p := 85) (by decide +kernel) ?_)
  refine gp_M_106 d_M_init_245 rfl rfl (zTg (by decide +kernel)) (zLo (by decide)) (fun _ => trivial) (zE (zH_u1 rfl) ?_)
  refine e_aload_n d_M_init_248 rfl ?_
  refine e_bipush d_M_init_249 (by decide) (by decide) ?_
  refine e_newi (kc' := 13) (ks' := 48340) d_M_init_251 w_92 (by decide) (by decide) (by decide +kernel) (by decide +kernel) (fun _ => trivial) (zNc (p := 86) (by decide +kernel) ?_)
  refine gp_M_109 d_M_init_253 rfl rfl (zTg (by decide +kernel)) (zLo (by decide)) (fun _ => trivial) (zE (zH_u1 rfl) ?_)
  refine e_aload_n d_M_init_256 rfl ?_
  refine e_bipush d_M_init_257 (by decide) (by decide) ?_
  refine e_newi (kc' := 12) (ks' := 48244) d_M_init_259 w_92 (by decide) (by decide) (by decide +kernel) (by decide +kernel) (fun _ => trivial) (zNc (p := 87) (by decide +kernel) ?_)
  refine gp_M_112 d_M_init_261 rfl rfl (zTg (by decide +kernel)) (zLo (by decide)) (fun _ => trivial) (zE (zH_u1 rfl) ?_)
  refine e_aload_n d_M_init_264 rfl ?_
  refine e_bipush d_M_init_265 (by decide) (by decide) ?_
  refine e_newi (kc' := 11) (ks' := 48148) d_M_init_267 w_92 (by decide) (by decide) (by decide +kernel) (by decide +kernel) (fun _ => trivial) (zNc (p := 88) (by decide +kernel) ?_)
  refine gp_M_115 d_M_init_269 rfl rfl (zTg (by decide +kernel)) (zLo (by decide)) (fun _ => trivial) (zE (zH_u1 rfl) ?_)
  refine e_aload_n d_M_init_272 rfl ?_
  refine e_sipush d_M_init_273 (by decide) (by decide) ?_
  refine e_newi (kc' := 10) (ks' := 36148) d_M_init_276 w_92 (by decide) (by decide) (by decide +kernel) (by decide +kernel) (fun _ => trivial) (zNc (p := 89) (by decide +kernel) ?_)
  refine gp_M_118 d_M_init_278 rfl rfl (zTg (by decide +kernel)) (zLo (by decide)) (fun _ => trivial) (zE (zH_u1 rfl) ?_)
  refine e_aload_n d_M_init_281 rfl ?_
  refine e_sipush d_M_init_282 (by decide) (by decide) ?_
  refine e_newi (kc' := 9) (ks' := 24148) d_M_init_285 w_92 (by decide) (by decide) (by decide +kernel) (by decide +kernel) (fun _ => trivial) (zNc (p := 90) (by decide +kernel) ?_)
  refine gp_M_121 d_M_init_287 rfl rfl (zTg (by decide +kernel)) (zLo (by decide)) (fun _ => trivial) (zE (zH_u1 rfl) ?_)
  refine e_aload_n d_M_init_290 rfl ?_
  refine e_sipush d_M_init_291 (by decide) (by decide) ?_
  refine e_newi (kc' := 8) (ks' := 12148) d_M_init_294 w_92 (by decide) (by decide) (by decide +kernel) (by decide +kernel) (fun _ => trivial) (zNc (p := 91) (by decide +kernel) ?_)
  refine gp_M_124 d_M_init_296 rfl rfl (zTg (by decide +kernel)) (zLo (by decide)) (fun _ => trivial) (zE (zH_u1 rfl) ?_)
  refine e_aload_n d_M_init_299 rfl ?_
  refine e_sipush d_M_init_300 (by decide) (by decide) ?_
  refine e_newi (kc' := 7) (ks' := 148) d_M_init_303 w_92 (by decide) (by decide) (by decide +kernel) (by decide +kernel) (fun _ => trivial) (zNc (p := 92) (by decide +kernel) ?_)
  refine gp_M_127 d_M_init_305 rfl rfl (zTg (by decide +kernel)) (zLo (by decide)) (fun _ => trivial) (zE (zH_u1 rfl) ?_)
  refine e_aload_n d_M_init_308 rfl ?_
  refine e_bipush d_M_init_309 (by decide) (by decide) ?_
  refine e_newi (kc' := 6) (ks' := 140) d_M_init_311 w_92 (by decide) (by decide) (by decide +kernel) (by decide +kernel) (fun _ => trivial) (zNc (p := 93) (by decide +kernel) ?_)
  refine gp_M_130 d_M_init_313 rfl rfl (zTg (by decide +kernel)) (zLo (by decide)) (fun _ => trivial) (zE (zH_u1 rfl) ?_)
  refine e_aload_n d_M_init_316 rfl ?_
  refine e_bipush d_M_init_317 (by decide) (by decide) ?_
  refine e_newi (kc' := 5) (ks' := 124) d_M_init_319 w_92 (by decide) (by decide) (by decide +kernel) (by decide +kernel) (fun _ => trivial) (zNc (p := 94) (by decide +kernel) ?_)
  refine gp_M_133 d_M_init_321 rfl rfl (zTg (by decide +kernel)) (zLo (by decide)) (fun _ => trivial) (zE (zH_u1 rfl) ?_)
  refine e_aload_n d_M_init_324 rfl ?_
  refine e_bipush d_M_init_325 (by decide) (by decide) ?_
  refine e_newi (kc' := 4) (ks' := 108) d_M_init_327 w_92 (by decide) (by decide) (by decide +kernel) (by decide +kernel) (fun _ => trivial) (zNc (p := 95) (by decide +kernel) ?_)
  refine gp_M_136 d_M_init_329 rfl rfl (zTg (by decide +kernel)) (zLo (by decide)) (fun _ => trivial) (zE (zH_u1 rfl) ?_)
  refine e_aload_n d_M_init_332 rfl ?_
  refine e_bipush d_M_init_333 (by decide) (by decide) ?_
  refine e_newi (kc' := 3) (ks' := 92) d_M_init_335 w_92 (by decide) (by decide) (by decide +kernel) (by decide +kernel) (fun _ => trivial) (zNc (p := 96) (by decide +kernel) ?_)
  refine gp_M_139 d_M_init_337 rfl rfl (zTg (by decide +kernel)) (zLo (by decide)) (fun _ => trivial) (zE (zH_u1 rfl) ?_)
  refine e_aload_n d_M_init_340 rfl ?_
  refine e_bipush d_M_init_341 (by decide) (by decide) ?_
  refine e_newi (kc' := 2) (ks' := 76) d_M_init_343 w_92 (by decide) (by decide) (by decide +kernel) (by decide +kernel) (fun _ => trivial) (zNc (p := 97) (by decide +kernel) ?_)
  refine gp_M_142 d_M_init_345 rfl rfl (zTg (by decide +kernel)) (zLo (by decide)) (fun _ => trivial) (zE (zH_u1 rfl) ?_)
  refine e_aload_n d_M_init_348 rfl ?_
  refine e_bipush d_M_init_349 (by decide) (by decide) ?_
  refine e_newi (kc' := 1) (ks' := 60) d_M_init_351 w_92 (by decide) (by decide) (by decide +kernel) (by decide +kernel) (fun _ => trivial) (zNc (p := 98) (by decide +kernel) ?_)
  refine gp_M_145 d_M_init_353 rfl rfl (zTg (by decide +kernel)) (zLo (by decide)) (fun _ => trivial) (zE (zH_u1 rfl) ?_)
  refine e_aload_n d_M_init_356 rfl ?_
  refine e_bipush d_M_init_357 (by decide) (by decide) ?_
  refine e_newj (kc' := 0) (ks' := 0) d_M_init_359 w_135 (by decide) (by decide) (by decide +kernel) (by decide +kernel) (fun _ => trivial) (zNc (p := 99) (by decide +kernel) ?_)
  refine gp_M_148 d_M_init_361 rfl rfl (zTg (by decide +kernel)) (zLo (by decide)) (fun _ => trivial) (zE (zH_u1 rfl) ?_)
  refine e_iconst d_M_init_364 (by decide) ?_
  refine e_istore_n (ls' := [(2, ((b : Int) + 54)), (0, 0)]) d_M_init_365 (by decide) rfl ?_
  refine e_iload_n d_M_init_366 rfl ?_
  refine e_bipush d_M_init_367 (by decide) (by decide) ?_
  refine e_icmp_ge (tgt := 385) d_M_init_369 (by decide) (fun q => absurd q (by decide)) (fun _ => ?_)
  refine e_aload_n d_M_init_372 rfl ?_
  refine gf_M_27 d_M_init_373 rfl (zTg (by decide +kernel)) ?_
  refine zGb (v := 59) (by decide +kernel) (by decide) ?_
  refine e_iload_n d_M_init_376 rfl ?_
  refine e_iconst d_M_init_377 (by decide) ?_
  refine e_iast d_M_init_378 (zTg (by decide +kernel)) (by decide) (by rw [zTg (v := 12) (by decide +kernel)]; decide) (zLo (by decide)) (fun _ => trivial) (zE (zH_u0 rfl) ?_)
  refine e_iinc (ls' := [(2, ((b : Int) + 54)), (0, 1)]) d_M_init_379 rfl (by decide) (by decide) rfl ?_
  refine e_goto (tgt := 366) d_M_init_382 (by decide) ?_
  refine e_iload_n d_M_init_366 rfl ?_
  refine e_bipush d_M_init_367 (by decide) (by decide) ?_
  refine e_icmp_ge (tgt := 385) d_M_init_369 (by decide) (fun q => absurd q (by decide)) (fun _ => ?_)
  refine e_aload_n d_M_init_372 rfl ?_
  refine gf_M_27 d_M_init_373 rfl (zTg (by decide +kernel)) ?_
  refine zGb (v := 59) (by decide +kernel) (by decide) ?_
  refine e_iload_n d_M_init_376 rfl ?_
  refine e_iconst d_M_init_377 (by decide) ?_
  refine e_iast d_M_init_378 (zTg (by decide +kernel)) (by decide) (by rw [zTg (v := 12) (by decide +kernel)]; decide) (zLo (by decide)) (fun _ => trivial) (zE (zH_u0 rfl) ?_)
  refine e_iinc (ls' := [(2, ((b : Int) + 54)), (0, 2)]) d_M_init_379 rfl (by decide) (by decide) rfl ?_
  refine e_goto (tgt := 366) d_M_init_382 (by decide) ?_
  refine e_iload_n d_M_init_366 rfl ?_
  refine e_bipush d_M_init_367 (by decide) (by decide) ?_
  refine e_icmp_ge (tgt := 385) d_M_init_369 (by decide) (fun q => absurd q (by decide)) (fun _ => ?_)
  refine e_aload_n d_M_init_372 rfl ?_
  refine gf_M_27 d_M_init_373 rfl (zTg (by decide +kernel)) ?_
  refine zGb (v := 59) (by decide +kernel) (by decide) ?_
  refine e_iload_n d_M_init_376 rfl ?_
  refine e_iconst d_M_init_377 (by decide) ?_
  refine e_iast d_M_init_378 (zTg (by decide +kernel)) (by decide) (by rw [zTg (v := 12) (by decide +kernel)]; decide) (zLo (by decide)) (fun _ => trivial) (zE (zH_u0 rfl) ?_)
  refine e_iinc (ls' := [(2, ((b : Int) + 54)), (0, 3)]) d_M_init_379 rfl (by decide) (by decide) rfl ?_
  refine e_goto (tgt := 366) d_M_init_382 (by decide) ?_
  refine e_iload_n d_M_init_366 rfl ?_
  refine e_bipush d_M_init_367 (by decide) (by decide) ?_
  refine e_icmp_ge (tgt := 385) d_M_init_369 (by decide) (fun q => absurd q (by decide)) (fun _ => ?_)
  refine e_aload_n d_M_init_372 rfl ?_
  refine gf_M_27 d_M_init_373 rfl (zTg (by decide +kernel)) ?_
  refine zGb (v := 59) (by decide +kernel) (by decide) ?_
  refine e_iload_n d_M_init_376 rfl ?_
  refine e_iconst d_M_init_377 (by decide) ?_
  refine e_iast d_M_init_378 (zTg (by decide +kernel)) (by decide) (by rw [zTg (v := 12) (by decide +kernel)]; decide) (zLo (by decide)) (fun _ => trivial) (zE (zH_u0 rfl) ?_)
  refine e_iinc (ls' := [(2, ((b : Int) + 54)), (0, 4)]) d_M_init_379 rfl (by decide) (by decide) rfl ?_
  refine e_goto (tgt := 366) d_M_init_382 (by decide) ?_
  refine e_iload_n d_M_init_366 rfl ?_
  refine e_bipush d_M_init_367 (by decide) (by decide) ?_
  refine e_icmp_ge (tgt := 385) d_M_init_369 (by decide) (fun q => absurd q (by decide)) (fun _ => ?_)
  refine e_aload_n d_M_init_372 rfl ?_
  refine gf_M_27 d_M_init_373 rfl (zTg (by decide +kernel)) ?_
  refine zGb (v := 59) (by decide +kernel) (by decide) ?_
  refine e_iload_n d_M_init_376 rfl ?_
  refine e_iconst d_M_init_377 (by decide) ?_
  refine e_iast d_M_init_378 (zTg (by decide +kernel)) (by decide) (by rw [zTg (v := 12) (by decide +kernel)]; decide) (zLo (by decide)) (fun _ => trivial) (zE (zH_u0 rfl) ?_)
  refine e_iinc (ls' := [(2, ((b : Int) + 54)), (0, 5)]) d_M_init_379 rfl (by decide) (by decide) rfl ?_
  refine e_goto (tgt := 366) d_M_init_382 (by decide) ?_
  refine e_iload_n d_M_init_366 rfl ?_
  refine e_bipush d_M_init_367 (by decide) (by decide) ?_
  refine e_icmp_ge (tgt := 385) d_M_init_369 (by decide) (fun q => absurd q (by decide)) (fun _ => ?_)
  refine e_aload_n d_M_init_372 rfl ?_
  refine gf_M_27 d_M_init_373 rfl (zTg (by decide +kernel)) ?_
  refine zGb (v := 59) (by decide +kernel) (by decide) ?_
  refine e_iload_n d_M_init_376 rfl ?_
  refine e_iconst d_M_init_377 (by decide) ?_
  refine e_iast d_M_init_378 (zTg (by decide +kernel)) (by decide) (by rw [zTg (v := 12) (by decide +kernel)]; decide) (zLo (by decide)) (fun _ => trivial) (zE (zH_u0 rfl) ?_)
  refine e_iinc (ls' := [(2, ((b : Int) + 54)), (0, 6)]) d_M_init_379 rfl (by decide) (by decide) rfl ?_
  refine e_goto (tgt := 366) d_M_init_382 (by decide) ?_
  refine e_iload_n d_M_init_366 rfl ?_
  refine e_bipush d_M_init_367 (by decide) (by decide) ?_
  refine e_icmp_ge (tgt := 385) d_M_init_369 (by decide) (fun q => absurd q (by decide)) (fun _ => ?_)
  refine e_aload_n d_M_init_372 rfl ?_
  refine gf_M_27 d_M_init_373 rfl (zTg (by decide +kernel)) ?_
  refine zGb (v := 59) (by decide +kernel) (by decide) ?_
  refine e_iload_n d_M_init_376 rfl ?_
  refine e_iconst d_M_init_377 (by decide) ?_
  refine e_iast d_M_init_378 (zTg (by decide +kernel)) (by decide) (by rw [zTg (v := 12) (by decide +kernel)]; decide) (zLo (by decide)) (fun _ => trivial) (zE (zH_u0 rfl) ?_)
  refine e_iinc (ls' := [(2, ((b : Int) + 54)), (0, 7)]) d_M_init_379 rfl (by decide) (by decide) rfl ?_
  refine e_goto (tgt := 366) d_M_init_382 (by decide) ?_
  refine e_iload_n d_M_init_366 rfl ?_
  refine e_bipush d_M_init_367 (by decide) (by decide) ?_
  refine e_icmp_ge (tgt := 385) d_M_init_369 (by decide) (fun q => absurd q (by decide)) (fun _ => ?_)
  refine e_aload_n d_M_init_372 rfl ?_
  refine gf_M_27 d_M_init_373 rfl (zTg (by decide +kernel)) ?_
  refine zGb (v := 59) (by decide +kernel) (by decide) ?_
  refine e_iload_n d_M_init_376 rfl ?_
  refine e_iconst d_M_init_377 (by decide) ?_
  refine e_iast d_M_init_378 (zTg (by decide +kernel)) (by decide) (by rw [zTg (v := 12) (by decide +kernel)]; decide) (zLo (by decide)) (fun _ => trivial) (zE (zH_u0 rfl) ?_)
  refine e_iinc (ls' := [(2, ((b : Int) + 54)), (0, 8)]) d_M_init_379 rfl (by decide) (by decide) rfl ?_
  refine e_goto (tgt := 366) d_M_init_382 (by decide) ?_
  refine e_iload_n d_M_init_366 rfl ?_
  refine e_bipush d_M_init_367 (by decide) (by decide) ?_
  refine e_icmp_ge (tgt := 385) d_M_init_369 (by decide) (fun q => absurd q (by decide)) (fun _ => ?_)
  refine e_aload_n d_M_init_372 rfl ?_
  refine gf_M_27 d_M_init_373 rfl (zTg (by decide +kernel)) ?_
  refine zGb (v := 59) (by decide +kernel) (by decide) ?_
  refine e_iload_n d_M_init_376 rfl ?_
  refine e_iconst d_M_init_377 (by decide) ?_
  refine e_iast d_M_init_378 (zTg (by decide +kernel)) (by decide) (by rw [zTg (v := 12) (by decide +kernel)]; decide) (zLo (by decide)) (fun _ => trivial) (zE (zH_u0 rfl) ?_)
  refine e_iinc (ls' := [(2, ((b : Int) + 54)), (0, 9)]) d_M_init_379 rfl (by decide) (by decide) rfl ?_
  refine e_goto (tgt := 366) d_M_init_382 (by decide) ?_
  refine e_iload_n d_M_init_366 rfl ?_
  refine e_bipush d_M_init_367 (by decide) (by decide) ?_
  refine e_icmp_ge (tgt := 385) d_M_init_369 (by decide) (fun q => absurd q (by decide)) (fun _ => ?_)
  refine e_aload_n d_M_init_372 rfl ?_
  refine gf_M_27 d_M_init_373 rfl (zTg (by decide +kernel)) ?_
  refine zGb (v := 59) (by decide +kernel) (by decide) ?_
  refine e_iload_n d_M_init_376 rfl ?_
  refine e_iconst d_M_init_377 (by decide) ?_
  refine e_iast d_M_init_378 (zTg (by decide +kernel)) (by decide) (by rw [zTg (v := 12) (by decide +kernel)]; decide) (zLo (by decide)) (fun _ => trivial) (zE (zH_u0 rfl) ?_)
  refine e_iinc (ls' := [(2, ((b : Int) + 54)), (0, 10)]) d_M_init_379 rfl (by decide) (by decide) rfl ?_
  refine e_goto (tgt := 366) d_M_init_382 (by decide) ?_
  refine e_iload_n d_M_init_366 rfl ?_
  refine e_bipush d_M_init_367 (by decide) (by decide) ?_
  refine e_icmp_ge (tgt := 385) d_M_init_369 (by decide) (fun q => absurd q (by decide)) (fun _ => ?_)
  refine e_aload_n d_M_init_372 rfl ?_
  refine gf_M_27 d_M_init_373 rfl (zTg (by decide +kernel)) ?_
  refine zGb (v := 59) (by decide +kernel) (by decide) ?_
  refine e_iload_n d_M_init_376 rfl ?_
  refine e_iconst d_M_init_377 (by decide) ?_
  refine e_iast d_M_init_378 (zTg (by decide +kernel)) (by decide) (by rw [zTg (v := 12) (by decide +kernel)]; decide) (zLo (by decide)) (fun _ => trivial) (zE (zH_u0 rfl) ?_)
  refine e_iinc (ls' := [(2, ((b : Int) + 54)), (0, 11)]) d_M_init_379 rfl (by decide) (by decide) rfl ?_
  refine e_goto (tgt := 366) d_M_init_382 (by decide) ?_
  refine e_iload_n d_M_init_366 rfl ?_
  refine e_bipush d_M_init_367 (by decide) (by decide) ?_
  refine e_icmp_ge (tgt := 385) d_M_init_369 (by decide) (fun q => absurd q (by decide)) (fun _ => ?_)
  refine e_aload_n d_M_init_372 rfl ?_
  refine gf_M_27 d_M_init_373 rfl (zTg (by decide +kernel)) ?_
  refine zGb (v := 59) (by decide +kernel) (by decide) ?_
  refine e_iload_n d_M_init_376 rfl ?_
  refine e_iconst d_M_init_377 (by decide) ?_
  refine e_iast d_M_init_378 (zTg (by decide +kernel)) (by decide) (by rw [zTg (v := 12) (by decide +kernel)]; decide) (zLo (by decide)) (fun _ => trivial) (zE (zH_u0 rfl) ?_)
  refine e_iinc (ls' := [(2, ((b : Int) + 54)), (0, 12)]) d_M_init_379 rfl (by decide) (by decide) rfl ?_
  refine e_goto (tgt := 366) d_M_init_382 (by decide) ?_
  refine e_iload_n d_M_init_366 rfl ?_
  refine e_bipush d_M_init_367 (by decide) (by decide) ?_
  refine e_icmp_ge (tgt := 385) d_M_init_369 (by decide) (fun _ => ?_) (fun q => absurd q (by decide))
  refine e_iconst d_M_init_385 (by decide) ?_
  refine e_istore_n (ls' := [(2, ((b : Int) + 54)), (0, 0)]) d_M_init_386 (by decide) rfl ?_
  refine e_iload_n d_M_init_387 rfl ?_
  refine e_iconst d_M_init_388 (by decide) ?_
  refine e_icmp_ge (tgt := 406) d_M_init_389 (by decide) (fun q => absurd q (by decide)) (fun _ => ?_)
  refine e_aload_n d_M_init_392 rfl ?_
  refine gf_M_103 d_M_init_393 rfl (zTg (by decide +kernel)) ?_
  refine zGb (v := 84) (by decide +kernel) (by decide) ?_
  refine e_iload_n d_M_init_396 rfl ?_
  refine e_bipush d_M_init_397 (by decide) (by decide) ?_
  refine e_iast d_M_init_399 (zTg (by decide +kernel)) (by decide) (by rw [zTg (v := 4) (by decide +kernel)]; decide) (zLo (by decide)) (fun _ => trivial) (zE (zH_u0 rfl) ?_)
  refine e_iinc (ls' := [(2, ((b : Int) + 54)), (0, 1)]) d_M_init_400 rfl (by decide) (by decide) rfl ?_
  refine e_goto (tgt := 387) d_M_init_403 (by decide) ?_
  refine e_iload_n d_M_init_387 rfl ?_
  refine e_iconst d_M_init_388 (by decide) ?_
  refine e_icmp_ge (tgt := 406) d_M_init_389 (by decide) (fun q => absurd q (by decide)) (fun _ => ?_)
  refine e_aload_n d_M_init_392 rfl ?_
  refine gf_M_103 d_M_init_393 rfl (zTg (by decide +kernel)) ?_
  refine zGb (v := 84) (by decide +kernel) (by decide) ?_
  refine e_iload_n d_M_init_396 rfl ?_
  refine e_bipush d_M_init_397 (by decide) (by decide) ?_
  refine e_iast d_M_init_399 (zTg (by decide +kernel)) (by decide) (by rw [zTg (v := 4) (by decide +kernel)]; decide) (zLo (by decide)) (fun _ => trivial) (zE (zH_u0 rfl) ?_)
  refine e_iinc (ls' := [(2, ((b : Int) + 54)), (0, 2)]) d_M_init_400 rfl (by decide) (by decide) rfl ?_
  refine e_goto (tgt := 387) d_M_init_403 (by decide) ?_
  refine e_iload_n d_M_init_387 rfl ?_
  refine e_iconst d_M_init_388 (by decide) ?_
  refine e_icmp_ge (tgt := 406) d_M_init_389 (by decide) (fun q => absurd q (by decide)) (fun _ => ?_)
  refine e_aload_n d_M_init_392 rfl ?_
  refine gf_M_103 d_M_init_393 rfl (zTg (by decide +kernel)) ?_
  refine zGb (v := 84) (by decide +kernel) (by decide) ?_
  refine e_iload_n d_M_init_396 rfl ?_
  refine e_bipush d_M_init_397 (by decide) (by decide) ?_
  refine e_iast d_M_init_399 (zTg (by decide +kernel)) (by decide) (by rw [zTg (v := 4) (by decide +kernel)]; decide) (zLo (by decide)) (fun _ => trivial) (zE (zH_u0 rfl) ?_)
  refine e_iinc (ls' := [(2, ((b : Int) + 54)), (0, 3)]) d_M_init_400 rfl (by decide) (by decide) rfl ?_
  refine e_goto (tgt := 387) d_M_init_403 (by decide) ?_
  refine e_iload_n d_M_init_387 rfl ?_
  refine e_iconst d_M_init_388 (by decide) ?_
  refine e_icmp_ge (tgt := 406) d_M_init_389 (by decide) (fun q => absurd q (by decide)) (fun _ => ?_)
  refine e_aload_n d_M_init_392 rfl ?_
  refine gf_M_103 d_M_init_393 rfl (zTg (by decide +kernel)) ?_
  refine zGb (v := 84) (by decide +kernel) (by decide) ?_
  refine e_iload_n d_M_init_396 rfl ?_
  refine e_bipush d_M_init_397 (by decide) (by decide) ?_
  refine e_iast d_M_init_399 (zTg (by decide +kernel)) (by decide) (by rw [zTg (v := 4) (by decide +kernel)]; decide) (zLo (by decide)) (fun _ => trivial) (zE (zH_u0 rfl) ?_)
  refine e_iinc (ls' := [(2, ((b : Int) + 54)), (0, 4)]) d_M_init_400 rfl (by decide) (by decide) rfl ?_
  refine e_goto (tgt := 387) d_M_init_403 (by decide) ?_
  refine e_iload_n d_M_init_387 rfl ?_
  refine e_iconst d_M_init_388 (by decide) ?_
  refine e_icmp_ge (tgt := 406) d_M_init_389 (by decide) (fun _ => ?_) (fun q => absurd q (by decide))
  refine e_iconst d_M_init_406 (by decide) ?_
  refine e_istore_n (ls' := [(2, ((b : Int) + 54)), (0, 0)]) d_M_init_407 (by decide) rfl ?_
  refine e_iload_n d_M_init_408 rfl ?_
  refine e_iconst d_M_init_409 (by decide) ?_
  refine e_icmp_ge (tgt := 426) d_M_init_410 (by decide) (fun q => absurd q (by decide)) (fun _ => ?_)
  refine e_aload_n d_M_init_413 rfl ?_
  refine gf_M_63 d_M_init_414 rfl (zTg (by decide +kernel)) ?_
  refine zGb (v := 71) (by decide +kernel) (by decide) ?_
  refine e_iload_n d_M_init_417 rfl ?_
  refine e_iconst d_M_init_418 (by decide) ?_
  refine e_iast d_M_init_419 (zTg (by decide +kernel)) (by decide) (by rw [zTg (v := 3) (by decide +kernel)]; decide) (zLo (by decide)) (fun _ => trivial) (zE (zH_u0 rfl) ?_)
  refine e_iinc (ls' := [(2, ((b : Int) + 54)), (0, 1)]) d_M_init_420 rfl (by decide) (by decide) rfl ?_
  refine e_goto (tgt := 408) d_M_init_423 (by decide) ?_
  refine e_iload_n d_M_init_408 rfl ?_
  refine e_iconst d_M_init_409 (by decide) ?_
  refine e_icmp_ge (tgt := 426) d_M_init_410 (by decide) (fun q => absurd q (by decide)) (fun _ => ?_)
  refine e_aload_n d_M_init_413 rfl ?_
  refine gf_M_63 d_M_init_414 rfl (zTg (by decide +kernel)) ?_
  refine zGb (v := 71) (by decide +kernel) (by decide) ?_
  refine e_iload_n d_M_init_417 rfl ?_
  refine e_iconst d_M_init_418 (by decide) ?_
  refine e_iast d_M_init_419 (zTg (by decide +kernel)) (by decide) (by rw [zTg (v := 3) (by decide +kernel)]; decide) (zLo (by decide)) (fun _ => trivial) (zE (zH_u0 rfl) ?_)
  refine e_iinc (ls' := [(2, ((b : Int) + 54)), (0, 2)]) d_M_init_420 rfl (by decide) (by decide) rfl ?_
  refine e_goto (tgt := 408) d_M_init_423 (by decide) ?_
  refine e_iload_n d_M_init_408 rfl ?_
  refine e_iconst d_M_init_409 (by decide) ?_
  refine e_icmp_ge (tgt := 426) d_M_init_410 (by decide) (fun q => absurd q (by decide)) (fun _ => ?_)
  refine e_aload_n d_M_init_413 rfl ?_
  refine gf_M_63 d_M_init_414 rfl (zTg (by decide +kernel)) ?_
  refine zGb (v := 71) (by decide +kernel) (by decide) ?_
  refine e_iload_n d_M_init_417 rfl ?_
  refine e_iconst d_M_init_418 (by decide) ?_
  refine e_iast d_M_init_419 (zTg (by decide +kernel)) (by decide) (by rw [zTg (v := 3) (by decide +kernel)]; decide) (zLo (by decide)) (fun _ => trivial) (zE (zH_u0 rfl) ?_)
  refine e_iinc (ls' := [(2, ((b : Int) + 54)), (0, 3)]) d_M_init_420 rfl (by decide) (by decide) rfl ?_
  refine e_goto (tgt := 408) d_M_init_423 (by decide) ?_
  refine e_iload_n d_M_init_408 rfl ?_
  refine e_iconst d_M_init_409 (by decide) ?_
  refine e_icmp_ge (tgt := 426) d_M_init_410 (by decide) (fun _ => ?_) (fun q => absurd q (by decide))
  exact e_vret d_M_init_426 rfl rfl
set_option maxRecDepth 20000 in
set_option maxHeartbeats 4000000 in
theorem k0_law {e : gE} {b : Nat} {Z : Int → gH → Prop} (k : EV e.1 (gX0 e b) m_L_law Z 599901 7250127 18 [(2, ((gn (gX0 e b) 18 : Int) + 1)), (2, ((b : Int) + 1)), (2, ((b : Int) + 54)), (0, 0)] [] (zH b ((gn (gX0 e b) 10 : Int) + 1) zo57)) : EV e.1 (gX0 e b) m_L_law Z 600000 7302250 0 [(2, ((gn (gX0 e b) 18 : Int) + 1)), (9, 0), (9, 0), (9, 0)] [] (zH b ((gn (gX0 e b) 10 : Int) + 1) []) := by
  refine e_new (kc' := 599999) (ks' := 7302239) 11 d_L_law_0 (q_C _) w_27 w_28 w_1 (by decide +kernel) (by decide +kernel) (fun _ => trivial) (zNc (p := 1) (by decide +kernel) ?_)
  refine e_dup d_L_law_3 (by simp) ?_
  refine e_callI m_C_init lw_good d_L_law_4 (k_C_init _) ⟨Nat.le_of_ble_eq_true rfl, Nat.le_of_ble_eq_true rfl⟩ w_29 w_30 rfl rfl (by omega) (args := []) rfl rfl (Nat.le_of_ble_eq_true rfl) (kc' := 599947) (ks' := 7299711) (mc := 52) (ms := 2528) (by decide +kernel) (by decide +kernel) k0_C_init_1 ?_
  rintro _ _ rfl
  refine e_astore_n (ls' := [(2, ((gn (gX0 e b) 18 : Int) + 1)), (2, ((b : Int) + 1)), (9, 0), (9, 0)]) d_L_law_7 (by decide) rfl ?_
  refine e_new (kc' := 599946) (ks' := 7299653) 12 d_L_law_8 (q_M _) w_1381 w_1382 w_13 (by decide +kernel) (by decide +kernel) (fun _ => trivial) (zNc (p := 54) (by decide +kernel) ?_)
  refine e_dup d_L_law_11 (by simp) ?_
  refine e_callI m_M_init lw_good d_L_law_12 (k_M_init _) ⟨Nat.le_of_ble_eq_true rfl, Nat.le_of_ble_eq_true rfl⟩ w_1383 w_1384 rfl rfl (by omega) (args := []) rfl rfl (Nat.le_of_ble_eq_true rfl) (kc' := 599901) (ks' := 7250127) (mc := 45) (ms := 49526) (by decide +kernel) (by decide +kernel) k0_M_init_1 ?_
  rintro _ _ rfl
  refine e_astore_n (ls' := [(2, ((gn (gX0 e b) 18 : Int) + 1)), (2, ((b : Int) + 1)), (2, ((b : Int) + 54)), (9, 0)]) d_L_law_15 (by decide) rfl ?_
  refine e_iconst d_L_law_16 (by decide) ?_
  refine e_istore_n (ls' := [(2, ((gn (gX0 e b) 18 : Int) + 1)), (2, ((b : Int) + 1)), (2, ((b : Int) + 54)), (0, 0)]) d_L_law_17 (by decide) rfl ?_
  exact k
