/-! SMALL ROWS for the printed decompilation -/
def gwk : List gV → List gV → Prop
  | [], _ => True
  | x :: r, y :: t => (x = (9, 0) ∨ x = y) ∧ gwk r t
  | _ :: _, [] => False
theorem gwk_get : ∀ {r t : List gV}, gwk r t → ∀ (i : Nat) (x : gV), r[i]? = some x → x.1 ≠ 9 → t[i]? = some x
  | [], _, _, i, x, h, _ => by simp at h
  | a :: r, [], h, _, _, _, _ => h.elim
  | a :: r, c :: t, h, 0, x, hx, h9 => by
    cases hx
    rcases h.1 with h1 | h1
    · rw [h1] at h9; exact absurd rfl h9
    · rw [h1]; rfl
  | a :: r, c :: t, h, i + 1, x, hx, h9 => gwk_get h.2 i x hx h9
/-- fewer locals are known -/
theorem e_forget {l : Launch} {B : gB} {M : gM} {Z : Int → gH → Prop} {kc ks pc : Nat} {ls ls' st : List gV} {G : gH} (hw : gwk ls' ls) (h : EV l B M Z kc ks pc ls' st G) : EV l B M Z kc ks pc ls st G :=
  fun p e R s m args below meth c H locs cells slots lsr hX h1 h2 hC hL hS hO => h p e R s m args below meth c H locs cells slots lsr hX h1 h2 hC hL ⟨hS.1, hS.2.1, fun i x hi h9 => hS.2.2 i x (gwk_get hw i x hi h9) h9⟩ hO
theorem gb0 {c : Prop} [Decidable c] : (if c then (1 : Int) else 0) = 0 ↔ ¬ c := by by_cases h : c <;> simp [h]
theorem gb1 {c : Prop} [Decidable c] : (if c then (1 : Int) else 0) ≠ 0 ↔ c := by by_cases h : c <;> simp [h]
theorem gb01 (c : Prop) [Decidable c] : (if c then (1 : Int) else 0) = 0 ∨ (if c then (1 : Int) else 0) = 1 := by by_cases h : c <;> simp [h]
theorem gt11_in (j : Int) : inL (gt11 j) := by unfold gt11; (repeat' split) <;> decide
theorem gt12_in (j : Int) : inI (gt12 j) := by unfold gt12; (repeat' split) <;> decide
theorem gt13_in (j : Int) : inI (gt13 j) := by unfold gt13; (repeat' split) <;> decide
theorem gt15_in (j : Int) : inI (gt15 j) := by unfold gt15; (repeat' split) <;> decide
theorem gchr {x : Int} (h : 0 ≤ x ∧ x < 256) : narrow .char (.int (Int32.ofInt x)) = .int (Int32.ofInt x) := by
  have e : Int32.ofInt x = nI x.toNat := by
    show _ = Int32.ofInt (x.toNat : Int)
    congr 1; omega
  rw [e]
  exact (pk_charN (by omega)).1
theorem e_i2c {l : Launch} {B : gB} {M : gM} {Z : Int → gH → Prop} {kc ks pc : Nat} {ls rest : List gV} {G : gH} {x : Int} (hd : decode (gcc M) pc = .ok (.i2c, 1)) (hx : 0 ≤ x ∧ x < 256) (k : EV l B M Z kc ks (pc + 1) ls ((0, x) :: rest) G) : EV l B M Z kc ks pc ls ((0, x) :: rest) G := by
  intro p e R s m args below meth c H locs cells slots lsr hX h1 h2 hC hL hS hO
  refine lv_i2c hX.1 hX.2.1 hd ?_ (k p e R s m args below meth c H locs cells slots lsr hX h1 h2 hC hL hS hO)
  have e : Int32.ofInt x = nI x.toNat := by
    show _ = Int32.ofInt (x.toNat : Int)
    congr 1; omega
  rw [e, pk_char]
  congr 1
  rw [pk_tn (by omega)]
  omega
theorem pureK {l : Launch} {B : gB} {M : gM} {Z : Int → gH → Prop} {kc ks pc : Nat} {ls rest : List gV} {G : gH} {rt : Option FieldType} {val : Int} (k : EV l B M Z kc ks pc ls (gpush rt val rest) G) : ∀ (v : Int) (G' : gH), (v = val ∧ G' = G) → EV l B M Z kc ks pc ls (gpush rt v rest) G' := by
  rintro _ _ ⟨rfl, rfl⟩
  exact k
