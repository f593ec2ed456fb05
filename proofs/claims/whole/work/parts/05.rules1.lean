/-! THE RULES, 1: locals, operands, branches (printed by wip/tools/rules1.py) -/
def w32 (x : Int) : Int := (x + 2147483648) % 4294967296 - 2147483648
def w16 (x : Int) : Int := (x + 32768) % 65536 - 32768
def w8 (x : Int) : Int := (x + 128) % 256 - 128
def gand (x y : Int) : Int := (Int32.ofInt x &&& Int32.ofInt y).toInt
def gor (x y : Int) : Int := (Int32.ofInt x ||| Int32.ofInt y).toInt
def gxor (x y : Int) : Int := (Int32.ofInt x ^^^ Int32.ofInt y).toInt
def gshl (x y : Int) : Int := (Int32.ofInt x <<< (Int32.ofInt y &&& 31)).toInt
def gshr (x y : Int) : Int := (Int32.ofInt x >>> (Int32.ofInt y &&& 31)).toInt
def gushr (x y : Int) : Int := (((Int32.ofInt x).toUInt32 >>> ((Int32.ofInt y).toUInt32 &&& Int32.toUInt32 31)).toInt32).toInt
def gland (x y : Int) : Int := (Int64.ofInt x &&& Int64.ofInt y).toInt
def glor (x y : Int) : Int := (Int64.ofInt x ||| Int64.ofInt y).toInt
def glshl (x y : Int) : Int := (Int64.ofInt x <<< ((Int32.ofInt y).toInt64 &&& 63)).toInt
def glshr (x y : Int) : Int := (Int64.ofInt x >>> ((Int32.ofInt y).toInt64 &&& 63)).toInt
theorem w32_in (x : Int) : inI (w32 x) := by unfold w32; constructor <;> omega
theorem w32_id {x : Int} (h : inI x) : w32 x = x := by obtain ⟨h1, h2⟩ := h; unfold w32; omega
theorem w32_of (x : Int) : (Int32.ofInt x).toInt = w32 x := by
  rw [Int32.toInt_ofInt, w32, Int.bmod]
  simp only [Int32.size]
  split <;> omega
theorem ofI_eq {x y : Int} (hx : inI x) (h : (Int32.ofInt y).toInt = x) : Int32.ofInt y = Int32.ofInt x := by rw [← Int32.toInt_inj, h, tiI hx]
theorem fromI {x : Int} {y : Int32} (h : y.toInt = x) : y = Int32.ofInt x := by rw [← h, ofI]
theorem fromL {x : Int} {y : Int64} (h : y.toInt = x) : y = Int64.ofInt x := by rw [← h, ofL]
theorem addI (x y : Int) : Int32.ofInt x + Int32.ofInt y = Int32.ofInt (x + y) := (Int32.ofInt_add x y).symm
theorem subI (x y : Int) : Int32.ofInt x - Int32.ofInt y = Int32.ofInt (x - y) := (Int32.ofInt_sub x y).symm
theorem mulI (x y : Int) : Int32.ofInt x * Int32.ofInt y = Int32.ofInt (x * y) := (Int32.ofInt_mul x y).symm
theorem negI (x : Int) : -Int32.ofInt x = Int32.ofInt (-x) := (Int32.ofInt_neg x).symm
theorem addL (x y : Int) : Int64.ofInt x + Int64.ofInt y = Int64.ofInt (x + y) := (Int64.ofInt_add x y).symm
theorem subL (x y : Int) : Int64.ofInt x - Int64.ofInt y = Int64.ofInt (x - y) := (Int64.ofInt_sub x y).symm
theorem negL (x : Int) : -Int64.ofInt x = Int64.ofInt (-x) := (Int64.ofInt_neg x).symm
theorem divI {x y : Int} (hx : 0 ≤ x) (hx2 : inI x) (hy : 0 < y) (hy2 : inI y) : Int32.ofInt x / Int32.ofInt y = Int32.ofInt (x / y) := by
  apply fromI
  rw [Int32.toInt_div, tiI hx2, tiI hy2, Int.tdiv_eq_ediv_of_nonneg hx]
  have h1 : 0 ≤ x / y := Int.ediv_nonneg hx (by omega)
  have h2 : x / y ≤ x := Int.ediv_le_self y hx
  obtain ⟨h3, h4⟩ := hx2
  rw [Int.bmod_eq_of_le] <;> omega
theorem remI {x y : Int} (hx : 0 ≤ x) (hx2 : inI x) (hy : 0 < y) (hy2 : inI y) : Int32.ofInt x - Int32.ofInt x / Int32.ofInt y * Int32.ofInt y = Int32.ofInt (x % y) := by
  rw [divI hx hx2 hy hy2, mulI, subI]
  congr 1
  rw [Int.emod_def, Int.mul_comm]
theorem div_in {x y : Int} (hx : 0 ≤ x) (hx2 : inI x) (hy : 0 < y) : inI (x / y) := by
  have h1 : 0 ≤ x / y := Int.ediv_nonneg hx (by omega)
  have h2 : x / y ≤ x := Int.ediv_le_self y hx
  obtain ⟨h3, h4⟩ := hx2
  constructor <;> omega
theorem rem_in {x y : Int} (hy : 0 < y) (hy2 : inI y) : inI (x % y) := by
  have h1 : 0 ≤ x % y := Int.emod_nonneg x (by omega)
  have h2 : x % y < y := Int.emod_lt_of_pos x hy
  obtain ⟨h3, h4⟩ := hy2
  constructor <;> omega
theorem i2lE {x : Int} (h : inI x) : (Int32.ofInt x).toInt64 = Int64.ofInt x := by
  apply fromL
  rw [Int32.toInt_toInt64, tiI h]
theorem l2iE {x : Int} (h : inL x) : (Int64.ofInt x).toInt32 = Int32.ofInt (w32 x) := by
  apply fromI
  rw [Int64.toInt_toInt32, tiL h, w32, Int.bmod]
  split <;> omega
theorem i2bE {x : Int} (h : inI x) : (Int32.ofInt x).toInt8.toInt32 = Int32.ofInt (w8 x) := by
  apply fromI
  rw [Int8.toInt_toInt32, Int32.toInt_toInt8, tiI h, w8, Int.bmod]
  split <;> omega
theorem i2sE {x : Int} (h : inI x) : (Int32.ofInt x).toInt16.toInt32 = Int32.ofInt (w16 x) := by
  apply fromI
  rw [Int16.toInt_toInt32, Int32.toInt_toInt16, tiI h, w16, Int.bmod]
  split <;> omega
theorem w8_in (x : Int) : inI (w8 x) := by unfold w8; constructor <;> omega
theorem w16_in (x : Int) : inI (w16 x) := by unfold w16; constructor <;> omega
section R1
variable {l : Launch} {B : gB} {M : gM} {Z : Int → gH → Prop} {kc ks pc : Nat} {ls rest : List gV} {G : gH}

theorem e_iconst {n : Int} (hd : decode (gcc M) pc = .ok (.iconst n, 1)) (hn : inI n) (k : EV l B M Z kc ks (pc + 1) ls ((0, n) :: rest) G) : EV l B M Z kc ks pc ls (rest) G := by
  intro p e R s m args below meth c H locs cells slots lsr hX h1 h2 hC hL hS hO
  have hK := k p e R s m args below meth c H locs cells slots lsr hX h1 h2 hC hL hS (List.forall_mem_cons.mpr ⟨okV_i.mpr hn, hO⟩)
  refine lv_iconst hX.1 hX.2.1 hd rfl ?_
  exact hK

theorem e_bipush {n : Int} (hd : decode (gcc M) pc = .ok (.bipush n, 2)) (hn : inI n) (hv : (Int8.ofInt n).toInt32 = Int32.ofInt n) (k : EV l B M Z kc ks (pc + 2) ls ((0, n) :: rest) G) : EV l B M Z kc ks pc ls (rest) G := by
  intro p e R s m args below meth c H locs cells slots lsr hX h1 h2 hC hL hS hO
  have hK := k p e R s m args below meth c H locs cells slots lsr hX h1 h2 hC hL hS (List.forall_mem_cons.mpr ⟨okV_i.mpr hn, hO⟩)
  refine lv_bipush hX.1 hX.2.1 hd hv ?_
  exact hK

theorem e_sipush {n : Int} (hd : decode (gcc M) pc = .ok (.sipush n, 3)) (hn : inI n) (hv : (Int16.ofInt n).toInt32 = Int32.ofInt n) (k : EV l B M Z kc ks (pc + 3) ls ((0, n) :: rest) G) : EV l B M Z kc ks pc ls (rest) G := by
  intro p e R s m args below meth c H locs cells slots lsr hX h1 h2 hC hL hS hO
  have hK := k p e R s m args below meth c H locs cells slots lsr hX h1 h2 hC hL hS (List.forall_mem_cons.mpr ⟨okV_i.mpr hn, hO⟩)
  refine lv_sipush hX.1 hX.2.1 hd hv ?_
  exact hK

theorem e_lconst {n : Fin 2} (v : Int) (hd : decode (gcc M) pc = .ok (.lconst n, 1)) (hn : inL v) (hv : Int64.ofNat (n : Nat) = Int64.ofInt v) (k : EV l B M Z kc ks (pc + 1) ls ((1, v) :: rest) G) : EV l B M Z kc ks pc ls (rest) G := by
  intro p e R s m args below meth c H locs cells slots lsr hX h1 h2 hC hL hS hO
  have hK := k p e R s m args below meth c H locs cells slots lsr hX h1 h2 hC hL hS (List.forall_mem_cons.mpr ⟨okV_l.mpr hn, hO⟩)
  refine lv_lconst hX.1 hX.2.1 hd hv ?_
  exact hK

theorem e_null  (hd : decode (gcc M) pc = .ok (.aconst_null, 1))  (k : EV l B M Z kc ks (pc + 1) ls ((2, 0) :: rest) G) : EV l B M Z kc ks pc ls (rest) G := by
  intro p e R s m args below meth c H locs cells slots lsr hX h1 h2 hC hL hS hO
  have hK := k p e R s m args below meth c H locs cells slots lsr hX h1 h2 hC hL hS (List.forall_mem_cons.mpr ⟨okV_r.mpr (Int.le_refl 0), hO⟩)
  refine lv_null hX.1 hX.2.1 hd ?_
  exact hK

theorem e_ldc {i : Nat} (v : Int) (hd : decode (gcc M) pc = .ok (.ldc i, 2)) (hn : inI v) (hw : Cond.constant (gy M).cls i (Int32.ofInt v) ∈ gws B) (k : EV l B M Z kc ks (pc + 2) ls ((0, v) :: rest) G) : EV l B M Z kc ks pc ls (rest) G := by
  intro p e R s m args below meth c H locs cells slots lsr hX h1 h2 hC hL hS hO
  have hK := k p e R s m args below meth c H locs cells slots lsr hX h1 h2 hC hL hS (List.forall_mem_cons.mpr ⟨okV_i.mpr hn, hO⟩)
  refine lv_ldc hX.1 hX.2.1 hX.2.2.2.2.1 (hX.2.2.2.2.2.1 _ hw) hd ?_
  exact hK

theorem e_ldcw {i : Nat} (v : Int) (hd : decode (gcc M) pc = .ok (.ldc_w i, 3)) (hn : inI v) (hw : Cond.constant (gy M).cls i (Int32.ofInt v) ∈ gws B) (k : EV l B M Z kc ks (pc + 3) ls ((0, v) :: rest) G) : EV l B M Z kc ks pc ls (rest) G := by
  intro p e R s m args below meth c H locs cells slots lsr hX h1 h2 hC hL hS hO
  have hK := k p e R s m args below meth c H locs cells slots lsr hX h1 h2 hC hL hS (List.forall_mem_cons.mpr ⟨okV_i.mpr hn, hO⟩)
  refine lv_ldcw hX.1 hX.2.1 hX.2.2.2.2.1 (hX.2.2.2.2.2.1 _ hw) hd ?_
  exact hK

theorem e_ldc2 {i : Nat} (v : Int) (hd : decode (gcc M) pc = .ok (.ldc2_w i, 3)) (hn : inL v) (hw : Cond.constantLong (gy M).cls i (Int64.ofInt v) ∈ gws B) (k : EV l B M Z kc ks (pc + 3) ls ((1, v) :: rest) G) : EV l B M Z kc ks pc ls (rest) G := by
  intro p e R s m args below meth c H locs cells slots lsr hX h1 h2 hC hL hS hO
  have hK := k p e R s m args below meth c H locs cells slots lsr hX h1 h2 hC hL hS (List.forall_mem_cons.mpr ⟨okV_l.mpr hn, hO⟩)
  refine lv_ldc2 hX.1 hX.2.1 hX.2.2.2.2.1 (hX.2.2.2.2.2.1 _ hw) hd ?_
  exact hK

theorem e_iload_n {n : Fin 4} {x : Int} (hd : decode (gcc M) pc = .ok (.iload_n n, 1)) (hl : ls[(n : Nat)]? = some (0, x)) (k : EV l B M Z kc ks (pc + 1) ls ((0, x) :: rest) G) : EV l B M Z kc ks pc ls (rest) G := by
  intro p e R s m args below meth c H locs cells slots lsr hX h1 h2 hC hL hS hO
  have hK := k p e R s m args below meth c H locs cells slots lsr hX h1 h2 hC hL hS (List.forall_mem_cons.mpr ⟨gLS_cat hS hl (by simp), hO⟩)
  refine lv_iload_n hX.1 hX.2.1 hd rfl (gLS_get hS hl (by simp)) ?_
  exact hK

theorem e_iload {n : Nat} {x : Int} (hd : decode (gcc M) pc = .ok (.iload n, 2)) (hl : ls[n]? = some (0, x)) (k : EV l B M Z kc ks (pc + 2) ls ((0, x) :: rest) G) : EV l B M Z kc ks pc ls (rest) G := by
  intro p e R s m args below meth c H locs cells slots lsr hX h1 h2 hC hL hS hO
  have hK := k p e R s m args below meth c H locs cells slots lsr hX h1 h2 hC hL hS (List.forall_mem_cons.mpr ⟨gLS_cat hS hl (by simp), hO⟩)
  refine lv_iload hX.1 hX.2.1 hd (gLS_get hS hl (by simp)) ?_
  exact hK

theorem e_lload_n {n : Fin 4} {x : Int} (hd : decode (gcc M) pc = .ok (.lload_n n, 1)) (hl : ls[(n : Nat)]? = some (1, x)) (k : EV l B M Z kc ks (pc + 1) ls ((1, x) :: rest) G) : EV l B M Z kc ks pc ls (rest) G := by
  intro p e R s m args below meth c H locs cells slots lsr hX h1 h2 hC hL hS hO
  have hK := k p e R s m args below meth c H locs cells slots lsr hX h1 h2 hC hL hS (List.forall_mem_cons.mpr ⟨gLS_cat hS hl (by simp), hO⟩)
  refine lv_lload_n hX.1 hX.2.1 hd rfl (gLS_get hS hl (by simp)) ?_
  exact hK

theorem e_lload {n : Nat} {x : Int} (hd : decode (gcc M) pc = .ok (.lload n, 2)) (hl : ls[n]? = some (1, x)) (k : EV l B M Z kc ks (pc + 2) ls ((1, x) :: rest) G) : EV l B M Z kc ks pc ls (rest) G := by
  intro p e R s m args below meth c H locs cells slots lsr hX h1 h2 hC hL hS hO
  have hK := k p e R s m args below meth c H locs cells slots lsr hX h1 h2 hC hL hS (List.forall_mem_cons.mpr ⟨gLS_cat hS hl (by simp), hO⟩)
  refine lv_lload hX.1 hX.2.1 hd (gLS_get hS hl (by simp)) ?_
  exact hK

theorem e_aload_n {n : Fin 4} {x : Int} (hd : decode (gcc M) pc = .ok (.aload_n n, 1)) (hl : ls[(n : Nat)]? = some (2, x)) (k : EV l B M Z kc ks (pc + 1) ls ((2, x) :: rest) G) : EV l B M Z kc ks pc ls (rest) G := by
  intro p e R s m args below meth c H locs cells slots lsr hX h1 h2 hC hL hS hO
  have hK := k p e R s m args below meth c H locs cells slots lsr hX h1 h2 hC hL hS (List.forall_mem_cons.mpr ⟨gLS_cat hS hl (by simp), hO⟩)
  have hg := gLS_get hS hl (by simp)
  by_cases h0 : x = 0
  · subst h0
    exact lv_aload_nN hX.1 hX.2.1 hd rfl hg hK
  · rw [cV_r h0] at hg
    refine lv_aload_n hX.1 hX.2.1 hd rfl hg ?_
    have e0 : Value.ref (x.toNat - 1) :: rest.map cV = ((2, x) :: rest).map cV := by rw [List.map_cons, cV_r h0]
    rw [e0]
    exact hK

theorem e_aload {n : Nat} {x : Int} (hd : decode (gcc M) pc = .ok (.aload n, 2)) (hl : ls[n]? = some (2, x)) (k : EV l B M Z kc ks (pc + 2) ls ((2, x) :: rest) G) : EV l B M Z kc ks pc ls (rest) G := by
  intro p e R s m args below meth c H locs cells slots lsr hX h1 h2 hC hL hS hO
  have hK := k p e R s m args below meth c H locs cells slots lsr hX h1 h2 hC hL hS (List.forall_mem_cons.mpr ⟨gLS_cat hS hl (by simp), hO⟩)
  have hg := gLS_get hS hl (by simp)
  by_cases h0 : x = 0
  · subst h0
    exact lv_aloadN hX.1 hX.2.1 hd hg hK
  · rw [cV_r h0] at hg
    refine lv_aload hX.1 hX.2.1 hd hg ?_
    have e0 : Value.ref (x.toNat - 1) :: rest.map cV = ((2, x) :: rest).map cV := by rw [List.map_cons, cV_r h0]
    rw [e0]
    exact hK

theorem e_istore_n {n : Fin 4} {x : Int} {ls' : List gV} (hd : decode (gcc M) pc = .ok (.istore_n n, 1)) (hn : (n : Nat) < gnL M) (hq : gset1 ls (n : Nat) (0, x) = ls') (k : EV l B M Z kc ks (pc + 1) ls' (rest) G) : EV l B M Z kc ks pc ls ((0, x) :: rest) G := by
  intro p e R s m args below meth c H locs cells slots lsr hX h1 h2 hC hL hS hO
  refine lv_istore_n hX.1 hX.2.1 hd rfl (gLS_has hS) hn rfl fun ls' hl' => ?_
  exact k p e R s m args below meth c H locs cells slots ls' hX h1 h2 hC hL (hq ▸ gLS_set1 hS (List.forall_mem_cons.mp hO).1 hl') (List.forall_mem_cons.mp hO).2

theorem e_istore {n : Nat} {x : Int} {ls' : List gV} (hd : decode (gcc M) pc = .ok (.istore n, 2)) (hn : n < gnL M) (hq : gset1 ls n (0, x) = ls') (k : EV l B M Z kc ks (pc + 2) ls' (rest) G) : EV l B M Z kc ks pc ls ((0, x) :: rest) G := by
  intro p e R s m args below meth c H locs cells slots lsr hX h1 h2 hC hL hS hO
  refine lv_istore hX.1 hX.2.1 hd (gLS_has hS) hn rfl fun ls' hl' => ?_
  exact k p e R s m args below meth c H locs cells slots ls' hX h1 h2 hC hL (hq ▸ gLS_set1 hS (List.forall_mem_cons.mp hO).1 hl') (List.forall_mem_cons.mp hO).2

theorem e_lstore_n {n : Fin 4} {x : Int} {ls' : List gV} (hd : decode (gcc M) pc = .ok (.lstore_n n, 1)) (hn : (n : Nat) + 1 < gnL M) (hq : gset2 ls (n : Nat) (1, x) = ls') (k : EV l B M Z kc ks (pc + 1) ls' (rest) G) : EV l B M Z kc ks pc ls ((1, x) :: rest) G := by
  intro p e R s m args below meth c H locs cells slots lsr hX h1 h2 hC hL hS hO
  refine lv_lstore_n hX.1 hX.2.1 hd rfl (gLS_has hS) hn rfl fun ls' hl' => ?_
  exact k p e R s m args below meth c H locs cells slots ls' hX h1 h2 hC hL (hq ▸ gLS_set2 hS (List.forall_mem_cons.mp hO).1 hl') (List.forall_mem_cons.mp hO).2

theorem e_lstore {n : Nat} {x : Int} {ls' : List gV} (hd : decode (gcc M) pc = .ok (.lstore n, 2)) (hn : n + 1 < gnL M) (hq : gset2 ls n (1, x) = ls') (k : EV l B M Z kc ks (pc + 2) ls' (rest) G) : EV l B M Z kc ks pc ls ((1, x) :: rest) G := by
  intro p e R s m args below meth c H locs cells slots lsr hX h1 h2 hC hL hS hO
  refine lv_lstore hX.1 hX.2.1 hd (gLS_has hS) hn rfl fun ls' hl' => ?_
  exact k p e R s m args below meth c H locs cells slots ls' hX h1 h2 hC hL (hq ▸ gLS_set2 hS (List.forall_mem_cons.mp hO).1 hl') (List.forall_mem_cons.mp hO).2

theorem e_astore_n {n : Fin 4} {x : Int} {ls' : List gV} (hd : decode (gcc M) pc = .ok (.astore_n n, 1)) (hn : (n : Nat) < gnL M) (hq : gset1 ls (n : Nat) (2, x) = ls') (k : EV l B M Z kc ks (pc + 1) ls' (rest) G) : EV l B M Z kc ks pc ls ((2, x) :: rest) G := by
  intro p e R s m args below meth c H locs cells slots lsr hX h1 h2 hC hL hS hO
  by_cases h0 : x = 0
  · subst h0
    refine lv_astore_nN hX.1 hX.2.1 hd rfl (gLS_has hS) hn rfl fun ls' hl' => ?_
    exact k p e R s m args below meth c H locs cells slots ls' hX h1 h2 hC hL (hq ▸ gLS_set1 (x := (2, 0)) hS (List.forall_mem_cons.mp hO).1 hl') (List.forall_mem_cons.mp hO).2
  · have e0 : ((2, x) :: rest).map cV = Value.ref (x.toNat - 1) :: rest.map cV := by rw [List.map_cons, cV_r h0]
    rw [e0]
    refine lv_astore_n hX.1 hX.2.1 hd rfl (gLS_has hS) hn rfl fun ls' hl' => ?_
    exact k p e R s m args below meth c H locs cells slots ls' hX h1 h2 hC hL (hq ▸ gLS_set1 (x := (2, x)) hS (List.forall_mem_cons.mp hO).1 (by rw [cV_r h0]; exact hl')) (List.forall_mem_cons.mp hO).2

theorem e_astore {n : Nat} {x : Int} {ls' : List gV} (hd : decode (gcc M) pc = .ok (.astore n, 2)) (hn : n < gnL M) (hq : gset1 ls n (2, x) = ls') (k : EV l B M Z kc ks (pc + 2) ls' (rest) G) : EV l B M Z kc ks pc ls ((2, x) :: rest) G := by
  intro p e R s m args below meth c H locs cells slots lsr hX h1 h2 hC hL hS hO
  by_cases h0 : x = 0
  · subst h0
    refine lv_astoreN hX.1 hX.2.1 hd (gLS_has hS) hn rfl fun ls' hl' => ?_
    exact k p e R s m args below meth c H locs cells slots ls' hX h1 h2 hC hL (hq ▸ gLS_set1 (x := (2, 0)) hS (List.forall_mem_cons.mp hO).1 hl') (List.forall_mem_cons.mp hO).2
  · have e0 : ((2, x) :: rest).map cV = Value.ref (x.toNat - 1) :: rest.map cV := by rw [List.map_cons, cV_r h0]
    rw [e0]
    refine lv_astore hX.1 hX.2.1 hd (gLS_has hS) hn rfl fun ls' hl' => ?_
    exact k p e R s m args below meth c H locs cells slots ls' hX h1 h2 hC hL (hq ▸ gLS_set1 (x := (2, x)) hS (List.forall_mem_cons.mp hO).1 (by rw [cV_r h0]; exact hl')) (List.forall_mem_cons.mp hO).2

theorem e_iinc {n : Nat} {x d : Int} {ls' : List gV} (hd : decode (gcc M) pc = .ok (.iinc n d, 3)) (hl : ls[n]? = some (0, x)) (hn : n < gnL M) (hr : inI (x + d)) (hq : gset1 ls n (0, x + d) = ls') (k : EV l B M Z kc ks (pc + 3) ls' (rest) G) : EV l B M Z kc ks pc ls (rest) G := by
  intro p e R s m args below meth c H locs cells slots lsr hX h1 h2 hC hL hS hO
  obtain ⟨i0, hi0⟩ := List.getElem?_of_mem (gtoL_mem hl (by simp))
  refine lv_iinc hX.1 hX.2.1 hd (gLS_has hS) hi0 (addI x d) hn rfl fun ls' hl' => ?_
  exact k p e R s m args below meth c H locs cells slots ls' hX h1 h2 hC hL (hq ▸ gLS_set1 (x := (0, x + d)) hS (okV_i.mpr hr) hl') hO

theorem e_iadd {x y : Int} (hd : decode (gcc M) pc = .ok (.iadd, 1)) (hr : inI (x + y)) (k : EV l B M Z kc ks (pc + 1) ls ((0, x + y) :: rest) G) : EV l B M Z kc ks pc ls ((0, y) :: (0, x) :: rest) G := by
  intro p e R s m args below meth c H locs cells slots lsr hX h1 h2 hC hL hS hO
  have hK := k p e R s m args below meth c H locs cells slots lsr hX h1 h2 hC hL hS (List.forall_mem_cons.mpr ⟨okV_i.mpr hr, (List.forall_mem_cons.mp (List.forall_mem_cons.mp hO).2).2⟩)
  refine lv_iadd hX.1 hX.2.1 hd ?_
  rw [addI]
  exact hK

theorem e_iaddW {x y : Int} (hd : decode (gcc M) pc = .ok (.iadd, 1))  (k : EV l B M Z kc ks (pc + 1) ls ((0, w32 (x + y)) :: rest) G) : EV l B M Z kc ks pc ls ((0, y) :: (0, x) :: rest) G := by
  intro p e R s m args below meth c H locs cells slots lsr hX h1 h2 hC hL hS hO
  have hK := k p e R s m args below meth c H locs cells slots lsr hX h1 h2 hC hL hS (List.forall_mem_cons.mpr ⟨okV_i.mpr (w32_in _), (List.forall_mem_cons.mp (List.forall_mem_cons.mp hO).2).2⟩)
  refine lv_iadd hX.1 hX.2.1 hd ?_
  rw [addI, ofI_eq (w32_in _) (w32_of _)]
  exact hK

theorem e_isub {x y : Int} (hd : decode (gcc M) pc = .ok (.isub, 1)) (hr : inI (x - y)) (k : EV l B M Z kc ks (pc + 1) ls ((0, x - y) :: rest) G) : EV l B M Z kc ks pc ls ((0, y) :: (0, x) :: rest) G := by
  intro p e R s m args below meth c H locs cells slots lsr hX h1 h2 hC hL hS hO
  have hK := k p e R s m args below meth c H locs cells slots lsr hX h1 h2 hC hL hS (List.forall_mem_cons.mpr ⟨okV_i.mpr hr, (List.forall_mem_cons.mp (List.forall_mem_cons.mp hO).2).2⟩)
  refine lv_isub hX.1 hX.2.1 hd ?_
  rw [subI]
  exact hK

theorem e_isubW {x y : Int} (hd : decode (gcc M) pc = .ok (.isub, 1))  (k : EV l B M Z kc ks (pc + 1) ls ((0, w32 (x - y)) :: rest) G) : EV l B M Z kc ks pc ls ((0, y) :: (0, x) :: rest) G := by
  intro p e R s m args below meth c H locs cells slots lsr hX h1 h2 hC hL hS hO
  have hK := k p e R s m args below meth c H locs cells slots lsr hX h1 h2 hC hL hS (List.forall_mem_cons.mpr ⟨okV_i.mpr (w32_in _), (List.forall_mem_cons.mp (List.forall_mem_cons.mp hO).2).2⟩)
  refine lv_isub hX.1 hX.2.1 hd ?_
  rw [subI, ofI_eq (w32_in _) (w32_of _)]
  exact hK

theorem e_imul {x y : Int} (hd : decode (gcc M) pc = .ok (.imul, 1)) (hr : inI (x * y)) (k : EV l B M Z kc ks (pc + 1) ls ((0, x * y) :: rest) G) : EV l B M Z kc ks pc ls ((0, y) :: (0, x) :: rest) G := by
  intro p e R s m args below meth c H locs cells slots lsr hX h1 h2 hC hL hS hO
  have hK := k p e R s m args below meth c H locs cells slots lsr hX h1 h2 hC hL hS (List.forall_mem_cons.mpr ⟨okV_i.mpr hr, (List.forall_mem_cons.mp (List.forall_mem_cons.mp hO).2).2⟩)
  refine lv_imul hX.1 hX.2.1 hd ?_
  rw [mulI]
  exact hK

theorem e_imulW {x y : Int} (hd : decode (gcc M) pc = .ok (.imul, 1))  (k : EV l B M Z kc ks (pc + 1) ls ((0, w32 (x * y)) :: rest) G) : EV l B M Z kc ks pc ls ((0, y) :: (0, x) :: rest) G := by
  intro p e R s m args below meth c H locs cells slots lsr hX h1 h2 hC hL hS hO
  have hK := k p e R s m args below meth c H locs cells slots lsr hX h1 h2 hC hL hS (List.forall_mem_cons.mpr ⟨okV_i.mpr (w32_in _), (List.forall_mem_cons.mp (List.forall_mem_cons.mp hO).2).2⟩)
  refine lv_imul hX.1 hX.2.1 hd ?_
  rw [mulI, ofI_eq (w32_in _) (w32_of _)]
  exact hK

theorem e_ineg {x : Int} (hd : decode (gcc M) pc = .ok (.ineg, 1)) (hr : inI (-x)) (k : EV l B M Z kc ks (pc + 1) ls ((0, -x) :: rest) G) : EV l B M Z kc ks pc ls ((0, x) :: rest) G := by
  intro p e R s m args below meth c H locs cells slots lsr hX h1 h2 hC hL hS hO
  have hK := k p e R s m args below meth c H locs cells slots lsr hX h1 h2 hC hL hS (List.forall_mem_cons.mpr ⟨okV_i.mpr hr, (List.forall_mem_cons.mp hO).2⟩)
  refine lv_ineg hX.1 hX.2.1 hd ?_
  rw [negI]
  exact hK

theorem e_ladd {x y : Int} (hd : decode (gcc M) pc = .ok (.ladd, 1)) (hr : inL (x + y)) (k : EV l B M Z kc ks (pc + 1) ls ((1, x + y) :: rest) G) : EV l B M Z kc ks pc ls ((1, y) :: (1, x) :: rest) G := by
  intro p e R s m args below meth c H locs cells slots lsr hX h1 h2 hC hL hS hO
  have hK := k p e R s m args below meth c H locs cells slots lsr hX h1 h2 hC hL hS (List.forall_mem_cons.mpr ⟨okV_l.mpr hr, (List.forall_mem_cons.mp (List.forall_mem_cons.mp hO).2).2⟩)
  refine lv_ladd hX.1 hX.2.1 hd ?_
  rw [addL]
  exact hK

theorem e_lsub {x y : Int} (hd : decode (gcc M) pc = .ok (.lsub, 1)) (hr : inL (x - y)) (k : EV l B M Z kc ks (pc + 1) ls ((1, x - y) :: rest) G) : EV l B M Z kc ks pc ls ((1, y) :: (1, x) :: rest) G := by
  intro p e R s m args below meth c H locs cells slots lsr hX h1 h2 hC hL hS hO
  have hK := k p e R s m args below meth c H locs cells slots lsr hX h1 h2 hC hL hS (List.forall_mem_cons.mpr ⟨okV_l.mpr hr, (List.forall_mem_cons.mp (List.forall_mem_cons.mp hO).2).2⟩)
  refine lv_lsub hX.1 hX.2.1 hd ?_
  rw [subL]
  exact hK

theorem e_lneg {x : Int} (hd : decode (gcc M) pc = .ok (.lneg, 1)) (hr : inL (-x)) (k : EV l B M Z kc ks (pc + 1) ls ((1, -x) :: rest) G) : EV l B M Z kc ks pc ls ((1, x) :: rest) G := by
  intro p e R s m args below meth c H locs cells slots lsr hX h1 h2 hC hL hS hO
  have hK := k p e R s m args below meth c H locs cells slots lsr hX h1 h2 hC hL hS (List.forall_mem_cons.mpr ⟨okV_l.mpr hr, (List.forall_mem_cons.mp hO).2⟩)
  refine lv_lneg hX.1 hX.2.1 hd ?_
  rw [negL]
  exact hK

theorem e_idiv {x y : Int} (hd : decode (gcc M) pc = .ok (.idiv, 1)) (hx : 0 ≤ x) (hy : 0 < y) (k : EV l B M Z kc ks (pc + 1) ls ((0, x / y) :: rest) G) : EV l B M Z kc ks pc ls ((0, y) :: (0, x) :: rest) G := by
  intro p e R s m args below meth c H locs cells slots lsr hX h1 h2 hC hL hS hO
  have hK := k p e R s m args below meth c H locs cells slots lsr hX h1 h2 hC hL hS (List.forall_mem_cons.mpr ⟨okV_i.mpr (div_in hx (okV_i.mp (List.forall_mem_cons.mp (List.forall_mem_cons.mp hO).2).1) hy), (List.forall_mem_cons.mp (List.forall_mem_cons.mp hO).2).2⟩)
  refine lv_idiv hX.1 hX.2.1 hd (fun q => by have := tiI (okV_i.mp (List.forall_mem_cons.mp hO).1); rw [q] at this; simp at this; omega) ?_
  rw [divI hx (okV_i.mp (List.forall_mem_cons.mp (List.forall_mem_cons.mp hO).2).1) hy (okV_i.mp (List.forall_mem_cons.mp hO).1)]
  exact hK

theorem e_irem {x y : Int} (hd : decode (gcc M) pc = .ok (.irem, 1)) (hx : 0 ≤ x) (hy : 0 < y) (k : EV l B M Z kc ks (pc + 1) ls ((0, x % y) :: rest) G) : EV l B M Z kc ks pc ls ((0, y) :: (0, x) :: rest) G := by
  intro p e R s m args below meth c H locs cells slots lsr hX h1 h2 hC hL hS hO
  have hK := k p e R s m args below meth c H locs cells slots lsr hX h1 h2 hC hL hS (List.forall_mem_cons.mpr ⟨okV_i.mpr (rem_in hy (okV_i.mp (List.forall_mem_cons.mp hO).1)), (List.forall_mem_cons.mp (List.forall_mem_cons.mp hO).2).2⟩)
  refine lv_irem hX.1 hX.2.1 hd (fun q => by have := tiI (okV_i.mp (List.forall_mem_cons.mp hO).1); rw [q] at this; simp at this; omega) ?_
  rw [remI hx (okV_i.mp (List.forall_mem_cons.mp (List.forall_mem_cons.mp hO).2).1) hy (okV_i.mp (List.forall_mem_cons.mp hO).1)]
  exact hK

theorem e_iand {x y : Int} (hd : decode (gcc M) pc = .ok (.iand, 1))  (k : EV l B M Z kc ks (pc + 1) ls ((0, gand x y) :: rest) G) : EV l B M Z kc ks pc ls ((0, y) :: (0, x) :: rest) G := by
  intro p e R s m args below meth c H locs cells slots lsr hX h1 h2 hC hL hS hO
  have hK := k p e R s m args below meth c H locs cells slots lsr hX h1 h2 hC hL hS (List.forall_mem_cons.mpr ⟨okV_i.mpr (inI_t _), (List.forall_mem_cons.mp (List.forall_mem_cons.mp hO).2).2⟩)
  refine lv_iand hX.1 hX.2.1 hd ?_
  have e0 := @fromI (gand x y) _ rfl
  rw [e0]
  exact hK

theorem e_ior {x y : Int} (hd : decode (gcc M) pc = .ok (.ior, 1))  (k : EV l B M Z kc ks (pc + 1) ls ((0, gor x y) :: rest) G) : EV l B M Z kc ks pc ls ((0, y) :: (0, x) :: rest) G := by
  intro p e R s m args below meth c H locs cells slots lsr hX h1 h2 hC hL hS hO
  have hK := k p e R s m args below meth c H locs cells slots lsr hX h1 h2 hC hL hS (List.forall_mem_cons.mpr ⟨okV_i.mpr (inI_t _), (List.forall_mem_cons.mp (List.forall_mem_cons.mp hO).2).2⟩)
  refine lv_ior hX.1 hX.2.1 hd ?_
  have e0 := @fromI (gor x y) _ rfl
  rw [e0]
  exact hK

theorem e_ixor {x y : Int} (hd : decode (gcc M) pc = .ok (.ixor, 1))  (k : EV l B M Z kc ks (pc + 1) ls ((0, gxor x y) :: rest) G) : EV l B M Z kc ks pc ls ((0, y) :: (0, x) :: rest) G := by
  intro p e R s m args below meth c H locs cells slots lsr hX h1 h2 hC hL hS hO
  have hK := k p e R s m args below meth c H locs cells slots lsr hX h1 h2 hC hL hS (List.forall_mem_cons.mpr ⟨okV_i.mpr (inI_t _), (List.forall_mem_cons.mp (List.forall_mem_cons.mp hO).2).2⟩)
  refine lv_ixor hX.1 hX.2.1 hd ?_
  have e0 := @fromI (gxor x y) _ rfl
  rw [e0]
  exact hK

theorem e_ishl {x y : Int} (hd : decode (gcc M) pc = .ok (.ishl, 1))  (k : EV l B M Z kc ks (pc + 1) ls ((0, gshl x y) :: rest) G) : EV l B M Z kc ks pc ls ((0, y) :: (0, x) :: rest) G := by
  intro p e R s m args below meth c H locs cells slots lsr hX h1 h2 hC hL hS hO
  have hK := k p e R s m args below meth c H locs cells slots lsr hX h1 h2 hC hL hS (List.forall_mem_cons.mpr ⟨okV_i.mpr (inI_t _), (List.forall_mem_cons.mp (List.forall_mem_cons.mp hO).2).2⟩)
  refine lv_ishl hX.1 hX.2.1 hd ?_
  have e0 := @fromI (gshl x y) _ rfl
  rw [e0]
  exact hK

theorem e_ishr {x y : Int} (hd : decode (gcc M) pc = .ok (.ishr, 1))  (k : EV l B M Z kc ks (pc + 1) ls ((0, gshr x y) :: rest) G) : EV l B M Z kc ks pc ls ((0, y) :: (0, x) :: rest) G := by
  intro p e R s m args below meth c H locs cells slots lsr hX h1 h2 hC hL hS hO
  have hK := k p e R s m args below meth c H locs cells slots lsr hX h1 h2 hC hL hS (List.forall_mem_cons.mpr ⟨okV_i.mpr (inI_t _), (List.forall_mem_cons.mp (List.forall_mem_cons.mp hO).2).2⟩)
  refine lv_ishr hX.1 hX.2.1 hd ?_
  have e0 := @fromI (gshr x y) _ rfl
  rw [e0]
  exact hK

theorem e_iushr {x y : Int} (hd : decode (gcc M) pc = .ok (.iushr, 1))  (k : EV l B M Z kc ks (pc + 1) ls ((0, gushr x y) :: rest) G) : EV l B M Z kc ks pc ls ((0, y) :: (0, x) :: rest) G := by
  intro p e R s m args below meth c H locs cells slots lsr hX h1 h2 hC hL hS hO
  have hK := k p e R s m args below meth c H locs cells slots lsr hX h1 h2 hC hL hS (List.forall_mem_cons.mpr ⟨okV_i.mpr (inI_t _), (List.forall_mem_cons.mp (List.forall_mem_cons.mp hO).2).2⟩)
  refine lv_iushr hX.1 hX.2.1 hd (fromI rfl) ?_
  exact hK

theorem e_land {x y : Int} (hd : decode (gcc M) pc = .ok (.land, 1))  (k : EV l B M Z kc ks (pc + 1) ls ((1, gland x y) :: rest) G) : EV l B M Z kc ks pc ls ((1, y) :: (1, x) :: rest) G := by
  intro p e R s m args below meth c H locs cells slots lsr hX h1 h2 hC hL hS hO
  have hK := k p e R s m args below meth c H locs cells slots lsr hX h1 h2 hC hL hS (List.forall_mem_cons.mpr ⟨okV_l.mpr (inL_t _), (List.forall_mem_cons.mp (List.forall_mem_cons.mp hO).2).2⟩)
  refine lv_land hX.1 hX.2.1 hd ?_
  have e0 := @fromL (gland x y) _ rfl
  rw [e0]
  exact hK

theorem e_lor {x y : Int} (hd : decode (gcc M) pc = .ok (.lor, 1))  (k : EV l B M Z kc ks (pc + 1) ls ((1, glor x y) :: rest) G) : EV l B M Z kc ks pc ls ((1, y) :: (1, x) :: rest) G := by
  intro p e R s m args below meth c H locs cells slots lsr hX h1 h2 hC hL hS hO
  have hK := k p e R s m args below meth c H locs cells slots lsr hX h1 h2 hC hL hS (List.forall_mem_cons.mpr ⟨okV_l.mpr (inL_t _), (List.forall_mem_cons.mp (List.forall_mem_cons.mp hO).2).2⟩)
  refine lv_lor hX.1 hX.2.1 hd ?_
  have e0 := @fromL (glor x y) _ rfl
  rw [e0]
  exact hK

theorem e_lshl {x y : Int} (hd : decode (gcc M) pc = .ok (.lshl, 1))  (k : EV l B M Z kc ks (pc + 1) ls ((1, glshl x y) :: rest) G) : EV l B M Z kc ks pc ls ((0, y) :: (1, x) :: rest) G := by
  intro p e R s m args below meth c H locs cells slots lsr hX h1 h2 hC hL hS hO
  have hK := k p e R s m args below meth c H locs cells slots lsr hX h1 h2 hC hL hS (List.forall_mem_cons.mpr ⟨okV_l.mpr (inL_t _), (List.forall_mem_cons.mp (List.forall_mem_cons.mp hO).2).2⟩)
  refine lv_lshl hX.1 hX.2.1 hd (fromL rfl) ?_
  exact hK

theorem e_lshr {x y : Int} (hd : decode (gcc M) pc = .ok (.lshr, 1))  (k : EV l B M Z kc ks (pc + 1) ls ((1, glshr x y) :: rest) G) : EV l B M Z kc ks pc ls ((0, y) :: (1, x) :: rest) G := by
  intro p e R s m args below meth c H locs cells slots lsr hX h1 h2 hC hL hS hO
  have hK := k p e R s m args below meth c H locs cells slots lsr hX h1 h2 hC hL hS (List.forall_mem_cons.mpr ⟨okV_l.mpr (inL_t _), (List.forall_mem_cons.mp (List.forall_mem_cons.mp hO).2).2⟩)
  refine lv_lshr hX.1 hX.2.1 hd (fromL rfl) ?_
  exact hK

theorem e_i2l {x : Int} (hd : decode (gcc M) pc = .ok (.i2l, 1))  (k : EV l B M Z kc ks (pc + 1) ls ((1, x) :: rest) G) : EV l B M Z kc ks pc ls ((0, x) :: rest) G := by
  intro p e R s m args below meth c H locs cells slots lsr hX h1 h2 hC hL hS hO
  have hK := k p e R s m args below meth c H locs cells slots lsr hX h1 h2 hC hL hS (List.forall_mem_cons.mpr ⟨okV_l.mpr (by have := (okV_i.mp (List.forall_mem_cons.mp hO).1); constructor <;> omega), (List.forall_mem_cons.mp hO).2⟩)
  refine lv_i2l hX.1 hX.2.1 hd (i2lE (okV_i.mp (List.forall_mem_cons.mp hO).1)) ?_
  exact hK

theorem e_l2i {x : Int} (hd : decode (gcc M) pc = .ok (.l2i, 1))  (k : EV l B M Z kc ks (pc + 1) ls ((0, w32 x) :: rest) G) : EV l B M Z kc ks pc ls ((1, x) :: rest) G := by
  intro p e R s m args below meth c H locs cells slots lsr hX h1 h2 hC hL hS hO
  have hK := k p e R s m args below meth c H locs cells slots lsr hX h1 h2 hC hL hS (List.forall_mem_cons.mpr ⟨okV_i.mpr (w32_in x), (List.forall_mem_cons.mp hO).2⟩)
  refine lv_l2i hX.1 hX.2.1 hd (l2iE (okV_l.mp (List.forall_mem_cons.mp hO).1)) ?_
  exact hK

theorem e_i2b {x : Int} (hd : decode (gcc M) pc = .ok (.i2b, 1))  (k : EV l B M Z kc ks (pc + 1) ls ((0, w8 x) :: rest) G) : EV l B M Z kc ks pc ls ((0, x) :: rest) G := by
  intro p e R s m args below meth c H locs cells slots lsr hX h1 h2 hC hL hS hO
  have hK := k p e R s m args below meth c H locs cells slots lsr hX h1 h2 hC hL hS (List.forall_mem_cons.mpr ⟨okV_i.mpr (w8_in x), (List.forall_mem_cons.mp hO).2⟩)
  refine lv_i2b hX.1 hX.2.1 hd (i2bE (okV_i.mp (List.forall_mem_cons.mp hO).1)) ?_
  exact hK

theorem e_i2s {x : Int} (hd : decode (gcc M) pc = .ok (.i2s, 1))  (k : EV l B M Z kc ks (pc + 1) ls ((0, w16 x) :: rest) G) : EV l B M Z kc ks pc ls ((0, x) :: rest) G := by
  intro p e R s m args below meth c H locs cells slots lsr hX h1 h2 hC hL hS hO
  have hK := k p e R s m args below meth c H locs cells slots lsr hX h1 h2 hC hL hS (List.forall_mem_cons.mpr ⟨okV_i.mpr (w16_in x), (List.forall_mem_cons.mp hO).2⟩)
  refine lv_i2s hX.1 hX.2.1 hd (i2sE (okV_i.mp (List.forall_mem_cons.mp hO).1)) ?_
  exact hK

theorem e_dup {x : gV} (hd : decode (gcc M) pc = .ok (.dup, 1)) (ha : x.1 ≠ 1) (k : EV l B M Z kc ks (pc + 1) ls (x :: x :: rest) G) : EV l B M Z kc ks pc ls (x :: rest) G := by
  intro p e R s m args below meth c H locs cells slots lsr hX h1 h2 hC hL hS hO
  have hK := k p e R s m args below meth c H locs cells slots lsr hX h1 h2 hC hL hS (List.forall_mem_cons.mpr ⟨(List.forall_mem_cons.mp hO).1, (List.forall_mem_cons.mpr ⟨(List.forall_mem_cons.mp hO).1, (List.forall_mem_cons.mp hO).2⟩)⟩)
  refine lv_dup hX.1 hX.2.1 hd (cat1 ha) ?_
  exact hK

theorem e_pop {x : gV} (hd : decode (gcc M) pc = .ok (.pop, 1)) (ha : x.1 ≠ 1) (k : EV l B M Z kc ks (pc + 1) ls (rest) G) : EV l B M Z kc ks pc ls (x :: rest) G := by
  intro p e R s m args below meth c H locs cells slots lsr hX h1 h2 hC hL hS hO
  have hK := k p e R s m args below meth c H locs cells slots lsr hX h1 h2 hC hL hS (List.forall_mem_cons.mp hO).2
  refine lv_pop hX.1 hX.2.1 hd (cat1 ha) ?_
  exact hK

theorem e_dup_x1 {x y : gV} (hd : decode (gcc M) pc = .ok (.dup_x1, 1)) (ha : x.1 ≠ 1) (hb : y.1 ≠ 1) (k : EV l B M Z kc ks (pc + 1) ls (x :: y :: x :: rest) G) : EV l B M Z kc ks pc ls (x :: y :: rest) G := by
  intro p e R s m args below meth c H locs cells slots lsr hX h1 h2 hC hL hS hO
  have hK := k p e R s m args below meth c H locs cells slots lsr hX h1 h2 hC hL hS (List.forall_mem_cons.mpr ⟨(List.forall_mem_cons.mp hO).1, (List.forall_mem_cons.mpr ⟨(List.forall_mem_cons.mp (List.forall_mem_cons.mp hO).2).1, (List.forall_mem_cons.mpr ⟨(List.forall_mem_cons.mp hO).1, (List.forall_mem_cons.mp (List.forall_mem_cons.mp hO).2).2⟩)⟩)⟩)
  refine lv_dup_x1 hX.1 hX.2.1 hd (cat1 ha) (cat1 hb) ?_
  exact hK

theorem e_dup_x2 {x y z : gV} (hd : decode (gcc M) pc = .ok (.dup_x2, 1)) (ha : x.1 ≠ 1) (hb : y.1 ≠ 1) (hc : z.1 ≠ 1) (k : EV l B M Z kc ks (pc + 1) ls (x :: y :: z :: x :: rest) G) : EV l B M Z kc ks pc ls (x :: y :: z :: rest) G := by
  intro p e R s m args below meth c H locs cells slots lsr hX h1 h2 hC hL hS hO
  have hK := k p e R s m args below meth c H locs cells slots lsr hX h1 h2 hC hL hS (List.forall_mem_cons.mpr ⟨(List.forall_mem_cons.mp hO).1, (List.forall_mem_cons.mpr ⟨(List.forall_mem_cons.mp (List.forall_mem_cons.mp hO).2).1, (List.forall_mem_cons.mpr ⟨(List.forall_mem_cons.mp (List.forall_mem_cons.mp (List.forall_mem_cons.mp hO).2).2).1, (List.forall_mem_cons.mpr ⟨(List.forall_mem_cons.mp hO).1, (List.forall_mem_cons.mp (List.forall_mem_cons.mp (List.forall_mem_cons.mp hO).2).2).2⟩)⟩)⟩)⟩)
  refine lv_dup_x2 hX.1 hX.2.1 hd (cat1 ha) (cat1 hb) (cat1 hc) ?_
  exact hK

theorem e_dup2 {x y : gV} (hd : decode (gcc M) pc = .ok (.dup2, 1)) (ha : x.1 ≠ 1) (hb : y.1 ≠ 1) (k : EV l B M Z kc ks (pc + 1) ls (x :: y :: x :: y :: rest) G) : EV l B M Z kc ks pc ls (x :: y :: rest) G := by
  intro p e R s m args below meth c H locs cells slots lsr hX h1 h2 hC hL hS hO
  have hK := k p e R s m args below meth c H locs cells slots lsr hX h1 h2 hC hL hS (List.forall_mem_cons.mpr ⟨(List.forall_mem_cons.mp hO).1, (List.forall_mem_cons.mpr ⟨(List.forall_mem_cons.mp (List.forall_mem_cons.mp hO).2).1, (List.forall_mem_cons.mpr ⟨(List.forall_mem_cons.mp hO).1, (List.forall_mem_cons.mpr ⟨(List.forall_mem_cons.mp (List.forall_mem_cons.mp hO).2).1, (List.forall_mem_cons.mp (List.forall_mem_cons.mp hO).2).2⟩)⟩)⟩)⟩)
  refine lv_dup2_11 hX.1 hX.2.1 hd (cat1 ha) (cat1 hb) ?_
  exact hK

theorem e_icmp_eq {x y : Int} {off : Int} {tgt : Nat} (hd : decode (gcc M) pc = .ok (.if_icmp .eq off, 3)) (ht : (pc : Int) + off = (tgt : Int)) (kt : x = y → EV l B M Z kc ks tgt ls rest G) (kf : x ≠ y → EV l B M Z kc ks (pc + 3) ls rest G) : EV l B M Z kc ks pc ls ((0, y) :: (0, x) :: rest) G := by
  intro p e R s m args below meth c H locs cells slots lsr hX h1 h2 hC hL hS hO
  refine lv_icmp_eq hX.1 hX.2.1 hd ht (fun h => kt ?_ p e R s m args below meth c H locs cells slots lsr hX h1 h2 hC hL hS (List.forall_mem_cons.mp (List.forall_mem_cons.mp hO).2).2) (fun h => kf ?_ p e R s m args below meth c H locs cells slots lsr hX h1 h2 hC hL hS (List.forall_mem_cons.mp (List.forall_mem_cons.mp hO).2).2)
  · have hi := tiI (okV_i.mp (List.forall_mem_cons.mp hO).1); have hj := tiI (okV_i.mp (List.forall_mem_cons.mp (List.forall_mem_cons.mp hO).2).1); first | (rw [Int32.lt_iff_toInt_lt, hi, hj] at h; omega) | (rw [Int32.le_iff_toInt_le, hi, hj] at h; omega) | (rw [ne_eq, ← Int32.toInt_inj, hi, hj] at h; omega) | (rw [← Int32.toInt_inj, hi, hj] at h; omega)
  · have hi := tiI (okV_i.mp (List.forall_mem_cons.mp hO).1); have hj := tiI (okV_i.mp (List.forall_mem_cons.mp (List.forall_mem_cons.mp hO).2).1); first | (rw [Int32.lt_iff_toInt_lt, hi, hj] at h; omega) | (rw [Int32.le_iff_toInt_le, hi, hj] at h; omega) | (rw [ne_eq, ← Int32.toInt_inj, hi, hj] at h; omega) | (rw [← Int32.toInt_inj, hi, hj] at h; omega)

theorem e_if_eq {x : Int} {off : Int} {tgt : Nat} (hd : decode (gcc M) pc = .ok (.ifCond .eq off, 3)) (ht : (pc : Int) + off = (tgt : Int)) (kt : x = 0 → EV l B M Z kc ks tgt ls rest G) (kf : x ≠ 0 → EV l B M Z kc ks (pc + 3) ls rest G) : EV l B M Z kc ks pc ls ((0, x) :: rest) G := by
  intro p e R s m args below meth c H locs cells slots lsr hX h1 h2 hC hL hS hO
  refine lv_if_eq hX.1 hX.2.1 hd ht (fun h => kt ?_ p e R s m args below meth c H locs cells slots lsr hX h1 h2 hC hL hS (List.forall_mem_cons.mp hO).2) (fun h => kf ?_ p e R s m args below meth c H locs cells slots lsr hX h1 h2 hC hL hS (List.forall_mem_cons.mp hO).2)
  · have hi := tiI (okV_i.mp (List.forall_mem_cons.mp hO).1); first | (rw [Int32.lt_iff_toInt_lt, hi, Int32.toInt_zero] at h; omega) | (rw [Int32.le_iff_toInt_le, hi, Int32.toInt_zero] at h; omega) | (rw [ne_eq, ← Int32.toInt_inj, hi, Int32.toInt_zero] at h; omega) | (rw [← Int32.toInt_inj, hi, Int32.toInt_zero] at h; omega)
  · have hi := tiI (okV_i.mp (List.forall_mem_cons.mp hO).1); first | (rw [Int32.lt_iff_toInt_lt, hi, Int32.toInt_zero] at h; omega) | (rw [Int32.le_iff_toInt_le, hi, Int32.toInt_zero] at h; omega) | (rw [ne_eq, ← Int32.toInt_inj, hi, Int32.toInt_zero] at h; omega) | (rw [← Int32.toInt_inj, hi, Int32.toInt_zero] at h; omega)

theorem e_icmp_ne {x y : Int} {off : Int} {tgt : Nat} (hd : decode (gcc M) pc = .ok (.if_icmp .ne off, 3)) (ht : (pc : Int) + off = (tgt : Int)) (kt : x ≠ y → EV l B M Z kc ks tgt ls rest G) (kf : x = y → EV l B M Z kc ks (pc + 3) ls rest G) : EV l B M Z kc ks pc ls ((0, y) :: (0, x) :: rest) G := by
  intro p e R s m args below meth c H locs cells slots lsr hX h1 h2 hC hL hS hO
  refine lv_icmp_ne hX.1 hX.2.1 hd ht (fun h => kt ?_ p e R s m args below meth c H locs cells slots lsr hX h1 h2 hC hL hS (List.forall_mem_cons.mp (List.forall_mem_cons.mp hO).2).2) (fun h => kf ?_ p e R s m args below meth c H locs cells slots lsr hX h1 h2 hC hL hS (List.forall_mem_cons.mp (List.forall_mem_cons.mp hO).2).2)
  · have hi := tiI (okV_i.mp (List.forall_mem_cons.mp hO).1); have hj := tiI (okV_i.mp (List.forall_mem_cons.mp (List.forall_mem_cons.mp hO).2).1); first | (rw [Int32.lt_iff_toInt_lt, hi, hj] at h; omega) | (rw [Int32.le_iff_toInt_le, hi, hj] at h; omega) | (rw [ne_eq, ← Int32.toInt_inj, hi, hj] at h; omega) | (rw [← Int32.toInt_inj, hi, hj] at h; omega)
  · have hi := tiI (okV_i.mp (List.forall_mem_cons.mp hO).1); have hj := tiI (okV_i.mp (List.forall_mem_cons.mp (List.forall_mem_cons.mp hO).2).1); first | (rw [Int32.lt_iff_toInt_lt, hi, hj] at h; omega) | (rw [Int32.le_iff_toInt_le, hi, hj] at h; omega) | (rw [ne_eq, ← Int32.toInt_inj, hi, hj] at h; omega) | (rw [← Int32.toInt_inj, hi, hj] at h; omega)

theorem e_if_ne {x : Int} {off : Int} {tgt : Nat} (hd : decode (gcc M) pc = .ok (.ifCond .ne off, 3)) (ht : (pc : Int) + off = (tgt : Int)) (kt : x ≠ 0 → EV l B M Z kc ks tgt ls rest G) (kf : x = 0 → EV l B M Z kc ks (pc + 3) ls rest G) : EV l B M Z kc ks pc ls ((0, x) :: rest) G := by
  intro p e R s m args below meth c H locs cells slots lsr hX h1 h2 hC hL hS hO
  refine lv_if_ne hX.1 hX.2.1 hd ht (fun h => kt ?_ p e R s m args below meth c H locs cells slots lsr hX h1 h2 hC hL hS (List.forall_mem_cons.mp hO).2) (fun h => kf ?_ p e R s m args below meth c H locs cells slots lsr hX h1 h2 hC hL hS (List.forall_mem_cons.mp hO).2)
  · have hi := tiI (okV_i.mp (List.forall_mem_cons.mp hO).1); first | (rw [Int32.lt_iff_toInt_lt, hi, Int32.toInt_zero] at h; omega) | (rw [Int32.le_iff_toInt_le, hi, Int32.toInt_zero] at h; omega) | (rw [ne_eq, ← Int32.toInt_inj, hi, Int32.toInt_zero] at h; omega) | (rw [← Int32.toInt_inj, hi, Int32.toInt_zero] at h; omega)
  · have hi := tiI (okV_i.mp (List.forall_mem_cons.mp hO).1); first | (rw [Int32.lt_iff_toInt_lt, hi, Int32.toInt_zero] at h; omega) | (rw [Int32.le_iff_toInt_le, hi, Int32.toInt_zero] at h; omega) | (rw [ne_eq, ← Int32.toInt_inj, hi, Int32.toInt_zero] at h; omega) | (rw [← Int32.toInt_inj, hi, Int32.toInt_zero] at h; omega)

theorem e_icmp_lt {x y : Int} {off : Int} {tgt : Nat} (hd : decode (gcc M) pc = .ok (.if_icmp .lt off, 3)) (ht : (pc : Int) + off = (tgt : Int)) (kt : x < y → EV l B M Z kc ks tgt ls rest G) (kf : y ≤ x → EV l B M Z kc ks (pc + 3) ls rest G) : EV l B M Z kc ks pc ls ((0, y) :: (0, x) :: rest) G := by
  intro p e R s m args below meth c H locs cells slots lsr hX h1 h2 hC hL hS hO
  refine lv_icmp_lt hX.1 hX.2.1 hd ht (fun h => kt ?_ p e R s m args below meth c H locs cells slots lsr hX h1 h2 hC hL hS (List.forall_mem_cons.mp (List.forall_mem_cons.mp hO).2).2) (fun h => kf ?_ p e R s m args below meth c H locs cells slots lsr hX h1 h2 hC hL hS (List.forall_mem_cons.mp (List.forall_mem_cons.mp hO).2).2)
  · have hi := tiI (okV_i.mp (List.forall_mem_cons.mp hO).1); have hj := tiI (okV_i.mp (List.forall_mem_cons.mp (List.forall_mem_cons.mp hO).2).1); first | (rw [Int32.lt_iff_toInt_lt, hi, hj] at h; omega) | (rw [Int32.le_iff_toInt_le, hi, hj] at h; omega) | (rw [ne_eq, ← Int32.toInt_inj, hi, hj] at h; omega) | (rw [← Int32.toInt_inj, hi, hj] at h; omega)
  · have hi := tiI (okV_i.mp (List.forall_mem_cons.mp hO).1); have hj := tiI (okV_i.mp (List.forall_mem_cons.mp (List.forall_mem_cons.mp hO).2).1); first | (rw [Int32.lt_iff_toInt_lt, hi, hj] at h; omega) | (rw [Int32.le_iff_toInt_le, hi, hj] at h; omega) | (rw [ne_eq, ← Int32.toInt_inj, hi, hj] at h; omega) | (rw [← Int32.toInt_inj, hi, hj] at h; omega)

theorem e_if_lt {x : Int} {off : Int} {tgt : Nat} (hd : decode (gcc M) pc = .ok (.ifCond .lt off, 3)) (ht : (pc : Int) + off = (tgt : Int)) (kt : x < 0 → EV l B M Z kc ks tgt ls rest G) (kf : 0 ≤ x → EV l B M Z kc ks (pc + 3) ls rest G) : EV l B M Z kc ks pc ls ((0, x) :: rest) G := by
  intro p e R s m args below meth c H locs cells slots lsr hX h1 h2 hC hL hS hO
  refine lv_if_lt hX.1 hX.2.1 hd ht (fun h => kt ?_ p e R s m args below meth c H locs cells slots lsr hX h1 h2 hC hL hS (List.forall_mem_cons.mp hO).2) (fun h => kf ?_ p e R s m args below meth c H locs cells slots lsr hX h1 h2 hC hL hS (List.forall_mem_cons.mp hO).2)
  · have hi := tiI (okV_i.mp (List.forall_mem_cons.mp hO).1); first | (rw [Int32.lt_iff_toInt_lt, hi, Int32.toInt_zero] at h; omega) | (rw [Int32.le_iff_toInt_le, hi, Int32.toInt_zero] at h; omega) | (rw [ne_eq, ← Int32.toInt_inj, hi, Int32.toInt_zero] at h; omega) | (rw [← Int32.toInt_inj, hi, Int32.toInt_zero] at h; omega)
  · have hi := tiI (okV_i.mp (List.forall_mem_cons.mp hO).1); first | (rw [Int32.lt_iff_toInt_lt, hi, Int32.toInt_zero] at h; omega) | (rw [Int32.le_iff_toInt_le, hi, Int32.toInt_zero] at h; omega) | (rw [ne_eq, ← Int32.toInt_inj, hi, Int32.toInt_zero] at h; omega) | (rw [← Int32.toInt_inj, hi, Int32.toInt_zero] at h; omega)

theorem e_icmp_ge {x y : Int} {off : Int} {tgt : Nat} (hd : decode (gcc M) pc = .ok (.if_icmp .ge off, 3)) (ht : (pc : Int) + off = (tgt : Int)) (kt : y ≤ x → EV l B M Z kc ks tgt ls rest G) (kf : x < y → EV l B M Z kc ks (pc + 3) ls rest G) : EV l B M Z kc ks pc ls ((0, y) :: (0, x) :: rest) G := by
  intro p e R s m args below meth c H locs cells slots lsr hX h1 h2 hC hL hS hO
  refine lv_icmp_ge hX.1 hX.2.1 hd ht (fun h => kt ?_ p e R s m args below meth c H locs cells slots lsr hX h1 h2 hC hL hS (List.forall_mem_cons.mp (List.forall_mem_cons.mp hO).2).2) (fun h => kf ?_ p e R s m args below meth c H locs cells slots lsr hX h1 h2 hC hL hS (List.forall_mem_cons.mp (List.forall_mem_cons.mp hO).2).2)
  · have hi := tiI (okV_i.mp (List.forall_mem_cons.mp hO).1); have hj := tiI (okV_i.mp (List.forall_mem_cons.mp (List.forall_mem_cons.mp hO).2).1); first | (rw [Int32.lt_iff_toInt_lt, hi, hj] at h; omega) | (rw [Int32.le_iff_toInt_le, hi, hj] at h; omega) | (rw [ne_eq, ← Int32.toInt_inj, hi, hj] at h; omega) | (rw [← Int32.toInt_inj, hi, hj] at h; omega)
  · have hi := tiI (okV_i.mp (List.forall_mem_cons.mp hO).1); have hj := tiI (okV_i.mp (List.forall_mem_cons.mp (List.forall_mem_cons.mp hO).2).1); first | (rw [Int32.lt_iff_toInt_lt, hi, hj] at h; omega) | (rw [Int32.le_iff_toInt_le, hi, hj] at h; omega) | (rw [ne_eq, ← Int32.toInt_inj, hi, hj] at h; omega) | (rw [← Int32.toInt_inj, hi, hj] at h; omega)

theorem e_if_ge {x : Int} {off : Int} {tgt : Nat} (hd : decode (gcc M) pc = .ok (.ifCond .ge off, 3)) (ht : (pc : Int) + off = (tgt : Int)) (kt : 0 ≤ x → EV l B M Z kc ks tgt ls rest G) (kf : x < 0 → EV l B M Z kc ks (pc + 3) ls rest G) : EV l B M Z kc ks pc ls ((0, x) :: rest) G := by
  intro p e R s m args below meth c H locs cells slots lsr hX h1 h2 hC hL hS hO
  refine lv_if_ge hX.1 hX.2.1 hd ht (fun h => kt ?_ p e R s m args below meth c H locs cells slots lsr hX h1 h2 hC hL hS (List.forall_mem_cons.mp hO).2) (fun h => kf ?_ p e R s m args below meth c H locs cells slots lsr hX h1 h2 hC hL hS (List.forall_mem_cons.mp hO).2)
  · have hi := tiI (okV_i.mp (List.forall_mem_cons.mp hO).1); first | (rw [Int32.lt_iff_toInt_lt, hi, Int32.toInt_zero] at h; omega) | (rw [Int32.le_iff_toInt_le, hi, Int32.toInt_zero] at h; omega) | (rw [ne_eq, ← Int32.toInt_inj, hi, Int32.toInt_zero] at h; omega) | (rw [← Int32.toInt_inj, hi, Int32.toInt_zero] at h; omega)
  · have hi := tiI (okV_i.mp (List.forall_mem_cons.mp hO).1); first | (rw [Int32.lt_iff_toInt_lt, hi, Int32.toInt_zero] at h; omega) | (rw [Int32.le_iff_toInt_le, hi, Int32.toInt_zero] at h; omega) | (rw [ne_eq, ← Int32.toInt_inj, hi, Int32.toInt_zero] at h; omega) | (rw [← Int32.toInt_inj, hi, Int32.toInt_zero] at h; omega)

theorem e_icmp_gt {x y : Int} {off : Int} {tgt : Nat} (hd : decode (gcc M) pc = .ok (.if_icmp .gt off, 3)) (ht : (pc : Int) + off = (tgt : Int)) (kt : y < x → EV l B M Z kc ks tgt ls rest G) (kf : x ≤ y → EV l B M Z kc ks (pc + 3) ls rest G) : EV l B M Z kc ks pc ls ((0, y) :: (0, x) :: rest) G := by
  intro p e R s m args below meth c H locs cells slots lsr hX h1 h2 hC hL hS hO
  refine lv_icmp_gt hX.1 hX.2.1 hd ht (fun h => kt ?_ p e R s m args below meth c H locs cells slots lsr hX h1 h2 hC hL hS (List.forall_mem_cons.mp (List.forall_mem_cons.mp hO).2).2) (fun h => kf ?_ p e R s m args below meth c H locs cells slots lsr hX h1 h2 hC hL hS (List.forall_mem_cons.mp (List.forall_mem_cons.mp hO).2).2)
  · have hi := tiI (okV_i.mp (List.forall_mem_cons.mp hO).1); have hj := tiI (okV_i.mp (List.forall_mem_cons.mp (List.forall_mem_cons.mp hO).2).1); first | (rw [Int32.lt_iff_toInt_lt, hi, hj] at h; omega) | (rw [Int32.le_iff_toInt_le, hi, hj] at h; omega) | (rw [ne_eq, ← Int32.toInt_inj, hi, hj] at h; omega) | (rw [← Int32.toInt_inj, hi, hj] at h; omega)
  · have hi := tiI (okV_i.mp (List.forall_mem_cons.mp hO).1); have hj := tiI (okV_i.mp (List.forall_mem_cons.mp (List.forall_mem_cons.mp hO).2).1); first | (rw [Int32.lt_iff_toInt_lt, hi, hj] at h; omega) | (rw [Int32.le_iff_toInt_le, hi, hj] at h; omega) | (rw [ne_eq, ← Int32.toInt_inj, hi, hj] at h; omega) | (rw [← Int32.toInt_inj, hi, hj] at h; omega)

theorem e_if_gt {x : Int} {off : Int} {tgt : Nat} (hd : decode (gcc M) pc = .ok (.ifCond .gt off, 3)) (ht : (pc : Int) + off = (tgt : Int)) (kt : 0 < x → EV l B M Z kc ks tgt ls rest G) (kf : x ≤ 0 → EV l B M Z kc ks (pc + 3) ls rest G) : EV l B M Z kc ks pc ls ((0, x) :: rest) G := by
  intro p e R s m args below meth c H locs cells slots lsr hX h1 h2 hC hL hS hO
  refine lv_if_gt hX.1 hX.2.1 hd ht (fun h => kt ?_ p e R s m args below meth c H locs cells slots lsr hX h1 h2 hC hL hS (List.forall_mem_cons.mp hO).2) (fun h => kf ?_ p e R s m args below meth c H locs cells slots lsr hX h1 h2 hC hL hS (List.forall_mem_cons.mp hO).2)
  · have hi := tiI (okV_i.mp (List.forall_mem_cons.mp hO).1); first | (rw [Int32.lt_iff_toInt_lt, hi, Int32.toInt_zero] at h; omega) | (rw [Int32.le_iff_toInt_le, hi, Int32.toInt_zero] at h; omega) | (rw [ne_eq, ← Int32.toInt_inj, hi, Int32.toInt_zero] at h; omega) | (rw [← Int32.toInt_inj, hi, Int32.toInt_zero] at h; omega)
  · have hi := tiI (okV_i.mp (List.forall_mem_cons.mp hO).1); first | (rw [Int32.lt_iff_toInt_lt, hi, Int32.toInt_zero] at h; omega) | (rw [Int32.le_iff_toInt_le, hi, Int32.toInt_zero] at h; omega) | (rw [ne_eq, ← Int32.toInt_inj, hi, Int32.toInt_zero] at h; omega) | (rw [← Int32.toInt_inj, hi, Int32.toInt_zero] at h; omega)

theorem e_icmp_le {x y : Int} {off : Int} {tgt : Nat} (hd : decode (gcc M) pc = .ok (.if_icmp .le off, 3)) (ht : (pc : Int) + off = (tgt : Int)) (kt : x ≤ y → EV l B M Z kc ks tgt ls rest G) (kf : y < x → EV l B M Z kc ks (pc + 3) ls rest G) : EV l B M Z kc ks pc ls ((0, y) :: (0, x) :: rest) G := by
  intro p e R s m args below meth c H locs cells slots lsr hX h1 h2 hC hL hS hO
  refine lv_icmp_le hX.1 hX.2.1 hd ht (fun h => kt ?_ p e R s m args below meth c H locs cells slots lsr hX h1 h2 hC hL hS (List.forall_mem_cons.mp (List.forall_mem_cons.mp hO).2).2) (fun h => kf ?_ p e R s m args below meth c H locs cells slots lsr hX h1 h2 hC hL hS (List.forall_mem_cons.mp (List.forall_mem_cons.mp hO).2).2)
  · have hi := tiI (okV_i.mp (List.forall_mem_cons.mp hO).1); have hj := tiI (okV_i.mp (List.forall_mem_cons.mp (List.forall_mem_cons.mp hO).2).1); first | (rw [Int32.lt_iff_toInt_lt, hi, hj] at h; omega) | (rw [Int32.le_iff_toInt_le, hi, hj] at h; omega) | (rw [ne_eq, ← Int32.toInt_inj, hi, hj] at h; omega) | (rw [← Int32.toInt_inj, hi, hj] at h; omega)
  · have hi := tiI (okV_i.mp (List.forall_mem_cons.mp hO).1); have hj := tiI (okV_i.mp (List.forall_mem_cons.mp (List.forall_mem_cons.mp hO).2).1); first | (rw [Int32.lt_iff_toInt_lt, hi, hj] at h; omega) | (rw [Int32.le_iff_toInt_le, hi, hj] at h; omega) | (rw [ne_eq, ← Int32.toInt_inj, hi, hj] at h; omega) | (rw [← Int32.toInt_inj, hi, hj] at h; omega)

theorem e_if_le {x : Int} {off : Int} {tgt : Nat} (hd : decode (gcc M) pc = .ok (.ifCond .le off, 3)) (ht : (pc : Int) + off = (tgt : Int)) (kt : x ≤ 0 → EV l B M Z kc ks tgt ls rest G) (kf : 0 < x → EV l B M Z kc ks (pc + 3) ls rest G) : EV l B M Z kc ks pc ls ((0, x) :: rest) G := by
  intro p e R s m args below meth c H locs cells slots lsr hX h1 h2 hC hL hS hO
  refine lv_if_le hX.1 hX.2.1 hd ht (fun h => kt ?_ p e R s m args below meth c H locs cells slots lsr hX h1 h2 hC hL hS (List.forall_mem_cons.mp hO).2) (fun h => kf ?_ p e R s m args below meth c H locs cells slots lsr hX h1 h2 hC hL hS (List.forall_mem_cons.mp hO).2)
  · have hi := tiI (okV_i.mp (List.forall_mem_cons.mp hO).1); first | (rw [Int32.lt_iff_toInt_lt, hi, Int32.toInt_zero] at h; omega) | (rw [Int32.le_iff_toInt_le, hi, Int32.toInt_zero] at h; omega) | (rw [ne_eq, ← Int32.toInt_inj, hi, Int32.toInt_zero] at h; omega) | (rw [← Int32.toInt_inj, hi, Int32.toInt_zero] at h; omega)
  · have hi := tiI (okV_i.mp (List.forall_mem_cons.mp hO).1); first | (rw [Int32.lt_iff_toInt_lt, hi, Int32.toInt_zero] at h; omega) | (rw [Int32.le_iff_toInt_le, hi, Int32.toInt_zero] at h; omega) | (rw [ne_eq, ← Int32.toInt_inj, hi, Int32.toInt_zero] at h; omega) | (rw [← Int32.toInt_inj, hi, Int32.toInt_zero] at h; omega)

theorem e_goto {off : Int} {tgt : Nat} (hd : decode (gcc M) pc = .ok (.goto off, 3)) (ht : (pc : Int) + off = (tgt : Int)) (k : EV l B M Z kc ks tgt ls rest G) : EV l B M Z kc ks pc ls rest G := by
  intro p e R s m args below meth c H locs cells slots lsr hX h1 h2 hC hL hS hO
  exact lv_goto hX.1 hX.2.1 hd ht (k p e R s m args below meth c H locs cells slots lsr hX h1 h2 hC hL hS hO)

theorem e_ifnull {x : Int} {off : Int} {tgt : Nat} (hd : decode (gcc M) pc = .ok (.ifnull off, 3)) (ht : (pc : Int) + off = (tgt : Int)) (kt : x = 0 → EV l B M Z kc ks tgt ls rest G) (kf : x ≠ 0 → EV l B M Z kc ks (pc + 3) ls rest G) : EV l B M Z kc ks pc ls ((2, x) :: rest) G := by
  intro p e R s m args below meth c H locs cells slots lsr hX h1 h2 hC hL hS hO
  by_cases h0 : x = 0
  · have hK := kt h0 p e R s m args below meth c H locs cells slots lsr hX h1 h2 hC hL hS (List.forall_mem_cons.mp hO).2
    subst h0
    exact lv_ifnullN hX.1 hX.2.1 hd ht hK
  · have hK := kf h0 p e R s m args below meth c H locs cells slots lsr hX h1 h2 hC hL hS (List.forall_mem_cons.mp hO).2
    have e0 : ((2, x) :: rest).map cV = Value.ref (x.toNat - 1) :: rest.map cV := by rw [List.map_cons, cV_r h0]
    rw [e0]
    exact lv_ifnull hX.1 hX.2.1 hd hK

theorem e_ifnonnull {x : Int} {off : Int} {tgt : Nat} (hd : decode (gcc M) pc = .ok (.ifnonnull off, 3)) (ht : (pc : Int) + off = (tgt : Int)) (kt : x ≠ 0 → EV l B M Z kc ks tgt ls rest G) (kf : x = 0 → EV l B M Z kc ks (pc + 3) ls rest G) : EV l B M Z kc ks pc ls ((2, x) :: rest) G := by
  intro p e R s m args below meth c H locs cells slots lsr hX h1 h2 hC hL hS hO
  by_cases h0 : x = 0
  · have hK := kf h0 p e R s m args below meth c H locs cells slots lsr hX h1 h2 hC hL hS (List.forall_mem_cons.mp hO).2
    subst h0
    exact lv_ifnonnullN hX.1 hX.2.1 hd hK
  · have hK := kt h0 p e R s m args below meth c H locs cells slots lsr hX h1 h2 hC hL hS (List.forall_mem_cons.mp hO).2
    have e0 : ((2, x) :: rest).map cV = Value.ref (x.toNat - 1) :: rest.map cV := by rw [List.map_cons, cV_r h0]
    rw [e0]
    exact lv_ifnonnull hX.1 hX.2.1 hd ht hK

theorem cV_q {x : Int} : cV (2, x) = va_rf (gq x) := by by_cases h : x = 0 <;> simp [cV, gq, va_rf, h]
theorem gq_inj {x y : Int} (hx : 0 ≤ x) (hy : 0 ≤ y) : gq x = gq y ↔ x = y := by unfold gq; split <;> split <;> simp <;> omega

theorem e_acmp_eq {x y : Int} {off : Int} {tgt : Nat} (hd : decode (gcc M) pc = .ok (.if_acmp .eq off, 3)) (ht : (pc : Int) + off = (tgt : Int)) (kt : x = y → EV l B M Z kc ks tgt ls rest G) (kf : x ≠ y → EV l B M Z kc ks (pc + 3) ls rest G) : EV l B M Z kc ks pc ls ((2, y) :: (2, x) :: rest) G := by
  intro p e R s m args below meth c H locs cells slots lsr hX h1 h2 hC hL hS hO
  have e0 : ((2, y) :: (2, x) :: rest).map cV = va_rf (gq y) :: va_rf (gq x) :: rest.map cV := by rw [List.map_cons, List.map_cons, cV_q, cV_q]
  rw [e0]
  have hi := gq_inj (okV_r.mp (List.forall_mem_cons.mp (List.forall_mem_cons.mp hO).2).1) (okV_r.mp (List.forall_mem_cons.mp hO).1)
  refine lv_acmp_eq hX.1 hX.2.1 hd ht (fun h => kt ?_ p e R s m args below meth c H locs cells slots lsr hX h1 h2 hC hL hS (List.forall_mem_cons.mp (List.forall_mem_cons.mp hO).2).2) (fun h => kf ?_ p e R s m args below meth c H locs cells slots lsr hX h1 h2 hC hL hS (List.forall_mem_cons.mp (List.forall_mem_cons.mp hO).2).2)
  · first | exact hi.mp h | exact fun q => h (hi.mpr q)
  · first | exact fun q => h (hi.mpr q) | exact hi.mp h | exact Decidable.byContradiction fun q => h (fun z => q (hi.mp z))

theorem e_acmp_ne {x y : Int} {off : Int} {tgt : Nat} (hd : decode (gcc M) pc = .ok (.if_acmp .ne off, 3)) (ht : (pc : Int) + off = (tgt : Int)) (kt : x ≠ y → EV l B M Z kc ks tgt ls rest G) (kf : x = y → EV l B M Z kc ks (pc + 3) ls rest G) : EV l B M Z kc ks pc ls ((2, y) :: (2, x) :: rest) G := by
  intro p e R s m args below meth c H locs cells slots lsr hX h1 h2 hC hL hS hO
  have e0 : ((2, y) :: (2, x) :: rest).map cV = va_rf (gq y) :: va_rf (gq x) :: rest.map cV := by rw [List.map_cons, List.map_cons, cV_q, cV_q]
  rw [e0]
  have hi := gq_inj (okV_r.mp (List.forall_mem_cons.mp (List.forall_mem_cons.mp hO).2).1) (okV_r.mp (List.forall_mem_cons.mp hO).1)
  refine lv_acmp_ne hX.1 hX.2.1 hd ht (fun h => kt ?_ p e R s m args below meth c H locs cells slots lsr hX h1 h2 hC hL hS (List.forall_mem_cons.mp (List.forall_mem_cons.mp hO).2).2) (fun h => kf ?_ p e R s m args below meth c H locs cells slots lsr hX h1 h2 hC hL hS (List.forall_mem_cons.mp (List.forall_mem_cons.mp hO).2).2)
  · first | exact hi.mp h | exact fun q => h (hi.mpr q)
  · first | exact fun q => h (hi.mpr q) | exact hi.mp h | exact Decidable.byContradiction fun q => h (fun z => q (hi.mp z))

def gcmp (x y : Int) : Int := if y < x then 1 else if x = y then 0 else -1
theorem gcmp_in (x y : Int) : inI (gcmp x y) := by
  unfold gcmp
  split
  · decide
  · split <;> decide

theorem e_lcmp {x y : Int} (hd : decode (gcc M) pc = .ok (.lcmp, 1))  (k : EV l B M Z kc ks (pc + 1) ls ((0, gcmp x y) :: rest) G) : EV l B M Z kc ks pc ls ((1, y) :: (1, x) :: rest) G := by
  intro p e R s m args below meth c H locs cells slots lsr hX h1 h2 hC hL hS hO
  have hK := k p e R s m args below meth c H locs cells slots lsr hX h1 h2 hC hL hS (List.forall_mem_cons.mpr ⟨okV_i.mpr (gcmp_in x y), (List.forall_mem_cons.mp (List.forall_mem_cons.mp hO).2).2⟩)
  refine W.lcmp hX.1 hX.2.1 hd ?_
  have e0 : lg_cmp (Int64.ofInt x) (Int64.ofInt y) = Int32.ofInt (gcmp x y) := by
    unfold lg_cmp gcmp
    have hi := ltL (okV_l.mp (List.forall_mem_cons.mp hO).1) (okV_l.mp (List.forall_mem_cons.mp (List.forall_mem_cons.mp hO).2).1); have hj := eqL (okV_l.mp (List.forall_mem_cons.mp (List.forall_mem_cons.mp hO).2).1) (okV_l.mp (List.forall_mem_cons.mp hO).1)
    simp only [gt_iff_lt, hi, hj]
    split
    · rfl
    · split <;> rfl
  rw [e0]
  exact hK

theorem e_lcmp_eq {x y : Int} {off : Int} {tgt : Nat} (hd : decode (gcc M) pc = .ok (.lcmp, 1)) (hd2 : decode (gcc M) (pc + 1) = .ok (.ifCond .eq off, 3)) (ht : ((pc + 1 : Nat) : Int) + off = (tgt : Int)) (kt : x = y → EV l B M Z kc ks tgt ls rest G) (kf : x ≠ y → EV l B M Z kc ks (pc + 1 + 3) ls rest G) : EV l B M Z kc ks pc ls ((1, y) :: (1, x) :: rest) G := by
  refine e_lcmp hd (e_if_eq hd2 ht (fun h => kt ?_) (fun h => kf ?_))
  · revert h; unfold gcmp; intro h; (repeat' split at h) <;> omega
  · revert h; unfold gcmp; intro h; (repeat' split at h) <;> omega

theorem e_lcmp_ne {x y : Int} {off : Int} {tgt : Nat} (hd : decode (gcc M) pc = .ok (.lcmp, 1)) (hd2 : decode (gcc M) (pc + 1) = .ok (.ifCond .ne off, 3)) (ht : ((pc + 1 : Nat) : Int) + off = (tgt : Int)) (kt : x ≠ y → EV l B M Z kc ks tgt ls rest G) (kf : x = y → EV l B M Z kc ks (pc + 1 + 3) ls rest G) : EV l B M Z kc ks pc ls ((1, y) :: (1, x) :: rest) G := by
  refine e_lcmp hd (e_if_ne hd2 ht (fun h => kt ?_) (fun h => kf ?_))
  · revert h; unfold gcmp; intro h; (repeat' split at h) <;> omega
  · revert h; unfold gcmp; intro h; (repeat' split at h) <;> omega

theorem e_lcmp_lt {x y : Int} {off : Int} {tgt : Nat} (hd : decode (gcc M) pc = .ok (.lcmp, 1)) (hd2 : decode (gcc M) (pc + 1) = .ok (.ifCond .lt off, 3)) (ht : ((pc + 1 : Nat) : Int) + off = (tgt : Int)) (kt : x < y → EV l B M Z kc ks tgt ls rest G) (kf : y ≤ x → EV l B M Z kc ks (pc + 1 + 3) ls rest G) : EV l B M Z kc ks pc ls ((1, y) :: (1, x) :: rest) G := by
  refine e_lcmp hd (e_if_lt hd2 ht (fun h => kt ?_) (fun h => kf ?_))
  · revert h; unfold gcmp; intro h; (repeat' split at h) <;> omega
  · revert h; unfold gcmp; intro h; (repeat' split at h) <;> omega

theorem e_lcmp_ge {x y : Int} {off : Int} {tgt : Nat} (hd : decode (gcc M) pc = .ok (.lcmp, 1)) (hd2 : decode (gcc M) (pc + 1) = .ok (.ifCond .ge off, 3)) (ht : ((pc + 1 : Nat) : Int) + off = (tgt : Int)) (kt : y ≤ x → EV l B M Z kc ks tgt ls rest G) (kf : x < y → EV l B M Z kc ks (pc + 1 + 3) ls rest G) : EV l B M Z kc ks pc ls ((1, y) :: (1, x) :: rest) G := by
  refine e_lcmp hd (e_if_ge hd2 ht (fun h => kt ?_) (fun h => kf ?_))
  · revert h; unfold gcmp; intro h; (repeat' split at h) <;> omega
  · revert h; unfold gcmp; intro h; (repeat' split at h) <;> omega

theorem e_lcmp_gt {x y : Int} {off : Int} {tgt : Nat} (hd : decode (gcc M) pc = .ok (.lcmp, 1)) (hd2 : decode (gcc M) (pc + 1) = .ok (.ifCond .gt off, 3)) (ht : ((pc + 1 : Nat) : Int) + off = (tgt : Int)) (kt : y < x → EV l B M Z kc ks tgt ls rest G) (kf : x ≤ y → EV l B M Z kc ks (pc + 1 + 3) ls rest G) : EV l B M Z kc ks pc ls ((1, y) :: (1, x) :: rest) G := by
  refine e_lcmp hd (e_if_gt hd2 ht (fun h => kt ?_) (fun h => kf ?_))
  · revert h; unfold gcmp; intro h; (repeat' split at h) <;> omega
  · revert h; unfold gcmp; intro h; (repeat' split at h) <;> omega

theorem e_lcmp_le {x y : Int} {off : Int} {tgt : Nat} (hd : decode (gcc M) pc = .ok (.lcmp, 1)) (hd2 : decode (gcc M) (pc + 1) = .ok (.ifCond .le off, 3)) (ht : ((pc + 1 : Nat) : Int) + off = (tgt : Int)) (kt : x ≤ y → EV l B M Z kc ks tgt ls rest G) (kf : y < x → EV l B M Z kc ks (pc + 1 + 3) ls rest G) : EV l B M Z kc ks pc ls ((1, y) :: (1, x) :: rest) G := by
  refine e_lcmp hd (e_if_le hd2 ht (fun h => kt ?_) (fun h => kf ?_))
  · revert h; unfold gcmp; intro h; (repeat' split at h) <;> omega
  · revert h; unfold gcmp; intro h; (repeat' split at h) <;> omega

theorem e_tableOut {dflt lo hi : Int} {offs : Array Int} {len : Nat} {x : Int} {tgt : Nat} (hd : decode (gcc M) pc = .ok (.tableswitch dflt lo hi offs, len)) (h : x < lo ∨ hi < x) (ht : (pc : Int) + dflt = (tgt : Int)) (k : EV l B M Z kc ks tgt ls rest G) : EV l B M Z kc ks pc ls ((0, x) :: rest) G := by
  intro p e R s m args below meth c H locs cells slots lsr hX h1 h2 hC hL hS hO
  exact lv_tableOut hX.1 hX.2.1 hd (by rw [tiI (okV_i.mp (List.forall_mem_cons.mp hO).1)]; exact h) ht (k p e R s m args below meth c H locs cells slots lsr hX h1 h2 hC hL hS (List.forall_mem_cons.mp hO).2)

theorem e_tableIn {dflt lo hi : Int} {offs : Array Int} {len : Nat} {x off : Int} {tgt : Nat} (hd : decode (gcc M) pc = .ok (.tableswitch dflt lo hi offs, len)) (hi1 : ¬ x < lo) (hi2 : ¬ hi < x) (ho : offs[(x - lo).toNat]? = some off) (ht : (pc : Int) + off = (tgt : Int)) (k : EV l B M Z kc ks tgt ls rest G) : EV l B M Z kc ks pc ls ((0, x) :: rest) G := by
  intro p e R s m args below meth c H locs cells slots lsr hX h1 h2 hC hL hS hO
  exact lv_tableIn hX.1 hX.2.1 hd (by rw [tiI (okV_i.mp (List.forall_mem_cons.mp hO).1)]; exact hi1) (by rw [tiI (okV_i.mp (List.forall_mem_cons.mp hO).1)]; exact hi2) (by rw [tiI (okV_i.mp (List.forall_mem_cons.mp hO).1)]; exact ho) ht (k p e R s m args below meth c H locs cells slots lsr hX h1 h2 hC hL hS (List.forall_mem_cons.mp hO).2)

end R1
