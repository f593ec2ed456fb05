/-! THE CLASS, 52: what is noted of the movers -/
set_option maxRecDepth 20000 in
set_option maxHeartbeats 4000000 in
theorem sg_Integer_bitCount_0 {e : gE} {b : Nat} {m : Int} {Z : Int → gH → Prop} {kc ks : Nat} {G : gH} {p0 : Int} (h : (inI (p0 - (gand (gushr p0 1) 1431655765))) ∧ (inI ((gand (p0 - (gand (gushr p0 1) 1431655765)) 858993459) + (gand (gushr (p0 - (gand (gushr p0 1) 1431655765)) 2) 858993459))) ∧ (inI (((gand (p0 - (gand (gushr p0 1) 1431655765)) 858993459) + (gand (gushr (p0 - (gand (gushr p0 1) 1431655765)) 2) 858993459)) + (gushr ((gand (p0 - (gand (gushr p0 1) 1431655765)) 858993459) + (gand (gushr (p0 - (gand (gushr p0 1) 1431655765)) 2) 858993459)) 4))) ∧ (inI ((gand (((gand (p0 - (gand (gushr p0 1) 1431655765)) 858993459) + (gand (gushr (p0 - (gand (gushr p0 1) 1431655765)) 2) 858993459)) + (gushr ((gand (p0 - (gand (gushr p0 1) 1431655765)) 858993459) + (gand (gushr (p0 - (gand (gushr p0 1) 1431655765)) 2) 858993459)) 4)) 252645135) + (gushr (gand (((gand (p0 - (gand (gushr p0 1) 1431655765)) 858993459) + (gand (gushr (p0 - (gand (gushr p0 1) 1431655765)) 2) 858993459)) + (gushr ((gand (p0 - (gand (gushr p0 1) 1431655765)) 858993459) + (gand (gushr (p0 - (gand (gushr p0 1) 1431655765)) 2) 858993459)) 4)) 252645135) 8))) ∧ (inI (((gand (((gand (p0 - (gand (gushr p0 1) 1431655765)) 858993459) + (gand (gushr (p0 - (gand (gushr p0 1) 1431655765)) 2) 858993459)) + (gushr ((gand (p0 - (gand (gushr p0 1) 1431655765)) 858993459) + (gand (gushr (p0 - (gand (gushr p0 1) 1431655765)) 2) 858993459)) 4)) 252645135) + (gushr (gand (((gand (p0 - (gand (gushr p0 1) 1431655765)) 858993459) + (gand (gushr (p0 - (gand (gushr p0 1) 1431655765)) 2) 858993459)) + (gushr ((gand (p0 - (gand (gushr p0 1) 1431655765)) 858993459) + (gand (gushr (p0 - (gand (gushr p0 1) 1431655765)) 2) 858993459)) 4)) 252645135) 8)) + (gushr ((gand (((gand (p0 - (gand (gushr p0 1) 1431655765)) 858993459) + (gand (gushr (p0 - (gand (gushr p0 1) 1431655765)) 2) 858993459)) + (gushr ((gand (p0 - (gand (gushr p0 1) 1431655765)) 858993459) + (gand (gushr (p0 - (gand (gushr p0 1) 1431655765)) 2) 858993459)) 4)) 252645135) + (gushr (gand (((gand (p0 - (gand (gushr p0 1) 1431655765)) 858993459) + (gand (gushr (p0 - (gand (gushr p0 1) 1431655765)) 2) 858993459)) + (gushr ((gand (p0 - (gand (gushr p0 1) 1431655765)) 858993459) + (gand (gushr (p0 - (gand (gushr p0 1) 1431655765)) 2) 858993459)) 4)) 252645135) 8)) 16))) ∧ Z (gand (((gand (((gand (p0 - (gand (gushr p0 1) 1431655765)) 858993459) + (gand (gushr (p0 - (gand (gushr p0 1) 1431655765)) 2) 858993459)) + (gushr ((gand (p0 - (gand (gushr p0 1) 1431655765)) 858993459) + (gand (gushr (p0 - (gand (gushr p0 1) 1431655765)) 2) 858993459)) 4)) 252645135) + (gushr (gand (((gand (p0 - (gand (gushr p0 1) 1431655765)) 858993459) + (gand (gushr (p0 - (gand (gushr p0 1) 1431655765)) 2) 858993459)) + (gushr ((gand (p0 - (gand (gushr p0 1) 1431655765)) 858993459) + (gand (gushr (p0 - (gand (gushr p0 1) 1431655765)) 2) 858993459)) 4)) 252645135) 8)) + (gushr ((gand (((gand (p0 - (gand (gushr p0 1) 1431655765)) 858993459) + (gand (gushr (p0 - (gand (gushr p0 1) 1431655765)) 2) 858993459)) + (gushr ((gand (p0 - (gand (gushr p0 1) 1431655765)) 858993459) + (gand (gushr (p0 - (gand (gushr p0 1) 1431655765)) 2) 858993459)) 4)) 252645135) + (gushr (gand (((gand (p0 - (gand (gushr p0 1) 1431655765)) 858993459) + (gand (gushr (p0 - (gand (gushr p0 1) 1431655765)) 2) 858993459)) + (gushr ((gand (p0 - (gand (gushr p0 1) 1431655765)) 858993459) + (gand (gushr (p0 - (gand (gushr p0 1) 1431655765)) 2) 858993459)) 4)) 252645135) 8)) 16)) 63) G) : EX e b m m_Integer_bitCount Z kc ks 0 [(0, p0)] [] G := by
  refine e_iload_n d_Integer_bitCount_0 rfl ?_
  refine e_iload_n d_Integer_bitCount_1 rfl ?_
  refine e_iconst d_Integer_bitCount_2 (by decide) ?_
  refine e_iushr d_Integer_bitCount_3 ?_
  refine e_ldcw 1431655765 d_Integer_bitCount_4 (by decide) w_1231 ?_
  refine e_iand d_Integer_bitCount_7 ?_
  obtain ⟨o1, h⟩ := h
  refine e_isub d_Integer_bitCount_8 o1 ?_
  refine e_istore_n (ls' := [(0, (p0 - (gand (gushr p0 1) 1431655765)))]) d_Integer_bitCount_9 (by decide) rfl ?_
  refine e_iload_n d_Integer_bitCount_10 rfl ?_
  refine e_ldcw 858993459 d_Integer_bitCount_11 (by decide) w_1232 ?_
  refine e_iand d_Integer_bitCount_14 ?_
  refine e_iload_n d_Integer_bitCount_15 rfl ?_
  refine e_iconst d_Integer_bitCount_16 (by decide) ?_
  refine e_iushr d_Integer_bitCount_17 ?_
  refine e_ldcw 858993459 d_Integer_bitCount_18 (by decide) w_1232 ?_
  refine e_iand d_Integer_bitCount_21 ?_
  obtain ⟨o2, h⟩ := h
  refine e_iadd d_Integer_bitCount_22 o2 ?_
  refine e_istore_n (ls' := [(0, ((gand (p0 - (gand (gushr p0 1) 1431655765)) 858993459) + (gand (gushr (p0 - (gand (gushr p0 1) 1431655765)) 2) 858993459)))]) d_Integer_bitCount_23 (by decide) rfl ?_
  refine e_iload_n d_Integer_bitCount_24 rfl ?_
  refine e_iload_n d_Integer_bitCount_25 rfl ?_
  refine e_iconst d_Integer_bitCount_26 (by decide) ?_
  refine e_iushr d_Integer_bitCount_27 ?_
  obtain ⟨o3, h⟩ := h
  refine e_iadd d_Integer_bitCount_28 o3 ?_
  refine e_ldcw 252645135 d_Integer_bitCount_29 (by decide) w_1233 ?_
  refine e_iand d_Integer_bitCount_32 ?_
  refine e_istore_n (ls' := [(0, (gand (((gand (p0 - (gand (gushr p0 1) 1431655765)) 858993459) + (gand (gushr (p0 - (gand (gushr p0 1) 1431655765)) 2) 858993459)) + (gushr ((gand (p0 - (gand (gushr p0 1) 1431655765)) 858993459) + (gand (gushr (p0 - (gand (gushr p0 1) 1431655765)) 2) 858993459)) 4)) 252645135))]) d_Integer_bitCount_33 (by decide) rfl ?_
  refine e_iload_n d_Integer_bitCount_34 rfl ?_
  refine e_iload_n d_Integer_bitCount_35 rfl ?_
  refine e_bipush d_Integer_bitCount_36 (by decide) (by decide) ?_
  refine e_iushr d_Integer_bitCount_38 ?_
  obtain ⟨o4, h⟩ := h
  refine e_iadd d_Integer_bitCount_39 o4 ?_
  refine e_istore_n (ls' := [(0, ((gand (((gand (p0 - (gand (gushr p0 1) 1431655765)) 858993459) + (gand (gushr (p0 - (gand (gushr p0 1) 1431655765)) 2) 858993459)) + (gushr ((gand (p0 - (gand (gushr p0 1) 1431655765)) 858993459) + (gand (gushr (p0 - (gand (gushr p0 1) 1431655765)) 2) 858993459)) 4)) 252645135) + (gushr (gand (((gand (p0 - (gand (gushr p0 1) 1431655765)) 858993459) + (gand (gushr (p0 - (gand (gushr p0 1) 1431655765)) 2) 858993459)) + (gushr ((gand (p0 - (gand (gushr p0 1) 1431655765)) 858993459) + (gand (gushr (p0 - (gand (gushr p0 1) 1431655765)) 2) 858993459)) 4)) 252645135) 8)))]) d_Integer_bitCount_40 (by decide) rfl ?_
  refine e_iload_n d_Integer_bitCount_41 rfl ?_
  refine e_iload_n d_Integer_bitCount_42 rfl ?_
  refine e_bipush d_Integer_bitCount_43 (by decide) (by decide) ?_
  refine e_iushr d_Integer_bitCount_45 ?_
  obtain ⟨o5, h⟩ := h
  refine e_iadd d_Integer_bitCount_46 o5 ?_
  refine e_istore_n (ls' := [(0, (((gand (((gand (p0 - (gand (gushr p0 1) 1431655765)) 858993459) + (gand (gushr (p0 - (gand (gushr p0 1) 1431655765)) 2) 858993459)) + (gushr ((gand (p0 - (gand (gushr p0 1) 1431655765)) 858993459) + (gand (gushr (p0 - (gand (gushr p0 1) 1431655765)) 2) 858993459)) 4)) 252645135) + (gushr (gand (((gand (p0 - (gand (gushr p0 1) 1431655765)) 858993459) + (gand (gushr (p0 - (gand (gushr p0 1) 1431655765)) 2) 858993459)) + (gushr ((gand (p0 - (gand (gushr p0 1) 1431655765)) 858993459) + (gand (gushr (p0 - (gand (gushr p0 1) 1431655765)) 2) 858993459)) 4)) 252645135) 8)) + (gushr ((gand (((gand (p0 - (gand (gushr p0 1) 1431655765)) 858993459) + (gand (gushr (p0 - (gand (gushr p0 1) 1431655765)) 2) 858993459)) + (gushr ((gand (p0 - (gand (gushr p0 1) 1431655765)) 858993459) + (gand (gushr (p0 - (gand (gushr p0 1) 1431655765)) 2) 858993459)) 4)) 252645135) + (gushr (gand (((gand (p0 - (gand (gushr p0 1) 1431655765)) 858993459) + (gand (gushr (p0 - (gand (gushr p0 1) 1431655765)) 2) 858993459)) + (gushr ((gand (p0 - (gand (gushr p0 1) 1431655765)) 858993459) + (gand (gushr (p0 - (gand (gushr p0 1) 1431655765)) 2) 858993459)) 4)) 252645135) 8)) 16)))]) d_Integer_bitCount_47 (by decide) rfl ?_
  refine e_iload_n d_Integer_bitCount_48 rfl ?_
  refine e_bipush d_Integer_bitCount_49 (by decide) (by decide) ?_
  refine e_iand d_Integer_bitCount_51 ?_
  exact e_iret d_Integer_bitCount_52 rfl h
theorem zbc : ∀ x : Fin 256, (inI ((x.val : Int) - (gand (gushr (x.val : Int) 1) 1431655765))) ∧ (inI ((gand ((x.val : Int) - (gand (gushr (x.val : Int) 1) 1431655765)) 858993459) + (gand (gushr ((x.val : Int) - (gand (gushr (x.val : Int) 1) 1431655765)) 2) 858993459))) ∧ (inI (((gand ((x.val : Int) - (gand (gushr (x.val : Int) 1) 1431655765)) 858993459) + (gand (gushr ((x.val : Int) - (gand (gushr (x.val : Int) 1) 1431655765)) 2) 858993459)) + (gushr ((gand ((x.val : Int) - (gand (gushr (x.val : Int) 1) 1431655765)) 858993459) + (gand (gushr ((x.val : Int) - (gand (gushr (x.val : Int) 1) 1431655765)) 2) 858993459)) 4))) ∧ (inI ((gand (((gand ((x.val : Int) - (gand (gushr (x.val : Int) 1) 1431655765)) 858993459) + (gand (gushr ((x.val : Int) - (gand (gushr (x.val : Int) 1) 1431655765)) 2) 858993459)) + (gushr ((gand ((x.val : Int) - (gand (gushr (x.val : Int) 1) 1431655765)) 858993459) + (gand (gushr ((x.val : Int) - (gand (gushr (x.val : Int) 1) 1431655765)) 2) 858993459)) 4)) 252645135) + (gushr (gand (((gand ((x.val : Int) - (gand (gushr (x.val : Int) 1) 1431655765)) 858993459) + (gand (gushr ((x.val : Int) - (gand (gushr (x.val : Int) 1) 1431655765)) 2) 858993459)) + (gushr ((gand ((x.val : Int) - (gand (gushr (x.val : Int) 1) 1431655765)) 858993459) + (gand (gushr ((x.val : Int) - (gand (gushr (x.val : Int) 1) 1431655765)) 2) 858993459)) 4)) 252645135) 8))) ∧ (inI (((gand (((gand ((x.val : Int) - (gand (gushr (x.val : Int) 1) 1431655765)) 858993459) + (gand (gushr ((x.val : Int) - (gand (gushr (x.val : Int) 1) 1431655765)) 2) 858993459)) + (gushr ((gand ((x.val : Int) - (gand (gushr (x.val : Int) 1) 1431655765)) 858993459) + (gand (gushr ((x.val : Int) - (gand (gushr (x.val : Int) 1) 1431655765)) 2) 858993459)) 4)) 252645135) + (gushr (gand (((gand ((x.val : Int) - (gand (gushr (x.val : Int) 1) 1431655765)) 858993459) + (gand (gushr ((x.val : Int) - (gand (gushr (x.val : Int) 1) 1431655765)) 2) 858993459)) + (gushr ((gand ((x.val : Int) - (gand (gushr (x.val : Int) 1) 1431655765)) 858993459) + (gand (gushr ((x.val : Int) - (gand (gushr (x.val : Int) 1) 1431655765)) 2) 858993459)) 4)) 252645135) 8)) + (gushr ((gand (((gand ((x.val : Int) - (gand (gushr (x.val : Int) 1) 1431655765)) 858993459) + (gand (gushr ((x.val : Int) - (gand (gushr (x.val : Int) 1) 1431655765)) 2) 858993459)) + (gushr ((gand ((x.val : Int) - (gand (gushr (x.val : Int) 1) 1431655765)) 858993459) + (gand (gushr ((x.val : Int) - (gand (gushr (x.val : Int) 1) 1431655765)) 2) 858993459)) 4)) 252645135) + (gushr (gand (((gand ((x.val : Int) - (gand (gushr (x.val : Int) 1) 1431655765)) 858993459) + (gand (gushr ((x.val : Int) - (gand (gushr (x.val : Int) 1) 1431655765)) 2) 858993459)) + (gushr ((gand ((x.val : Int) - (gand (gushr (x.val : Int) 1) 1431655765)) 858993459) + (gand (gushr ((x.val : Int) - (gand (gushr (x.val : Int) 1) 1431655765)) 2) 858993459)) 4)) 252645135) 8)) 16))) ∧ (gand (((gand (((gand ((x.val : Int) - (gand (gushr (x.val : Int) 1) 1431655765)) 858993459) + (gand (gushr ((x.val : Int) - (gand (gushr (x.val : Int) 1) 1431655765)) 2) 858993459)) + (gushr ((gand ((x.val : Int) - (gand (gushr (x.val : Int) 1) 1431655765)) 858993459) + (gand (gushr ((x.val : Int) - (gand (gushr (x.val : Int) 1) 1431655765)) 2) 858993459)) 4)) 252645135) + (gushr (gand (((gand ((x.val : Int) - (gand (gushr (x.val : Int) 1) 1431655765)) 858993459) + (gand (gushr ((x.val : Int) - (gand (gushr (x.val : Int) 1) 1431655765)) 2) 858993459)) + (gushr ((gand ((x.val : Int) - (gand (gushr (x.val : Int) 1) 1431655765)) 858993459) + (gand (gushr ((x.val : Int) - (gand (gushr (x.val : Int) 1) 1431655765)) 2) 858993459)) 4)) 252645135) 8)) + (gushr ((gand (((gand ((x.val : Int) - (gand (gushr (x.val : Int) 1) 1431655765)) 858993459) + (gand (gushr ((x.val : Int) - (gand (gushr (x.val : Int) 1) 1431655765)) 2) 858993459)) + (gushr ((gand ((x.val : Int) - (gand (gushr (x.val : Int) 1) 1431655765)) 858993459) + (gand (gushr ((x.val : Int) - (gand (gushr (x.val : Int) 1) 1431655765)) 2) 858993459)) 4)) 252645135) + (gushr (gand (((gand ((x.val : Int) - (gand (gushr (x.val : Int) 1) 1431655765)) 858993459) + (gand (gushr ((x.val : Int) - (gand (gushr (x.val : Int) 1) 1431655765)) 2) 858993459)) + (gushr ((gand ((x.val : Int) - (gand (gushr (x.val : Int) 1) 1431655765)) 858993459) + (gand (gushr ((x.val : Int) - (gand (gushr (x.val : Int) 1) 1431655765)) 2) 858993459)) 4)) 252645135) 8)) 16)) 63) = zS (fun j => if zb (x.val : Int) j then 1 else 0) 8 := by decide +kernel
theorem c_bitCount {e : gE} {b : Nat} {m : Int} {G : gH} {x : Int} (h : 0 ≤ x ∧ x < 256) : GX e b m m_Integer_bitCount [(0, x)] G 0 0 (fun v G1 => v = zS (fun j => if zb x j then 1 else 0) 8 ∧ G1 = G) := by
  obtain ⟨x, rfl⟩ : ∃ k : Nat, x = k := ⟨x.toNat, by omega⟩
  obtain ⟨o1, o2, o3, o4, o5, o6⟩ := zbc ⟨x, by omega⟩
  exact GM.ofJ (by decide +kernel) (Nat.le_of_ble_eq_true rfl) (sg_Integer_bitCount_0 ⟨o1, o2, o3, o4, o5, o6, rfl⟩)
theorem zgor {x y : Nat} (hx : x < 2 ^ 16) (hy : y < 2 ^ 16) : gor (x : Int) (y : Int) = ((x ||| y : Nat) : Int) := by
  have e : Int32.ofInt (x : Int) ||| Int32.ofInt (y : Int) = Int32.ofInt ((x ||| y : Nat) : Int) := by
    rw [Int32.ofInt_eq_ofNat, Int32.ofInt_eq_ofNat, Int32.ofInt_eq_ofNat]
    apply Int32.toBitVec_inj.1
    show BitVec.ofNat 32 x ||| BitVec.ofNat 32 y = BitVec.ofNat 32 (x ||| y)
    apply BitVec.eq_of_getLsbD_eq
    intro i hi
    simp [hi]
  have h : x ||| y < 2 ^ 16 := Nat.or_lt_two_pow hx hy
  have h2 : x ||| y < 65536 := h
  unfold gor
  rw [e, w32_of, w32_id ⟨by omega, by omega⟩]
theorem zb_or {x y j : Int} (hx : 0 ≤ x ∧ x < 256) (hy : 0 ≤ y ∧ y < 256) : (0 ≤ gor x y ∧ gor x y < 256) ∧ (zb (gor x y) j ↔ (zb x j ∨ zb y j)) := by
  obtain ⟨x, rfl⟩ : ∃ k : Nat, x = k := ⟨x.toNat, by omega⟩
  obtain ⟨y, rfl⟩ : ∃ k : Nat, y = k := ⟨y.toNat, by omega⟩
  have h : x ||| y < 2 ^ 8 := Nat.or_lt_two_pow (by omega) (by omega)
  rw [zgor (by omega) (by omega)]
  refine ⟨by omega, ?_⟩
  rw [zb, zb, zb, Int.toNat_natCast, Int.toNat_natCast, Int.toNat_natCast, Nat.testBit_or]
  cases Nat.testBit x j.toNat <;> cases Nat.testBit y j.toNat <;> decide
theorem zgor_add {r j : Int} (hj : 0 ≤ j ∧ j < 8) (hr : 0 ≤ r ∧ r < zp2 j) : gor r (zp2 j) = r + zp2 j := by
  have b1 := zp2_b (n := j + 1) (by omega)
  have es := zp2_s hj.1
  have hp : 0 ≤ zp2 j ∧ zp2 j < 256 := by omega
  have ho := zb_or (j := 0) (x := r) (y := zp2 j) ⟨hr.1, by omega⟩ hp
  refine zb_ext (n := 8) ⟨ho.1.1, by rw [zp2_8]; exact ho.1.2⟩ ⟨by omega, by rw [zp2_8]; omega⟩ (fun i i1 i2 => ?_)
  have e0 := zb_add (x := 0) hj.1 i1 ⟨Int.le_refl 0, zp2_1⟩
  rw [Int.zero_add] at e0
  rw [(zb_or ⟨hr.1, by omega⟩ hp).2, zb_add hj.1 i1 hr, e0]
  exact ⟨fun z => z.elim Or.inl (fun y => y.elim (fun x => absurd x (zb_0 i)) Or.inr), fun z => z.elim Or.inl (fun y => Or.inr (Or.inr y))⟩
/-- the spread's state: movers, and what is noted of those that stay -/
def zSs (e : gE) (b : Nat) (m : Int) (G0 G : gH) (A : zA) (T : Int → Int) (n : Int) (L : Int → Int) : Prop := (zSF b m G0 G ∧ zDst b G) ∧ zAL e b m G ((b : Int) + 24) 10 n (fun k => T (L k)) ∧ (∀ k, 0 ≤ k → k < 4 → G 1 ((b : Int) + 30) k = zTot A k (A 785 0)) ∧ (∀ g k, 0 ≤ g → g < 4 → 0 ≤ k → k < 4 → G 1 ((b : Int) + 31) (g * 4 + k) = zSta A g k (A 785 0)) ∧ ∀ p, 0 ≤ p → p < 5 → G 1 ((b : Int) + 32) p = zTak A p (A 785 0)
theorem zSs_sc {e : gE} {b : Nat} {m : Int} {G0 G G1 : gH} {A : zA} {T L : Int → Int} {n : Int} (h : zSs e b m G0 G A T n L) (o : ∀ (c : Nat) (i j : Int), ¬ ((c = 1 ∨ c = 2) ∧ ((b : Int) + 25 ≤ i ∧ i ≤ (b : Int) + 29)) → G1 c i j = G c i j) : zSs e b m G0 G1 A T n L := by
  obtain ⟨⟨w, d⟩, l, t30, t31, t32⟩ := h
  refine ⟨⟨zSF_t w (zSF_sc (fun c i j z => o c i j (by omega))), fun i j i1 j1 ne z => ?_⟩, zAL_fr (by decide) l (fun i j _ => o _ _ _ (by omega)) (o _ _ _ (by omega)) (o _ _ _ (by omega)) (fun _ j => o _ _ _ (by omega)), fun k k1 k2 => by rw [o 1 _ _ (by omega)]; exact t30 k k1 k2, fun g k g1 g2 k1 k2 => by rw [o 1 _ _ (by omega)]; exact t31 g k g1 g2 k1 k2, fun p p1 p2 => by rw [o 1 _ _ (by omega)]; exact t32 p p1 p2⟩
  rw [o 17 _ _ (by omega), o 17 _ _ (by omega)]
  rw [o 0 _ _ (by omega), o 17 _ _ (by omega)] at z
  exact d i j i1 j1 ne z
/-- loads of sets, and the sets of kinds -/
def zNt (b : Nat) (G : gH) (A : zA) (n : Int) (L : Int → Int) : Prop := (∀ s, 0 ≤ s → s < zp2 n → G 1 ((b : Int) + 28) s = zMS (fun j => A 9 (L j)) s) ∧ ∀ k, 0 ≤ k → k < 4 → (0 ≤ G 1 ((b : Int) + 29) k ∧ G 1 ((b : Int) + 29) k < zp2 n) ∧ ∀ i, 0 ≤ i → i < n → (zb (G 1 ((b : Int) + 29) k) i ↔ A 7 (L i) = k)
set_option maxRecDepth 20000 in
set_option maxHeartbeats 4000000 in
theorem sg_Spread_noteMovers_0 {e : gE} {b : Nat} {m : Int} {Z : Int → gH → Prop} {kc ks : Nat} {G : gH} (h : GX e b m m_Arrays_fill_a [(2, ((b : Int) + 29)), (0, 0)] G 0 0 (fun _ G2 => ∀ G3 : gH, G3 = gU G2 1 ((b : Int) + 28) 0 0 → EX e b m m_Spread_noteMovers Z kc ks 17 [(2, ((b : Int) + 23)), (0, 0), (9, 0), (9, 0), (9, 0)] [] G3)) : EX e b m m_Spread_noteMovers Z kc ks 0 [(2, ((b : Int) + 23)), (9, 0), (9, 0), (9, 0), (9, 0)] [] G := by
  refine e_aload_n d_Spread_noteMovers_0 rfl ?_
  refine gx_Spread_39 d_Spread_noteMovers_1 rfl ?_
  refine e_iconst d_Spread_noteMovers_4 (by decide) ?_
  refine e_callS m_Arrays_fill_a lw_good d_Spread_noteMovers_5 (k_Arrays_fill_a _) ⟨Nat.le_of_ble_eq_true rfl, Nat.le_of_ble_eq_true rfl⟩ w_1129 w_68 (args := [(2, ((b : Int) + 29)), (0, 0)]) rfl rfl (Nat.le_of_ble_eq_true rfl) (kc' := kc) (ks' := ks) (mc := 0) (ms := 0) rfl rfl h ?_
  intro v1 G2 h
  refine e_aload_n d_Spread_noteMovers_8 rfl ?_
  refine gx_Spread_35 d_Spread_noteMovers_9 rfl ?_
  refine e_iconst d_Spread_noteMovers_12 (by decide) ?_
  refine e_iconst d_Spread_noteMovers_13 (by decide) ?_
  refine xC_iast 27 rfl d_Spread_noteMovers_14 (by decide) ?_
  let G3 : gH := gU G2 1 ((b : Int) + 28) 0 0
  have h := h G3 rfl
  refine e_iconst d_Spread_noteMovers_15 (by decide) ?_
  refine e_istore_n (ls' := [(2, ((b : Int) + 23)), (0, 0), (9, 0), (9, 0), (9, 0)]) d_Spread_noteMovers_16 (by decide) rfl ?_
  exact e_forget (ls' := [(2, ((b : Int) + 23)), (0, 0), (9, 0), (9, 0), (9, 0)]) ⟨Or.inr rfl, Or.inr rfl, Or.inl rfl, Or.inl rfl, Or.inl rfl, trivial⟩ h
set_option maxRecDepth 20000 in
set_option maxHeartbeats 4000000 in
theorem sg_Spread_noteMovers_17 {e : gE} {b : Nat} {m : Int} {Z : Int → gH → Prop} {kc ks : Nat} {G : gH} {x1 : Int} (h : ((G 0 ((b : Int) + 24) 0 = 1) ∧ (x1 < (G 18 ((b : Int) + 24) 0) → (x1 < 8 → (G 0 (G 17 ((b : Int) + 24) 0) 0 = 103) ∧ ((0 ≤ x1 ∧ x1 < G 18 ((b : Int) + 24) 0) ∧ ((G 18 ((b : Int) + 24) 0 ≤ G 0 (G 17 ((b : Int) + 24) 0) 1) ∧ ((G 0 (G 3 (G 17 ((b : Int) + 24) 0) x1) 0 = 10) ∧ ((G 0 (G 3 (G 17 ((b : Int) + 24) 0) x1) 0 = 10) ∧ (((¬ (0 ≤ (G 593 (G 3 (G 17 ((b : Int) + 24) 0) x1) 0) ∧ (G 593 (G 3 (G 17 ((b : Int) + 24) 0) x1) 0) ≤ 3)) → EX e b m m_Spread_noteMovers Z kc ks 78 [(2, ((b : Int) + 23)), (0, x1), (2, (G 3 (G 17 ((b : Int) + 24) 0) x1)), (0, (gshl 1 x1)), (0, 0)] [] G) ∧ ((0 ≤ (G 593 (G 3 (G 17 ((b : Int) + 24) 0) x1) 0) ∧ (G 593 (G 3 (G 17 ((b : Int) + 24) 0) x1) 0) ≤ 3) → (0 ≤ (G 593 (G 3 (G 17 ((b : Int) + 24) 0) x1) 0) ∧ (G 593 (G 3 (G 17 ((b : Int) + 24) 0) x1) 0) < 4) ∧ (∀ G16 : gH, G16 = gU G 1 ((b : Int) + 29) (G 593 (G 3 (G 17 ((b : Int) + 24) 0) x1) 0) (gor (G 1 ((b : Int) + 29) (G 593 (G 3 (G 17 ((b : Int) + 24) 0) x1) 0)) (gshl 1 x1)) → EX e b m m_Spread_noteMovers Z kc ks 78 [(2, ((b : Int) + 23)), (0, x1), (2, (G 3 (G 17 ((b : Int) + 24) 0) x1)), (0, (gshl 1 x1)), (0, 0)] [] G16)))))))))) ∧ (((G 18 ((b : Int) + 24) 0) ≤ x1 ∨ (x1 < (G 18 ((b : Int) + 24) 0) ∧ 8 ≤ x1)) → Z 0 G)) : EX e b m m_Spread_noteMovers Z kc ks 17 [(2, ((b : Int) + 23)), (0, x1), (9, 0), (9, 0), (9, 0)] [] G := by
  obtain ⟨h, hJ17⟩ := h
  have kJ17 : ((G 18 ((b : Int) + 24) 0) ≤ x1 ∨ (x1 < (G 18 ((b : Int) + 24) 0) ∧ 8 ≤ x1)) → EX e b m m_Spread_noteMovers Z kc ks 127 [(2, ((b : Int) + 23)), (0, x1), (9, 0), (9, 0), (9, 0)] [] G := by
    intro rJ17
    have h := hJ17 rJ17
    exact e_vret d_Spread_noteMovers_127 rfl h
  refine e_iload_n d_Spread_noteMovers_17 rfl ?_
  refine e_aload_n d_Spread_noteMovers_18 rfl ?_
  refine gx_Spread_22 d_Spread_noteMovers_19 rfl ?_
  refine EV.inv fun hFf1 => ?_
  have f1 := (fx_ct 23 rfl hFf1).1
  obtain ⟨o2, h⟩ := h
  refine e_callV m_AL_size 0 lw_good d_Spread_noteMovers_22 (k_AL_size _) ⟨Nat.le_of_ble_eq_true rfl, Nat.le_of_ble_eq_true rfl⟩ w_1130 w_330 w_331 (q_AL _) rfl f1 (args := []) rfl rfl (Nat.le_of_ble_eq_true rfl) (kc' := kc) (ks' := ks) (mc := 0) (ms := 0) rfl rfl (c_AL_size o2) (pureK ?_)
  refine e_icmp_ge (tgt := 127) d_Spread_noteMovers_25 (by decide) (fun q3 => ?_) (fun q4 => ?_)
  · exact kJ17 (Or.inl q3)
  · have h := h q4
    refine e_iload_n d_Spread_noteMovers_28 rfl ?_
    refine e_bipush d_Spread_noteMovers_29 (by decide) (by decide) ?_
    refine e_icmp_ge (tgt := 127) d_Spread_noteMovers_31 (by decide) (fun q5 => ?_) (fun q6 => ?_)
    · exact kJ17 (Or.inr ⟨q4, q5⟩)
    · have h := h q6
      refine e_aload_n d_Spread_noteMovers_34 rfl ?_
      refine gx_Spread_22 d_Spread_noteMovers_35 rfl ?_
      refine e_iload_n d_Spread_noteMovers_38 rfl ?_
      refine EV.inv fun hFf7 => ?_
      have f7 := (fx_ct 23 rfl hFf7).1
      obtain ⟨o8, o9, o10, h⟩ := h
      refine e_callV m_AL_get 0 lw_good d_Spread_noteMovers_39 (k_AL_get _) ⟨Nat.le_of_ble_eq_true rfl, Nat.le_of_ble_eq_true rfl⟩ w_1131 w_607 w_608 (q_AL _) rfl f7 (args := [(0, x1)]) rfl rfl (Nat.le_of_ble_eq_true rfl) (kc' := kc) (ks' := ks) (mc := 0) (ms := 0) rfl rfl (c_AL_get o2 o8 o9 o10) (pureK ?_)
      obtain ⟨o11, h⟩ := h
      refine e_cast 9 d_Spread_noteMovers_42 (q_Thing _) w_1132 (Or.inr o11) ?_
      refine e_astore_n (ls' := [(2, ((b : Int) + 23)), (0, x1), (2, (G 3 (G 17 ((b : Int) + 24) 0) x1)), (9, 0), (9, 0)]) d_Spread_noteMovers_45 (by decide) rfl ?_
      refine e_iconst d_Spread_noteMovers_46 (by decide) ?_
      refine e_iload_n d_Spread_noteMovers_47 rfl ?_
      refine e_ishl d_Spread_noteMovers_48 ?_
      refine e_istore_n (ls' := [(2, ((b : Int) + 23)), (0, x1), (2, (G 3 (G 17 ((b : Int) + 24) 0) x1)), (0, (gshl 1 x1)), (9, 0)]) d_Spread_noteMovers_49 (by decide) rfl ?_
      refine e_aload_n d_Spread_noteMovers_50 rfl ?_
      obtain ⟨o12, h⟩ := h
      refine e_callV m_Thing_kind 9 lw_good d_Spread_noteMovers_51 (k_Thing_kind _) ⟨Nat.le_of_ble_eq_true rfl, Nat.le_of_ble_eq_true rfl⟩ w_1138 w_1139 w_1140 (q_Thing _) rfl o11 (args := []) rfl rfl (Nat.le_of_ble_eq_true rfl) (kc' := kc) (ks' := ks) (mc := 0) (ms := 0) rfl rfl (c_Thing_kind o12) (pureK ?_)
      refine e_iconst d_Spread_noteMovers_54 (by decide) ?_
      refine e_iconst d_Spread_noteMovers_55 (by decide) ?_
      refine e_callSN m_C_within "MuseumFlight" lw_good d_Spread_noteMovers_56 (k_C_within _) ⟨Nat.le_of_ble_eq_true rfl, Nat.le_of_ble_eq_true rfl⟩ w_1142 w_295 (args := [(0, (G 593 (G 3 (G 17 ((b : Int) + 24) 0) x1) 0)), (0, 0), (0, 3)]) rfl rfl (Nat.le_of_ble_eq_true rfl) (kc' := kc) (ks' := ks) (mc := 0) (ms := 0) rfl rfl (c_C_within) (pureK ?_)
      refine e_if_eq (tgt := 75) d_Spread_noteMovers_59 (by decide) (fun q13 => ?_) (fun q14 => ?_)
      · replace q13 := gb0.mp q13
        have h := h.1 q13
        refine e_iconst d_Spread_noteMovers_75 (by decide) ?_
        refine e_istore (ls' := [(2, ((b : Int) + 23)), (0, x1), (2, (G 3 (G 17 ((b : Int) + 24) 0) x1)), (0, (gshl 1 x1)), (0, 0)]) d_Spread_noteMovers_76 (by decide) rfl ?_
        exact e_forget (ls' := [(2, ((b : Int) + 23)), (0, x1), (2, (G 3 (G 17 ((b : Int) + 24) 0) x1)), (0, (gshl 1 x1)), (0, 0)]) ⟨Or.inr rfl, Or.inr rfl, Or.inr rfl, Or.inr rfl, Or.inr rfl, trivial⟩ h
      · replace q14 := gb1.mp q14
        have h := h.2 q14
        refine e_aload_n d_Spread_noteMovers_62 rfl ?_
        refine gx_Spread_39 d_Spread_noteMovers_63 rfl ?_
        refine e_aload_n d_Spread_noteMovers_66 rfl ?_
        refine e_callV m_Thing_kind 9 lw_good d_Spread_noteMovers_67 (k_Thing_kind _) ⟨Nat.le_of_ble_eq_true rfl, Nat.le_of_ble_eq_true rfl⟩ w_1138 w_1139 w_1140 (q_Thing _) rfl o11 (args := []) rfl rfl (Nat.le_of_ble_eq_true rfl) (kc' := kc) (ks' := ks) (mc := 0) (ms := 0) rfl rfl (c_Thing_kind o12) (pureK ?_)
        refine e_dup2 d_Spread_noteMovers_70 (by simp) (by simp) ?_
        obtain ⟨o15, h⟩ := h
        refine xC_iald 28 rfl d_Spread_noteMovers_71 o15 ?_
        refine e_iload_n d_Spread_noteMovers_72 rfl ?_
        refine e_ior d_Spread_noteMovers_73 ?_
        refine xC_iast 28 rfl d_Spread_noteMovers_74 o15 ?_
        let G16 : gH := gU G 1 ((b : Int) + 29) (G 593 (G 3 (G 17 ((b : Int) + 24) 0) x1) 0) (gor (G 1 ((b : Int) + 29) (G 593 (G 3 (G 17 ((b : Int) + 24) 0) x1) 0)) (gshl 1 x1))
        have h := h G16 rfl
        refine e_iconst d_Spread_noteMovers_75 (by decide) ?_
        refine e_istore (ls' := [(2, ((b : Int) + 23)), (0, x1), (2, (G 3 (G 17 ((b : Int) + 24) 0) x1)), (0, (gshl 1 x1)), (0, 0)]) d_Spread_noteMovers_76 (by decide) rfl ?_
        exact e_forget (ls' := [(2, ((b : Int) + 23)), (0, x1), (2, (G 3 (G 17 ((b : Int) + 24) 0) x1)), (0, (gshl 1 x1)), (0, 0)]) ⟨Or.inr rfl, Or.inr rfl, Or.inr rfl, Or.inr rfl, Or.inr rfl, trivial⟩ h
set_option maxRecDepth 20000 in
set_option maxHeartbeats 4000000 in
theorem sg_Spread_noteMovers_78 {e : gE} {b : Nat} {m : Int} {Z : Int → gH → Prop} {kc ks : Nat} {G : gH} {x1 x2 x3 x4 : Int} (h : (x4 < x3 → (inI (x4 + x3)) ∧ ((x4 + x3) < 256 → (0 ≤ x4 ∧ x4 < 256) ∧ ((G 0 x2 0 = 10) ∧ ((G 0 x2 0 = 10) ∧ ((inI ((G 1 ((b : Int) + 28) x4) + (G 595 x2 0))) ∧ ((0 ≤ (x4 + x3) ∧ (x4 + x3) < 256) ∧ (∀ G11 : gH, G11 = gU G 1 ((b : Int) + 28) (x4 + x3) ((G 1 ((b : Int) + 28) x4) + (G 595 x2 0)) → (inI (x4 + 1)) ∧ EX e b m m_Spread_noteMovers Z kc ks 78 [(2, ((b : Int) + 23)), (0, x1), (2, x2), (0, x3), (0, (x4 + 1))] [] G11))))))) ∧ ((x3 ≤ x4 ∨ (x4 < x3 ∧ 256 ≤ (x4 + x3))) → (inI (x1 + 1)) ∧ EX e b m m_Spread_noteMovers Z kc ks 17 [(2, ((b : Int) + 23)), (0, (x1 + 1)), (9, 0), (9, 0), (9, 0)] [] G)) : EX e b m m_Spread_noteMovers Z kc ks 78 [(2, ((b : Int) + 23)), (0, x1), (2, x2), (0, x3), (0, x4)] [] G := by
  obtain ⟨h, hJ13⟩ := h
  have kJ13 : (x3 ≤ x4 ∨ (x4 < x3 ∧ 256 ≤ (x4 + x3))) → EX e b m m_Spread_noteMovers Z kc ks 121 [(2, ((b : Int) + 23)), (0, x1), (2, x2), (0, x3), (0, x4)] [] G := by
    intro rJ13
    have h := hJ13 rJ13
    obtain ⟨o14, h⟩ := h
    refine e_iinc (ls' := [(2, ((b : Int) + 23)), (0, (x1 + 1)), (2, x2), (0, x3), (0, x4)]) d_Spread_noteMovers_121 rfl (by decide) o14 rfl ?_
    refine e_goto (tgt := 17) d_Spread_noteMovers_124 (by decide) ?_
    exact e_forget (ls' := [(2, ((b : Int) + 23)), (0, (x1 + 1)), (9, 0), (9, 0), (9, 0)]) ⟨Or.inr rfl, Or.inr rfl, Or.inl rfl, Or.inl rfl, Or.inl rfl, trivial⟩ h
  refine e_iload d_Spread_noteMovers_78 rfl ?_
  refine e_iload_n d_Spread_noteMovers_80 rfl ?_
  refine e_icmp_ge (tgt := 121) d_Spread_noteMovers_81 (by decide) (fun q1 => ?_) (fun q2 => ?_)
  · exact kJ13 (Or.inl q1)
  · have h := h q2
    refine e_iload d_Spread_noteMovers_84 rfl ?_
    refine e_iload_n d_Spread_noteMovers_86 rfl ?_
    obtain ⟨o3, h⟩ := h
    refine e_iadd d_Spread_noteMovers_87 o3 ?_
    refine e_sipush d_Spread_noteMovers_88 (by decide) (by decide) ?_
    refine e_icmp_ge (tgt := 121) d_Spread_noteMovers_91 (by decide) (fun q4 => ?_) (fun q5 => ?_)
    · exact kJ13 (Or.inr ⟨q2, q4⟩)
    · have h := h q5
      refine e_aload_n d_Spread_noteMovers_94 rfl ?_
      refine gx_Spread_35 d_Spread_noteMovers_95 rfl ?_
      refine e_iload d_Spread_noteMovers_98 rfl ?_
      refine e_iload_n d_Spread_noteMovers_100 rfl ?_
      refine e_iadd d_Spread_noteMovers_101 o3 ?_
      refine e_aload_n d_Spread_noteMovers_102 rfl ?_
      refine gx_Spread_35 d_Spread_noteMovers_103 rfl ?_
      refine e_iload d_Spread_noteMovers_106 rfl ?_
      obtain ⟨o6, h⟩ := h
      refine xC_iald 27 rfl d_Spread_noteMovers_108 o6 ?_
      refine e_aload_n d_Spread_noteMovers_109 rfl ?_
      obtain ⟨o7, o8, h⟩ := h
      refine e_callV m_Thing_hands 9 lw_good d_Spread_noteMovers_110 (k_Thing_hands _) ⟨Nat.le_of_ble_eq_true rfl, Nat.le_of_ble_eq_true rfl⟩ w_1173 w_709 w_710 (q_Thing _) rfl o7 (args := []) rfl rfl (Nat.le_of_ble_eq_true rfl) (kc' := kc) (ks' := ks) (mc := 0) (ms := 0) rfl rfl (c_Thing_hands o8) (pureK ?_)
      obtain ⟨o9, h⟩ := h
      refine e_iadd d_Spread_noteMovers_113 o9 ?_
      obtain ⟨o10, h⟩ := h
      refine xC_iast 27 rfl d_Spread_noteMovers_114 o10 ?_
      let G11 : gH := gU G 1 ((b : Int) + 28) (x4 + x3) ((G 1 ((b : Int) + 28) x4) + (G 595 x2 0))
      have h := h G11 rfl
      obtain ⟨o12, h⟩ := h
      refine e_iinc (ls' := [(2, ((b : Int) + 23)), (0, x1), (2, x2), (0, x3), (0, (x4 + 1))]) d_Spread_noteMovers_115 rfl (by decide) o12 rfl ?_
      refine e_goto (tgt := 78) d_Spread_noteMovers_118 (by decide) ?_
      exact e_forget (ls' := [(2, ((b : Int) + 23)), (0, x1), (2, x2), (0, x3), (0, (x4 + 1))]) ⟨Or.inr rfl, Or.inr rfl, Or.inr rfl, Or.inr rfl, Or.inr rfl, trivial⟩ h
set_option maxRecDepth 20000 in
set_option maxHeartbeats 4000000 in
theorem sg_Spread_sets_0 {e : gE} {b : Nat} {m : Int} {Z : Int → gH → Prop} {kc ks : Nat} {G : gH} (h : (G 0 ((b : Int) + 24) 0 = 1) ∧ Z (gshl 1 (if 8 < (G 18 ((b : Int) + 24) 0) then 8 else (G 18 ((b : Int) + 24) 0))) G) : EX e b m m_Spread_sets Z kc ks 0 [(2, ((b : Int) + 23))] [] G := by
  refine e_iconst d_Spread_sets_0 (by decide) ?_
  refine e_aload_n d_Spread_sets_1 rfl ?_
  refine gx_Spread_22 d_Spread_sets_2 rfl ?_
  refine EV.inv fun hFf1 => ?_
  have f1 := (fx_ct 23 rfl hFf1).1
  obtain ⟨o2, h⟩ := h
  refine e_callV m_AL_size 0 lw_good d_Spread_sets_5 (k_AL_size _) ⟨Nat.le_of_ble_eq_true rfl, Nat.le_of_ble_eq_true rfl⟩ w_1130 w_330 w_331 (q_AL _) rfl f1 (args := []) rfl rfl (Nat.le_of_ble_eq_true rfl) (kc' := kc) (ks' := ks) (mc := 0) (ms := 0) rfl rfl (c_AL_size o2) (pureK ?_)
  refine e_bipush d_Spread_sets_8 (by decide) (by decide) ?_
  refine e_callS m_Math_min_a lw_good d_Spread_sets_10 (k_Math_min_a _) ⟨Nat.le_of_ble_eq_true rfl, Nat.le_of_ble_eq_true rfl⟩ w_1217 w_406 (args := [(0, (G 18 ((b : Int) + 24) 0)), (0, 8)]) rfl rfl (Nat.le_of_ble_eq_true rfl) (kc' := kc) (ks' := ks) (mc := 0) (ms := 0) rfl rfl (c_Math_min_a) (pureK ?_)
  refine e_ishl d_Spread_sets_13 ?_
  exact e_iret d_Spread_sets_14 rfl h
set_option maxRecDepth 20000 in
set_option maxHeartbeats 4000000 in
theorem sg_Spread_mostIn_0 {e : gE} {b : Nat} {m : Int} {Z : Int → gH → Prop} {kc ks : Nat} {G : gH} {p1 p2 : Int} (h : (inI (p1 * 4)) ∧ ((inI ((p1 * 4) + p2)) ∧ (((¬ (0 ≤ ((p1 * 4) + p2) ∧ ((p1 * 4) + p2) ≤ (16 - 1))) → ((¬ (0 ≤ p2 ∧ p2 ≤ 3)) → (inI (0 - (if 0 ≤ p2 ∧ p2 < 4 then G 1 ((b : Int) + 22) p2 else 0))) ∧ (inI ((0 - (if 0 ≤ p2 ∧ p2 < 4 then G 1 ((b : Int) + 22) p2 else 0)) - 0)) ∧ Z ((0 - (if 0 ≤ p2 ∧ p2 < 4 then G 1 ((b : Int) + 22) p2 else 0)) - 0) G) ∧ ((0 ≤ p2 ∧ p2 ≤ 3) → (0 ≤ p2 ∧ p2 < 4) ∧ (inI ((G 1 ((b : Int) + 30) p2) - (if 0 ≤ p2 ∧ p2 < 4 then G 1 ((b : Int) + 22) p2 else 0))) ∧ (inI (((G 1 ((b : Int) + 30) p2) - (if 0 ≤ p2 ∧ p2 < 4 then G 1 ((b : Int) + 22) p2 else 0)) - 0)) ∧ Z (((G 1 ((b : Int) + 30) p2) - (if 0 ≤ p2 ∧ p2 < 4 then G 1 ((b : Int) + 22) p2 else 0)) - 0) G)) ∧ ((0 ≤ ((p1 * 4) + p2) ∧ ((p1 * 4) + p2) ≤ (16 - 1)) → (0 ≤ ((p1 * 4) + p2) ∧ ((p1 * 4) + p2) < 16) ∧ (((¬ (0 ≤ p2 ∧ p2 ≤ 3)) → (inI (0 - (if 0 ≤ p2 ∧ p2 < 4 then G 1 ((b : Int) + 22) p2 else 0))) ∧ (inI ((0 - (if 0 ≤ p2 ∧ p2 < 4 then G 1 ((b : Int) + 22) p2 else 0)) - (G 1 ((b : Int) + 31) ((p1 * 4) + p2)))) ∧ Z ((0 - (if 0 ≤ p2 ∧ p2 < 4 then G 1 ((b : Int) + 22) p2 else 0)) - (G 1 ((b : Int) + 31) ((p1 * 4) + p2))) G) ∧ ((0 ≤ p2 ∧ p2 ≤ 3) → (0 ≤ p2 ∧ p2 < 4) ∧ (inI ((G 1 ((b : Int) + 30) p2) - (if 0 ≤ p2 ∧ p2 < 4 then G 1 ((b : Int) + 22) p2 else 0))) ∧ (inI (((G 1 ((b : Int) + 30) p2) - (if 0 ≤ p2 ∧ p2 < 4 then G 1 ((b : Int) + 22) p2 else 0)) - (G 1 ((b : Int) + 31) ((p1 * 4) + p2)))) ∧ Z (((G 1 ((b : Int) + 30) p2) - (if 0 ≤ p2 ∧ p2 < 4 then G 1 ((b : Int) + 22) p2 else 0)) - (G 1 ((b : Int) + 31) ((p1 * 4) + p2))) G)))))) : EX e b m m_Spread_mostIn Z kc ks 0 [(2, ((b : Int) + 23)), (0, p1), (0, p2), (9, 0), (9, 0), (9, 0)] [] G := by
  refine e_iload_n d_Spread_mostIn_0 rfl ?_
  refine e_iconst d_Spread_mostIn_1 (by decide) ?_
  obtain ⟨o1, h⟩ := h
  refine e_imul d_Spread_mostIn_2 o1 ?_
  refine e_iload_n d_Spread_mostIn_3 rfl ?_
  obtain ⟨o2, h⟩ := h
  refine e_iadd d_Spread_mostIn_4 o2 ?_
  refine e_istore_n (ls' := [(2, ((b : Int) + 23)), (0, p1), (0, p2), (0, ((p1 * 4) + p2)), (9, 0), (9, 0)]) d_Spread_mostIn_5 (by decide) rfl ?_
  refine e_iload_n d_Spread_mostIn_6 rfl ?_
  refine e_iconst d_Spread_mostIn_7 (by decide) ?_
  refine e_aload_n d_Spread_mostIn_8 rfl ?_
  refine gx_Spread_45 d_Spread_mostIn_9 rfl ?_
  refine xC_alen 30 rfl d_Spread_mostIn_12 (by decide) ?_
  refine e_iconst d_Spread_mostIn_13 (by decide) ?_
  refine e_isub d_Spread_mostIn_14 (by decide) ?_
  refine e_callSN m_C_within "MuseumFlight" lw_good d_Spread_mostIn_15 (k_C_within _) ⟨Nat.le_of_ble_eq_true rfl, Nat.le_of_ble_eq_true rfl⟩ w_1142 w_295 (args := [(0, ((p1 * 4) + p2)), (0, 0), (0, (16 - 1))]) rfl rfl (Nat.le_of_ble_eq_true rfl) (kc' := kc) (ks' := ks) (mc := 0) (ms := 0) rfl rfl (c_C_within) (pureK ?_)
  refine e_if_eq (tgt := 30) d_Spread_mostIn_18 (by decide) (fun q3 => ?_) (fun q4 => ?_)
  · replace q3 := gb0.mp q3
    have h := h.1 q3
    refine e_iconst d_Spread_mostIn_30 (by decide) ?_
    refine e_istore (ls' := [(2, ((b : Int) + 23)), (0, p1), (0, p2), (0, ((p1 * 4) + p2)), (0, 0), (9, 0)]) d_Spread_mostIn_31 (by decide) rfl ?_
    refine e_iload_n d_Spread_mostIn_33 rfl ?_
    refine e_iconst d_Spread_mostIn_34 (by decide) ?_
    refine e_iconst d_Spread_mostIn_35 (by decide) ?_
    refine e_callSN m_C_within "MuseumFlight" lw_good d_Spread_mostIn_36 (k_C_within _) ⟨Nat.le_of_ble_eq_true rfl, Nat.le_of_ble_eq_true rfl⟩ w_1142 w_295 (args := [(0, p2), (0, 0), (0, 3)]) rfl rfl (Nat.le_of_ble_eq_true rfl) (kc' := kc) (ks' := ks) (mc := 0) (ms := 0) rfl rfl (c_C_within) (pureK ?_)
    refine e_if_eq (tgt := 51) d_Spread_mostIn_39 (by decide) (fun q6 => ?_) (fun q7 => ?_)
    · replace q6 := gb0.mp q6
      have h := h.1 q6
      refine e_iconst d_Spread_mostIn_51 (by decide) ?_
      refine e_istore (ls' := [(2, ((b : Int) + 23)), (0, p1), (0, p2), (0, ((p1 * 4) + p2)), (0, 0), (0, 0)]) d_Spread_mostIn_52 (by decide) rfl ?_
      refine e_iload d_Spread_mostIn_54 rfl ?_
      refine e_aload_n d_Spread_mostIn_56 rfl ?_
      refine gx_Spread_15 d_Spread_mostIn_57 rfl ?_
      refine e_iload_n d_Spread_mostIn_60 rfl ?_
      refine EV.inv fun hFf12 => ?_
      have f12 := (fx_ct 17 rfl hFf12).1
      refine e_callV m_Years_keepOf 10 lw_good d_Spread_mostIn_61 (k_Years_keepOf _) ⟨Nat.le_of_ble_eq_true rfl, Nat.le_of_ble_eq_true rfl⟩ w_1223 w_1103 w_1104 (q_Years _) rfl f12 (args := [(0, p2)]) rfl rfl (Nat.le_of_ble_eq_true rfl) (kc' := kc) (ks' := ks) (mc := 0) (ms := 0) rfl rfl (c_Years_keepOf) (pureK ?_)
      obtain ⟨o13, h⟩ := h
      refine e_isub d_Spread_mostIn_64 o13 ?_
      refine e_iload d_Spread_mostIn_65 rfl ?_
      obtain ⟨o14, h⟩ := h
      refine e_isub d_Spread_mostIn_67 o14 ?_
      exact e_iret d_Spread_mostIn_68 rfl h
    · replace q7 := gb1.mp q7
      have h := h.2 q7
      refine e_aload_n d_Spread_mostIn_42 rfl ?_
      refine gx_Spread_42 d_Spread_mostIn_43 rfl ?_
      refine e_iload_n d_Spread_mostIn_46 rfl ?_
      obtain ⟨o8, h⟩ := h
      refine xC_iald 29 rfl d_Spread_mostIn_47 o8 ?_
      refine e_goto (tgt := 52) d_Spread_mostIn_48 (by decide) ?_
      refine e_istore (ls' := [(2, ((b : Int) + 23)), (0, p1), (0, p2), (0, ((p1 * 4) + p2)), (0, 0), (0, (G 1 ((b : Int) + 30) p2))]) d_Spread_mostIn_52 (by decide) rfl ?_
      refine e_iload d_Spread_mostIn_54 rfl ?_
      refine e_aload_n d_Spread_mostIn_56 rfl ?_
      refine gx_Spread_15 d_Spread_mostIn_57 rfl ?_
      refine e_iload_n d_Spread_mostIn_60 rfl ?_
      refine EV.inv fun hFf15 => ?_
      have f15 := (fx_ct 17 rfl hFf15).1
      refine e_callV m_Years_keepOf 10 lw_good d_Spread_mostIn_61 (k_Years_keepOf _) ⟨Nat.le_of_ble_eq_true rfl, Nat.le_of_ble_eq_true rfl⟩ w_1223 w_1103 w_1104 (q_Years _) rfl f15 (args := [(0, p2)]) rfl rfl (Nat.le_of_ble_eq_true rfl) (kc' := kc) (ks' := ks) (mc := 0) (ms := 0) rfl rfl (c_Years_keepOf) (pureK ?_)
      obtain ⟨o16, h⟩ := h
      refine e_isub d_Spread_mostIn_64 o16 ?_
      refine e_iload d_Spread_mostIn_65 rfl ?_
      obtain ⟨o17, h⟩ := h
      refine e_isub d_Spread_mostIn_67 o17 ?_
      exact e_iret d_Spread_mostIn_68 rfl h
  · replace q4 := gb1.mp q4
    have h := h.2 q4
    refine e_aload_n d_Spread_mostIn_21 rfl ?_
    refine gx_Spread_45 d_Spread_mostIn_22 rfl ?_
    refine e_iload_n d_Spread_mostIn_25 rfl ?_
    obtain ⟨o5, h⟩ := h
    refine xC_iald 30 rfl d_Spread_mostIn_26 o5 ?_
    refine e_goto (tgt := 31) d_Spread_mostIn_27 (by decide) ?_
    refine e_istore (ls' := [(2, ((b : Int) + 23)), (0, p1), (0, p2), (0, ((p1 * 4) + p2)), (0, (G 1 ((b : Int) + 31) ((p1 * 4) + p2))), (9, 0)]) d_Spread_mostIn_31 (by decide) rfl ?_
    refine e_iload_n d_Spread_mostIn_33 rfl ?_
    refine e_iconst d_Spread_mostIn_34 (by decide) ?_
    refine e_iconst d_Spread_mostIn_35 (by decide) ?_
    refine e_callSN m_C_within "MuseumFlight" lw_good d_Spread_mostIn_36 (k_C_within _) ⟨Nat.le_of_ble_eq_true rfl, Nat.le_of_ble_eq_true rfl⟩ w_1142 w_295 (args := [(0, p2), (0, 0), (0, 3)]) rfl rfl (Nat.le_of_ble_eq_true rfl) (kc' := kc) (ks' := ks) (mc := 0) (ms := 0) rfl rfl (c_C_within) (pureK ?_)
    refine e_if_eq (tgt := 51) d_Spread_mostIn_39 (by decide) (fun q9 => ?_) (fun q10 => ?_)
    · replace q9 := gb0.mp q9
      have h := h.1 q9
      refine e_iconst d_Spread_mostIn_51 (by decide) ?_
      refine e_istore (ls' := [(2, ((b : Int) + 23)), (0, p1), (0, p2), (0, ((p1 * 4) + p2)), (0, (G 1 ((b : Int) + 31) ((p1 * 4) + p2))), (0, 0)]) d_Spread_mostIn_52 (by decide) rfl ?_
      refine e_iload d_Spread_mostIn_54 rfl ?_
      refine e_aload_n d_Spread_mostIn_56 rfl ?_
      refine gx_Spread_15 d_Spread_mostIn_57 rfl ?_
      refine e_iload_n d_Spread_mostIn_60 rfl ?_
      refine EV.inv fun hFf18 => ?_
      have f18 := (fx_ct 17 rfl hFf18).1
      refine e_callV m_Years_keepOf 10 lw_good d_Spread_mostIn_61 (k_Years_keepOf _) ⟨Nat.le_of_ble_eq_true rfl, Nat.le_of_ble_eq_true rfl⟩ w_1223 w_1103 w_1104 (q_Years _) rfl f18 (args := [(0, p2)]) rfl rfl (Nat.le_of_ble_eq_true rfl) (kc' := kc) (ks' := ks) (mc := 0) (ms := 0) rfl rfl (c_Years_keepOf) (pureK ?_)
      obtain ⟨o19, h⟩ := h
      refine e_isub d_Spread_mostIn_64 o19 ?_
      refine e_iload d_Spread_mostIn_65 rfl ?_
      obtain ⟨o20, h⟩ := h
      refine e_isub d_Spread_mostIn_67 o20 ?_
      exact e_iret d_Spread_mostIn_68 rfl h
    · replace q10 := gb1.mp q10
      have h := h.2 q10
      refine e_aload_n d_Spread_mostIn_42 rfl ?_
      refine gx_Spread_42 d_Spread_mostIn_43 rfl ?_
      refine e_iload_n d_Spread_mostIn_46 rfl ?_
      obtain ⟨o11, h⟩ := h
      refine xC_iald 29 rfl d_Spread_mostIn_47 o11 ?_
      refine e_goto (tgt := 52) d_Spread_mostIn_48 (by decide) ?_
      refine e_istore (ls' := [(2, ((b : Int) + 23)), (0, p1), (0, p2), (0, ((p1 * 4) + p2)), (0, (G 1 ((b : Int) + 31) ((p1 * 4) + p2))), (0, (G 1 ((b : Int) + 30) p2))]) d_Spread_mostIn_52 (by decide) rfl ?_
      refine e_iload d_Spread_mostIn_54 rfl ?_
      refine e_aload_n d_Spread_mostIn_56 rfl ?_
      refine gx_Spread_15 d_Spread_mostIn_57 rfl ?_
      refine e_iload_n d_Spread_mostIn_60 rfl ?_
      refine EV.inv fun hFf21 => ?_
      have f21 := (fx_ct 17 rfl hFf21).1
      refine e_callV m_Years_keepOf 10 lw_good d_Spread_mostIn_61 (k_Years_keepOf _) ⟨Nat.le_of_ble_eq_true rfl, Nat.le_of_ble_eq_true rfl⟩ w_1223 w_1103 w_1104 (q_Years _) rfl f21 (args := [(0, p2)]) rfl rfl (Nat.le_of_ble_eq_true rfl) (kc' := kc) (ks' := ks) (mc := 0) (ms := 0) rfl rfl (c_Years_keepOf) (pureK ?_)
      obtain ⟨o22, h⟩ := h
      refine e_isub d_Spread_mostIn_64 o22 ?_
      refine e_iload d_Spread_mostIn_65 rfl ?_
      obtain ⟨o23, h⟩ := h
      refine e_isub d_Spread_mostIn_67 o23 ?_
      exact e_iret d_Spread_mostIn_68 rfl h
set_option maxRecDepth 20000 in
set_option maxHeartbeats 4000000 in
theorem sg_Spread_strikeAbove_0 {e : gE} {b : Nat} {m : Int} {Z : Int → gH → Prop} {kc ks : Nat} {G : gH} {p1 p2 : Int} (h : EX e b m m_Spread_strikeAbove Z kc ks 2 [(2, ((b : Int) + 23)), (0, p1), (0, p2), (0, 0)] [] G) : EX e b m m_Spread_strikeAbove Z kc ks 0 [(2, ((b : Int) + 23)), (0, p1), (0, p2), (9, 0)] [] G := by
  refine e_iconst d_Spread_strikeAbove_0 (by decide) ?_
  refine e_istore_n (ls' := [(2, ((b : Int) + 23)), (0, p1), (0, p2), (0, 0)]) d_Spread_strikeAbove_1 (by decide) rfl ?_
  exact e_forget (ls' := [(2, ((b : Int) + 23)), (0, p1), (0, p2), (0, 0)]) ⟨Or.inr rfl, Or.inr rfl, Or.inr rfl, Or.inr rfl, trivial⟩ h
set_option maxRecDepth 20000 in
set_option maxHeartbeats 4000000 in
theorem sg_Spread_strikeAbove_2 {e : gE} {b : Nat} {m : Int} {Z : Int → gH → Prop} {kc ks : Nat} {G : gH} {p1 p2 x3 : Int} (h : GX e b m m_Spread_sets [(2, ((b : Int) + 23))] G 0 0 (fun v2 G3 => (x3 < v2 → (x3 < 256 → GX e b m m_Integer_bitCount [(0, (gand x3 p2))] G3 0 0 (fun v8 G9 => (v8 ≤ p1 → (inI (x3 + 1)) ∧ EX e b m m_Spread_strikeAbove Z kc ks 2 [(2, ((b : Int) + 23)), (0, p1), (0, p2), (0, (x3 + 1))] [] G9) ∧ (p1 < v8 → (0 ≤ x3 ∧ x3 < 256) ∧ (∀ G13 : gH, G13 = gU G9 2 ((b : Int) + 26) x3 (-4611686018427387904) → (inI (x3 + 1)) ∧ EX e b m m_Spread_strikeAbove Z kc ks 2 [(2, ((b : Int) + 23)), (0, p1), (0, p2), (0, (x3 + 1))] [] G13))))) ∧ ((v2 ≤ x3 ∨ (x3 < v2 ∧ 256 ≤ x3)) → Z 0 G3))) : EX e b m m_Spread_strikeAbove Z kc ks 2 [(2, ((b : Int) + 23)), (0, p1), (0, p2), (0, x3)] [] G := by
  refine e_iload_n d_Spread_strikeAbove_2 rfl ?_
  refine e_aload_n d_Spread_strikeAbove_3 rfl ?_
  refine EV.inv fun hFf1 => ?_
  have f1 := (fx_ct 22 rfl hFf1).1
  refine e_callV m_Spread_sets 7 lw_good d_Spread_strikeAbove_4 (k_Spread_sets _) ⟨Nat.le_of_ble_eq_true rfl, Nat.le_of_ble_eq_true rfl⟩ w_1213 w_1215 w_s37 (q_Spread _) rfl f1 (args := []) rfl rfl (Nat.le_of_ble_eq_true rfl) (kc' := kc) (ks' := ks) (mc := 0) (ms := 0) rfl rfl h ?_
  intro v2 G3 h
  obtain ⟨h, hJ16⟩ := h
  have kJ16 : (v2 ≤ x3 ∨ (x3 < v2 ∧ 256 ≤ x3)) → EX e b m m_Spread_strikeAbove Z kc ks 42 [(2, ((b : Int) + 23)), (0, p1), (0, p2), (0, x3)] [] G3 := by
    intro rJ16
    have h := hJ16 rJ16
    exact e_vret d_Spread_strikeAbove_42 rfl h
  refine e_icmp_ge (tgt := 42) d_Spread_strikeAbove_7 (by decide) (fun q4 => ?_) (fun q5 => ?_)
  · exact kJ16 (Or.inl q4)
  · have h := h q5
    refine e_iload_n d_Spread_strikeAbove_10 rfl ?_
    refine e_sipush d_Spread_strikeAbove_11 (by decide) (by decide) ?_
    refine e_icmp_ge (tgt := 42) d_Spread_strikeAbove_14 (by decide) (fun q6 => ?_) (fun q7 => ?_)
    · exact kJ16 (Or.inr ⟨q5, q6⟩)
    · have h := h q7
      refine e_iload_n d_Spread_strikeAbove_17 rfl ?_
      refine e_iload_n d_Spread_strikeAbove_18 rfl ?_
      refine e_iand d_Spread_strikeAbove_19 ?_
      refine e_callS m_Integer_bitCount lw_good d_Spread_strikeAbove_20 (k_Integer_bitCount _) ⟨Nat.le_of_ble_eq_true rfl, Nat.le_of_ble_eq_true rfl⟩ w_1228 w_1229 (args := [(0, (gand x3 p2))]) rfl rfl (Nat.le_of_ble_eq_true rfl) (kc' := kc) (ks' := ks) (mc := 0) (ms := 0) rfl rfl h ?_
      intro v8 G9 h
      refine e_iload_n d_Spread_strikeAbove_23 rfl ?_
      refine e_icmp_le (tgt := 36) d_Spread_strikeAbove_24 (by decide) (fun q10 => ?_) (fun q11 => ?_)
      · have h := h.1 q10
        obtain ⟨o14, h⟩ := h
        refine e_iinc (ls' := [(2, ((b : Int) + 23)), (0, p1), (0, p2), (0, (x3 + 1))]) d_Spread_strikeAbove_36 rfl (by decide) o14 rfl ?_
        refine e_goto (tgt := 2) d_Spread_strikeAbove_39 (by decide) ?_
        exact e_forget (ls' := [(2, ((b : Int) + 23)), (0, p1), (0, p2), (0, (x3 + 1))]) ⟨Or.inr rfl, Or.inr rfl, Or.inr rfl, Or.inr rfl, trivial⟩ h
      · have h := h.2 q11
        refine e_aload_n d_Spread_strikeAbove_27 rfl ?_
        refine gx_Spread_29 d_Spread_strikeAbove_28 rfl ?_
        refine e_iload_n d_Spread_strikeAbove_31 rfl ?_
        refine e_ldc2 (-4611686018427387904) d_Spread_strikeAbove_32 (by decide) (by have h9 := w_1211; rw [show (-4611686018427387904 : Int64) = Int64.ofInt (-4611686018427387904) from by decide] at h9; exact h9) ?_
        obtain ⟨o12, h⟩ := h
        refine xC_last 25 rfl d_Spread_strikeAbove_35 o12 ?_
        let G13 : gH := gU G9 2 ((b : Int) + 26) x3 (-4611686018427387904)
        have h := h G13 rfl
        obtain ⟨o15, h⟩ := h
        refine e_iinc (ls' := [(2, ((b : Int) + 23)), (0, p1), (0, p2), (0, (x3 + 1))]) d_Spread_strikeAbove_36 rfl (by decide) o15 rfl ?_
        refine e_goto (tgt := 2) d_Spread_strikeAbove_39 (by decide) ?_
        exact e_forget (ls' := [(2, ((b : Int) + 23)), (0, p1), (0, p2), (0, (x3 + 1))]) ⟨Or.inr rfl, Or.inr rfl, Or.inr rfl, Or.inr rfl, trivial⟩ h
theorem c_sets {e : gE} {b : Nat} {m : Int} {G : gH} {tg n : Int} {f : Int → Int} (hl : zAL e b m G ((b : Int) + 24) tg n f) (hn : 0 ≤ n ∧ n ≤ 8) : GX e b m m_Spread_sets [(2, ((b : Int) + 23))] G 0 0 (fun v G1 => v = zp2 n ∧ G1 = G) := by
  refine GM.ofEV (by decide) (Nat.le_of_ble_eq_true rfl) (sg_Spread_sets_0 ?_)
  rw [hl.2.1, if_neg (show ¬ 8 < n by omega), zshl1 hn]
  exact ⟨hl.1, rfl, rfl⟩
theorem c_noteMovers {e : gE} {b : Nat} {m : Int} {G0 G : gH} {A : zA} {T L τ : Int → Int} {n : Int} (hB : zB 512 A) (hs : zSs e b m G0 G A T n L) (hT : zRkT e b m G A T τ) (hE : zEnum (zMv A) (fun _ => 0) (A 785 0) n L) (hn : n ≤ 8) : GX e b m m_Spread_noteMovers [(2, ((b : Int) + 23))] G 0 0 (fun _ G1 => zSs e b m G0 G1 A T n L ∧ zNt b G1 A n L) := by
  have l := hs.2.1
  have n0 := hE.1.1
  have bh : ∀ t, 0 ≤ A 9 t ∧ A 9 t ≤ 4 := fun t => hB 9 t
  have bk : ∀ t, 0 ≤ A 7 t ∧ A 7 t ≤ 3 := fun t => hB 7 t
  have bM : ∀ s, 0 ≤ zMS (fun j => A 9 (L j)) s ∧ zMS (fun j => A 9 (L j)) s ≤ 32 := fun s => by
    have k := zMS_b (w := fun j => A 9 (L j)) (s := s) (c := 4) (d := 0) (fun i i1 i2 z => by
      have := bh (L i)
      show -0 ≤ A 9 (L i) ∧ A 9 (L i) ≤ 4
      omega) (by decide) (by decide)
    omega
  refine GM.inv fun hF => ?_
  have f29 : G 0 ((b : Int) + 29) 0 = 100 ∧ G 0 ((b : Int) + 29) 1 = 4 := by
    obtain ⟨⟨h1, -⟩, -⟩ := hF
    exact h1 (29, 100, 4) (by decide)
  refine GM.ofEV (by decide) (Nat.le_of_ble_eq_true rfl) (sg_Spread_noteMovers_0 (GM.mono (c_Arrays_fill_a f29.1 (by omega) (by omega)) ?_))
  rintro _ G1 ⟨o1, v1⟩
  rintro _ rfl
  have p0 : zp2 0 = 1 := by decide
  refine zloop (P := fun j => ∀ G2 : gH, (∀ (c : Nat) (i k : Int), ¬ (c = 1 ∧ (i = (b : Int) + 28 ∨ i = (b : Int) + 29)) → G2 c i k = G c i k) → (∀ s, 0 ≤ s → s < zp2 j → G2 1 ((b : Int) + 28) s = zMS (fun j => A 9 (L j)) s) → (∀ k, 0 ≤ k → k < 4 → (0 ≤ G2 1 ((b : Int) + 29) k ∧ G2 1 ((b : Int) + 29) k < zp2 j) ∧ ∀ i, 0 ≤ i → i < j → (zb (G2 1 ((b : Int) + 29) k) i ↔ A 7 (L i) = k)) → EX e b m m_Spread_noteMovers _ 0 0 17 [(2, ((b : Int) + 23)), (0, j), (9, 0), (9, 0), (9, 0)] [] G2) (i := 0) n n0 ?_ ?_ _ (fun c i k z => by rw [gU_ne (by omega), o1 c i k (by omega)]) (fun s s1 s2 => by rw [show s = 0 by omega, gU_eq, zMS_0]) (fun k k1 k2 => ⟨by rw [gU_k (by decide), v1 k k1 (by omega), p0]; decide, fun i i1 i2 => by omega⟩)
  · intro G2 o hv hk
    refine sg_Spread_noteMovers_17 ?_
    rw [o 18 _ _ (by omega), l.2.1]
    exact ⟨⟨(o 0 _ _ (by omega)).trans l.1, fun z => absurd z (by omega)⟩, fun _ => ⟨zSs_sc hs (fun c i j z => o c i j (by omega)), hv, hk⟩⟩
  · intro j j1 j2 st G2 o hv hk
    have b8 := zp2_b (n := j + 1) (by omega)
    have bj := zp2_1 (n := j)
    have es := zp2_s j1
    have w := zAL_g l ⟨j1, j2⟩
    obtain ⟨⟨o3, o4⟩, -⟩ := hE.2.1 j j1 j2
    have tt := (hT.2.1 (L j) o3 o4).1
    have bkj := bk (L j)
    have bhj := bh (L j)
    have ek : G2 593 (T (L j)) 0 = A 7 (L j) := (o _ _ _ (by omega)).trans tt.2.2.1
    have inner : ∀ G3 : gH, (∀ (c : Nat) (i k : Int), ¬ (c = 1 ∧ (i = (b : Int) + 28 ∨ i = (b : Int) + 29)) → G3 c i k = G c i k) → (∀ s, 0 ≤ s → s < zp2 j → G3 1 ((b : Int) + 28) s = zMS (fun j => A 9 (L j)) s) → (∀ k, 0 ≤ k → k < 4 → (0 ≤ G3 1 ((b : Int) + 29) k ∧ G3 1 ((b : Int) + 29) k < zp2 (j + 1)) ∧ ∀ i, 0 ≤ i → i < j + 1 → (zb (G3 1 ((b : Int) + 29) k) i ↔ A 7 (L i) = k)) → EX e b m m_Spread_noteMovers (fun _ G1 => zSs e b m G0 G1 A T n L ∧ zNt b G1 A n L) 0 0 78 [(2, ((b : Int) + 23)), (0, j), (2, T (L j)), (0, zp2 j), (0, 0)] [] G3 := by
      intro G3 o3' hv3 hk3
      refine zloop (P := fun r => ∀ G4 : gH, (∀ (c : Nat) (i k : Int), ¬ (c = 1 ∧ i = (b : Int) + 28) → G4 c i k = G3 c i k) → (∀ s, 0 ≤ s → s < zp2 j + r → G4 1 ((b : Int) + 28) s = zMS (fun j => A 9 (L j)) s) → EX e b m m_Spread_noteMovers _ 0 0 78 [(2, ((b : Int) + 23)), (0, j), (2, T (L j)), (0, zp2 j), (0, r)] [] G4) (i := 0) (zp2 j) (by omega) ?_ ?_ G3 (fun _ _ _ _ => rfl) (fun s s1 s2 => hv3 s s1 (by omega))
      · intro G4 q hv4
        refine sg_Spread_noteMovers_78 ⟨fun z => absurd z (by omega), fun _ => ⟨by omega, st G4 (fun c i k z => by rw [q c i k (by omega), o3' c i k z]) (fun s s1 s2 => hv4 s s1 (by omega)) (fun k k1 k2 => ?_)⟩⟩
        rw [q 1 _ _ (by omega)]
        exact hk3 k k1 k2
      · intro r r1 r2 st2 G4 q hv4
        have er := hv4 r r1 (by omega)
        have br := bM r
        have k0 : G4 0 (T (L j)) 0 = 10 := by rw [q 0 _ _ (by omega), o3' 0 _ _ (by omega)]; exact tt.1.1
        have kh : G4 595 (T (L j)) 0 = A 9 (L j) := by rw [q _ _ _ (by omega), o3' _ _ _ (by omega)]; exact tt.2.2.2.2.1
        refine sg_Spread_noteMovers_78 ⟨fun _ => ⟨by omega, fun _ => ⟨⟨r1, by omega⟩, k0, k0, ?_⟩⟩, fun z => absurd z (by omega)⟩
        rw [er, kh]
        refine ⟨by omega, ⟨by omega, by omega⟩, ?_⟩
        rintro _ rfl
        refine ⟨by omega, st2 _ (fun c i k z => by rw [gU_ne (by omega), q c i k z]) (fun s s1 s2 => ?_)⟩
        by_cases z : s = r + zp2 j
        · rw [z, gU_eq, zMS_add ⟨j1, by omega⟩ ⟨r1, r2⟩]
        · rw [gU_j z]
          exact hv4 s s1 (by omega)
    refine sg_Spread_noteMovers_17 ?_
    rw [o 18 _ _ (by omega), l.2.1, o 17 _ _ (by omega), o 3 _ _ (by omega), w.2.2.1, ek, zshl1 ⟨j1, by omega⟩, o 0 (G 17 ((b : Int) + 24) 0) 0 (by omega), o 0 (G 17 ((b : Int) + 24) 0) 1 (by omega), o 0 (T (L j)) 0 (by omega)]
    refine ⟨⟨(o 0 _ _ (by omega)).trans l.1, fun _ _ => ⟨w.1, ⟨j1, j2⟩, w.2.1, w.2.2.2, w.2.2.2, fun z => absurd z (by omega), fun _ => ⟨⟨bkj.1, by omega⟩, ?_⟩⟩⟩, fun z => absurd z (by omega)⟩
    rintro _ rfl
    have h0 := hk (A 7 (L j)) bkj.1 (by omega)
    rw [zgor_add ⟨j1, by omega⟩ h0.1]
    refine inner _ (fun c i k z => by rw [gU_ne (by omega), o c i k z]) (fun s s1 s2 => by rw [gU_k (by decide)]; exact hv s s1 s2) (fun k k1 k2 => ?_)
    by_cases z : k = A 7 (L j)
    · rw [z, gU_eq]
      refine ⟨by omega, fun i i1 i2 => ?_⟩
      rw [zb_add j1 i1 h0.1]
      by_cases y : i = j
      · rw [y]; exact ⟨fun _ => rfl, fun _ => Or.inr rfl⟩
      · rw [h0.2 i i1 (by omega)]
        exact ⟨fun x => x.elim id (fun q => absurd q y), Or.inl⟩
    · rw [gU_j z]
      have h1 := hk k k1 k2
      refine ⟨by omega, fun i i1 i2 => ?_⟩
      by_cases y : i = j
      · rw [y]
        exact ⟨fun x => absurd x (zb_hi h1.1 (Int.le_refl _)), fun x => absurd x.symm z⟩
      · exact h1.2 i i1 (by omega)
theorem c_mostIn {e : gE} {b : Nat} {m : Int} {G0 G : gH} {A : zA} {T L : Int → Int} {n g k : Int} (hB : zB 512 A) (hs : zSs e b m G0 G A T n L) (r4 : zR4 b G A) (hg : 0 ≤ g ∧ g < 4) (hk : 0 ≤ k ∧ k < 4) : GX e b m m_Spread_mostIn [(2, ((b : Int) + 23)), (0, g), (0, k)] G 0 0 (fun v G1 => v = zMo A g k ∧ G1 = G) := by
  have b0 : 0 ≤ A 785 0 ∧ A 785 0 ≤ 16 := hB 785 0
  have bb := zTak_b (p := 0) hB b0
  have b1 := bb.2.1 k
  have b2 := bb.2.2 g k
  have b3 : 0 ≤ A 31 k ∧ A 31 k ≤ 9 := hB 31 k
  refine GM.ofEV (by decide) (Nat.le_of_ble_eq_true rfl) (sg_Spread_mostIn_0 ?_)
  rw [hs.2.2.1 k hk.1 hk.2, hs.2.2.2.1 g k hg.1 hg.2 hk.1 hk.2, (r4.1 k hk.1 hk.2).2.2, if_pos hk]
  refine ⟨by omega, by omega, fun z => absurd z (by omega), fun _ => ⟨⟨by omega, by omega⟩, fun z => absurd z (by omega), fun _ => ⟨hk, by omega, by omega, ?_, rfl⟩⟩⟩
  unfold zMo
  rfl
theorem zCs_e {A : zA} {L : Int → Int} {n s k ks : Int} (hn : 0 ≤ n ∧ n ≤ 8) (hs : 0 ≤ s ∧ s < zp2 n) (hk : 0 ≤ ks ∧ ks < zp2 n) (h : ∀ i, 0 ≤ i → i < n → (zb ks i ↔ A 7 (L i) = k)) : zS (fun j => if zb (gand s ks) j then 1 else 0) 8 = zCs A L n s k := by
  have b8 := zp2_b hn.2
  have b1 := zgand_b (x := s) (y := ks) ⟨hs.1, by omega⟩ ⟨hk.1, by omega⟩
  have e : zS (fun j => if zb (gand s ks) j then (1 : Int) else 0) 8 = zS (fun j => if zb (gand s ks) j then 1 else 0) n := zMS_n (w := fun _ => 1) hn ⟨b1.1, by omega⟩
  rw [e]
  refine zS_eq n hn.1 (fun j j1 j2 => ?_)
  show (if zb (gand s ks) j then (1 : Int) else 0) = if zb s j ∧ A 7 (L j) = k then 1 else 0
  have w := zb_and (j := j) (x := s) (y := ks) ⟨hs.1, by omega⟩ ⟨hk.1, by omega⟩
  by_cases z : zb s j ∧ A 7 (L j) = k
  · rw [if_pos z, if_pos (w.2 ⟨z.1, (h j j1 j2).2 z.2⟩)]
  · rw [if_neg z, if_neg (fun y => z ⟨(w.1 y).1, (h j j1 j2).1 (w.1 y).2⟩)]
theorem c_strikeAbove {e : gE} {b : Nat} {m : Int} {G : gH} {A : zA} {L f : Int → Int} {tg n k ks mo : Int} (hl : zAL e b m G ((b : Int) + 24) tg n f) (hn : 0 ≤ n ∧ n ≤ 8) (hk : 0 ≤ ks ∧ ks < zp2 n) (h : ∀ i, 0 ≤ i → i < n → (zb ks i ↔ A 7 (L i) = k)) : GX e b m m_Spread_strikeAbove [(2, ((b : Int) + 23)), (0, mo), (0, ks)] G 0 0 (fun _ G1 => zO2 ((b : Int) + 26) G G1 ∧ ∀ s, 0 ≤ s → s < zp2 n → G1 2 ((b : Int) + 26) s = if mo < zCs A L n s k then (-4611686018427387904) else G 2 ((b : Int) + 26) s) := by
  have b8 := zp2_b hn.2
  refine GM.ofEV (by decide) (Nat.le_of_ble_eq_true rfl) (sg_Spread_strikeAbove_0 ?_)
  refine zloop (P := fun x => ∀ G1 : gH, zO2 ((b : Int) + 26) G G1 → (∀ s, 0 ≤ s → s < zp2 n → G1 2 ((b : Int) + 26) s = if s < x ∧ mo < zCs A L n s k then (-4611686018427387904) else G 2 ((b : Int) + 26) s) → EX e b m m_Spread_strikeAbove _ 0 0 2 [(2, ((b : Int) + 23)), (0, mo), (0, ks), (0, x)] [] G1) (i := 0) (zp2 n) (by omega) ?_ ?_ G zO2_r (fun s s1 s2 => by rw [if_neg (fun z => by omega)])
  · intro G1 o hv
    refine sg_Spread_strikeAbove_2 ?_
    refine GM.ofEV (by decide) (Nat.le_of_ble_eq_true rfl) (sg_Spread_sets_0 ?_)
    rw [o 18 _ _ (fun z => absurd z (by decide)), hl.2.1, if_neg (show ¬ 8 < n by omega), zshl1 hn]
    refine ⟨(o 0 _ _ (fun z => absurd z (by decide))).trans hl.1, fun z => absurd z (by omega), fun _ => ⟨o, fun s s1 s2 => ?_⟩⟩
    rw [hv s s1 s2]
    by_cases z : mo < zCs A L n s k
    · rw [if_pos z, if_pos ⟨s2, z⟩]
    · rw [if_neg z, if_neg (fun y => z y.2)]
  · intro x x1 x2 st G1 o hv
    have b1 := zgand_b (x := x) (y := ks) ⟨x1, by omega⟩ ⟨hk.1, by omega⟩
    refine sg_Spread_strikeAbove_2 ?_
    refine GM.ofEV (by decide) (Nat.le_of_ble_eq_true rfl) (sg_Spread_sets_0 ?_)
    rw [o 18 _ _ (fun z => absurd z (by decide)), hl.2.1, if_neg (show ¬ 8 < n by omega), zshl1 hn]
    refine ⟨(o 0 _ _ (fun z => absurd z (by decide))).trans hl.1, fun _ _ => GM.mono (c_bitCount ⟨b1.1, by omega⟩) ?_, fun z => absurd z (by omega)⟩
    rintro v G2 ⟨hv2, rfl⟩
    rw [zCs_e hn ⟨x1, x2⟩ hk h] at hv2
    refine ⟨fun c => ⟨by omega, st G2 o (fun s s1 s2 => ?_)⟩, fun c => ⟨⟨x1, by omega⟩, ?_⟩⟩
    · rw [hv s s1 s2]
      by_cases z : s = x
      · rw [z, if_neg (fun y => by omega), if_neg (fun y => by omega)]
      · by_cases y : s < x ∧ mo < zCs A L n s k
        · rw [if_pos y, if_pos ⟨by omega, y.2⟩]
        · rw [if_neg y, if_neg (fun q => y ⟨by omega, q.2⟩)]
    · rintro _ rfl
      refine ⟨by omega, st _ (zO2_u o) (fun s s1 s2 => ?_)⟩
      by_cases z : s = x
      · rw [z, gU_eq, if_pos ⟨by omega, by omega⟩]
      · rw [gU_j z, hv s s1 s2]
        by_cases y : s < x ∧ mo < zCs A L n s k
        · rw [if_pos y, if_pos ⟨by omega, y.2⟩]
        · rw [if_neg y, if_neg (fun q => y ⟨by omega, q.2⟩)]
