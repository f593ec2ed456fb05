/-! THE REFERENCE, 2: sums and searches -/
/-- things there are, in bounds -/
abbrev zT (A : zA) : Prop := 0 ≤ A 785 0 ∧ A 785 0 ≤ 16
set_option maxRecDepth 20000 in
set_option maxHeartbeats 4000000 in
theorem sg_M_inRooms_0 {e : gE} {b : Nat} {m : Int} {Z : Int → gH → Prop} {kc ks : Nat} {G : gH} (h : EX e b m m_M_inRooms Z kc ks 4 [(2, (m + 0)), (0, 0), (0, 0)] [] G) : EX e b m m_M_inRooms Z kc ks 0 [(2, (m + 0)), (9, 0), (9, 0)] [] G := by
  refine e_iconst d_M_inRooms_0 (by decide) ?_
  refine e_istore_n (ls' := [(2, (m + 0)), (0, 0), (9, 0)]) d_M_inRooms_1 (by decide) rfl ?_
  refine e_iconst d_M_inRooms_2 (by decide) ?_
  refine e_istore_n (ls' := [(2, (m + 0)), (0, 0), (0, 0)]) d_M_inRooms_3 (by decide) rfl ?_
  exact e_forget (ls' := [(2, (m + 0)), (0, 0), (0, 0)]) ⟨Or.inr rfl, Or.inr rfl, Or.inr rfl, trivial⟩ h
set_option maxRecDepth 20000 in
set_option maxHeartbeats 4000000 in
theorem sg_M_inRooms_4 {e : gE} {b : Nat} {m : Int} {Z : Int → gH → Prop} {kc ks : Nat} {G : gH} {x1 x2 : Int} (h : ((zM m G 785 0) ≤ x2 → Z x1 G) ∧ (x2 < (zM m G 785 0) → (0 ≤ x2 ∧ x2 < 16) ∧ (((¬ (zIn (zM m G) x2)) → (inI (x2 + 1)) ∧ EX e b m m_M_inRooms Z kc ks 4 [(2, (m + 0)), (0, x1), (0, (x2 + 1))] [] G) ∧ (zIn (zM m G) x2 → (inI (x1 + 1)) ∧ (inI (x2 + 1)) ∧ EX e b m m_M_inRooms Z kc ks 4 [(2, (m + 0)), (0, (x1 + 1)), (0, (x2 + 1))] [] G)))) : EX e b m m_M_inRooms Z kc ks 4 [(2, (m + 0)), (0, x1), (0, x2)] [] G := by
  refine e_iload_n d_M_inRooms_4 rfl ?_
  refine e_aload_n d_M_inRooms_5 rfl ?_
  refine gx_M_151 d_M_inRooms_6 rfl ?_
  refine e_icmp_ge (tgt := 29) d_M_inRooms_9 (by decide) (fun q1 => ?_) (fun q2 => ?_)
  · have h := h.1 q1
    refine e_iload_n d_M_inRooms_29 rfl ?_
    exact e_iret d_M_inRooms_30 rfl h
  · have h := h.2 q2
    refine e_aload_n d_M_inRooms_12 rfl ?_
    refine e_iload_n d_M_inRooms_13 rfl ?_
    refine EV.inv fun hFf3 => ?_
    have f3 := (fx_mt 0 rfl hFf3).1
    obtain ⟨o4, h⟩ := h
    refine e_callV m_M_isInRoom 12 lw_good d_M_inRooms_14 (k_M_isInRoom _) ⟨Nat.le_of_ble_eq_true rfl, Nat.le_of_ble_eq_true rfl⟩ w_1624 w_1626 w_s50 (q_M _) rfl f3 (args := [(0, x2)]) rfl rfl (Nat.le_of_ble_eq_true rfl) (kc' := kc) (ks' := ks) (mc := 0) (ms := 0) rfl rfl (c_M_isInRoom o4) (pureK ?_)
    refine e_if_eq (tgt := 23) d_M_inRooms_17 (by decide) (fun q5 => ?_) (fun q6 => ?_)
    · replace q5 := gb0.mp q5
      have h := h.1 q5
      obtain ⟨o8, h⟩ := h
      refine e_iinc (ls' := [(2, (m + 0)), (0, x1), (0, (x2 + 1))]) d_M_inRooms_23 rfl (by decide) o8 rfl ?_
      refine e_goto (tgt := 4) d_M_inRooms_26 (by decide) ?_
      exact e_forget (ls' := [(2, (m + 0)), (0, x1), (0, (x2 + 1))]) ⟨Or.inr rfl, Or.inr rfl, Or.inr rfl, trivial⟩ h
    · replace q6 := gb1.mp q6
      have h := h.2 q6
      obtain ⟨o7, h⟩ := h
      refine e_iinc (ls' := [(2, (m + 0)), (0, (x1 + 1)), (0, x2)]) d_M_inRooms_20 rfl (by decide) o7 rfl ?_
      obtain ⟨o9, h⟩ := h
      refine e_iinc (ls' := [(2, (m + 0)), (0, (x1 + 1)), (0, (x2 + 1))]) d_M_inRooms_23 rfl (by decide) o9 rfl ?_
      refine e_goto (tgt := 4) d_M_inRooms_26 (by decide) ?_
      exact e_forget (ls' := [(2, (m + 0)), (0, (x1 + 1)), (0, (x2 + 1))]) ⟨Or.inr rfl, Or.inr rfl, Or.inr rfl, trivial⟩ h
def zRooms (A : zA) : Int := zS (fun t => if zIn A t then 1 else 0) (A 785 0)
theorem zRooms_b {A : zA} (h : zT A) : 0 ≤ zRooms A ∧ zRooms A ≤ 16 := by
  have := zS_b (f := fun t => if zIn A t then 1 else 0) (c := 1) (A 785 0) (fun i _ _ => z01) h.1 (by omega)
  unfold zRooms; omega
theorem l_M_inRooms {e : gE} {b : Nat} {m : Int} {Z : Int → gH → Prop} {kc ks : Nat} {G : gH} (hT : zT (zM m G)) (hZ : Z (zRooms (zM m G)) G) : EX e b m m_M_inRooms Z kc ks 4 [(2, (m + 0)), (0, 0), (0, 0)] [] G := by
  refine zloop (P := fun i => EX e b m m_M_inRooms Z kc ks 4 [(2, (m + 0)), (0, zS (fun t => if zIn (zM m G) t then 1 else 0) i), (0, i)] [] G) (zM m G 785 0) hT.1 ?_ ?_
  · exact sg_M_inRooms_4 ⟨fun _ => hZ, fun q => absurd q (by omega)⟩
  · intro j h1 h2 ih
    have b1 := zS_b (f := fun t => if zIn (zM m G) t then 1 else 0) (c := 1) j (fun i _ _ => z01) h1 (by omega)
    refine sg_M_inRooms_4 ⟨fun q => absurd q (by omega), fun _ => ⟨by omega, fun q => ⟨by omega, ?_⟩, fun q => ⟨by omega, by omega, ?_⟩⟩⟩
    · rw [zS_z h1 (if_neg q)] at ih; exact ih
    · rw [zS_s h1, if_pos q] at ih; exact ih
theorem c_M_inRooms {e : gE} {b : Nat} {m : Int} {G : gH} (h1 : zT (zM m G)) : GX e b m m_M_inRooms [(2, (m + 0))] G 0 0 (fun v9 G9 => v9 = (zRooms (zM m G) : Int) ∧ G9 = G) := by
  refine GM.ofEV (by decide) (Nat.le_of_ble_eq_true rfl) (sg_M_inRooms_0 ?_)
  exact l_M_inRooms h1 ⟨rfl, rfl⟩
