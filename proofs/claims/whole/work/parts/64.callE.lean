/-! THE CLASS, 15: status, papers -/
theorem c_C_howManyAt {e : gE} {b : Nat} {m : Int} {G : gH} {A : zA} {T τ : Int → Int} {w : Int} (hT : zRkT e b m G A T τ) (hB : zB 512 A) (hw : 0 ≤ w ∧ w ≤ 1000) : GX e b m m_C_howManyAt [(2, ((b : Int) + 1)), (0, w)] G 0 0 (fun v G1 => v = zCount A w (w + 100) ∧ G1 = G) := by
  have b0 : 0 ≤ A 785 0 ∧ A 785 0 ≤ 16 := hB 785 0
  obtain ⟨y1, y2, y3⟩ := zTa_p hT hB
  refine GM.ofEV (by decide) (Nat.le_of_ble_eq_true rfl) (sg_C_howManyAt_0 ?_)
  refine zloop (P := fun i => EX e b m m_C_howManyAt (fun v G1 => v = zCount A w (w + 100) ∧ G1 = G) 0 0 4 [(2, ((b : Int) + 1)), (0, w), (0, zS (fun t => if w ≤ A 11 t ∧ A 11 t < w + 100 then 1 else 0) i), (0, i)] [] G) (i := 0) (A 785 0) b0.1 ?_ ?_
  · refine sg_C_howManyAt_4 ?_
    rw [hT.1.2.1]
    exact ⟨y2, fun _ => ⟨rfl, rfl⟩, fun q => absurd q (by omega)⟩
  · intro j j1 j2 st
    have bs := zS_b (f := fun t => if w ≤ A 11 t ∧ A 11 t < w + 100 then (1 : Int) else 0) (c := 1) j (fun i _ _ => z01) j1 (by decide)
    have ye := zTa_e hT j
    rw [hT.1.2.1] at y3 ye
    have y4 := y3 j ⟨j1, j2⟩
    rw [if_pos ⟨j1, j2⟩, if_pos ⟨j1, j2⟩] at ye
    have wt := (hT.2.1 j j1 j2).1.2.2.2.2.2.2.1
    rw [ye] at y4
    refine sg_C_howManyAt_4 ?_
    rw [hT.1.2.1, ye, wt]
    rw [zS_s j1] at st
    refine ⟨y2, fun q => absurd q (by omega), fun _ => ⟨y4.1, ⟨j1, j2⟩, y4.2.1, y4.2.2, y4.2.2, by omega, fun q => ⟨by omega, ?_⟩, fun q => ⟨by omega, by omega, ?_⟩⟩⟩
    · rw [if_neg q] at st
      rw [show zS (fun t => if w ≤ A 11 t ∧ A 11 t < w + 100 then (1 : Int) else 0) j + 0 = zS (fun t => if w ≤ A 11 t ∧ A 11 t < w + 100 then (1 : Int) else 0) j from by omega] at st
      exact st
    · rw [if_pos q] at st; exact st
theorem zCount_9 {A : zA} (h : zB 512 A) : zCount A 600 700 = zCount A 600 610 := by
  have b0 : 0 ≤ A 785 0 ∧ A 785 0 ≤ 16 := h 785 0
  refine zS_eq (A 785 0) b0.1 (fun t _ _ => ?_)
  have bw : 0 ≤ A 11 t ∧ A 11 t ≤ 609 := h 11 t
  show (if 600 ≤ A 11 t ∧ A 11 t < 700 then (1 : Int) else 0) = if 600 ≤ A 11 t ∧ A 11 t < 610 then 1 else 0
  split <;> split <;> omega
theorem c_C_status {e : gE} {b : Nat} {m : Int} {G : gH} {A : zA} {p1 : Int} (hR : zRel e b m G A) (hB : zB 512 A) : GX e b m m_C_status [(2, ((b : Int) + 1)), (0, p1)] G 0 0 (zCQ e b m G (zfStatus A p1, A)) := by
  have hr := hR
  obtain ⟨T, Q, P, ⟨r1, r2, r3, r4⟩, hT, hQ, hP, -⟩ := hr
  obtain ⟨y1, y2, y3⟩ := zTa_p hT hB
  refine GM.ofEV (by decide) (Nat.le_of_ble_eq_true rfl) (sg_C_status_0 ⟨fun n1 => ⟨fun n2 => ⟨fun q => ⟨y2, zCQ_mk ?_ hR zRf_r⟩, fun q => zCQ_mk ?_ hR zRf_r, fun q => ⟨hQ.1.1, zCQ_mk ?_ hR zRf_r⟩, fun q => ⟨hP.1.1, zCQ_mk ?_ hR zRf_r⟩, fun q => zCQ_mk ?_ hR zRf_r, fun q => zCQ_mk ?_ hR zRf_r, fun q => zCQ_mk ?_ hR zRf_r, fun q => zCQ_mk ?_ hR zRf_r, fun q => zCQ_mk ?_ hR zRf_r⟩, fun q => ⟨by omega, by omega, zCQ_mk ?_ hR zRf_r⟩⟩, fun q => ⟨by omega, by omega, ?_⟩⟩)
  · subst q; exact hT.1.2.1
  · subst q; exact r1.2.2
  · subst q; exact hQ.1.2.1
  · subst q; exact hP.1.2.1
  · subst q; exact r2.2.2.2.1
  · subst q; exact r2.1
  · subst q; exact r4.2.1
  · subst q; exact r4.2.2
  · unfold zfStatus
    rw [if_neg (by omega), if_neg (by omega), if_neg (by omega), if_neg (by omega), if_neg (by omega), if_neg (by omega), if_neg (by omega), if_neg (by omega), if_neg (by omega), if_neg (by omega), if_neg (by omega), if_neg (by omega), if_neg (by omega), if_neg (by omega), if_neg (by omega)]
  · unfold zfStatus
    rw [if_pos (by omega)]
    exact r3.2 _ (by omega) (by omega)
  · refine GM.mono (c_C_howManyAt hT hB (by omega)) ?_
    rintro v G1 ⟨rfl, rfl⟩
    refine zCQ_mk ?_ hR zRf_r
    have hq : p1 = 4 ∨ p1 = 5 ∨ p1 = 6 ∨ p1 = 7 ∨ p1 = 8 ∨ p1 = 9 := by omega
    rcases hq with z | z | z | z | z | z <;> subst z
    · rfl
    · rfl
    · rfl
    · rfl
    · rfl
    · exact zCount_9 hB
