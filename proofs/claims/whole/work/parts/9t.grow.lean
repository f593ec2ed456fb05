/-! THE LAW, 2: every call keeps things and seals -/
theorem g_band {k f t : Int} {A : zA} : zGw A (zfBand A k f t).2 := by
  unfold zfBand
  (repeat' split) <;> first | exact zGw_no | exact zGw_c (zCh_t zCh_u zCh_u) (by decide)
theorem g_keep {k f : Int} {A : zA} : zGw A (zfKeep A k f).2 := by
  unfold zfKeep
  (repeat' split) <;> first | exact zGw_no | exact zGw_c zCh_u (by decide)
theorem g_fuel {f : Int} {A : zA} : zGw A (zfFuel A f).2 := by
  unfold zfFuel
  split
  · exact zGw_no
  · exact zGw_c zCh_u (by decide)
theorem g_place {p g mi : Int} {A : zA} : zGw A (zfPlace A p g mi).2 := by
  unfold zfPlace
  (repeat' split) <;> first | exact zGw_no | exact zGw_c (zCh_t (zCh_t (zCh_t zCh_u zCh_u) zCh_u) zCh_u) (by decide)
theorem g_paper {t w f u : Int} {A : zA} : zGw A (zfPaper A t w f u).2 := by
  unfold zfPaper
  (repeat' split) <;> first | exact zGw_no | exact zGw_c (zCh_t (zCh_t (zCh_t zCh_u zCh_u) zCh_u) zCh_u) (by decide)
theorem g_show {s t : Int} {A : zA} : zGw A (zfShow A s t).2 := by
  unfold zfShow
  split
  · exact zGw_no
  · exact zGw_c (zCh_t zCh_u zCh_u) (by decide)
theorem g_set {s i v : Int} {A : zA} : zGw A (zfSet A s i v).2 := by
  unfold zfSet
  (repeat' split) <;> first | exact zGw_no | exact zGw_c zCh_u (by decide)
theorem g_row {s o x : Int} {A : zA} : zGw A (zfRow A s o x).2 := by
  unfold zfRow
  (repeat' split) <;> first | exact zGw_no | exact zGw_c (zCh_t (zCh_t (zCh_t zCh_u zCh_u) zCh_u) zCh_V) (by decide)
theorem g_copy {p q i j x : Int} {A : zA} : zGw A (zfCopy A p q i j x).2 := by
  unfold zfCopy
  (repeat' split) <;> first | exact zGw_no | exact zGw_c zCh_V (by decide)
theorem g_air {p s : Int} {A : zA} : zGw A (zfAir A p s).2 := by
  unfold zfAir
  (repeat' split) <;> first | exact zGw_no | exact zGw_c (zCh_t (zCh_t zCh_u zCh_u) zCh_V) (by decide)
theorem g_thing {k w u r p : Int} {A : zA} : zGw A (zfThing A k w u r p).2 := by
  unfold zfThing
  (repeat' split) <;> first | exact zGw_no | exact zGw_puts
theorem g_team {k : Int} {A : zA} : zGw A (zfTeam A k).2 := by
  unfold zfTeam
  (repeat' split) <;> first | exact zGw_no | exact zGw_c (zCh_t zCh_u zCh_u) (by decide)
theorem g_f {A B : zA} {v : Int} (h : zGw (zU A 793 0 v) B) : zGw A B := zGw_t (zGw_c zCh_u (by decide)) h
theorem g_label {s : Int} {A : zA} : zGw A (zfLabel A s).2 := by
  unfold zfLabel
  (repeat' split) <;> first | exact zGw_no | exact g_f zGw_no | exact g_f zGw_puts
theorem g_found {n t : Int} {A : zA} (h : zInv n A) : zGw A (zfFound A t).2 := by
  have bs : 0 ≤ A 794 0 := (h.i.b 794 0).1
  unfold zfFound
  (repeat' split) <;> first | exact zGw_no | exact zGw_go bs
theorem g_giveBack {n t y : Int} {A : zA} (h : zInv n A) : zGw A (zfGiveBack A t y).2 := by
  have bs : 0 ≤ A 794 0 := (h.i.b 794 0).1
  unfold zfGiveBack
  (repeat' split) <;> first | exact zGw_no | exact zGw_go bs
theorem g_move {n t p : Int} {A : zA} (h : zInv n A) : zGw A (zfMove A t p).2 := by
  have bs : 0 ≤ A 794 0 := (h.i.b 794 0).1
  unfold zfMove
  (repeat' split) <;> first | exact zGw_no | exact zGw_t (zGw_c zCh_u (by decide)) (zGw_go bs)
abbrev zGs0 (A B : zA) : Prop := zGw A B ∧ 0 ≤ B 794 0
theorem g_go {A X : zA} {t w : Int} (h : zGs0 A X) : zGs0 A (zGo X t w) := ⟨zGw_t h.1 (zGw_go h.2), by rw [zGo_n]; have := h.2; omega⟩
theorem g_c {A X Y : zA} {ks : List Nat} (h : zGs0 A X) (q : zCh ks X Y) (hk : ∀ k ∈ [35, 785, 794], k ∉ ks) : zGs0 A Y := ⟨zGw_t h.1 (zGw_c q hk), by rw [q 794 (hk _ (by decide))]; exact h.2⟩
theorem g_lose {n g : Int} {A : zA} (h : zInv n A) : zGw A (zfLose A g).2 := by
  have bs : 0 ≤ A 794 0 := (h.i.b 794 0).1
  have b0 : 0 ≤ A 785 0 := (h.i.b 785 0).1
  unfold zfLose
  split
  · exact zGw_no
  split
  · exact zGw_no
  refine (zF_i (I := fun _ r => zGs0 A r.2) (A 785 0) b0 ⟨zGw_r, bs⟩ (fun i r i1 i2 hi => ?_)).1
  unfold zLose1
  split
  · exact g_go hi
  · exact hi
theorem g_spread {n x : Int} {A : zA} (h : zInv n A) : zGw A (zfSpread A x).2 := by
  have bs : 0 ≤ A 794 0 := (h.i.b 794 0).1
  unfold zfSpread
  split
  · exact zGw_no
  split
  · exact zGw_no
  split
  · exact zGw_no
  split
  · exact zGw_r
  split
  · exact zGw_no
  have n0 : 0 ≤ (zMn A).1 := by
    by_cases hm : ∃ p : Int × (Int → Int), zEnum (zMv A) (fun _ => 0) (A 785 0) p.1 p.2
    · rw [show zMn A = Classical.choose hm from dif_pos hm]
      exact (Classical.choose_spec hm).1.1
    · rw [show zMn A = (0, fun _ => 0) from dif_neg hm]
      exact Int.le_refl _
  exact (zF_i (I := fun _ r => zGs0 A r.2) (zMn A).1 n0 (g_c ⟨zGw_r, bs⟩ zCh_u (by decide)) (fun i r i1 i2 hi => g_go hi)).1
theorem g_weeks {n x : Int} {A : zA} (h : zInv n A) : zGw A (zfWeeks A x).2 := by
  have b0 : 0 ≤ A 785 0 := (h.i.b 785 0).1
  unfold zfWeeks
  split
  · exact zGw_no
  split
  · exact zGw_no
  rename_i q1 q2
  have qc : zCh [12, 791] A (zF zWk (0, A) x).2 := fun k hk => funext fun i => zWk_k (by simp at hk; omega) (by omega) b0
  exact zGw_c qc (by decide)
theorem g_minutes {n x : Int} {A : zA} (h : zInv n A) : zGw A (zfMinutes A x).2 := by
  have bs : 0 ≤ A 794 0 := (h.i.b 794 0).1
  have b0 : 0 ≤ A 785 0 := (h.i.b 785 0).1
  have b1 : 0 ≤ A 786 0 := (h.i.b 786 0).1
  have bg : ∀ X : zA, zGs0 A X → 0 ≤ X 786 0 → zGs0 A (zBegin X) ∧ 0 ≤ zBegin X 786 0 := fun X hX ht => by
    unfold zBegin
    refine zF_i (I := fun _ r => zGs0 A r.2 ∧ 0 ≤ r.2 786 0) (X 786 0) ht ⟨hX, ht⟩ (fun i r i1 i2 hi => ?_)
    unfold zBg1
    split
    · exact hi
    · exact ⟨g_go (g_c hi.1 (zCh_t zCh_u zCh_u) (by decide)), by dsimp only; rw [zGo_k (by decide), zU_k (by decide), zU_k (by decide)]; exact hi.2⟩
  have cm : ∀ X : zA, zGs0 A X → 0 ≤ X 786 0 → zGs0 A (zComes X) ∧ 0 ≤ zComes X 786 0 := fun X hX ht => by
    unfold zComes
    refine zF_i (I := fun _ r => zGs0 A r.2 ∧ 0 ≤ r.2 786 0) (X 786 0) ht ⟨hX, ht⟩ (fun i r i1 i2 hi => ?_)
    unfold zCm1
    split
    · exact ⟨g_c (g_go hi.1) zCh_u (by decide), by dsimp only; rw [zU_k (by decide), zGo_k (by decide)]; exact hi.2⟩
    · exact hi
  unfold zfMinutes
  split
  · exact zGw_no
  rename_i q1
  have w := zF_i (f := zMn1) (r := (0, A)) (I := fun _ r => zGs0 A r.2 ∧ 0 ≤ r.2 786 0) x (by omega) ⟨⟨zGw_r, bs⟩, b1⟩ (fun i r i1 i2 hi => by
    unfold zMn1
    split
    · have w1 := bg r.2 hi.1 hi.2
      exact cm _ (g_c w1.1 zCh_u (by decide)) (by rw [zU_k (by decide)]; exact w1.2)
    · exact hi)
  show zGw A (zOver _)
  unfold zOver
  split
  · have t0 : 0 ≤ (zF zMn1 (0, A) x).2 785 0 := Int.le_trans b0 w.1.1.1
    have wl := zF_i (f := zLs1) (r := (0, (zF zMn1 (0, A) x).2)) (I := fun _ r => zGs0 A r.2) ((zF zMn1 (0, A) x).2 785 0) t0 w.1 (fun i r i1 i2 hi => by
      unfold zLs1
      split
      · exact g_go (g_c hi zCh_u (by decide))
      · exact hi)
    exact (g_c wl zCh_u (by decide)).1
  · exact w.1.1
theorem g_ws {X : zA} : zGw X (zWs X) := zGw_c zCh_ws (by decide)
theorem g_pl {X : zA} : zGw X (zfPlans X).2 := zGw_c zCh_pl (by decide)
theorem g_door {a r w : Int} {A : zA} : zGw A (zfDoor A a r w).2 := by
  unfold zfDoor
  (repeat' split) <;> first | exact zGw_no | exact zGw_t (zGw_c (zCh_t (zCh_t (zCh_t zCh_u zCh_u) zCh_u) zCh_u) (by decide)) g_ws
theorem g_block {d : Int} {A : zA} : zGw A (zfBlock A d).2 := by
  unfold zfBlock
  (repeat' split) <;> first | exact zGw_no | exact zGw_t (zGw_c zCh_u (by decide)) g_ws | exact zGw_t (zGw_c zCh_u (by decide)) (zGw_t g_ws g_pl)
theorem g_danger {r x : Int} {A : zA} : zGw A (zfDanger A r x).2 := by
  unfold zfDanger
  split
  · exact zGw_no
  split
  · exact zGw_no
  dsimp only
  split
  · exact zGw_t (zGw_c zCh_u (by decide)) g_pl
  · exact zGw_c zCh_u (by decide)
theorem g_late {k x : Int} {A : zA} : zGw A (zfLate A k x).2 := by
  unfold zfLate
  (repeat' split) <;> first | exact zGw_no | exact zGw_t (zGw_c zCh_u (by decide)) g_pl
theorem g_plan {p : Int} {A : zA} : zGw A (zfPlan A p).2 := by
  unfold zfPlan
  (repeat' split) <;> first | exact zGw_no | exact zGw_t (zGw_c zCh_u (by decide)) g_pl
theorem g_alarm {x : Int} {A : zA} : zGw A (zfAlarm A x).2 := by
  unfold zfAlarm
  split
  · exact zGw_no
  · exact zGw_t (zGw_c (zCh_t zCh_u zCh_u) (by decide)) (zGw_t g_ws g_pl)
theorem v_gap {n : Int} {A : zA} (h : zInv n A) : zInv (n + 1) (zfGap A).2 ∧ zGw A (zfGap A).2 := by
  unfold zfGap
  split
  · exact ⟨v_no h, zGw_no⟩
  split
  · exact ⟨v_no h, zGw_no⟩
  · exact ⟨zInv_1 h, zGw_r⟩
theorem v_worthIn {n s : Int} {A : zA} (h : zInv n A) : zInv (n + 1) (zfWorthIn A s).2 ∧ zGw A (zfWorthIn A s).2 := by
  unfold zfWorthIn
  (repeat' split) <;> first | exact ⟨v_no h, zGw_no⟩ | exact ⟨zInv_1 h, zGw_r⟩
theorem v_quarrel {n a b c : Int} {A : zA} (h : zInv n A) : zInv (n + 1) (zfQuarrel A a b c).2 ∧ zGw A (zfQuarrel A a b c).2 := by
  unfold zfQuarrel
  (repeat' split) <;> first | exact ⟨v_no h, zGw_no⟩ | exact ⟨zInv_1 h, zGw_r⟩
