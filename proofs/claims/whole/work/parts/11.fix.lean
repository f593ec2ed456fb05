/-! WHAT ALWAYS HOLDS behind the constructors (printed by wip/tools/fix.py). The class' cells stand at b + k, the reference's at m + k. -/
def fxCT : List (Int × Int × Int) := [(1, 12, 0), (2, 1, 0), (3, 3, 0), (4, 100, 20), (5, 100, 20), (6, 100, 20), (7, 102, 20), (8, 100, 12), (9, 100, 12), (10, 2, 0), (11, 1, 0), (12, 6, 0), (13, 1, 0), (14, 1, 0), (15, 101, 256), (16, 101, 256), (17, 100, 256), (18, 11, 0), (19, 1, 0), (20, 100, 4), (21, 100, 4), (22, 100, 4), (23, 8, 0), (24, 1, 0), (25, 101, 256), (26, 101, 256), (27, 101, 256), (28, 100, 256), (29, 100, 4), (30, 100, 4), (31, 100, 16), (32, 100, 5), (33, 104, 8), (34, 7, 0), (35, 101, 60), (36, 7, 0), (37, 101, 60), (38, 7, 0), (39, 101, 60), (40, 7, 0), (41, 101, 60), (42, 7, 0), (43, 101, 60), (44, 7, 0), (45, 101, 60), (46, 7, 0), (47, 101, 60), (48, 7, 0), (49, 101, 60), (50, 100, 8), (51, 4, 0), (52, 100, 5), (53, 100, 8)]
def fxMT : List (Int × Int × Int) := [(0, 13, 0), (1, 100, 20), (2, 100, 20), (3, 100, 20), (4, 102, 20), (5, 100, 12), (6, 100, 12), (7, 100, 16), (8, 100, 16), (9, 100, 16), (10, 100, 16), (11, 100, 16), (12, 100, 16), (13, 100, 16), (14, 100, 16), (15, 100, 3), (16, 100, 3), (17, 100, 3), (18, 100, 8), (19, 100, 8), (20, 100, 8), (21, 100, 8), (22, 101, 480), (23, 100, 5), (24, 100, 5), (25, 100, 5), (26, 100, 5), (27, 100, 5), (28, 101, 300), (29, 100, 4), (30, 100, 4), (31, 100, 4), (32, 100, 96), (33, 100, 96), (34, 100, 96), (35, 100, 12000), (36, 100, 12000), (37, 100, 12000), (38, 100, 12000), (39, 100, 8), (40, 100, 16), (41, 100, 16), (42, 100, 16), (43, 100, 16), (44, 100, 16), (45, 101, 60)]
def fxCR : List (Nat × Int × Int) := [(720, 1, 2), (721, 1, 3), (722, 1, 10), (723, 1, 18), (724, 1, 23), (725, 1, 33), (726, 1, 50), (727, 1, 51), (728, 1, 53), (144, 3, 4), (145, 3, 5), (146, 3, 6), (147, 3, 7), (148, 3, 8), (149, 3, 9), (80, 10, 2), (81, 10, 11), (82, 10, 12), (336, 12, 2), (337, 12, 11), (338, 12, 3), (339, 12, 13), (340, 12, 14), (341, 12, 15), (342, 12, 16), (343, 12, 17), (656, 18, 2), (657, 18, 19), (658, 18, 20), (659, 18, 21), (660, 18, 22), (464, 23, 2), (465, 23, 18), (466, 23, 24), (467, 23, 25), (468, 23, 26), (469, 23, 27), (470, 23, 28), (471, 23, 29), (472, 23, 30), (473, 23, 31), (474, 23, 32), (400, 34, 35), (400, 36, 37), (400, 38, 39), (400, 40, 41), (400, 42, 43), (400, 44, 45), (400, 46, 47), (400, 48, 49), (208, 51, 52)]
def fxMR : List (Nat × Int × Int) := [(796, 0, 1), (797, 0, 2), (798, 0, 3), (799, 0, 4), (800, 0, 5), (801, 0, 6), (802, 0, 7), (803, 0, 8), (804, 0, 9), (805, 0, 10), (806, 0, 11), (807, 0, 12), (808, 0, 13), (809, 0, 14), (810, 0, 15), (811, 0, 16), (812, 0, 17), (813, 0, 18), (814, 0, 19), (815, 0, 20), (816, 0, 21), (817, 0, 22), (818, 0, 23), (819, 0, 24), (820, 0, 25), (821, 0, 26), (822, 0, 27), (823, 0, 28), (824, 0, 29), (825, 0, 30), (826, 0, 31), (827, 0, 32), (828, 0, 33), (829, 0, 34), (830, 0, 35), (831, 0, 36), (832, 0, 37), (833, 0, 38), (834, 0, 39), (835, 0, 40), (836, 0, 41), (837, 0, 42), (838, 0, 43), (839, 0, 44), (840, 0, 45)]
def fxRow : List (Int × Int) := [(0, 34), (1, 36), (2, 38), (3, 40), (4, 42), (5, 44), (6, 46), (7, 48)]
def gFix (b : Nat) (m : Int) (G : gH) : Prop :=
  ((∀ e ∈ fxCT, G 0 (b + e.1) 0 = e.2.1 ∧ G 0 (b + e.1) 1 = e.2.2) ∧ (∀ e ∈ fxMT, G 0 (m + e.1) 0 = e.2.1 ∧ G 0 (m + e.1) 1 = e.2.2)) ∧
  ((∀ e ∈ fxCR, G e.1 (b + e.2.1) 0 = b + e.2.2) ∧ (∀ e ∈ fxMR, G e.1 (m + e.2.1) 0 = m + e.2.2)) ∧ (∀ e ∈ fxRow, G 3 (b + 33) e.1 = b + e.2) ∧ (b : Int) + 53 < m ∧ m + 45 < G 9 0 0
abbrev gE : Type := Launch × (Nat → Nat) × va_G × Heap
abbrev gX (e : gE) (b : Nat) (m : Int) : gB := (bS, (fun k => if k = 0 then b else e.2.1 k), e.2.2.1, e.2.2.2, gFix b m)
abbrev EX (e : gE) (b : Nat) (m : Int) (M : gM) (Z : Int → gH → Prop) (kc ks pc : Nat) (ls st : List gV) (G : gH) : Prop := EV e.1 (gX e b m) M Z kc ks pc ls st G
abbrev GX (e : gE) (b : Nat) (m : Int) (M : gM) (args : List gV) (G : gH) (mc ms : Nat) (Z : Int → gH → Prop) : Prop := GM e.1 (gX e b m) M args G mc ms Z
/-- components that hold what never changes -/
def fxHot (c : Nat) : Bool := c == 0 || c == 3 || c == 9 || fxCR.any (fun e => e.1 == c) || fxMR.any (fun e => e.1 == c)
theorem fx_U {b : Nat} {m : Int} {G : gH} {c : Nat} {i j v : Int} (hc : fxHot c = false) (h : gFix b m G) : gFix b m (gU G c i j v) := by
  unfold fxHot at hc
  simp only [Bool.or_eq_false_iff, beq_eq_false_iff_ne, List.any_eq_false, beq_iff_eq] at hc
  obtain ⟨⟨⟨⟨h0, h3⟩, h9⟩, hr⟩, hm⟩ := hc
  obtain ⟨⟨a1, a2⟩, ⟨a3, a4⟩, a5, a6, a7⟩ := h
  refine ⟨⟨fun e he => ?_, fun e he => ?_⟩, ⟨fun e he => ?_, fun e he => ?_⟩, fun e he => ?_, a6, ?_⟩
  · rw [gU_ne (fun q => h0 q.1.symm), gU_ne (fun q => h0 q.1.symm)]; exact a1 e he
  · rw [gU_ne (fun q => h0 q.1.symm), gU_ne (fun q => h0 q.1.symm)]; exact a2 e he
  · rw [gU_ne (fun q => hr e he q.1)]; exact a3 e he
  · rw [gU_ne (fun q => hm e he q.1)]; exact a4 e he
  · rw [gU_ne (fun q => h3 q.1.symm)]; exact a5 e he
  · rw [gU_ne (fun q => h9 q.1.symm)]; exact a7
theorem fx_lo {b : Nat} {m : Int} {G : gH} (h : gFix b m G) : (b : Int) + 53 < m ∧ m + 45 < G 9 0 0 := h.2.2.2
theorem fxCT_k : ∀ e ∈ fxCT, 0 < e.1 ∧ e.1 ≤ 53 := by decide
theorem fxMT_k : ∀ e ∈ fxMT, 0 ≤ e.1 ∧ e.1 ≤ 45 := by decide
theorem fxCR_k : ∀ e ∈ fxCR, 0 < e.2.1 ∧ e.2.1 ≤ 53 := by decide
theorem fxMR_k : ∀ e ∈ fxMR, 0 ≤ e.2.1 ∧ e.2.1 ≤ 45 := by decide
/-- a store into a cell that came later, or of a kind that no fixed cell has -/
theorem fx_Uf {b : Nat} {m : Int} {G : gH} {c : Nat} {i j v : Int} (hc : c ≠ 0 ∧ c ≠ 9) (hi : m + 45 < i) (h : gFix b m G) : gFix b m (gU G c i j v) := by
  have hlo := fx_lo h
  obtain ⟨⟨a1, a2⟩, ⟨a3, a4⟩, a5, a6, a7⟩ := h
  refine ⟨⟨fun e he => ?_, fun e he => ?_⟩, ⟨fun e he => ?_, fun e he => ?_⟩, fun e he => ?_, a6, ?_⟩
  · rw [gU_ne (fun q => hc.1 q.1.symm), gU_ne (fun q => hc.1 q.1.symm)]; exact a1 e he
  · rw [gU_ne (fun q => hc.1 q.1.symm), gU_ne (fun q => hc.1 q.1.symm)]; exact a2 e he
  · have := fxCR_k e he
    rw [gU_ne (fun q => by have := q.2.1; omega)]; exact a3 e he
  · have := fxMR_k e he
    rw [gU_ne (fun q => by have := q.2.1; omega)]; exact a4 e he
  · rw [gU_ne (fun q => by have := q.2.1; omega)]; exact a5 e he
  · rw [gU_ne (fun q => hc.2 q.1.symm)]; exact a7
theorem fx_rt {b : Nat} {m : Int} {G : gH} (h : gFix b m G) : G 0 (b + 33) 0 = 104 := (h.1.1 (33, 104, 8) (by decide)).1
theorem fxNR : (∀ e ∈ fxCR, e.1 ≠ 3) ∧ (∀ e ∈ fxMR, e.1 ≠ 3) := by decide
theorem fxN9 : (∀ e ∈ fxCR, e.1 ≠ 9) ∧ (∀ e ∈ fxMR, e.1 ≠ 9) := by decide
theorem fx_U3 {b : Nat} {m : Int} {G : gH} {i j v : Int} (ht : G 0 i 0 = 103) (h : gFix b m G) : gFix b m (gU G 3 i j v) := by
  have hrt := fx_rt h
  obtain ⟨⟨a1, a2⟩, ⟨a3, a4⟩, a5, a6, a7⟩ := h
  refine ⟨⟨fun e he => ?_, fun e he => ?_⟩, ⟨fun e he => ?_, fun e he => ?_⟩, fun e he => ?_, a6, ?_⟩
  · rw [gU_ne (by simp), gU_ne (by simp)]; exact a1 e he
  · rw [gU_ne (by simp), gU_ne (by simp)]; exact a2 e he
  · rw [gU_ne (fun q => fxNR.1 e he q.1)]; exact a3 e he
  · rw [gU_ne (fun q => fxNR.2 e he q.1)]; exact a4 e he
  · rw [gU_ne (fun q => by have := q.2.1; rw [← this, hrt] at ht; omega)]; exact a5 e he
  · rw [gU_ne (by simp)]; exact a7
theorem fx_Cp {b : Nat} {m : Int} {G : gH} {c : Nat} {a i d j n : Int} (hc : fxHot c = false ∨ (c = 3 ∧ G 0 d 0 = 103)) (h : gFix b m G) : gFix b m (gCp G c a i d j n) := by
  have hrt := fx_rt h
  have hne : ∀ (c' : Nat) (a' k : Int), ¬ (c' = c ∧ a' = d) → gCp G c a i d j n c' a' k = G c' a' k := fun c' a' k h => if_neg (fun q => h ⟨q.1, q.2.1⟩)
  obtain ⟨⟨a1, a2⟩, ⟨a3, a4⟩, a5, a6, a7⟩ := h
  have h0 : c ≠ 0 ∧ c ≠ 9 ∧ (∀ e ∈ fxCR, e.1 ≠ c) ∧ (∀ e ∈ fxMR, e.1 ≠ c) ∧ (c = 3 → (b : Int) + 33 ≠ d) := by
    rcases hc with hc | ⟨rfl, ht⟩
    · unfold fxHot at hc
      simp only [Bool.or_eq_false_iff, beq_eq_false_iff_ne, List.any_eq_false, beq_iff_eq] at hc
      obtain ⟨⟨⟨⟨h0, h3⟩, h9⟩, hr⟩, hm⟩ := hc
      exact ⟨h0, h9, hr, hm, fun q => absurd q h3⟩
    · exact ⟨by decide, by decide, by decide, by decide, fun _ q => by rw [← q, hrt] at ht; omega⟩
  obtain ⟨h0, h9, hr, hm, h3⟩ := h0
  refine ⟨⟨fun e he => ?_, fun e he => ?_⟩, ⟨fun e he => ?_, fun e he => ?_⟩, fun e he => ?_, a6, ?_⟩
  · rw [hne _ _ _ (fun q => h0 q.1.symm), hne _ _ _ (fun q => h0 q.1.symm)]; exact a1 e he
  · rw [hne _ _ _ (fun q => h0 q.1.symm), hne _ _ _ (fun q => h0 q.1.symm)]; exact a2 e he
  · rw [hne _ _ _ (fun q => hr e he q.1)]; exact a3 e he
  · rw [hne _ _ _ (fun q => hm e he q.1)]; exact a4 e he
  · rw [hne _ _ _ (fun q => h3 q.1.symm q.2)]; exact a5 e he
  · rw [hne _ _ _ (fun q => h9 q.1.symm)]; exact a7
theorem fx_N {b : Nat} {m : Int} {G : gH} {t n : Int} (h : gFix b m G) : gFix b m (gN G t n) := by
  have hlo := fx_lo h
  obtain ⟨⟨a1, a2⟩, ⟨a3, a4⟩, a5, a6, a7⟩ := h
  refine ⟨⟨fun e he => ?_, fun e he => ?_⟩, ⟨fun e he => ?_, fun e he => ?_⟩, fun e he => ?_, a6, ?_⟩
  · have := fxCT_k e he
    rw [gN_old (by omega) (by decide), gN_old (by omega) (by decide)]; exact a1 e he
  · have := fxMT_k e he
    rw [gN_old (by omega) (by decide), gN_old (by omega) (by decide)]; exact a2 e he
  · have := fxCR_k e he
    rw [gN_old (by omega) (fxN9.1 e he)]; exact a3 e he
  · have := fxMR_k e he
    rw [gN_old (by omega) (fxN9.2 e he)]; exact a4 e he
  · rw [gN_old (by omega) (by decide)]; exact a5 e he
  · rw [gN_nxt]; omega
section FX
variable {e : gE} {b : Nat} {m : Int} {M : gM} {Z : Int → gH → Prop} {kc ks pc : Nat} {ls rest : List gV} {G : gH}
theorem fx_ct {k t n : Int} (p : Nat) (hp : fxCT[p]? = some (k, t, n)) (h : gFix b m G) : G 0 (b + k) 0 = t ∧ G 0 (b + k) 1 = n := h.1.1 (k, t, n) (List.mem_of_getElem? hp)
theorem fx_mt {k t n : Int} (p : Nat) (hp : fxMT[p]? = some (k, t, n)) (h : gFix b m G) : G 0 (m + k) 0 = t ∧ G 0 (m + k) 1 = n := h.1.2 (k, t, n) (List.mem_of_getElem? hp)
theorem fx_cr {c : Nat} {k v : Int} (p : Nat) (hp : fxCR[p]? = some (c, k, v)) (h : gFix b m G) : G c (b + k) 0 = b + v := h.2.1.1 (c, k, v) (List.mem_of_getElem? hp)
theorem fx_mr {c : Nat} {k v : Int} (p : Nat) (hp : fxMR[p]? = some (c, k, v)) (h : gFix b m G) : G c (m + k) 0 = m + v := h.2.1.2 (c, k, v) (List.mem_of_getElem? hp)
theorem xC_iald (p : Nat) {k n i : Int} (hp : fxCT[p]? = some (k, 100, n)) (hd : decode (gcc M) pc = .ok (.iaload, 1)) (hi : 0 ≤ i ∧ i < n) (k9 : EX e b m M Z kc ks (pc + 1) ls ((0, G 1 ((b : Int) + k) i) :: rest) G) : EX e b m M Z kc ks pc ls ((0, i) :: (2, ((b : Int) + k)) :: rest) G :=
  EV.inv fun hF => e_iald hd (fx_ct p hp hF).1 hi.1 (by rw [(fx_ct p hp hF).2]; exact hi.2) k9
theorem xC_zald (p : Nat) {k n i : Int} (hp : fxCT[p]? = some (k, 102, n)) (hd : decode (gcc M) pc = .ok (.baload, 1)) (hi : 0 ≤ i ∧ i < n) (k9 : EX e b m M Z kc ks (pc + 1) ls ((0, G 1 ((b : Int) + k) i) :: rest) G) : EX e b m M Z kc ks pc ls ((0, i) :: (2, ((b : Int) + k)) :: rest) G :=
  EV.inv fun hF => e_zald hd (fx_ct p hp hF).1 hi.1 (by rw [(fx_ct p hp hF).2]; exact hi.2) k9
theorem xC_lald (p : Nat) {k n i : Int} (hp : fxCT[p]? = some (k, 101, n)) (hd : decode (gcc M) pc = .ok (.laload, 1)) (hi : 0 ≤ i ∧ i < n) (k9 : EX e b m M Z kc ks (pc + 1) ls ((1, G 2 ((b : Int) + k) i) :: rest) G) : EX e b m M Z kc ks pc ls ((0, i) :: (2, ((b : Int) + k)) :: rest) G :=
  EV.inv fun hF => e_lald hd (fx_ct p hp hF).1 hi.1 (by rw [(fx_ct p hp hF).2]; exact hi.2) k9
theorem xC_iast (p : Nat) {k n i x : Int} (hp : fxCT[p]? = some (k, 100, n)) (hd : decode (gcc M) pc = .ok (.iastore, 1)) (hi : 0 ≤ i ∧ i < n) (k9 : EX e b m M Z kc ks (pc + 1) ls rest (gU G 1 ((b : Int) + k) i x)) : EX e b m M Z kc ks pc ls ((0, x) :: (0, i) :: (2, ((b : Int) + k)) :: rest) G :=
  EV.inv fun hF => e_iast hd (fx_ct p hp hF).1 hi.1 (by rw [(fx_ct p hp hF).2]; exact hi.2) (by have := fxCT_k _ (List.mem_of_getElem? hp); have : (gn (gX e b m) 0 : Int) = b := rfl; dsimp only at *; omega) (fx_U (by decide)) k9
theorem xC_zast (p : Nat) {k n i x : Int} (hp : fxCT[p]? = some (k, 102, n)) (hd : decode (gcc M) pc = .ok (.bastore, 1)) (hi : 0 ≤ i ∧ i < n) (hx : x = 0 ∨ x = 1) (k9 : EX e b m M Z kc ks (pc + 1) ls rest (gU G 1 ((b : Int) + k) i x)) : EX e b m M Z kc ks pc ls ((0, x) :: (0, i) :: (2, ((b : Int) + k)) :: rest) G :=
  EV.inv fun hF => e_zast hd (fx_ct p hp hF).1 hi.1 (by rw [(fx_ct p hp hF).2]; exact hi.2) (by have := fxCT_k _ (List.mem_of_getElem? hp); have : (gn (gX e b m) 0 : Int) = b := rfl; dsimp only at *; omega) hx (fx_U (by decide)) k9
theorem xC_last (p : Nat) {k n i x : Int} (hp : fxCT[p]? = some (k, 101, n)) (hd : decode (gcc M) pc = .ok (.lastore, 1)) (hi : 0 ≤ i ∧ i < n) (k9 : EX e b m M Z kc ks (pc + 1) ls rest (gU G 2 ((b : Int) + k) i x)) : EX e b m M Z kc ks pc ls ((1, x) :: (0, i) :: (2, ((b : Int) + k)) :: rest) G :=
  EV.inv fun hF => e_last hd (fx_ct p hp hF).1 hi.1 (by rw [(fx_ct p hp hF).2]; exact hi.2) (by have := fxCT_k _ (List.mem_of_getElem? hp); have : (gn (gX e b m) 0 : Int) = b := rfl; dsimp only at *; omega) (fx_U (by decide)) k9
theorem xC_alen (p : Nat) {k t n : Int} (hp : fxCT[p]? = some (k, t, n)) (hd : decode (gcc M) pc = .ok (.arraylength, 1)) (ht : 100 ≤ t ∧ t ≤ 105) (k9 : EX e b m M Z kc ks (pc + 1) ls ((0, n) :: rest) G) : EX e b m M Z kc ks pc ls ((2, ((b : Int) + k)) :: rest) G :=
  EV.inv fun hF => e_alen hd (by rw [(fx_ct p hp hF).1]; exact ht) (by rw [(fx_ct p hp hF).2]; exact k9)
theorem xM_iald (p : Nat) {k n i : Int} (hp : fxMT[p]? = some (k, 100, n)) (hd : decode (gcc M) pc = .ok (.iaload, 1)) (hi : 0 ≤ i ∧ i < n) (k9 : EX e b m M Z kc ks (pc + 1) ls ((0, G 1 (m + k) i) :: rest) G) : EX e b m M Z kc ks pc ls ((0, i) :: (2, (m + k)) :: rest) G :=
  EV.inv fun hF => e_iald hd (fx_mt p hp hF).1 hi.1 (by rw [(fx_mt p hp hF).2]; exact hi.2) k9
theorem xM_zald (p : Nat) {k n i : Int} (hp : fxMT[p]? = some (k, 102, n)) (hd : decode (gcc M) pc = .ok (.baload, 1)) (hi : 0 ≤ i ∧ i < n) (k9 : EX e b m M Z kc ks (pc + 1) ls ((0, G 1 (m + k) i) :: rest) G) : EX e b m M Z kc ks pc ls ((0, i) :: (2, (m + k)) :: rest) G :=
  EV.inv fun hF => e_zald hd (fx_mt p hp hF).1 hi.1 (by rw [(fx_mt p hp hF).2]; exact hi.2) k9
theorem xM_lald (p : Nat) {k n i : Int} (hp : fxMT[p]? = some (k, 101, n)) (hd : decode (gcc M) pc = .ok (.laload, 1)) (hi : 0 ≤ i ∧ i < n) (k9 : EX e b m M Z kc ks (pc + 1) ls ((1, G 2 (m + k) i) :: rest) G) : EX e b m M Z kc ks pc ls ((0, i) :: (2, (m + k)) :: rest) G :=
  EV.inv fun hF => e_lald hd (fx_mt p hp hF).1 hi.1 (by rw [(fx_mt p hp hF).2]; exact hi.2) k9
theorem xM_iast (p : Nat) {k n i x : Int} (hp : fxMT[p]? = some (k, 100, n)) (hd : decode (gcc M) pc = .ok (.iastore, 1)) (hi : 0 ≤ i ∧ i < n) (k9 : EX e b m M Z kc ks (pc + 1) ls rest (gU G 1 (m + k) i x)) : EX e b m M Z kc ks pc ls ((0, x) :: (0, i) :: (2, (m + k)) :: rest) G :=
  EV.inv fun hF => e_iast hd (fx_mt p hp hF).1 hi.1 (by rw [(fx_mt p hp hF).2]; exact hi.2) (by have := fxMT_k _ (List.mem_of_getElem? hp); have := fx_lo hF; have : (gn (gX e b m) 0 : Int) = b := rfl; dsimp only at *; omega) (fx_U (by decide)) k9
theorem xM_zast (p : Nat) {k n i x : Int} (hp : fxMT[p]? = some (k, 102, n)) (hd : decode (gcc M) pc = .ok (.bastore, 1)) (hi : 0 ≤ i ∧ i < n) (hx : x = 0 ∨ x = 1) (k9 : EX e b m M Z kc ks (pc + 1) ls rest (gU G 1 (m + k) i x)) : EX e b m M Z kc ks pc ls ((0, x) :: (0, i) :: (2, (m + k)) :: rest) G :=
  EV.inv fun hF => e_zast hd (fx_mt p hp hF).1 hi.1 (by rw [(fx_mt p hp hF).2]; exact hi.2) (by have := fxMT_k _ (List.mem_of_getElem? hp); have := fx_lo hF; have : (gn (gX e b m) 0 : Int) = b := rfl; dsimp only at *; omega) hx (fx_U (by decide)) k9
theorem xM_last (p : Nat) {k n i x : Int} (hp : fxMT[p]? = some (k, 101, n)) (hd : decode (gcc M) pc = .ok (.lastore, 1)) (hi : 0 ≤ i ∧ i < n) (k9 : EX e b m M Z kc ks (pc + 1) ls rest (gU G 2 (m + k) i x)) : EX e b m M Z kc ks pc ls ((1, x) :: (0, i) :: (2, (m + k)) :: rest) G :=
  EV.inv fun hF => e_last hd (fx_mt p hp hF).1 hi.1 (by rw [(fx_mt p hp hF).2]; exact hi.2) (by have := fxMT_k _ (List.mem_of_getElem? hp); have := fx_lo hF; have : (gn (gX e b m) 0 : Int) = b := rfl; dsimp only at *; omega) (fx_U (by decide)) k9
theorem xM_alen (p : Nat) {k t n : Int} (hp : fxMT[p]? = some (k, t, n)) (hd : decode (gcc M) pc = .ok (.arraylength, 1)) (ht : 100 ≤ t ∧ t ≤ 105) (k9 : EX e b m M Z kc ks (pc + 1) ls ((0, n) :: rest) G) : EX e b m M Z kc ks pc ls ((2, (m + k)) :: rest) G :=
  EV.inv fun hF => e_alen hd (by rw [(fx_mt p hp hF).1]; exact ht) (by rw [(fx_mt p hp hF).2]; exact k9)
end FX
