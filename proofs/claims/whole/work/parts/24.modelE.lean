/-! THE REFERENCE, 5: lists; quarrel; small changes -/
set_option maxRecDepth 20000 in
set_option maxHeartbeats 4000000 in
theorem sg_M_status_0 {e : gE} {b : Nat} {m : Int} {Z : Int → gH → Prop} {kc ks : Nat} {G : gH} {p1 : Int} (h : (10 < p1 → (p1 < 18 → (inI (p1 - 10)) ∧ (0 ≤ (p1 - 10) ∧ (p1 - 10) < 8) ∧ Z (zM m G 39 (p1 - 10)) G)) ∧ ((p1 ≤ 10 ∨ (10 < p1 ∧ 18 ≤ p1)) → (p1 = 0 → Z (zM m G 785 0) G) ∧ (p1 = 1 → Z (zM m G 784 0) G) ∧ (p1 = 2 → Z (zM m G 786 0) G) ∧ (p1 = 3 → Z (zM m G 787 0) G) ∧ (p1 = 4 → (zT (zM m G)) ∧ Z (zCount (zM m G) 100 200) G) ∧ (p1 = 5 → (zT (zM m G)) ∧ Z (zCount (zM m G) 200 300) G) ∧ (p1 = 6 → (zT (zM m G)) ∧ Z (zCount (zM m G) 300 400) G) ∧ (p1 = 7 → (zT (zM m G)) ∧ Z (zCount (zM m G) 400 500) G) ∧ (p1 = 8 → (zT (zM m G)) ∧ Z (zCount (zM m G) 500 600) G) ∧ (p1 = 9 → (zT (zM m G)) ∧ Z (zCount (zM m G) 600 610) G) ∧ (p1 = 10 → Z (zM m G 788 0) G) ∧ (p1 = 18 → Z (zM m G 789 0) G) ∧ (p1 = 19 → Z (zM m G 791 0) G) ∧ (p1 = 20 → Z (zM m G 792 0) G) ∧ ((p1 ≠ 0 ∧ p1 ≠ 1 ∧ p1 ≠ 2 ∧ p1 ≠ 3 ∧ p1 ≠ 4 ∧ p1 ≠ 5 ∧ p1 ≠ 6 ∧ p1 ≠ 7 ∧ p1 ≠ 8 ∧ p1 ≠ 9 ∧ p1 ≠ 10 ∧ p1 ≠ 18 ∧ p1 ≠ 19 ∧ p1 ≠ 20) → Z (-1) G))) : EX e b m m_M_status Z kc ks 0 [(2, (m + 0)), (0, p1)] [] G := by
  obtain ⟨h, hJ7⟩ := h
  have kJ7 : (p1 ≤ 10 ∨ (10 < p1 ∧ 18 ≤ p1)) → EX e b m m_M_status Z kc ks 22 [(2, (m + 0)), (0, p1)] [] G := by
    intro rJ7
    have h := hJ7 rJ7
    refine e_iload_n d_M_status_22 rfl ?_
    obtain ⟨hs0, hs1, hs2, hs3, hs4, hs5, hs6, hs7, hs8, hs9, hs10, hs11, hs12, hs13, hs14⟩ := h
    by_cases q8 : p1 = 0
    · have h := hs0 q8
      refine e_tableIn (tgt := 120) d_M_status_23 (by omega) (by omega) (by rw [show p1 = 0 from q8]; rfl) (by decide) ?_
      refine e_aload_n d_M_status_120 rfl ?_
      refine gx_M_151 d_M_status_121 rfl ?_
      exact e_iret d_M_status_124 rfl h
    by_cases q9 : p1 = 1
    · have h := hs1 q9
      refine e_tableIn (tgt := 125) d_M_status_23 (by omega) (by omega) (by rw [show p1 = 1 from q9]; rfl) (by decide) ?_
      refine e_aload_n d_M_status_125 rfl ?_
      refine gx_M_168 d_M_status_126 rfl ?_
      exact e_iret d_M_status_129 rfl h
    by_cases q10 : p1 = 2
    · have h := hs2 q10
      refine e_tableIn (tgt := 130) d_M_status_23 (by omega) (by omega) (by rw [show p1 = 2 from q10]; rfl) (by decide) ?_
      refine e_aload_n d_M_status_130 rfl ?_
      refine gx_M_174 d_M_status_131 rfl ?_
      exact e_iret d_M_status_134 rfl h
    by_cases q11 : p1 = 3
    · have h := hs3 q11
      refine e_tableIn (tgt := 135) d_M_status_23 (by omega) (by omega) (by rw [show p1 = 3 from q11]; rfl) (by decide) ?_
      refine e_aload_n d_M_status_135 rfl ?_
      refine gx_M_154 d_M_status_136 rfl ?_
      exact e_iret d_M_status_139 rfl h
    by_cases q12 : p1 = 4
    · have h := hs4 q12
      refine e_tableIn (tgt := 140) d_M_status_23 (by omega) (by omega) (by rw [show p1 = 4 from q12]; rfl) (by decide) ?_
      refine e_aload_n d_M_status_140 rfl ?_
      refine e_bipush d_M_status_141 (by decide) (by decide) ?_
      refine e_sipush d_M_status_143 (by decide) (by decide) ?_
      refine EV.inv fun hFf13 => ?_
      have f13 := (fx_mt 0 rfl hFf13).1
      obtain ⟨o14, h⟩ := h
      refine e_callV m_M_inside 12 lw_good d_M_status_146 (k_M_inside _) ⟨Nat.le_of_ble_eq_true rfl, Nat.le_of_ble_eq_true rfl⟩ w_1880 w_1882 w_s77 (q_M _) rfl f13 (args := [(0, 100), (0, 200)]) rfl rfl (Nat.le_of_ble_eq_true rfl) (kc' := kc) (ks' := ks) (mc := 0) (ms := 0) rfl rfl (c_M_inside o14) (pureK ?_)
      exact e_iret d_M_status_149 rfl h
    by_cases q15 : p1 = 5
    · have h := hs5 q15
      refine e_tableIn (tgt := 150) d_M_status_23 (by omega) (by omega) (by rw [show p1 = 5 from q15]; rfl) (by decide) ?_
      refine e_aload_n d_M_status_150 rfl ?_
      refine e_sipush d_M_status_151 (by decide) (by decide) ?_
      refine e_sipush d_M_status_154 (by decide) (by decide) ?_
      refine EV.inv fun hFf16 => ?_
      have f16 := (fx_mt 0 rfl hFf16).1
      obtain ⟨o17, h⟩ := h
      refine e_callV m_M_inside 12 lw_good d_M_status_157 (k_M_inside _) ⟨Nat.le_of_ble_eq_true rfl, Nat.le_of_ble_eq_true rfl⟩ w_1880 w_1882 w_s77 (q_M _) rfl f16 (args := [(0, 200), (0, 300)]) rfl rfl (Nat.le_of_ble_eq_true rfl) (kc' := kc) (ks' := ks) (mc := 0) (ms := 0) rfl rfl (c_M_inside o17) (pureK ?_)
      exact e_iret d_M_status_160 rfl h
    by_cases q18 : p1 = 6
    · have h := hs6 q18
      refine e_tableIn (tgt := 161) d_M_status_23 (by omega) (by omega) (by rw [show p1 = 6 from q18]; rfl) (by decide) ?_
      refine e_aload_n d_M_status_161 rfl ?_
      refine e_sipush d_M_status_162 (by decide) (by decide) ?_
      refine e_sipush d_M_status_165 (by decide) (by decide) ?_
      refine EV.inv fun hFf19 => ?_
      have f19 := (fx_mt 0 rfl hFf19).1
      obtain ⟨o20, h⟩ := h
      refine e_callV m_M_inside 12 lw_good d_M_status_168 (k_M_inside _) ⟨Nat.le_of_ble_eq_true rfl, Nat.le_of_ble_eq_true rfl⟩ w_1880 w_1882 w_s77 (q_M _) rfl f19 (args := [(0, 300), (0, 400)]) rfl rfl (Nat.le_of_ble_eq_true rfl) (kc' := kc) (ks' := ks) (mc := 0) (ms := 0) rfl rfl (c_M_inside o20) (pureK ?_)
      exact e_iret d_M_status_171 rfl h
    by_cases q21 : p1 = 7
    · have h := hs7 q21
      refine e_tableIn (tgt := 172) d_M_status_23 (by omega) (by omega) (by rw [show p1 = 7 from q21]; rfl) (by decide) ?_
      refine e_aload_n d_M_status_172 rfl ?_
      refine e_sipush d_M_status_173 (by decide) (by decide) ?_
      refine e_sipush d_M_status_176 (by decide) (by decide) ?_
      refine EV.inv fun hFf22 => ?_
      have f22 := (fx_mt 0 rfl hFf22).1
      obtain ⟨o23, h⟩ := h
      refine e_callV m_M_inside 12 lw_good d_M_status_179 (k_M_inside _) ⟨Nat.le_of_ble_eq_true rfl, Nat.le_of_ble_eq_true rfl⟩ w_1880 w_1882 w_s77 (q_M _) rfl f22 (args := [(0, 400), (0, 500)]) rfl rfl (Nat.le_of_ble_eq_true rfl) (kc' := kc) (ks' := ks) (mc := 0) (ms := 0) rfl rfl (c_M_inside o23) (pureK ?_)
      exact e_iret d_M_status_182 rfl h
    by_cases q24 : p1 = 8
    · have h := hs8 q24
      refine e_tableIn (tgt := 183) d_M_status_23 (by omega) (by omega) (by rw [show p1 = 8 from q24]; rfl) (by decide) ?_
      refine e_aload_n d_M_status_183 rfl ?_
      refine e_sipush d_M_status_184 (by decide) (by decide) ?_
      refine e_sipush d_M_status_187 (by decide) (by decide) ?_
      refine EV.inv fun hFf25 => ?_
      have f25 := (fx_mt 0 rfl hFf25).1
      obtain ⟨o26, h⟩ := h
      refine e_callV m_M_inside 12 lw_good d_M_status_190 (k_M_inside _) ⟨Nat.le_of_ble_eq_true rfl, Nat.le_of_ble_eq_true rfl⟩ w_1880 w_1882 w_s77 (q_M _) rfl f25 (args := [(0, 500), (0, 600)]) rfl rfl (Nat.le_of_ble_eq_true rfl) (kc' := kc) (ks' := ks) (mc := 0) (ms := 0) rfl rfl (c_M_inside o26) (pureK ?_)
      exact e_iret d_M_status_193 rfl h
    by_cases q27 : p1 = 9
    · have h := hs9 q27
      refine e_tableIn (tgt := 194) d_M_status_23 (by omega) (by omega) (by rw [show p1 = 9 from q27]; rfl) (by decide) ?_
      refine e_aload_n d_M_status_194 rfl ?_
      refine e_sipush d_M_status_195 (by decide) (by decide) ?_
      refine e_sipush d_M_status_198 (by decide) (by decide) ?_
      refine EV.inv fun hFf28 => ?_
      have f28 := (fx_mt 0 rfl hFf28).1
      obtain ⟨o29, h⟩ := h
      refine e_callV m_M_inside 12 lw_good d_M_status_201 (k_M_inside _) ⟨Nat.le_of_ble_eq_true rfl, Nat.le_of_ble_eq_true rfl⟩ w_1880 w_1882 w_s77 (q_M _) rfl f28 (args := [(0, 600), (0, 610)]) rfl rfl (Nat.le_of_ble_eq_true rfl) (kc' := kc) (ks' := ks) (mc := 0) (ms := 0) rfl rfl (c_M_inside o29) (pureK ?_)
      exact e_iret d_M_status_204 rfl h
    by_cases q30 : p1 = 10
    · have h := hs10 q30
      refine e_tableIn (tgt := 205) d_M_status_23 (by omega) (by omega) (by rw [show p1 = 10 from q30]; rfl) (by decide) ?_
      refine e_aload_n d_M_status_205 rfl ?_
      refine gx_M_165 d_M_status_206 rfl ?_
      exact e_iret d_M_status_209 rfl h
    by_cases q31 : p1 = 18
    · have h := hs11 q31
      refine e_tableIn (tgt := 210) d_M_status_23 (by omega) (by omega) (by rw [show p1 = 18 from q31]; rfl) (by decide) ?_
      refine e_aload_n d_M_status_210 rfl ?_
      refine gx_M_197 d_M_status_211 rfl ?_
      exact e_iret d_M_status_214 rfl h
    by_cases q32 : p1 = 19
    · have h := hs12 q32
      refine e_tableIn (tgt := 215) d_M_status_23 (by omega) (by omega) (by rw [show p1 = 19 from q32]; rfl) (by decide) ?_
      refine e_aload_n d_M_status_215 rfl ?_
      refine gx_M_259 d_M_status_216 rfl ?_
      exact e_iret d_M_status_219 rfl h
    by_cases q33 : p1 = 20
    · have h := hs13 q33
      refine e_tableIn (tgt := 220) d_M_status_23 (by omega) (by omega) (by rw [show p1 = 20 from q33]; rfl) (by decide) ?_
      refine e_aload_n d_M_status_220 rfl ?_
      refine gx_M_292 d_M_status_221 rfl ?_
      exact e_iret d_M_status_224 rfl h
    have q34 : p1 ≠ 0 ∧ p1 ≠ 1 ∧ p1 ≠ 2 ∧ p1 ≠ 3 ∧ p1 ≠ 4 ∧ p1 ≠ 5 ∧ p1 ≠ 6 ∧ p1 ≠ 7 ∧ p1 ≠ 8 ∧ p1 ≠ 9 ∧ p1 ≠ 10 ∧ p1 ≠ 18 ∧ p1 ≠ 19 ∧ p1 ≠ 20 := ⟨q8, q9, q10, q11, q12, q15, q18, q21, q24, q27, q30, q31, q32, q33⟩
    have h := hs14 q34
    have hout : (p1 < 0 ∨ 20 < p1) ∨ p1 = 11 ∨ p1 = 12 ∨ p1 = 13 ∨ p1 = 14 ∨ p1 = 15 ∨ p1 = 16 ∨ p1 = 17 := by omega
    rcases hout with hout | hout | hout | hout | hout | hout | hout | hout
    · refine e_tableOut (tgt := 225) d_M_status_23 hout (by decide) ?_
      refine e_iconst d_M_status_225 (by decide) ?_
      exact e_iret d_M_status_226 rfl h
    · refine e_tableIn (tgt := 225) d_M_status_23 (by omega) (by omega) (by rw [hout]; rfl) (by decide) ?_
      refine e_iconst d_M_status_225 (by decide) ?_
      exact e_iret d_M_status_226 rfl h
    · refine e_tableIn (tgt := 225) d_M_status_23 (by omega) (by omega) (by rw [hout]; rfl) (by decide) ?_
      refine e_iconst d_M_status_225 (by decide) ?_
      exact e_iret d_M_status_226 rfl h
    · refine e_tableIn (tgt := 225) d_M_status_23 (by omega) (by omega) (by rw [hout]; rfl) (by decide) ?_
      refine e_iconst d_M_status_225 (by decide) ?_
      exact e_iret d_M_status_226 rfl h
    · refine e_tableIn (tgt := 225) d_M_status_23 (by omega) (by omega) (by rw [hout]; rfl) (by decide) ?_
      refine e_iconst d_M_status_225 (by decide) ?_
      exact e_iret d_M_status_226 rfl h
    · refine e_tableIn (tgt := 225) d_M_status_23 (by omega) (by omega) (by rw [hout]; rfl) (by decide) ?_
      refine e_iconst d_M_status_225 (by decide) ?_
      exact e_iret d_M_status_226 rfl h
    · refine e_tableIn (tgt := 225) d_M_status_23 (by omega) (by omega) (by rw [hout]; rfl) (by decide) ?_
      refine e_iconst d_M_status_225 (by decide) ?_
      exact e_iret d_M_status_226 rfl h
    · refine e_tableIn (tgt := 225) d_M_status_23 (by omega) (by omega) (by rw [hout]; rfl) (by decide) ?_
      refine e_iconst d_M_status_225 (by decide) ?_
      exact e_iret d_M_status_226 rfl h
  refine e_iload_n d_M_status_0 rfl ?_
  refine e_bipush d_M_status_1 (by decide) (by decide) ?_
  refine e_icmp_le (tgt := 22) d_M_status_3 (by decide) (fun q1 => ?_) (fun q2 => ?_)
  · exact kJ7 (Or.inl q1)
  · have h := h q2
    refine e_iload_n d_M_status_6 rfl ?_
    refine e_bipush d_M_status_7 (by decide) (by decide) ?_
    refine e_icmp_ge (tgt := 22) d_M_status_9 (by decide) (fun q3 => ?_) (fun q4 => ?_)
    · exact kJ7 (Or.inr ⟨q2, q3⟩)
    · have h := h q4
      refine e_aload_n d_M_status_12 rfl ?_
      refine gx_M_130 d_M_status_13 rfl ?_
      refine e_iload_n d_M_status_16 rfl ?_
      refine e_bipush d_M_status_17 (by decide) (by decide) ?_
      obtain ⟨o5, h⟩ := h
      refine e_isub d_M_status_19 o5 ?_
      obtain ⟨o6, h⟩ := h
      refine xM_iald 39 rfl d_M_status_20 o6 ?_
      exact e_iret d_M_status_21 rfl h
set_option maxRecDepth 20000 in
set_option maxHeartbeats 4000000 in
theorem sg_M_said_0 {e : gE} {b : Nat} {m : Int} {Z : Int → gH → Prop} {kc ks : Nat} {G : gH} {p1 p2 p3 p4 : Int} (h : ((0 ≤ p1 ∧ p1 < 8) → ((0 ≤ p2 ∧ p2 < 8) → ((0 ≤ p3 ∧ p3 < 8) → ((0 ≤ p4 ∧ p4 < zM m G 785 0) → (0 ≤ p1 ∧ p1 < 8) ∧ ((zM m G 18 p1) = 1 → (0 ≤ p2 ∧ p2 < 8) ∧ ((zM m G 18 p2) = 1 → (0 ≤ p3 ∧ p3 < 8) ∧ ((zM m G 18 p3) = 1 → ((0 ≤ p1 ∧ p1 < 8) ∧ zM m G 20 p1 ≤ 60) ∧ (((0 ≤ p2 ∧ p2 < 8) ∧ zM m G 20 p2 ≤ 60) ∧ ((0 ≤ p4) ∧ ((¬ (zAlike (zM m G) p1 p2 p4)) → ((0 ≤ p3 ∧ p3 < 8) ∧ zM m G 20 p3 ≤ 60) ∧ ((¬ (zAlike (zM m G) p1 p3 p4)) → ((¬ (zAlike (zM m G) p2 p3 p4)) → Z (-1) G) ∧ (zAlike (zM m G) p2 p3 p4 → (inI (60 * p2)) ∧ (inI ((60 * p2) + p4)) ∧ (0 ≤ ((60 * p2) + p4) ∧ ((60 * p2) + p4) < 480) ∧ Z (zM m G 22 ((60 * p2) + p4)) G)))))))))))) ∧ ((((¬ (0 ≤ p1 ∧ p1 < 8))) ∨ ((0 ≤ p1 ∧ p1 < 8) ∧ (¬ (0 ≤ p2 ∧ p2 < 8))) ∨ ((0 ≤ p1 ∧ p1 < 8) ∧ (0 ≤ p2 ∧ p2 < 8) ∧ (¬ (0 ≤ p3 ∧ p3 < 8))) ∨ ((0 ≤ p1 ∧ p1 < 8) ∧ (0 ≤ p2 ∧ p2 < 8) ∧ (0 ≤ p3 ∧ p3 < 8) ∧ (¬ (0 ≤ p4 ∧ p4 < zM m G 785 0)))) → Z (-1) G) ∧ ((((0 ≤ p1 ∧ p1 < 8) ∧ (0 ≤ p2 ∧ p2 < 8) ∧ (0 ≤ p3 ∧ p3 < 8) ∧ (0 ≤ p4 ∧ p4 < zM m G 785 0) ∧ (zM m G 18 p1) ≠ 1) ∨ ((0 ≤ p1 ∧ p1 < 8) ∧ (0 ≤ p2 ∧ p2 < 8) ∧ (0 ≤ p3 ∧ p3 < 8) ∧ (0 ≤ p4 ∧ p4 < zM m G 785 0) ∧ (zM m G 18 p1) = 1 ∧ (zM m G 18 p2) ≠ 1) ∨ ((0 ≤ p1 ∧ p1 < 8) ∧ (0 ≤ p2 ∧ p2 < 8) ∧ (0 ≤ p3 ∧ p3 < 8) ∧ (0 ≤ p4 ∧ p4 < zM m G 785 0) ∧ (zM m G 18 p1) = 1 ∧ (zM m G 18 p2) = 1 ∧ (zM m G 18 p3) ≠ 1)) → Z (-1) G) ∧ ((((0 ≤ p1 ∧ p1 < 8) ∧ (0 ≤ p2 ∧ p2 < 8) ∧ (0 ≤ p3 ∧ p3 < 8) ∧ (0 ≤ p4 ∧ p4 < zM m G 785 0) ∧ (zM m G 18 p1) = 1 ∧ (zM m G 18 p2) = 1 ∧ (zM m G 18 p3) = 1 ∧ zAlike (zM m G) p1 p2 p4) ∨ ((0 ≤ p1 ∧ p1 < 8) ∧ (0 ≤ p2 ∧ p2 < 8) ∧ (0 ≤ p3 ∧ p3 < 8) ∧ (0 ≤ p4 ∧ p4 < zM m G 785 0) ∧ (zM m G 18 p1) = 1 ∧ (zM m G 18 p2) = 1 ∧ (zM m G 18 p3) = 1 ∧ (¬ (zAlike (zM m G) p1 p2 p4)) ∧ zAlike (zM m G) p1 p3 p4)) → (inI (60 * p1)) ∧ (inI ((60 * p1) + p4)) ∧ (0 ≤ ((60 * p1) + p4) ∧ ((60 * p1) + p4) < 480) ∧ Z (zM m G 22 ((60 * p1) + p4)) G)) : EX e b m m_M_said Z kc ks 0 [(2, (m + 0)), (0, p1), (0, p2), (0, p3), (0, p4)] [] G := by
  obtain ⟨h, hJ35, hJ36, hJ37⟩ := h
  have kJ37 : (((0 ≤ p1 ∧ p1 < 8) ∧ (0 ≤ p2 ∧ p2 < 8) ∧ (0 ≤ p3 ∧ p3 < 8) ∧ (0 ≤ p4 ∧ p4 < zM m G 785 0) ∧ (zM m G 18 p1) = 1 ∧ (zM m G 18 p2) = 1 ∧ (zM m G 18 p3) = 1 ∧ zAlike (zM m G) p1 p2 p4) ∨ ((0 ≤ p1 ∧ p1 < 8) ∧ (0 ≤ p2 ∧ p2 < 8) ∧ (0 ≤ p3 ∧ p3 < 8) ∧ (0 ≤ p4 ∧ p4 < zM m G 785 0) ∧ (zM m G 18 p1) = 1 ∧ (zM m G 18 p2) = 1 ∧ (zM m G 18 p3) = 1 ∧ (¬ (zAlike (zM m G) p1 p2 p4)) ∧ zAlike (zM m G) p1 p3 p4)) → EX e b m m_M_said Z kc ks 90 [(2, (m + 0)), (0, p1), (0, p2), (0, p3), (0, p4)] [] G := by
    intro rJ37
    have h := hJ37 rJ37
    refine e_aload_n d_M_said_90 rfl ?_
    refine gx_M_78 d_M_said_91 rfl ?_
    refine e_bipush d_M_said_94 (by decide) (by decide) ?_
    refine e_iload_n d_M_said_96 rfl ?_
    obtain ⟨o38, h⟩ := h
    refine e_imul d_M_said_97 o38 ?_
    refine e_iload d_M_said_98 rfl ?_
    obtain ⟨o39, h⟩ := h
    refine e_iadd d_M_said_100 o39 ?_
    obtain ⟨o40, h⟩ := h
    refine xM_lald 22 rfl d_M_said_101 o40 ?_
    exact e_lret d_M_said_102 rfl h
  have kJ36 : (((0 ≤ p1 ∧ p1 < 8) ∧ (0 ≤ p2 ∧ p2 < 8) ∧ (0 ≤ p3 ∧ p3 < 8) ∧ (0 ≤ p4 ∧ p4 < zM m G 785 0) ∧ (zM m G 18 p1) ≠ 1) ∨ ((0 ≤ p1 ∧ p1 < 8) ∧ (0 ≤ p2 ∧ p2 < 8) ∧ (0 ≤ p3 ∧ p3 < 8) ∧ (0 ≤ p4 ∧ p4 < zM m G 785 0) ∧ (zM m G 18 p1) = 1 ∧ (zM m G 18 p2) ≠ 1) ∨ ((0 ≤ p1 ∧ p1 < 8) ∧ (0 ≤ p2 ∧ p2 < 8) ∧ (0 ≤ p3 ∧ p3 < 8) ∧ (0 ≤ p4 ∧ p4 < zM m G 785 0) ∧ (zM m G 18 p1) = 1 ∧ (zM m G 18 p2) = 1 ∧ (zM m G 18 p3) ≠ 1)) → EX e b m m_M_said Z kc ks 64 [(2, (m + 0)), (0, p1), (0, p2), (0, p3), (0, p4)] [] G := by
    intro rJ36
    have h := hJ36 rJ36
    refine e_ldc2 (-1) d_M_said_64 (by decide) (by have h9 := w_1875; rw [show (-1 : Int64) = Int64.ofInt (-1) from by decide] at h9; exact h9) ?_
    exact e_lret d_M_said_67 rfl h
  have kJ35 : (((¬ (0 ≤ p1 ∧ p1 < 8))) ∨ ((0 ≤ p1 ∧ p1 < 8) ∧ (¬ (0 ≤ p2 ∧ p2 < 8))) ∨ ((0 ≤ p1 ∧ p1 < 8) ∧ (0 ≤ p2 ∧ p2 < 8) ∧ (¬ (0 ≤ p3 ∧ p3 < 8))) ∨ ((0 ≤ p1 ∧ p1 < 8) ∧ (0 ≤ p2 ∧ p2 < 8) ∧ (0 ≤ p3 ∧ p3 < 8) ∧ (¬ (0 ≤ p4 ∧ p4 < zM m G 785 0)))) → EX e b m m_M_said Z kc ks 30 [(2, (m + 0)), (0, p1), (0, p2), (0, p3), (0, p4)] [] G := by
    intro rJ35
    have h := hJ35 rJ35
    refine e_ldc2 (-1) d_M_said_30 (by decide) (by have h9 := w_1875; rw [show (-1 : Int64) = Int64.ofInt (-1) from by decide] at h9; exact h9) ?_
    exact e_lret d_M_said_33 rfl h
  refine e_iload_n d_M_said_0 rfl ?_
  refine e_callS m_M_isShelf lw_good d_M_said_1 (k_M_isShelf _) ⟨Nat.le_of_ble_eq_true rfl, Nat.le_of_ble_eq_true rfl⟩ w_1593 w_1594 (args := [(0, p1)]) rfl rfl (Nat.le_of_ble_eq_true rfl) (kc' := kc) (ks' := ks) (mc := 0) (ms := 0) rfl rfl (c_M_isShelf) (pureK ?_)
  refine e_if_eq (tgt := 30) d_M_said_4 (by decide) (fun q1 => ?_) (fun q2 => ?_)
  · replace q1 := gb0.mp q1
    exact kJ35 (Or.inl q1)
  · replace q2 := gb1.mp q2
    have h := h q2
    refine e_iload_n d_M_said_7 rfl ?_
    refine e_callS m_M_isShelf lw_good d_M_said_8 (k_M_isShelf _) ⟨Nat.le_of_ble_eq_true rfl, Nat.le_of_ble_eq_true rfl⟩ w_1593 w_1594 (args := [(0, p2)]) rfl rfl (Nat.le_of_ble_eq_true rfl) (kc' := kc) (ks' := ks) (mc := 0) (ms := 0) rfl rfl (c_M_isShelf) (pureK ?_)
    refine e_if_eq (tgt := 30) d_M_said_11 (by decide) (fun q3 => ?_) (fun q4 => ?_)
    · replace q3 := gb0.mp q3
      exact kJ35 (Or.inr (Or.inl ⟨q2, q3⟩))
    · replace q4 := gb1.mp q4
      have h := h q4
      refine e_iload_n d_M_said_14 rfl ?_
      refine e_callS m_M_isShelf lw_good d_M_said_15 (k_M_isShelf _) ⟨Nat.le_of_ble_eq_true rfl, Nat.le_of_ble_eq_true rfl⟩ w_1593 w_1594 (args := [(0, p3)]) rfl rfl (Nat.le_of_ble_eq_true rfl) (kc' := kc) (ks' := ks) (mc := 0) (ms := 0) rfl rfl (c_M_isShelf) (pureK ?_)
      refine e_if_eq (tgt := 30) d_M_said_18 (by decide) (fun q5 => ?_) (fun q6 => ?_)
      · replace q5 := gb0.mp q5
        exact kJ35 (Or.inr (Or.inr (Or.inl ⟨q2, q4, q5⟩)))
      · replace q6 := gb1.mp q6
        have h := h q6
        refine e_aload_n d_M_said_21 rfl ?_
        refine e_iload d_M_said_22 rfl ?_
        refine EV.inv fun hFf7 => ?_
        have f7 := (fx_mt 0 rfl hFf7).1
        refine e_callV m_M_isThing 12 lw_good d_M_said_24 (k_M_isThing _) ⟨Nat.le_of_ble_eq_true rfl, Nat.le_of_ble_eq_true rfl⟩ w_1692 w_1694 w_s62 (q_M _) rfl f7 (args := [(0, p4)]) rfl rfl (Nat.le_of_ble_eq_true rfl) (kc' := kc) (ks' := ks) (mc := 0) (ms := 0) rfl rfl (c_M_isThing) (pureK ?_)
        refine e_if_ne (tgt := 34) d_M_said_27 (by decide) (fun q8 => ?_) (fun q9 => ?_)
        · replace q8 := gb1.mp q8
          have h := h q8
          refine e_aload_n d_M_said_34 rfl ?_
          refine gx_M_66 d_M_said_35 rfl ?_
          refine e_iload_n d_M_said_38 rfl ?_
          obtain ⟨o10, h⟩ := h
          refine xM_iald 18 rfl d_M_said_39 o10 ?_
          refine e_iconst d_M_said_40 (by decide) ?_
          refine e_icmp_ne (tgt := 64) d_M_said_41 (by decide) (fun q11 => ?_) (fun q12 => ?_)
          · exact kJ36 (Or.inl ⟨q2, q4, q6, q8, q11⟩)
          · have h := h q12
            refine e_aload_n d_M_said_44 rfl ?_
            refine gx_M_66 d_M_said_45 rfl ?_
            refine e_iload_n d_M_said_48 rfl ?_
            obtain ⟨o13, h⟩ := h
            refine xM_iald 18 rfl d_M_said_49 o13 ?_
            refine e_iconst d_M_said_50 (by decide) ?_
            refine e_icmp_ne (tgt := 64) d_M_said_51 (by decide) (fun q14 => ?_) (fun q15 => ?_)
            · exact kJ36 (Or.inr (Or.inl ⟨q2, q4, q6, q8, q12, q14⟩))
            · have h := h q15
              refine e_aload_n d_M_said_54 rfl ?_
              refine gx_M_66 d_M_said_55 rfl ?_
              refine e_iload_n d_M_said_58 rfl ?_
              obtain ⟨o16, h⟩ := h
              refine xM_iald 18 rfl d_M_said_59 o16 ?_
              refine e_iconst d_M_said_60 (by decide) ?_
              refine e_icmp_eq (tgt := 68) d_M_said_61 (by decide) (fun q17 => ?_) (fun q18 => ?_)
              · have h := h q17
                refine e_aload_n d_M_said_68 rfl ?_
                refine e_iload_n d_M_said_69 rfl ?_
                refine e_iload_n d_M_said_70 rfl ?_
                refine e_iload d_M_said_71 rfl ?_
                refine EV.inv fun hFf19 => ?_
                have f19 := (fx_mt 0 rfl hFf19).1
                obtain ⟨o20, o21, o22, h⟩ := h
                refine e_callV m_M_areAlike 12 lw_good d_M_said_73 (k_M_areAlike _) ⟨Nat.le_of_ble_eq_true rfl, Nat.le_of_ble_eq_true rfl⟩ w_1863 w_1865 w_s75 (q_M _) rfl f19 (args := [(0, p1), (0, p2), (0, p4)]) rfl rfl (Nat.le_of_ble_eq_true rfl) (kc' := kc) (ks' := ks) (mc := 0) (ms := 0) rfl rfl (c_M_areAlike o20 o21 o22) (pureK ?_)
                refine e_if_ne (tgt := 90) d_M_said_76 (by decide) (fun q23 => ?_) (fun q24 => ?_)
                · replace q23 := gb1.mp q23
                  exact kJ37 (Or.inl ⟨q2, q4, q6, q8, q12, q15, q17, q23⟩)
                · replace q24 := gb0.mp q24
                  have h := h q24
                  refine e_aload_n d_M_said_79 rfl ?_
                  refine e_iload_n d_M_said_80 rfl ?_
                  refine e_iload_n d_M_said_81 rfl ?_
                  refine e_iload d_M_said_82 rfl ?_
                  refine EV.inv fun hFf25 => ?_
                  have f25 := (fx_mt 0 rfl hFf25).1
                  obtain ⟨o26, h⟩ := h
                  refine e_callV m_M_areAlike 12 lw_good d_M_said_84 (k_M_areAlike _) ⟨Nat.le_of_ble_eq_true rfl, Nat.le_of_ble_eq_true rfl⟩ w_1863 w_1865 w_s75 (q_M _) rfl f25 (args := [(0, p1), (0, p3), (0, p4)]) rfl rfl (Nat.le_of_ble_eq_true rfl) (kc' := kc) (ks' := ks) (mc := 0) (ms := 0) rfl rfl (c_M_areAlike o20 o26 o22) (pureK ?_)
                  refine e_if_eq (tgt := 103) d_M_said_87 (by decide) (fun q27 => ?_) (fun q28 => ?_)
                  · replace q27 := gb0.mp q27
                    have h := h q27
                    refine e_aload_n d_M_said_103 rfl ?_
                    refine e_iload_n d_M_said_104 rfl ?_
                    refine e_iload_n d_M_said_105 rfl ?_
                    refine e_iload d_M_said_106 rfl ?_
                    refine EV.inv fun hFf29 => ?_
                    have f29 := (fx_mt 0 rfl hFf29).1
                    refine e_callV m_M_areAlike 12 lw_good d_M_said_108 (k_M_areAlike _) ⟨Nat.le_of_ble_eq_true rfl, Nat.le_of_ble_eq_true rfl⟩ w_1863 w_1865 w_s75 (q_M _) rfl f29 (args := [(0, p2), (0, p3), (0, p4)]) rfl rfl (Nat.le_of_ble_eq_true rfl) (kc' := kc) (ks' := ks) (mc := 0) (ms := 0) rfl rfl (c_M_areAlike o21 o26 o22) (pureK ?_)
                    refine e_if_eq (tgt := 129) d_M_said_111 (by decide) (fun q30 => ?_) (fun q31 => ?_)
                    · replace q30 := gb0.mp q30
                      have h := h.1 q30
                      refine e_ldc2 (-1) d_M_said_129 (by decide) (by have h9 := w_1875; rw [show (-1 : Int64) = Int64.ofInt (-1) from by decide] at h9; exact h9) ?_
                      exact e_lret d_M_said_132 rfl h
                    · replace q31 := gb1.mp q31
                      have h := h.2 q31
                      refine e_aload_n d_M_said_114 rfl ?_
                      refine gx_M_78 d_M_said_115 rfl ?_
                      refine e_bipush d_M_said_118 (by decide) (by decide) ?_
                      refine e_iload_n d_M_said_120 rfl ?_
                      obtain ⟨o32, h⟩ := h
                      refine e_imul d_M_said_121 o32 ?_
                      refine e_iload d_M_said_122 rfl ?_
                      obtain ⟨o33, h⟩ := h
                      refine e_iadd d_M_said_124 o33 ?_
                      obtain ⟨o34, h⟩ := h
                      refine xM_lald 22 rfl d_M_said_125 o34 ?_
                      refine e_goto (tgt := 132) d_M_said_126 (by decide) ?_
                      exact e_lret d_M_said_132 rfl h
                  · replace q28 := gb1.mp q28
                    exact kJ37 (Or.inr ⟨q2, q4, q6, q8, q12, q15, q17, q24, q28⟩)
              · exact kJ36 (Or.inr (Or.inr ⟨q2, q4, q6, q8, q12, q15, q18⟩))
        · replace q9 := gb0.mp q9
          exact kJ35 (Or.inr (Or.inr (Or.inr ⟨q2, q4, q6, q9⟩)))
set_option maxRecDepth 20000 in
set_option maxHeartbeats 4000000 in
theorem sg_M_quarrel_0 {e : gE} {b : Nat} {m : Int} {Z : Int → gH → Prop} {kc ks : Nat} {G : gH} {p1 p2 p3 : Int} (h : ((0 ≤ p1 ∧ p1 < 8) → ((0 ≤ p2 ∧ p2 < 8) → ((0 ≤ p3 ∧ p3 < 8) → (0 ≤ p1 ∧ p1 < 8) ∧ ((zM m G 18 p1) ≠ 2 → (0 ≤ p2 ∧ p2 < 8) ∧ ((zM m G 18 p2) ≠ 2 → (0 ≤ p3 ∧ p3 < 8) ∧ ((zM m G 18 p3) ≠ 2 → ((zM m G 18 p1) ≠ 0 → ((zM m G 18 p2) ≠ 0 → ((zM m G 18 p3) ≠ 0 → EX e b m m_M_quarrel Z kc ks 104 [(2, (m + 0)), (0, p1), (0, p2), (0, p3), (0, 0), (0, 0), (9, 0), (9, 0)] [] G))))))))) ∧ ((((¬ (0 ≤ p1 ∧ p1 < 8))) ∨ ((0 ≤ p1 ∧ p1 < 8) ∧ (¬ (0 ≤ p2 ∧ p2 < 8))) ∨ ((0 ≤ p1 ∧ p1 < 8) ∧ (0 ≤ p2 ∧ p2 < 8) ∧ (¬ (0 ≤ p3 ∧ p3 < 8)))) → GX e b m m_M_no [(2, (m + 0)), (0, (-1))] G 0 0 (fun v24 G25 => Z v24 G25)) ∧ ((((0 ≤ p1 ∧ p1 < 8) ∧ (0 ≤ p2 ∧ p2 < 8) ∧ (0 ≤ p3 ∧ p3 < 8) ∧ (zM m G 18 p1) = 2) ∨ ((0 ≤ p1 ∧ p1 < 8) ∧ (0 ≤ p2 ∧ p2 < 8) ∧ (0 ≤ p3 ∧ p3 < 8) ∧ (zM m G 18 p1) ≠ 2 ∧ (zM m G 18 p2) = 2) ∨ ((0 ≤ p1 ∧ p1 < 8) ∧ (0 ≤ p2 ∧ p2 < 8) ∧ (0 ≤ p3 ∧ p3 < 8) ∧ (zM m G 18 p1) ≠ 2 ∧ (zM m G 18 p2) ≠ 2 ∧ (zM m G 18 p3) = 2)) → GX e b m m_M_no [(2, (m + 0)), (0, (-2))] G 0 0 (fun v28 G29 => Z v28 G29)) ∧ ((((0 ≤ p1 ∧ p1 < 8) ∧ (0 ≤ p2 ∧ p2 < 8) ∧ (0 ≤ p3 ∧ p3 < 8) ∧ (zM m G 18 p1) ≠ 2 ∧ (zM m G 18 p2) ≠ 2 ∧ (zM m G 18 p3) ≠ 2 ∧ (zM m G 18 p1) = 0) ∨ ((0 ≤ p1 ∧ p1 < 8) ∧ (0 ≤ p2 ∧ p2 < 8) ∧ (0 ≤ p3 ∧ p3 < 8) ∧ (zM m G 18 p1) ≠ 2 ∧ (zM m G 18 p2) ≠ 2 ∧ (zM m G 18 p3) ≠ 2 ∧ (zM m G 18 p1) ≠ 0 ∧ (zM m G 18 p2) = 0) ∨ ((0 ≤ p1 ∧ p1 < 8) ∧ (0 ≤ p2 ∧ p2 < 8) ∧ (0 ≤ p3 ∧ p3 < 8) ∧ (zM m G 18 p1) ≠ 2 ∧ (zM m G 18 p2) ≠ 2 ∧ (zM m G 18 p3) ≠ 2 ∧ (zM m G 18 p1) ≠ 0 ∧ (zM m G 18 p2) ≠ 0 ∧ (zM m G 18 p3) = 0)) → GX e b m m_M_no [(2, (m + 0)), (0, (-3))] G 0 0 (fun v32 G33 => Z v32 G33))) : EX e b m m_M_quarrel Z kc ks 0 [(2, (m + 0)), (0, p1), (0, p2), (0, p3), (9, 0), (9, 0), (9, 0), (9, 0)] [] G := by
  obtain ⟨h, hJ22, hJ26, hJ30⟩ := h
  have kJ30 : (((0 ≤ p1 ∧ p1 < 8) ∧ (0 ≤ p2 ∧ p2 < 8) ∧ (0 ≤ p3 ∧ p3 < 8) ∧ (zM m G 18 p1) ≠ 2 ∧ (zM m G 18 p2) ≠ 2 ∧ (zM m G 18 p3) ≠ 2 ∧ (zM m G 18 p1) = 0) ∨ ((0 ≤ p1 ∧ p1 < 8) ∧ (0 ≤ p2 ∧ p2 < 8) ∧ (0 ≤ p3 ∧ p3 < 8) ∧ (zM m G 18 p1) ≠ 2 ∧ (zM m G 18 p2) ≠ 2 ∧ (zM m G 18 p3) ≠ 2 ∧ (zM m G 18 p1) ≠ 0 ∧ (zM m G 18 p2) = 0) ∨ ((0 ≤ p1 ∧ p1 < 8) ∧ (0 ≤ p2 ∧ p2 < 8) ∧ (0 ≤ p3 ∧ p3 < 8) ∧ (zM m G 18 p1) ≠ 2 ∧ (zM m G 18 p2) ≠ 2 ∧ (zM m G 18 p3) ≠ 2 ∧ (zM m G 18 p1) ≠ 0 ∧ (zM m G 18 p2) ≠ 0 ∧ (zM m G 18 p3) = 0)) → EX e b m m_M_quarrel Z kc ks 91 [(2, (m + 0)), (0, p1), (0, p2), (0, p3), (9, 0), (9, 0), (9, 0), (9, 0)] [] G := by
    intro rJ30
    have h := hJ30 rJ30
    refine e_aload_n d_M_quarrel_91 rfl ?_
    refine e_bipush d_M_quarrel_92 (by decide) (by decide) ?_
    refine EV.inv fun hFf31 => ?_
    have f31 := (fx_mt 0 rfl hFf31).1
    refine e_callV m_M_no 12 lw_good d_M_quarrel_94 (k_M_no _) ⟨Nat.le_of_ble_eq_true rfl, Nat.le_of_ble_eq_true rfl⟩ w_1569 w_1571 w_s42 (q_M _) rfl f31 (args := [(0, (-3))]) rfl rfl (Nat.le_of_ble_eq_true rfl) (kc' := kc) (ks' := ks) (mc := 0) (ms := 0) rfl rfl h ?_
    intro v32 G33 h
    exact e_iret d_M_quarrel_97 rfl h
  have kJ26 : (((0 ≤ p1 ∧ p1 < 8) ∧ (0 ≤ p2 ∧ p2 < 8) ∧ (0 ≤ p3 ∧ p3 < 8) ∧ (zM m G 18 p1) = 2) ∨ ((0 ≤ p1 ∧ p1 < 8) ∧ (0 ≤ p2 ∧ p2 < 8) ∧ (0 ≤ p3 ∧ p3 < 8) ∧ (zM m G 18 p1) ≠ 2 ∧ (zM m G 18 p2) = 2) ∨ ((0 ≤ p1 ∧ p1 < 8) ∧ (0 ≤ p2 ∧ p2 < 8) ∧ (0 ≤ p3 ∧ p3 < 8) ∧ (zM m G 18 p1) ≠ 2 ∧ (zM m G 18 p2) ≠ 2 ∧ (zM m G 18 p3) = 2)) → EX e b m m_M_quarrel Z kc ks 57 [(2, (m + 0)), (0, p1), (0, p2), (0, p3), (9, 0), (9, 0), (9, 0), (9, 0)] [] G := by
    intro rJ26
    have h := hJ26 rJ26
    refine e_aload_n d_M_quarrel_57 rfl ?_
    refine e_bipush d_M_quarrel_58 (by decide) (by decide) ?_
    refine EV.inv fun hFf27 => ?_
    have f27 := (fx_mt 0 rfl hFf27).1
    refine e_callV m_M_no 12 lw_good d_M_quarrel_60 (k_M_no _) ⟨Nat.le_of_ble_eq_true rfl, Nat.le_of_ble_eq_true rfl⟩ w_1569 w_1571 w_s42 (q_M _) rfl f27 (args := [(0, (-2))]) rfl rfl (Nat.le_of_ble_eq_true rfl) (kc' := kc) (ks' := ks) (mc := 0) (ms := 0) rfl rfl h ?_
    intro v28 G29 h
    exact e_iret d_M_quarrel_63 rfl h
  have kJ22 : (((¬ (0 ≤ p1 ∧ p1 < 8))) ∨ ((0 ≤ p1 ∧ p1 < 8) ∧ (¬ (0 ≤ p2 ∧ p2 < 8))) ∨ ((0 ≤ p1 ∧ p1 < 8) ∧ (0 ≤ p2 ∧ p2 < 8) ∧ (¬ (0 ≤ p3 ∧ p3 < 8)))) → EX e b m m_M_quarrel Z kc ks 21 [(2, (m + 0)), (0, p1), (0, p2), (0, p3), (9, 0), (9, 0), (9, 0), (9, 0)] [] G := by
    intro rJ22
    have h := hJ22 rJ22
    refine e_aload_n d_M_quarrel_21 rfl ?_
    refine e_iconst d_M_quarrel_22 (by decide) ?_
    refine EV.inv fun hFf23 => ?_
    have f23 := (fx_mt 0 rfl hFf23).1
    refine e_callV m_M_no 12 lw_good d_M_quarrel_23 (k_M_no _) ⟨Nat.le_of_ble_eq_true rfl, Nat.le_of_ble_eq_true rfl⟩ w_1569 w_1571 w_s42 (q_M _) rfl f23 (args := [(0, (-1))]) rfl rfl (Nat.le_of_ble_eq_true rfl) (kc' := kc) (ks' := ks) (mc := 0) (ms := 0) rfl rfl h ?_
    intro v24 G25 h
    exact e_iret d_M_quarrel_26 rfl h
  refine e_iload_n d_M_quarrel_0 rfl ?_
  refine e_callS m_M_isShelf lw_good d_M_quarrel_1 (k_M_isShelf _) ⟨Nat.le_of_ble_eq_true rfl, Nat.le_of_ble_eq_true rfl⟩ w_1593 w_1594 (args := [(0, p1)]) rfl rfl (Nat.le_of_ble_eq_true rfl) (kc' := kc) (ks' := ks) (mc := 0) (ms := 0) rfl rfl (c_M_isShelf) (pureK ?_)
  refine e_if_eq (tgt := 21) d_M_quarrel_4 (by decide) (fun q1 => ?_) (fun q2 => ?_)
  · replace q1 := gb0.mp q1
    exact kJ22 (Or.inl q1)
  · replace q2 := gb1.mp q2
    have h := h q2
    refine e_iload_n d_M_quarrel_7 rfl ?_
    refine e_callS m_M_isShelf lw_good d_M_quarrel_8 (k_M_isShelf _) ⟨Nat.le_of_ble_eq_true rfl, Nat.le_of_ble_eq_true rfl⟩ w_1593 w_1594 (args := [(0, p2)]) rfl rfl (Nat.le_of_ble_eq_true rfl) (kc' := kc) (ks' := ks) (mc := 0) (ms := 0) rfl rfl (c_M_isShelf) (pureK ?_)
    refine e_if_eq (tgt := 21) d_M_quarrel_11 (by decide) (fun q3 => ?_) (fun q4 => ?_)
    · replace q3 := gb0.mp q3
      exact kJ22 (Or.inr (Or.inl ⟨q2, q3⟩))
    · replace q4 := gb1.mp q4
      have h := h q4
      refine e_iload_n d_M_quarrel_14 rfl ?_
      refine e_callS m_M_isShelf lw_good d_M_quarrel_15 (k_M_isShelf _) ⟨Nat.le_of_ble_eq_true rfl, Nat.le_of_ble_eq_true rfl⟩ w_1593 w_1594 (args := [(0, p3)]) rfl rfl (Nat.le_of_ble_eq_true rfl) (kc' := kc) (ks' := ks) (mc := 0) (ms := 0) rfl rfl (c_M_isShelf) (pureK ?_)
      refine e_if_ne (tgt := 27) d_M_quarrel_18 (by decide) (fun q5 => ?_) (fun q6 => ?_)
      · replace q5 := gb1.mp q5
        have h := h q5
        refine e_aload_n d_M_quarrel_27 rfl ?_
        refine gx_M_66 d_M_quarrel_28 rfl ?_
        refine e_iload_n d_M_quarrel_31 rfl ?_
        obtain ⟨o7, h⟩ := h
        refine xM_iald 18 rfl d_M_quarrel_32 o7 ?_
        refine e_iconst d_M_quarrel_33 (by decide) ?_
        refine e_icmp_eq (tgt := 57) d_M_quarrel_34 (by decide) (fun q8 => ?_) (fun q9 => ?_)
        · exact kJ26 (Or.inl ⟨q2, q4, q5, q8⟩)
        · have h := h q9
          refine e_aload_n d_M_quarrel_37 rfl ?_
          refine gx_M_66 d_M_quarrel_38 rfl ?_
          refine e_iload_n d_M_quarrel_41 rfl ?_
          obtain ⟨o10, h⟩ := h
          refine xM_iald 18 rfl d_M_quarrel_42 o10 ?_
          refine e_iconst d_M_quarrel_43 (by decide) ?_
          refine e_icmp_eq (tgt := 57) d_M_quarrel_44 (by decide) (fun q11 => ?_) (fun q12 => ?_)
          · exact kJ26 (Or.inr (Or.inl ⟨q2, q4, q5, q9, q11⟩))
          · have h := h q12
            refine e_aload_n d_M_quarrel_47 rfl ?_
            refine gx_M_66 d_M_quarrel_48 rfl ?_
            refine e_iload_n d_M_quarrel_51 rfl ?_
            obtain ⟨o13, h⟩ := h
            refine xM_iald 18 rfl d_M_quarrel_52 o13 ?_
            refine e_iconst d_M_quarrel_53 (by decide) ?_
            refine e_icmp_ne (tgt := 64) d_M_quarrel_54 (by decide) (fun q14 => ?_) (fun q15 => ?_)
            · have h := h q14
              refine e_aload_n d_M_quarrel_64 rfl ?_
              refine gx_M_66 d_M_quarrel_65 rfl ?_
              refine e_iload_n d_M_quarrel_68 rfl ?_
              refine xM_iald 18 rfl d_M_quarrel_69 o7 ?_
              refine e_if_eq (tgt := 91) d_M_quarrel_70 (by decide) (fun q16 => ?_) (fun q17 => ?_)
              · exact kJ30 (Or.inl ⟨q2, q4, q5, q9, q12, q14, q16⟩)
              · have h := h q17
                refine e_aload_n d_M_quarrel_73 rfl ?_
                refine gx_M_66 d_M_quarrel_74 rfl ?_
                refine e_iload_n d_M_quarrel_77 rfl ?_
                refine xM_iald 18 rfl d_M_quarrel_78 o10 ?_
                refine e_if_eq (tgt := 91) d_M_quarrel_79 (by decide) (fun q18 => ?_) (fun q19 => ?_)
                · exact kJ30 (Or.inr (Or.inl ⟨q2, q4, q5, q9, q12, q14, q17, q18⟩))
                · have h := h q19
                  refine e_aload_n d_M_quarrel_82 rfl ?_
                  refine gx_M_66 d_M_quarrel_83 rfl ?_
                  refine e_iload_n d_M_quarrel_86 rfl ?_
                  refine xM_iald 18 rfl d_M_quarrel_87 o13 ?_
                  refine e_if_ne (tgt := 98) d_M_quarrel_88 (by decide) (fun q20 => ?_) (fun q21 => ?_)
                  · have h := h q20
                    refine e_iconst d_M_quarrel_98 (by decide) ?_
                    refine e_istore (ls' := [(2, (m + 0)), (0, p1), (0, p2), (0, p3), (0, 0), (9, 0), (9, 0), (9, 0)]) d_M_quarrel_99 (by decide) rfl ?_
                    refine e_iconst d_M_quarrel_101 (by decide) ?_
                    refine e_istore (ls' := [(2, (m + 0)), (0, p1), (0, p2), (0, p3), (0, 0), (0, 0), (9, 0), (9, 0)]) d_M_quarrel_102 (by decide) rfl ?_
                    exact e_forget (ls' := [(2, (m + 0)), (0, p1), (0, p2), (0, p3), (0, 0), (0, 0), (9, 0), (9, 0)]) ⟨Or.inr rfl, Or.inr rfl, Or.inr rfl, Or.inr rfl, Or.inr rfl, Or.inr rfl, Or.inl rfl, Or.inl rfl, trivial⟩ h
                  · exact kJ30 (Or.inr (Or.inr ⟨q2, q4, q5, q9, q12, q14, q17, q19, q21⟩))
            · exact kJ26 (Or.inr (Or.inr ⟨q2, q4, q5, q9, q12, q15⟩))
      · replace q6 := gb0.mp q6
        exact kJ22 (Or.inr (Or.inr ⟨q2, q4, q6⟩))
set_option maxRecDepth 20000 in
set_option maxHeartbeats 4000000 in
theorem sg_M_quarrel_104 {e : gE} {b : Nat} {m : Int} {Z : Int → gH → Prop} {kc ks : Nat} {G : gH} {p1 p2 p3 x4 x5 : Int} (h : (((zM m G 785 0) ≤ x5 → Z x4 G) ∧ (x5 < (zM m G 785 0) → ((0 ≤ p1 ∧ p1 < 8) ∧ zM m G 20 p1 ≤ 60) ∧ (((0 ≤ p2 ∧ p2 < 8) ∧ zM m G 20 p2 ≤ 60) ∧ ((0 ≤ x5) ∧ (((0 ≤ p3 ∧ p3 < 8) ∧ zM m G 20 p3 ≤ 60) ∧ (zAlike (zM m G) p1 p2 x5 → (zAlike (zM m G) p1 p3 x5 → (inI (x5 + 1)) ∧ EX e b m m_M_quarrel Z kc ks 104 [(2, (m + 0)), (0, p1), (0, p2), (0, p3), (0, x4), (0, (x5 + 1)), (9, 0), (9, 0)] [] G))))))) ∧ (((x5 < (zM m G 785 0) ∧ (¬ (zAlike (zM m G) p1 p2 x5))) ∨ (x5 < (zM m G 785 0) ∧ zAlike (zM m G) p1 p2 x5 ∧ (¬ (zAlike (zM m G) p1 p3 x5)))) → ((¬ (zAlike (zM m G) p1 p2 x5)) → ((¬ (zAlike (zM m G) p1 p3 x5)) → ((0 ≤ p2 ∧ p2 < 8) ∧ zM m G 20 p2 ≤ 60) ∧ (((0 ≤ p3 ∧ p3 < 8) ∧ zM m G 20 p3 ≤ 60) ∧ ((0 ≤ x5) ∧ ((¬ (zAlike (zM m G) p2 p3 x5)) → (0 ≤ p1 ∧ p1 < 8) ∧ ((¬ (x5 < zM m G 20 p1)) → (0 ≤ p2 ∧ p2 < 8) ∧ ((¬ (x5 < zM m G 20 p2)) → (0 ≤ p3 ∧ p3 < 8) ∧ ((¬ (x5 < zM m G 20 p3)) → (inI (x4 + 3)) ∧ (inI (x5 + 1)) ∧ EX e b m m_M_quarrel Z kc ks 104 [(2, (m + 0)), (0, p1), (0, p2), (0, p3), (0, (x4 + 3)), (0, (x5 + 1)), (9, 0), (9, 0)] [] G))))))))) ∧ (((((x5 < (zM m G 785 0) ∧ (¬ (zAlike (zM m G) p1 p2 x5))) ∨ (x5 < (zM m G 785 0) ∧ zAlike (zM m G) p1 p2 x5 ∧ (¬ (zAlike (zM m G) p1 p3 x5)))) ∧ zAlike (zM m G) p1 p2 x5) ∨ (((x5 < (zM m G 785 0) ∧ (¬ (zAlike (zM m G) p1 p2 x5))) ∨ (x5 < (zM m G 785 0) ∧ zAlike (zM m G) p1 p2 x5 ∧ (¬ (zAlike (zM m G) p1 p3 x5)))) ∧ (¬ (zAlike (zM m G) p1 p2 x5)) ∧ zAlike (zM m G) p1 p3 x5) ∨ (((x5 < (zM m G 785 0) ∧ (¬ (zAlike (zM m G) p1 p2 x5))) ∨ (x5 < (zM m G 785 0) ∧ zAlike (zM m G) p1 p2 x5 ∧ (¬ (zAlike (zM m G) p1 p3 x5)))) ∧ (¬ (zAlike (zM m G) p1 p2 x5)) ∧ (¬ (zAlike (zM m G) p1 p3 x5)) ∧ zAlike (zM m G) p2 p3 x5)) → (inI (x4 + 1)) ∧ (inI (x5 + 1)) ∧ EX e b m m_M_quarrel Z kc ks 104 [(2, (m + 0)), (0, p1), (0, p2), (0, p3), (0, (x4 + 1)), (0, (x5 + 1)), (9, 0), (9, 0)] [] G) ∧ (((((x5 < (zM m G 785 0) ∧ (¬ (zAlike (zM m G) p1 p2 x5))) ∨ (x5 < (zM m G 785 0) ∧ zAlike (zM m G) p1 p2 x5 ∧ (¬ (zAlike (zM m G) p1 p3 x5)))) ∧ (¬ (zAlike (zM m G) p1 p2 x5)) ∧ (¬ (zAlike (zM m G) p1 p3 x5)) ∧ (¬ (zAlike (zM m G) p2 p3 x5)) ∧ x5 < zM m G 20 p1) ∨ (((x5 < (zM m G 785 0) ∧ (¬ (zAlike (zM m G) p1 p2 x5))) ∨ (x5 < (zM m G 785 0) ∧ zAlike (zM m G) p1 p2 x5 ∧ (¬ (zAlike (zM m G) p1 p3 x5)))) ∧ (¬ (zAlike (zM m G) p1 p2 x5)) ∧ (¬ (zAlike (zM m G) p1 p3 x5)) ∧ (¬ (zAlike (zM m G) p2 p3 x5)) ∧ (¬ (x5 < zM m G 20 p1)) ∧ x5 < zM m G 20 p2) ∨ (((x5 < (zM m G 785 0) ∧ (¬ (zAlike (zM m G) p1 p2 x5))) ∨ (x5 < (zM m G 785 0) ∧ zAlike (zM m G) p1 p2 x5 ∧ (¬ (zAlike (zM m G) p1 p3 x5)))) ∧ (¬ (zAlike (zM m G) p1 p2 x5)) ∧ (¬ (zAlike (zM m G) p1 p3 x5)) ∧ (¬ (zAlike (zM m G) p2 p3 x5)) ∧ (¬ (x5 < zM m G 20 p1)) ∧ (¬ (x5 < zM m G 20 p2)) ∧ x5 < zM m G 20 p3)) → (inI (x4 + 2)) ∧ (inI (x5 + 1)) ∧ EX e b m m_M_quarrel Z kc ks 104 [(2, (m + 0)), (0, p1), (0, p2), (0, p3), (0, (x4 + 2)), (0, (x5 + 1)), (9, 0), (9, 0)] [] G)) : EX e b m m_M_quarrel Z kc ks 104 [(2, (m + 0)), (0, p1), (0, p2), (0, p3), (0, x4), (0, x5), (9, 0), (9, 0)] [] G := by
  obtain ⟨h, hJ13, hJ36, hJ38⟩ := h
  have kJ38 : ((((x5 < (zM m G 785 0) ∧ (¬ (zAlike (zM m G) p1 p2 x5))) ∨ (x5 < (zM m G 785 0) ∧ zAlike (zM m G) p1 p2 x5 ∧ (¬ (zAlike (zM m G) p1 p3 x5)))) ∧ (¬ (zAlike (zM m G) p1 p2 x5)) ∧ (¬ (zAlike (zM m G) p1 p3 x5)) ∧ (¬ (zAlike (zM m G) p2 p3 x5)) ∧ x5 < zM m G 20 p1) ∨ (((x5 < (zM m G 785 0) ∧ (¬ (zAlike (zM m G) p1 p2 x5))) ∨ (x5 < (zM m G 785 0) ∧ zAlike (zM m G) p1 p2 x5 ∧ (¬ (zAlike (zM m G) p1 p3 x5)))) ∧ (¬ (zAlike (zM m G) p1 p2 x5)) ∧ (¬ (zAlike (zM m G) p1 p3 x5)) ∧ (¬ (zAlike (zM m G) p2 p3 x5)) ∧ (¬ (x5 < zM m G 20 p1)) ∧ x5 < zM m G 20 p2) ∨ (((x5 < (zM m G 785 0) ∧ (¬ (zAlike (zM m G) p1 p2 x5))) ∨ (x5 < (zM m G 785 0) ∧ zAlike (zM m G) p1 p2 x5 ∧ (¬ (zAlike (zM m G) p1 p3 x5)))) ∧ (¬ (zAlike (zM m G) p1 p2 x5)) ∧ (¬ (zAlike (zM m G) p1 p3 x5)) ∧ (¬ (zAlike (zM m G) p2 p3 x5)) ∧ (¬ (x5 < zM m G 20 p1)) ∧ (¬ (x5 < zM m G 20 p2)) ∧ x5 < zM m G 20 p3)) → EX e b m m_M_quarrel Z kc ks 205 [(2, (m + 0)), (0, p1), (0, p2), (0, p3), (0, x4), (0, x5), (0, (if zAlike (zM m G) p1 p2 x5 then 1 else 0)), (0, (if zAlike (zM m G) p1 p3 x5 then 1 else 0))] [(0, x4)] G := by
    intro rJ38
    have h := hJ38 rJ38
    refine e_iconst d_M_quarrel_205 (by decide) ?_
    refine e_goto (tgt := 210) d_M_quarrel_206 (by decide) ?_
    obtain ⟨o40, h⟩ := h
    refine e_iadd d_M_quarrel_210 o40 ?_
    refine e_istore (ls' := [(2, (m + 0)), (0, p1), (0, p2), (0, p3), (0, (x4 + 2)), (0, x5), (0, (if zAlike (zM m G) p1 p2 x5 then 1 else 0)), (0, (if zAlike (zM m G) p1 p3 x5 then 1 else 0))]) d_M_quarrel_211 (by decide) rfl ?_
    obtain ⟨o44, h⟩ := h
    refine e_iinc (ls' := [(2, (m + 0)), (0, p1), (0, p2), (0, p3), (0, (x4 + 2)), (0, (x5 + 1)), (0, (if zAlike (zM m G) p1 p2 x5 then 1 else 0)), (0, (if zAlike (zM m G) p1 p3 x5 then 1 else 0))]) d_M_quarrel_213 rfl (by decide) o44 rfl ?_
    refine e_goto (tgt := 104) d_M_quarrel_216 (by decide) ?_
    exact e_forget (ls' := [(2, (m + 0)), (0, p1), (0, p2), (0, p3), (0, (x4 + 2)), (0, (x5 + 1)), (9, 0), (9, 0)]) ⟨Or.inr rfl, Or.inr rfl, Or.inr rfl, Or.inr rfl, Or.inr rfl, Or.inr rfl, Or.inl rfl, Or.inl rfl, trivial⟩ h
  have kJ36 : ((((x5 < (zM m G 785 0) ∧ (¬ (zAlike (zM m G) p1 p2 x5))) ∨ (x5 < (zM m G 785 0) ∧ zAlike (zM m G) p1 p2 x5 ∧ (¬ (zAlike (zM m G) p1 p3 x5)))) ∧ zAlike (zM m G) p1 p2 x5) ∨ (((x5 < (zM m G 785 0) ∧ (¬ (zAlike (zM m G) p1 p2 x5))) ∨ (x5 < (zM m G 785 0) ∧ zAlike (zM m G) p1 p2 x5 ∧ (¬ (zAlike (zM m G) p1 p3 x5)))) ∧ (¬ (zAlike (zM m G) p1 p2 x5)) ∧ zAlike (zM m G) p1 p3 x5) ∨ (((x5 < (zM m G 785 0) ∧ (¬ (zAlike (zM m G) p1 p2 x5))) ∨ (x5 < (zM m G 785 0) ∧ zAlike (zM m G) p1 p2 x5 ∧ (¬ (zAlike (zM m G) p1 p3 x5)))) ∧ (¬ (zAlike (zM m G) p1 p2 x5)) ∧ (¬ (zAlike (zM m G) p1 p3 x5)) ∧ zAlike (zM m G) p2 p3 x5)) → EX e b m m_M_quarrel Z kc ks 167 [(2, (m + 0)), (0, p1), (0, p2), (0, p3), (0, x4), (0, x5), (0, (if zAlike (zM m G) p1 p2 x5 then 1 else 0)), (0, (if zAlike (zM m G) p1 p3 x5 then 1 else 0))] [] G := by
    intro rJ36
    have h := hJ36 rJ36
    obtain ⟨o37, h⟩ := h
    refine e_iinc (ls' := [(2, (m + 0)), (0, p1), (0, p2), (0, p3), (0, (x4 + 1)), (0, x5), (0, (if zAlike (zM m G) p1 p2 x5 then 1 else 0)), (0, (if zAlike (zM m G) p1 p3 x5 then 1 else 0))]) d_M_quarrel_167 rfl (by decide) o37 rfl ?_
    refine e_goto (tgt := 213) d_M_quarrel_170 (by decide) ?_
    obtain ⟨o42, h⟩ := h
    refine e_iinc (ls' := [(2, (m + 0)), (0, p1), (0, p2), (0, p3), (0, (x4 + 1)), (0, (x5 + 1)), (0, (if zAlike (zM m G) p1 p2 x5 then 1 else 0)), (0, (if zAlike (zM m G) p1 p3 x5 then 1 else 0))]) d_M_quarrel_213 rfl (by decide) o42 rfl ?_
    refine e_goto (tgt := 104) d_M_quarrel_216 (by decide) ?_
    exact e_forget (ls' := [(2, (m + 0)), (0, p1), (0, p2), (0, p3), (0, (x4 + 1)), (0, (x5 + 1)), (9, 0), (9, 0)]) ⟨Or.inr rfl, Or.inr rfl, Or.inr rfl, Or.inr rfl, Or.inr rfl, Or.inr rfl, Or.inl rfl, Or.inl rfl, trivial⟩ h
  have kJ13 : ((x5 < (zM m G 785 0) ∧ (¬ (zAlike (zM m G) p1 p2 x5))) ∨ (x5 < (zM m G 785 0) ∧ zAlike (zM m G) p1 p2 x5 ∧ (¬ (zAlike (zM m G) p1 p3 x5)))) → EX e b m m_M_quarrel Z kc ks 146 [(2, (m + 0)), (0, p1), (0, p2), (0, p3), (0, x4), (0, x5), (0, (if zAlike (zM m G) p1 p2 x5 then 1 else 0)), (0, (if zAlike (zM m G) p1 p3 x5 then 1 else 0))] [] G := by
    intro rJ13
    have h := hJ13 rJ13
    refine e_iload d_M_quarrel_146 rfl ?_
    refine e_if_ne (tgt := 167) d_M_quarrel_148 (by decide) (fun q14 => ?_) (fun q15 => ?_)
    · replace q14 := gb1.mp q14
      exact kJ36 (Or.inl ⟨rJ13, q14⟩)
    · replace q15 := gb0.mp q15
      have h := h q15
      refine e_iload d_M_quarrel_151 rfl ?_
      refine e_if_ne (tgt := 167) d_M_quarrel_153 (by decide) (fun q16 => ?_) (fun q17 => ?_)
      · replace q16 := gb1.mp q16
        exact kJ36 (Or.inr (Or.inl ⟨rJ13, q15, q16⟩))
      · replace q17 := gb0.mp q17
        have h := h q17
        refine e_aload_n d_M_quarrel_156 rfl ?_
        refine e_iload_n d_M_quarrel_157 rfl ?_
        refine e_iload_n d_M_quarrel_158 rfl ?_
        refine e_iload d_M_quarrel_159 rfl ?_
        refine EV.inv fun hFf18 => ?_
        have f18 := (fx_mt 0 rfl hFf18).1
        obtain ⟨o19, o20, o21, h⟩ := h
        refine e_callV m_M_areAlike 12 lw_good d_M_quarrel_161 (k_M_areAlike _) ⟨Nat.le_of_ble_eq_true rfl, Nat.le_of_ble_eq_true rfl⟩ w_1863 w_1865 w_s75 (q_M _) rfl f18 (args := [(0, p2), (0, p3), (0, x5)]) rfl rfl (Nat.le_of_ble_eq_true rfl) (kc' := kc) (ks' := ks) (mc := 0) (ms := 0) rfl rfl (c_M_areAlike o19 o20 o21) (pureK ?_)
        refine e_if_eq (tgt := 173) d_M_quarrel_164 (by decide) (fun q22 => ?_) (fun q23 => ?_)
        · replace q22 := gb0.mp q22
          have h := h q22
          refine e_iload d_M_quarrel_173 rfl ?_
          refine e_aload_n d_M_quarrel_175 rfl ?_
          refine e_iload_n d_M_quarrel_176 rfl ?_
          refine e_iload d_M_quarrel_177 rfl ?_
          refine EV.inv fun hFf24 => ?_
          have f24 := (fx_mt 0 rfl hFf24).1
          obtain ⟨o25, h⟩ := h
          refine e_callV m_M_isAt 12 lw_good d_M_quarrel_179 (k_M_isAt _) ⟨Nat.le_of_ble_eq_true rfl, Nat.le_of_ble_eq_true rfl⟩ w_1867 w_1869 w_s76 (q_M _) rfl f24 (args := [(0, p1), (0, x5)]) rfl rfl (Nat.le_of_ble_eq_true rfl) (kc' := kc) (ks' := ks) (mc := 0) (ms := 0) rfl rfl (c_M_isAt o25) (pureK ?_)
          refine e_if_ne (tgt := 205) d_M_quarrel_182 (by decide) (fun q26 => ?_) (fun q27 => ?_)
          · replace q26 := gb1.mp q26
            exact kJ38 (Or.inl ⟨rJ13, q15, q17, q22, q26⟩)
          · replace q27 := gb0.mp q27
            have h := h q27
            refine e_aload_n d_M_quarrel_185 rfl ?_
            refine e_iload_n d_M_quarrel_186 rfl ?_
            refine e_iload d_M_quarrel_187 rfl ?_
            refine EV.inv fun hFf28 => ?_
            have f28 := (fx_mt 0 rfl hFf28).1
            obtain ⟨o29, h⟩ := h
            refine e_callV m_M_isAt 12 lw_good d_M_quarrel_189 (k_M_isAt _) ⟨Nat.le_of_ble_eq_true rfl, Nat.le_of_ble_eq_true rfl⟩ w_1867 w_1869 w_s76 (q_M _) rfl f28 (args := [(0, p2), (0, x5)]) rfl rfl (Nat.le_of_ble_eq_true rfl) (kc' := kc) (ks' := ks) (mc := 0) (ms := 0) rfl rfl (c_M_isAt o29) (pureK ?_)
            refine e_if_ne (tgt := 205) d_M_quarrel_192 (by decide) (fun q30 => ?_) (fun q31 => ?_)
            · replace q30 := gb1.mp q30
              exact kJ38 (Or.inr (Or.inl ⟨rJ13, q15, q17, q22, q27, q30⟩))
            · replace q31 := gb0.mp q31
              have h := h q31
              refine e_aload_n d_M_quarrel_195 rfl ?_
              refine e_iload_n d_M_quarrel_196 rfl ?_
              refine e_iload d_M_quarrel_197 rfl ?_
              refine EV.inv fun hFf32 => ?_
              have f32 := (fx_mt 0 rfl hFf32).1
              obtain ⟨o33, h⟩ := h
              refine e_callV m_M_isAt 12 lw_good d_M_quarrel_199 (k_M_isAt _) ⟨Nat.le_of_ble_eq_true rfl, Nat.le_of_ble_eq_true rfl⟩ w_1867 w_1869 w_s76 (q_M _) rfl f32 (args := [(0, p3), (0, x5)]) rfl rfl (Nat.le_of_ble_eq_true rfl) (kc' := kc) (ks' := ks) (mc := 0) (ms := 0) rfl rfl (c_M_isAt o33) (pureK ?_)
              refine e_if_eq (tgt := 209) d_M_quarrel_202 (by decide) (fun q34 => ?_) (fun q35 => ?_)
              · replace q34 := gb0.mp q34
                have h := h q34
                refine e_iconst d_M_quarrel_209 (by decide) ?_
                obtain ⟨o39, h⟩ := h
                refine e_iadd d_M_quarrel_210 o39 ?_
                refine e_istore (ls' := [(2, (m + 0)), (0, p1), (0, p2), (0, p3), (0, (x4 + 3)), (0, x5), (0, (if zAlike (zM m G) p1 p2 x5 then 1 else 0)), (0, (if zAlike (zM m G) p1 p3 x5 then 1 else 0))]) d_M_quarrel_211 (by decide) rfl ?_
                obtain ⟨o43, h⟩ := h
                refine e_iinc (ls' := [(2, (m + 0)), (0, p1), (0, p2), (0, p3), (0, (x4 + 3)), (0, (x5 + 1)), (0, (if zAlike (zM m G) p1 p2 x5 then 1 else 0)), (0, (if zAlike (zM m G) p1 p3 x5 then 1 else 0))]) d_M_quarrel_213 rfl (by decide) o43 rfl ?_
                refine e_goto (tgt := 104) d_M_quarrel_216 (by decide) ?_
                exact e_forget (ls' := [(2, (m + 0)), (0, p1), (0, p2), (0, p3), (0, (x4 + 3)), (0, (x5 + 1)), (9, 0), (9, 0)]) ⟨Or.inr rfl, Or.inr rfl, Or.inr rfl, Or.inr rfl, Or.inr rfl, Or.inr rfl, Or.inl rfl, Or.inl rfl, trivial⟩ h
              · replace q35 := gb1.mp q35
                exact kJ38 (Or.inr (Or.inr ⟨rJ13, q15, q17, q22, q27, q31, q35⟩))
        · replace q23 := gb1.mp q23
          exact kJ36 (Or.inr (Or.inr ⟨rJ13, q15, q17, q23⟩))
  refine e_iload d_M_quarrel_104 rfl ?_
  refine e_aload_n d_M_quarrel_106 rfl ?_
  refine gx_M_151 d_M_quarrel_107 rfl ?_
  refine e_icmp_ge (tgt := 219) d_M_quarrel_110 (by decide) (fun q1 => ?_) (fun q2 => ?_)
  · have h := h.1 q1
    refine e_iload d_M_quarrel_219 rfl ?_
    exact e_iret d_M_quarrel_221 rfl h
  · have h := h.2 q2
    refine e_aload_n d_M_quarrel_113 rfl ?_
    refine e_iload_n d_M_quarrel_114 rfl ?_
    refine e_iload_n d_M_quarrel_115 rfl ?_
    refine e_iload d_M_quarrel_116 rfl ?_
    refine EV.inv fun hFf3 => ?_
    have f3 := (fx_mt 0 rfl hFf3).1
    obtain ⟨o4, o5, o6, h⟩ := h
    refine e_callV m_M_areAlike 12 lw_good d_M_quarrel_118 (k_M_areAlike _) ⟨Nat.le_of_ble_eq_true rfl, Nat.le_of_ble_eq_true rfl⟩ w_1863 w_1865 w_s75 (q_M _) rfl f3 (args := [(0, p1), (0, p2), (0, x5)]) rfl rfl (Nat.le_of_ble_eq_true rfl) (kc' := kc) (ks' := ks) (mc := 0) (ms := 0) rfl rfl (c_M_areAlike o4 o5 o6) (pureK ?_)
    refine e_istore (ls' := [(2, (m + 0)), (0, p1), (0, p2), (0, p3), (0, x4), (0, x5), (0, (if zAlike (zM m G) p1 p2 x5 then 1 else 0)), (9, 0)]) d_M_quarrel_121 (by decide) rfl ?_
    refine e_aload_n d_M_quarrel_123 rfl ?_
    refine e_iload_n d_M_quarrel_124 rfl ?_
    refine e_iload_n d_M_quarrel_125 rfl ?_
    refine e_iload d_M_quarrel_126 rfl ?_
    refine EV.inv fun hFf7 => ?_
    have f7 := (fx_mt 0 rfl hFf7).1
    obtain ⟨o8, h⟩ := h
    refine e_callV m_M_areAlike 12 lw_good d_M_quarrel_128 (k_M_areAlike _) ⟨Nat.le_of_ble_eq_true rfl, Nat.le_of_ble_eq_true rfl⟩ w_1863 w_1865 w_s75 (q_M _) rfl f7 (args := [(0, p1), (0, p3), (0, x5)]) rfl rfl (Nat.le_of_ble_eq_true rfl) (kc' := kc) (ks' := ks) (mc := 0) (ms := 0) rfl rfl (c_M_areAlike o4 o8 o6) (pureK ?_)
    refine e_istore (ls' := [(2, (m + 0)), (0, p1), (0, p2), (0, p3), (0, x4), (0, x5), (0, (if zAlike (zM m G) p1 p2 x5 then 1 else 0)), (0, (if zAlike (zM m G) p1 p3 x5 then 1 else 0))]) d_M_quarrel_131 (by decide) rfl ?_
    refine e_iload d_M_quarrel_133 rfl ?_
    refine e_if_eq (tgt := 146) d_M_quarrel_135 (by decide) (fun q9 => ?_) (fun q10 => ?_)
    · replace q9 := gb0.mp q9
      exact kJ13 (Or.inl ⟨q2, q9⟩)
    · replace q10 := gb1.mp q10
      have h := h q10
      refine e_iload d_M_quarrel_138 rfl ?_
      refine e_if_eq (tgt := 146) d_M_quarrel_140 (by decide) (fun q11 => ?_) (fun q12 => ?_)
      · replace q11 := gb0.mp q11
        exact kJ13 (Or.inr ⟨q2, q10, q11⟩)
      · replace q12 := gb1.mp q12
        have h := h q12
        refine e_goto (tgt := 213) d_M_quarrel_143 (by decide) ?_
        obtain ⟨o41, h⟩ := h
        refine e_iinc (ls' := [(2, (m + 0)), (0, p1), (0, p2), (0, p3), (0, x4), (0, (x5 + 1)), (0, (if zAlike (zM m G) p1 p2 x5 then 1 else 0)), (0, (if zAlike (zM m G) p1 p3 x5 then 1 else 0))]) d_M_quarrel_213 rfl (by decide) o41 rfl ?_
        refine e_goto (tgt := 104) d_M_quarrel_216 (by decide) ?_
        exact e_forget (ls' := [(2, (m + 0)), (0, p1), (0, p2), (0, p3), (0, x4), (0, (x5 + 1)), (9, 0), (9, 0)]) ⟨Or.inr rfl, Or.inr rfl, Or.inr rfl, Or.inr rfl, Or.inr rfl, Or.inr rfl, Or.inl rfl, Or.inl rfl, trivial⟩ h
def zfStatus (A : zA) (w : Int) : Int := if 10 < w ∧ w < 18 then A 39 (w - 10) else if w = 0 then A 785 0 else if w = 1 then A 784 0 else if w = 2 then A 786 0 else if w = 3 then A 787 0 else if w = 4 then zCount A 100 200 else if w = 5 then zCount A 200 300 else if w = 6 then zCount A 300 400 else if w = 7 then zCount A 400 500 else if w = 8 then zCount A 500 600 else if w = 9 then zCount A 600 610 else if w = 10 then A 788 0 else if w = 18 then A 789 0 else if w = 19 then A 791 0 else if w = 20 then A 792 0 else -1
theorem c_M_status {e : gE} {b : Nat} {m : Int} {G : gH} {p1 : Int} (h1 : zB 512 (zM m G)) : GX e b m m_M_status [(2, (m + 0)), (0, p1)] G 0 0 (fun v9 G9 => v9 = (zfStatus (zM m G) p1 : Int) ∧ G9 = G) := by
  refine GM.ofEV (by decide) (Nat.le_of_ble_eq_true rfl) (sg_M_status_0 ?_)
  have b0 : 0 ≤ zM m G 785 0 ∧ zM m G 785 0 ≤ 16 := h1 785 0
  unfold zfStatus
  refine ⟨fun q q2 => ⟨by omega, by omega, ?_, rfl⟩, fun q => ?_⟩
  · rw [if_pos ⟨q, q2⟩]
  rw [if_neg (by omega)]
  refine ⟨fun z => ⟨?_, rfl⟩, fun z => ⟨?_, rfl⟩, fun z => ⟨?_, rfl⟩, fun z => ⟨?_, rfl⟩, fun z => ⟨b0, ?_, rfl⟩, fun z => ⟨b0, ?_, rfl⟩, fun z => ⟨b0, ?_, rfl⟩, fun z => ⟨b0, ?_, rfl⟩, fun z => ⟨b0, ?_, rfl⟩, fun z => ⟨b0, ?_, rfl⟩, fun z => ⟨?_, rfl⟩, fun z => ⟨?_, rfl⟩, fun z => ⟨?_, rfl⟩, fun z => ⟨?_, rfl⟩, fun z => ⟨?_, rfl⟩⟩
  all_goals (repeat first | rw [if_pos (by omega)] | rw [if_neg (by omega)])
abbrev zRow3 (A : zA) (a b c : Int) : Prop := A 18 a = 1 ∧ A 18 b = 1 ∧ A 18 c = 1
def zfSaid (A : zA) (a b c t : Int) : Int := if (zSh a ∧ zSh b ∧ zSh c ∧ zTh A t) ∧ zRow3 A a b c then (if zAlike A a b t ∨ zAlike A a c t then A 22 (60 * a + t) else if zAlike A b c t then A 22 (60 * b + t) else -1) else -1
theorem c_M_said {e : gE} {b : Nat} {m : Int} {G : gH} {p1 p2 p3 p4 : Int} (h1 : zB 512 (zM m G)) : GX e b m m_M_said [(2, (m + 0)), (0, p1), (0, p2), (0, p3), (0, p4)] G 0 0 (fun v9 G9 => v9 = (zfSaid (zM m G) p1 p2 p3 p4 : Int) ∧ G9 = G) := by
  refine GM.ofEV (by decide) (Nat.le_of_ble_eq_true rfl) (sg_M_said_0 ?_)
  have b0 : 0 ≤ zM m G 785 0 ∧ zM m G 785 0 ≤ 16 := h1 785 0
  have s1 : 0 ≤ zM m G 20 p1 ∧ zM m G 20 p1 ≤ 60 := h1 20 p1
  have s2 : 0 ≤ zM m G 20 p2 ∧ zM m G 20 p2 ≤ 60 := h1 20 p2
  have s3 : 0 ≤ zM m G 20 p3 ∧ zM m G 20 p3 ≤ 60 := h1 20 p3
  unfold zfSaid
  refine ⟨fun q1 q2 q3 q4 => ⟨q1, fun e1 => ⟨q2, fun e2 => ⟨q3, fun e3 => ⟨⟨q1, s1.2⟩, ⟨q2, s2.2⟩, q4.1, fun n1 => ⟨⟨q3, s3.2⟩, fun n2 => ⟨fun n3 => ⟨?_, rfl⟩, fun n3 => ⟨by omega, by omega, by omega, ?_, rfl⟩⟩⟩⟩⟩⟩⟩, fun q => ⟨?_, rfl⟩, fun q => ⟨?_, rfl⟩, fun q => ⟨by omega, by omega, by omega, ?_, rfl⟩⟩
  all_goals (repeat first | rw [if_pos (by omega)] | rw [if_neg (by omega)])
def zQr (A : zA) (a b c t : Int) : Int := if zAlike A a b t ∧ zAlike A a c t then 0 else if zAlike A a b t ∨ zAlike A a c t ∨ zAlike A b c t then 1 else if t < A 20 a ∨ t < A 20 b ∨ t < A 20 c then 2 else 3
theorem zQr_b {A : zA} {a b c t : Int} : 0 ≤ zQr A a b c t ∧ zQr A a b c t ≤ 3 := by unfold zQr; (repeat' split) <;> omega
def zfQuarrel (A : zA) (a b c : Int) : Int × zA := if zSh a ∧ zSh b ∧ zSh c then (if A 18 a = 2 ∨ A 18 b = 2 ∨ A 18 c = 2 then zNo A (-2) else if A 18 a = 0 ∨ A 18 b = 0 ∨ A 18 c = 0 then zNo A (-3) else (zS (zQr A a b c) (A 785 0), A)) else zNo A (-1)
theorem l_M_quarrel {e : gE} {b : Nat} {m : Int} {Z : Int → gH → Prop} {kc ks : Nat} {G : gH} {p1 p2 p3 : Int} (hB : zB 512 (zM m G)) (h1 : zSh p1) (h2 : zSh p2) (h3 : zSh p3) (hZ : Z (zS (zQr (zM m G) p1 p2 p3) (zM m G 785 0)) G) : EX e b m m_M_quarrel Z kc ks 104 [(2, (m + 0)), (0, p1), (0, p2), (0, p3), (0, 0), (0, 0), (9, 0), (9, 0)] [] G := by
  have b0 : 0 ≤ zM m G 785 0 ∧ zM m G 785 0 ≤ 16 := hB 785 0
  have s1 : 0 ≤ zM m G 20 p1 ∧ zM m G 20 p1 ≤ 60 := hB 20 p1
  have s2 : 0 ≤ zM m G 20 p2 ∧ zM m G 20 p2 ≤ 60 := hB 20 p2
  have s3 : 0 ≤ zM m G 20 p3 ∧ zM m G 20 p3 ≤ 60 := hB 20 p3
  refine zloop (P := fun i => EX e b m m_M_quarrel Z kc ks 104 [(2, (m + 0)), (0, p1), (0, p2), (0, p3), (0, zS (zQr (zM m G) p1 p2 p3) i), (0, i), (9, 0), (9, 0)] [] G) (zM m G 785 0) b0.1 ?_ ?_
  · exact sg_M_quarrel_104 ⟨⟨fun _ => hZ, fun q => absurd q (by omega)⟩, fun q => absurd q (by omega), fun q => absurd q (by omega), fun q => absurd q (by omega)⟩
  · intro j j1 j2 ih
    have b1 := zS_b (f := zQr (zM m G) p1 p2 p3) (c := 3) j (fun i _ _ => zQr_b) j1 (by omega)
    rw [zS_s j1] at ih
    refine sg_M_quarrel_104 ⟨⟨fun q => absurd q (by omega), fun _ => ⟨⟨h1, s1.2⟩, ⟨h2, s2.2⟩, j1, ⟨h3, s3.2⟩, fun e1 e2 => ⟨by omega, ?_⟩⟩⟩, fun q n1 n2 => ⟨⟨h2, s2.2⟩, ⟨h3, s3.2⟩, j1, fun n3 => ⟨h1, fun n4 => ⟨h2, fun n5 => ⟨h3, fun n6 => ⟨by omega, by omega, ?_⟩⟩⟩⟩⟩, fun q => ⟨by omega, by omega, ?_⟩, fun q => ⟨by omega, by omega, ?_⟩⟩
    · rw [show zS (zQr (zM m G) p1 p2 p3) j + zQr (zM m G) p1 p2 p3 j = zS (zQr (zM m G) p1 p2 p3) j from by rw [show zQr (zM m G) p1 p2 p3 j = 0 from if_pos ⟨e1, e2⟩]; omega] at ih
      exact ih
    · rw [show zQr (zM m G) p1 p2 p3 j = 3 from by unfold zQr; rw [if_neg (by omega), if_neg (by omega), if_neg (by omega)]] at ih
      exact ih
    · rw [show zQr (zM m G) p1 p2 p3 j = 1 from by unfold zQr; rw [if_neg (by omega), if_pos (by omega)]] at ih
      exact ih
    · rw [show zQr (zM m G) p1 p2 p3 j = 2 from by unfold zQr; rw [if_neg (by omega), if_neg (by omega), if_pos (by omega)]] at ih
      exact ih
theorem c_M_quarrel {e : gE} {b : Nat} {m : Int} {G : gH} {p1 p2 p3 : Int} (h : zB 512 (zM m G)) : GX e b m m_M_quarrel [(2, (m + 0)), (0, p1), (0, p2), (0, p3)] G 0 0 (zQ m G (zfQuarrel (zM m G) p1 p2 p3)) := by
  refine GM.ofEV (by decide) (Nat.le_of_ble_eq_true rfl) (sg_M_quarrel_0 ?_)
  unfold zfQuarrel
  refine ⟨fun q1 q2 q3 => ⟨q1, fun e1 => ⟨q2, fun e2 => ⟨q3, fun e3 f1 f2 f3 => ?_⟩⟩⟩, fun q => ?_, fun q => ?_, fun q => ?_⟩
  · rw [if_pos ⟨q1, q2, q3⟩, if_neg (by omega), if_neg (by omega)]
    exact l_M_quarrel h q1 q2 q3 ⟨rfl, rfl, zC_r⟩
  · rw [if_neg (by omega)]; exact c_M_no h (by decide)
  · rw [if_pos (by omega), if_pos (by omega)]; exact c_M_no h (by decide)
  · rw [if_pos (by omega), if_neg (by omega), if_pos (by omega)]; exact c_M_no h (by decide)
set_option maxRecDepth 20000 in
set_option maxHeartbeats 4000000 in
theorem sg_M_puts_0 {e : gE} {b : Nat} {m : Int} {Z : Int → gH → Prop} {kc ks : Nat} {G : gH} {p1 p2 p3 p4 p5 : Int} (h : (0 ≤ (zM m G 785 0) ∧ (zM m G 785 0) < 16) ∧ (∀ G2 : gH, G2 = gU G 1 (m + 7) (zM m G 785 0) p1 → ∀ G3 : gH, G3 = gU G2 1 (m + 8) (zM m G 785 0) p2 → ∀ G4 : gH, G4 = gU G3 1 (m + 9) (zM m G 785 0) p3 → ∀ G5 : gH, G5 = gU G4 1 (m + 10) (zM m G 785 0) p5 → (inI (100 + p4)) ∧ (∀ G7 : gH, G7 = gU G5 1 (m + 11) (zM m G 785 0) (100 + p4) → ∀ G8 : gH, G8 = gU G7 1 (m + 14) (zM m G 785 0) (-1) → (inI ((zM m G 785 0) + 1)) ∧ (∀ G10 : gH, G10 = gU G8 785 (m + 0) 0 ((zM m G 785 0) + 1) → Z (zM m G 785 0) G10)))) : EX e b m m_M_puts Z kc ks 0 [(2, (m + 0)), (0, p1), (0, p2), (0, p3), (0, p4), (0, p5)] [] G := by
  refine e_aload_n d_M_puts_0 rfl ?_
  refine gx_M_33 d_M_puts_1 rfl ?_
  refine e_aload_n d_M_puts_4 rfl ?_
  refine gx_M_151 d_M_puts_5 rfl ?_
  refine e_iload_n d_M_puts_8 rfl ?_
  obtain ⟨o1, h⟩ := h
  refine xM_iast 7 rfl d_M_puts_9 o1 ?_
  let G2 : gH := gU G 1 (m + 7) (zM m G 785 0) p1
  have h := h G2 rfl
  refine e_aload_n d_M_puts_10 rfl ?_
  refine gx_M_36 d_M_puts_11 rfl ?_
  refine e_aload_n d_M_puts_14 rfl ?_
  refine gx_M_151 d_M_puts_15 rfl ?_
  refine e_iload_n d_M_puts_18 rfl ?_
  refine xM_iast 8 rfl d_M_puts_19 o1 ?_
  let G3 : gH := gU G2 1 (m + 8) (zM m G 785 0) p2
  have h := h G3 rfl
  refine e_aload_n d_M_puts_20 rfl ?_
  refine gx_M_39 d_M_puts_21 rfl ?_
  refine e_aload_n d_M_puts_24 rfl ?_
  refine gx_M_151 d_M_puts_25 rfl ?_
  refine e_iload_n d_M_puts_28 rfl ?_
  refine xM_iast 9 rfl d_M_puts_29 o1 ?_
  let G4 : gH := gU G3 1 (m + 9) (zM m G 785 0) p3
  have h := h G4 rfl
  refine e_aload_n d_M_puts_30 rfl ?_
  refine gx_M_42 d_M_puts_31 rfl ?_
  refine e_aload_n d_M_puts_34 rfl ?_
  refine gx_M_151 d_M_puts_35 rfl ?_
  refine e_iload d_M_puts_38 rfl ?_
  refine xM_iast 10 rfl d_M_puts_40 o1 ?_
  let G5 : gH := gU G4 1 (m + 10) (zM m G 785 0) p5
  have h := h G5 rfl
  refine e_aload_n d_M_puts_41 rfl ?_
  refine gx_M_45 d_M_puts_42 rfl ?_
  refine e_aload_n d_M_puts_45 rfl ?_
  refine gx_M_151 d_M_puts_46 rfl ?_
  refine e_bipush d_M_puts_49 (by decide) (by decide) ?_
  refine e_iload d_M_puts_51 rfl ?_
  obtain ⟨o6, h⟩ := h
  refine e_iadd d_M_puts_53 o6 ?_
  refine xM_iast 11 rfl d_M_puts_54 o1 ?_
  let G7 : gH := gU G5 1 (m + 11) (zM m G 785 0) (100 + p4)
  have h := h G7 rfl
  refine e_aload_n d_M_puts_55 rfl ?_
  refine gx_M_54 d_M_puts_56 rfl ?_
  refine e_aload_n d_M_puts_59 rfl ?_
  refine gx_M_151 d_M_puts_60 rfl ?_
  refine e_iconst d_M_puts_63 (by decide) ?_
  refine xM_iast 14 rfl d_M_puts_64 o1 ?_
  let G8 : gH := gU G7 1 (m + 14) (zM m G 785 0) (-1)
  have h := h G8 rfl
  refine e_aload_n d_M_puts_65 rfl ?_
  refine e_dup d_M_puts_66 (by simp) ?_
  refine gx_M_151 d_M_puts_67 rfl ?_
  refine e_dup_x1 d_M_puts_70 (by simp) (by simp) ?_
  refine e_iconst d_M_puts_71 (by decide) ?_
  obtain ⟨o9, h⟩ := h
  refine e_iadd d_M_puts_72 o9 ?_
  refine px_M_151 d_M_puts_73 rfl ?_
  let G10 : gH := gU G8 785 (m + 0) 0 ((zM m G 785 0) + 1)
  have h := h G10 rfl
  exact e_iret d_M_puts_76 rfl h
set_option maxRecDepth 20000 in
set_option maxHeartbeats 4000000 in
theorem sg_M_thing_0 {e : gE} {b : Nat} {m : Int} {Z : Int → gH → Prop} {kc ks : Nat} {G : gH} {p1 p2 p3 p4 p5 : Int} (h : (0 ≤ p1 → (p1 ≤ 3 → (1 ≤ p4 → (p4 ≤ 11 → (1 ≤ p2 → (p2 ≤ 100 → (1 ≤ p3 → (p3 ≤ 4 → (0 ≤ p5 → (p5 ≤ 20 → ((zM m G 788 0) = 0 → ((zM m G 785 0) ≠ 16 → GX e b m m_M_puts [(2, (m + 0)), (0, p1), (0, p2), (0, p3), (0, p4), (0, p5)] G 0 0 (fun v26 G27 => Z v26 G27)) ∧ ((zM m G 785 0) = 16 → GX e b m m_M_no [(2, (m + 0)), (0, (-7))] G 0 0 (fun v29 G30 => Z v29 G30))))))))))))) ∧ ((p1 < 0 ∨ (0 ≤ p1 ∧ 3 < p1) ∨ (0 ≤ p1 ∧ p1 ≤ 3 ∧ p4 < 1) ∨ (0 ≤ p1 ∧ p1 ≤ 3 ∧ 1 ≤ p4 ∧ 11 < p4)) → GX e b m m_M_no [(2, (m + 0)), (0, (-1))] G 0 0 (fun v33 G34 => Z v33 G34)) ∧ (((0 ≤ p1 ∧ p1 ≤ 3 ∧ 1 ≤ p4 ∧ p4 ≤ 11 ∧ p2 < 1) ∨ (0 ≤ p1 ∧ p1 ≤ 3 ∧ 1 ≤ p4 ∧ p4 ≤ 11 ∧ 1 ≤ p2 ∧ 100 < p2) ∨ (0 ≤ p1 ∧ p1 ≤ 3 ∧ 1 ≤ p4 ∧ p4 ≤ 11 ∧ 1 ≤ p2 ∧ p2 ≤ 100 ∧ p3 < 1) ∨ (0 ≤ p1 ∧ p1 ≤ 3 ∧ 1 ≤ p4 ∧ p4 ≤ 11 ∧ 1 ≤ p2 ∧ p2 ≤ 100 ∧ 1 ≤ p3 ∧ 4 < p3) ∨ (0 ≤ p1 ∧ p1 ≤ 3 ∧ 1 ≤ p4 ∧ p4 ≤ 11 ∧ 1 ≤ p2 ∧ p2 ≤ 100 ∧ 1 ≤ p3 ∧ p3 ≤ 4 ∧ p5 < 0) ∨ (0 ≤ p1 ∧ p1 ≤ 3 ∧ 1 ≤ p4 ∧ p4 ≤ 11 ∧ 1 ≤ p2 ∧ p2 ≤ 100 ∧ 1 ≤ p3 ∧ p3 ≤ 4 ∧ 0 ≤ p5 ∧ 20 < p5) ∨ (0 ≤ p1 ∧ p1 ≤ 3 ∧ 1 ≤ p4 ∧ p4 ≤ 11 ∧ 1 ≤ p2 ∧ p2 ≤ 100 ∧ 1 ≤ p3 ∧ p3 ≤ 4 ∧ 0 ≤ p5 ∧ p5 ≤ 20 ∧ (zM m G 788 0) ≠ 0)) → GX e b m m_M_no [(2, (m + 0)), (0, (-6))] G 0 0 (fun v37 G38 => Z v37 G38))) : EX e b m m_M_thing Z kc ks 0 [(2, (m + 0)), (0, p1), (0, p2), (0, p3), (0, p4), (0, p5)] [] G := by
  obtain ⟨h, hJ31, hJ35⟩ := h
  have kJ35 : ((0 ≤ p1 ∧ p1 ≤ 3 ∧ 1 ≤ p4 ∧ p4 ≤ 11 ∧ p2 < 1) ∨ (0 ≤ p1 ∧ p1 ≤ 3 ∧ 1 ≤ p4 ∧ p4 ≤ 11 ∧ 1 ≤ p2 ∧ 100 < p2) ∨ (0 ≤ p1 ∧ p1 ≤ 3 ∧ 1 ≤ p4 ∧ p4 ≤ 11 ∧ 1 ≤ p2 ∧ p2 ≤ 100 ∧ p3 < 1) ∨ (0 ≤ p1 ∧ p1 ≤ 3 ∧ 1 ≤ p4 ∧ p4 ≤ 11 ∧ 1 ≤ p2 ∧ p2 ≤ 100 ∧ 1 ≤ p3 ∧ 4 < p3) ∨ (0 ≤ p1 ∧ p1 ≤ 3 ∧ 1 ≤ p4 ∧ p4 ≤ 11 ∧ 1 ≤ p2 ∧ p2 ≤ 100 ∧ 1 ≤ p3 ∧ p3 ≤ 4 ∧ p5 < 0) ∨ (0 ≤ p1 ∧ p1 ≤ 3 ∧ 1 ≤ p4 ∧ p4 ≤ 11 ∧ 1 ≤ p2 ∧ p2 ≤ 100 ∧ 1 ≤ p3 ∧ p3 ≤ 4 ∧ 0 ≤ p5 ∧ 20 < p5) ∨ (0 ≤ p1 ∧ p1 ≤ 3 ∧ 1 ≤ p4 ∧ p4 ≤ 11 ∧ 1 ≤ p2 ∧ p2 ≤ 100 ∧ 1 ≤ p3 ∧ p3 ≤ 4 ∧ 0 ≤ p5 ∧ p5 ≤ 20 ∧ (zM m G 788 0) ≠ 0)) → EX e b m m_M_thing Z kc ks 68 [(2, (m + 0)), (0, p1), (0, p2), (0, p3), (0, p4), (0, p5)] [] G := by
    intro rJ35
    have h := hJ35 rJ35
    refine e_aload_n d_M_thing_68 rfl ?_
    refine e_bipush d_M_thing_69 (by decide) (by decide) ?_
    refine EV.inv fun hFf36 => ?_
    have f36 := (fx_mt 0 rfl hFf36).1
    refine e_callV m_M_no 12 lw_good d_M_thing_71 (k_M_no _) ⟨Nat.le_of_ble_eq_true rfl, Nat.le_of_ble_eq_true rfl⟩ w_1569 w_1571 w_s42 (q_M _) rfl f36 (args := [(0, (-6))]) rfl rfl (Nat.le_of_ble_eq_true rfl) (kc' := kc) (ks' := ks) (mc := 0) (ms := 0) rfl rfl h ?_
    intro v37 G38 h
    exact e_iret d_M_thing_74 rfl h
  have kJ31 : (p1 < 0 ∨ (0 ≤ p1 ∧ 3 < p1) ∨ (0 ≤ p1 ∧ p1 ≤ 3 ∧ p4 < 1) ∨ (0 ≤ p1 ∧ p1 ≤ 3 ∧ 1 ≤ p4 ∧ 11 < p4)) → EX e b m m_M_thing Z kc ks 22 [(2, (m + 0)), (0, p1), (0, p2), (0, p3), (0, p4), (0, p5)] [] G := by
    intro rJ31
    have h := hJ31 rJ31
    refine e_aload_n d_M_thing_22 rfl ?_
    refine e_iconst d_M_thing_23 (by decide) ?_
    refine EV.inv fun hFf32 => ?_
    have f32 := (fx_mt 0 rfl hFf32).1
    refine e_callV m_M_no 12 lw_good d_M_thing_24 (k_M_no _) ⟨Nat.le_of_ble_eq_true rfl, Nat.le_of_ble_eq_true rfl⟩ w_1569 w_1571 w_s42 (q_M _) rfl f32 (args := [(0, (-1))]) rfl rfl (Nat.le_of_ble_eq_true rfl) (kc' := kc) (ks' := ks) (mc := 0) (ms := 0) rfl rfl h ?_
    intro v33 G34 h
    exact e_iret d_M_thing_27 rfl h
  refine e_iload_n d_M_thing_0 rfl ?_
  refine e_if_lt (tgt := 22) d_M_thing_1 (by decide) (fun q1 => ?_) (fun q2 => ?_)
  · exact kJ31 (Or.inl q1)
  · have h := h q2
    refine e_iload_n d_M_thing_4 rfl ?_
    refine e_iconst d_M_thing_5 (by decide) ?_
    refine e_icmp_gt (tgt := 22) d_M_thing_6 (by decide) (fun q3 => ?_) (fun q4 => ?_)
    · exact kJ31 (Or.inr (Or.inl ⟨q2, q3⟩))
    · have h := h q4
      refine e_iload d_M_thing_9 rfl ?_
      refine e_iconst d_M_thing_11 (by decide) ?_
      refine e_icmp_lt (tgt := 22) d_M_thing_12 (by decide) (fun q5 => ?_) (fun q6 => ?_)
      · exact kJ31 (Or.inr (Or.inr (Or.inl ⟨q2, q4, q5⟩)))
      · have h := h q6
        refine e_iload d_M_thing_15 rfl ?_
        refine e_bipush d_M_thing_17 (by decide) (by decide) ?_
        refine e_icmp_le (tgt := 28) d_M_thing_19 (by decide) (fun q7 => ?_) (fun q8 => ?_)
        · have h := h q7
          refine e_iload_n d_M_thing_28 rfl ?_
          refine e_iconst d_M_thing_29 (by decide) ?_
          refine e_icmp_lt (tgt := 68) d_M_thing_30 (by decide) (fun q9 => ?_) (fun q10 => ?_)
          · exact kJ35 (Or.inl ⟨q2, q4, q6, q7, q9⟩)
          · have h := h q10
            refine e_iload_n d_M_thing_33 rfl ?_
            refine e_bipush d_M_thing_34 (by decide) (by decide) ?_
            refine e_icmp_gt (tgt := 68) d_M_thing_36 (by decide) (fun q11 => ?_) (fun q12 => ?_)
            · exact kJ35 (Or.inr (Or.inl ⟨q2, q4, q6, q7, q10, q11⟩))
            · have h := h q12
              refine e_iload_n d_M_thing_39 rfl ?_
              refine e_iconst d_M_thing_40 (by decide) ?_
              refine e_icmp_lt (tgt := 68) d_M_thing_41 (by decide) (fun q13 => ?_) (fun q14 => ?_)
              · exact kJ35 (Or.inr (Or.inr (Or.inl ⟨q2, q4, q6, q7, q10, q12, q13⟩)))
              · have h := h q14
                refine e_iload_n d_M_thing_44 rfl ?_
                refine e_iconst d_M_thing_45 (by decide) ?_
                refine e_icmp_gt (tgt := 68) d_M_thing_46 (by decide) (fun q15 => ?_) (fun q16 => ?_)
                · exact kJ35 (Or.inr (Or.inr (Or.inr (Or.inl ⟨q2, q4, q6, q7, q10, q12, q14, q15⟩))))
                · have h := h q16
                  refine e_iload d_M_thing_49 rfl ?_
                  refine e_if_lt (tgt := 68) d_M_thing_51 (by decide) (fun q17 => ?_) (fun q18 => ?_)
                  · exact kJ35 (Or.inr (Or.inr (Or.inr (Or.inr (Or.inl ⟨q2, q4, q6, q7, q10, q12, q14, q16, q17⟩)))))
                  · have h := h q18
                    refine e_iload d_M_thing_54 rfl ?_
                    refine e_bipush d_M_thing_56 (by decide) (by decide) ?_
                    refine e_icmp_gt (tgt := 68) d_M_thing_58 (by decide) (fun q19 => ?_) (fun q20 => ?_)
                    · exact kJ35 (Or.inr (Or.inr (Or.inr (Or.inr (Or.inr (Or.inl ⟨q2, q4, q6, q7, q10, q12, q14, q16, q18, q19⟩))))))
                    · have h := h q20
                      refine e_aload_n d_M_thing_61 rfl ?_
                      refine gx_M_165 d_M_thing_62 rfl ?_
                      refine e_if_eq (tgt := 75) d_M_thing_65 (by decide) (fun q21 => ?_) (fun q22 => ?_)
                      · have h := h q21
                        refine e_aload_n d_M_thing_75 rfl ?_
                        refine gx_M_151 d_M_thing_76 rfl ?_
                        refine e_bipush d_M_thing_79 (by decide) (by decide) ?_
                        refine e_icmp_ne (tgt := 91) d_M_thing_81 (by decide) (fun q23 => ?_) (fun q24 => ?_)
                        · have h := h.1 q23
                          refine e_aload_n d_M_thing_91 rfl ?_
                          refine e_iload_n d_M_thing_92 rfl ?_
                          refine e_iload_n d_M_thing_93 rfl ?_
                          refine e_iload_n d_M_thing_94 rfl ?_
                          refine e_iload d_M_thing_95 rfl ?_
                          refine e_iload d_M_thing_97 rfl ?_
                          refine EV.inv fun hFf25 => ?_
                          have f25 := (fx_mt 0 rfl hFf25).1
                          refine e_callV m_M_puts 12 lw_good d_M_thing_99 (k_M_puts _) ⟨Nat.le_of_ble_eq_true rfl, Nat.le_of_ble_eq_true rfl⟩ w_1585 w_1587 w_s44 (q_M _) rfl f25 (args := [(0, p1), (0, p2), (0, p3), (0, p4), (0, p5)]) rfl rfl (Nat.le_of_ble_eq_true rfl) (kc' := kc) (ks' := ks) (mc := 0) (ms := 0) rfl rfl h ?_
                          intro v26 G27 h
                          exact e_iret d_M_thing_102 rfl h
                        · have h := h.2 q24
                          refine e_aload_n d_M_thing_84 rfl ?_
                          refine e_bipush d_M_thing_85 (by decide) (by decide) ?_
                          refine EV.inv fun hFf28 => ?_
                          have f28 := (fx_mt 0 rfl hFf28).1
                          refine e_callV m_M_no 12 lw_good d_M_thing_87 (k_M_no _) ⟨Nat.le_of_ble_eq_true rfl, Nat.le_of_ble_eq_true rfl⟩ w_1569 w_1571 w_s42 (q_M _) rfl f28 (args := [(0, (-7))]) rfl rfl (Nat.le_of_ble_eq_true rfl) (kc' := kc) (ks' := ks) (mc := 0) (ms := 0) rfl rfl h ?_
                          intro v29 G30 h
                          exact e_iret d_M_thing_90 rfl h
                      · exact kJ35 (Or.inr (Or.inr (Or.inr (Or.inr (Or.inr (Or.inr ⟨q2, q4, q6, q7, q10, q12, q14, q16, q18, q20, q22⟩))))))
        · exact kJ31 (Or.inr (Or.inr (Or.inr ⟨q2, q4, q6, q8⟩)))
set_option maxRecDepth 20000 in
set_option maxHeartbeats 4000000 in
theorem sg_M_team_0 {e : gE} {b : Nat} {m : Int} {Z : Int → gH → Prop} {kc ks : Nat} {G : gH} {p1 : Int} (h : (1 ≤ p1 → (p1 ≤ 4 → ((zM m G 788 0) = 0 → ((zM m G 786 0) ≠ 3 → (0 ≤ (zM m G 786 0) ∧ (zM m G 786 0) < 3) ∧ (∀ G10 : gH, G10 = gU G 1 (m + 15) (zM m G 786 0) p1 → (inI ((zM m G 786 0) + 1)) ∧ (∀ G12 : gH, G12 = gU G10 786 (m + 0) 0 ((zM m G 786 0) + 1) → Z (zM m G 786 0) G12))) ∧ ((zM m G 786 0) = 3 → GX e b m m_M_no [(2, (m + 0)), (0, (-7))] G 0 0 (fun v14 G15 => Z v14 G15))))) ∧ ((p1 < 1 ∨ (1 ≤ p1 ∧ 4 < p1) ∨ (1 ≤ p1 ∧ p1 ≤ 4 ∧ (zM m G 788 0) ≠ 0)) → GX e b m m_M_no [(2, (m + 0)), (0, (-6))] G 0 0 (fun v18 G19 => Z v18 G19))) : EX e b m m_M_team Z kc ks 0 [(2, (m + 0)), (0, p1)] [] G := by
  obtain ⟨h, hJ16⟩ := h
  have kJ16 : (p1 < 1 ∨ (1 ≤ p1 ∧ 4 < p1) ∨ (1 ≤ p1 ∧ p1 ≤ 4 ∧ (zM m G 788 0) ≠ 0)) → EX e b m m_M_team Z kc ks 17 [(2, (m + 0)), (0, p1)] [] G := by
    intro rJ16
    have h := hJ16 rJ16
    refine e_aload_n d_M_team_17 rfl ?_
    refine e_bipush d_M_team_18 (by decide) (by decide) ?_
    refine EV.inv fun hFf17 => ?_
    have f17 := (fx_mt 0 rfl hFf17).1
    refine e_callV m_M_no 12 lw_good d_M_team_20 (k_M_no _) ⟨Nat.le_of_ble_eq_true rfl, Nat.le_of_ble_eq_true rfl⟩ w_1569 w_1571 w_s42 (q_M _) rfl f17 (args := [(0, (-6))]) rfl rfl (Nat.le_of_ble_eq_true rfl) (kc' := kc) (ks' := ks) (mc := 0) (ms := 0) rfl rfl h ?_
    intro v18 G19 h
    exact e_iret d_M_team_23 rfl h
  refine e_iload_n d_M_team_0 rfl ?_
  refine e_iconst d_M_team_1 (by decide) ?_
  refine e_icmp_lt (tgt := 17) d_M_team_2 (by decide) (fun q1 => ?_) (fun q2 => ?_)
  · exact kJ16 (Or.inl q1)
  · have h := h q2
    refine e_iload_n d_M_team_5 rfl ?_
    refine e_iconst d_M_team_6 (by decide) ?_
    refine e_icmp_gt (tgt := 17) d_M_team_7 (by decide) (fun q3 => ?_) (fun q4 => ?_)
    · exact kJ16 (Or.inr (Or.inl ⟨q2, q3⟩))
    · have h := h q4
      refine e_aload_n d_M_team_10 rfl ?_
      refine gx_M_165 d_M_team_11 rfl ?_
      refine e_if_eq (tgt := 24) d_M_team_14 (by decide) (fun q5 => ?_) (fun q6 => ?_)
      · have h := h q5
        refine e_aload_n d_M_team_24 rfl ?_
        refine gx_M_174 d_M_team_25 rfl ?_
        refine e_iconst d_M_team_28 (by decide) ?_
        refine e_icmp_ne (tgt := 39) d_M_team_29 (by decide) (fun q7 => ?_) (fun q8 => ?_)
        · have h := h.1 q7
          refine e_aload_n d_M_team_39 rfl ?_
          refine gx_M_57 d_M_team_40 rfl ?_
          refine e_aload_n d_M_team_43 rfl ?_
          refine gx_M_174 d_M_team_44 rfl ?_
          refine e_iload_n d_M_team_47 rfl ?_
          obtain ⟨o9, h⟩ := h
          refine xM_iast 15 rfl d_M_team_48 o9 ?_
          let G10 : gH := gU G 1 (m + 15) (zM m G 786 0) p1
          have h := h G10 rfl
          refine e_aload_n d_M_team_49 rfl ?_
          refine e_dup d_M_team_50 (by simp) ?_
          refine gx_M_174 d_M_team_51 rfl ?_
          refine e_dup_x1 d_M_team_54 (by simp) (by simp) ?_
          refine e_iconst d_M_team_55 (by decide) ?_
          obtain ⟨o11, h⟩ := h
          refine e_iadd d_M_team_56 o11 ?_
          refine px_M_174 d_M_team_57 rfl ?_
          let G12 : gH := gU G10 786 (m + 0) 0 ((zM m G 786 0) + 1)
          have h := h G12 rfl
          exact e_iret d_M_team_60 rfl h
        · have h := h.2 q8
          refine e_aload_n d_M_team_32 rfl ?_
          refine e_bipush d_M_team_33 (by decide) (by decide) ?_
          refine EV.inv fun hFf13 => ?_
          have f13 := (fx_mt 0 rfl hFf13).1
          refine e_callV m_M_no 12 lw_good d_M_team_35 (k_M_no _) ⟨Nat.le_of_ble_eq_true rfl, Nat.le_of_ble_eq_true rfl⟩ w_1569 w_1571 w_s42 (q_M _) rfl f13 (args := [(0, (-7))]) rfl rfl (Nat.le_of_ble_eq_true rfl) (kc' := kc) (ks' := ks) (mc := 0) (ms := 0) rfl rfl h ?_
          intro v14 G15 h
          exact e_iret d_M_team_38 rfl h
      · exact kJ16 (Or.inr (Or.inr ⟨q2, q4, q6⟩))
set_option maxRecDepth 20000 in
set_option maxHeartbeats 4000000 in
theorem sg_M_band_0 {e : gE} {b : Nat} {m : Int} {Z : Int → gH → Prop} {kc ks : Nat} {G : gH} {p1 p2 p3 : Int} (h : (0 ≤ p1 → (p1 ≤ 3 → (0 ≤ p2 → (p2 ≤ p3 → (p3 ≤ 100 → (0 ≤ p1 ∧ p1 < 4) ∧ (∀ G12 : gH, G12 = gU G 1 (m + 29) p1 p2 → ∀ G13 : gH, G13 = gU G12 1 (m + 30) p1 p3 → Z 1 G13)))))) ∧ ((p1 < 0 ∨ (0 ≤ p1 ∧ 3 < p1)) → GX e b m m_M_no [(2, (m + 0)), (0, (-1))] G 0 0 (fun v16 G17 => Z v16 G17)) ∧ (((0 ≤ p1 ∧ p1 ≤ 3 ∧ p2 < 0) ∨ (0 ≤ p1 ∧ p1 ≤ 3 ∧ 0 ≤ p2 ∧ p3 < p2) ∨ (0 ≤ p1 ∧ p1 ≤ 3 ∧ 0 ≤ p2 ∧ p2 ≤ p3 ∧ 100 < p3)) → GX e b m m_M_no [(2, (m + 0)), (0, (-6))] G 0 0 (fun v20 G21 => Z v20 G21))) : EX e b m m_M_band Z kc ks 0 [(2, (m + 0)), (0, p1), (0, p2), (0, p3)] [] G := by
  obtain ⟨h, hJ14, hJ18⟩ := h
  have kJ18 : ((0 ≤ p1 ∧ p1 ≤ 3 ∧ p2 < 0) ∨ (0 ≤ p1 ∧ p1 ≤ 3 ∧ 0 ≤ p2 ∧ p3 < p2) ∨ (0 ≤ p1 ∧ p1 ≤ 3 ∧ 0 ≤ p2 ∧ p2 ≤ p3 ∧ 100 < p3)) → EX e b m m_M_band Z kc ks 30 [(2, (m + 0)), (0, p1), (0, p2), (0, p3)] [] G := by
    intro rJ18
    have h := hJ18 rJ18
    refine e_aload_n d_M_band_30 rfl ?_
    refine e_bipush d_M_band_31 (by decide) (by decide) ?_
    refine EV.inv fun hFf19 => ?_
    have f19 := (fx_mt 0 rfl hFf19).1
    refine e_callV m_M_no 12 lw_good d_M_band_33 (k_M_no _) ⟨Nat.le_of_ble_eq_true rfl, Nat.le_of_ble_eq_true rfl⟩ w_1569 w_1571 w_s42 (q_M _) rfl f19 (args := [(0, (-6))]) rfl rfl (Nat.le_of_ble_eq_true rfl) (kc' := kc) (ks' := ks) (mc := 0) (ms := 0) rfl rfl h ?_
    intro v20 G21 h
    exact e_iret d_M_band_36 rfl h
  have kJ14 : (p1 < 0 ∨ (0 ≤ p1 ∧ 3 < p1)) → EX e b m m_M_band Z kc ks 9 [(2, (m + 0)), (0, p1), (0, p2), (0, p3)] [] G := by
    intro rJ14
    have h := hJ14 rJ14
    refine e_aload_n d_M_band_9 rfl ?_
    refine e_iconst d_M_band_10 (by decide) ?_
    refine EV.inv fun hFf15 => ?_
    have f15 := (fx_mt 0 rfl hFf15).1
    refine e_callV m_M_no 12 lw_good d_M_band_11 (k_M_no _) ⟨Nat.le_of_ble_eq_true rfl, Nat.le_of_ble_eq_true rfl⟩ w_1569 w_1571 w_s42 (q_M _) rfl f15 (args := [(0, (-1))]) rfl rfl (Nat.le_of_ble_eq_true rfl) (kc' := kc) (ks' := ks) (mc := 0) (ms := 0) rfl rfl h ?_
    intro v16 G17 h
    exact e_iret d_M_band_14 rfl h
  refine e_iload_n d_M_band_0 rfl ?_
  refine e_if_lt (tgt := 9) d_M_band_1 (by decide) (fun q1 => ?_) (fun q2 => ?_)
  · exact kJ14 (Or.inl q1)
  · have h := h q2
    refine e_iload_n d_M_band_4 rfl ?_
    refine e_iconst d_M_band_5 (by decide) ?_
    refine e_icmp_le (tgt := 15) d_M_band_6 (by decide) (fun q3 => ?_) (fun q4 => ?_)
    · have h := h q3
      refine e_iload_n d_M_band_15 rfl ?_
      refine e_if_lt (tgt := 30) d_M_band_16 (by decide) (fun q5 => ?_) (fun q6 => ?_)
      · exact kJ18 (Or.inl ⟨q2, q3, q5⟩)
      · have h := h q6
        refine e_iload_n d_M_band_19 rfl ?_
        refine e_iload_n d_M_band_20 rfl ?_
        refine e_icmp_gt (tgt := 30) d_M_band_21 (by decide) (fun q7 => ?_) (fun q8 => ?_)
        · exact kJ18 (Or.inr (Or.inl ⟨q2, q3, q6, q7⟩))
        · have h := h q8
          refine e_iload_n d_M_band_24 rfl ?_
          refine e_bipush d_M_band_25 (by decide) (by decide) ?_
          refine e_icmp_le (tgt := 37) d_M_band_27 (by decide) (fun q9 => ?_) (fun q10 => ?_)
          · have h := h q9
            refine e_aload_n d_M_band_37 rfl ?_
            refine gx_M_100 d_M_band_38 rfl ?_
            refine e_iload_n d_M_band_41 rfl ?_
            refine e_iload_n d_M_band_42 rfl ?_
            obtain ⟨o11, h⟩ := h
            refine xM_iast 29 rfl d_M_band_43 o11 ?_
            let G12 : gH := gU G 1 (m + 29) p1 p2
            have h := h G12 rfl
            refine e_aload_n d_M_band_44 rfl ?_
            refine gx_M_103 d_M_band_45 rfl ?_
            refine e_iload_n d_M_band_48 rfl ?_
            refine e_iload_n d_M_band_49 rfl ?_
            refine xM_iast 30 rfl d_M_band_50 o11 ?_
            let G13 : gH := gU G12 1 (m + 30) p1 p3
            have h := h G13 rfl
            refine e_iconst d_M_band_51 (by decide) ?_
            exact e_iret d_M_band_52 rfl h
          · exact kJ18 (Or.inr (Or.inr ⟨q2, q3, q6, q8, q10⟩))
    · exact kJ14 (Or.inr ⟨q2, q4⟩)
set_option maxRecDepth 20000 in
set_option maxHeartbeats 4000000 in
theorem sg_M_keep_0 {e : gE} {b : Nat} {m : Int} {Z : Int → gH → Prop} {kc ks : Nat} {G : gH} {p1 p2 : Int} (h : (0 ≤ p1 → (p1 ≤ 3 → (0 ≤ p2 → (p2 ≤ 9 → (0 ≤ p1 ∧ p1 < 4) ∧ (∀ G10 : gH, G10 = gU G 1 (m + 31) p1 p2 → Z (zM m G 31 p1) G10))))) ∧ ((p1 < 0 ∨ (0 ≤ p1 ∧ 3 < p1)) → GX e b m m_M_no [(2, (m + 0)), (0, (-1))] G 0 0 (fun v13 G14 => Z v13 G14)) ∧ (((0 ≤ p1 ∧ p1 ≤ 3 ∧ p2 < 0) ∨ (0 ≤ p1 ∧ p1 ≤ 3 ∧ 0 ≤ p2 ∧ 9 < p2)) → GX e b m m_M_no [(2, (m + 0)), (0, (-6))] G 0 0 (fun v17 G18 => Z v17 G18))) : EX e b m m_M_keep Z kc ks 0 [(2, (m + 0)), (0, p1), (0, p2), (9, 0)] [] G := by
  obtain ⟨h, hJ11, hJ15⟩ := h
  have kJ15 : ((0 ≤ p1 ∧ p1 ≤ 3 ∧ p2 < 0) ∨ (0 ≤ p1 ∧ p1 ≤ 3 ∧ 0 ≤ p2 ∧ 9 < p2)) → EX e b m m_M_keep Z kc ks 25 [(2, (m + 0)), (0, p1), (0, p2), (9, 0)] [] G := by
    intro rJ15
    have h := hJ15 rJ15
    refine e_aload_n d_M_keep_25 rfl ?_
    refine e_bipush d_M_keep_26 (by decide) (by decide) ?_
    refine EV.inv fun hFf16 => ?_
    have f16 := (fx_mt 0 rfl hFf16).1
    refine e_callV m_M_no 12 lw_good d_M_keep_28 (k_M_no _) ⟨Nat.le_of_ble_eq_true rfl, Nat.le_of_ble_eq_true rfl⟩ w_1569 w_1571 w_s42 (q_M _) rfl f16 (args := [(0, (-6))]) rfl rfl (Nat.le_of_ble_eq_true rfl) (kc' := kc) (ks' := ks) (mc := 0) (ms := 0) rfl rfl h ?_
    intro v17 G18 h
    exact e_iret d_M_keep_31 rfl h
  have kJ11 : (p1 < 0 ∨ (0 ≤ p1 ∧ 3 < p1)) → EX e b m m_M_keep Z kc ks 9 [(2, (m + 0)), (0, p1), (0, p2), (9, 0)] [] G := by
    intro rJ11
    have h := hJ11 rJ11
    refine e_aload_n d_M_keep_9 rfl ?_
    refine e_iconst d_M_keep_10 (by decide) ?_
    refine EV.inv fun hFf12 => ?_
    have f12 := (fx_mt 0 rfl hFf12).1
    refine e_callV m_M_no 12 lw_good d_M_keep_11 (k_M_no _) ⟨Nat.le_of_ble_eq_true rfl, Nat.le_of_ble_eq_true rfl⟩ w_1569 w_1571 w_s42 (q_M _) rfl f12 (args := [(0, (-1))]) rfl rfl (Nat.le_of_ble_eq_true rfl) (kc' := kc) (ks' := ks) (mc := 0) (ms := 0) rfl rfl h ?_
    intro v13 G14 h
    exact e_iret d_M_keep_14 rfl h
  refine e_iload_n d_M_keep_0 rfl ?_
  refine e_if_lt (tgt := 9) d_M_keep_1 (by decide) (fun q1 => ?_) (fun q2 => ?_)
  · exact kJ11 (Or.inl q1)
  · have h := h q2
    refine e_iload_n d_M_keep_4 rfl ?_
    refine e_iconst d_M_keep_5 (by decide) ?_
    refine e_icmp_le (tgt := 15) d_M_keep_6 (by decide) (fun q3 => ?_) (fun q4 => ?_)
    · have h := h q3
      refine e_iload_n d_M_keep_15 rfl ?_
      refine e_if_lt (tgt := 25) d_M_keep_16 (by decide) (fun q5 => ?_) (fun q6 => ?_)
      · exact kJ15 (Or.inl ⟨q2, q3, q5⟩)
      · have h := h q6
        refine e_iload_n d_M_keep_19 rfl ?_
        refine e_bipush d_M_keep_20 (by decide) (by decide) ?_
        refine e_icmp_le (tgt := 32) d_M_keep_22 (by decide) (fun q7 => ?_) (fun q8 => ?_)
        · have h := h q7
          refine e_aload_n d_M_keep_32 rfl ?_
          refine gx_M_106 d_M_keep_33 rfl ?_
          refine e_iload_n d_M_keep_36 rfl ?_
          obtain ⟨o9, h⟩ := h
          refine xM_iald 31 rfl d_M_keep_37 o9 ?_
          refine e_istore_n (ls' := [(2, (m + 0)), (0, p1), (0, p2), (0, (zM m G 31 p1))]) d_M_keep_38 (by decide) rfl ?_
          refine e_aload_n d_M_keep_39 rfl ?_
          refine gx_M_106 d_M_keep_40 rfl ?_
          refine e_iload_n d_M_keep_43 rfl ?_
          refine e_iload_n d_M_keep_44 rfl ?_
          refine xM_iast 31 rfl d_M_keep_45 o9 ?_
          let G10 : gH := gU G 1 (m + 31) p1 p2
          have h := h G10 rfl
          refine e_iload_n d_M_keep_46 rfl ?_
          exact e_iret d_M_keep_47 rfl h
        · exact kJ15 (Or.inr ⟨q2, q3, q6, q8⟩)
    · exact kJ11 (Or.inr ⟨q2, q4⟩)
set_option maxRecDepth 20000 in
set_option maxHeartbeats 4000000 in
theorem sg_M_fuel_0 {e : gE} {b : Nat} {m : Int} {Z : Int → gH → Prop} {kc ks : Nat} {G : gH} {p1 : Int} (h : (0 ≤ p1 → (p1 ≤ 10000 → (inI ((zM m G 792 0) + p1)) ∧ ((((zM m G 792 0) + p1) ≤ 1000000 → ∀ G12 : gH, G12 = gU G 792 (m + 0) 0 ((zM m G 792 0) + p1) → Z (zM m G12 792 0) G12) ∧ (1000000 < ((zM m G 792 0) + p1) → ∀ G13 : gH, G13 = gU G 792 (m + 0) 0 1000000 → Z (zM m G13 792 0) G13)))) ∧ ((p1 < 0 ∨ (0 ≤ p1 ∧ 10000 < p1)) → GX e b m m_M_no [(2, (m + 0)), (0, (-6))] G 0 0 (fun v10 G11 => Z v10 G11))) : EX e b m m_M_fuel Z kc ks 0 [(2, (m + 0)), (0, p1)] [] G := by
  obtain ⟨h, hJ8⟩ := h
  have kJ8 : (p1 < 0 ∨ (0 ≤ p1 ∧ 10000 < p1)) → EX e b m m_M_fuel Z kc ks 11 [(2, (m + 0)), (0, p1)] [] G := by
    intro rJ8
    have h := hJ8 rJ8
    refine e_aload_n d_M_fuel_11 rfl ?_
    refine e_bipush d_M_fuel_12 (by decide) (by decide) ?_
    refine EV.inv fun hFf9 => ?_
    have f9 := (fx_mt 0 rfl hFf9).1
    refine e_callV m_M_no 12 lw_good d_M_fuel_14 (k_M_no _) ⟨Nat.le_of_ble_eq_true rfl, Nat.le_of_ble_eq_true rfl⟩ w_1569 w_1571 w_s42 (q_M _) rfl f9 (args := [(0, (-6))]) rfl rfl (Nat.le_of_ble_eq_true rfl) (kc' := kc) (ks' := ks) (mc := 0) (ms := 0) rfl rfl h ?_
    intro v10 G11 h
    exact e_iret d_M_fuel_17 rfl h
  refine e_iload_n d_M_fuel_0 rfl ?_
  refine e_if_lt (tgt := 11) d_M_fuel_1 (by decide) (fun q1 => ?_) (fun q2 => ?_)
  · exact kJ8 (Or.inl q1)
  · have h := h q2
    refine e_iload_n d_M_fuel_4 rfl ?_
    refine e_sipush d_M_fuel_5 (by decide) (by decide) ?_
    refine e_icmp_le (tgt := 18) d_M_fuel_8 (by decide) (fun q3 => ?_) (fun q4 => ?_)
    · have h := h q3
      refine e_aload_n d_M_fuel_18 rfl ?_
      refine e_aload_n d_M_fuel_19 rfl ?_
      refine gx_M_292 d_M_fuel_20 rfl ?_
      refine e_iload_n d_M_fuel_23 rfl ?_
      obtain ⟨o5, h⟩ := h
      refine e_iadd d_M_fuel_24 o5 ?_
      refine e_ldcw 1000000 d_M_fuel_25 (by decide) w_1792 ?_
      refine e_icmp_le (tgt := 37) d_M_fuel_28 (by decide) (fun q6 => ?_) (fun q7 => ?_)
      · have h := h.1 q6
        refine e_aload_n d_M_fuel_37 rfl ?_
        refine gx_M_292 d_M_fuel_38 rfl ?_
        refine e_iload_n d_M_fuel_41 rfl ?_
        refine e_iadd d_M_fuel_42 o5 ?_
        refine px_M_292 d_M_fuel_43 rfl ?_
        let G12 : gH := gU G 792 (m + 0) 0 ((zM m G 792 0) + p1)
        have h := h G12 rfl
        refine e_aload_n d_M_fuel_46 rfl ?_
        refine gx_M_292 d_M_fuel_47 rfl ?_
        exact e_iret d_M_fuel_50 rfl h
      · have h := h.2 q7
        refine e_ldcw 1000000 d_M_fuel_31 (by decide) w_1792 ?_
        refine e_goto (tgt := 43) d_M_fuel_34 (by decide) ?_
        refine px_M_292 d_M_fuel_43 rfl ?_
        let G13 : gH := gU G 792 (m + 0) 0 1000000
        have h := h G13 rfl
        refine e_aload_n d_M_fuel_46 rfl ?_
        refine gx_M_292 d_M_fuel_47 rfl ?_
        exact e_iret d_M_fuel_50 rfl h
    · exact kJ8 (Or.inr ⟨q2, q4⟩)
set_option maxRecDepth 20000 in
set_option maxHeartbeats 4000000 in
theorem sg_M_place_0 {e : gE} {b : Nat} {m : Int} {Z : Int → gH → Prop} {kc ks : Nat} {G : gH} {p1 p2 p3 : Int} (h : (0 ≤ p2 → (p2 ≤ 3 → (1 ≤ p1 → (p1 ≤ 40 → (1 ≤ p3 → (p3 ≤ 9 → ((zM m G 787 0) ≠ 5 → (0 ≤ (zM m G 787 0) ∧ (zM m G 787 0) < 5) ∧ (∀ G16 : gH, G16 = gU G 1 (m + 23) (zM m G 787 0) p1 → ∀ G17 : gH, G17 = gU G16 1 (m + 24) (zM m G 787 0) p2 → ∀ G18 : gH, G18 = gU G17 1 (m + 25) (zM m G 787 0) p3 → (inI ((zM m G 787 0) + 1)) ∧ (∀ G20 : gH, G20 = gU G18 787 (m + 0) 0 ((zM m G 787 0) + 1) → Z (zM m G 787 0) G20))) ∧ ((zM m G 787 0) = 5 → GX e b m m_M_no [(2, (m + 0)), (0, (-7))] G 0 0 (fun v22 G23 => Z v22 G23)))))))) ∧ ((p2 < 0 ∨ (0 ≤ p2 ∧ 3 < p2)) → GX e b m m_M_no [(2, (m + 0)), (0, (-1))] G 0 0 (fun v26 G27 => Z v26 G27)) ∧ (((0 ≤ p2 ∧ p2 ≤ 3 ∧ p1 < 1) ∨ (0 ≤ p2 ∧ p2 ≤ 3 ∧ 1 ≤ p1 ∧ 40 < p1) ∨ (0 ≤ p2 ∧ p2 ≤ 3 ∧ 1 ≤ p1 ∧ p1 ≤ 40 ∧ p3 < 1) ∨ (0 ≤ p2 ∧ p2 ≤ 3 ∧ 1 ≤ p1 ∧ p1 ≤ 40 ∧ 1 ≤ p3 ∧ 9 < p3)) → GX e b m m_M_no [(2, (m + 0)), (0, (-6))] G 0 0 (fun v30 G31 => Z v30 G31))) : EX e b m m_M_place Z kc ks 0 [(2, (m + 0)), (0, p1), (0, p2), (0, p3)] [] G := by
  obtain ⟨h, hJ24, hJ28⟩ := h
  have kJ28 : ((0 ≤ p2 ∧ p2 ≤ 3 ∧ p1 < 1) ∨ (0 ≤ p2 ∧ p2 ≤ 3 ∧ 1 ≤ p1 ∧ 40 < p1) ∨ (0 ≤ p2 ∧ p2 ≤ 3 ∧ 1 ≤ p1 ∧ p1 ≤ 40 ∧ p3 < 1) ∨ (0 ≤ p2 ∧ p2 ≤ 3 ∧ 1 ≤ p1 ∧ p1 ≤ 40 ∧ 1 ≤ p3 ∧ 9 < p3)) → EX e b m m_M_place Z kc ks 37 [(2, (m + 0)), (0, p1), (0, p2), (0, p3)] [] G := by
    intro rJ28
    have h := hJ28 rJ28
    refine e_aload_n d_M_place_37 rfl ?_
    refine e_bipush d_M_place_38 (by decide) (by decide) ?_
    refine EV.inv fun hFf29 => ?_
    have f29 := (fx_mt 0 rfl hFf29).1
    refine e_callV m_M_no 12 lw_good d_M_place_40 (k_M_no _) ⟨Nat.le_of_ble_eq_true rfl, Nat.le_of_ble_eq_true rfl⟩ w_1569 w_1571 w_s42 (q_M _) rfl f29 (args := [(0, (-6))]) rfl rfl (Nat.le_of_ble_eq_true rfl) (kc' := kc) (ks' := ks) (mc := 0) (ms := 0) rfl rfl h ?_
    intro v30 G31 h
    exact e_iret d_M_place_43 rfl h
  have kJ24 : (p2 < 0 ∨ (0 ≤ p2 ∧ 3 < p2)) → EX e b m m_M_place Z kc ks 9 [(2, (m + 0)), (0, p1), (0, p2), (0, p3)] [] G := by
    intro rJ24
    have h := hJ24 rJ24
    refine e_aload_n d_M_place_9 rfl ?_
    refine e_iconst d_M_place_10 (by decide) ?_
    refine EV.inv fun hFf25 => ?_
    have f25 := (fx_mt 0 rfl hFf25).1
    refine e_callV m_M_no 12 lw_good d_M_place_11 (k_M_no _) ⟨Nat.le_of_ble_eq_true rfl, Nat.le_of_ble_eq_true rfl⟩ w_1569 w_1571 w_s42 (q_M _) rfl f25 (args := [(0, (-1))]) rfl rfl (Nat.le_of_ble_eq_true rfl) (kc' := kc) (ks' := ks) (mc := 0) (ms := 0) rfl rfl h ?_
    intro v26 G27 h
    exact e_iret d_M_place_14 rfl h
  refine e_iload_n d_M_place_0 rfl ?_
  refine e_if_lt (tgt := 9) d_M_place_1 (by decide) (fun q1 => ?_) (fun q2 => ?_)
  · exact kJ24 (Or.inl q1)
  · have h := h q2
    refine e_iload_n d_M_place_4 rfl ?_
    refine e_iconst d_M_place_5 (by decide) ?_
    refine e_icmp_le (tgt := 15) d_M_place_6 (by decide) (fun q3 => ?_) (fun q4 => ?_)
    · have h := h q3
      refine e_iload_n d_M_place_15 rfl ?_
      refine e_iconst d_M_place_16 (by decide) ?_
      refine e_icmp_lt (tgt := 37) d_M_place_17 (by decide) (fun q5 => ?_) (fun q6 => ?_)
      · exact kJ28 (Or.inl ⟨q2, q3, q5⟩)
      · have h := h q6
        refine e_iload_n d_M_place_20 rfl ?_
        refine e_bipush d_M_place_21 (by decide) (by decide) ?_
        refine e_icmp_gt (tgt := 37) d_M_place_23 (by decide) (fun q7 => ?_) (fun q8 => ?_)
        · exact kJ28 (Or.inr (Or.inl ⟨q2, q3, q6, q7⟩))
        · have h := h q8
          refine e_iload_n d_M_place_26 rfl ?_
          refine e_iconst d_M_place_27 (by decide) ?_
          refine e_icmp_lt (tgt := 37) d_M_place_28 (by decide) (fun q9 => ?_) (fun q10 => ?_)
          · exact kJ28 (Or.inr (Or.inr (Or.inl ⟨q2, q3, q6, q8, q9⟩)))
          · have h := h q10
            refine e_iload_n d_M_place_31 rfl ?_
            refine e_bipush d_M_place_32 (by decide) (by decide) ?_
            refine e_icmp_le (tgt := 44) d_M_place_34 (by decide) (fun q11 => ?_) (fun q12 => ?_)
            · have h := h q11
              refine e_aload_n d_M_place_44 rfl ?_
              refine gx_M_154 d_M_place_45 rfl ?_
              refine e_iconst d_M_place_48 (by decide) ?_
              refine e_icmp_ne (tgt := 59) d_M_place_49 (by decide) (fun q13 => ?_) (fun q14 => ?_)
              · have h := h.1 q13
                refine e_aload_n d_M_place_59 rfl ?_
                refine gx_M_82 d_M_place_60 rfl ?_
                refine e_aload_n d_M_place_63 rfl ?_
                refine gx_M_154 d_M_place_64 rfl ?_
                refine e_iload_n d_M_place_67 rfl ?_
                obtain ⟨o15, h⟩ := h
                refine xM_iast 23 rfl d_M_place_68 o15 ?_
                let G16 : gH := gU G 1 (m + 23) (zM m G 787 0) p1
                have h := h G16 rfl
                refine e_aload_n d_M_place_69 rfl ?_
                refine gx_M_85 d_M_place_70 rfl ?_
                refine e_aload_n d_M_place_73 rfl ?_
                refine gx_M_154 d_M_place_74 rfl ?_
                refine e_iload_n d_M_place_77 rfl ?_
                refine xM_iast 24 rfl d_M_place_78 o15 ?_
                let G17 : gH := gU G16 1 (m + 24) (zM m G 787 0) p2
                have h := h G17 rfl
                refine e_aload_n d_M_place_79 rfl ?_
                refine gx_M_88 d_M_place_80 rfl ?_
                refine e_aload_n d_M_place_83 rfl ?_
                refine gx_M_154 d_M_place_84 rfl ?_
                refine e_iload_n d_M_place_87 rfl ?_
                refine xM_iast 25 rfl d_M_place_88 o15 ?_
                let G18 : gH := gU G17 1 (m + 25) (zM m G 787 0) p3
                have h := h G18 rfl
                refine e_aload_n d_M_place_89 rfl ?_
                refine e_dup d_M_place_90 (by simp) ?_
                refine gx_M_154 d_M_place_91 rfl ?_
                refine e_dup_x1 d_M_place_94 (by simp) (by simp) ?_
                refine e_iconst d_M_place_95 (by decide) ?_
                obtain ⟨o19, h⟩ := h
                refine e_iadd d_M_place_96 o19 ?_
                refine px_M_154 d_M_place_97 rfl ?_
                let G20 : gH := gU G18 787 (m + 0) 0 ((zM m G 787 0) + 1)
                have h := h G20 rfl
                exact e_iret d_M_place_100 rfl h
              · have h := h.2 q14
                refine e_aload_n d_M_place_52 rfl ?_
                refine e_bipush d_M_place_53 (by decide) (by decide) ?_
                refine EV.inv fun hFf21 => ?_
                have f21 := (fx_mt 0 rfl hFf21).1
                refine e_callV m_M_no 12 lw_good d_M_place_55 (k_M_no _) ⟨Nat.le_of_ble_eq_true rfl, Nat.le_of_ble_eq_true rfl⟩ w_1569 w_1571 w_s42 (q_M _) rfl f21 (args := [(0, (-7))]) rfl rfl (Nat.le_of_ble_eq_true rfl) (kc' := kc) (ks' := ks) (mc := 0) (ms := 0) rfl rfl h ?_
                intro v22 G23 h
                exact e_iret d_M_place_58 rfl h
            · exact kJ28 (Or.inr (Or.inr (Or.inr ⟨q2, q3, q6, q8, q10, q12⟩)))
    · exact kJ24 (Or.inr ⟨q2, q4⟩)
set_option maxRecDepth 20000 in
set_option maxHeartbeats 4000000 in
theorem sg_M_paper_0 {e : gE} {b : Nat} {m : Int} {Z : Int → gH → Prop} {kc ks : Nat} {G : gH} {p1 p2 p3 p4 : Int} (h : (((0 ≤ p1 ∧ p1 < zM m G 785 0) → (0 ≤ p2 → (p2 ≤ 9 → (0 ≤ p3 → (p3 ≤ p4 → (p4 ≤ 200 → (0 ≤ p1 ∧ p1 < 16) ∧ (((zM m G 13 p1) ≠ 6 → (inI (6 * p1)) ∧ ((inI ((6 * p1) + (zM m G 13 p1))) ∧ ((0 ≤ ((6 * p1) + (zM m G 13 p1)) ∧ ((6 * p1) + (zM m G 13 p1)) < 96) ∧ (∀ G20 : gH, G20 = gU G 1 (m + 32) ((6 * p1) + (zM m G 13 p1)) p2 → ∀ G21 : gH, G21 = gU G20 1 (m + 33) ((6 * p1) + (zM m G 13 p1)) p3 → ∀ G22 : gH, G22 = gU G21 1 (m + 34) ((6 * p1) + (zM m G 13 p1)) p4 → (inI ((zM m G22 13 p1) + 1)) ∧ (∀ G24 : gH, G24 = gU G22 1 (m + 13) p1 ((zM m G22 13 p1) + 1) → Z ((zM m G22 13 p1) + 1) G24))))) ∧ ((zM m G 13 p1) = 6 → GX e b m m_M_no [(2, (m + 0)), (0, (-7))] G 0 0 (fun v26 G27 => Z v26 G27))))))))) ∧ ((¬ (0 ≤ p1 ∧ p1 < zM m G 785 0)) → GX e b m m_M_no [(2, (m + 0)), (0, (-1))] G 0 0 (fun v29 G30 => Z v29 G30))) ∧ ((((0 ≤ p1 ∧ p1 < zM m G 785 0) ∧ p2 < 0) ∨ ((0 ≤ p1 ∧ p1 < zM m G 785 0) ∧ 0 ≤ p2 ∧ 9 < p2) ∨ ((0 ≤ p1 ∧ p1 < zM m G 785 0) ∧ 0 ≤ p2 ∧ p2 ≤ 9 ∧ p3 < 0) ∨ ((0 ≤ p1 ∧ p1 < zM m G 785 0) ∧ 0 ≤ p2 ∧ p2 ≤ 9 ∧ 0 ≤ p3 ∧ p4 < p3) ∨ ((0 ≤ p1 ∧ p1 < zM m G 785 0) ∧ 0 ≤ p2 ∧ p2 ≤ 9 ∧ 0 ≤ p3 ∧ p3 ≤ p4 ∧ 200 < p4)) → GX e b m m_M_no [(2, (m + 0)), (0, (-6))] G 0 0 (fun v33 G34 => Z v33 G34))) : EX e b m m_M_paper Z kc ks 0 [(2, (m + 0)), (0, p1), (0, p2), (0, p3), (0, p4), (9, 0)] [] G := by
  obtain ⟨h, hJ31⟩ := h
  have kJ31 : (((0 ≤ p1 ∧ p1 < zM m G 785 0) ∧ p2 < 0) ∨ ((0 ≤ p1 ∧ p1 < zM m G 785 0) ∧ 0 ≤ p2 ∧ 9 < p2) ∨ ((0 ≤ p1 ∧ p1 < zM m G 785 0) ∧ 0 ≤ p2 ∧ p2 ≤ 9 ∧ p3 < 0) ∨ ((0 ≤ p1 ∧ p1 < zM m G 785 0) ∧ 0 ≤ p2 ∧ p2 ≤ 9 ∧ 0 ≤ p3 ∧ p4 < p3) ∨ ((0 ≤ p1 ∧ p1 < zM m G 785 0) ∧ 0 ≤ p2 ∧ p2 ≤ 9 ∧ 0 ≤ p3 ∧ p3 ≤ p4 ∧ 200 < p4)) → EX e b m m_M_paper Z kc ks 42 [(2, (m + 0)), (0, p1), (0, p2), (0, p3), (0, p4), (9, 0)] [] G := by
    intro rJ31
    have h := hJ31 rJ31
    refine e_aload_n d_M_paper_42 rfl ?_
    refine e_bipush d_M_paper_43 (by decide) (by decide) ?_
    refine EV.inv fun hFf32 => ?_
    have f32 := (fx_mt 0 rfl hFf32).1
    refine e_callV m_M_no 12 lw_good d_M_paper_45 (k_M_no _) ⟨Nat.le_of_ble_eq_true rfl, Nat.le_of_ble_eq_true rfl⟩ w_1569 w_1571 w_s42 (q_M _) rfl f32 (args := [(0, (-6))]) rfl rfl (Nat.le_of_ble_eq_true rfl) (kc' := kc) (ks' := ks) (mc := 0) (ms := 0) rfl rfl h ?_
    intro v33 G34 h
    exact e_iret d_M_paper_48 rfl h
  refine e_aload_n d_M_paper_0 rfl ?_
  refine e_iload_n d_M_paper_1 rfl ?_
  refine EV.inv fun hFf1 => ?_
  have f1 := (fx_mt 0 rfl hFf1).1
  refine e_callV m_M_isThing 12 lw_good d_M_paper_2 (k_M_isThing _) ⟨Nat.le_of_ble_eq_true rfl, Nat.le_of_ble_eq_true rfl⟩ w_1692 w_1694 w_s62 (q_M _) rfl f1 (args := [(0, p1)]) rfl rfl (Nat.le_of_ble_eq_true rfl) (kc' := kc) (ks' := ks) (mc := 0) (ms := 0) rfl rfl (c_M_isThing) (pureK ?_)
  refine e_if_ne (tgt := 14) d_M_paper_5 (by decide) (fun q2 => ?_) (fun q3 => ?_)
  · replace q2 := gb1.mp q2
    have h := h.1 q2
    refine e_iload_n d_M_paper_14 rfl ?_
    refine e_if_lt (tgt := 42) d_M_paper_15 (by decide) (fun q4 => ?_) (fun q5 => ?_)
    · exact kJ31 (Or.inl ⟨q2, q4⟩)
    · have h := h q5
      refine e_iload_n d_M_paper_18 rfl ?_
      refine e_bipush d_M_paper_19 (by decide) (by decide) ?_
      refine e_icmp_gt (tgt := 42) d_M_paper_21 (by decide) (fun q6 => ?_) (fun q7 => ?_)
      · exact kJ31 (Or.inr (Or.inl ⟨q2, q5, q6⟩))
      · have h := h q7
        refine e_iload_n d_M_paper_24 rfl ?_
        refine e_if_lt (tgt := 42) d_M_paper_25 (by decide) (fun q8 => ?_) (fun q9 => ?_)
        · exact kJ31 (Or.inr (Or.inr (Or.inl ⟨q2, q5, q7, q8⟩)))
        · have h := h q9
          refine e_iload_n d_M_paper_28 rfl ?_
          refine e_iload d_M_paper_29 rfl ?_
          refine e_icmp_gt (tgt := 42) d_M_paper_31 (by decide) (fun q10 => ?_) (fun q11 => ?_)
          · exact kJ31 (Or.inr (Or.inr (Or.inr (Or.inl ⟨q2, q5, q7, q9, q10⟩))))
          · have h := h q11
            refine e_iload d_M_paper_34 rfl ?_
            refine e_sipush d_M_paper_36 (by decide) (by decide) ?_
            refine e_icmp_le (tgt := 49) d_M_paper_39 (by decide) (fun q12 => ?_) (fun q13 => ?_)
            · have h := h q12
              refine e_aload_n d_M_paper_49 rfl ?_
              refine gx_M_51 d_M_paper_50 rfl ?_
              refine e_iload_n d_M_paper_53 rfl ?_
              obtain ⟨o14, h⟩ := h
              refine xM_iald 13 rfl d_M_paper_54 o14 ?_
              refine e_bipush d_M_paper_55 (by decide) (by decide) ?_
              refine e_icmp_ne (tgt := 67) d_M_paper_57 (by decide) (fun q15 => ?_) (fun q16 => ?_)
              · have h := h.1 q15
                refine e_bipush d_M_paper_67 (by decide) (by decide) ?_
                refine e_iload_n d_M_paper_69 rfl ?_
                obtain ⟨o17, h⟩ := h
                refine e_imul d_M_paper_70 o17 ?_
                refine e_aload_n d_M_paper_71 rfl ?_
                refine gx_M_51 d_M_paper_72 rfl ?_
                refine e_iload_n d_M_paper_75 rfl ?_
                refine xM_iald 13 rfl d_M_paper_76 o14 ?_
                obtain ⟨o18, h⟩ := h
                refine e_iadd d_M_paper_77 o18 ?_
                refine e_istore (ls' := [(2, (m + 0)), (0, p1), (0, p2), (0, p3), (0, p4), (0, ((6 * p1) + (zM m G 13 p1)))]) d_M_paper_78 (by decide) rfl ?_
                refine e_aload_n d_M_paper_80 rfl ?_
                refine gx_M_109 d_M_paper_81 rfl ?_
                refine e_iload d_M_paper_84 rfl ?_
                refine e_iload_n d_M_paper_86 rfl ?_
                obtain ⟨o19, h⟩ := h
                refine xM_iast 32 rfl d_M_paper_87 o19 ?_
                let G20 : gH := gU G 1 (m + 32) ((6 * p1) + (zM m G 13 p1)) p2
                have h := h G20 rfl
                refine e_aload_n d_M_paper_88 rfl ?_
                refine gx_M_112 d_M_paper_89 rfl ?_
                refine e_iload d_M_paper_92 rfl ?_
                refine e_iload_n d_M_paper_94 rfl ?_
                refine xM_iast 33 rfl d_M_paper_95 o19 ?_
                let G21 : gH := gU G20 1 (m + 33) ((6 * p1) + (zM m G 13 p1)) p3
                have h := h G21 rfl
                refine e_aload_n d_M_paper_96 rfl ?_
                refine gx_M_115 d_M_paper_97 rfl ?_
                refine e_iload d_M_paper_100 rfl ?_
                refine e_iload d_M_paper_102 rfl ?_
                refine xM_iast 34 rfl d_M_paper_104 o19 ?_
                let G22 : gH := gU G21 1 (m + 34) ((6 * p1) + (zM m G 13 p1)) p4
                have h := h G22 rfl
                refine e_aload_n d_M_paper_105 rfl ?_
                refine gx_M_51 d_M_paper_106 rfl ?_
                refine e_iload_n d_M_paper_109 rfl ?_
                refine e_dup2 d_M_paper_110 (by simp) (by simp) ?_
                refine xM_iald 13 rfl d_M_paper_111 o14 ?_
                refine e_iconst d_M_paper_112 (by decide) ?_
                obtain ⟨o23, h⟩ := h
                refine e_iadd d_M_paper_113 o23 ?_
                refine e_dup_x2 d_M_paper_114 (by simp) (by simp) (by simp) ?_
                refine xM_iast 13 rfl d_M_paper_115 o14 ?_
                let G24 : gH := gU G22 1 (m + 13) p1 ((zM m G22 13 p1) + 1)
                have h := h G24 rfl
                exact e_iret d_M_paper_116 rfl h
              · have h := h.2 q16
                refine e_aload_n d_M_paper_60 rfl ?_
                refine e_bipush d_M_paper_61 (by decide) (by decide) ?_
                refine EV.inv fun hFf25 => ?_
                have f25 := (fx_mt 0 rfl hFf25).1
                refine e_callV m_M_no 12 lw_good d_M_paper_63 (k_M_no _) ⟨Nat.le_of_ble_eq_true rfl, Nat.le_of_ble_eq_true rfl⟩ w_1569 w_1571 w_s42 (q_M _) rfl f25 (args := [(0, (-7))]) rfl rfl (Nat.le_of_ble_eq_true rfl) (kc' := kc) (ks' := ks) (mc := 0) (ms := 0) rfl rfl h ?_
                intro v26 G27 h
                exact e_iret d_M_paper_66 rfl h
            · exact kJ31 (Or.inr (Or.inr (Or.inr (Or.inr ⟨q2, q5, q7, q9, q11, q13⟩))))
  · replace q3 := gb0.mp q3
    have h := h.2 q3
    refine e_aload_n d_M_paper_8 rfl ?_
    refine e_iconst d_M_paper_9 (by decide) ?_
    refine EV.inv fun hFf28 => ?_
    have f28 := (fx_mt 0 rfl hFf28).1
    refine e_callV m_M_no 12 lw_good d_M_paper_10 (k_M_no _) ⟨Nat.le_of_ble_eq_true rfl, Nat.le_of_ble_eq_true rfl⟩ w_1569 w_1571 w_s42 (q_M _) rfl f28 (args := [(0, (-1))]) rfl rfl (Nat.le_of_ble_eq_true rfl) (kc' := kc) (ks' := ks) (mc := 0) (ms := 0) rfl rfl h ?_
    intro v29 G30 h
    exact e_iret d_M_paper_13 rfl h
set_option maxRecDepth 20000 in
set_option maxHeartbeats 4000000 in
theorem sg_M_show_0 {e : gE} {b : Nat} {m : Int} {Z : Int → gH → Prop} {kc ks : Nat} {G : gH} {p1 p2 : Int} (h : ((((¬ (0 ≤ p1 ∧ p1 < 8))) ∨ ((0 ≤ p1 ∧ p1 < 8) ∧ p2 ≠ (-1) ∧ (¬ (0 ≤ p2 ∧ p2 < zM m G 785 0)))) → GX e b m m_M_no [(2, (m + 0)), (0, (-1))] G 0 0 (fun v10 G11 => Z v10 G11)) ∧ ((((0 ≤ p1 ∧ p1 < 8) ∧ p2 = (-1)) ∨ ((0 ≤ p1 ∧ p1 < 8) ∧ p2 ≠ (-1) ∧ (0 ≤ p2 ∧ p2 < zM m G 785 0))) → (p2 ≠ (-1) → (0 ≤ p1 ∧ p1 < 8) ∧ (∀ G16 : gH, G16 = gU G 1 (m + 18) p1 2 → ∀ G17 : gH, G17 = gU G16 1 (m + 21) p1 p2 → Z 1 G17)) ∧ (p2 = (-1) → (0 ≤ p1 ∧ p1 < 8) ∧ (∀ G21 : gH, G21 = gU G 1 (m + 18) p1 0 → ∀ G22 : gH, G22 = gU G21 1 (m + 21) p1 p2 → Z 0 G22)))) : EX e b m m_M_show Z kc ks 0 [(2, (m + 0)), (0, p1), (0, p2)] [] G := by
  obtain ⟨hJ8, hJ12⟩ := h
  have kJ12 : (((0 ≤ p1 ∧ p1 < 8) ∧ p2 = (-1)) ∨ ((0 ≤ p1 ∧ p1 < 8) ∧ p2 ≠ (-1) ∧ (0 ≤ p2 ∧ p2 < zM m G 785 0))) → EX e b m m_M_show Z kc ks 26 [(2, (m + 0)), (0, p1), (0, p2)] [] G := by
    intro rJ12
    have h := hJ12 rJ12
    refine e_aload_n d_M_show_26 rfl ?_
    refine gx_M_66 d_M_show_27 rfl ?_
    refine e_iload_n d_M_show_30 rfl ?_
    refine e_iload_n d_M_show_31 rfl ?_
    refine e_iconst d_M_show_32 (by decide) ?_
    refine e_icmp_ne (tgt := 40) d_M_show_33 (by decide) (fun q13 => ?_) (fun q14 => ?_)
    · have h := h.1 q13
      refine e_iconst d_M_show_40 (by decide) ?_
      obtain ⟨o15, h⟩ := h
      refine xM_iast 18 rfl d_M_show_41 o15 ?_
      let G16 : gH := gU G 1 (m + 18) p1 2
      have h := h G16 rfl
      refine e_aload_n d_M_show_42 rfl ?_
      refine gx_M_75 d_M_show_43 rfl ?_
      refine e_iload_n d_M_show_46 rfl ?_
      refine e_iload_n d_M_show_47 rfl ?_
      refine xM_iast 21 rfl d_M_show_48 o15 ?_
      let G17 : gH := gU G16 1 (m + 21) p1 p2
      have h := h G17 rfl
      refine e_iload_n d_M_show_49 rfl ?_
      refine e_iconst d_M_show_50 (by decide) ?_
      refine e_icmp_ne (tgt := 58) d_M_show_51 (by decide) (fun q18 => ?_) (fun q19 => ?_)
      · refine e_iconst d_M_show_58 (by decide) ?_
        exact e_iret d_M_show_59 rfl h
      · exact absurd q13 (by omega)
    · have h := h.2 q14
      refine e_iconst d_M_show_36 (by decide) ?_
      refine e_goto (tgt := 41) d_M_show_37 (by decide) ?_
      obtain ⟨o20, h⟩ := h
      refine xM_iast 18 rfl d_M_show_41 o20 ?_
      let G21 : gH := gU G 1 (m + 18) p1 0
      have h := h G21 rfl
      refine e_aload_n d_M_show_42 rfl ?_
      refine gx_M_75 d_M_show_43 rfl ?_
      refine e_iload_n d_M_show_46 rfl ?_
      refine e_iload_n d_M_show_47 rfl ?_
      refine xM_iast 21 rfl d_M_show_48 o20 ?_
      let G22 : gH := gU G21 1 (m + 21) p1 p2
      have h := h G22 rfl
      refine e_iload_n d_M_show_49 rfl ?_
      refine e_iconst d_M_show_50 (by decide) ?_
      refine e_icmp_ne (tgt := 58) d_M_show_51 (by decide) (fun q23 => ?_) (fun q24 => ?_)
      · exact absurd q14 (by omega)
      · refine e_iconst d_M_show_54 (by decide) ?_
        refine e_goto (tgt := 59) d_M_show_55 (by decide) ?_
        exact e_iret d_M_show_59 rfl h
  have kJ8 : (((¬ (0 ≤ p1 ∧ p1 < 8))) ∨ ((0 ≤ p1 ∧ p1 < 8) ∧ p2 ≠ (-1) ∧ (¬ (0 ≤ p2 ∧ p2 < zM m G 785 0)))) → EX e b m m_M_show Z kc ks 20 [(2, (m + 0)), (0, p1), (0, p2)] [] G := by
    intro rJ8
    have h := hJ8 rJ8
    refine e_aload_n d_M_show_20 rfl ?_
    refine e_iconst d_M_show_21 (by decide) ?_
    refine EV.inv fun hFf9 => ?_
    have f9 := (fx_mt 0 rfl hFf9).1
    refine e_callV m_M_no 12 lw_good d_M_show_22 (k_M_no _) ⟨Nat.le_of_ble_eq_true rfl, Nat.le_of_ble_eq_true rfl⟩ w_1569 w_1571 w_s42 (q_M _) rfl f9 (args := [(0, (-1))]) rfl rfl (Nat.le_of_ble_eq_true rfl) (kc' := kc) (ks' := ks) (mc := 0) (ms := 0) rfl rfl h ?_
    intro v10 G11 h
    exact e_iret d_M_show_25 rfl h
  refine e_iload_n d_M_show_0 rfl ?_
  refine e_callS m_M_isShelf lw_good d_M_show_1 (k_M_isShelf _) ⟨Nat.le_of_ble_eq_true rfl, Nat.le_of_ble_eq_true rfl⟩ w_1593 w_1594 (args := [(0, p1)]) rfl rfl (Nat.le_of_ble_eq_true rfl) (kc' := kc) (ks' := ks) (mc := 0) (ms := 0) rfl rfl (c_M_isShelf) (pureK ?_)
  refine e_if_eq (tgt := 20) d_M_show_4 (by decide) (fun q1 => ?_) (fun q2 => ?_)
  · replace q1 := gb0.mp q1
    exact kJ8 (Or.inl q1)
  · replace q2 := gb1.mp q2
    refine e_iload_n d_M_show_7 rfl ?_
    refine e_iconst d_M_show_8 (by decide) ?_
    refine e_icmp_eq (tgt := 26) d_M_show_9 (by decide) (fun q3 => ?_) (fun q4 => ?_)
    · exact kJ12 (Or.inl ⟨q2, q3⟩)
    · refine e_aload_n d_M_show_12 rfl ?_
      refine e_iload_n d_M_show_13 rfl ?_
      refine EV.inv fun hFf5 => ?_
      have f5 := (fx_mt 0 rfl hFf5).1
      refine e_callV m_M_isThing 12 lw_good d_M_show_14 (k_M_isThing _) ⟨Nat.le_of_ble_eq_true rfl, Nat.le_of_ble_eq_true rfl⟩ w_1692 w_1694 w_s62 (q_M _) rfl f5 (args := [(0, p2)]) rfl rfl (Nat.le_of_ble_eq_true rfl) (kc' := kc) (ks' := ks) (mc := 0) (ms := 0) rfl rfl (c_M_isThing) (pureK ?_)
      refine e_if_ne (tgt := 26) d_M_show_17 (by decide) (fun q6 => ?_) (fun q7 => ?_)
      · replace q6 := gb1.mp q6
        exact kJ12 (Or.inr ⟨q2, q4, q6⟩)
      · replace q7 := gb0.mp q7
        exact kJ8 (Or.inr ⟨q2, q4, q7⟩)
set_option maxRecDepth 20000 in
set_option maxHeartbeats 4000000 in
theorem sg_M_found_0 {e : gE} {b : Nat} {m : Int} {Z : Int → gH → Prop} {kc ks : Nat} {G : gH} {p1 : Int} (h : (((0 ≤ p1 ∧ p1 < zM m G 785 0) → ((zM m G 788 0) = 2 → (0 ≤ p1 ∧ p1 < 16) ∧ ((zM m G 11 p1) = 500 → GX e b m m_M_goes [(2, (m + 0)), (0, p1), (0, 300)] G 0 0 (fun _ G11 => Z 1 G11)))) ∧ ((¬ (0 ≤ p1 ∧ p1 < zM m G 785 0)) → GX e b m m_M_no [(2, (m + 0)), (0, (-1))] G 0 0 (fun v13 G14 => Z v13 G14))) ∧ ((((0 ≤ p1 ∧ p1 < zM m G 785 0) ∧ (zM m G 788 0) ≠ 2) ∨ ((0 ≤ p1 ∧ p1 < zM m G 785 0) ∧ (zM m G 788 0) = 2 ∧ (zM m G 11 p1) ≠ 500)) → GX e b m m_M_no [(2, (m + 0)), (0, (-6))] G 0 0 (fun v17 G18 => Z v17 G18))) : EX e b m m_M_found Z kc ks 0 [(2, (m + 0)), (0, p1)] [] G := by
  obtain ⟨h, hJ15⟩ := h
  have kJ15 : (((0 ≤ p1 ∧ p1 < zM m G 785 0) ∧ (zM m G 788 0) ≠ 2) ∨ ((0 ≤ p1 ∧ p1 < zM m G 785 0) ∧ (zM m G 788 0) = 2 ∧ (zM m G 11 p1) ≠ 500)) → EX e b m m_M_found Z kc ks 34 [(2, (m + 0)), (0, p1)] [] G := by
    intro rJ15
    have h := hJ15 rJ15
    refine e_aload_n d_M_found_34 rfl ?_
    refine e_bipush d_M_found_35 (by decide) (by decide) ?_
    refine EV.inv fun hFf16 => ?_
    have f16 := (fx_mt 0 rfl hFf16).1
    refine e_callV m_M_no 12 lw_good d_M_found_37 (k_M_no _) ⟨Nat.le_of_ble_eq_true rfl, Nat.le_of_ble_eq_true rfl⟩ w_1569 w_1571 w_s42 (q_M _) rfl f16 (args := [(0, (-6))]) rfl rfl (Nat.le_of_ble_eq_true rfl) (kc' := kc) (ks' := ks) (mc := 0) (ms := 0) rfl rfl h ?_
    intro v17 G18 h
    exact e_iret d_M_found_40 rfl h
  refine e_aload_n d_M_found_0 rfl ?_
  refine e_iload_n d_M_found_1 rfl ?_
  refine EV.inv fun hFf1 => ?_
  have f1 := (fx_mt 0 rfl hFf1).1
  refine e_callV m_M_isThing 12 lw_good d_M_found_2 (k_M_isThing _) ⟨Nat.le_of_ble_eq_true rfl, Nat.le_of_ble_eq_true rfl⟩ w_1692 w_1694 w_s62 (q_M _) rfl f1 (args := [(0, p1)]) rfl rfl (Nat.le_of_ble_eq_true rfl) (kc' := kc) (ks' := ks) (mc := 0) (ms := 0) rfl rfl (c_M_isThing) (pureK ?_)
  refine e_if_ne (tgt := 14) d_M_found_5 (by decide) (fun q2 => ?_) (fun q3 => ?_)
  · replace q2 := gb1.mp q2
    have h := h.1 q2
    refine e_aload_n d_M_found_14 rfl ?_
    refine gx_M_165 d_M_found_15 rfl ?_
    refine e_iconst d_M_found_18 (by decide) ?_
    refine e_icmp_ne (tgt := 34) d_M_found_19 (by decide) (fun q4 => ?_) (fun q5 => ?_)
    · exact kJ15 (Or.inl ⟨q2, q4⟩)
    · have h := h q5
      refine e_aload_n d_M_found_22 rfl ?_
      refine gx_M_45 d_M_found_23 rfl ?_
      refine e_iload_n d_M_found_26 rfl ?_
      obtain ⟨o6, h⟩ := h
      refine xM_iald 11 rfl d_M_found_27 o6 ?_
      refine e_sipush d_M_found_28 (by decide) (by decide) ?_
      refine e_icmp_eq (tgt := 41) d_M_found_31 (by decide) (fun q7 => ?_) (fun q8 => ?_)
      · have h := h q7
        refine e_aload_n d_M_found_41 rfl ?_
        refine e_iload_n d_M_found_42 rfl ?_
        refine e_sipush d_M_found_43 (by decide) (by decide) ?_
        refine EV.inv fun hFf9 => ?_
        have f9 := (fx_mt 0 rfl hFf9).1
        refine e_callV m_M_goes 12 lw_good d_M_found_46 (k_M_goes _) ⟨Nat.le_of_ble_eq_true rfl, Nat.le_of_ble_eq_true rfl⟩ w_1732 w_1734 w_s64 (q_M _) rfl f9 (args := [(0, p1), (0, 300)]) rfl rfl (Nat.le_of_ble_eq_true rfl) (kc' := kc) (ks' := ks) (mc := 0) (ms := 0) rfl rfl h ?_
        intro v10 G11 h
        refine e_iconst d_M_found_49 (by decide) ?_
        exact e_iret d_M_found_50 rfl h
      · exact kJ15 (Or.inr ⟨q2, q5, q8⟩)
  · replace q3 := gb0.mp q3
    have h := h.2 q3
    refine e_aload_n d_M_found_8 rfl ?_
    refine e_iconst d_M_found_9 (by decide) ?_
    refine EV.inv fun hFf12 => ?_
    have f12 := (fx_mt 0 rfl hFf12).1
    refine e_callV m_M_no 12 lw_good d_M_found_10 (k_M_no _) ⟨Nat.le_of_ble_eq_true rfl, Nat.le_of_ble_eq_true rfl⟩ w_1569 w_1571 w_s42 (q_M _) rfl f12 (args := [(0, (-1))]) rfl rfl (Nat.le_of_ble_eq_true rfl) (kc' := kc) (ks' := ks) (mc := 0) (ms := 0) rfl rfl h ?_
    intro v13 G14 h
    exact e_iret d_M_found_13 rfl h
def zPuts (A : zA) (k w h r p : Int) : zA := zU (zU (zU (zU (zU (zU (zU A 7 (A 785 0) k) 8 (A 785 0) w) 9 (A 785 0) h) 10 (A 785 0) p) 11 (A 785 0) (100 + r)) 14 (A 785 0) (-1)) 785 0 (A 785 0 + 1)
theorem c_M_puts {e : gE} {b : Nat} {m : Int} {G : gH} {p1 p2 p3 p4 p5 : Int} (h : 0 ≤ zM m G 785 0 ∧ zM m G 785 0 < 16) (hr : 0 ≤ p4 ∧ p4 ≤ 11) : GX e b m m_M_puts [(2, (m + 0)), (0, p1), (0, p2), (0, p3), (0, p4), (0, p5)] G 0 0 (zQ m G (zM m G 785 0, zPuts (zM m G) p1 p2 p3 p4 p5)) := by
  refine GM.ofEV (by decide) (Nat.le_of_ble_eq_true rfl) (sg_M_puts_0 ⟨h, ?_⟩)
  rintro _ rfl _ rfl _ rfl _ rfl
  refine ⟨by omega, ?_⟩
  rintro _ rfl _ rfl
  refine ⟨by omega, ?_⟩
  rintro _ rfl
  refine ⟨rfl, ?_, zC_u (zC_u (zC_u (zC_u (zC_u (zC_u (zC_u zC_r (by decide)) (by decide)) (by decide)) (by decide)) (by decide)) (by decide)) (by decide)⟩
  rw [zM_u785, zM_u14, zM_u11, zM_u10, zM_u9, zM_u8, zM_u7]
  rfl
def zfThing (A : zA) (k w h r p : Int) : Int × zA := if k < 0 ∨ k > 3 ∨ r < 1 ∨ r > 11 then zNo A (-1) else if w < 1 ∨ w > 100 ∨ h < 1 ∨ h > 4 ∨ p < 0 ∨ p > 20 ∨ A 788 0 ≠ 0 then zNo A (-6) else if A 785 0 = 16 then zNo A (-7) else (A 785 0, zPuts A k w h r p)
theorem c_M_thing {e : gE} {b : Nat} {m : Int} {G : gH} {p1 p2 p3 p4 p5 : Int} (h : zB 512 (zM m G)) : GX e b m m_M_thing [(2, (m + 0)), (0, p1), (0, p2), (0, p3), (0, p4), (0, p5)] G 0 0 (zQ m G (zfThing (zM m G) p1 p2 p3 p4 p5)) := by
  have b0 : 0 ≤ zM m G 785 0 ∧ zM m G 785 0 ≤ 16 := h 785 0
  refine GM.ofEV (by decide) (Nat.le_of_ble_eq_true rfl) (sg_M_thing_0 ?_)
  unfold zfThing
  refine ⟨fun q1 q2 q3 q4 q5 q6 q7 q8 q9 q10 q11 => ⟨fun q12 => ?_, fun q12 => ?_⟩, fun q => ?_, fun q => ?_⟩
  · rw [if_neg (by omega), if_neg (by omega), if_neg q12]; exact c_M_puts (by omega) (by omega)
  · rw [if_neg (by omega), if_neg (by omega), if_pos q12]; exact c_M_no h (by decide)
  · rw [if_pos (by omega)]; exact c_M_no h (by decide)
  · rw [if_neg (by omega), if_pos (by omega)]; exact c_M_no h (by decide)
def zfTeam (A : zA) (k : Int) : Int × zA := if k < 1 ∨ k > 4 ∨ A 788 0 ≠ 0 then zNo A (-6) else if A 786 0 = 3 then zNo A (-7) else (A 786 0, zU (zU A 15 (A 786 0) k) 786 0 (A 786 0 + 1))
theorem c_M_team {e : gE} {b : Nat} {m : Int} {G : gH} {p1 : Int} (h : zB 512 (zM m G)) : GX e b m m_M_team [(2, (m + 0)), (0, p1)] G 0 0 (zQ m G (zfTeam (zM m G) p1)) := by
  have b0 : 0 ≤ zM m G 786 0 ∧ zM m G 786 0 ≤ 3 := h 786 0
  refine GM.ofEV (by decide) (Nat.le_of_ble_eq_true rfl) (sg_M_team_0 ?_)
  unfold zfTeam
  refine ⟨fun q1 q2 q3 => ⟨fun q4 => ⟨by omega, ?_⟩, fun q4 => ?_⟩, fun q => ?_⟩
  · rintro _ rfl
    refine ⟨by omega, ?_⟩
    rintro _ rfl
    rw [if_neg (by omega), if_neg q4]
    refine ⟨rfl, ?_, zC_u (zC_u zC_r (by decide)) (by decide)⟩
    rw [zM_u786, zM_u15]
  · rw [if_neg (by omega), if_pos q4]; exact c_M_no h (by decide)
  · rw [if_pos (by omega)]; exact c_M_no h (by decide)
def zfBand (A : zA) (k f t : Int) : Int × zA := if k < 0 ∨ k > 3 then zNo A (-1) else if f < 0 ∨ f > t ∨ t > 100 then zNo A (-6) else (1, zU (zU A 29 k f) 30 k t)
theorem c_M_band {e : gE} {b : Nat} {m : Int} {G : gH} {p1 p2 p3 : Int} (h : zB 512 (zM m G)) : GX e b m m_M_band [(2, (m + 0)), (0, p1), (0, p2), (0, p3)] G 0 0 (zQ m G (zfBand (zM m G) p1 p2 p3)) := by
  refine GM.ofEV (by decide) (Nat.le_of_ble_eq_true rfl) (sg_M_band_0 ?_)
  unfold zfBand
  refine ⟨fun q1 q2 q3 q4 q5 => ⟨by omega, ?_⟩, fun q => ?_, fun q => ?_⟩
  · rintro _ rfl _ rfl
    rw [if_neg (by omega), if_neg (by omega)]
    refine ⟨rfl, ?_, zC_u (zC_u zC_r (by decide)) (by decide)⟩
    rw [zM_u30, zM_u29]
  · rw [if_pos (by omega)]; exact c_M_no h (by decide)
  · rw [if_neg (by omega), if_pos (by omega)]; exact c_M_no h (by decide)
def zfKeep (A : zA) (k n : Int) : Int × zA := if k < 0 ∨ k > 3 then zNo A (-1) else if n < 0 ∨ n > 9 then zNo A (-6) else (A 31 k, zU A 31 k n)
theorem c_M_keep {e : gE} {b : Nat} {m : Int} {G : gH} {p1 p2 : Int} (h : zB 512 (zM m G)) : GX e b m m_M_keep [(2, (m + 0)), (0, p1), (0, p2)] G 0 0 (zQ m G (zfKeep (zM m G) p1 p2)) := by
  refine GM.ofEV (by decide) (Nat.le_of_ble_eq_true rfl) (sg_M_keep_0 ?_)
  unfold zfKeep
  refine ⟨fun q1 q2 q3 q4 => ⟨by omega, ?_⟩, fun q => ?_, fun q => ?_⟩
  · rintro _ rfl
    rw [if_neg (by omega), if_neg (by omega)]
    exact ⟨rfl, zM_u31, zC_u zC_r (by decide)⟩
  · rw [if_pos (by omega)]; exact c_M_no h (by decide)
  · rw [if_neg (by omega), if_pos (by omega)]; exact c_M_no h (by decide)
def zfFuel (A : zA) (n : Int) : Int × zA := if n < 0 ∨ n > 10000 then zNo A (-6) else (if 1000000 < A 792 0 + n then 1000000 else A 792 0 + n, zU A 792 0 (if 1000000 < A 792 0 + n then 1000000 else A 792 0 + n))
theorem c_M_fuel {e : gE} {b : Nat} {m : Int} {G : gH} {p1 : Int} (h : zB 512 (zM m G)) : GX e b m m_M_fuel [(2, (m + 0)), (0, p1)] G 0 0 (zQ m G (zfFuel (zM m G) p1)) := by
  have b0 : 0 ≤ zM m G 792 0 ∧ zM m G 792 0 ≤ 1000000 := h 792 0
  refine GM.ofEV (by decide) (Nat.le_of_ble_eq_true rfl) (sg_M_fuel_0 ?_)
  unfold zfFuel
  refine ⟨fun q1 q2 => ⟨by omega, fun q3 => ?_, fun q3 => ?_⟩, fun q => ?_⟩
  · rintro _ rfl
    rw [if_neg (by omega), if_neg (by omega), zM_u792]
    exact ⟨zU_eq, zM_u792, zC_u zC_r (by decide)⟩
  · rintro _ rfl
    rw [if_neg (by omega), if_pos q3, zM_u792]
    exact ⟨zU_eq, zM_u792, zC_u zC_r (by decide)⟩
  · rw [if_pos (by omega)]; exact c_M_no h (by decide)
