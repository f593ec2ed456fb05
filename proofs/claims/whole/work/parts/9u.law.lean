/-! THE LAW, 3: its loop -/
theorem gscr_in (B : gB) (i : Int) : inI (gscr B i) := inI_t _
set_option maxRecDepth 20000 in
set_option maxHeartbeats 8000000 in
theorem sg_L_law_18 {e : gE} {b : Nat} {m : Int} {Z : Int → gH → Prop} {kc ks : Nat} {G : gH} {x3 : Int} (h : (inI (gn (gX e b m) 19 : Int)) ∧ ((inI ((gn (gX e b m) 19 : Int) - 6)) ∧ ((((gn (gX e b m) 19 : Int) - 6) < x3 → Z 1 G) ∧ (x3 ≤ ((gn (gX e b m) 19 : Int) - 6) → (0 ≤ x3) ∧ ((x3 < (gn (gX e b m) 19 : Int)) ∧ (((gand (gscr (gX e b m) x3) 63) = 0 → (inI (x3 + 1)) ∧ ((0 ≤ (x3 + 1)) ∧ (((x3 + 1) < (gn (gX e b m) 19 : Int)) ∧ ((inI (x3 + 2)) ∧ ((0 ≤ (x3 + 2)) ∧ (((x3 + 2) < (gn (gX e b m) 19 : Int)) ∧ ((inI (x3 + 3)) ∧ ((0 ≤ (x3 + 3)) ∧ (((x3 + 3) < (gn (gX e b m) 19 : Int)) ∧ (GX e b m m_C_door [(2, ((b : Int) + 1)), (0, (gscr (gX e b m) (x3 + 1))), (0, (gscr (gX e b m) (x3 + 2))), (0, (gscr (gX e b m) (x3 + 3)))] G 0 0 (fun v18 G19 => GX e b m m_M_door [(2, (m + 0)), (0, (gscr (gX e b m) (x3 + 1))), (0, (gscr (gX e b m) (x3 + 2))), (0, (gscr (gX e b m) (x3 + 3)))] G19 0 0 (fun v21 G22 => (v18 = v21 → (inI (x3 + 6)) ∧ EX e b m m_L_law Z kc ks 18 [(2, ((gn (gX e b m) 18 : Int) + 1)), (2, ((b : Int) + 1)), (2, (m + 0)), (0, (x3 + 6))] [] G22) ∧ (v18 ≠ v21 → Z 0 G22))))))))))))) ∧ ((gand (gscr (gX e b m) x3) 63) = 1 → (inI (x3 + 1)) ∧ ((0 ≤ (x3 + 1)) ∧ (((x3 + 1) < (gn (gX e b m) 19 : Int)) ∧ (∃ kc33 ks34 mc35 ms36 : Nat, kc = kc33 + mc35 ∧ ks = ks34 + ms36 ∧ GX e b m m_C_team [(2, ((b : Int) + 1)), (0, (gscr (gX e b m) (x3 + 1)))] G mc35 ms36 (fun v31 G32 => GX e b m m_M_team [(2, (m + 0)), (0, (gscr (gX e b m) (x3 + 1)))] G32 0 0 (fun v38 G39 => (v31 = v38 → (inI (x3 + 6)) ∧ EX e b m m_L_law Z kc33 ks34 18 [(2, ((gn (gX e b m) 18 : Int) + 1)), (2, ((b : Int) + 1)), (2, (m + 0)), (0, (x3 + 6))] [] G39) ∧ (v31 ≠ v38 → Z 0 G39))))))) ∧ ((gand (gscr (gX e b m) x3) 63) = 2 → (inI (x3 + 1)) ∧ ((0 ≤ (x3 + 1)) ∧ (((x3 + 1) < (gn (gX e b m) 19 : Int)) ∧ ((inI (x3 + 2)) ∧ ((0 ≤ (x3 + 2)) ∧ (((x3 + 2) < (gn (gX e b m) 19 : Int)) ∧ ((inI (x3 + 3)) ∧ ((0 ≤ (x3 + 3)) ∧ (((x3 + 3) < (gn (gX e b m) 19 : Int)) ∧ ((inI (x3 + 4)) ∧ ((0 ≤ (x3 + 4)) ∧ (((x3 + 4) < (gn (gX e b m) 19 : Int)) ∧ ((inI (x3 + 5)) ∧ ((0 ≤ (x3 + 5)) ∧ (((x3 + 5) < (gn (gX e b m) 19 : Int)) ∧ (∃ kc62 ks63 mc64 ms65 : Nat, kc = kc62 + mc64 ∧ ks = ks63 + ms65 ∧ GX e b m m_C_thing [(2, ((b : Int) + 1)), (0, (gscr (gX e b m) (x3 + 1))), (0, (gscr (gX e b m) (x3 + 2))), (0, (gscr (gX e b m) (x3 + 3))), (0, (gscr (gX e b m) (x3 + 4))), (0, (gscr (gX e b m) (x3 + 5)))] G mc64 ms65 (fun v60 G61 => GX e b m m_M_thing [(2, (m + 0)), (0, (gscr (gX e b m) (x3 + 1))), (0, (gscr (gX e b m) (x3 + 2))), (0, (gscr (gX e b m) (x3 + 3))), (0, (gscr (gX e b m) (x3 + 4))), (0, (gscr (gX e b m) (x3 + 5)))] G61 0 0 (fun v67 G68 => (v60 = v67 → (inI (x3 + 6)) ∧ EX e b m m_L_law Z kc62 ks63 18 [(2, ((gn (gX e b m) 18 : Int) + 1)), (2, ((b : Int) + 1)), (2, (m + 0)), (0, (x3 + 6))] [] G68) ∧ (v60 ≠ v67 → Z 0 G68))))))))))))))))))) ∧ ((gand (gscr (gX e b m) x3) 63) = 3 → (inI (x3 + 1)) ∧ ((0 ≤ (x3 + 1)) ∧ (((x3 + 1) < (gn (gX e b m) 19 : Int)) ∧ (∃ kc79 ks80 mc81 ms82 : Nat, kc = kc79 + mc81 ∧ ks = ks80 + ms82 ∧ GX e b m m_C_label [(2, ((b : Int) + 1)), (0, (gscr (gX e b m) (x3 + 1)))] G mc81 ms82 (fun v77 G78 => GX e b m m_M_label [(2, (m + 0)), (0, (gscr (gX e b m) (x3 + 1)))] G78 0 0 (fun v84 G85 => (v77 = v84 → (inI (x3 + 6)) ∧ EX e b m m_L_law Z kc79 ks80 18 [(2, ((gn (gX e b m) 18 : Int) + 1)), (2, ((b : Int) + 1)), (2, (m + 0)), (0, (x3 + 6))] [] G85) ∧ (v77 ≠ v84 → Z 0 G85))))))) ∧ ((gand (gscr (gX e b m) x3) 63) = 4 → GX e b m m_C_fault [(2, ((b : Int) + 1))] G 0 0 (fun v91 G92 => GX e b m m_M_fault [(2, (m + 0))] G92 0 0 (fun v94 G95 => (v91 = v94 → (inI (x3 + 6)) ∧ EX e b m m_L_law Z kc ks 18 [(2, ((gn (gX e b m) 18 : Int) + 1)), (2, ((b : Int) + 1)), (2, (m + 0)), (0, (x3 + 6))] [] G95) ∧ (v91 ≠ v94 → Z 0 G95)))) ∧ ((gand (gscr (gX e b m) x3) 63) = 5 → (inI (x3 + 1)) ∧ ((0 ≤ (x3 + 1)) ∧ (((x3 + 1) < (gn (gX e b m) 19 : Int)) ∧ ((inI (x3 + 2)) ∧ ((0 ≤ (x3 + 2)) ∧ (((x3 + 2) < (gn (gX e b m) 19 : Int)) ∧ (∃ kc109 ks110 mc111 ms112 : Nat, kc = kc109 + mc111 ∧ ks = ks110 + ms112 ∧ GX e b m m_C_danger [(2, ((b : Int) + 1)), (0, (gscr (gX e b m) (x3 + 1))), (0, (gscr (gX e b m) (x3 + 2)))] G mc111 ms112 (fun v107 G108 => GX e b m m_M_danger [(2, (m + 0)), (0, (gscr (gX e b m) (x3 + 1))), (0, (gscr (gX e b m) (x3 + 2)))] G108 0 0 (fun v114 G115 => (v107 = v114 → (inI (x3 + 6)) ∧ EX e b m m_L_law Z kc109 ks110 18 [(2, ((gn (gX e b m) 18 : Int) + 1)), (2, ((b : Int) + 1)), (2, (m + 0)), (0, (x3 + 6))] [] G115) ∧ (v107 ≠ v114 → Z 0 G115)))))))))) ∧ ((gand (gscr (gX e b m) x3) 63) = 6 → (inI (x3 + 1)) ∧ ((0 ≤ (x3 + 1)) ∧ (((x3 + 1) < (gn (gX e b m) 19 : Int)) ∧ ((inI (x3 + 2)) ∧ ((0 ≤ (x3 + 2)) ∧ (((x3 + 2) < (gn (gX e b m) 19 : Int)) ∧ ((inI (x3 + 3)) ∧ ((0 ≤ (x3 + 3)) ∧ (((x3 + 3) < (gn (gX e b m) 19 : Int)) ∧ (GX e b m m_C_row [(2, ((b : Int) + 1)), (0, (gscr (gX e b m) (x3 + 1))), (0, (gscr (gX e b m) (x3 + 2))), (0, (gscr (gX e b m) (x3 + 3)))] G 0 0 (fun v130 G131 => GX e b m m_M_row [(2, (m + 0)), (0, (gscr (gX e b m) (x3 + 1))), (0, (gscr (gX e b m) (x3 + 2))), (0, (gscr (gX e b m) (x3 + 3)))] G131 0 0 (fun v133 G134 => (v130 = v133 → (inI (x3 + 6)) ∧ EX e b m m_L_law Z kc ks 18 [(2, ((gn (gX e b m) 18 : Int) + 1)), (2, ((b : Int) + 1)), (2, (m + 0)), (0, (x3 + 6))] [] G134) ∧ (v130 ≠ v133 → Z 0 G134))))))))))))) ∧ ((gand (gscr (gX e b m) x3) 63) = 7 → (inI (x3 + 1)) ∧ ((0 ≤ (x3 + 1)) ∧ (((x3 + 1) < (gn (gX e b m) 19 : Int)) ∧ ((inI (x3 + 2)) ∧ ((0 ≤ (x3 + 2)) ∧ (((x3 + 2) < (gn (gX e b m) 19 : Int)) ∧ ((inI (x3 + 3)) ∧ ((0 ≤ (x3 + 3)) ∧ (((x3 + 3) < (gn (gX e b m) 19 : Int)) ∧ ((inI (x3 + 4)) ∧ ((0 ≤ (x3 + 4)) ∧ (((x3 + 4) < (gn (gX e b m) 19 : Int)) ∧ (GX e b m m_C_set [(2, ((b : Int) + 1)), (0, (gscr (gX e b m) (x3 + 1))), (0, (gscr (gX e b m) (x3 + 2))), (1, (glor (glshl (gscr (gX e b m) (x3 + 3)) 32) (gland (gscr (gX e b m) (x3 + 4)) 4294967295)))] G 0 0 (fun v152 G153 => GX e b m m_M_set [(2, (m + 0)), (0, (gscr (gX e b m) (x3 + 1))), (0, (gscr (gX e b m) (x3 + 2))), (1, (glor (glshl (gscr (gX e b m) (x3 + 3)) 32) (gland (gscr (gX e b m) (x3 + 4)) 4294967295)))] G153 0 0 (fun v155 G156 => (v152 = v155 → (inI (x3 + 6)) ∧ EX e b m m_L_law Z kc ks 18 [(2, ((gn (gX e b m) 18 : Int) + 1)), (2, ((b : Int) + 1)), (2, (m + 0)), (0, (x3 + 6))] [] G156) ∧ (v152 ≠ v155 → Z 0 G156)))))))))))))))) ∧ ((gand (gscr (gX e b m) x3) 63) = 8 → (inI (x3 + 1)) ∧ ((0 ≤ (x3 + 1)) ∧ (((x3 + 1) < (gn (gX e b m) 19 : Int)) ∧ ((inI (x3 + 2)) ∧ ((0 ≤ (x3 + 2)) ∧ (((x3 + 2) < (gn (gX e b m) 19 : Int)) ∧ ((inI (x3 + 3)) ∧ ((0 ≤ (x3 + 3)) ∧ (((x3 + 3) < (gn (gX e b m) 19 : Int)) ∧ ((inI (x3 + 4)) ∧ ((0 ≤ (x3 + 4)) ∧ (((x3 + 4) < (gn (gX e b m) 19 : Int)) ∧ ((inI (x3 + 5)) ∧ ((0 ≤ (x3 + 5)) ∧ (((x3 + 5) < (gn (gX e b m) 19 : Int)) ∧ (GX e b m m_C_copy [(2, ((b : Int) + 1)), (0, (gscr (gX e b m) (x3 + 1))), (0, (gscr (gX e b m) (x3 + 2))), (0, (gscr (gX e b m) (x3 + 3))), (0, (gscr (gX e b m) (x3 + 4))), (0, (gscr (gX e b m) (x3 + 5)))] G 0 0 (fun v177 G178 => GX e b m m_M_copy [(2, (m + 0)), (0, (gscr (gX e b m) (x3 + 1))), (0, (gscr (gX e b m) (x3 + 2))), (0, (gscr (gX e b m) (x3 + 3))), (0, (gscr (gX e b m) (x3 + 4))), (0, (gscr (gX e b m) (x3 + 5)))] G178 0 0 (fun v180 G181 => (v177 = v180 → (inI (x3 + 6)) ∧ EX e b m m_L_law Z kc ks 18 [(2, ((gn (gX e b m) 18 : Int) + 1)), (2, ((b : Int) + 1)), (2, (m + 0)), (0, (x3 + 6))] [] G181) ∧ (v177 ≠ v180 → Z 0 G181))))))))))))))))))) ∧ ((gand (gscr (gX e b m) x3) 63) = 9 → (inI (x3 + 1)) ∧ ((0 ≤ (x3 + 1)) ∧ (((x3 + 1) < (gn (gX e b m) 19 : Int)) ∧ ((inI (x3 + 2)) ∧ ((0 ≤ (x3 + 2)) ∧ (((x3 + 2) < (gn (gX e b m) 19 : Int)) ∧ (GX e b m m_C_element [(2, ((b : Int) + 1)), (0, (gscr (gX e b m) (x3 + 1))), (0, (gscr (gX e b m) (x3 + 2)))] G 0 0 (fun v193 G194 => GX e b m m_M_element [(2, (m + 0)), (0, (gscr (gX e b m) (x3 + 1))), (0, (gscr (gX e b m) (x3 + 2)))] G194 0 0 (fun v196 G197 => (v193 = v196 → (inI (x3 + 6)) ∧ EX e b m m_L_law Z kc ks 18 [(2, ((gn (gX e b m) 18 : Int) + 1)), (2, ((b : Int) + 1)), (2, (m + 0)), (0, (x3 + 6))] [] G197) ∧ (v193 ≠ v196 → Z 0 G197)))))))))) ∧ ((gand (gscr (gX e b m) x3) 63) = 10 → (inI (x3 + 1)) ∧ ((0 ≤ (x3 + 1)) ∧ (((x3 + 1) < (gn (gX e b m) 19 : Int)) ∧ ((inI (x3 + 2)) ∧ ((0 ≤ (x3 + 2)) ∧ (((x3 + 2) < (gn (gX e b m) 19 : Int)) ∧ (GX e b m m_C_show [(2, ((b : Int) + 1)), (0, (gscr (gX e b m) (x3 + 1))), (0, (gscr (gX e b m) (x3 + 2)))] G 0 0 (fun v209 G210 => GX e b m m_M_show [(2, (m + 0)), (0, (gscr (gX e b m) (x3 + 1))), (0, (gscr (gX e b m) (x3 + 2)))] G210 0 0 (fun v212 G213 => (v209 = v212 → (inI (x3 + 6)) ∧ EX e b m m_L_law Z kc ks 18 [(2, ((gn (gX e b m) 18 : Int) + 1)), (2, ((b : Int) + 1)), (2, (m + 0)), (0, (x3 + 6))] [] G213) ∧ (v209 ≠ v212 → Z 0 G213)))))))))) ∧ ((gand (gscr (gX e b m) x3) 63) = 11 → (inI (x3 + 1)) ∧ ((0 ≤ (x3 + 1)) ∧ (((x3 + 1) < (gn (gX e b m) 19 : Int)) ∧ (GX e b m m_C_holds [(2, ((b : Int) + 1)), (0, (gscr (gX e b m) (x3 + 1)))] G 0 0 (fun v222 G223 => GX e b m m_M_holds [(2, (m + 0)), (0, (gscr (gX e b m) (x3 + 1)))] G223 0 0 (fun v225 G226 => (v222 = v225 → (inI (x3 + 6)) ∧ EX e b m m_L_law Z kc ks 18 [(2, ((gn (gX e b m) 18 : Int) + 1)), (2, ((b : Int) + 1)), (2, (m + 0)), (0, (x3 + 6))] [] G226) ∧ (v222 ≠ v225 → Z 0 G226))))))) ∧ ((gand (gscr (gX e b m) x3) 63) = 12 → (inI (x3 + 1)) ∧ ((0 ≤ (x3 + 1)) ∧ (((x3 + 1) < (gn (gX e b m) 19 : Int)) ∧ (GX e b m m_C_worthIn [(2, ((b : Int) + 1)), (0, (gscr (gX e b m) (x3 + 1)))] G 0 0 (fun v235 G236 => GX e b m m_M_worthIn [(2, (m + 0)), (0, (gscr (gX e b m) (x3 + 1)))] G236 0 0 (fun v238 G239 => (v235 = v238 → (inI (x3 + 6)) ∧ EX e b m m_L_law Z kc ks 18 [(2, ((gn (gX e b m) 18 : Int) + 1)), (2, ((b : Int) + 1)), (2, (m + 0)), (0, (x3 + 6))] [] G239) ∧ (v235 ≠ v238 → Z 0 G239))))))) ∧ ((gand (gscr (gX e b m) x3) 63) = 13 → (inI (x3 + 1)) ∧ ((0 ≤ (x3 + 1)) ∧ (((x3 + 1) < (gn (gX e b m) 19 : Int)) ∧ (∃ kc250 ks251 mc252 ms253 : Nat, kc = kc250 + mc252 ∧ ks = ks251 + ms253 ∧ GX e b m m_C_alarm [(2, ((b : Int) + 1)), (0, (gscr (gX e b m) (x3 + 1)))] G mc252 ms253 (fun v248 G249 => GX e b m m_M_alarm [(2, (m + 0)), (0, (gscr (gX e b m) (x3 + 1)))] G249 0 0 (fun v255 G256 => (v248 = v255 → (inI (x3 + 6)) ∧ EX e b m m_L_law Z kc250 ks251 18 [(2, ((gn (gX e b m) 18 : Int) + 1)), (2, ((b : Int) + 1)), (2, (m + 0)), (0, (x3 + 6))] [] G256) ∧ (v248 ≠ v255 → Z 0 G256))))))) ∧ ((gand (gscr (gX e b m) x3) 63) = 14 → (inI (x3 + 1)) ∧ ((0 ≤ (x3 + 1)) ∧ (((x3 + 1) < (gn (gX e b m) 19 : Int)) ∧ (((gscr (gX e b m) (x3 + 1)) = 0 → ∃ kc700 ks701 mc702 ms703 : Nat, kc = kc700 + mc702 ∧ ks = ks701 + ms703 ∧ GX e b m m_C_plan [(2, ((b : Int) + 1)), (0, 0)] G mc702 ms703 (fun v698 G699 => GX e b m m_M_plan [(2, (m + 0)), (0, 0)] G699 0 0 (fun v707 G708 => (v698 = v707 → (inI (x3 + 6)) ∧ EX e b m m_L_law Z kc700 ks701 18 [(2, ((gn (gX e b m) 18 : Int) + 1)), (2, ((b : Int) + 1)), (2, (m + 0)), (0, (x3 + 6))] [] G708) ∧ (v698 ≠ v707 → Z 0 G708)))) ∧ ((gscr (gX e b m) (x3 + 1)) ≠ 0 → ∃ kc715 ks716 mc717 ms718 : Nat, kc = kc715 + mc717 ∧ ks = ks716 + ms718 ∧ GX e b m m_C_plan [(2, ((b : Int) + 1)), (0, 1)] G mc717 ms718 (fun v713 G714 => GX e b m m_M_plan [(2, (m + 0)), (0, 1)] G714 0 0 (fun v722 G723 => (v713 = v722 → (inI (x3 + 6)) ∧ EX e b m m_L_law Z kc715 ks716 18 [(2, ((gn (gX e b m) 18 : Int) + 1)), (2, ((b : Int) + 1)), (2, (m + 0)), (0, (x3 + 6))] [] G723) ∧ (v713 ≠ v722 → Z 0 G723)))))))) ∧ ((gand (gscr (gX e b m) x3) 63) = 15 → ∃ kc270 ks271 mc272 ms273 : Nat, kc = kc270 + mc272 ∧ ks = ks271 + ms273 ∧ GX e b m m_C_gap [(2, ((b : Int) + 1))] G mc272 ms273 (fun v268 G269 => GX e b m m_M_gap [(2, (m + 0))] G269 0 0 (fun v275 G276 => (v268 = v275 → (inI (x3 + 6)) ∧ EX e b m m_L_law Z kc270 ks271 18 [(2, ((gn (gX e b m) 18 : Int) + 1)), (2, ((b : Int) + 1)), (2, (m + 0)), (0, (x3 + 6))] [] G276) ∧ (v268 ≠ v275 → Z 0 G276)))) ∧ ((gand (gscr (gX e b m) x3) 63) = 16 → (inI (x3 + 1)) ∧ ((0 ≤ (x3 + 1)) ∧ (((x3 + 1) < (gn (gX e b m) 19 : Int)) ∧ (∃ kc287 ks288 mc289 ms290 : Nat, kc = kc287 + mc289 ∧ ks = ks288 + ms290 ∧ GX e b m m_C_block [(2, ((b : Int) + 1)), (0, (gscr (gX e b m) (x3 + 1)))] G mc289 ms290 (fun v285 G286 => GX e b m m_M_block [(2, (m + 0)), (0, (gscr (gX e b m) (x3 + 1)))] G286 0 0 (fun v292 G293 => (v285 = v292 → (inI (x3 + 6)) ∧ EX e b m m_L_law Z kc287 ks288 18 [(2, ((gn (gX e b m) 18 : Int) + 1)), (2, ((b : Int) + 1)), (2, (m + 0)), (0, (x3 + 6))] [] G293) ∧ (v285 ≠ v292 → Z 0 G293))))))) ∧ ((gand (gscr (gX e b m) x3) 63) = 17 → (inI (x3 + 1)) ∧ ((0 ≤ (x3 + 1)) ∧ (((x3 + 1) < (gn (gX e b m) 19 : Int)) ∧ ((inI (x3 + 2)) ∧ ((0 ≤ (x3 + 2)) ∧ (((x3 + 2) < (gn (gX e b m) 19 : Int)) ∧ (∃ kc307 ks308 mc309 ms310 : Nat, kc = kc307 + mc309 ∧ ks = ks308 + ms310 ∧ GX e b m m_C_late [(2, ((b : Int) + 1)), (0, (gscr (gX e b m) (x3 + 1))), (0, (gscr (gX e b m) (x3 + 2)))] G mc309 ms310 (fun v305 G306 => GX e b m m_M_late [(2, (m + 0)), (0, (gscr (gX e b m) (x3 + 1))), (0, (gscr (gX e b m) (x3 + 2)))] G306 0 0 (fun v312 G313 => (v305 = v312 → (inI (x3 + 6)) ∧ EX e b m m_L_law Z kc307 ks308 18 [(2, ((gn (gX e b m) 18 : Int) + 1)), (2, ((b : Int) + 1)), (2, (m + 0)), (0, (x3 + 6))] [] G313) ∧ (v305 ≠ v312 → Z 0 G313)))))))))) ∧ ((gand (gscr (gX e b m) x3) 63) = 18 → (inI (x3 + 1)) ∧ ((0 ≤ (x3 + 1)) ∧ (((x3 + 1) < (gn (gX e b m) 19 : Int)) ∧ (∃ kc324 ks325 mc326 ms327 : Nat, kc = kc324 + mc326 ∧ ks = ks325 + ms327 ∧ GX e b m m_C_minutes [(2, ((b : Int) + 1)), (0, (gscr (gX e b m) (x3 + 1)))] G mc326 ms327 (fun v322 G323 => GX e b m m_M_minutes [(2, (m + 0)), (0, (gscr (gX e b m) (x3 + 1)))] G323 0 0 (fun v329 G330 => (v322 = v329 → (inI (x3 + 6)) ∧ EX e b m m_L_law Z kc324 ks325 18 [(2, ((gn (gX e b m) 18 : Int) + 1)), (2, ((b : Int) + 1)), (2, (m + 0)), (0, (x3 + 6))] [] G330) ∧ (v322 ≠ v329 → Z 0 G330))))))) ∧ ((gand (gscr (gX e b m) x3) 63) = 19 → (inI (x3 + 1)) ∧ ((0 ≤ (x3 + 1)) ∧ (((x3 + 1) < (gn (gX e b m) 19 : Int)) ∧ (GX e b m m_C_far [(2, ((b : Int) + 1)), (0, (gscr (gX e b m) (x3 + 1)))] G 0 0 (fun v339 G340 => GX e b m m_M_far [(2, (m + 0)), (0, (gscr (gX e b m) (x3 + 1)))] G340 0 0 (fun v342 G343 => (v339 = v342 → (inI (x3 + 6)) ∧ EX e b m m_L_law Z kc ks 18 [(2, ((gn (gX e b m) 18 : Int) + 1)), (2, ((b : Int) + 1)), (2, (m + 0)), (0, (x3 + 6))] [] G343) ∧ (v339 ≠ v342 → Z 0 G343))))))) ∧ ((gand (gscr (gX e b m) x3) 63) = 20 → (inI (x3 + 1)) ∧ ((0 ≤ (x3 + 1)) ∧ (((x3 + 1) < (gn (gX e b m) 19 : Int)) ∧ (GX e b m m_C_given [(2, ((b : Int) + 1)), (0, (gscr (gX e b m) (x3 + 1)))] G 0 0 (fun v352 G353 => GX e b m m_M_given [(2, (m + 0)), (0, (gscr (gX e b m) (x3 + 1)))] G353 0 0 (fun v355 G356 => (v352 = v355 → (inI (x3 + 6)) ∧ EX e b m m_L_law Z kc ks 18 [(2, ((gn (gX e b m) 18 : Int) + 1)), (2, ((b : Int) + 1)), (2, (m + 0)), (0, (x3 + 6))] [] G356) ∧ (v352 ≠ v355 → Z 0 G356))))))) ∧ ((gand (gscr (gX e b m) x3) 63) = 21 → (inI (x3 + 1)) ∧ ((0 ≤ (x3 + 1)) ∧ (((x3 + 1) < (gn (gX e b m) 19 : Int)) ∧ (GX e b m m_C_begins [(2, ((b : Int) + 1)), (0, (gscr (gX e b m) (x3 + 1)))] G 0 0 (fun v365 G366 => GX e b m m_M_begins [(2, (m + 0)), (0, (gscr (gX e b m) (x3 + 1)))] G366 0 0 (fun v368 G369 => (v365 = v368 → (inI (x3 + 6)) ∧ EX e b m m_L_law Z kc ks 18 [(2, ((gn (gX e b m) 18 : Int) + 1)), (2, ((b : Int) + 1)), (2, (m + 0)), (0, (x3 + 6))] [] G369) ∧ (v365 ≠ v368 → Z 0 G369))))))) ∧ ((gand (gscr (gX e b m) x3) 63) = 22 → (inI (x3 + 1)) ∧ ((0 ≤ (x3 + 1)) ∧ (((x3 + 1) < (gn (gX e b m) 19 : Int)) ∧ ((inI (x3 + 2)) ∧ ((0 ≤ (x3 + 2)) ∧ (((x3 + 2) < (gn (gX e b m) 19 : Int)) ∧ ((inI (x3 + 3)) ∧ ((0 ≤ (x3 + 3)) ∧ (((x3 + 3) < (gn (gX e b m) 19 : Int)) ∧ (∃ kc386 ks387 mc388 ms389 : Nat, kc = kc386 + mc388 ∧ ks = ks387 + ms389 ∧ GX e b m m_C_place [(2, ((b : Int) + 1)), (0, (gscr (gX e b m) (x3 + 1))), (0, (gscr (gX e b m) (x3 + 2))), (0, (gscr (gX e b m) (x3 + 3)))] G mc388 ms389 (fun v384 G385 => GX e b m m_M_place [(2, (m + 0)), (0, (gscr (gX e b m) (x3 + 1))), (0, (gscr (gX e b m) (x3 + 2))), (0, (gscr (gX e b m) (x3 + 3)))] G385 0 0 (fun v391 G392 => (v384 = v391 → (inI (x3 + 6)) ∧ EX e b m m_L_law Z kc386 ks387 18 [(2, ((gn (gX e b m) 18 : Int) + 1)), (2, ((b : Int) + 1)), (2, (m + 0)), (0, (x3 + 6))] [] G392) ∧ (v384 ≠ v391 → Z 0 G392))))))))))))) ∧ ((gand (gscr (gX e b m) x3) 63) = 23 → (inI (x3 + 1)) ∧ ((0 ≤ (x3 + 1)) ∧ (((x3 + 1) < (gn (gX e b m) 19 : Int)) ∧ ((inI (x3 + 2)) ∧ ((0 ≤ (x3 + 2)) ∧ (((x3 + 2) < (gn (gX e b m) 19 : Int)) ∧ (GX e b m m_C_air [(2, ((b : Int) + 1)), (0, (gscr (gX e b m) (x3 + 1))), (0, (gscr (gX e b m) (x3 + 2)))] G 0 0 (fun v404 G405 => GX e b m m_M_air [(2, (m + 0)), (0, (gscr (gX e b m) (x3 + 1))), (0, (gscr (gX e b m) (x3 + 2)))] G405 0 0 (fun v407 G408 => (v404 = v407 → (inI (x3 + 6)) ∧ EX e b m m_L_law Z kc ks 18 [(2, ((gn (gX e b m) 18 : Int) + 1)), (2, ((b : Int) + 1)), (2, (m + 0)), (0, (x3 + 6))] [] G408) ∧ (v404 ≠ v407 → Z 0 G408)))))))))) ∧ ((gand (gscr (gX e b m) x3) 63) = 24 → (inI (x3 + 1)) ∧ ((0 ≤ (x3 + 1)) ∧ (((x3 + 1) < (gn (gX e b m) 19 : Int)) ∧ ((inI (x3 + 2)) ∧ ((0 ≤ (x3 + 2)) ∧ (((x3 + 2) < (gn (gX e b m) 19 : Int)) ∧ (GX e b m m_C_airIn [(2, ((b : Int) + 1)), (0, (gscr (gX e b m) (x3 + 1))), (0, (gscr (gX e b m) (x3 + 2)))] G 0 0 (fun v420 G421 => GX e b m m_M_airIn [(2, (m + 0)), (0, (gscr (gX e b m) (x3 + 1))), (0, (gscr (gX e b m) (x3 + 2)))] G421 0 0 (fun v423 G424 => (v420 = v423 → (inI (x3 + 6)) ∧ EX e b m m_L_law Z kc ks 18 [(2, ((gn (gX e b m) 18 : Int) + 1)), (2, ((b : Int) + 1)), (2, (m + 0)), (0, (x3 + 6))] [] G424) ∧ (v420 ≠ v423 → Z 0 G424)))))))))) ∧ ((gand (gscr (gX e b m) x3) 63) = 25 → (inI (x3 + 1)) ∧ ((0 ≤ (x3 + 1)) ∧ (((x3 + 1) < (gn (gX e b m) 19 : Int)) ∧ ((inI (x3 + 2)) ∧ ((0 ≤ (x3 + 2)) ∧ (((x3 + 2) < (gn (gX e b m) 19 : Int)) ∧ ((inI (x3 + 3)) ∧ ((0 ≤ (x3 + 3)) ∧ (((x3 + 3) < (gn (gX e b m) 19 : Int)) ∧ (GX e b m m_C_band [(2, ((b : Int) + 1)), (0, (gscr (gX e b m) (x3 + 1))), (0, (gscr (gX e b m) (x3 + 2))), (0, (gscr (gX e b m) (x3 + 3)))] G 0 0 (fun v439 G440 => GX e b m m_M_band [(2, (m + 0)), (0, (gscr (gX e b m) (x3 + 1))), (0, (gscr (gX e b m) (x3 + 2))), (0, (gscr (gX e b m) (x3 + 3)))] G440 0 0 (fun v442 G443 => (v439 = v442 → (inI (x3 + 6)) ∧ EX e b m m_L_law Z kc ks 18 [(2, ((gn (gX e b m) 18 : Int) + 1)), (2, ((b : Int) + 1)), (2, (m + 0)), (0, (x3 + 6))] [] G443) ∧ (v439 ≠ v442 → Z 0 G443))))))))))))) ∧ ((gand (gscr (gX e b m) x3) 63) = 26 → (inI (x3 + 1)) ∧ ((0 ≤ (x3 + 1)) ∧ (((x3 + 1) < (gn (gX e b m) 19 : Int)) ∧ ((inI (x3 + 2)) ∧ ((0 ≤ (x3 + 2)) ∧ (((x3 + 2) < (gn (gX e b m) 19 : Int)) ∧ (GX e b m m_C_keep [(2, ((b : Int) + 1)), (0, (gscr (gX e b m) (x3 + 1))), (0, (gscr (gX e b m) (x3 + 2)))] G 0 0 (fun v455 G456 => GX e b m m_M_keep [(2, (m + 0)), (0, (gscr (gX e b m) (x3 + 1))), (0, (gscr (gX e b m) (x3 + 2)))] G456 0 0 (fun v458 G459 => (v455 = v458 → (inI (x3 + 6)) ∧ EX e b m m_L_law Z kc ks 18 [(2, ((gn (gX e b m) 18 : Int) + 1)), (2, ((b : Int) + 1)), (2, (m + 0)), (0, (x3 + 6))] [] G459) ∧ (v455 ≠ v458 → Z 0 G459)))))))))) ∧ ((gand (gscr (gX e b m) x3) 63) = 27 → (inI (x3 + 1)) ∧ ((0 ≤ (x3 + 1)) ∧ (((x3 + 1) < (gn (gX e b m) 19 : Int)) ∧ (GX e b m m_C_fuel [(2, ((b : Int) + 1)), (0, (gscr (gX e b m) (x3 + 1)))] G 0 0 (fun v468 G469 => GX e b m m_M_fuel [(2, (m + 0)), (0, (gscr (gX e b m) (x3 + 1)))] G469 0 0 (fun v471 G472 => (v468 = v471 → (inI (x3 + 6)) ∧ EX e b m m_L_law Z kc ks 18 [(2, ((gn (gX e b m) 18 : Int) + 1)), (2, ((b : Int) + 1)), (2, (m + 0)), (0, (x3 + 6))] [] G472) ∧ (v468 ≠ v471 → Z 0 G472))))))) ∧ ((gand (gscr (gX e b m) x3) 63) = 28 → (inI (x3 + 1)) ∧ ((0 ≤ (x3 + 1)) ∧ (((x3 + 1) < (gn (gX e b m) 19 : Int)) ∧ (((gscr (gX e b m) (x3 + 1)) = 0 → ∃ kc730 ks731 mc732 ms733 : Nat, kc = kc730 + mc732 ∧ ks = ks731 + ms733 ∧ GX e b m m_C_spread [(2, ((b : Int) + 1)), (0, 0)] G mc732 ms733 (fun v728 G729 => GX e b m m_M_spread [(2, (m + 0)), (0, 0)] G729 0 0 (fun v737 G738 => (v728 = v737 → (inI (x3 + 6)) ∧ EX e b m m_L_law Z kc730 ks731 18 [(2, ((gn (gX e b m) 18 : Int) + 1)), (2, ((b : Int) + 1)), (2, (m + 0)), (0, (x3 + 6))] [] G738) ∧ (v728 ≠ v737 → Z 0 G738)))) ∧ ((gscr (gX e b m) (x3 + 1)) ≠ 0 → ∃ kc745 ks746 mc747 ms748 : Nat, kc = kc745 + mc747 ∧ ks = ks746 + ms748 ∧ GX e b m m_C_spread [(2, ((b : Int) + 1)), (0, 1)] G mc747 ms748 (fun v743 G744 => GX e b m m_M_spread [(2, (m + 0)), (0, 1)] G744 0 0 (fun v752 G753 => (v743 = v752 → (inI (x3 + 6)) ∧ EX e b m m_L_law Z kc745 ks746 18 [(2, ((gn (gX e b m) 18 : Int) + 1)), (2, ((b : Int) + 1)), (2, (m + 0)), (0, (x3 + 6))] [] G753) ∧ (v743 ≠ v752 → Z 0 G753)))))))) ∧ ((gand (gscr (gX e b m) x3) 63) = 29 → (inI (x3 + 1)) ∧ ((0 ≤ (x3 + 1)) ∧ (((x3 + 1) < (gn (gX e b m) 19 : Int)) ∧ ((inI (x3 + 2)) ∧ ((0 ≤ (x3 + 2)) ∧ (((x3 + 2) < (gn (gX e b m) 19 : Int)) ∧ (∃ kc492 ks493 mc494 ms495 : Nat, kc = kc492 + mc494 ∧ ks = ks493 + ms495 ∧ GX e b m m_C_move [(2, ((b : Int) + 1)), (0, (gscr (gX e b m) (x3 + 1))), (0, (gscr (gX e b m) (x3 + 2)))] G mc494 ms495 (fun v490 G491 => GX e b m m_M_move [(2, (m + 0)), (0, (gscr (gX e b m) (x3 + 1))), (0, (gscr (gX e b m) (x3 + 2)))] G491 0 0 (fun v497 G498 => (v490 = v497 → (inI (x3 + 6)) ∧ EX e b m m_L_law Z kc492 ks493 18 [(2, ((gn (gX e b m) 18 : Int) + 1)), (2, ((b : Int) + 1)), (2, (m + 0)), (0, (x3 + 6))] [] G498) ∧ (v490 ≠ v497 → Z 0 G498)))))))))) ∧ ((gand (gscr (gX e b m) x3) 63) = 30 → (inI (x3 + 1)) ∧ ((0 ≤ (x3 + 1)) ∧ (((x3 + 1) < (gn (gX e b m) 19 : Int)) ∧ (GX e b m m_C_weeks [(2, ((b : Int) + 1)), (0, (gscr (gX e b m) (x3 + 1)))] G 0 0 (fun v507 G508 => GX e b m m_M_weeks [(2, (m + 0)), (0, (gscr (gX e b m) (x3 + 1)))] G508 0 0 (fun v510 G511 => (v507 = v510 → (inI (x3 + 6)) ∧ EX e b m m_L_law Z kc ks 18 [(2, ((gn (gX e b m) 18 : Int) + 1)), (2, ((b : Int) + 1)), (2, (m + 0)), (0, (x3 + 6))] [] G511) ∧ (v507 ≠ v510 → Z 0 G511))))))) ∧ ((gand (gscr (gX e b m) x3) 63) = 31 → (inI (x3 + 1)) ∧ ((0 ≤ (x3 + 1)) ∧ (((x3 + 1) < (gn (gX e b m) 19 : Int)) ∧ (∃ kc522 ks523 mc524 ms525 : Nat, kc = kc522 + mc524 ∧ ks = ks523 + ms525 ∧ GX e b m m_C_lose [(2, ((b : Int) + 1)), (0, (gscr (gX e b m) (x3 + 1)))] G mc524 ms525 (fun v520 G521 => GX e b m m_M_lose [(2, (m + 0)), (0, (gscr (gX e b m) (x3 + 1)))] G521 0 0 (fun v527 G528 => (v520 = v527 → (inI (x3 + 6)) ∧ EX e b m m_L_law Z kc522 ks523 18 [(2, ((gn (gX e b m) 18 : Int) + 1)), (2, ((b : Int) + 1)), (2, (m + 0)), (0, (x3 + 6))] [] G528) ∧ (v520 ≠ v527 → Z 0 G528))))))) ∧ ((gand (gscr (gX e b m) x3) 63) = 32 → (inI (x3 + 1)) ∧ ((0 ≤ (x3 + 1)) ∧ (((x3 + 1) < (gn (gX e b m) 19 : Int)) ∧ (∃ kc539 ks540 mc541 ms542 : Nat, kc = kc539 + mc541 ∧ ks = ks540 + ms542 ∧ GX e b m m_C_found [(2, ((b : Int) + 1)), (0, (gscr (gX e b m) (x3 + 1)))] G mc541 ms542 (fun v537 G538 => GX e b m m_M_found [(2, (m + 0)), (0, (gscr (gX e b m) (x3 + 1)))] G538 0 0 (fun v544 G545 => (v537 = v544 → (inI (x3 + 6)) ∧ EX e b m m_L_law Z kc539 ks540 18 [(2, ((gn (gX e b m) 18 : Int) + 1)), (2, ((b : Int) + 1)), (2, (m + 0)), (0, (x3 + 6))] [] G545) ∧ (v537 ≠ v544 → Z 0 G545))))))) ∧ ((gand (gscr (gX e b m) x3) 63) = 33 → (inI (x3 + 1)) ∧ ((0 ≤ (x3 + 1)) ∧ (((x3 + 1) < (gn (gX e b m) 19 : Int)) ∧ ((inI (x3 + 2)) ∧ ((0 ≤ (x3 + 2)) ∧ (((x3 + 2) < (gn (gX e b m) 19 : Int)) ∧ ((inI (x3 + 3)) ∧ ((0 ≤ (x3 + 3)) ∧ (((x3 + 3) < (gn (gX e b m) 19 : Int)) ∧ ((inI (x3 + 4)) ∧ ((0 ≤ (x3 + 4)) ∧ (((x3 + 4) < (gn (gX e b m) 19 : Int)) ∧ (GX e b m m_C_paper [(2, ((b : Int) + 1)), (0, (gscr (gX e b m) (x3 + 1))), (0, (gscr (gX e b m) (x3 + 2))), (0, (gscr (gX e b m) (x3 + 3))), (0, (gscr (gX e b m) (x3 + 4)))] G 0 0 (fun v563 G564 => GX e b m m_M_paper [(2, (m + 0)), (0, (gscr (gX e b m) (x3 + 1))), (0, (gscr (gX e b m) (x3 + 2))), (0, (gscr (gX e b m) (x3 + 3))), (0, (gscr (gX e b m) (x3 + 4)))] G564 0 0 (fun v566 G567 => (v563 = v566 → (inI (x3 + 6)) ∧ EX e b m m_L_law Z kc ks 18 [(2, ((gn (gX e b m) 18 : Int) + 1)), (2, ((b : Int) + 1)), (2, (m + 0)), (0, (x3 + 6))] [] G567) ∧ (v563 ≠ v566 → Z 0 G567)))))))))))))))) ∧ ((gand (gscr (gX e b m) x3) 63) = 34 → (inI (x3 + 1)) ∧ ((0 ≤ (x3 + 1)) ∧ (((x3 + 1) < (gn (gX e b m) 19 : Int)) ∧ ((inI (x3 + 2)) ∧ ((0 ≤ (x3 + 2)) ∧ (((x3 + 2) < (gn (gX e b m) 19 : Int)) ∧ (GX e b m m_C_holder [(2, ((b : Int) + 1)), (0, (gscr (gX e b m) (x3 + 1))), (0, (gscr (gX e b m) (x3 + 2)))] G 0 0 (fun v579 G580 => GX e b m m_M_holder [(2, (m + 0)), (0, (gscr (gX e b m) (x3 + 1))), (0, (gscr (gX e b m) (x3 + 2)))] G580 0 0 (fun v582 G583 => (v579 = v582 → (inI (x3 + 6)) ∧ EX e b m m_L_law Z kc ks 18 [(2, ((gn (gX e b m) 18 : Int) + 1)), (2, ((b : Int) + 1)), (2, (m + 0)), (0, (x3 + 6))] [] G583) ∧ (v579 ≠ v582 → Z 0 G583)))))))))) ∧ ((gand (gscr (gX e b m) x3) 63) = 35 → (inI (x3 + 1)) ∧ ((0 ≤ (x3 + 1)) ∧ (((x3 + 1) < (gn (gX e b m) 19 : Int)) ∧ ((inI (x3 + 2)) ∧ ((0 ≤ (x3 + 2)) ∧ (((x3 + 2) < (gn (gX e b m) 19 : Int)) ∧ (∃ kc597 ks598 mc599 ms600 : Nat, kc = kc597 + mc599 ∧ ks = ks598 + ms600 ∧ GX e b m m_C_giveBack [(2, ((b : Int) + 1)), (0, (gscr (gX e b m) (x3 + 1))), (0, (gscr (gX e b m) (x3 + 2)))] G mc599 ms600 (fun v595 G596 => GX e b m m_M_giveBack [(2, (m + 0)), (0, (gscr (gX e b m) (x3 + 1))), (0, (gscr (gX e b m) (x3 + 2)))] G596 0 0 (fun v602 G603 => (v595 = v602 → (inI (x3 + 6)) ∧ EX e b m m_L_law Z kc597 ks598 18 [(2, ((gn (gX e b m) 18 : Int) + 1)), (2, ((b : Int) + 1)), (2, (m + 0)), (0, (x3 + 6))] [] G603) ∧ (v595 ≠ v602 → Z 0 G603)))))))))) ∧ ((gand (gscr (gX e b m) x3) 63) = 36 → (inI (x3 + 1)) ∧ ((0 ≤ (x3 + 1)) ∧ (((x3 + 1) < (gn (gX e b m) 19 : Int)) ∧ ((inI (x3 + 2)) ∧ ((0 ≤ (x3 + 2)) ∧ (((x3 + 2) < (gn (gX e b m) 19 : Int)) ∧ (GX e b m m_C_about [(2, ((b : Int) + 1)), (0, (gscr (gX e b m) (x3 + 1))), (0, (gscr (gX e b m) (x3 + 2)))] G 0 0 (fun v615 G616 => GX e b m m_M_about [(2, (m + 0)), (0, (gscr (gX e b m) (x3 + 1))), (0, (gscr (gX e b m) (x3 + 2)))] G616 0 0 (fun v618 G619 => (v615 = v618 → (inI (x3 + 6)) ∧ EX e b m m_L_law Z kc ks 18 [(2, ((gn (gX e b m) 18 : Int) + 1)), (2, ((b : Int) + 1)), (2, (m + 0)), (0, (x3 + 6))] [] G619) ∧ (v615 ≠ v618 → Z 0 G619)))))))))) ∧ ((gand (gscr (gX e b m) x3) 63) = 37 → (inI (x3 + 1)) ∧ ((0 ≤ (x3 + 1)) ∧ (((x3 + 1) < (gn (gX e b m) 19 : Int)) ∧ ((inI (x3 + 2)) ∧ ((0 ≤ (x3 + 2)) ∧ (((x3 + 2) < (gn (gX e b m) 19 : Int)) ∧ ((inI (x3 + 3)) ∧ ((0 ≤ (x3 + 3)) ∧ (((x3 + 3) < (gn (gX e b m) 19 : Int)) ∧ (GX e b m m_C_seal [(2, ((b : Int) + 1)), (0, (gscr (gX e b m) (x3 + 1))), (0, (gscr (gX e b m) (x3 + 2))), (0, (gscr (gX e b m) (x3 + 3)))] G 0 0 (fun v634 G635 => GX e b m m_M_seal [(2, (m + 0)), (0, (gscr (gX e b m) (x3 + 1))), (0, (gscr (gX e b m) (x3 + 2))), (0, (gscr (gX e b m) (x3 + 3)))] G635 0 0 (fun v637 G638 => (v634 = v637 → (inI (x3 + 6)) ∧ EX e b m m_L_law Z kc ks 18 [(2, ((gn (gX e b m) 18 : Int) + 1)), (2, ((b : Int) + 1)), (2, (m + 0)), (0, (x3 + 6))] [] G638) ∧ (v634 ≠ v637 → Z 0 G638))))))))))))) ∧ ((gand (gscr (gX e b m) x3) 63) = 38 → (inI (x3 + 1)) ∧ ((0 ≤ (x3 + 1)) ∧ (((x3 + 1) < (gn (gX e b m) 19 : Int)) ∧ ((inI (x3 + 2)) ∧ ((0 ≤ (x3 + 2)) ∧ (((x3 + 2) < (gn (gX e b m) 19 : Int)) ∧ ((inI (x3 + 3)) ∧ ((0 ≤ (x3 + 3)) ∧ (((x3 + 3) < (gn (gX e b m) 19 : Int)) ∧ (GX e b m m_C_quarrel [(2, ((b : Int) + 1)), (0, (gscr (gX e b m) (x3 + 1))), (0, (gscr (gX e b m) (x3 + 2))), (0, (gscr (gX e b m) (x3 + 3)))] G 0 0 (fun v653 G654 => GX e b m m_M_quarrel [(2, (m + 0)), (0, (gscr (gX e b m) (x3 + 1))), (0, (gscr (gX e b m) (x3 + 2))), (0, (gscr (gX e b m) (x3 + 3)))] G654 0 0 (fun v656 G657 => (v653 = v656 → (inI (x3 + 6)) ∧ EX e b m m_L_law Z kc ks 18 [(2, ((gn (gX e b m) 18 : Int) + 1)), (2, ((b : Int) + 1)), (2, (m + 0)), (0, (x3 + 6))] [] G657) ∧ (v653 ≠ v656 → Z 0 G657))))))))))))) ∧ ((gand (gscr (gX e b m) x3) 63) = 39 → (inI (x3 + 1)) ∧ ((0 ≤ (x3 + 1)) ∧ (((x3 + 1) < (gn (gX e b m) 19 : Int)) ∧ ((inI (x3 + 2)) ∧ ((0 ≤ (x3 + 2)) ∧ (((x3 + 2) < (gn (gX e b m) 19 : Int)) ∧ ((inI (x3 + 3)) ∧ ((0 ≤ (x3 + 3)) ∧ (((x3 + 3) < (gn (gX e b m) 19 : Int)) ∧ ((inI (x3 + 4)) ∧ ((0 ≤ (x3 + 4)) ∧ (((x3 + 4) < (gn (gX e b m) 19 : Int)) ∧ (GX e b m m_C_said [(2, ((b : Int) + 1)), (0, (gscr (gX e b m) (x3 + 1))), (0, (gscr (gX e b m) (x3 + 2))), (0, (gscr (gX e b m) (x3 + 3))), (0, (gscr (gX e b m) (x3 + 4)))] G 0 0 (fun v675 G676 => GX e b m m_M_said [(2, (m + 0)), (0, (gscr (gX e b m) (x3 + 1))), (0, (gscr (gX e b m) (x3 + 2))), (0, (gscr (gX e b m) (x3 + 3))), (0, (gscr (gX e b m) (x3 + 4)))] G676 0 0 (fun v678 G679 => (v675 = v678 → (inI (x3 + 6)) ∧ EX e b m m_L_law Z kc ks 18 [(2, ((gn (gX e b m) 18 : Int) + 1)), (2, ((b : Int) + 1)), (2, (m + 0)), (0, (x3 + 6))] [] G679) ∧ (v675 ≠ v678 → Z 0 G679)))))))))))))))) ∧ ((gand (gscr (gX e b m) x3) 63) = 40 → (inI (x3 + 1)) ∧ ((0 ≤ (x3 + 1)) ∧ (((x3 + 1) < (gn (gX e b m) 19 : Int)) ∧ (GX e b m m_C_status [(2, ((b : Int) + 1)), (0, (gscr (gX e b m) (x3 + 1)))] G 0 0 (fun v688 G689 => GX e b m m_M_status [(2, (m + 0)), (0, (gscr (gX e b m) (x3 + 1)))] G689 0 0 (fun v691 G692 => (v688 = v691 → (inI (x3 + 6)) ∧ EX e b m m_L_law Z kc ks 18 [(2, ((gn (gX e b m) 18 : Int) + 1)), (2, ((b : Int) + 1)), (2, (m + 0)), (0, (x3 + 6))] [] G692) ∧ (v688 ≠ v691 → Z 0 G692))))))) ∧ (((gand (gscr (gX e b m) x3) 63) ≠ 0 ∧ (gand (gscr (gX e b m) x3) 63) ≠ 1 ∧ (gand (gscr (gX e b m) x3) 63) ≠ 2 ∧ (gand (gscr (gX e b m) x3) 63) ≠ 3 ∧ (gand (gscr (gX e b m) x3) 63) ≠ 4 ∧ (gand (gscr (gX e b m) x3) 63) ≠ 5 ∧ (gand (gscr (gX e b m) x3) 63) ≠ 6 ∧ (gand (gscr (gX e b m) x3) 63) ≠ 7 ∧ (gand (gscr (gX e b m) x3) 63) ≠ 8 ∧ (gand (gscr (gX e b m) x3) 63) ≠ 9 ∧ (gand (gscr (gX e b m) x3) 63) ≠ 10 ∧ (gand (gscr (gX e b m) x3) 63) ≠ 11 ∧ (gand (gscr (gX e b m) x3) 63) ≠ 12 ∧ (gand (gscr (gX e b m) x3) 63) ≠ 13 ∧ (gand (gscr (gX e b m) x3) 63) ≠ 14 ∧ (gand (gscr (gX e b m) x3) 63) ≠ 15 ∧ (gand (gscr (gX e b m) x3) 63) ≠ 16 ∧ (gand (gscr (gX e b m) x3) 63) ≠ 17 ∧ (gand (gscr (gX e b m) x3) 63) ≠ 18 ∧ (gand (gscr (gX e b m) x3) 63) ≠ 19 ∧ (gand (gscr (gX e b m) x3) 63) ≠ 20 ∧ (gand (gscr (gX e b m) x3) 63) ≠ 21 ∧ (gand (gscr (gX e b m) x3) 63) ≠ 22 ∧ (gand (gscr (gX e b m) x3) 63) ≠ 23 ∧ (gand (gscr (gX e b m) x3) 63) ≠ 24 ∧ (gand (gscr (gX e b m) x3) 63) ≠ 25 ∧ (gand (gscr (gX e b m) x3) 63) ≠ 26 ∧ (gand (gscr (gX e b m) x3) 63) ≠ 27 ∧ (gand (gscr (gX e b m) x3) 63) ≠ 28 ∧ (gand (gscr (gX e b m) x3) 63) ≠ 29 ∧ (gand (gscr (gX e b m) x3) 63) ≠ 30 ∧ (gand (gscr (gX e b m) x3) 63) ≠ 31 ∧ (gand (gscr (gX e b m) x3) 63) ≠ 32 ∧ (gand (gscr (gX e b m) x3) 63) ≠ 33 ∧ (gand (gscr (gX e b m) x3) 63) ≠ 34 ∧ (gand (gscr (gX e b m) x3) 63) ≠ 35 ∧ (gand (gscr (gX e b m) x3) 63) ≠ 36 ∧ (gand (gscr (gX e b m) x3) 63) ≠ 37 ∧ (gand (gscr (gX e b m) x3) 63) ≠ 38 ∧ (gand (gscr (gX e b m) x3) 63) ≠ 39 ∧ (gand (gscr (gX e b m) x3) 63) ≠ 40) → (inI (x3 + 6)) ∧ EX e b m m_L_law Z kc ks 18 [(2, ((gn (gX e b m) 18 : Int) + 1)), (2, ((b : Int) + 1)), (2, (m + 0)), (0, (x3 + 6))] [] G))))))) : EX e b m m_L_law Z kc ks 18 [(2, ((gn (gX e b m) 18 : Int) + 1)), (2, ((b : Int) + 1)), (2, (m + 0)), (0, x3)] [] G := by
  refine e_iload_n d_L_law_18 rfl ?_
  refine e_aload_n d_L_law_19 rfl ?_
  obtain ⟨o1, h⟩ := h
  refine e_tlen .int (gn (gX e b m) 18) (gn (gX e b m) 19) _ (fun s h => h.2.2.2.2.2.2.2.2.2.2.2.2.2.2.2.2.2) o1 d_L_law_20 ?_
  refine e_bipush d_L_law_21 (by decide) (by decide) ?_
  obtain ⟨o2, h⟩ := h
  refine e_isub d_L_law_23 o2 ?_
  refine e_icmp_gt (tgt := 1595) d_L_law_24 (by decide) (fun q3 => ?_) (fun q4 => ?_)
  · have h := h.1 q3
    refine e_iconst d_L_law_1595 (by decide) ?_
    exact e_zret .boolean d_L_law_1596 rfl (by decide) h
  · have h := h.2 q4
    refine e_aload_n d_L_law_27 rfl ?_
    refine e_iload_n d_L_law_28 rfl ?_
    obtain ⟨o5, o6, h⟩ := h
    refine e_tld_i (gn (gX e b m) 18) (gn (gX e b m) 19) (gscr (gX e b m)) (fun s h => h.2.2.2.2.2.2.2.2.2.2.2.2.2.2.2.2.2) (gscr_in _ _) d_L_law_29 o5 o6 ?_
    refine e_bipush d_L_law_30 (by decide) (by decide) ?_
    refine e_iand d_L_law_32 ?_
    obtain ⟨hs0, hs1, hs2, hs3, hs4, hs5, hs6, hs7, hs8, hs9, hs10, hs11, hs12, hs13, hs14, hs15, hs16, hs17, hs18, hs19, hs20, hs21, hs22, hs23, hs24, hs25, hs26, hs27, hs28, hs29, hs30, hs31, hs32, hs33, hs34, hs35, hs36, hs37, hs38, hs39, hs40, hs41⟩ := h
    by_cases q7 : (gand (gscr (gX e b m) x3) 63) = 0
    · have h := hs0 q7
      refine e_tableIn (tgt := 212) d_L_law_33 (by omega) (by omega) (by rw [show (gand (gscr (gX e b m) x3) 63) = 0 from q7]; rfl) (by decide) ?_
      refine e_aload_n d_L_law_212 rfl ?_
      refine e_aload_n d_L_law_213 rfl ?_
      refine e_iload_n d_L_law_214 rfl ?_
      refine e_iconst d_L_law_215 (by decide) ?_
      obtain ⟨o8, h⟩ := h
      refine e_iadd d_L_law_216 o8 ?_
      obtain ⟨o9, o10, h⟩ := h
      refine e_tld_i (gn (gX e b m) 18) (gn (gX e b m) 19) (gscr (gX e b m)) (fun s h => h.2.2.2.2.2.2.2.2.2.2.2.2.2.2.2.2.2) (gscr_in _ _) d_L_law_217 o9 o10 ?_
      refine e_aload_n d_L_law_218 rfl ?_
      refine e_iload_n d_L_law_219 rfl ?_
      refine e_iconst d_L_law_220 (by decide) ?_
      obtain ⟨o11, h⟩ := h
      refine e_iadd d_L_law_221 o11 ?_
      obtain ⟨o12, o13, h⟩ := h
      refine e_tld_i (gn (gX e b m) 18) (gn (gX e b m) 19) (gscr (gX e b m)) (fun s h => h.2.2.2.2.2.2.2.2.2.2.2.2.2.2.2.2.2) (gscr_in _ _) d_L_law_222 o12 o13 ?_
      refine e_aload_n d_L_law_223 rfl ?_
      refine e_iload_n d_L_law_224 rfl ?_
      refine e_iconst d_L_law_225 (by decide) ?_
      obtain ⟨o14, h⟩ := h
      refine e_iadd d_L_law_226 o14 ?_
      obtain ⟨o15, o16, h⟩ := h
      refine e_tld_i (gn (gX e b m) 18) (gn (gX e b m) 19) (gscr (gX e b m)) (fun s h => h.2.2.2.2.2.2.2.2.2.2.2.2.2.2.2.2.2) (gscr_in _ _) d_L_law_227 o15 o16 ?_
      refine EV.inv fun hFf17 => ?_
      have f17 := (fx_ct 0 rfl hFf17).1
      refine e_callV m_C_door 11 lw_good d_L_law_228 (k_C_door _) ⟨Nat.le_of_ble_eq_true rfl, Nat.le_of_ble_eq_true rfl⟩ w_290 w_291 w_292 (q_C _) rfl f17 (args := [(0, (gscr (gX e b m) (x3 + 1))), (0, (gscr (gX e b m) (x3 + 2))), (0, (gscr (gX e b m) (x3 + 3)))]) rfl rfl (Nat.le_of_ble_eq_true rfl) (kc' := kc) (ks' := ks) (mc := 0) (ms := 0) rfl rfl h ?_
      intro v18 G19 h
      refine e_aload_n d_L_law_231 rfl ?_
      refine e_aload_n d_L_law_232 rfl ?_
      refine e_iload_n d_L_law_233 rfl ?_
      refine e_iconst d_L_law_234 (by decide) ?_
      refine e_iadd d_L_law_235 o8 ?_
      refine e_tld_i (gn (gX e b m) 18) (gn (gX e b m) 19) (gscr (gX e b m)) (fun s h => h.2.2.2.2.2.2.2.2.2.2.2.2.2.2.2.2.2) (gscr_in _ _) d_L_law_236 o9 o10 ?_
      refine e_aload_n d_L_law_237 rfl ?_
      refine e_iload_n d_L_law_238 rfl ?_
      refine e_iconst d_L_law_239 (by decide) ?_
      refine e_iadd d_L_law_240 o11 ?_
      refine e_tld_i (gn (gX e b m) 18) (gn (gX e b m) 19) (gscr (gX e b m)) (fun s h => h.2.2.2.2.2.2.2.2.2.2.2.2.2.2.2.2.2) (gscr_in _ _) d_L_law_241 o12 o13 ?_
      refine e_aload_n d_L_law_242 rfl ?_
      refine e_iload_n d_L_law_243 rfl ?_
      refine e_iconst d_L_law_244 (by decide) ?_
      refine e_iadd d_L_law_245 o14 ?_
      refine e_tld_i (gn (gX e b m) 18) (gn (gX e b m) 19) (gscr (gX e b m)) (fun s h => h.2.2.2.2.2.2.2.2.2.2.2.2.2.2.2.2.2) (gscr_in _ _) d_L_law_246 o15 o16 ?_
      refine EV.inv fun hFf20 => ?_
      have f20 := (fx_mt 0 rfl hFf20).1
      refine e_callV m_M_door 12 lw_good d_L_law_247 (k_M_door _) ⟨Nat.le_of_ble_eq_true rfl, Nat.le_of_ble_eq_true rfl⟩ w_1562 w_1563 w_1564 (q_M _) rfl f20 (args := [(0, (gscr (gX e b m) (x3 + 1))), (0, (gscr (gX e b m) (x3 + 2))), (0, (gscr (gX e b m) (x3 + 3)))]) rfl rfl (Nat.le_of_ble_eq_true rfl) (kc' := kc) (ks' := ks) (mc := 0) (ms := 0) rfl rfl h ?_
      intro v21 G22 h
      refine e_icmp_eq (tgt := 1589) d_L_law_250 (by decide) (fun q23 => ?_) (fun q24 => ?_)
      · have h := h.1 q23
        obtain ⟨o25, h⟩ := h
        refine e_iinc (ls' := [(2, ((gn (gX e b m) 18 : Int) + 1)), (2, ((b : Int) + 1)), (2, (m + 0)), (0, (x3 + 6))]) d_L_law_1589 rfl (by decide) o25 rfl ?_
        refine e_goto (tgt := 18) d_L_law_1592 (by decide) ?_
        exact e_forget (ls' := [(2, ((gn (gX e b m) 18 : Int) + 1)), (2, ((b : Int) + 1)), (2, (m + 0)), (0, (x3 + 6))]) ⟨Or.inr rfl, Or.inr rfl, Or.inr rfl, Or.inr rfl, trivial⟩ h
      · have h := h.2 q24
        refine e_iconst d_L_law_253 (by decide) ?_
        exact e_zret .boolean d_L_law_254 rfl (by decide) h
    by_cases q26 : (gand (gscr (gX e b m) x3) 63) = 1
    · have h := hs1 q26
      refine e_tableIn (tgt := 255) d_L_law_33 (by omega) (by omega) (by rw [show (gand (gscr (gX e b m) x3) 63) = 1 from q26]; rfl) (by decide) ?_
      refine e_aload_n d_L_law_255 rfl ?_
      refine e_aload_n d_L_law_256 rfl ?_
      refine e_iload_n d_L_law_257 rfl ?_
      refine e_iconst d_L_law_258 (by decide) ?_
      obtain ⟨o27, h⟩ := h
      refine e_iadd d_L_law_259 o27 ?_
      obtain ⟨o28, o29, h⟩ := h
      refine e_tld_i (gn (gX e b m) 18) (gn (gX e b m) 19) (gscr (gX e b m)) (fun s h => h.2.2.2.2.2.2.2.2.2.2.2.2.2.2.2.2.2) (gscr_in _ _) d_L_law_260 o28 o29 ?_
      refine EV.inv fun hFf30 => ?_
      have f30 := (fx_ct 0 rfl hFf30).1
      obtain ⟨kc33, ks34, mc35, ms36, hkc33, hks34, h⟩ := h
      refine e_callV m_C_team 11 lw_good d_L_law_261 (k_C_team _) ⟨Nat.le_of_ble_eq_true rfl, Nat.le_of_ble_eq_true rfl⟩ w_321 w_322 w_323 (q_C _) rfl f30 (args := [(0, (gscr (gX e b m) (x3 + 1)))]) rfl rfl (Nat.le_of_ble_eq_true rfl) (kc' := kc33) (ks' := ks34) (mc := mc35) (ms := ms36) hkc33 hks34 h ?_
      intro v31 G32 h
      refine e_aload_n d_L_law_264 rfl ?_
      refine e_aload_n d_L_law_265 rfl ?_
      refine e_iload_n d_L_law_266 rfl ?_
      refine e_iconst d_L_law_267 (by decide) ?_
      refine e_iadd d_L_law_268 o27 ?_
      refine e_tld_i (gn (gX e b m) 18) (gn (gX e b m) 19) (gscr (gX e b m)) (fun s h => h.2.2.2.2.2.2.2.2.2.2.2.2.2.2.2.2.2) (gscr_in _ _) d_L_law_269 o28 o29 ?_
      refine EV.inv fun hFf37 => ?_
      have f37 := (fx_mt 0 rfl hFf37).1
      refine e_callV m_M_team 12 lw_good d_L_law_270 (k_M_team _) ⟨Nat.le_of_ble_eq_true rfl, Nat.le_of_ble_eq_true rfl⟩ w_1577 w_1578 w_1579 (q_M _) rfl f37 (args := [(0, (gscr (gX e b m) (x3 + 1)))]) rfl rfl (Nat.le_of_ble_eq_true rfl) (kc' := kc33) (ks' := ks34) (mc := 0) (ms := 0) rfl rfl h ?_
      intro v38 G39 h
      refine e_icmp_eq (tgt := 1589) d_L_law_273 (by decide) (fun q40 => ?_) (fun q41 => ?_)
      · have h := h.1 q40
        obtain ⟨o42, h⟩ := h
        refine e_iinc (ls' := [(2, ((gn (gX e b m) 18 : Int) + 1)), (2, ((b : Int) + 1)), (2, (m + 0)), (0, (x3 + 6))]) d_L_law_1589 rfl (by decide) o42 rfl ?_
        refine e_goto (tgt := 18) d_L_law_1592 (by decide) ?_
        exact e_forget (ls' := [(2, ((gn (gX e b m) 18 : Int) + 1)), (2, ((b : Int) + 1)), (2, (m + 0)), (0, (x3 + 6))]) ⟨Or.inr rfl, Or.inr rfl, Or.inr rfl, Or.inr rfl, trivial⟩ h
      · have h := h.2 q41
        refine e_iconst d_L_law_276 (by decide) ?_
        exact e_zret .boolean d_L_law_277 rfl (by decide) h
    by_cases q43 : (gand (gscr (gX e b m) x3) 63) = 2
    · have h := hs2 q43
      refine e_tableIn (tgt := 278) d_L_law_33 (by omega) (by omega) (by rw [show (gand (gscr (gX e b m) x3) 63) = 2 from q43]; rfl) (by decide) ?_
      refine e_aload_n d_L_law_278 rfl ?_
      refine e_aload_n d_L_law_279 rfl ?_
      refine e_iload_n d_L_law_280 rfl ?_
      refine e_iconst d_L_law_281 (by decide) ?_
      obtain ⟨o44, h⟩ := h
      refine e_iadd d_L_law_282 o44 ?_
      obtain ⟨o45, o46, h⟩ := h
      refine e_tld_i (gn (gX e b m) 18) (gn (gX e b m) 19) (gscr (gX e b m)) (fun s h => h.2.2.2.2.2.2.2.2.2.2.2.2.2.2.2.2.2) (gscr_in _ _) d_L_law_283 o45 o46 ?_
      refine e_aload_n d_L_law_284 rfl ?_
      refine e_iload_n d_L_law_285 rfl ?_
      refine e_iconst d_L_law_286 (by decide) ?_
      obtain ⟨o47, h⟩ := h
      refine e_iadd d_L_law_287 o47 ?_
      obtain ⟨o48, o49, h⟩ := h
      refine e_tld_i (gn (gX e b m) 18) (gn (gX e b m) 19) (gscr (gX e b m)) (fun s h => h.2.2.2.2.2.2.2.2.2.2.2.2.2.2.2.2.2) (gscr_in _ _) d_L_law_288 o48 o49 ?_
      refine e_aload_n d_L_law_289 rfl ?_
      refine e_iload_n d_L_law_290 rfl ?_
      refine e_iconst d_L_law_291 (by decide) ?_
      obtain ⟨o50, h⟩ := h
      refine e_iadd d_L_law_292 o50 ?_
      obtain ⟨o51, o52, h⟩ := h
      refine e_tld_i (gn (gX e b m) 18) (gn (gX e b m) 19) (gscr (gX e b m)) (fun s h => h.2.2.2.2.2.2.2.2.2.2.2.2.2.2.2.2.2) (gscr_in _ _) d_L_law_293 o51 o52 ?_
      refine e_aload_n d_L_law_294 rfl ?_
      refine e_iload_n d_L_law_295 rfl ?_
      refine e_iconst d_L_law_296 (by decide) ?_
      obtain ⟨o53, h⟩ := h
      refine e_iadd d_L_law_297 o53 ?_
      obtain ⟨o54, o55, h⟩ := h
      refine e_tld_i (gn (gX e b m) 18) (gn (gX e b m) 19) (gscr (gX e b m)) (fun s h => h.2.2.2.2.2.2.2.2.2.2.2.2.2.2.2.2.2) (gscr_in _ _) d_L_law_298 o54 o55 ?_
      refine e_aload_n d_L_law_299 rfl ?_
      refine e_iload_n d_L_law_300 rfl ?_
      refine e_iconst d_L_law_301 (by decide) ?_
      obtain ⟨o56, h⟩ := h
      refine e_iadd d_L_law_302 o56 ?_
      obtain ⟨o57, o58, h⟩ := h
      refine e_tld_i (gn (gX e b m) 18) (gn (gX e b m) 19) (gscr (gX e b m)) (fun s h => h.2.2.2.2.2.2.2.2.2.2.2.2.2.2.2.2.2) (gscr_in _ _) d_L_law_303 o57 o58 ?_
      refine EV.inv fun hFf59 => ?_
      have f59 := (fx_ct 0 rfl hFf59).1
      obtain ⟨kc62, ks63, mc64, ms65, hkc62, hks63, h⟩ := h
      refine e_callV m_C_thing 11 lw_good d_L_law_304 (k_C_thing _) ⟨Nat.le_of_ble_eq_true rfl, Nat.le_of_ble_eq_true rfl⟩ w_413 w_414 w_415 (q_C _) rfl f59 (args := [(0, (gscr (gX e b m) (x3 + 1))), (0, (gscr (gX e b m) (x3 + 2))), (0, (gscr (gX e b m) (x3 + 3))), (0, (gscr (gX e b m) (x3 + 4))), (0, (gscr (gX e b m) (x3 + 5)))]) rfl rfl (Nat.le_of_ble_eq_true rfl) (kc' := kc62) (ks' := ks63) (mc := mc64) (ms := ms65) hkc62 hks63 h ?_
      intro v60 G61 h
      refine e_aload_n d_L_law_307 rfl ?_
      refine e_aload_n d_L_law_308 rfl ?_
      refine e_iload_n d_L_law_309 rfl ?_
      refine e_iconst d_L_law_310 (by decide) ?_
      refine e_iadd d_L_law_311 o44 ?_
      refine e_tld_i (gn (gX e b m) 18) (gn (gX e b m) 19) (gscr (gX e b m)) (fun s h => h.2.2.2.2.2.2.2.2.2.2.2.2.2.2.2.2.2) (gscr_in _ _) d_L_law_312 o45 o46 ?_
      refine e_aload_n d_L_law_313 rfl ?_
      refine e_iload_n d_L_law_314 rfl ?_
      refine e_iconst d_L_law_315 (by decide) ?_
      refine e_iadd d_L_law_316 o47 ?_
      refine e_tld_i (gn (gX e b m) 18) (gn (gX e b m) 19) (gscr (gX e b m)) (fun s h => h.2.2.2.2.2.2.2.2.2.2.2.2.2.2.2.2.2) (gscr_in _ _) d_L_law_317 o48 o49 ?_
      refine e_aload_n d_L_law_318 rfl ?_
      refine e_iload_n d_L_law_319 rfl ?_
      refine e_iconst d_L_law_320 (by decide) ?_
      refine e_iadd d_L_law_321 o50 ?_
      refine e_tld_i (gn (gX e b m) 18) (gn (gX e b m) 19) (gscr (gX e b m)) (fun s h => h.2.2.2.2.2.2.2.2.2.2.2.2.2.2.2.2.2) (gscr_in _ _) d_L_law_322 o51 o52 ?_
      refine e_aload_n d_L_law_323 rfl ?_
      refine e_iload_n d_L_law_324 rfl ?_
      refine e_iconst d_L_law_325 (by decide) ?_
      refine e_iadd d_L_law_326 o53 ?_
      refine e_tld_i (gn (gX e b m) 18) (gn (gX e b m) 19) (gscr (gX e b m)) (fun s h => h.2.2.2.2.2.2.2.2.2.2.2.2.2.2.2.2.2) (gscr_in _ _) d_L_law_327 o54 o55 ?_
      refine e_aload_n d_L_law_328 rfl ?_
      refine e_iload_n d_L_law_329 rfl ?_
      refine e_iconst d_L_law_330 (by decide) ?_
      refine e_iadd d_L_law_331 o56 ?_
      refine e_tld_i (gn (gX e b m) 18) (gn (gX e b m) 19) (gscr (gX e b m)) (fun s h => h.2.2.2.2.2.2.2.2.2.2.2.2.2.2.2.2.2) (gscr_in _ _) d_L_law_332 o57 o58 ?_
      refine EV.inv fun hFf66 => ?_
      have f66 := (fx_mt 0 rfl hFf66).1
      refine e_callV m_M_thing 12 lw_good d_L_law_333 (k_M_thing _) ⟨Nat.le_of_ble_eq_true rfl, Nat.le_of_ble_eq_true rfl⟩ w_1581 w_1582 w_1583 (q_M _) rfl f66 (args := [(0, (gscr (gX e b m) (x3 + 1))), (0, (gscr (gX e b m) (x3 + 2))), (0, (gscr (gX e b m) (x3 + 3))), (0, (gscr (gX e b m) (x3 + 4))), (0, (gscr (gX e b m) (x3 + 5)))]) rfl rfl (Nat.le_of_ble_eq_true rfl) (kc' := kc62) (ks' := ks63) (mc := 0) (ms := 0) rfl rfl h ?_
      intro v67 G68 h
      refine e_icmp_eq (tgt := 1589) d_L_law_336 (by decide) (fun q69 => ?_) (fun q70 => ?_)
      · have h := h.1 q69
        obtain ⟨o71, h⟩ := h
        refine e_iinc (ls' := [(2, ((gn (gX e b m) 18 : Int) + 1)), (2, ((b : Int) + 1)), (2, (m + 0)), (0, (x3 + 6))]) d_L_law_1589 rfl (by decide) o71 rfl ?_
        refine e_goto (tgt := 18) d_L_law_1592 (by decide) ?_
        exact e_forget (ls' := [(2, ((gn (gX e b m) 18 : Int) + 1)), (2, ((b : Int) + 1)), (2, (m + 0)), (0, (x3 + 6))]) ⟨Or.inr rfl, Or.inr rfl, Or.inr rfl, Or.inr rfl, trivial⟩ h
      · have h := h.2 q70
        refine e_iconst d_L_law_339 (by decide) ?_
        exact e_zret .boolean d_L_law_340 rfl (by decide) h
    by_cases q72 : (gand (gscr (gX e b m) x3) 63) = 3
    · have h := hs3 q72
      refine e_tableIn (tgt := 341) d_L_law_33 (by omega) (by omega) (by rw [show (gand (gscr (gX e b m) x3) 63) = 3 from q72]; rfl) (by decide) ?_
      refine e_aload_n d_L_law_341 rfl ?_
      refine e_aload_n d_L_law_342 rfl ?_
      refine e_iload_n d_L_law_343 rfl ?_
      refine e_iconst d_L_law_344 (by decide) ?_
      obtain ⟨o73, h⟩ := h
      refine e_iadd d_L_law_345 o73 ?_
      obtain ⟨o74, o75, h⟩ := h
      refine e_tld_i (gn (gX e b m) 18) (gn (gX e b m) 19) (gscr (gX e b m)) (fun s h => h.2.2.2.2.2.2.2.2.2.2.2.2.2.2.2.2.2) (gscr_in _ _) d_L_law_346 o74 o75 ?_
      refine EV.inv fun hFf76 => ?_
      have f76 := (fx_ct 0 rfl hFf76).1
      obtain ⟨kc79, ks80, mc81, ms82, hkc79, hks80, h⟩ := h
      refine e_callV m_C_label 11 lw_good d_L_law_347 (k_C_label _) ⟨Nat.le_of_ble_eq_true rfl, Nat.le_of_ble_eq_true rfl⟩ w_478 w_479 w_480 (q_C _) rfl f76 (args := [(0, (gscr (gX e b m) (x3 + 1)))]) rfl rfl (Nat.le_of_ble_eq_true rfl) (kc' := kc79) (ks' := ks80) (mc := mc81) (ms := ms82) hkc79 hks80 h ?_
      intro v77 G78 h
      refine e_aload_n d_L_law_350 rfl ?_
      refine e_aload_n d_L_law_351 rfl ?_
      refine e_iload_n d_L_law_352 rfl ?_
      refine e_iconst d_L_law_353 (by decide) ?_
      refine e_iadd d_L_law_354 o73 ?_
      refine e_tld_i (gn (gX e b m) 18) (gn (gX e b m) 19) (gscr (gX e b m)) (fun s h => h.2.2.2.2.2.2.2.2.2.2.2.2.2.2.2.2.2) (gscr_in _ _) d_L_law_355 o74 o75 ?_
      refine EV.inv fun hFf83 => ?_
      have f83 := (fx_mt 0 rfl hFf83).1
      refine e_callV m_M_label 12 lw_good d_L_law_356 (k_M_label _) ⟨Nat.le_of_ble_eq_true rfl, Nat.le_of_ble_eq_true rfl⟩ w_1589 w_1590 w_1591 (q_M _) rfl f83 (args := [(0, (gscr (gX e b m) (x3 + 1)))]) rfl rfl (Nat.le_of_ble_eq_true rfl) (kc' := kc79) (ks' := ks80) (mc := 0) (ms := 0) rfl rfl h ?_
      intro v84 G85 h
      refine e_icmp_eq (tgt := 1589) d_L_law_359 (by decide) (fun q86 => ?_) (fun q87 => ?_)
      · have h := h.1 q86
        obtain ⟨o88, h⟩ := h
        refine e_iinc (ls' := [(2, ((gn (gX e b m) 18 : Int) + 1)), (2, ((b : Int) + 1)), (2, (m + 0)), (0, (x3 + 6))]) d_L_law_1589 rfl (by decide) o88 rfl ?_
        refine e_goto (tgt := 18) d_L_law_1592 (by decide) ?_
        exact e_forget (ls' := [(2, ((gn (gX e b m) 18 : Int) + 1)), (2, ((b : Int) + 1)), (2, (m + 0)), (0, (x3 + 6))]) ⟨Or.inr rfl, Or.inr rfl, Or.inr rfl, Or.inr rfl, trivial⟩ h
      · have h := h.2 q87
        refine e_iconst d_L_law_362 (by decide) ?_
        exact e_zret .boolean d_L_law_363 rfl (by decide) h
    by_cases q89 : (gand (gscr (gX e b m) x3) 63) = 4
    · have h := hs4 q89
      refine e_tableIn (tgt := 364) d_L_law_33 (by omega) (by omega) (by rw [show (gand (gscr (gX e b m) x3) 63) = 4 from q89]; rfl) (by decide) ?_
      refine e_aload_n d_L_law_364 rfl ?_
      refine EV.inv fun hFf90 => ?_
      have f90 := (fx_ct 0 rfl hFf90).1
      refine e_callV m_C_fault 11 lw_good d_L_law_365 (k_C_fault _) ⟨Nat.le_of_ble_eq_true rfl, Nat.le_of_ble_eq_true rfl⟩ w_582 w_583 w_584 (q_C _) rfl f90 (args := []) rfl rfl (Nat.le_of_ble_eq_true rfl) (kc' := kc) (ks' := ks) (mc := 0) (ms := 0) rfl rfl h ?_
      intro v91 G92 h
      refine e_aload_n d_L_law_368 rfl ?_
      refine EV.inv fun hFf93 => ?_
      have f93 := (fx_mt 0 rfl hFf93).1
      refine e_callV m_M_fault 12 lw_good d_L_law_369 (k_M_fault _) ⟨Nat.le_of_ble_eq_true rfl, Nat.le_of_ble_eq_true rfl⟩ w_1608 w_1609 w_1610 (q_M _) rfl f93 (args := []) rfl rfl (Nat.le_of_ble_eq_true rfl) (kc' := kc) (ks' := ks) (mc := 0) (ms := 0) rfl rfl h ?_
      intro v94 G95 h
      refine e_icmp_eq (tgt := 1589) d_L_law_372 (by decide) (fun q96 => ?_) (fun q97 => ?_)
      · have h := h.1 q96
        obtain ⟨o98, h⟩ := h
        refine e_iinc (ls' := [(2, ((gn (gX e b m) 18 : Int) + 1)), (2, ((b : Int) + 1)), (2, (m + 0)), (0, (x3 + 6))]) d_L_law_1589 rfl (by decide) o98 rfl ?_
        refine e_goto (tgt := 18) d_L_law_1592 (by decide) ?_
        exact e_forget (ls' := [(2, ((gn (gX e b m) 18 : Int) + 1)), (2, ((b : Int) + 1)), (2, (m + 0)), (0, (x3 + 6))]) ⟨Or.inr rfl, Or.inr rfl, Or.inr rfl, Or.inr rfl, trivial⟩ h
      · have h := h.2 q97
        refine e_iconst d_L_law_375 (by decide) ?_
        exact e_zret .boolean d_L_law_376 rfl (by decide) h
    by_cases q99 : (gand (gscr (gX e b m) x3) 63) = 5
    · have h := hs5 q99
      refine e_tableIn (tgt := 377) d_L_law_33 (by omega) (by omega) (by rw [show (gand (gscr (gX e b m) x3) 63) = 5 from q99]; rfl) (by decide) ?_
      refine e_aload_n d_L_law_377 rfl ?_
      refine e_aload_n d_L_law_378 rfl ?_
      refine e_iload_n d_L_law_379 rfl ?_
      refine e_iconst d_L_law_380 (by decide) ?_
      obtain ⟨o100, h⟩ := h
      refine e_iadd d_L_law_381 o100 ?_
      obtain ⟨o101, o102, h⟩ := h
      refine e_tld_i (gn (gX e b m) 18) (gn (gX e b m) 19) (gscr (gX e b m)) (fun s h => h.2.2.2.2.2.2.2.2.2.2.2.2.2.2.2.2.2) (gscr_in _ _) d_L_law_382 o101 o102 ?_
      refine e_aload_n d_L_law_383 rfl ?_
      refine e_iload_n d_L_law_384 rfl ?_
      refine e_iconst d_L_law_385 (by decide) ?_
      obtain ⟨o103, h⟩ := h
      refine e_iadd d_L_law_386 o103 ?_
      obtain ⟨o104, o105, h⟩ := h
      refine e_tld_i (gn (gX e b m) 18) (gn (gX e b m) 19) (gscr (gX e b m)) (fun s h => h.2.2.2.2.2.2.2.2.2.2.2.2.2.2.2.2.2) (gscr_in _ _) d_L_law_387 o104 o105 ?_
      refine EV.inv fun hFf106 => ?_
      have f106 := (fx_ct 0 rfl hFf106).1
      obtain ⟨kc109, ks110, mc111, ms112, hkc109, hks110, h⟩ := h
      refine e_callV m_C_danger 11 lw_good d_L_law_388 (k_C_danger _) ⟨Nat.le_of_ble_eq_true rfl, Nat.le_of_ble_eq_true rfl⟩ w_586 w_587 w_588 (q_C _) rfl f106 (args := [(0, (gscr (gX e b m) (x3 + 1))), (0, (gscr (gX e b m) (x3 + 2)))]) rfl rfl (Nat.le_of_ble_eq_true rfl) (kc' := kc109) (ks' := ks110) (mc := mc111) (ms := ms112) hkc109 hks110 h ?_
      intro v107 G108 h
      refine e_aload_n d_L_law_391 rfl ?_
      refine e_aload_n d_L_law_392 rfl ?_
      refine e_iload_n d_L_law_393 rfl ?_
      refine e_iconst d_L_law_394 (by decide) ?_
      refine e_iadd d_L_law_395 o100 ?_
      refine e_tld_i (gn (gX e b m) 18) (gn (gX e b m) 19) (gscr (gX e b m)) (fun s h => h.2.2.2.2.2.2.2.2.2.2.2.2.2.2.2.2.2) (gscr_in _ _) d_L_law_396 o101 o102 ?_
      refine e_aload_n d_L_law_397 rfl ?_
      refine e_iload_n d_L_law_398 rfl ?_
      refine e_iconst d_L_law_399 (by decide) ?_
      refine e_iadd d_L_law_400 o103 ?_
      refine e_tld_i (gn (gX e b m) 18) (gn (gX e b m) 19) (gscr (gX e b m)) (fun s h => h.2.2.2.2.2.2.2.2.2.2.2.2.2.2.2.2.2) (gscr_in _ _) d_L_law_401 o104 o105 ?_
      refine EV.inv fun hFf113 => ?_
      have f113 := (fx_mt 0 rfl hFf113).1
      refine e_callV m_M_danger 12 lw_good d_L_law_402 (k_M_danger _) ⟨Nat.le_of_ble_eq_true rfl, Nat.le_of_ble_eq_true rfl⟩ w_1612 w_1613 w_1614 (q_M _) rfl f113 (args := [(0, (gscr (gX e b m) (x3 + 1))), (0, (gscr (gX e b m) (x3 + 2)))]) rfl rfl (Nat.le_of_ble_eq_true rfl) (kc' := kc109) (ks' := ks110) (mc := 0) (ms := 0) rfl rfl h ?_
      intro v114 G115 h
      refine e_icmp_eq (tgt := 1589) d_L_law_405 (by decide) (fun q116 => ?_) (fun q117 => ?_)
      · have h := h.1 q116
        obtain ⟨o118, h⟩ := h
        refine e_iinc (ls' := [(2, ((gn (gX e b m) 18 : Int) + 1)), (2, ((b : Int) + 1)), (2, (m + 0)), (0, (x3 + 6))]) d_L_law_1589 rfl (by decide) o118 rfl ?_
        refine e_goto (tgt := 18) d_L_law_1592 (by decide) ?_
        exact e_forget (ls' := [(2, ((gn (gX e b m) 18 : Int) + 1)), (2, ((b : Int) + 1)), (2, (m + 0)), (0, (x3 + 6))]) ⟨Or.inr rfl, Or.inr rfl, Or.inr rfl, Or.inr rfl, trivial⟩ h
      · have h := h.2 q117
        refine e_iconst d_L_law_408 (by decide) ?_
        exact e_zret .boolean d_L_law_409 rfl (by decide) h
    by_cases q119 : (gand (gscr (gX e b m) x3) 63) = 6
    · have h := hs6 q119
      refine e_tableIn (tgt := 410) d_L_law_33 (by omega) (by omega) (by rw [show (gand (gscr (gX e b m) x3) 63) = 6 from q119]; rfl) (by decide) ?_
      refine e_aload_n d_L_law_410 rfl ?_
      refine e_aload_n d_L_law_411 rfl ?_
      refine e_iload_n d_L_law_412 rfl ?_
      refine e_iconst d_L_law_413 (by decide) ?_
      obtain ⟨o120, h⟩ := h
      refine e_iadd d_L_law_414 o120 ?_
      obtain ⟨o121, o122, h⟩ := h
      refine e_tld_i (gn (gX e b m) 18) (gn (gX e b m) 19) (gscr (gX e b m)) (fun s h => h.2.2.2.2.2.2.2.2.2.2.2.2.2.2.2.2.2) (gscr_in _ _) d_L_law_415 o121 o122 ?_
      refine e_aload_n d_L_law_416 rfl ?_
      refine e_iload_n d_L_law_417 rfl ?_
      refine e_iconst d_L_law_418 (by decide) ?_
      obtain ⟨o123, h⟩ := h
      refine e_iadd d_L_law_419 o123 ?_
      obtain ⟨o124, o125, h⟩ := h
      refine e_tld_i (gn (gX e b m) 18) (gn (gX e b m) 19) (gscr (gX e b m)) (fun s h => h.2.2.2.2.2.2.2.2.2.2.2.2.2.2.2.2.2) (gscr_in _ _) d_L_law_420 o124 o125 ?_
      refine e_aload_n d_L_law_421 rfl ?_
      refine e_iload_n d_L_law_422 rfl ?_
      refine e_iconst d_L_law_423 (by decide) ?_
      obtain ⟨o126, h⟩ := h
      refine e_iadd d_L_law_424 o126 ?_
      obtain ⟨o127, o128, h⟩ := h
      refine e_tld_i (gn (gX e b m) 18) (gn (gX e b m) 19) (gscr (gX e b m)) (fun s h => h.2.2.2.2.2.2.2.2.2.2.2.2.2.2.2.2.2) (gscr_in _ _) d_L_law_425 o127 o128 ?_
      refine EV.inv fun hFf129 => ?_
      have f129 := (fx_ct 0 rfl hFf129).1
      refine e_callV m_C_row 11 lw_good d_L_law_426 (k_C_row _) ⟨Nat.le_of_ble_eq_true rfl, Nat.le_of_ble_eq_true rfl⟩ w_794 w_795 w_796 (q_C _) rfl f129 (args := [(0, (gscr (gX e b m) (x3 + 1))), (0, (gscr (gX e b m) (x3 + 2))), (0, (gscr (gX e b m) (x3 + 3)))]) rfl rfl (Nat.le_of_ble_eq_true rfl) (kc' := kc) (ks' := ks) (mc := 0) (ms := 0) rfl rfl h ?_
      intro v130 G131 h
      refine e_aload_n d_L_law_429 rfl ?_
      refine e_aload_n d_L_law_430 rfl ?_
      refine e_iload_n d_L_law_431 rfl ?_
      refine e_iconst d_L_law_432 (by decide) ?_
      refine e_iadd d_L_law_433 o120 ?_
      refine e_tld_i (gn (gX e b m) 18) (gn (gX e b m) 19) (gscr (gX e b m)) (fun s h => h.2.2.2.2.2.2.2.2.2.2.2.2.2.2.2.2.2) (gscr_in _ _) d_L_law_434 o121 o122 ?_
      refine e_aload_n d_L_law_435 rfl ?_
      refine e_iload_n d_L_law_436 rfl ?_
      refine e_iconst d_L_law_437 (by decide) ?_
      refine e_iadd d_L_law_438 o123 ?_
      refine e_tld_i (gn (gX e b m) 18) (gn (gX e b m) 19) (gscr (gX e b m)) (fun s h => h.2.2.2.2.2.2.2.2.2.2.2.2.2.2.2.2.2) (gscr_in _ _) d_L_law_439 o124 o125 ?_
      refine e_aload_n d_L_law_440 rfl ?_
      refine e_iload_n d_L_law_441 rfl ?_
      refine e_iconst d_L_law_442 (by decide) ?_
      refine e_iadd d_L_law_443 o126 ?_
      refine e_tld_i (gn (gX e b m) 18) (gn (gX e b m) 19) (gscr (gX e b m)) (fun s h => h.2.2.2.2.2.2.2.2.2.2.2.2.2.2.2.2.2) (gscr_in _ _) d_L_law_444 o127 o128 ?_
      refine EV.inv fun hFf132 => ?_
      have f132 := (fx_mt 0 rfl hFf132).1
      refine e_callV m_M_row 12 lw_good d_L_law_445 (k_M_row _) ⟨Nat.le_of_ble_eq_true rfl, Nat.le_of_ble_eq_true rfl⟩ w_1672 w_1673 w_1674 (q_M _) rfl f132 (args := [(0, (gscr (gX e b m) (x3 + 1))), (0, (gscr (gX e b m) (x3 + 2))), (0, (gscr (gX e b m) (x3 + 3)))]) rfl rfl (Nat.le_of_ble_eq_true rfl) (kc' := kc) (ks' := ks) (mc := 0) (ms := 0) rfl rfl h ?_
      intro v133 G134 h
      refine e_icmp_eq (tgt := 1589) d_L_law_448 (by decide) (fun q135 => ?_) (fun q136 => ?_)
      · have h := h.1 q135
        obtain ⟨o137, h⟩ := h
        refine e_iinc (ls' := [(2, ((gn (gX e b m) 18 : Int) + 1)), (2, ((b : Int) + 1)), (2, (m + 0)), (0, (x3 + 6))]) d_L_law_1589 rfl (by decide) o137 rfl ?_
        refine e_goto (tgt := 18) d_L_law_1592 (by decide) ?_
        exact e_forget (ls' := [(2, ((gn (gX e b m) 18 : Int) + 1)), (2, ((b : Int) + 1)), (2, (m + 0)), (0, (x3 + 6))]) ⟨Or.inr rfl, Or.inr rfl, Or.inr rfl, Or.inr rfl, trivial⟩ h
      · have h := h.2 q136
        refine e_iconst d_L_law_451 (by decide) ?_
        exact e_zret .boolean d_L_law_452 rfl (by decide) h
    by_cases q138 : (gand (gscr (gX e b m) x3) 63) = 7
    · have h := hs7 q138
      refine e_tableIn (tgt := 453) d_L_law_33 (by omega) (by omega) (by rw [show (gand (gscr (gX e b m) x3) 63) = 7 from q138]; rfl) (by decide) ?_
      refine e_aload_n d_L_law_453 rfl ?_
      refine e_aload_n d_L_law_454 rfl ?_
      refine e_iload_n d_L_law_455 rfl ?_
      refine e_iconst d_L_law_456 (by decide) ?_
      obtain ⟨o139, h⟩ := h
      refine e_iadd d_L_law_457 o139 ?_
      obtain ⟨o140, o141, h⟩ := h
      refine e_tld_i (gn (gX e b m) 18) (gn (gX e b m) 19) (gscr (gX e b m)) (fun s h => h.2.2.2.2.2.2.2.2.2.2.2.2.2.2.2.2.2) (gscr_in _ _) d_L_law_458 o140 o141 ?_
      refine e_aload_n d_L_law_459 rfl ?_
      refine e_iload_n d_L_law_460 rfl ?_
      refine e_iconst d_L_law_461 (by decide) ?_
      obtain ⟨o142, h⟩ := h
      refine e_iadd d_L_law_462 o142 ?_
      obtain ⟨o143, o144, h⟩ := h
      refine e_tld_i (gn (gX e b m) 18) (gn (gX e b m) 19) (gscr (gX e b m)) (fun s h => h.2.2.2.2.2.2.2.2.2.2.2.2.2.2.2.2.2) (gscr_in _ _) d_L_law_463 o143 o144 ?_
      refine e_aload_n d_L_law_464 rfl ?_
      refine e_iload_n d_L_law_465 rfl ?_
      refine e_iconst d_L_law_466 (by decide) ?_
      obtain ⟨o145, h⟩ := h
      refine e_iadd d_L_law_467 o145 ?_
      obtain ⟨o146, o147, h⟩ := h
      refine e_tld_i (gn (gX e b m) 18) (gn (gX e b m) 19) (gscr (gX e b m)) (fun s h => h.2.2.2.2.2.2.2.2.2.2.2.2.2.2.2.2.2) (gscr_in _ _) d_L_law_468 o146 o147 ?_
      refine e_i2l d_L_law_469 ?_
      refine e_bipush d_L_law_470 (by decide) (by decide) ?_
      refine e_lshl d_L_law_472 ?_
      refine e_aload_n d_L_law_473 rfl ?_
      refine e_iload_n d_L_law_474 rfl ?_
      refine e_iconst d_L_law_475 (by decide) ?_
      obtain ⟨o148, h⟩ := h
      refine e_iadd d_L_law_476 o148 ?_
      obtain ⟨o149, o150, h⟩ := h
      refine e_tld_i (gn (gX e b m) 18) (gn (gX e b m) 19) (gscr (gX e b m)) (fun s h => h.2.2.2.2.2.2.2.2.2.2.2.2.2.2.2.2.2) (gscr_in _ _) d_L_law_477 o149 o150 ?_
      refine e_i2l d_L_law_478 ?_
      refine e_ldc2 4294967295 d_L_law_479 (by decide) w_1884 ?_
      refine e_land d_L_law_482 ?_
      refine e_lor d_L_law_483 ?_
      refine EV.inv fun hFf151 => ?_
      have f151 := (fx_ct 0 rfl hFf151).1
      refine e_callV m_C_set 11 lw_good d_L_law_484 (k_C_set _) ⟨Nat.le_of_ble_eq_true rfl, Nat.le_of_ble_eq_true rfl⟩ w_806 w_807 w_808 (q_C _) rfl f151 (args := [(0, (gscr (gX e b m) (x3 + 1))), (0, (gscr (gX e b m) (x3 + 2))), (1, (glor (glshl (gscr (gX e b m) (x3 + 3)) 32) (gland (gscr (gX e b m) (x3 + 4)) 4294967295)))]) rfl rfl (Nat.le_of_ble_eq_true rfl) (kc' := kc) (ks' := ks) (mc := 0) (ms := 0) rfl rfl h ?_
      intro v152 G153 h
      refine e_aload_n d_L_law_487 rfl ?_
      refine e_aload_n d_L_law_488 rfl ?_
      refine e_iload_n d_L_law_489 rfl ?_
      refine e_iconst d_L_law_490 (by decide) ?_
      refine e_iadd d_L_law_491 o139 ?_
      refine e_tld_i (gn (gX e b m) 18) (gn (gX e b m) 19) (gscr (gX e b m)) (fun s h => h.2.2.2.2.2.2.2.2.2.2.2.2.2.2.2.2.2) (gscr_in _ _) d_L_law_492 o140 o141 ?_
      refine e_aload_n d_L_law_493 rfl ?_
      refine e_iload_n d_L_law_494 rfl ?_
      refine e_iconst d_L_law_495 (by decide) ?_
      refine e_iadd d_L_law_496 o142 ?_
      refine e_tld_i (gn (gX e b m) 18) (gn (gX e b m) 19) (gscr (gX e b m)) (fun s h => h.2.2.2.2.2.2.2.2.2.2.2.2.2.2.2.2.2) (gscr_in _ _) d_L_law_497 o143 o144 ?_
      refine e_aload_n d_L_law_498 rfl ?_
      refine e_iload_n d_L_law_499 rfl ?_
      refine e_iconst d_L_law_500 (by decide) ?_
      refine e_iadd d_L_law_501 o145 ?_
      refine e_tld_i (gn (gX e b m) 18) (gn (gX e b m) 19) (gscr (gX e b m)) (fun s h => h.2.2.2.2.2.2.2.2.2.2.2.2.2.2.2.2.2) (gscr_in _ _) d_L_law_502 o146 o147 ?_
      refine e_i2l d_L_law_503 ?_
      refine e_bipush d_L_law_504 (by decide) (by decide) ?_
      refine e_lshl d_L_law_506 ?_
      refine e_aload_n d_L_law_507 rfl ?_
      refine e_iload_n d_L_law_508 rfl ?_
      refine e_iconst d_L_law_509 (by decide) ?_
      refine e_iadd d_L_law_510 o148 ?_
      refine e_tld_i (gn (gX e b m) 18) (gn (gX e b m) 19) (gscr (gX e b m)) (fun s h => h.2.2.2.2.2.2.2.2.2.2.2.2.2.2.2.2.2) (gscr_in _ _) d_L_law_511 o149 o150 ?_
      refine e_i2l d_L_law_512 ?_
      refine e_ldc2 4294967295 d_L_law_513 (by decide) w_1884 ?_
      refine e_land d_L_law_516 ?_
      refine e_lor d_L_law_517 ?_
      refine EV.inv fun hFf154 => ?_
      have f154 := (fx_mt 0 rfl hFf154).1
      refine e_callV m_M_set 12 lw_good d_L_law_518 (k_M_set _) ⟨Nat.le_of_ble_eq_true rfl, Nat.le_of_ble_eq_true rfl⟩ w_1676 w_1677 w_1678 (q_M _) rfl f154 (args := [(0, (gscr (gX e b m) (x3 + 1))), (0, (gscr (gX e b m) (x3 + 2))), (1, (glor (glshl (gscr (gX e b m) (x3 + 3)) 32) (gland (gscr (gX e b m) (x3 + 4)) 4294967295)))]) rfl rfl (Nat.le_of_ble_eq_true rfl) (kc' := kc) (ks' := ks) (mc := 0) (ms := 0) rfl rfl h ?_
      intro v155 G156 h
      refine e_icmp_eq (tgt := 1589) d_L_law_521 (by decide) (fun q157 => ?_) (fun q158 => ?_)
      · have h := h.1 q157
        obtain ⟨o159, h⟩ := h
        refine e_iinc (ls' := [(2, ((gn (gX e b m) 18 : Int) + 1)), (2, ((b : Int) + 1)), (2, (m + 0)), (0, (x3 + 6))]) d_L_law_1589 rfl (by decide) o159 rfl ?_
        refine e_goto (tgt := 18) d_L_law_1592 (by decide) ?_
        exact e_forget (ls' := [(2, ((gn (gX e b m) 18 : Int) + 1)), (2, ((b : Int) + 1)), (2, (m + 0)), (0, (x3 + 6))]) ⟨Or.inr rfl, Or.inr rfl, Or.inr rfl, Or.inr rfl, trivial⟩ h
      · have h := h.2 q158
        refine e_iconst d_L_law_524 (by decide) ?_
        exact e_zret .boolean d_L_law_525 rfl (by decide) h
    by_cases q160 : (gand (gscr (gX e b m) x3) 63) = 8
    · have h := hs8 q160
      refine e_tableIn (tgt := 526) d_L_law_33 (by omega) (by omega) (by rw [show (gand (gscr (gX e b m) x3) 63) = 8 from q160]; rfl) (by decide) ?_
      refine e_aload_n d_L_law_526 rfl ?_
      refine e_aload_n d_L_law_527 rfl ?_
      refine e_iload_n d_L_law_528 rfl ?_
      refine e_iconst d_L_law_529 (by decide) ?_
      obtain ⟨o161, h⟩ := h
      refine e_iadd d_L_law_530 o161 ?_
      obtain ⟨o162, o163, h⟩ := h
      refine e_tld_i (gn (gX e b m) 18) (gn (gX e b m) 19) (gscr (gX e b m)) (fun s h => h.2.2.2.2.2.2.2.2.2.2.2.2.2.2.2.2.2) (gscr_in _ _) d_L_law_531 o162 o163 ?_
      refine e_aload_n d_L_law_532 rfl ?_
      refine e_iload_n d_L_law_533 rfl ?_
      refine e_iconst d_L_law_534 (by decide) ?_
      obtain ⟨o164, h⟩ := h
      refine e_iadd d_L_law_535 o164 ?_
      obtain ⟨o165, o166, h⟩ := h
      refine e_tld_i (gn (gX e b m) 18) (gn (gX e b m) 19) (gscr (gX e b m)) (fun s h => h.2.2.2.2.2.2.2.2.2.2.2.2.2.2.2.2.2) (gscr_in _ _) d_L_law_536 o165 o166 ?_
      refine e_aload_n d_L_law_537 rfl ?_
      refine e_iload_n d_L_law_538 rfl ?_
      refine e_iconst d_L_law_539 (by decide) ?_
      obtain ⟨o167, h⟩ := h
      refine e_iadd d_L_law_540 o167 ?_
      obtain ⟨o168, o169, h⟩ := h
      refine e_tld_i (gn (gX e b m) 18) (gn (gX e b m) 19) (gscr (gX e b m)) (fun s h => h.2.2.2.2.2.2.2.2.2.2.2.2.2.2.2.2.2) (gscr_in _ _) d_L_law_541 o168 o169 ?_
      refine e_aload_n d_L_law_542 rfl ?_
      refine e_iload_n d_L_law_543 rfl ?_
      refine e_iconst d_L_law_544 (by decide) ?_
      obtain ⟨o170, h⟩ := h
      refine e_iadd d_L_law_545 o170 ?_
      obtain ⟨o171, o172, h⟩ := h
      refine e_tld_i (gn (gX e b m) 18) (gn (gX e b m) 19) (gscr (gX e b m)) (fun s h => h.2.2.2.2.2.2.2.2.2.2.2.2.2.2.2.2.2) (gscr_in _ _) d_L_law_546 o171 o172 ?_
      refine e_aload_n d_L_law_547 rfl ?_
      refine e_iload_n d_L_law_548 rfl ?_
      refine e_iconst d_L_law_549 (by decide) ?_
      obtain ⟨o173, h⟩ := h
      refine e_iadd d_L_law_550 o173 ?_
      obtain ⟨o174, o175, h⟩ := h
      refine e_tld_i (gn (gX e b m) 18) (gn (gX e b m) 19) (gscr (gX e b m)) (fun s h => h.2.2.2.2.2.2.2.2.2.2.2.2.2.2.2.2.2) (gscr_in _ _) d_L_law_551 o174 o175 ?_
      refine EV.inv fun hFf176 => ?_
      have f176 := (fx_ct 0 rfl hFf176).1
      refine e_callV m_C_copy 11 lw_good d_L_law_552 (k_C_copy _) ⟨Nat.le_of_ble_eq_true rfl, Nat.le_of_ble_eq_true rfl⟩ w_819 w_820 w_821 (q_C _) rfl f176 (args := [(0, (gscr (gX e b m) (x3 + 1))), (0, (gscr (gX e b m) (x3 + 2))), (0, (gscr (gX e b m) (x3 + 3))), (0, (gscr (gX e b m) (x3 + 4))), (0, (gscr (gX e b m) (x3 + 5)))]) rfl rfl (Nat.le_of_ble_eq_true rfl) (kc' := kc) (ks' := ks) (mc := 0) (ms := 0) rfl rfl h ?_
      intro v177 G178 h
      refine e_aload_n d_L_law_555 rfl ?_
      refine e_aload_n d_L_law_556 rfl ?_
      refine e_iload_n d_L_law_557 rfl ?_
      refine e_iconst d_L_law_558 (by decide) ?_
      refine e_iadd d_L_law_559 o161 ?_
      refine e_tld_i (gn (gX e b m) 18) (gn (gX e b m) 19) (gscr (gX e b m)) (fun s h => h.2.2.2.2.2.2.2.2.2.2.2.2.2.2.2.2.2) (gscr_in _ _) d_L_law_560 o162 o163 ?_
      refine e_aload_n d_L_law_561 rfl ?_
      refine e_iload_n d_L_law_562 rfl ?_
      refine e_iconst d_L_law_563 (by decide) ?_
      refine e_iadd d_L_law_564 o164 ?_
      refine e_tld_i (gn (gX e b m) 18) (gn (gX e b m) 19) (gscr (gX e b m)) (fun s h => h.2.2.2.2.2.2.2.2.2.2.2.2.2.2.2.2.2) (gscr_in _ _) d_L_law_565 o165 o166 ?_
      refine e_aload_n d_L_law_566 rfl ?_
      refine e_iload_n d_L_law_567 rfl ?_
      refine e_iconst d_L_law_568 (by decide) ?_
      refine e_iadd d_L_law_569 o167 ?_
      refine e_tld_i (gn (gX e b m) 18) (gn (gX e b m) 19) (gscr (gX e b m)) (fun s h => h.2.2.2.2.2.2.2.2.2.2.2.2.2.2.2.2.2) (gscr_in _ _) d_L_law_570 o168 o169 ?_
      refine e_aload_n d_L_law_571 rfl ?_
      refine e_iload_n d_L_law_572 rfl ?_
      refine e_iconst d_L_law_573 (by decide) ?_
      refine e_iadd d_L_law_574 o170 ?_
      refine e_tld_i (gn (gX e b m) 18) (gn (gX e b m) 19) (gscr (gX e b m)) (fun s h => h.2.2.2.2.2.2.2.2.2.2.2.2.2.2.2.2.2) (gscr_in _ _) d_L_law_575 o171 o172 ?_
      refine e_aload_n d_L_law_576 rfl ?_
      refine e_iload_n d_L_law_577 rfl ?_
      refine e_iconst d_L_law_578 (by decide) ?_
      refine e_iadd d_L_law_579 o173 ?_
      refine e_tld_i (gn (gX e b m) 18) (gn (gX e b m) 19) (gscr (gX e b m)) (fun s h => h.2.2.2.2.2.2.2.2.2.2.2.2.2.2.2.2.2) (gscr_in _ _) d_L_law_580 o174 o175 ?_
      refine EV.inv fun hFf179 => ?_
      have f179 := (fx_mt 0 rfl hFf179).1
      refine e_callV m_M_copy 12 lw_good d_L_law_581 (k_M_copy _) ⟨Nat.le_of_ble_eq_true rfl, Nat.le_of_ble_eq_true rfl⟩ w_1680 w_1681 w_1682 (q_M _) rfl f179 (args := [(0, (gscr (gX e b m) (x3 + 1))), (0, (gscr (gX e b m) (x3 + 2))), (0, (gscr (gX e b m) (x3 + 3))), (0, (gscr (gX e b m) (x3 + 4))), (0, (gscr (gX e b m) (x3 + 5)))]) rfl rfl (Nat.le_of_ble_eq_true rfl) (kc' := kc) (ks' := ks) (mc := 0) (ms := 0) rfl rfl h ?_
      intro v180 G181 h
      refine e_icmp_eq (tgt := 1589) d_L_law_584 (by decide) (fun q182 => ?_) (fun q183 => ?_)
      · have h := h.1 q182
        obtain ⟨o184, h⟩ := h
        refine e_iinc (ls' := [(2, ((gn (gX e b m) 18 : Int) + 1)), (2, ((b : Int) + 1)), (2, (m + 0)), (0, (x3 + 6))]) d_L_law_1589 rfl (by decide) o184 rfl ?_
        refine e_goto (tgt := 18) d_L_law_1592 (by decide) ?_
        exact e_forget (ls' := [(2, ((gn (gX e b m) 18 : Int) + 1)), (2, ((b : Int) + 1)), (2, (m + 0)), (0, (x3 + 6))]) ⟨Or.inr rfl, Or.inr rfl, Or.inr rfl, Or.inr rfl, trivial⟩ h
      · have h := h.2 q183
        refine e_iconst d_L_law_587 (by decide) ?_
        exact e_zret .boolean d_L_law_588 rfl (by decide) h
    by_cases q185 : (gand (gscr (gX e b m) x3) 63) = 9
    · have h := hs9 q185
      refine e_tableIn (tgt := 589) d_L_law_33 (by omega) (by omega) (by rw [show (gand (gscr (gX e b m) x3) 63) = 9 from q185]; rfl) (by decide) ?_
      refine e_aload_n d_L_law_589 rfl ?_
      refine e_aload_n d_L_law_590 rfl ?_
      refine e_iload_n d_L_law_591 rfl ?_
      refine e_iconst d_L_law_592 (by decide) ?_
      obtain ⟨o186, h⟩ := h
      refine e_iadd d_L_law_593 o186 ?_
      obtain ⟨o187, o188, h⟩ := h
      refine e_tld_i (gn (gX e b m) 18) (gn (gX e b m) 19) (gscr (gX e b m)) (fun s h => h.2.2.2.2.2.2.2.2.2.2.2.2.2.2.2.2.2) (gscr_in _ _) d_L_law_594 o187 o188 ?_
      refine e_aload_n d_L_law_595 rfl ?_
      refine e_iload_n d_L_law_596 rfl ?_
      refine e_iconst d_L_law_597 (by decide) ?_
      obtain ⟨o189, h⟩ := h
      refine e_iadd d_L_law_598 o189 ?_
      obtain ⟨o190, o191, h⟩ := h
      refine e_tld_i (gn (gX e b m) 18) (gn (gX e b m) 19) (gscr (gX e b m)) (fun s h => h.2.2.2.2.2.2.2.2.2.2.2.2.2.2.2.2.2) (gscr_in _ _) d_L_law_599 o190 o191 ?_
      refine EV.inv fun hFf192 => ?_
      have f192 := (fx_ct 0 rfl hFf192).1
      refine e_callV m_C_element 11 lw_good d_L_law_600 (k_C_element _) ⟨Nat.le_of_ble_eq_true rfl, Nat.le_of_ble_eq_true rfl⟩ w_837 w_838 w_839 (q_C _) rfl f192 (args := [(0, (gscr (gX e b m) (x3 + 1))), (0, (gscr (gX e b m) (x3 + 2)))]) rfl rfl (Nat.le_of_ble_eq_true rfl) (kc' := kc) (ks' := ks) (mc := 0) (ms := 0) rfl rfl h ?_
      intro v193 G194 h
      refine e_aload_n d_L_law_603 rfl ?_
      refine e_aload_n d_L_law_604 rfl ?_
      refine e_iload_n d_L_law_605 rfl ?_
      refine e_iconst d_L_law_606 (by decide) ?_
      refine e_iadd d_L_law_607 o186 ?_
      refine e_tld_i (gn (gX e b m) 18) (gn (gX e b m) 19) (gscr (gX e b m)) (fun s h => h.2.2.2.2.2.2.2.2.2.2.2.2.2.2.2.2.2) (gscr_in _ _) d_L_law_608 o187 o188 ?_
      refine e_aload_n d_L_law_609 rfl ?_
      refine e_iload_n d_L_law_610 rfl ?_
      refine e_iconst d_L_law_611 (by decide) ?_
      refine e_iadd d_L_law_612 o189 ?_
      refine e_tld_i (gn (gX e b m) 18) (gn (gX e b m) 19) (gscr (gX e b m)) (fun s h => h.2.2.2.2.2.2.2.2.2.2.2.2.2.2.2.2.2) (gscr_in _ _) d_L_law_613 o190 o191 ?_
      refine EV.inv fun hFf195 => ?_
      have f195 := (fx_mt 0 rfl hFf195).1
      refine e_callV m_M_element 12 lw_good d_L_law_614 (k_M_element _) ⟨Nat.le_of_ble_eq_true rfl, Nat.le_of_ble_eq_true rfl⟩ w_1684 w_1685 w_1686 (q_M _) rfl f195 (args := [(0, (gscr (gX e b m) (x3 + 1))), (0, (gscr (gX e b m) (x3 + 2)))]) rfl rfl (Nat.le_of_ble_eq_true rfl) (kc' := kc) (ks' := ks) (mc := 0) (ms := 0) rfl rfl h ?_
      intro v196 G197 h
      refine e_lcmp_eq (tgt := 1589) d_L_law_617 d_L_law_618 (by decide) (fun q198 => ?_) (fun q199 => ?_)
      · have h := h.1 q198
        obtain ⟨o200, h⟩ := h
        refine e_iinc (ls' := [(2, ((gn (gX e b m) 18 : Int) + 1)), (2, ((b : Int) + 1)), (2, (m + 0)), (0, (x3 + 6))]) d_L_law_1589 rfl (by decide) o200 rfl ?_
        refine e_goto (tgt := 18) d_L_law_1592 (by decide) ?_
        exact e_forget (ls' := [(2, ((gn (gX e b m) 18 : Int) + 1)), (2, ((b : Int) + 1)), (2, (m + 0)), (0, (x3 + 6))]) ⟨Or.inr rfl, Or.inr rfl, Or.inr rfl, Or.inr rfl, trivial⟩ h
      · have h := h.2 q199
        refine e_iconst d_L_law_621 (by decide) ?_
        exact e_zret .boolean d_L_law_622 rfl (by decide) h
    by_cases q201 : (gand (gscr (gX e b m) x3) 63) = 10
    · have h := hs10 q201
      refine e_tableIn (tgt := 623) d_L_law_33 (by omega) (by omega) (by rw [show (gand (gscr (gX e b m) x3) 63) = 10 from q201]; rfl) (by decide) ?_
      refine e_aload_n d_L_law_623 rfl ?_
      refine e_aload_n d_L_law_624 rfl ?_
      refine e_iload_n d_L_law_625 rfl ?_
      refine e_iconst d_L_law_626 (by decide) ?_
      obtain ⟨o202, h⟩ := h
      refine e_iadd d_L_law_627 o202 ?_
      obtain ⟨o203, o204, h⟩ := h
      refine e_tld_i (gn (gX e b m) 18) (gn (gX e b m) 19) (gscr (gX e b m)) (fun s h => h.2.2.2.2.2.2.2.2.2.2.2.2.2.2.2.2.2) (gscr_in _ _) d_L_law_628 o203 o204 ?_
      refine e_aload_n d_L_law_629 rfl ?_
      refine e_iload_n d_L_law_630 rfl ?_
      refine e_iconst d_L_law_631 (by decide) ?_
      obtain ⟨o205, h⟩ := h
      refine e_iadd d_L_law_632 o205 ?_
      obtain ⟨o206, o207, h⟩ := h
      refine e_tld_i (gn (gX e b m) 18) (gn (gX e b m) 19) (gscr (gX e b m)) (fun s h => h.2.2.2.2.2.2.2.2.2.2.2.2.2.2.2.2.2) (gscr_in _ _) d_L_law_633 o206 o207 ?_
      refine EV.inv fun hFf208 => ?_
      have f208 := (fx_ct 0 rfl hFf208).1
      refine e_callV m_C_show 11 lw_good d_L_law_634 (k_C_show _) ⟨Nat.le_of_ble_eq_true rfl, Nat.le_of_ble_eq_true rfl⟩ w_842 w_843 w_844 (q_C _) rfl f208 (args := [(0, (gscr (gX e b m) (x3 + 1))), (0, (gscr (gX e b m) (x3 + 2)))]) rfl rfl (Nat.le_of_ble_eq_true rfl) (kc' := kc) (ks' := ks) (mc := 0) (ms := 0) rfl rfl h ?_
      intro v209 G210 h
      refine e_aload_n d_L_law_637 rfl ?_
      refine e_aload_n d_L_law_638 rfl ?_
      refine e_iload_n d_L_law_639 rfl ?_
      refine e_iconst d_L_law_640 (by decide) ?_
      refine e_iadd d_L_law_641 o202 ?_
      refine e_tld_i (gn (gX e b m) 18) (gn (gX e b m) 19) (gscr (gX e b m)) (fun s h => h.2.2.2.2.2.2.2.2.2.2.2.2.2.2.2.2.2) (gscr_in _ _) d_L_law_642 o203 o204 ?_
      refine e_aload_n d_L_law_643 rfl ?_
      refine e_iload_n d_L_law_644 rfl ?_
      refine e_iconst d_L_law_645 (by decide) ?_
      refine e_iadd d_L_law_646 o205 ?_
      refine e_tld_i (gn (gX e b m) 18) (gn (gX e b m) 19) (gscr (gX e b m)) (fun s h => h.2.2.2.2.2.2.2.2.2.2.2.2.2.2.2.2.2) (gscr_in _ _) d_L_law_647 o206 o207 ?_
      refine EV.inv fun hFf211 => ?_
      have f211 := (fx_mt 0 rfl hFf211).1
      refine e_callV m_M_show 12 lw_good d_L_law_648 (k_M_show _) ⟨Nat.le_of_ble_eq_true rfl, Nat.le_of_ble_eq_true rfl⟩ w_1688 w_1689 w_1690 (q_M _) rfl f211 (args := [(0, (gscr (gX e b m) (x3 + 1))), (0, (gscr (gX e b m) (x3 + 2)))]) rfl rfl (Nat.le_of_ble_eq_true rfl) (kc' := kc) (ks' := ks) (mc := 0) (ms := 0) rfl rfl h ?_
      intro v212 G213 h
      refine e_icmp_eq (tgt := 1589) d_L_law_651 (by decide) (fun q214 => ?_) (fun q215 => ?_)
      · have h := h.1 q214
        obtain ⟨o216, h⟩ := h
        refine e_iinc (ls' := [(2, ((gn (gX e b m) 18 : Int) + 1)), (2, ((b : Int) + 1)), (2, (m + 0)), (0, (x3 + 6))]) d_L_law_1589 rfl (by decide) o216 rfl ?_
        refine e_goto (tgt := 18) d_L_law_1592 (by decide) ?_
        exact e_forget (ls' := [(2, ((gn (gX e b m) 18 : Int) + 1)), (2, ((b : Int) + 1)), (2, (m + 0)), (0, (x3 + 6))]) ⟨Or.inr rfl, Or.inr rfl, Or.inr rfl, Or.inr rfl, trivial⟩ h
      · have h := h.2 q215
        refine e_iconst d_L_law_654 (by decide) ?_
        exact e_zret .boolean d_L_law_655 rfl (by decide) h
    by_cases q217 : (gand (gscr (gX e b m) x3) 63) = 11
    · have h := hs11 q217
      refine e_tableIn (tgt := 656) d_L_law_33 (by omega) (by omega) (by rw [show (gand (gscr (gX e b m) x3) 63) = 11 from q217]; rfl) (by decide) ?_
      refine e_aload_n d_L_law_656 rfl ?_
      refine e_aload_n d_L_law_657 rfl ?_
      refine e_iload_n d_L_law_658 rfl ?_
      refine e_iconst d_L_law_659 (by decide) ?_
      obtain ⟨o218, h⟩ := h
      refine e_iadd d_L_law_660 o218 ?_
      obtain ⟨o219, o220, h⟩ := h
      refine e_tld_i (gn (gX e b m) 18) (gn (gX e b m) 19) (gscr (gX e b m)) (fun s h => h.2.2.2.2.2.2.2.2.2.2.2.2.2.2.2.2.2) (gscr_in _ _) d_L_law_661 o219 o220 ?_
      refine EV.inv fun hFf221 => ?_
      have f221 := (fx_ct 0 rfl hFf221).1
      refine e_callV m_C_holds 11 lw_good d_L_law_662 (k_C_holds _) ⟨Nat.le_of_ble_eq_true rfl, Nat.le_of_ble_eq_true rfl⟩ w_851 w_852 w_853 (q_C _) rfl f221 (args := [(0, (gscr (gX e b m) (x3 + 1)))]) rfl rfl (Nat.le_of_ble_eq_true rfl) (kc' := kc) (ks' := ks) (mc := 0) (ms := 0) rfl rfl h ?_
      intro v222 G223 h
      refine e_aload_n d_L_law_665 rfl ?_
      refine e_aload_n d_L_law_666 rfl ?_
      refine e_iload_n d_L_law_667 rfl ?_
      refine e_iconst d_L_law_668 (by decide) ?_
      refine e_iadd d_L_law_669 o218 ?_
      refine e_tld_i (gn (gX e b m) 18) (gn (gX e b m) 19) (gscr (gX e b m)) (fun s h => h.2.2.2.2.2.2.2.2.2.2.2.2.2.2.2.2.2) (gscr_in _ _) d_L_law_670 o219 o220 ?_
      refine EV.inv fun hFf224 => ?_
      have f224 := (fx_mt 0 rfl hFf224).1
      refine e_callV m_M_holds 12 lw_good d_L_law_671 (k_M_holds _) ⟨Nat.le_of_ble_eq_true rfl, Nat.le_of_ble_eq_true rfl⟩ w_1696 w_1697 w_1698 (q_M _) rfl f224 (args := [(0, (gscr (gX e b m) (x3 + 1)))]) rfl rfl (Nat.le_of_ble_eq_true rfl) (kc' := kc) (ks' := ks) (mc := 0) (ms := 0) rfl rfl h ?_
      intro v225 G226 h
      refine e_icmp_eq (tgt := 1589) d_L_law_674 (by decide) (fun q227 => ?_) (fun q228 => ?_)
      · have h := h.1 q227
        obtain ⟨o229, h⟩ := h
        refine e_iinc (ls' := [(2, ((gn (gX e b m) 18 : Int) + 1)), (2, ((b : Int) + 1)), (2, (m + 0)), (0, (x3 + 6))]) d_L_law_1589 rfl (by decide) o229 rfl ?_
        refine e_goto (tgt := 18) d_L_law_1592 (by decide) ?_
        exact e_forget (ls' := [(2, ((gn (gX e b m) 18 : Int) + 1)), (2, ((b : Int) + 1)), (2, (m + 0)), (0, (x3 + 6))]) ⟨Or.inr rfl, Or.inr rfl, Or.inr rfl, Or.inr rfl, trivial⟩ h
      · have h := h.2 q228
        refine e_iconst d_L_law_677 (by decide) ?_
        exact e_zret .boolean d_L_law_678 rfl (by decide) h
    by_cases q230 : (gand (gscr (gX e b m) x3) 63) = 12
    · have h := hs12 q230
      refine e_tableIn (tgt := 679) d_L_law_33 (by omega) (by omega) (by rw [show (gand (gscr (gX e b m) x3) 63) = 12 from q230]; rfl) (by decide) ?_
      refine e_aload_n d_L_law_679 rfl ?_
      refine e_aload_n d_L_law_680 rfl ?_
      refine e_iload_n d_L_law_681 rfl ?_
      refine e_iconst d_L_law_682 (by decide) ?_
      obtain ⟨o231, h⟩ := h
      refine e_iadd d_L_law_683 o231 ?_
      obtain ⟨o232, o233, h⟩ := h
      refine e_tld_i (gn (gX e b m) 18) (gn (gX e b m) 19) (gscr (gX e b m)) (fun s h => h.2.2.2.2.2.2.2.2.2.2.2.2.2.2.2.2.2) (gscr_in _ _) d_L_law_684 o232 o233 ?_
      refine EV.inv fun hFf234 => ?_
      have f234 := (fx_ct 0 rfl hFf234).1
      refine e_callV m_C_worthIn 11 lw_good d_L_law_685 (k_C_worthIn _) ⟨Nat.le_of_ble_eq_true rfl, Nat.le_of_ble_eq_true rfl⟩ w_855 w_856 w_857 (q_C _) rfl f234 (args := [(0, (gscr (gX e b m) (x3 + 1)))]) rfl rfl (Nat.le_of_ble_eq_true rfl) (kc' := kc) (ks' := ks) (mc := 0) (ms := 0) rfl rfl h ?_
      intro v235 G236 h
      refine e_aload_n d_L_law_688 rfl ?_
      refine e_aload_n d_L_law_689 rfl ?_
      refine e_iload_n d_L_law_690 rfl ?_
      refine e_iconst d_L_law_691 (by decide) ?_
      refine e_iadd d_L_law_692 o231 ?_
      refine e_tld_i (gn (gX e b m) 18) (gn (gX e b m) 19) (gscr (gX e b m)) (fun s h => h.2.2.2.2.2.2.2.2.2.2.2.2.2.2.2.2.2) (gscr_in _ _) d_L_law_693 o232 o233 ?_
      refine EV.inv fun hFf237 => ?_
      have f237 := (fx_mt 0 rfl hFf237).1
      refine e_callV m_M_worthIn 12 lw_good d_L_law_694 (k_M_worthIn _) ⟨Nat.le_of_ble_eq_true rfl, Nat.le_of_ble_eq_true rfl⟩ w_1700 w_1701 w_1702 (q_M _) rfl f237 (args := [(0, (gscr (gX e b m) (x3 + 1)))]) rfl rfl (Nat.le_of_ble_eq_true rfl) (kc' := kc) (ks' := ks) (mc := 0) (ms := 0) rfl rfl h ?_
      intro v238 G239 h
      refine e_icmp_eq (tgt := 1589) d_L_law_697 (by decide) (fun q240 => ?_) (fun q241 => ?_)
      · have h := h.1 q240
        obtain ⟨o242, h⟩ := h
        refine e_iinc (ls' := [(2, ((gn (gX e b m) 18 : Int) + 1)), (2, ((b : Int) + 1)), (2, (m + 0)), (0, (x3 + 6))]) d_L_law_1589 rfl (by decide) o242 rfl ?_
        refine e_goto (tgt := 18) d_L_law_1592 (by decide) ?_
        exact e_forget (ls' := [(2, ((gn (gX e b m) 18 : Int) + 1)), (2, ((b : Int) + 1)), (2, (m + 0)), (0, (x3 + 6))]) ⟨Or.inr rfl, Or.inr rfl, Or.inr rfl, Or.inr rfl, trivial⟩ h
      · have h := h.2 q241
        refine e_iconst d_L_law_700 (by decide) ?_
        exact e_zret .boolean d_L_law_701 rfl (by decide) h
    by_cases q243 : (gand (gscr (gX e b m) x3) 63) = 13
    · have h := hs13 q243
      refine e_tableIn (tgt := 702) d_L_law_33 (by omega) (by omega) (by rw [show (gand (gscr (gX e b m) x3) 63) = 13 from q243]; rfl) (by decide) ?_
      refine e_aload_n d_L_law_702 rfl ?_
      refine e_aload_n d_L_law_703 rfl ?_
      refine e_iload_n d_L_law_704 rfl ?_
      refine e_iconst d_L_law_705 (by decide) ?_
      obtain ⟨o244, h⟩ := h
      refine e_iadd d_L_law_706 o244 ?_
      obtain ⟨o245, o246, h⟩ := h
      refine e_tld_i (gn (gX e b m) 18) (gn (gX e b m) 19) (gscr (gX e b m)) (fun s h => h.2.2.2.2.2.2.2.2.2.2.2.2.2.2.2.2.2) (gscr_in _ _) d_L_law_707 o245 o246 ?_
      refine EV.inv fun hFf247 => ?_
      have f247 := (fx_ct 0 rfl hFf247).1
      obtain ⟨kc250, ks251, mc252, ms253, hkc250, hks251, h⟩ := h
      refine e_callV m_C_alarm 11 lw_good d_L_law_708 (k_C_alarm _) ⟨Nat.le_of_ble_eq_true rfl, Nat.le_of_ble_eq_true rfl⟩ w_860 w_861 w_862 (q_C _) rfl f247 (args := [(0, (gscr (gX e b m) (x3 + 1)))]) rfl rfl (Nat.le_of_ble_eq_true rfl) (kc' := kc250) (ks' := ks251) (mc := mc252) (ms := ms253) hkc250 hks251 h ?_
      intro v248 G249 h
      refine e_aload_n d_L_law_711 rfl ?_
      refine e_aload_n d_L_law_712 rfl ?_
      refine e_iload_n d_L_law_713 rfl ?_
      refine e_iconst d_L_law_714 (by decide) ?_
      refine e_iadd d_L_law_715 o244 ?_
      refine e_tld_i (gn (gX e b m) 18) (gn (gX e b m) 19) (gscr (gX e b m)) (fun s h => h.2.2.2.2.2.2.2.2.2.2.2.2.2.2.2.2.2) (gscr_in _ _) d_L_law_716 o245 o246 ?_
      refine EV.inv fun hFf254 => ?_
      have f254 := (fx_mt 0 rfl hFf254).1
      refine e_callV m_M_alarm 12 lw_good d_L_law_717 (k_M_alarm _) ⟨Nat.le_of_ble_eq_true rfl, Nat.le_of_ble_eq_true rfl⟩ w_1704 w_1705 w_1706 (q_M _) rfl f254 (args := [(0, (gscr (gX e b m) (x3 + 1)))]) rfl rfl (Nat.le_of_ble_eq_true rfl) (kc' := kc250) (ks' := ks251) (mc := 0) (ms := 0) rfl rfl h ?_
      intro v255 G256 h
      refine e_icmp_eq (tgt := 1589) d_L_law_720 (by decide) (fun q257 => ?_) (fun q258 => ?_)
      · have h := h.1 q257
        obtain ⟨o259, h⟩ := h
        refine e_iinc (ls' := [(2, ((gn (gX e b m) 18 : Int) + 1)), (2, ((b : Int) + 1)), (2, (m + 0)), (0, (x3 + 6))]) d_L_law_1589 rfl (by decide) o259 rfl ?_
        refine e_goto (tgt := 18) d_L_law_1592 (by decide) ?_
        exact e_forget (ls' := [(2, ((gn (gX e b m) 18 : Int) + 1)), (2, ((b : Int) + 1)), (2, (m + 0)), (0, (x3 + 6))]) ⟨Or.inr rfl, Or.inr rfl, Or.inr rfl, Or.inr rfl, trivial⟩ h
      · have h := h.2 q258
        refine e_iconst d_L_law_723 (by decide) ?_
        exact e_zret .boolean d_L_law_724 rfl (by decide) h
    by_cases q260 : (gand (gscr (gX e b m) x3) 63) = 14
    · have h := hs14 q260
      refine e_tableIn (tgt := 725) d_L_law_33 (by omega) (by omega) (by rw [show (gand (gscr (gX e b m) x3) 63) = 14 from q260]; rfl) (by decide) ?_
      refine e_aload_n d_L_law_725 rfl ?_
      refine e_aload_n d_L_law_726 rfl ?_
      refine e_iload_n d_L_law_727 rfl ?_
      refine e_iconst d_L_law_728 (by decide) ?_
      obtain ⟨o261, h⟩ := h
      refine e_iadd d_L_law_729 o261 ?_
      obtain ⟨o262, o263, h⟩ := h
      refine e_tld_i (gn (gX e b m) 18) (gn (gX e b m) 19) (gscr (gX e b m)) (fun s h => h.2.2.2.2.2.2.2.2.2.2.2.2.2.2.2.2.2) (gscr_in _ _) d_L_law_730 o262 o263 ?_
      refine e_if_eq (tgt := 738) d_L_law_731 (by decide) (fun q264 => ?_) (fun q265 => ?_)
      · have h := h.1 q264
        refine e_iconst d_L_law_738 (by decide) ?_
        refine EV.inv fun hFf697 => ?_
        have f697 := (fx_ct 0 rfl hFf697).1
        obtain ⟨kc700, ks701, mc702, ms703, hkc700, hks701, h⟩ := h
        refine e_callV m_C_plan 11 lw_good d_L_law_739 (k_C_plan _) ⟨Nat.le_of_ble_eq_true rfl, Nat.le_of_ble_eq_true rfl⟩ w_869 w_870 w_871 (q_C _) rfl f697 (args := [(0, 0)]) rfl rfl (Nat.le_of_ble_eq_true rfl) (kc' := kc700) (ks' := ks701) (mc := mc702) (ms := ms703) hkc700 hks701 h ?_
        intro v698 G699 h
        refine e_aload_n d_L_law_742 rfl ?_
        refine e_aload_n d_L_law_743 rfl ?_
        refine e_iload_n d_L_law_744 rfl ?_
        refine e_iconst d_L_law_745 (by decide) ?_
        refine e_iadd d_L_law_746 o261 ?_
        refine e_tld_i (gn (gX e b m) 18) (gn (gX e b m) 19) (gscr (gX e b m)) (fun s h => h.2.2.2.2.2.2.2.2.2.2.2.2.2.2.2.2.2) (gscr_in _ _) d_L_law_747 o262 o263 ?_
        refine e_if_eq (tgt := 755) d_L_law_748 (by decide) (fun q704 => ?_) (fun q705 => ?_)
        · refine e_iconst d_L_law_755 (by decide) ?_
          refine EV.inv fun hFf706 => ?_
          have f706 := (fx_mt 0 rfl hFf706).1
          refine e_callV m_M_plan 12 lw_good d_L_law_756 (k_M_plan _) ⟨Nat.le_of_ble_eq_true rfl, Nat.le_of_ble_eq_true rfl⟩ w_1708 w_1709 w_1710 (q_M _) rfl f706 (args := [(0, 0)]) rfl rfl (Nat.le_of_ble_eq_true rfl) (kc' := kc700) (ks' := ks701) (mc := 0) (ms := 0) rfl rfl h ?_
          intro v707 G708 h
          refine e_icmp_eq (tgt := 1589) d_L_law_759 (by decide) (fun q709 => ?_) (fun q710 => ?_)
          · have h := h.1 q709
            obtain ⟨o711, h⟩ := h
            refine e_iinc (ls' := [(2, ((gn (gX e b m) 18 : Int) + 1)), (2, ((b : Int) + 1)), (2, (m + 0)), (0, (x3 + 6))]) d_L_law_1589 rfl (by decide) o711 rfl ?_
            refine e_goto (tgt := 18) d_L_law_1592 (by decide) ?_
            exact e_forget (ls' := [(2, ((gn (gX e b m) 18 : Int) + 1)), (2, ((b : Int) + 1)), (2, (m + 0)), (0, (x3 + 6))]) ⟨Or.inr rfl, Or.inr rfl, Or.inr rfl, Or.inr rfl, trivial⟩ h
          · have h := h.2 q710
            refine e_iconst d_L_law_762 (by decide) ?_
            exact e_zret .boolean d_L_law_763 rfl (by decide) h
        · exact absurd q264 (by omega)
      · have h := h.2 q265
        refine e_iconst d_L_law_734 (by decide) ?_
        refine e_goto (tgt := 739) d_L_law_735 (by decide) ?_
        refine EV.inv fun hFf712 => ?_
        have f712 := (fx_ct 0 rfl hFf712).1
        obtain ⟨kc715, ks716, mc717, ms718, hkc715, hks716, h⟩ := h
        refine e_callV m_C_plan 11 lw_good d_L_law_739 (k_C_plan _) ⟨Nat.le_of_ble_eq_true rfl, Nat.le_of_ble_eq_true rfl⟩ w_869 w_870 w_871 (q_C _) rfl f712 (args := [(0, 1)]) rfl rfl (Nat.le_of_ble_eq_true rfl) (kc' := kc715) (ks' := ks716) (mc := mc717) (ms := ms718) hkc715 hks716 h ?_
        intro v713 G714 h
        refine e_aload_n d_L_law_742 rfl ?_
        refine e_aload_n d_L_law_743 rfl ?_
        refine e_iload_n d_L_law_744 rfl ?_
        refine e_iconst d_L_law_745 (by decide) ?_
        refine e_iadd d_L_law_746 o261 ?_
        refine e_tld_i (gn (gX e b m) 18) (gn (gX e b m) 19) (gscr (gX e b m)) (fun s h => h.2.2.2.2.2.2.2.2.2.2.2.2.2.2.2.2.2) (gscr_in _ _) d_L_law_747 o262 o263 ?_
        refine e_if_eq (tgt := 755) d_L_law_748 (by decide) (fun q719 => ?_) (fun q720 => ?_)
        · exact absurd q265 (by omega)
        · refine e_iconst d_L_law_751 (by decide) ?_
          refine e_goto (tgt := 756) d_L_law_752 (by decide) ?_
          refine EV.inv fun hFf721 => ?_
          have f721 := (fx_mt 0 rfl hFf721).1
          refine e_callV m_M_plan 12 lw_good d_L_law_756 (k_M_plan _) ⟨Nat.le_of_ble_eq_true rfl, Nat.le_of_ble_eq_true rfl⟩ w_1708 w_1709 w_1710 (q_M _) rfl f721 (args := [(0, 1)]) rfl rfl (Nat.le_of_ble_eq_true rfl) (kc' := kc715) (ks' := ks716) (mc := 0) (ms := 0) rfl rfl h ?_
          intro v722 G723 h
          refine e_icmp_eq (tgt := 1589) d_L_law_759 (by decide) (fun q724 => ?_) (fun q725 => ?_)
          · have h := h.1 q724
            obtain ⟨o726, h⟩ := h
            refine e_iinc (ls' := [(2, ((gn (gX e b m) 18 : Int) + 1)), (2, ((b : Int) + 1)), (2, (m + 0)), (0, (x3 + 6))]) d_L_law_1589 rfl (by decide) o726 rfl ?_
            refine e_goto (tgt := 18) d_L_law_1592 (by decide) ?_
            exact e_forget (ls' := [(2, ((gn (gX e b m) 18 : Int) + 1)), (2, ((b : Int) + 1)), (2, (m + 0)), (0, (x3 + 6))]) ⟨Or.inr rfl, Or.inr rfl, Or.inr rfl, Or.inr rfl, trivial⟩ h
          · have h := h.2 q725
            refine e_iconst d_L_law_762 (by decide) ?_
            exact e_zret .boolean d_L_law_763 rfl (by decide) h
    by_cases q266 : (gand (gscr (gX e b m) x3) 63) = 15
    · have h := hs15 q266
      refine e_tableIn (tgt := 764) d_L_law_33 (by omega) (by omega) (by rw [show (gand (gscr (gX e b m) x3) 63) = 15 from q266]; rfl) (by decide) ?_
      refine e_aload_n d_L_law_764 rfl ?_
      refine EV.inv fun hFf267 => ?_
      have f267 := (fx_ct 0 rfl hFf267).1
      obtain ⟨kc270, ks271, mc272, ms273, hkc270, hks271, h⟩ := h
      refine e_callV m_C_gap 11 lw_good d_L_law_765 (k_C_gap _) ⟨Nat.le_of_ble_eq_true rfl, Nat.le_of_ble_eq_true rfl⟩ w_886 w_887 w_888 (q_C _) rfl f267 (args := []) rfl rfl (Nat.le_of_ble_eq_true rfl) (kc' := kc270) (ks' := ks271) (mc := mc272) (ms := ms273) hkc270 hks271 h ?_
      intro v268 G269 h
      refine e_aload_n d_L_law_768 rfl ?_
      refine EV.inv fun hFf274 => ?_
      have f274 := (fx_mt 0 rfl hFf274).1
      refine e_callV m_M_gap 12 lw_good d_L_law_769 (k_M_gap _) ⟨Nat.le_of_ble_eq_true rfl, Nat.le_of_ble_eq_true rfl⟩ w_1712 w_1713 w_1714 (q_M _) rfl f274 (args := []) rfl rfl (Nat.le_of_ble_eq_true rfl) (kc' := kc270) (ks' := ks271) (mc := 0) (ms := 0) rfl rfl h ?_
      intro v275 G276 h
      refine e_icmp_eq (tgt := 1589) d_L_law_772 (by decide) (fun q277 => ?_) (fun q278 => ?_)
      · have h := h.1 q277
        obtain ⟨o279, h⟩ := h
        refine e_iinc (ls' := [(2, ((gn (gX e b m) 18 : Int) + 1)), (2, ((b : Int) + 1)), (2, (m + 0)), (0, (x3 + 6))]) d_L_law_1589 rfl (by decide) o279 rfl ?_
        refine e_goto (tgt := 18) d_L_law_1592 (by decide) ?_
        exact e_forget (ls' := [(2, ((gn (gX e b m) 18 : Int) + 1)), (2, ((b : Int) + 1)), (2, (m + 0)), (0, (x3 + 6))]) ⟨Or.inr rfl, Or.inr rfl, Or.inr rfl, Or.inr rfl, trivial⟩ h
      · have h := h.2 q278
        refine e_iconst d_L_law_775 (by decide) ?_
        exact e_zret .boolean d_L_law_776 rfl (by decide) h
    by_cases q280 : (gand (gscr (gX e b m) x3) 63) = 16
    · have h := hs16 q280
      refine e_tableIn (tgt := 777) d_L_law_33 (by omega) (by omega) (by rw [show (gand (gscr (gX e b m) x3) 63) = 16 from q280]; rfl) (by decide) ?_
      refine e_aload_n d_L_law_777 rfl ?_
      refine e_aload_n d_L_law_778 rfl ?_
      refine e_iload_n d_L_law_779 rfl ?_
      refine e_iconst d_L_law_780 (by decide) ?_
      obtain ⟨o281, h⟩ := h
      refine e_iadd d_L_law_781 o281 ?_
      obtain ⟨o282, o283, h⟩ := h
      refine e_tld_i (gn (gX e b m) 18) (gn (gX e b m) 19) (gscr (gX e b m)) (fun s h => h.2.2.2.2.2.2.2.2.2.2.2.2.2.2.2.2.2) (gscr_in _ _) d_L_law_782 o282 o283 ?_
      refine EV.inv fun hFf284 => ?_
      have f284 := (fx_ct 0 rfl hFf284).1
      obtain ⟨kc287, ks288, mc289, ms290, hkc287, hks288, h⟩ := h
      refine e_callV m_C_block 11 lw_good d_L_law_783 (k_C_block _) ⟨Nat.le_of_ble_eq_true rfl, Nat.le_of_ble_eq_true rfl⟩ w_894 w_895 w_896 (q_C _) rfl f284 (args := [(0, (gscr (gX e b m) (x3 + 1)))]) rfl rfl (Nat.le_of_ble_eq_true rfl) (kc' := kc287) (ks' := ks288) (mc := mc289) (ms := ms290) hkc287 hks288 h ?_
      intro v285 G286 h
      refine e_aload_n d_L_law_786 rfl ?_
      refine e_aload_n d_L_law_787 rfl ?_
      refine e_iload_n d_L_law_788 rfl ?_
      refine e_iconst d_L_law_789 (by decide) ?_
      refine e_iadd d_L_law_790 o281 ?_
      refine e_tld_i (gn (gX e b m) 18) (gn (gX e b m) 19) (gscr (gX e b m)) (fun s h => h.2.2.2.2.2.2.2.2.2.2.2.2.2.2.2.2.2) (gscr_in _ _) d_L_law_791 o282 o283 ?_
      refine EV.inv fun hFf291 => ?_
      have f291 := (fx_mt 0 rfl hFf291).1
      refine e_callV m_M_block 12 lw_good d_L_law_792 (k_M_block _) ⟨Nat.le_of_ble_eq_true rfl, Nat.le_of_ble_eq_true rfl⟩ w_1716 w_1717 w_1718 (q_M _) rfl f291 (args := [(0, (gscr (gX e b m) (x3 + 1)))]) rfl rfl (Nat.le_of_ble_eq_true rfl) (kc' := kc287) (ks' := ks288) (mc := 0) (ms := 0) rfl rfl h ?_
      intro v292 G293 h
      refine e_icmp_eq (tgt := 1589) d_L_law_795 (by decide) (fun q294 => ?_) (fun q295 => ?_)
      · have h := h.1 q294
        obtain ⟨o296, h⟩ := h
        refine e_iinc (ls' := [(2, ((gn (gX e b m) 18 : Int) + 1)), (2, ((b : Int) + 1)), (2, (m + 0)), (0, (x3 + 6))]) d_L_law_1589 rfl (by decide) o296 rfl ?_
        refine e_goto (tgt := 18) d_L_law_1592 (by decide) ?_
        exact e_forget (ls' := [(2, ((gn (gX e b m) 18 : Int) + 1)), (2, ((b : Int) + 1)), (2, (m + 0)), (0, (x3 + 6))]) ⟨Or.inr rfl, Or.inr rfl, Or.inr rfl, Or.inr rfl, trivial⟩ h
      · have h := h.2 q295
        refine e_iconst d_L_law_798 (by decide) ?_
        exact e_zret .boolean d_L_law_799 rfl (by decide) h
    by_cases q297 : (gand (gscr (gX e b m) x3) 63) = 17
    · have h := hs17 q297
      refine e_tableIn (tgt := 800) d_L_law_33 (by omega) (by omega) (by rw [show (gand (gscr (gX e b m) x3) 63) = 17 from q297]; rfl) (by decide) ?_
      refine e_aload_n d_L_law_800 rfl ?_
      refine e_aload_n d_L_law_801 rfl ?_
      refine e_iload_n d_L_law_802 rfl ?_
      refine e_iconst d_L_law_803 (by decide) ?_
      obtain ⟨o298, h⟩ := h
      refine e_iadd d_L_law_804 o298 ?_
      obtain ⟨o299, o300, h⟩ := h
      refine e_tld_i (gn (gX e b m) 18) (gn (gX e b m) 19) (gscr (gX e b m)) (fun s h => h.2.2.2.2.2.2.2.2.2.2.2.2.2.2.2.2.2) (gscr_in _ _) d_L_law_805 o299 o300 ?_
      refine e_aload_n d_L_law_806 rfl ?_
      refine e_iload_n d_L_law_807 rfl ?_
      refine e_iconst d_L_law_808 (by decide) ?_
      obtain ⟨o301, h⟩ := h
      refine e_iadd d_L_law_809 o301 ?_
      obtain ⟨o302, o303, h⟩ := h
      refine e_tld_i (gn (gX e b m) 18) (gn (gX e b m) 19) (gscr (gX e b m)) (fun s h => h.2.2.2.2.2.2.2.2.2.2.2.2.2.2.2.2.2) (gscr_in _ _) d_L_law_810 o302 o303 ?_
      refine EV.inv fun hFf304 => ?_
      have f304 := (fx_ct 0 rfl hFf304).1
      obtain ⟨kc307, ks308, mc309, ms310, hkc307, hks308, h⟩ := h
      refine e_callV m_C_late 11 lw_good d_L_law_811 (k_C_late _) ⟨Nat.le_of_ble_eq_true rfl, Nat.le_of_ble_eq_true rfl⟩ w_910 w_911 w_912 (q_C _) rfl f304 (args := [(0, (gscr (gX e b m) (x3 + 1))), (0, (gscr (gX e b m) (x3 + 2)))]) rfl rfl (Nat.le_of_ble_eq_true rfl) (kc' := kc307) (ks' := ks308) (mc := mc309) (ms := ms310) hkc307 hks308 h ?_
      intro v305 G306 h
      refine e_aload_n d_L_law_814 rfl ?_
      refine e_aload_n d_L_law_815 rfl ?_
      refine e_iload_n d_L_law_816 rfl ?_
      refine e_iconst d_L_law_817 (by decide) ?_
      refine e_iadd d_L_law_818 o298 ?_
      refine e_tld_i (gn (gX e b m) 18) (gn (gX e b m) 19) (gscr (gX e b m)) (fun s h => h.2.2.2.2.2.2.2.2.2.2.2.2.2.2.2.2.2) (gscr_in _ _) d_L_law_819 o299 o300 ?_
      refine e_aload_n d_L_law_820 rfl ?_
      refine e_iload_n d_L_law_821 rfl ?_
      refine e_iconst d_L_law_822 (by decide) ?_
      refine e_iadd d_L_law_823 o301 ?_
      refine e_tld_i (gn (gX e b m) 18) (gn (gX e b m) 19) (gscr (gX e b m)) (fun s h => h.2.2.2.2.2.2.2.2.2.2.2.2.2.2.2.2.2) (gscr_in _ _) d_L_law_824 o302 o303 ?_
      refine EV.inv fun hFf311 => ?_
      have f311 := (fx_mt 0 rfl hFf311).1
      refine e_callV m_M_late 12 lw_good d_L_law_825 (k_M_late _) ⟨Nat.le_of_ble_eq_true rfl, Nat.le_of_ble_eq_true rfl⟩ w_1720 w_1721 w_1722 (q_M _) rfl f311 (args := [(0, (gscr (gX e b m) (x3 + 1))), (0, (gscr (gX e b m) (x3 + 2)))]) rfl rfl (Nat.le_of_ble_eq_true rfl) (kc' := kc307) (ks' := ks308) (mc := 0) (ms := 0) rfl rfl h ?_
      intro v312 G313 h
      refine e_icmp_eq (tgt := 1589) d_L_law_828 (by decide) (fun q314 => ?_) (fun q315 => ?_)
      · have h := h.1 q314
        obtain ⟨o316, h⟩ := h
        refine e_iinc (ls' := [(2, ((gn (gX e b m) 18 : Int) + 1)), (2, ((b : Int) + 1)), (2, (m + 0)), (0, (x3 + 6))]) d_L_law_1589 rfl (by decide) o316 rfl ?_
        refine e_goto (tgt := 18) d_L_law_1592 (by decide) ?_
        exact e_forget (ls' := [(2, ((gn (gX e b m) 18 : Int) + 1)), (2, ((b : Int) + 1)), (2, (m + 0)), (0, (x3 + 6))]) ⟨Or.inr rfl, Or.inr rfl, Or.inr rfl, Or.inr rfl, trivial⟩ h
      · have h := h.2 q315
        refine e_iconst d_L_law_831 (by decide) ?_
        exact e_zret .boolean d_L_law_832 rfl (by decide) h
    by_cases q317 : (gand (gscr (gX e b m) x3) 63) = 18
    · have h := hs18 q317
      refine e_tableIn (tgt := 833) d_L_law_33 (by omega) (by omega) (by rw [show (gand (gscr (gX e b m) x3) 63) = 18 from q317]; rfl) (by decide) ?_
      refine e_aload_n d_L_law_833 rfl ?_
      refine e_aload_n d_L_law_834 rfl ?_
      refine e_iload_n d_L_law_835 rfl ?_
      refine e_iconst d_L_law_836 (by decide) ?_
      obtain ⟨o318, h⟩ := h
      refine e_iadd d_L_law_837 o318 ?_
      obtain ⟨o319, o320, h⟩ := h
      refine e_tld_i (gn (gX e b m) 18) (gn (gX e b m) 19) (gscr (gX e b m)) (fun s h => h.2.2.2.2.2.2.2.2.2.2.2.2.2.2.2.2.2) (gscr_in _ _) d_L_law_838 o319 o320 ?_
      refine EV.inv fun hFf321 => ?_
      have f321 := (fx_ct 0 rfl hFf321).1
      obtain ⟨kc324, ks325, mc326, ms327, hkc324, hks325, h⟩ := h
      refine e_callV m_C_minutes 11 lw_good d_L_law_839 (k_C_minutes _) ⟨Nat.le_of_ble_eq_true rfl, Nat.le_of_ble_eq_true rfl⟩ w_932 w_933 w_934 (q_C _) rfl f321 (args := [(0, (gscr (gX e b m) (x3 + 1)))]) rfl rfl (Nat.le_of_ble_eq_true rfl) (kc' := kc324) (ks' := ks325) (mc := mc326) (ms := ms327) hkc324 hks325 h ?_
      intro v322 G323 h
      refine e_aload_n d_L_law_842 rfl ?_
      refine e_aload_n d_L_law_843 rfl ?_
      refine e_iload_n d_L_law_844 rfl ?_
      refine e_iconst d_L_law_845 (by decide) ?_
      refine e_iadd d_L_law_846 o318 ?_
      refine e_tld_i (gn (gX e b m) 18) (gn (gX e b m) 19) (gscr (gX e b m)) (fun s h => h.2.2.2.2.2.2.2.2.2.2.2.2.2.2.2.2.2) (gscr_in _ _) d_L_law_847 o319 o320 ?_
      refine EV.inv fun hFf328 => ?_
      have f328 := (fx_mt 0 rfl hFf328).1
      refine e_callV m_M_minutes 12 lw_good d_L_law_848 (k_M_minutes _) ⟨Nat.le_of_ble_eq_true rfl, Nat.le_of_ble_eq_true rfl⟩ w_1724 w_1725 w_1726 (q_M _) rfl f328 (args := [(0, (gscr (gX e b m) (x3 + 1)))]) rfl rfl (Nat.le_of_ble_eq_true rfl) (kc' := kc324) (ks' := ks325) (mc := 0) (ms := 0) rfl rfl h ?_
      intro v329 G330 h
      refine e_icmp_eq (tgt := 1589) d_L_law_851 (by decide) (fun q331 => ?_) (fun q332 => ?_)
      · have h := h.1 q331
        obtain ⟨o333, h⟩ := h
        refine e_iinc (ls' := [(2, ((gn (gX e b m) 18 : Int) + 1)), (2, ((b : Int) + 1)), (2, (m + 0)), (0, (x3 + 6))]) d_L_law_1589 rfl (by decide) o333 rfl ?_
        refine e_goto (tgt := 18) d_L_law_1592 (by decide) ?_
        exact e_forget (ls' := [(2, ((gn (gX e b m) 18 : Int) + 1)), (2, ((b : Int) + 1)), (2, (m + 0)), (0, (x3 + 6))]) ⟨Or.inr rfl, Or.inr rfl, Or.inr rfl, Or.inr rfl, trivial⟩ h
      · have h := h.2 q332
        refine e_iconst d_L_law_854 (by decide) ?_
        exact e_zret .boolean d_L_law_855 rfl (by decide) h
    by_cases q334 : (gand (gscr (gX e b m) x3) 63) = 19
    · have h := hs19 q334
      refine e_tableIn (tgt := 856) d_L_law_33 (by omega) (by omega) (by rw [show (gand (gscr (gX e b m) x3) 63) = 19 from q334]; rfl) (by decide) ?_
      refine e_aload_n d_L_law_856 rfl ?_
      refine e_aload_n d_L_law_857 rfl ?_
      refine e_iload_n d_L_law_858 rfl ?_
      refine e_iconst d_L_law_859 (by decide) ?_
      obtain ⟨o335, h⟩ := h
      refine e_iadd d_L_law_860 o335 ?_
      obtain ⟨o336, o337, h⟩ := h
      refine e_tld_i (gn (gX e b m) 18) (gn (gX e b m) 19) (gscr (gX e b m)) (fun s h => h.2.2.2.2.2.2.2.2.2.2.2.2.2.2.2.2.2) (gscr_in _ _) d_L_law_861 o336 o337 ?_
      refine EV.inv fun hFf338 => ?_
      have f338 := (fx_ct 0 rfl hFf338).1
      refine e_callV m_C_far 11 lw_good d_L_law_862 (k_C_far _) ⟨Nat.le_of_ble_eq_true rfl, Nat.le_of_ble_eq_true rfl⟩ w_786 w_787 w_788 (q_C _) rfl f338 (args := [(0, (gscr (gX e b m) (x3 + 1)))]) rfl rfl (Nat.le_of_ble_eq_true rfl) (kc' := kc) (ks' := ks) (mc := 0) (ms := 0) rfl rfl h ?_
      intro v339 G340 h
      refine e_aload_n d_L_law_865 rfl ?_
      refine e_aload_n d_L_law_866 rfl ?_
      refine e_iload_n d_L_law_867 rfl ?_
      refine e_iconst d_L_law_868 (by decide) ?_
      refine e_iadd d_L_law_869 o335 ?_
      refine e_tld_i (gn (gX e b m) 18) (gn (gX e b m) 19) (gscr (gX e b m)) (fun s h => h.2.2.2.2.2.2.2.2.2.2.2.2.2.2.2.2.2) (gscr_in _ _) d_L_law_870 o336 o337 ?_
      refine EV.inv fun hFf341 => ?_
      have f341 := (fx_mt 0 rfl hFf341).1
      refine e_callV m_M_far 12 lw_good d_L_law_871 (k_M_far _) ⟨Nat.le_of_ble_eq_true rfl, Nat.le_of_ble_eq_true rfl⟩ w_1740 w_1741 w_1742 (q_M _) rfl f341 (args := [(0, (gscr (gX e b m) (x3 + 1)))]) rfl rfl (Nat.le_of_ble_eq_true rfl) (kc' := kc) (ks' := ks) (mc := 0) (ms := 0) rfl rfl h ?_
      intro v342 G343 h
      refine e_icmp_eq (tgt := 1589) d_L_law_874 (by decide) (fun q344 => ?_) (fun q345 => ?_)
      · have h := h.1 q344
        obtain ⟨o346, h⟩ := h
        refine e_iinc (ls' := [(2, ((gn (gX e b m) 18 : Int) + 1)), (2, ((b : Int) + 1)), (2, (m + 0)), (0, (x3 + 6))]) d_L_law_1589 rfl (by decide) o346 rfl ?_
        refine e_goto (tgt := 18) d_L_law_1592 (by decide) ?_
        exact e_forget (ls' := [(2, ((gn (gX e b m) 18 : Int) + 1)), (2, ((b : Int) + 1)), (2, (m + 0)), (0, (x3 + 6))]) ⟨Or.inr rfl, Or.inr rfl, Or.inr rfl, Or.inr rfl, trivial⟩ h
      · have h := h.2 q345
        refine e_iconst d_L_law_877 (by decide) ?_
        exact e_zret .boolean d_L_law_878 rfl (by decide) h
    by_cases q347 : (gand (gscr (gX e b m) x3) 63) = 20
    · have h := hs20 q347
      refine e_tableIn (tgt := 879) d_L_law_33 (by omega) (by omega) (by rw [show (gand (gscr (gX e b m) x3) 63) = 20 from q347]; rfl) (by decide) ?_
      refine e_aload_n d_L_law_879 rfl ?_
      refine e_aload_n d_L_law_880 rfl ?_
      refine e_iload_n d_L_law_881 rfl ?_
      refine e_iconst d_L_law_882 (by decide) ?_
      obtain ⟨o348, h⟩ := h
      refine e_iadd d_L_law_883 o348 ?_
      obtain ⟨o349, o350, h⟩ := h
      refine e_tld_i (gn (gX e b m) 18) (gn (gX e b m) 19) (gscr (gX e b m)) (fun s h => h.2.2.2.2.2.2.2.2.2.2.2.2.2.2.2.2.2) (gscr_in _ _) d_L_law_884 o349 o350 ?_
      refine EV.inv fun hFf351 => ?_
      have f351 := (fx_ct 0 rfl hFf351).1
      refine e_callV m_C_given 11 lw_good d_L_law_885 (k_C_given _) ⟨Nat.le_of_ble_eq_true rfl, Nat.le_of_ble_eq_true rfl⟩ w_995 w_996 w_997 (q_C _) rfl f351 (args := [(0, (gscr (gX e b m) (x3 + 1)))]) rfl rfl (Nat.le_of_ble_eq_true rfl) (kc' := kc) (ks' := ks) (mc := 0) (ms := 0) rfl rfl h ?_
      intro v352 G353 h
      refine e_aload_n d_L_law_888 rfl ?_
      refine e_aload_n d_L_law_889 rfl ?_
      refine e_iload_n d_L_law_890 rfl ?_
      refine e_iconst d_L_law_891 (by decide) ?_
      refine e_iadd d_L_law_892 o348 ?_
      refine e_tld_i (gn (gX e b m) 18) (gn (gX e b m) 19) (gscr (gX e b m)) (fun s h => h.2.2.2.2.2.2.2.2.2.2.2.2.2.2.2.2.2) (gscr_in _ _) d_L_law_893 o349 o350 ?_
      refine EV.inv fun hFf354 => ?_
      have f354 := (fx_mt 0 rfl hFf354).1
      refine e_callV m_M_given 12 lw_good d_L_law_894 (k_M_given _) ⟨Nat.le_of_ble_eq_true rfl, Nat.le_of_ble_eq_true rfl⟩ w_1744 w_1745 w_1746 (q_M _) rfl f354 (args := [(0, (gscr (gX e b m) (x3 + 1)))]) rfl rfl (Nat.le_of_ble_eq_true rfl) (kc' := kc) (ks' := ks) (mc := 0) (ms := 0) rfl rfl h ?_
      intro v355 G356 h
      refine e_icmp_eq (tgt := 1589) d_L_law_897 (by decide) (fun q357 => ?_) (fun q358 => ?_)
      · have h := h.1 q357
        obtain ⟨o359, h⟩ := h
        refine e_iinc (ls' := [(2, ((gn (gX e b m) 18 : Int) + 1)), (2, ((b : Int) + 1)), (2, (m + 0)), (0, (x3 + 6))]) d_L_law_1589 rfl (by decide) o359 rfl ?_
        refine e_goto (tgt := 18) d_L_law_1592 (by decide) ?_
        exact e_forget (ls' := [(2, ((gn (gX e b m) 18 : Int) + 1)), (2, ((b : Int) + 1)), (2, (m + 0)), (0, (x3 + 6))]) ⟨Or.inr rfl, Or.inr rfl, Or.inr rfl, Or.inr rfl, trivial⟩ h
      · have h := h.2 q358
        refine e_iconst d_L_law_900 (by decide) ?_
        exact e_zret .boolean d_L_law_901 rfl (by decide) h
    by_cases q360 : (gand (gscr (gX e b m) x3) 63) = 21
    · have h := hs21 q360
      refine e_tableIn (tgt := 902) d_L_law_33 (by omega) (by omega) (by rw [show (gand (gscr (gX e b m) x3) 63) = 21 from q360]; rfl) (by decide) ?_
      refine e_aload_n d_L_law_902 rfl ?_
      refine e_aload_n d_L_law_903 rfl ?_
      refine e_iload_n d_L_law_904 rfl ?_
      refine e_iconst d_L_law_905 (by decide) ?_
      obtain ⟨o361, h⟩ := h
      refine e_iadd d_L_law_906 o361 ?_
      obtain ⟨o362, o363, h⟩ := h
      refine e_tld_i (gn (gX e b m) 18) (gn (gX e b m) 19) (gscr (gX e b m)) (fun s h => h.2.2.2.2.2.2.2.2.2.2.2.2.2.2.2.2.2) (gscr_in _ _) d_L_law_907 o362 o363 ?_
      refine EV.inv fun hFf364 => ?_
      have f364 := (fx_ct 0 rfl hFf364).1
      refine e_callV m_C_begins 11 lw_good d_L_law_908 (k_C_begins _) ⟨Nat.le_of_ble_eq_true rfl, Nat.le_of_ble_eq_true rfl⟩ w_1000 w_1001 w_1002 (q_C _) rfl f364 (args := [(0, (gscr (gX e b m) (x3 + 1)))]) rfl rfl (Nat.le_of_ble_eq_true rfl) (kc' := kc) (ks' := ks) (mc := 0) (ms := 0) rfl rfl h ?_
      intro v365 G366 h
      refine e_aload_n d_L_law_911 rfl ?_
      refine e_aload_n d_L_law_912 rfl ?_
      refine e_iload_n d_L_law_913 rfl ?_
      refine e_iconst d_L_law_914 (by decide) ?_
      refine e_iadd d_L_law_915 o361 ?_
      refine e_tld_i (gn (gX e b m) 18) (gn (gX e b m) 19) (gscr (gX e b m)) (fun s h => h.2.2.2.2.2.2.2.2.2.2.2.2.2.2.2.2.2) (gscr_in _ _) d_L_law_916 o362 o363 ?_
      refine EV.inv fun hFf367 => ?_
      have f367 := (fx_mt 0 rfl hFf367).1
      refine e_callV m_M_begins 12 lw_good d_L_law_917 (k_M_begins _) ⟨Nat.le_of_ble_eq_true rfl, Nat.le_of_ble_eq_true rfl⟩ w_1748 w_1749 w_1750 (q_M _) rfl f367 (args := [(0, (gscr (gX e b m) (x3 + 1)))]) rfl rfl (Nat.le_of_ble_eq_true rfl) (kc' := kc) (ks' := ks) (mc := 0) (ms := 0) rfl rfl h ?_
      intro v368 G369 h
      refine e_icmp_eq (tgt := 1589) d_L_law_920 (by decide) (fun q370 => ?_) (fun q371 => ?_)
      · have h := h.1 q370
        obtain ⟨o372, h⟩ := h
        refine e_iinc (ls' := [(2, ((gn (gX e b m) 18 : Int) + 1)), (2, ((b : Int) + 1)), (2, (m + 0)), (0, (x3 + 6))]) d_L_law_1589 rfl (by decide) o372 rfl ?_
        refine e_goto (tgt := 18) d_L_law_1592 (by decide) ?_
        exact e_forget (ls' := [(2, ((gn (gX e b m) 18 : Int) + 1)), (2, ((b : Int) + 1)), (2, (m + 0)), (0, (x3 + 6))]) ⟨Or.inr rfl, Or.inr rfl, Or.inr rfl, Or.inr rfl, trivial⟩ h
      · have h := h.2 q371
        refine e_iconst d_L_law_923 (by decide) ?_
        exact e_zret .boolean d_L_law_924 rfl (by decide) h
    by_cases q373 : (gand (gscr (gX e b m) x3) 63) = 22
    · have h := hs22 q373
      refine e_tableIn (tgt := 925) d_L_law_33 (by omega) (by omega) (by rw [show (gand (gscr (gX e b m) x3) 63) = 22 from q373]; rfl) (by decide) ?_
      refine e_aload_n d_L_law_925 rfl ?_
      refine e_aload_n d_L_law_926 rfl ?_
      refine e_iload_n d_L_law_927 rfl ?_
      refine e_iconst d_L_law_928 (by decide) ?_
      obtain ⟨o374, h⟩ := h
      refine e_iadd d_L_law_929 o374 ?_
      obtain ⟨o375, o376, h⟩ := h
      refine e_tld_i (gn (gX e b m) 18) (gn (gX e b m) 19) (gscr (gX e b m)) (fun s h => h.2.2.2.2.2.2.2.2.2.2.2.2.2.2.2.2.2) (gscr_in _ _) d_L_law_930 o375 o376 ?_
      refine e_aload_n d_L_law_931 rfl ?_
      refine e_iload_n d_L_law_932 rfl ?_
      refine e_iconst d_L_law_933 (by decide) ?_
      obtain ⟨o377, h⟩ := h
      refine e_iadd d_L_law_934 o377 ?_
      obtain ⟨o378, o379, h⟩ := h
      refine e_tld_i (gn (gX e b m) 18) (gn (gX e b m) 19) (gscr (gX e b m)) (fun s h => h.2.2.2.2.2.2.2.2.2.2.2.2.2.2.2.2.2) (gscr_in _ _) d_L_law_935 o378 o379 ?_
      refine e_aload_n d_L_law_936 rfl ?_
      refine e_iload_n d_L_law_937 rfl ?_
      refine e_iconst d_L_law_938 (by decide) ?_
      obtain ⟨o380, h⟩ := h
      refine e_iadd d_L_law_939 o380 ?_
      obtain ⟨o381, o382, h⟩ := h
      refine e_tld_i (gn (gX e b m) 18) (gn (gX e b m) 19) (gscr (gX e b m)) (fun s h => h.2.2.2.2.2.2.2.2.2.2.2.2.2.2.2.2.2) (gscr_in _ _) d_L_law_940 o381 o382 ?_
      refine EV.inv fun hFf383 => ?_
      have f383 := (fx_ct 0 rfl hFf383).1
      obtain ⟨kc386, ks387, mc388, ms389, hkc386, hks387, h⟩ := h
      refine e_callV m_C_place 11 lw_good d_L_law_941 (k_C_place _) ⟨Nat.le_of_ble_eq_true rfl, Nat.le_of_ble_eq_true rfl⟩ w_1009 w_1010 w_1011 (q_C _) rfl f383 (args := [(0, (gscr (gX e b m) (x3 + 1))), (0, (gscr (gX e b m) (x3 + 2))), (0, (gscr (gX e b m) (x3 + 3)))]) rfl rfl (Nat.le_of_ble_eq_true rfl) (kc' := kc386) (ks' := ks387) (mc := mc388) (ms := ms389) hkc386 hks387 h ?_
      intro v384 G385 h
      refine e_aload_n d_L_law_944 rfl ?_
      refine e_aload_n d_L_law_945 rfl ?_
      refine e_iload_n d_L_law_946 rfl ?_
      refine e_iconst d_L_law_947 (by decide) ?_
      refine e_iadd d_L_law_948 o374 ?_
      refine e_tld_i (gn (gX e b m) 18) (gn (gX e b m) 19) (gscr (gX e b m)) (fun s h => h.2.2.2.2.2.2.2.2.2.2.2.2.2.2.2.2.2) (gscr_in _ _) d_L_law_949 o375 o376 ?_
      refine e_aload_n d_L_law_950 rfl ?_
      refine e_iload_n d_L_law_951 rfl ?_
      refine e_iconst d_L_law_952 (by decide) ?_
      refine e_iadd d_L_law_953 o377 ?_
      refine e_tld_i (gn (gX e b m) 18) (gn (gX e b m) 19) (gscr (gX e b m)) (fun s h => h.2.2.2.2.2.2.2.2.2.2.2.2.2.2.2.2.2) (gscr_in _ _) d_L_law_954 o378 o379 ?_
      refine e_aload_n d_L_law_955 rfl ?_
      refine e_iload_n d_L_law_956 rfl ?_
      refine e_iconst d_L_law_957 (by decide) ?_
      refine e_iadd d_L_law_958 o380 ?_
      refine e_tld_i (gn (gX e b m) 18) (gn (gX e b m) 19) (gscr (gX e b m)) (fun s h => h.2.2.2.2.2.2.2.2.2.2.2.2.2.2.2.2.2) (gscr_in _ _) d_L_law_959 o381 o382 ?_
      refine EV.inv fun hFf390 => ?_
      have f390 := (fx_mt 0 rfl hFf390).1
      refine e_callV m_M_place 12 lw_good d_L_law_960 (k_M_place _) ⟨Nat.le_of_ble_eq_true rfl, Nat.le_of_ble_eq_true rfl⟩ w_1752 w_1753 w_1754 (q_M _) rfl f390 (args := [(0, (gscr (gX e b m) (x3 + 1))), (0, (gscr (gX e b m) (x3 + 2))), (0, (gscr (gX e b m) (x3 + 3)))]) rfl rfl (Nat.le_of_ble_eq_true rfl) (kc' := kc386) (ks' := ks387) (mc := 0) (ms := 0) rfl rfl h ?_
      intro v391 G392 h
      refine e_icmp_eq (tgt := 1589) d_L_law_963 (by decide) (fun q393 => ?_) (fun q394 => ?_)
      · have h := h.1 q393
        obtain ⟨o395, h⟩ := h
        refine e_iinc (ls' := [(2, ((gn (gX e b m) 18 : Int) + 1)), (2, ((b : Int) + 1)), (2, (m + 0)), (0, (x3 + 6))]) d_L_law_1589 rfl (by decide) o395 rfl ?_
        refine e_goto (tgt := 18) d_L_law_1592 (by decide) ?_
        exact e_forget (ls' := [(2, ((gn (gX e b m) 18 : Int) + 1)), (2, ((b : Int) + 1)), (2, (m + 0)), (0, (x3 + 6))]) ⟨Or.inr rfl, Or.inr rfl, Or.inr rfl, Or.inr rfl, trivial⟩ h
      · have h := h.2 q394
        refine e_iconst d_L_law_966 (by decide) ?_
        exact e_zret .boolean d_L_law_967 rfl (by decide) h
    by_cases q396 : (gand (gscr (gX e b m) x3) 63) = 23
    · have h := hs23 q396
      refine e_tableIn (tgt := 968) d_L_law_33 (by omega) (by omega) (by rw [show (gand (gscr (gX e b m) x3) 63) = 23 from q396]; rfl) (by decide) ?_
      refine e_aload_n d_L_law_968 rfl ?_
      refine e_aload_n d_L_law_969 rfl ?_
      refine e_iload_n d_L_law_970 rfl ?_
      refine e_iconst d_L_law_971 (by decide) ?_
      obtain ⟨o397, h⟩ := h
      refine e_iadd d_L_law_972 o397 ?_
      obtain ⟨o398, o399, h⟩ := h
      refine e_tld_i (gn (gX e b m) 18) (gn (gX e b m) 19) (gscr (gX e b m)) (fun s h => h.2.2.2.2.2.2.2.2.2.2.2.2.2.2.2.2.2) (gscr_in _ _) d_L_law_973 o398 o399 ?_
      refine e_aload_n d_L_law_974 rfl ?_
      refine e_iload_n d_L_law_975 rfl ?_
      refine e_iconst d_L_law_976 (by decide) ?_
      obtain ⟨o400, h⟩ := h
      refine e_iadd d_L_law_977 o400 ?_
      obtain ⟨o401, o402, h⟩ := h
      refine e_tld_i (gn (gX e b m) 18) (gn (gX e b m) 19) (gscr (gX e b m)) (fun s h => h.2.2.2.2.2.2.2.2.2.2.2.2.2.2.2.2.2) (gscr_in _ _) d_L_law_978 o401 o402 ?_
      refine EV.inv fun hFf403 => ?_
      have f403 := (fx_ct 0 rfl hFf403).1
      refine e_callV m_C_air 11 lw_good d_L_law_979 (k_C_air _) ⟨Nat.le_of_ble_eq_true rfl, Nat.le_of_ble_eq_true rfl⟩ w_1044 w_1045 w_1046 (q_C _) rfl f403 (args := [(0, (gscr (gX e b m) (x3 + 1))), (0, (gscr (gX e b m) (x3 + 2)))]) rfl rfl (Nat.le_of_ble_eq_true rfl) (kc' := kc) (ks' := ks) (mc := 0) (ms := 0) rfl rfl h ?_
      intro v404 G405 h
      refine e_aload_n d_L_law_982 rfl ?_
      refine e_aload_n d_L_law_983 rfl ?_
      refine e_iload_n d_L_law_984 rfl ?_
      refine e_iconst d_L_law_985 (by decide) ?_
      refine e_iadd d_L_law_986 o397 ?_
      refine e_tld_i (gn (gX e b m) 18) (gn (gX e b m) 19) (gscr (gX e b m)) (fun s h => h.2.2.2.2.2.2.2.2.2.2.2.2.2.2.2.2.2) (gscr_in _ _) d_L_law_987 o398 o399 ?_
      refine e_aload_n d_L_law_988 rfl ?_
      refine e_iload_n d_L_law_989 rfl ?_
      refine e_iconst d_L_law_990 (by decide) ?_
      refine e_iadd d_L_law_991 o400 ?_
      refine e_tld_i (gn (gX e b m) 18) (gn (gX e b m) 19) (gscr (gX e b m)) (fun s h => h.2.2.2.2.2.2.2.2.2.2.2.2.2.2.2.2.2) (gscr_in _ _) d_L_law_992 o401 o402 ?_
      refine EV.inv fun hFf406 => ?_
      have f406 := (fx_mt 0 rfl hFf406).1
      refine e_callV m_M_air 12 lw_good d_L_law_993 (k_M_air _) ⟨Nat.le_of_ble_eq_true rfl, Nat.le_of_ble_eq_true rfl⟩ w_1756 w_1757 w_1758 (q_M _) rfl f406 (args := [(0, (gscr (gX e b m) (x3 + 1))), (0, (gscr (gX e b m) (x3 + 2)))]) rfl rfl (Nat.le_of_ble_eq_true rfl) (kc' := kc) (ks' := ks) (mc := 0) (ms := 0) rfl rfl h ?_
      intro v407 G408 h
      refine e_icmp_eq (tgt := 1589) d_L_law_996 (by decide) (fun q409 => ?_) (fun q410 => ?_)
      · have h := h.1 q409
        obtain ⟨o411, h⟩ := h
        refine e_iinc (ls' := [(2, ((gn (gX e b m) 18 : Int) + 1)), (2, ((b : Int) + 1)), (2, (m + 0)), (0, (x3 + 6))]) d_L_law_1589 rfl (by decide) o411 rfl ?_
        refine e_goto (tgt := 18) d_L_law_1592 (by decide) ?_
        exact e_forget (ls' := [(2, ((gn (gX e b m) 18 : Int) + 1)), (2, ((b : Int) + 1)), (2, (m + 0)), (0, (x3 + 6))]) ⟨Or.inr rfl, Or.inr rfl, Or.inr rfl, Or.inr rfl, trivial⟩ h
      · have h := h.2 q410
        refine e_iconst d_L_law_999 (by decide) ?_
        exact e_zret .boolean d_L_law_1000 rfl (by decide) h
    by_cases q412 : (gand (gscr (gX e b m) x3) 63) = 24
    · have h := hs24 q412
      refine e_tableIn (tgt := 1001) d_L_law_33 (by omega) (by omega) (by rw [show (gand (gscr (gX e b m) x3) 63) = 24 from q412]; rfl) (by decide) ?_
      refine e_aload_n d_L_law_1001 rfl ?_
      refine e_aload_n d_L_law_1002 rfl ?_
      refine e_iload_n d_L_law_1003 rfl ?_
      refine e_iconst d_L_law_1004 (by decide) ?_
      obtain ⟨o413, h⟩ := h
      refine e_iadd d_L_law_1005 o413 ?_
      obtain ⟨o414, o415, h⟩ := h
      refine e_tld_i (gn (gX e b m) 18) (gn (gX e b m) 19) (gscr (gX e b m)) (fun s h => h.2.2.2.2.2.2.2.2.2.2.2.2.2.2.2.2.2) (gscr_in _ _) d_L_law_1006 o414 o415 ?_
      refine e_aload_n d_L_law_1007 rfl ?_
      refine e_iload_n d_L_law_1008 rfl ?_
      refine e_iconst d_L_law_1009 (by decide) ?_
      obtain ⟨o416, h⟩ := h
      refine e_iadd d_L_law_1010 o416 ?_
      obtain ⟨o417, o418, h⟩ := h
      refine e_tld_i (gn (gX e b m) 18) (gn (gX e b m) 19) (gscr (gX e b m)) (fun s h => h.2.2.2.2.2.2.2.2.2.2.2.2.2.2.2.2.2) (gscr_in _ _) d_L_law_1011 o417 o418 ?_
      refine EV.inv fun hFf419 => ?_
      have f419 := (fx_ct 0 rfl hFf419).1
      refine e_callV m_C_airIn 11 lw_good d_L_law_1012 (k_C_airIn _) ⟨Nat.le_of_ble_eq_true rfl, Nat.le_of_ble_eq_true rfl⟩ w_1067 w_1068 w_1069 (q_C _) rfl f419 (args := [(0, (gscr (gX e b m) (x3 + 1))), (0, (gscr (gX e b m) (x3 + 2)))]) rfl rfl (Nat.le_of_ble_eq_true rfl) (kc' := kc) (ks' := ks) (mc := 0) (ms := 0) rfl rfl h ?_
      intro v420 G421 h
      refine e_aload_n d_L_law_1015 rfl ?_
      refine e_aload_n d_L_law_1016 rfl ?_
      refine e_iload_n d_L_law_1017 rfl ?_
      refine e_iconst d_L_law_1018 (by decide) ?_
      refine e_iadd d_L_law_1019 o413 ?_
      refine e_tld_i (gn (gX e b m) 18) (gn (gX e b m) 19) (gscr (gX e b m)) (fun s h => h.2.2.2.2.2.2.2.2.2.2.2.2.2.2.2.2.2) (gscr_in _ _) d_L_law_1020 o414 o415 ?_
      refine e_aload_n d_L_law_1021 rfl ?_
      refine e_iload_n d_L_law_1022 rfl ?_
      refine e_iconst d_L_law_1023 (by decide) ?_
      refine e_iadd d_L_law_1024 o416 ?_
      refine e_tld_i (gn (gX e b m) 18) (gn (gX e b m) 19) (gscr (gX e b m)) (fun s h => h.2.2.2.2.2.2.2.2.2.2.2.2.2.2.2.2.2) (gscr_in _ _) d_L_law_1025 o417 o418 ?_
      refine EV.inv fun hFf422 => ?_
      have f422 := (fx_mt 0 rfl hFf422).1
      refine e_callV m_M_airIn 12 lw_good d_L_law_1026 (k_M_airIn _) ⟨Nat.le_of_ble_eq_true rfl, Nat.le_of_ble_eq_true rfl⟩ w_1764 w_1765 w_1766 (q_M _) rfl f422 (args := [(0, (gscr (gX e b m) (x3 + 1))), (0, (gscr (gX e b m) (x3 + 2)))]) rfl rfl (Nat.le_of_ble_eq_true rfl) (kc' := kc) (ks' := ks) (mc := 0) (ms := 0) rfl rfl h ?_
      intro v423 G424 h
      refine e_icmp_eq (tgt := 1589) d_L_law_1029 (by decide) (fun q425 => ?_) (fun q426 => ?_)
      · have h := h.1 q425
        obtain ⟨o427, h⟩ := h
        refine e_iinc (ls' := [(2, ((gn (gX e b m) 18 : Int) + 1)), (2, ((b : Int) + 1)), (2, (m + 0)), (0, (x3 + 6))]) d_L_law_1589 rfl (by decide) o427 rfl ?_
        refine e_goto (tgt := 18) d_L_law_1592 (by decide) ?_
        exact e_forget (ls' := [(2, ((gn (gX e b m) 18 : Int) + 1)), (2, ((b : Int) + 1)), (2, (m + 0)), (0, (x3 + 6))]) ⟨Or.inr rfl, Or.inr rfl, Or.inr rfl, Or.inr rfl, trivial⟩ h
      · have h := h.2 q426
        refine e_iconst d_L_law_1032 (by decide) ?_
        exact e_zret .boolean d_L_law_1033 rfl (by decide) h
    by_cases q428 : (gand (gscr (gX e b m) x3) 63) = 25
    · have h := hs25 q428
      refine e_tableIn (tgt := 1034) d_L_law_33 (by omega) (by omega) (by rw [show (gand (gscr (gX e b m) x3) 63) = 25 from q428]; rfl) (by decide) ?_
      refine e_aload_n d_L_law_1034 rfl ?_
      refine e_aload_n d_L_law_1035 rfl ?_
      refine e_iload_n d_L_law_1036 rfl ?_
      refine e_iconst d_L_law_1037 (by decide) ?_
      obtain ⟨o429, h⟩ := h
      refine e_iadd d_L_law_1038 o429 ?_
      obtain ⟨o430, o431, h⟩ := h
      refine e_tld_i (gn (gX e b m) 18) (gn (gX e b m) 19) (gscr (gX e b m)) (fun s h => h.2.2.2.2.2.2.2.2.2.2.2.2.2.2.2.2.2) (gscr_in _ _) d_L_law_1039 o430 o431 ?_
      refine e_aload_n d_L_law_1040 rfl ?_
      refine e_iload_n d_L_law_1041 rfl ?_
      refine e_iconst d_L_law_1042 (by decide) ?_
      obtain ⟨o432, h⟩ := h
      refine e_iadd d_L_law_1043 o432 ?_
      obtain ⟨o433, o434, h⟩ := h
      refine e_tld_i (gn (gX e b m) 18) (gn (gX e b m) 19) (gscr (gX e b m)) (fun s h => h.2.2.2.2.2.2.2.2.2.2.2.2.2.2.2.2.2) (gscr_in _ _) d_L_law_1044 o433 o434 ?_
      refine e_aload_n d_L_law_1045 rfl ?_
      refine e_iload_n d_L_law_1046 rfl ?_
      refine e_iconst d_L_law_1047 (by decide) ?_
      obtain ⟨o435, h⟩ := h
      refine e_iadd d_L_law_1048 o435 ?_
      obtain ⟨o436, o437, h⟩ := h
      refine e_tld_i (gn (gX e b m) 18) (gn (gX e b m) 19) (gscr (gX e b m)) (fun s h => h.2.2.2.2.2.2.2.2.2.2.2.2.2.2.2.2.2) (gscr_in _ _) d_L_law_1049 o436 o437 ?_
      refine EV.inv fun hFf438 => ?_
      have f438 := (fx_ct 0 rfl hFf438).1
      refine e_callV m_C_band 11 lw_good d_L_law_1050 (k_C_band _) ⟨Nat.le_of_ble_eq_true rfl, Nat.le_of_ble_eq_true rfl⟩ w_1083 w_1084 w_1085 (q_C _) rfl f438 (args := [(0, (gscr (gX e b m) (x3 + 1))), (0, (gscr (gX e b m) (x3 + 2))), (0, (gscr (gX e b m) (x3 + 3)))]) rfl rfl (Nat.le_of_ble_eq_true rfl) (kc' := kc) (ks' := ks) (mc := 0) (ms := 0) rfl rfl h ?_
      intro v439 G440 h
      refine e_aload_n d_L_law_1053 rfl ?_
      refine e_aload_n d_L_law_1054 rfl ?_
      refine e_iload_n d_L_law_1055 rfl ?_
      refine e_iconst d_L_law_1056 (by decide) ?_
      refine e_iadd d_L_law_1057 o429 ?_
      refine e_tld_i (gn (gX e b m) 18) (gn (gX e b m) 19) (gscr (gX e b m)) (fun s h => h.2.2.2.2.2.2.2.2.2.2.2.2.2.2.2.2.2) (gscr_in _ _) d_L_law_1058 o430 o431 ?_
      refine e_aload_n d_L_law_1059 rfl ?_
      refine e_iload_n d_L_law_1060 rfl ?_
      refine e_iconst d_L_law_1061 (by decide) ?_
      refine e_iadd d_L_law_1062 o432 ?_
      refine e_tld_i (gn (gX e b m) 18) (gn (gX e b m) 19) (gscr (gX e b m)) (fun s h => h.2.2.2.2.2.2.2.2.2.2.2.2.2.2.2.2.2) (gscr_in _ _) d_L_law_1063 o433 o434 ?_
      refine e_aload_n d_L_law_1064 rfl ?_
      refine e_iload_n d_L_law_1065 rfl ?_
      refine e_iconst d_L_law_1066 (by decide) ?_
      refine e_iadd d_L_law_1067 o435 ?_
      refine e_tld_i (gn (gX e b m) 18) (gn (gX e b m) 19) (gscr (gX e b m)) (fun s h => h.2.2.2.2.2.2.2.2.2.2.2.2.2.2.2.2.2) (gscr_in _ _) d_L_law_1068 o436 o437 ?_
      refine EV.inv fun hFf441 => ?_
      have f441 := (fx_mt 0 rfl hFf441).1
      refine e_callV m_M_band 12 lw_good d_L_law_1069 (k_M_band _) ⟨Nat.le_of_ble_eq_true rfl, Nat.le_of_ble_eq_true rfl⟩ w_1780 w_1781 w_1782 (q_M _) rfl f441 (args := [(0, (gscr (gX e b m) (x3 + 1))), (0, (gscr (gX e b m) (x3 + 2))), (0, (gscr (gX e b m) (x3 + 3)))]) rfl rfl (Nat.le_of_ble_eq_true rfl) (kc' := kc) (ks' := ks) (mc := 0) (ms := 0) rfl rfl h ?_
      intro v442 G443 h
      refine e_icmp_eq (tgt := 1589) d_L_law_1072 (by decide) (fun q444 => ?_) (fun q445 => ?_)
      · have h := h.1 q444
        obtain ⟨o446, h⟩ := h
        refine e_iinc (ls' := [(2, ((gn (gX e b m) 18 : Int) + 1)), (2, ((b : Int) + 1)), (2, (m + 0)), (0, (x3 + 6))]) d_L_law_1589 rfl (by decide) o446 rfl ?_
        refine e_goto (tgt := 18) d_L_law_1592 (by decide) ?_
        exact e_forget (ls' := [(2, ((gn (gX e b m) 18 : Int) + 1)), (2, ((b : Int) + 1)), (2, (m + 0)), (0, (x3 + 6))]) ⟨Or.inr rfl, Or.inr rfl, Or.inr rfl, Or.inr rfl, trivial⟩ h
      · have h := h.2 q445
        refine e_iconst d_L_law_1075 (by decide) ?_
        exact e_zret .boolean d_L_law_1076 rfl (by decide) h
    by_cases q447 : (gand (gscr (gX e b m) x3) 63) = 26
    · have h := hs26 q447
      refine e_tableIn (tgt := 1077) d_L_law_33 (by omega) (by omega) (by rw [show (gand (gscr (gX e b m) x3) 63) = 26 from q447]; rfl) (by decide) ?_
      refine e_aload_n d_L_law_1077 rfl ?_
      refine e_aload_n d_L_law_1078 rfl ?_
      refine e_iload_n d_L_law_1079 rfl ?_
      refine e_iconst d_L_law_1080 (by decide) ?_
      obtain ⟨o448, h⟩ := h
      refine e_iadd d_L_law_1081 o448 ?_
      obtain ⟨o449, o450, h⟩ := h
      refine e_tld_i (gn (gX e b m) 18) (gn (gX e b m) 19) (gscr (gX e b m)) (fun s h => h.2.2.2.2.2.2.2.2.2.2.2.2.2.2.2.2.2) (gscr_in _ _) d_L_law_1082 o449 o450 ?_
      refine e_aload_n d_L_law_1083 rfl ?_
      refine e_iload_n d_L_law_1084 rfl ?_
      refine e_iconst d_L_law_1085 (by decide) ?_
      obtain ⟨o451, h⟩ := h
      refine e_iadd d_L_law_1086 o451 ?_
      obtain ⟨o452, o453, h⟩ := h
      refine e_tld_i (gn (gX e b m) 18) (gn (gX e b m) 19) (gscr (gX e b m)) (fun s h => h.2.2.2.2.2.2.2.2.2.2.2.2.2.2.2.2.2) (gscr_in _ _) d_L_law_1087 o452 o453 ?_
      refine EV.inv fun hFf454 => ?_
      have f454 := (fx_ct 0 rfl hFf454).1
      refine e_callV m_C_keep 11 lw_good d_L_law_1088 (k_C_keep _) ⟨Nat.le_of_ble_eq_true rfl, Nat.le_of_ble_eq_true rfl⟩ w_1094 w_1095 w_1096 (q_C _) rfl f454 (args := [(0, (gscr (gX e b m) (x3 + 1))), (0, (gscr (gX e b m) (x3 + 2)))]) rfl rfl (Nat.le_of_ble_eq_true rfl) (kc' := kc) (ks' := ks) (mc := 0) (ms := 0) rfl rfl h ?_
      intro v455 G456 h
      refine e_aload_n d_L_law_1091 rfl ?_
      refine e_aload_n d_L_law_1092 rfl ?_
      refine e_iload_n d_L_law_1093 rfl ?_
      refine e_iconst d_L_law_1094 (by decide) ?_
      refine e_iadd d_L_law_1095 o448 ?_
      refine e_tld_i (gn (gX e b m) 18) (gn (gX e b m) 19) (gscr (gX e b m)) (fun s h => h.2.2.2.2.2.2.2.2.2.2.2.2.2.2.2.2.2) (gscr_in _ _) d_L_law_1096 o449 o450 ?_
      refine e_aload_n d_L_law_1097 rfl ?_
      refine e_iload_n d_L_law_1098 rfl ?_
      refine e_iconst d_L_law_1099 (by decide) ?_
      refine e_iadd d_L_law_1100 o451 ?_
      refine e_tld_i (gn (gX e b m) 18) (gn (gX e b m) 19) (gscr (gX e b m)) (fun s h => h.2.2.2.2.2.2.2.2.2.2.2.2.2.2.2.2.2) (gscr_in _ _) d_L_law_1101 o452 o453 ?_
      refine EV.inv fun hFf457 => ?_
      have f457 := (fx_mt 0 rfl hFf457).1
      refine e_callV m_M_keep 12 lw_good d_L_law_1102 (k_M_keep _) ⟨Nat.le_of_ble_eq_true rfl, Nat.le_of_ble_eq_true rfl⟩ w_1784 w_1785 w_1786 (q_M _) rfl f457 (args := [(0, (gscr (gX e b m) (x3 + 1))), (0, (gscr (gX e b m) (x3 + 2)))]) rfl rfl (Nat.le_of_ble_eq_true rfl) (kc' := kc) (ks' := ks) (mc := 0) (ms := 0) rfl rfl h ?_
      intro v458 G459 h
      refine e_icmp_eq (tgt := 1589) d_L_law_1105 (by decide) (fun q460 => ?_) (fun q461 => ?_)
      · have h := h.1 q460
        obtain ⟨o462, h⟩ := h
        refine e_iinc (ls' := [(2, ((gn (gX e b m) 18 : Int) + 1)), (2, ((b : Int) + 1)), (2, (m + 0)), (0, (x3 + 6))]) d_L_law_1589 rfl (by decide) o462 rfl ?_
        refine e_goto (tgt := 18) d_L_law_1592 (by decide) ?_
        exact e_forget (ls' := [(2, ((gn (gX e b m) 18 : Int) + 1)), (2, ((b : Int) + 1)), (2, (m + 0)), (0, (x3 + 6))]) ⟨Or.inr rfl, Or.inr rfl, Or.inr rfl, Or.inr rfl, trivial⟩ h
      · have h := h.2 q461
        refine e_iconst d_L_law_1108 (by decide) ?_
        exact e_zret .boolean d_L_law_1109 rfl (by decide) h
    by_cases q463 : (gand (gscr (gX e b m) x3) 63) = 27
    · have h := hs27 q463
      refine e_tableIn (tgt := 1110) d_L_law_33 (by omega) (by omega) (by rw [show (gand (gscr (gX e b m) x3) 63) = 27 from q463]; rfl) (by decide) ?_
      refine e_aload_n d_L_law_1110 rfl ?_
      refine e_aload_n d_L_law_1111 rfl ?_
      refine e_iload_n d_L_law_1112 rfl ?_
      refine e_iconst d_L_law_1113 (by decide) ?_
      obtain ⟨o464, h⟩ := h
      refine e_iadd d_L_law_1114 o464 ?_
      obtain ⟨o465, o466, h⟩ := h
      refine e_tld_i (gn (gX e b m) 18) (gn (gX e b m) 19) (gscr (gX e b m)) (fun s h => h.2.2.2.2.2.2.2.2.2.2.2.2.2.2.2.2.2) (gscr_in _ _) d_L_law_1115 o465 o466 ?_
      refine EV.inv fun hFf467 => ?_
      have f467 := (fx_ct 0 rfl hFf467).1
      refine e_callV m_C_fuel 11 lw_good d_L_law_1116 (k_C_fuel _) ⟨Nat.le_of_ble_eq_true rfl, Nat.le_of_ble_eq_true rfl⟩ w_1106 w_1107 w_1108 (q_C _) rfl f467 (args := [(0, (gscr (gX e b m) (x3 + 1)))]) rfl rfl (Nat.le_of_ble_eq_true rfl) (kc' := kc) (ks' := ks) (mc := 0) (ms := 0) rfl rfl h ?_
      intro v468 G469 h
      refine e_aload_n d_L_law_1119 rfl ?_
      refine e_aload_n d_L_law_1120 rfl ?_
      refine e_iload_n d_L_law_1121 rfl ?_
      refine e_iconst d_L_law_1122 (by decide) ?_
      refine e_iadd d_L_law_1123 o464 ?_
      refine e_tld_i (gn (gX e b m) 18) (gn (gX e b m) 19) (gscr (gX e b m)) (fun s h => h.2.2.2.2.2.2.2.2.2.2.2.2.2.2.2.2.2) (gscr_in _ _) d_L_law_1124 o465 o466 ?_
      refine EV.inv fun hFf470 => ?_
      have f470 := (fx_mt 0 rfl hFf470).1
      refine e_callV m_M_fuel 12 lw_good d_L_law_1125 (k_M_fuel _) ⟨Nat.le_of_ble_eq_true rfl, Nat.le_of_ble_eq_true rfl⟩ w_1788 w_1789 w_1790 (q_M _) rfl f470 (args := [(0, (gscr (gX e b m) (x3 + 1)))]) rfl rfl (Nat.le_of_ble_eq_true rfl) (kc' := kc) (ks' := ks) (mc := 0) (ms := 0) rfl rfl h ?_
      intro v471 G472 h
      refine e_icmp_eq (tgt := 1589) d_L_law_1128 (by decide) (fun q473 => ?_) (fun q474 => ?_)
      · have h := h.1 q473
        obtain ⟨o475, h⟩ := h
        refine e_iinc (ls' := [(2, ((gn (gX e b m) 18 : Int) + 1)), (2, ((b : Int) + 1)), (2, (m + 0)), (0, (x3 + 6))]) d_L_law_1589 rfl (by decide) o475 rfl ?_
        refine e_goto (tgt := 18) d_L_law_1592 (by decide) ?_
        exact e_forget (ls' := [(2, ((gn (gX e b m) 18 : Int) + 1)), (2, ((b : Int) + 1)), (2, (m + 0)), (0, (x3 + 6))]) ⟨Or.inr rfl, Or.inr rfl, Or.inr rfl, Or.inr rfl, trivial⟩ h
      · have h := h.2 q474
        refine e_iconst d_L_law_1131 (by decide) ?_
        exact e_zret .boolean d_L_law_1132 rfl (by decide) h
    by_cases q476 : (gand (gscr (gX e b m) x3) 63) = 28
    · have h := hs28 q476
      refine e_tableIn (tgt := 1133) d_L_law_33 (by omega) (by omega) (by rw [show (gand (gscr (gX e b m) x3) 63) = 28 from q476]; rfl) (by decide) ?_
      refine e_aload_n d_L_law_1133 rfl ?_
      refine e_aload_n d_L_law_1134 rfl ?_
      refine e_iload_n d_L_law_1135 rfl ?_
      refine e_iconst d_L_law_1136 (by decide) ?_
      obtain ⟨o477, h⟩ := h
      refine e_iadd d_L_law_1137 o477 ?_
      obtain ⟨o478, o479, h⟩ := h
      refine e_tld_i (gn (gX e b m) 18) (gn (gX e b m) 19) (gscr (gX e b m)) (fun s h => h.2.2.2.2.2.2.2.2.2.2.2.2.2.2.2.2.2) (gscr_in _ _) d_L_law_1138 o478 o479 ?_
      refine e_if_eq (tgt := 1146) d_L_law_1139 (by decide) (fun q480 => ?_) (fun q481 => ?_)
      · have h := h.1 q480
        refine e_iconst d_L_law_1146 (by decide) ?_
        refine EV.inv fun hFf727 => ?_
        have f727 := (fx_ct 0 rfl hFf727).1
        obtain ⟨kc730, ks731, mc732, ms733, hkc730, hks731, h⟩ := h
        refine e_callV m_C_spread 11 lw_good d_L_law_1147 (k_C_spread _) ⟨Nat.le_of_ble_eq_true rfl, Nat.le_of_ble_eq_true rfl⟩ w_1116 w_1117 w_1118 (q_C _) rfl f727 (args := [(0, 0)]) rfl rfl (Nat.le_of_ble_eq_true rfl) (kc' := kc730) (ks' := ks731) (mc := mc732) (ms := ms733) hkc730 hks731 h ?_
        intro v728 G729 h
        refine e_aload_n d_L_law_1150 rfl ?_
        refine e_aload_n d_L_law_1151 rfl ?_
        refine e_iload_n d_L_law_1152 rfl ?_
        refine e_iconst d_L_law_1153 (by decide) ?_
        refine e_iadd d_L_law_1154 o477 ?_
        refine e_tld_i (gn (gX e b m) 18) (gn (gX e b m) 19) (gscr (gX e b m)) (fun s h => h.2.2.2.2.2.2.2.2.2.2.2.2.2.2.2.2.2) (gscr_in _ _) d_L_law_1155 o478 o479 ?_
        refine e_if_eq (tgt := 1163) d_L_law_1156 (by decide) (fun q734 => ?_) (fun q735 => ?_)
        · refine e_iconst d_L_law_1163 (by decide) ?_
          refine EV.inv fun hFf736 => ?_
          have f736 := (fx_mt 0 rfl hFf736).1
          refine e_callV m_M_spread 12 lw_good d_L_law_1164 (k_M_spread _) ⟨Nat.le_of_ble_eq_true rfl, Nat.le_of_ble_eq_true rfl⟩ w_1793 w_1794 w_1795 (q_M _) rfl f736 (args := [(0, 0)]) rfl rfl (Nat.le_of_ble_eq_true rfl) (kc' := kc730) (ks' := ks731) (mc := 0) (ms := 0) rfl rfl h ?_
          intro v737 G738 h
          refine e_icmp_eq (tgt := 1589) d_L_law_1167 (by decide) (fun q739 => ?_) (fun q740 => ?_)
          · have h := h.1 q739
            obtain ⟨o741, h⟩ := h
            refine e_iinc (ls' := [(2, ((gn (gX e b m) 18 : Int) + 1)), (2, ((b : Int) + 1)), (2, (m + 0)), (0, (x3 + 6))]) d_L_law_1589 rfl (by decide) o741 rfl ?_
            refine e_goto (tgt := 18) d_L_law_1592 (by decide) ?_
            exact e_forget (ls' := [(2, ((gn (gX e b m) 18 : Int) + 1)), (2, ((b : Int) + 1)), (2, (m + 0)), (0, (x3 + 6))]) ⟨Or.inr rfl, Or.inr rfl, Or.inr rfl, Or.inr rfl, trivial⟩ h
          · have h := h.2 q740
            refine e_iconst d_L_law_1170 (by decide) ?_
            exact e_zret .boolean d_L_law_1171 rfl (by decide) h
        · exact absurd q480 (by omega)
      · have h := h.2 q481
        refine e_iconst d_L_law_1142 (by decide) ?_
        refine e_goto (tgt := 1147) d_L_law_1143 (by decide) ?_
        refine EV.inv fun hFf742 => ?_
        have f742 := (fx_ct 0 rfl hFf742).1
        obtain ⟨kc745, ks746, mc747, ms748, hkc745, hks746, h⟩ := h
        refine e_callV m_C_spread 11 lw_good d_L_law_1147 (k_C_spread _) ⟨Nat.le_of_ble_eq_true rfl, Nat.le_of_ble_eq_true rfl⟩ w_1116 w_1117 w_1118 (q_C _) rfl f742 (args := [(0, 1)]) rfl rfl (Nat.le_of_ble_eq_true rfl) (kc' := kc745) (ks' := ks746) (mc := mc747) (ms := ms748) hkc745 hks746 h ?_
        intro v743 G744 h
        refine e_aload_n d_L_law_1150 rfl ?_
        refine e_aload_n d_L_law_1151 rfl ?_
        refine e_iload_n d_L_law_1152 rfl ?_
        refine e_iconst d_L_law_1153 (by decide) ?_
        refine e_iadd d_L_law_1154 o477 ?_
        refine e_tld_i (gn (gX e b m) 18) (gn (gX e b m) 19) (gscr (gX e b m)) (fun s h => h.2.2.2.2.2.2.2.2.2.2.2.2.2.2.2.2.2) (gscr_in _ _) d_L_law_1155 o478 o479 ?_
        refine e_if_eq (tgt := 1163) d_L_law_1156 (by decide) (fun q749 => ?_) (fun q750 => ?_)
        · exact absurd q481 (by omega)
        · refine e_iconst d_L_law_1159 (by decide) ?_
          refine e_goto (tgt := 1164) d_L_law_1160 (by decide) ?_
          refine EV.inv fun hFf751 => ?_
          have f751 := (fx_mt 0 rfl hFf751).1
          refine e_callV m_M_spread 12 lw_good d_L_law_1164 (k_M_spread _) ⟨Nat.le_of_ble_eq_true rfl, Nat.le_of_ble_eq_true rfl⟩ w_1793 w_1794 w_1795 (q_M _) rfl f751 (args := [(0, 1)]) rfl rfl (Nat.le_of_ble_eq_true rfl) (kc' := kc745) (ks' := ks746) (mc := 0) (ms := 0) rfl rfl h ?_
          intro v752 G753 h
          refine e_icmp_eq (tgt := 1589) d_L_law_1167 (by decide) (fun q754 => ?_) (fun q755 => ?_)
          · have h := h.1 q754
            obtain ⟨o756, h⟩ := h
            refine e_iinc (ls' := [(2, ((gn (gX e b m) 18 : Int) + 1)), (2, ((b : Int) + 1)), (2, (m + 0)), (0, (x3 + 6))]) d_L_law_1589 rfl (by decide) o756 rfl ?_
            refine e_goto (tgt := 18) d_L_law_1592 (by decide) ?_
            exact e_forget (ls' := [(2, ((gn (gX e b m) 18 : Int) + 1)), (2, ((b : Int) + 1)), (2, (m + 0)), (0, (x3 + 6))]) ⟨Or.inr rfl, Or.inr rfl, Or.inr rfl, Or.inr rfl, trivial⟩ h
          · have h := h.2 q755
            refine e_iconst d_L_law_1170 (by decide) ?_
            exact e_zret .boolean d_L_law_1171 rfl (by decide) h
    by_cases q482 : (gand (gscr (gX e b m) x3) 63) = 29
    · have h := hs29 q482
      refine e_tableIn (tgt := 1172) d_L_law_33 (by omega) (by omega) (by rw [show (gand (gscr (gX e b m) x3) 63) = 29 from q482]; rfl) (by decide) ?_
      refine e_aload_n d_L_law_1172 rfl ?_
      refine e_aload_n d_L_law_1173 rfl ?_
      refine e_iload_n d_L_law_1174 rfl ?_
      refine e_iconst d_L_law_1175 (by decide) ?_
      obtain ⟨o483, h⟩ := h
      refine e_iadd d_L_law_1176 o483 ?_
      obtain ⟨o484, o485, h⟩ := h
      refine e_tld_i (gn (gX e b m) 18) (gn (gX e b m) 19) (gscr (gX e b m)) (fun s h => h.2.2.2.2.2.2.2.2.2.2.2.2.2.2.2.2.2) (gscr_in _ _) d_L_law_1177 o484 o485 ?_
      refine e_aload_n d_L_law_1178 rfl ?_
      refine e_iload_n d_L_law_1179 rfl ?_
      refine e_iconst d_L_law_1180 (by decide) ?_
      obtain ⟨o486, h⟩ := h
      refine e_iadd d_L_law_1181 o486 ?_
      obtain ⟨o487, o488, h⟩ := h
      refine e_tld_i (gn (gX e b m) 18) (gn (gX e b m) 19) (gscr (gX e b m)) (fun s h => h.2.2.2.2.2.2.2.2.2.2.2.2.2.2.2.2.2) (gscr_in _ _) d_L_law_1182 o487 o488 ?_
      refine EV.inv fun hFf489 => ?_
      have f489 := (fx_ct 0 rfl hFf489).1
      obtain ⟨kc492, ks493, mc494, ms495, hkc492, hks493, h⟩ := h
      refine e_callV m_C_move 11 lw_good d_L_law_1183 (k_C_move _) ⟨Nat.le_of_ble_eq_true rfl, Nat.le_of_ble_eq_true rfl⟩ w_1256 w_1257 w_1258 (q_C _) rfl f489 (args := [(0, (gscr (gX e b m) (x3 + 1))), (0, (gscr (gX e b m) (x3 + 2)))]) rfl rfl (Nat.le_of_ble_eq_true rfl) (kc' := kc492) (ks' := ks493) (mc := mc494) (ms := ms495) hkc492 hks493 h ?_
      intro v490 G491 h
      refine e_aload_n d_L_law_1186 rfl ?_
      refine e_aload_n d_L_law_1187 rfl ?_
      refine e_iload_n d_L_law_1188 rfl ?_
      refine e_iconst d_L_law_1189 (by decide) ?_
      refine e_iadd d_L_law_1190 o483 ?_
      refine e_tld_i (gn (gX e b m) 18) (gn (gX e b m) 19) (gscr (gX e b m)) (fun s h => h.2.2.2.2.2.2.2.2.2.2.2.2.2.2.2.2.2) (gscr_in _ _) d_L_law_1191 o484 o485 ?_
      refine e_aload_n d_L_law_1192 rfl ?_
      refine e_iload_n d_L_law_1193 rfl ?_
      refine e_iconst d_L_law_1194 (by decide) ?_
      refine e_iadd d_L_law_1195 o486 ?_
      refine e_tld_i (gn (gX e b m) 18) (gn (gX e b m) 19) (gscr (gX e b m)) (fun s h => h.2.2.2.2.2.2.2.2.2.2.2.2.2.2.2.2.2) (gscr_in _ _) d_L_law_1196 o487 o488 ?_
      refine EV.inv fun hFf496 => ?_
      have f496 := (fx_mt 0 rfl hFf496).1
      refine e_callV m_M_move 12 lw_good d_L_law_1197 (k_M_move _) ⟨Nat.le_of_ble_eq_true rfl, Nat.le_of_ble_eq_true rfl⟩ w_1817 w_1818 w_1819 (q_M _) rfl f496 (args := [(0, (gscr (gX e b m) (x3 + 1))), (0, (gscr (gX e b m) (x3 + 2)))]) rfl rfl (Nat.le_of_ble_eq_true rfl) (kc' := kc492) (ks' := ks493) (mc := 0) (ms := 0) rfl rfl h ?_
      intro v497 G498 h
      refine e_icmp_eq (tgt := 1589) d_L_law_1200 (by decide) (fun q499 => ?_) (fun q500 => ?_)
      · have h := h.1 q499
        obtain ⟨o501, h⟩ := h
        refine e_iinc (ls' := [(2, ((gn (gX e b m) 18 : Int) + 1)), (2, ((b : Int) + 1)), (2, (m + 0)), (0, (x3 + 6))]) d_L_law_1589 rfl (by decide) o501 rfl ?_
        refine e_goto (tgt := 18) d_L_law_1592 (by decide) ?_
        exact e_forget (ls' := [(2, ((gn (gX e b m) 18 : Int) + 1)), (2, ((b : Int) + 1)), (2, (m + 0)), (0, (x3 + 6))]) ⟨Or.inr rfl, Or.inr rfl, Or.inr rfl, Or.inr rfl, trivial⟩ h
      · have h := h.2 q500
        refine e_iconst d_L_law_1203 (by decide) ?_
        exact e_zret .boolean d_L_law_1204 rfl (by decide) h
    by_cases q502 : (gand (gscr (gX e b m) x3) 63) = 30
    · have h := hs30 q502
      refine e_tableIn (tgt := 1205) d_L_law_33 (by omega) (by omega) (by rw [show (gand (gscr (gX e b m) x3) 63) = 30 from q502]; rfl) (by decide) ?_
      refine e_aload_n d_L_law_1205 rfl ?_
      refine e_aload_n d_L_law_1206 rfl ?_
      refine e_iload_n d_L_law_1207 rfl ?_
      refine e_iconst d_L_law_1208 (by decide) ?_
      obtain ⟨o503, h⟩ := h
      refine e_iadd d_L_law_1209 o503 ?_
      obtain ⟨o504, o505, h⟩ := h
      refine e_tld_i (gn (gX e b m) 18) (gn (gX e b m) 19) (gscr (gX e b m)) (fun s h => h.2.2.2.2.2.2.2.2.2.2.2.2.2.2.2.2.2) (gscr_in _ _) d_L_law_1210 o504 o505 ?_
      refine EV.inv fun hFf506 => ?_
      have f506 := (fx_ct 0 rfl hFf506).1
      refine e_callV m_C_weeks 11 lw_good d_L_law_1211 (k_C_weeks _) ⟨Nat.le_of_ble_eq_true rfl, Nat.le_of_ble_eq_true rfl⟩ w_1271 w_1272 w_1273 (q_C _) rfl f506 (args := [(0, (gscr (gX e b m) (x3 + 1)))]) rfl rfl (Nat.le_of_ble_eq_true rfl) (kc' := kc) (ks' := ks) (mc := 0) (ms := 0) rfl rfl h ?_
      intro v507 G508 h
      refine e_aload_n d_L_law_1214 rfl ?_
      refine e_aload_n d_L_law_1215 rfl ?_
      refine e_iload_n d_L_law_1216 rfl ?_
      refine e_iconst d_L_law_1217 (by decide) ?_
      refine e_iadd d_L_law_1218 o503 ?_
      refine e_tld_i (gn (gX e b m) 18) (gn (gX e b m) 19) (gscr (gX e b m)) (fun s h => h.2.2.2.2.2.2.2.2.2.2.2.2.2.2.2.2.2) (gscr_in _ _) d_L_law_1219 o504 o505 ?_
      refine EV.inv fun hFf509 => ?_
      have f509 := (fx_mt 0 rfl hFf509).1
      refine e_callV m_M_weeks 12 lw_good d_L_law_1220 (k_M_weeks _) ⟨Nat.le_of_ble_eq_true rfl, Nat.le_of_ble_eq_true rfl⟩ w_1821 w_1822 w_1823 (q_M _) rfl f509 (args := [(0, (gscr (gX e b m) (x3 + 1)))]) rfl rfl (Nat.le_of_ble_eq_true rfl) (kc' := kc) (ks' := ks) (mc := 0) (ms := 0) rfl rfl h ?_
      intro v510 G511 h
      refine e_icmp_eq (tgt := 1589) d_L_law_1223 (by decide) (fun q512 => ?_) (fun q513 => ?_)
      · have h := h.1 q512
        obtain ⟨o514, h⟩ := h
        refine e_iinc (ls' := [(2, ((gn (gX e b m) 18 : Int) + 1)), (2, ((b : Int) + 1)), (2, (m + 0)), (0, (x3 + 6))]) d_L_law_1589 rfl (by decide) o514 rfl ?_
        refine e_goto (tgt := 18) d_L_law_1592 (by decide) ?_
        exact e_forget (ls' := [(2, ((gn (gX e b m) 18 : Int) + 1)), (2, ((b : Int) + 1)), (2, (m + 0)), (0, (x3 + 6))]) ⟨Or.inr rfl, Or.inr rfl, Or.inr rfl, Or.inr rfl, trivial⟩ h
      · have h := h.2 q513
        refine e_iconst d_L_law_1226 (by decide) ?_
        exact e_zret .boolean d_L_law_1227 rfl (by decide) h
    by_cases q515 : (gand (gscr (gX e b m) x3) 63) = 31
    · have h := hs31 q515
      refine e_tableIn (tgt := 1228) d_L_law_33 (by omega) (by omega) (by rw [show (gand (gscr (gX e b m) x3) 63) = 31 from q515]; rfl) (by decide) ?_
      refine e_aload_n d_L_law_1228 rfl ?_
      refine e_aload_n d_L_law_1229 rfl ?_
      refine e_iload_n d_L_law_1230 rfl ?_
      refine e_iconst d_L_law_1231 (by decide) ?_
      obtain ⟨o516, h⟩ := h
      refine e_iadd d_L_law_1232 o516 ?_
      obtain ⟨o517, o518, h⟩ := h
      refine e_tld_i (gn (gX e b m) 18) (gn (gX e b m) 19) (gscr (gX e b m)) (fun s h => h.2.2.2.2.2.2.2.2.2.2.2.2.2.2.2.2.2) (gscr_in _ _) d_L_law_1233 o517 o518 ?_
      refine EV.inv fun hFf519 => ?_
      have f519 := (fx_ct 0 rfl hFf519).1
      obtain ⟨kc522, ks523, mc524, ms525, hkc522, hks523, h⟩ := h
      refine e_callV m_C_lose 11 lw_good d_L_law_1234 (k_C_lose _) ⟨Nat.le_of_ble_eq_true rfl, Nat.le_of_ble_eq_true rfl⟩ w_1292 w_1293 w_1294 (q_C _) rfl f519 (args := [(0, (gscr (gX e b m) (x3 + 1)))]) rfl rfl (Nat.le_of_ble_eq_true rfl) (kc' := kc522) (ks' := ks523) (mc := mc524) (ms := ms525) hkc522 hks523 h ?_
      intro v520 G521 h
      refine e_aload_n d_L_law_1237 rfl ?_
      refine e_aload_n d_L_law_1238 rfl ?_
      refine e_iload_n d_L_law_1239 rfl ?_
      refine e_iconst d_L_law_1240 (by decide) ?_
      refine e_iadd d_L_law_1241 o516 ?_
      refine e_tld_i (gn (gX e b m) 18) (gn (gX e b m) 19) (gscr (gX e b m)) (fun s h => h.2.2.2.2.2.2.2.2.2.2.2.2.2.2.2.2.2) (gscr_in _ _) d_L_law_1242 o517 o518 ?_
      refine EV.inv fun hFf526 => ?_
      have f526 := (fx_mt 0 rfl hFf526).1
      refine e_callV m_M_lose 12 lw_good d_L_law_1243 (k_M_lose _) ⟨Nat.le_of_ble_eq_true rfl, Nat.le_of_ble_eq_true rfl⟩ w_1826 w_1827 w_1828 (q_M _) rfl f526 (args := [(0, (gscr (gX e b m) (x3 + 1)))]) rfl rfl (Nat.le_of_ble_eq_true rfl) (kc' := kc522) (ks' := ks523) (mc := 0) (ms := 0) rfl rfl h ?_
      intro v527 G528 h
      refine e_icmp_eq (tgt := 1589) d_L_law_1246 (by decide) (fun q529 => ?_) (fun q530 => ?_)
      · have h := h.1 q529
        obtain ⟨o531, h⟩ := h
        refine e_iinc (ls' := [(2, ((gn (gX e b m) 18 : Int) + 1)), (2, ((b : Int) + 1)), (2, (m + 0)), (0, (x3 + 6))]) d_L_law_1589 rfl (by decide) o531 rfl ?_
        refine e_goto (tgt := 18) d_L_law_1592 (by decide) ?_
        exact e_forget (ls' := [(2, ((gn (gX e b m) 18 : Int) + 1)), (2, ((b : Int) + 1)), (2, (m + 0)), (0, (x3 + 6))]) ⟨Or.inr rfl, Or.inr rfl, Or.inr rfl, Or.inr rfl, trivial⟩ h
      · have h := h.2 q530
        refine e_iconst d_L_law_1249 (by decide) ?_
        exact e_zret .boolean d_L_law_1250 rfl (by decide) h
    by_cases q532 : (gand (gscr (gX e b m) x3) 63) = 32
    · have h := hs32 q532
      refine e_tableIn (tgt := 1251) d_L_law_33 (by omega) (by omega) (by rw [show (gand (gscr (gX e b m) x3) 63) = 32 from q532]; rfl) (by decide) ?_
      refine e_aload_n d_L_law_1251 rfl ?_
      refine e_aload_n d_L_law_1252 rfl ?_
      refine e_iload_n d_L_law_1253 rfl ?_
      refine e_iconst d_L_law_1254 (by decide) ?_
      obtain ⟨o533, h⟩ := h
      refine e_iadd d_L_law_1255 o533 ?_
      obtain ⟨o534, o535, h⟩ := h
      refine e_tld_i (gn (gX e b m) 18) (gn (gX e b m) 19) (gscr (gX e b m)) (fun s h => h.2.2.2.2.2.2.2.2.2.2.2.2.2.2.2.2.2) (gscr_in _ _) d_L_law_1256 o534 o535 ?_
      refine EV.inv fun hFf536 => ?_
      have f536 := (fx_ct 0 rfl hFf536).1
      obtain ⟨kc539, ks540, mc541, ms542, hkc539, hks540, h⟩ := h
      refine e_callV m_C_found 11 lw_good d_L_law_1257 (k_C_found _) ⟨Nat.le_of_ble_eq_true rfl, Nat.le_of_ble_eq_true rfl⟩ w_1301 w_1302 w_1303 (q_C _) rfl f536 (args := [(0, (gscr (gX e b m) (x3 + 1)))]) rfl rfl (Nat.le_of_ble_eq_true rfl) (kc' := kc539) (ks' := ks540) (mc := mc541) (ms := ms542) hkc539 hks540 h ?_
      intro v537 G538 h
      refine e_aload_n d_L_law_1260 rfl ?_
      refine e_aload_n d_L_law_1261 rfl ?_
      refine e_iload_n d_L_law_1262 rfl ?_
      refine e_iconst d_L_law_1263 (by decide) ?_
      refine e_iadd d_L_law_1264 o533 ?_
      refine e_tld_i (gn (gX e b m) 18) (gn (gX e b m) 19) (gscr (gX e b m)) (fun s h => h.2.2.2.2.2.2.2.2.2.2.2.2.2.2.2.2.2) (gscr_in _ _) d_L_law_1265 o534 o535 ?_
      refine EV.inv fun hFf543 => ?_
      have f543 := (fx_mt 0 rfl hFf543).1
      refine e_callV m_M_found 12 lw_good d_L_law_1266 (k_M_found _) ⟨Nat.le_of_ble_eq_true rfl, Nat.le_of_ble_eq_true rfl⟩ w_1830 w_1831 w_1832 (q_M _) rfl f543 (args := [(0, (gscr (gX e b m) (x3 + 1)))]) rfl rfl (Nat.le_of_ble_eq_true rfl) (kc' := kc539) (ks' := ks540) (mc := 0) (ms := 0) rfl rfl h ?_
      intro v544 G545 h
      refine e_icmp_eq (tgt := 1589) d_L_law_1269 (by decide) (fun q546 => ?_) (fun q547 => ?_)
      · have h := h.1 q546
        obtain ⟨o548, h⟩ := h
        refine e_iinc (ls' := [(2, ((gn (gX e b m) 18 : Int) + 1)), (2, ((b : Int) + 1)), (2, (m + 0)), (0, (x3 + 6))]) d_L_law_1589 rfl (by decide) o548 rfl ?_
        refine e_goto (tgt := 18) d_L_law_1592 (by decide) ?_
        exact e_forget (ls' := [(2, ((gn (gX e b m) 18 : Int) + 1)), (2, ((b : Int) + 1)), (2, (m + 0)), (0, (x3 + 6))]) ⟨Or.inr rfl, Or.inr rfl, Or.inr rfl, Or.inr rfl, trivial⟩ h
      · have h := h.2 q547
        refine e_iconst d_L_law_1272 (by decide) ?_
        exact e_zret .boolean d_L_law_1273 rfl (by decide) h
    by_cases q549 : (gand (gscr (gX e b m) x3) 63) = 33
    · have h := hs33 q549
      refine e_tableIn (tgt := 1274) d_L_law_33 (by omega) (by omega) (by rw [show (gand (gscr (gX e b m) x3) 63) = 33 from q549]; rfl) (by decide) ?_
      refine e_aload_n d_L_law_1274 rfl ?_
      refine e_aload_n d_L_law_1275 rfl ?_
      refine e_iload_n d_L_law_1276 rfl ?_
      refine e_iconst d_L_law_1277 (by decide) ?_
      obtain ⟨o550, h⟩ := h
      refine e_iadd d_L_law_1278 o550 ?_
      obtain ⟨o551, o552, h⟩ := h
      refine e_tld_i (gn (gX e b m) 18) (gn (gX e b m) 19) (gscr (gX e b m)) (fun s h => h.2.2.2.2.2.2.2.2.2.2.2.2.2.2.2.2.2) (gscr_in _ _) d_L_law_1279 o551 o552 ?_
      refine e_aload_n d_L_law_1280 rfl ?_
      refine e_iload_n d_L_law_1281 rfl ?_
      refine e_iconst d_L_law_1282 (by decide) ?_
      obtain ⟨o553, h⟩ := h
      refine e_iadd d_L_law_1283 o553 ?_
      obtain ⟨o554, o555, h⟩ := h
      refine e_tld_i (gn (gX e b m) 18) (gn (gX e b m) 19) (gscr (gX e b m)) (fun s h => h.2.2.2.2.2.2.2.2.2.2.2.2.2.2.2.2.2) (gscr_in _ _) d_L_law_1284 o554 o555 ?_
      refine e_aload_n d_L_law_1285 rfl ?_
      refine e_iload_n d_L_law_1286 rfl ?_
      refine e_iconst d_L_law_1287 (by decide) ?_
      obtain ⟨o556, h⟩ := h
      refine e_iadd d_L_law_1288 o556 ?_
      obtain ⟨o557, o558, h⟩ := h
      refine e_tld_i (gn (gX e b m) 18) (gn (gX e b m) 19) (gscr (gX e b m)) (fun s h => h.2.2.2.2.2.2.2.2.2.2.2.2.2.2.2.2.2) (gscr_in _ _) d_L_law_1289 o557 o558 ?_
      refine e_aload_n d_L_law_1290 rfl ?_
      refine e_iload_n d_L_law_1291 rfl ?_
      refine e_iconst d_L_law_1292 (by decide) ?_
      obtain ⟨o559, h⟩ := h
      refine e_iadd d_L_law_1293 o559 ?_
      obtain ⟨o560, o561, h⟩ := h
      refine e_tld_i (gn (gX e b m) 18) (gn (gX e b m) 19) (gscr (gX e b m)) (fun s h => h.2.2.2.2.2.2.2.2.2.2.2.2.2.2.2.2.2) (gscr_in _ _) d_L_law_1294 o560 o561 ?_
      refine EV.inv fun hFf562 => ?_
      have f562 := (fx_ct 0 rfl hFf562).1
      refine e_callV m_C_paper 11 lw_good d_L_law_1295 (k_C_paper _) ⟨Nat.le_of_ble_eq_true rfl, Nat.le_of_ble_eq_true rfl⟩ w_1311 w_1312 w_1313 (q_C _) rfl f562 (args := [(0, (gscr (gX e b m) (x3 + 1))), (0, (gscr (gX e b m) (x3 + 2))), (0, (gscr (gX e b m) (x3 + 3))), (0, (gscr (gX e b m) (x3 + 4)))]) rfl rfl (Nat.le_of_ble_eq_true rfl) (kc' := kc) (ks' := ks) (mc := 0) (ms := 0) rfl rfl h ?_
      intro v563 G564 h
      refine e_aload_n d_L_law_1298 rfl ?_
      refine e_aload_n d_L_law_1299 rfl ?_
      refine e_iload_n d_L_law_1300 rfl ?_
      refine e_iconst d_L_law_1301 (by decide) ?_
      refine e_iadd d_L_law_1302 o550 ?_
      refine e_tld_i (gn (gX e b m) 18) (gn (gX e b m) 19) (gscr (gX e b m)) (fun s h => h.2.2.2.2.2.2.2.2.2.2.2.2.2.2.2.2.2) (gscr_in _ _) d_L_law_1303 o551 o552 ?_
      refine e_aload_n d_L_law_1304 rfl ?_
      refine e_iload_n d_L_law_1305 rfl ?_
      refine e_iconst d_L_law_1306 (by decide) ?_
      refine e_iadd d_L_law_1307 o553 ?_
      refine e_tld_i (gn (gX e b m) 18) (gn (gX e b m) 19) (gscr (gX e b m)) (fun s h => h.2.2.2.2.2.2.2.2.2.2.2.2.2.2.2.2.2) (gscr_in _ _) d_L_law_1308 o554 o555 ?_
      refine e_aload_n d_L_law_1309 rfl ?_
      refine e_iload_n d_L_law_1310 rfl ?_
      refine e_iconst d_L_law_1311 (by decide) ?_
      refine e_iadd d_L_law_1312 o556 ?_
      refine e_tld_i (gn (gX e b m) 18) (gn (gX e b m) 19) (gscr (gX e b m)) (fun s h => h.2.2.2.2.2.2.2.2.2.2.2.2.2.2.2.2.2) (gscr_in _ _) d_L_law_1313 o557 o558 ?_
      refine e_aload_n d_L_law_1314 rfl ?_
      refine e_iload_n d_L_law_1315 rfl ?_
      refine e_iconst d_L_law_1316 (by decide) ?_
      refine e_iadd d_L_law_1317 o559 ?_
      refine e_tld_i (gn (gX e b m) 18) (gn (gX e b m) 19) (gscr (gX e b m)) (fun s h => h.2.2.2.2.2.2.2.2.2.2.2.2.2.2.2.2.2) (gscr_in _ _) d_L_law_1318 o560 o561 ?_
      refine EV.inv fun hFf565 => ?_
      have f565 := (fx_mt 0 rfl hFf565).1
      refine e_callV m_M_paper 12 lw_good d_L_law_1319 (k_M_paper _) ⟨Nat.le_of_ble_eq_true rfl, Nat.le_of_ble_eq_true rfl⟩ w_1834 w_1835 w_1836 (q_M _) rfl f565 (args := [(0, (gscr (gX e b m) (x3 + 1))), (0, (gscr (gX e b m) (x3 + 2))), (0, (gscr (gX e b m) (x3 + 3))), (0, (gscr (gX e b m) (x3 + 4)))]) rfl rfl (Nat.le_of_ble_eq_true rfl) (kc' := kc) (ks' := ks) (mc := 0) (ms := 0) rfl rfl h ?_
      intro v566 G567 h
      refine e_icmp_eq (tgt := 1589) d_L_law_1322 (by decide) (fun q568 => ?_) (fun q569 => ?_)
      · have h := h.1 q568
        obtain ⟨o570, h⟩ := h
        refine e_iinc (ls' := [(2, ((gn (gX e b m) 18 : Int) + 1)), (2, ((b : Int) + 1)), (2, (m + 0)), (0, (x3 + 6))]) d_L_law_1589 rfl (by decide) o570 rfl ?_
        refine e_goto (tgt := 18) d_L_law_1592 (by decide) ?_
        exact e_forget (ls' := [(2, ((gn (gX e b m) 18 : Int) + 1)), (2, ((b : Int) + 1)), (2, (m + 0)), (0, (x3 + 6))]) ⟨Or.inr rfl, Or.inr rfl, Or.inr rfl, Or.inr rfl, trivial⟩ h
      · have h := h.2 q569
        refine e_iconst d_L_law_1325 (by decide) ?_
        exact e_zret .boolean d_L_law_1326 rfl (by decide) h
    by_cases q571 : (gand (gscr (gX e b m) x3) 63) = 34
    · have h := hs34 q571
      refine e_tableIn (tgt := 1327) d_L_law_33 (by omega) (by omega) (by rw [show (gand (gscr (gX e b m) x3) 63) = 34 from q571]; rfl) (by decide) ?_
      refine e_aload_n d_L_law_1327 rfl ?_
      refine e_aload_n d_L_law_1328 rfl ?_
      refine e_iload_n d_L_law_1329 rfl ?_
      refine e_iconst d_L_law_1330 (by decide) ?_
      obtain ⟨o572, h⟩ := h
      refine e_iadd d_L_law_1331 o572 ?_
      obtain ⟨o573, o574, h⟩ := h
      refine e_tld_i (gn (gX e b m) 18) (gn (gX e b m) 19) (gscr (gX e b m)) (fun s h => h.2.2.2.2.2.2.2.2.2.2.2.2.2.2.2.2.2) (gscr_in _ _) d_L_law_1332 o573 o574 ?_
      refine e_aload_n d_L_law_1333 rfl ?_
      refine e_iload_n d_L_law_1334 rfl ?_
      refine e_iconst d_L_law_1335 (by decide) ?_
      obtain ⟨o575, h⟩ := h
      refine e_iadd d_L_law_1336 o575 ?_
      obtain ⟨o576, o577, h⟩ := h
      refine e_tld_i (gn (gX e b m) 18) (gn (gX e b m) 19) (gscr (gX e b m)) (fun s h => h.2.2.2.2.2.2.2.2.2.2.2.2.2.2.2.2.2) (gscr_in _ _) d_L_law_1337 o576 o577 ?_
      refine EV.inv fun hFf578 => ?_
      have f578 := (fx_ct 0 rfl hFf578).1
      refine e_callV m_C_holder 11 lw_good d_L_law_1338 (k_C_holder _) ⟨Nat.le_of_ble_eq_true rfl, Nat.le_of_ble_eq_true rfl⟩ w_1323 w_1324 w_1325 (q_C _) rfl f578 (args := [(0, (gscr (gX e b m) (x3 + 1))), (0, (gscr (gX e b m) (x3 + 2)))]) rfl rfl (Nat.le_of_ble_eq_true rfl) (kc' := kc) (ks' := ks) (mc := 0) (ms := 0) rfl rfl h ?_
      intro v579 G580 h
      refine e_aload_n d_L_law_1341 rfl ?_
      refine e_aload_n d_L_law_1342 rfl ?_
      refine e_iload_n d_L_law_1343 rfl ?_
      refine e_iconst d_L_law_1344 (by decide) ?_
      refine e_iadd d_L_law_1345 o572 ?_
      refine e_tld_i (gn (gX e b m) 18) (gn (gX e b m) 19) (gscr (gX e b m)) (fun s h => h.2.2.2.2.2.2.2.2.2.2.2.2.2.2.2.2.2) (gscr_in _ _) d_L_law_1346 o573 o574 ?_
      refine e_aload_n d_L_law_1347 rfl ?_
      refine e_iload_n d_L_law_1348 rfl ?_
      refine e_iconst d_L_law_1349 (by decide) ?_
      refine e_iadd d_L_law_1350 o575 ?_
      refine e_tld_i (gn (gX e b m) 18) (gn (gX e b m) 19) (gscr (gX e b m)) (fun s h => h.2.2.2.2.2.2.2.2.2.2.2.2.2.2.2.2.2) (gscr_in _ _) d_L_law_1351 o576 o577 ?_
      refine EV.inv fun hFf581 => ?_
      have f581 := (fx_mt 0 rfl hFf581).1
      refine e_callV m_M_holder 12 lw_good d_L_law_1352 (k_M_holder _) ⟨Nat.le_of_ble_eq_true rfl, Nat.le_of_ble_eq_true rfl⟩ w_1838 w_1839 w_1840 (q_M _) rfl f581 (args := [(0, (gscr (gX e b m) (x3 + 1))), (0, (gscr (gX e b m) (x3 + 2)))]) rfl rfl (Nat.le_of_ble_eq_true rfl) (kc' := kc) (ks' := ks) (mc := 0) (ms := 0) rfl rfl h ?_
      intro v582 G583 h
      refine e_icmp_eq (tgt := 1589) d_L_law_1355 (by decide) (fun q584 => ?_) (fun q585 => ?_)
      · have h := h.1 q584
        obtain ⟨o586, h⟩ := h
        refine e_iinc (ls' := [(2, ((gn (gX e b m) 18 : Int) + 1)), (2, ((b : Int) + 1)), (2, (m + 0)), (0, (x3 + 6))]) d_L_law_1589 rfl (by decide) o586 rfl ?_
        refine e_goto (tgt := 18) d_L_law_1592 (by decide) ?_
        exact e_forget (ls' := [(2, ((gn (gX e b m) 18 : Int) + 1)), (2, ((b : Int) + 1)), (2, (m + 0)), (0, (x3 + 6))]) ⟨Or.inr rfl, Or.inr rfl, Or.inr rfl, Or.inr rfl, trivial⟩ h
      · have h := h.2 q585
        refine e_iconst d_L_law_1358 (by decide) ?_
        exact e_zret .boolean d_L_law_1359 rfl (by decide) h
    by_cases q587 : (gand (gscr (gX e b m) x3) 63) = 35
    · have h := hs35 q587
      refine e_tableIn (tgt := 1360) d_L_law_33 (by omega) (by omega) (by rw [show (gand (gscr (gX e b m) x3) 63) = 35 from q587]; rfl) (by decide) ?_
      refine e_aload_n d_L_law_1360 rfl ?_
      refine e_aload_n d_L_law_1361 rfl ?_
      refine e_iload_n d_L_law_1362 rfl ?_
      refine e_iconst d_L_law_1363 (by decide) ?_
      obtain ⟨o588, h⟩ := h
      refine e_iadd d_L_law_1364 o588 ?_
      obtain ⟨o589, o590, h⟩ := h
      refine e_tld_i (gn (gX e b m) 18) (gn (gX e b m) 19) (gscr (gX e b m)) (fun s h => h.2.2.2.2.2.2.2.2.2.2.2.2.2.2.2.2.2) (gscr_in _ _) d_L_law_1365 o589 o590 ?_
      refine e_aload_n d_L_law_1366 rfl ?_
      refine e_iload_n d_L_law_1367 rfl ?_
      refine e_iconst d_L_law_1368 (by decide) ?_
      obtain ⟨o591, h⟩ := h
      refine e_iadd d_L_law_1369 o591 ?_
      obtain ⟨o592, o593, h⟩ := h
      refine e_tld_i (gn (gX e b m) 18) (gn (gX e b m) 19) (gscr (gX e b m)) (fun s h => h.2.2.2.2.2.2.2.2.2.2.2.2.2.2.2.2.2) (gscr_in _ _) d_L_law_1370 o592 o593 ?_
      refine EV.inv fun hFf594 => ?_
      have f594 := (fx_ct 0 rfl hFf594).1
      obtain ⟨kc597, ks598, mc599, ms600, hkc597, hks598, h⟩ := h
      refine e_callV m_C_giveBack 11 lw_good d_L_law_1371 (k_C_giveBack _) ⟨Nat.le_of_ble_eq_true rfl, Nat.le_of_ble_eq_true rfl⟩ w_1332 w_1333 w_1334 (q_C _) rfl f594 (args := [(0, (gscr (gX e b m) (x3 + 1))), (0, (gscr (gX e b m) (x3 + 2)))]) rfl rfl (Nat.le_of_ble_eq_true rfl) (kc' := kc597) (ks' := ks598) (mc := mc599) (ms := ms600) hkc597 hks598 h ?_
      intro v595 G596 h
      refine e_aload_n d_L_law_1374 rfl ?_
      refine e_aload_n d_L_law_1375 rfl ?_
      refine e_iload_n d_L_law_1376 rfl ?_
      refine e_iconst d_L_law_1377 (by decide) ?_
      refine e_iadd d_L_law_1378 o588 ?_
      refine e_tld_i (gn (gX e b m) 18) (gn (gX e b m) 19) (gscr (gX e b m)) (fun s h => h.2.2.2.2.2.2.2.2.2.2.2.2.2.2.2.2.2) (gscr_in _ _) d_L_law_1379 o589 o590 ?_
      refine e_aload_n d_L_law_1380 rfl ?_
      refine e_iload_n d_L_law_1381 rfl ?_
      refine e_iconst d_L_law_1382 (by decide) ?_
      refine e_iadd d_L_law_1383 o591 ?_
      refine e_tld_i (gn (gX e b m) 18) (gn (gX e b m) 19) (gscr (gX e b m)) (fun s h => h.2.2.2.2.2.2.2.2.2.2.2.2.2.2.2.2.2) (gscr_in _ _) d_L_law_1384 o592 o593 ?_
      refine EV.inv fun hFf601 => ?_
      have f601 := (fx_mt 0 rfl hFf601).1
      refine e_callV m_M_giveBack 12 lw_good d_L_law_1385 (k_M_giveBack _) ⟨Nat.le_of_ble_eq_true rfl, Nat.le_of_ble_eq_true rfl⟩ w_1842 w_1843 w_1844 (q_M _) rfl f601 (args := [(0, (gscr (gX e b m) (x3 + 1))), (0, (gscr (gX e b m) (x3 + 2)))]) rfl rfl (Nat.le_of_ble_eq_true rfl) (kc' := kc597) (ks' := ks598) (mc := 0) (ms := 0) rfl rfl h ?_
      intro v602 G603 h
      refine e_icmp_eq (tgt := 1589) d_L_law_1388 (by decide) (fun q604 => ?_) (fun q605 => ?_)
      · have h := h.1 q604
        obtain ⟨o606, h⟩ := h
        refine e_iinc (ls' := [(2, ((gn (gX e b m) 18 : Int) + 1)), (2, ((b : Int) + 1)), (2, (m + 0)), (0, (x3 + 6))]) d_L_law_1589 rfl (by decide) o606 rfl ?_
        refine e_goto (tgt := 18) d_L_law_1592 (by decide) ?_
        exact e_forget (ls' := [(2, ((gn (gX e b m) 18 : Int) + 1)), (2, ((b : Int) + 1)), (2, (m + 0)), (0, (x3 + 6))]) ⟨Or.inr rfl, Or.inr rfl, Or.inr rfl, Or.inr rfl, trivial⟩ h
      · have h := h.2 q605
        refine e_iconst d_L_law_1391 (by decide) ?_
        exact e_zret .boolean d_L_law_1392 rfl (by decide) h
    by_cases q607 : (gand (gscr (gX e b m) x3) 63) = 36
    · have h := hs36 q607
      refine e_tableIn (tgt := 1393) d_L_law_33 (by omega) (by omega) (by rw [show (gand (gscr (gX e b m) x3) 63) = 36 from q607]; rfl) (by decide) ?_
      refine e_aload_n d_L_law_1393 rfl ?_
      refine e_aload_n d_L_law_1394 rfl ?_
      refine e_iload_n d_L_law_1395 rfl ?_
      refine e_iconst d_L_law_1396 (by decide) ?_
      obtain ⟨o608, h⟩ := h
      refine e_iadd d_L_law_1397 o608 ?_
      obtain ⟨o609, o610, h⟩ := h
      refine e_tld_i (gn (gX e b m) 18) (gn (gX e b m) 19) (gscr (gX e b m)) (fun s h => h.2.2.2.2.2.2.2.2.2.2.2.2.2.2.2.2.2) (gscr_in _ _) d_L_law_1398 o609 o610 ?_
      refine e_aload_n d_L_law_1399 rfl ?_
      refine e_iload_n d_L_law_1400 rfl ?_
      refine e_iconst d_L_law_1401 (by decide) ?_
      obtain ⟨o611, h⟩ := h
      refine e_iadd d_L_law_1402 o611 ?_
      obtain ⟨o612, o613, h⟩ := h
      refine e_tld_i (gn (gX e b m) 18) (gn (gX e b m) 19) (gscr (gX e b m)) (fun s h => h.2.2.2.2.2.2.2.2.2.2.2.2.2.2.2.2.2) (gscr_in _ _) d_L_law_1403 o612 o613 ?_
      refine EV.inv fun hFf614 => ?_
      have f614 := (fx_ct 0 rfl hFf614).1
      refine e_callV m_C_about 11 lw_good d_L_law_1404 (k_C_about _) ⟨Nat.le_of_ble_eq_true rfl, Nat.le_of_ble_eq_true rfl⟩ w_1336 w_1337 w_1338 (q_C _) rfl f614 (args := [(0, (gscr (gX e b m) (x3 + 1))), (0, (gscr (gX e b m) (x3 + 2)))]) rfl rfl (Nat.le_of_ble_eq_true rfl) (kc' := kc) (ks' := ks) (mc := 0) (ms := 0) rfl rfl h ?_
      intro v615 G616 h
      refine e_aload_n d_L_law_1407 rfl ?_
      refine e_aload_n d_L_law_1408 rfl ?_
      refine e_iload_n d_L_law_1409 rfl ?_
      refine e_iconst d_L_law_1410 (by decide) ?_
      refine e_iadd d_L_law_1411 o608 ?_
      refine e_tld_i (gn (gX e b m) 18) (gn (gX e b m) 19) (gscr (gX e b m)) (fun s h => h.2.2.2.2.2.2.2.2.2.2.2.2.2.2.2.2.2) (gscr_in _ _) d_L_law_1412 o609 o610 ?_
      refine e_aload_n d_L_law_1413 rfl ?_
      refine e_iload_n d_L_law_1414 rfl ?_
      refine e_iconst d_L_law_1415 (by decide) ?_
      refine e_iadd d_L_law_1416 o611 ?_
      refine e_tld_i (gn (gX e b m) 18) (gn (gX e b m) 19) (gscr (gX e b m)) (fun s h => h.2.2.2.2.2.2.2.2.2.2.2.2.2.2.2.2.2) (gscr_in _ _) d_L_law_1417 o612 o613 ?_
      refine EV.inv fun hFf617 => ?_
      have f617 := (fx_mt 0 rfl hFf617).1
      refine e_callV m_M_about 12 lw_good d_L_law_1418 (k_M_about _) ⟨Nat.le_of_ble_eq_true rfl, Nat.le_of_ble_eq_true rfl⟩ w_1847 w_1848 w_1849 (q_M _) rfl f617 (args := [(0, (gscr (gX e b m) (x3 + 1))), (0, (gscr (gX e b m) (x3 + 2)))]) rfl rfl (Nat.le_of_ble_eq_true rfl) (kc' := kc) (ks' := ks) (mc := 0) (ms := 0) rfl rfl h ?_
      intro v618 G619 h
      refine e_icmp_eq (tgt := 1589) d_L_law_1421 (by decide) (fun q620 => ?_) (fun q621 => ?_)
      · have h := h.1 q620
        obtain ⟨o622, h⟩ := h
        refine e_iinc (ls' := [(2, ((gn (gX e b m) 18 : Int) + 1)), (2, ((b : Int) + 1)), (2, (m + 0)), (0, (x3 + 6))]) d_L_law_1589 rfl (by decide) o622 rfl ?_
        refine e_goto (tgt := 18) d_L_law_1592 (by decide) ?_
        exact e_forget (ls' := [(2, ((gn (gX e b m) 18 : Int) + 1)), (2, ((b : Int) + 1)), (2, (m + 0)), (0, (x3 + 6))]) ⟨Or.inr rfl, Or.inr rfl, Or.inr rfl, Or.inr rfl, trivial⟩ h
      · have h := h.2 q621
        refine e_iconst d_L_law_1424 (by decide) ?_
        exact e_zret .boolean d_L_law_1425 rfl (by decide) h
    by_cases q623 : (gand (gscr (gX e b m) x3) 63) = 37
    · have h := hs37 q623
      refine e_tableIn (tgt := 1426) d_L_law_33 (by omega) (by omega) (by rw [show (gand (gscr (gX e b m) x3) 63) = 37 from q623]; rfl) (by decide) ?_
      refine e_aload_n d_L_law_1426 rfl ?_
      refine e_aload_n d_L_law_1427 rfl ?_
      refine e_iload_n d_L_law_1428 rfl ?_
      refine e_iconst d_L_law_1429 (by decide) ?_
      obtain ⟨o624, h⟩ := h
      refine e_iadd d_L_law_1430 o624 ?_
      obtain ⟨o625, o626, h⟩ := h
      refine e_tld_i (gn (gX e b m) 18) (gn (gX e b m) 19) (gscr (gX e b m)) (fun s h => h.2.2.2.2.2.2.2.2.2.2.2.2.2.2.2.2.2) (gscr_in _ _) d_L_law_1431 o625 o626 ?_
      refine e_aload_n d_L_law_1432 rfl ?_
      refine e_iload_n d_L_law_1433 rfl ?_
      refine e_iconst d_L_law_1434 (by decide) ?_
      obtain ⟨o627, h⟩ := h
      refine e_iadd d_L_law_1435 o627 ?_
      obtain ⟨o628, o629, h⟩ := h
      refine e_tld_i (gn (gX e b m) 18) (gn (gX e b m) 19) (gscr (gX e b m)) (fun s h => h.2.2.2.2.2.2.2.2.2.2.2.2.2.2.2.2.2) (gscr_in _ _) d_L_law_1436 o628 o629 ?_
      refine e_aload_n d_L_law_1437 rfl ?_
      refine e_iload_n d_L_law_1438 rfl ?_
      refine e_iconst d_L_law_1439 (by decide) ?_
      obtain ⟨o630, h⟩ := h
      refine e_iadd d_L_law_1440 o630 ?_
      obtain ⟨o631, o632, h⟩ := h
      refine e_tld_i (gn (gX e b m) 18) (gn (gX e b m) 19) (gscr (gX e b m)) (fun s h => h.2.2.2.2.2.2.2.2.2.2.2.2.2.2.2.2.2) (gscr_in _ _) d_L_law_1441 o631 o632 ?_
      refine EV.inv fun hFf633 => ?_
      have f633 := (fx_ct 0 rfl hFf633).1
      refine e_callV m_C_seal 11 lw_good d_L_law_1442 (k_C_seal _) ⟨Nat.le_of_ble_eq_true rfl, Nat.le_of_ble_eq_true rfl⟩ w_1344 w_1345 w_1346 (q_C _) rfl f633 (args := [(0, (gscr (gX e b m) (x3 + 1))), (0, (gscr (gX e b m) (x3 + 2))), (0, (gscr (gX e b m) (x3 + 3)))]) rfl rfl (Nat.le_of_ble_eq_true rfl) (kc' := kc) (ks' := ks) (mc := 0) (ms := 0) rfl rfl h ?_
      intro v634 G635 h
      refine e_aload_n d_L_law_1445 rfl ?_
      refine e_aload_n d_L_law_1446 rfl ?_
      refine e_iload_n d_L_law_1447 rfl ?_
      refine e_iconst d_L_law_1448 (by decide) ?_
      refine e_iadd d_L_law_1449 o624 ?_
      refine e_tld_i (gn (gX e b m) 18) (gn (gX e b m) 19) (gscr (gX e b m)) (fun s h => h.2.2.2.2.2.2.2.2.2.2.2.2.2.2.2.2.2) (gscr_in _ _) d_L_law_1450 o625 o626 ?_
      refine e_aload_n d_L_law_1451 rfl ?_
      refine e_iload_n d_L_law_1452 rfl ?_
      refine e_iconst d_L_law_1453 (by decide) ?_
      refine e_iadd d_L_law_1454 o627 ?_
      refine e_tld_i (gn (gX e b m) 18) (gn (gX e b m) 19) (gscr (gX e b m)) (fun s h => h.2.2.2.2.2.2.2.2.2.2.2.2.2.2.2.2.2) (gscr_in _ _) d_L_law_1455 o628 o629 ?_
      refine e_aload_n d_L_law_1456 rfl ?_
      refine e_iload_n d_L_law_1457 rfl ?_
      refine e_iconst d_L_law_1458 (by decide) ?_
      refine e_iadd d_L_law_1459 o630 ?_
      refine e_tld_i (gn (gX e b m) 18) (gn (gX e b m) 19) (gscr (gX e b m)) (fun s h => h.2.2.2.2.2.2.2.2.2.2.2.2.2.2.2.2.2) (gscr_in _ _) d_L_law_1460 o631 o632 ?_
      refine EV.inv fun hFf636 => ?_
      have f636 := (fx_mt 0 rfl hFf636).1
      refine e_callV m_M_seal 12 lw_good d_L_law_1461 (k_M_seal _) ⟨Nat.le_of_ble_eq_true rfl, Nat.le_of_ble_eq_true rfl⟩ w_1855 w_1856 w_1857 (q_M _) rfl f636 (args := [(0, (gscr (gX e b m) (x3 + 1))), (0, (gscr (gX e b m) (x3 + 2))), (0, (gscr (gX e b m) (x3 + 3)))]) rfl rfl (Nat.le_of_ble_eq_true rfl) (kc' := kc) (ks' := ks) (mc := 0) (ms := 0) rfl rfl h ?_
      intro v637 G638 h
      refine e_icmp_eq (tgt := 1589) d_L_law_1464 (by decide) (fun q639 => ?_) (fun q640 => ?_)
      · have h := h.1 q639
        obtain ⟨o641, h⟩ := h
        refine e_iinc (ls' := [(2, ((gn (gX e b m) 18 : Int) + 1)), (2, ((b : Int) + 1)), (2, (m + 0)), (0, (x3 + 6))]) d_L_law_1589 rfl (by decide) o641 rfl ?_
        refine e_goto (tgt := 18) d_L_law_1592 (by decide) ?_
        exact e_forget (ls' := [(2, ((gn (gX e b m) 18 : Int) + 1)), (2, ((b : Int) + 1)), (2, (m + 0)), (0, (x3 + 6))]) ⟨Or.inr rfl, Or.inr rfl, Or.inr rfl, Or.inr rfl, trivial⟩ h
      · have h := h.2 q640
        refine e_iconst d_L_law_1467 (by decide) ?_
        exact e_zret .boolean d_L_law_1468 rfl (by decide) h
    by_cases q642 : (gand (gscr (gX e b m) x3) 63) = 38
    · have h := hs38 q642
      refine e_tableIn (tgt := 1469) d_L_law_33 (by omega) (by omega) (by rw [show (gand (gscr (gX e b m) x3) 63) = 38 from q642]; rfl) (by decide) ?_
      refine e_aload_n d_L_law_1469 rfl ?_
      refine e_aload_n d_L_law_1470 rfl ?_
      refine e_iload_n d_L_law_1471 rfl ?_
      refine e_iconst d_L_law_1472 (by decide) ?_
      obtain ⟨o643, h⟩ := h
      refine e_iadd d_L_law_1473 o643 ?_
      obtain ⟨o644, o645, h⟩ := h
      refine e_tld_i (gn (gX e b m) 18) (gn (gX e b m) 19) (gscr (gX e b m)) (fun s h => h.2.2.2.2.2.2.2.2.2.2.2.2.2.2.2.2.2) (gscr_in _ _) d_L_law_1474 o644 o645 ?_
      refine e_aload_n d_L_law_1475 rfl ?_
      refine e_iload_n d_L_law_1476 rfl ?_
      refine e_iconst d_L_law_1477 (by decide) ?_
      obtain ⟨o646, h⟩ := h
      refine e_iadd d_L_law_1478 o646 ?_
      obtain ⟨o647, o648, h⟩ := h
      refine e_tld_i (gn (gX e b m) 18) (gn (gX e b m) 19) (gscr (gX e b m)) (fun s h => h.2.2.2.2.2.2.2.2.2.2.2.2.2.2.2.2.2) (gscr_in _ _) d_L_law_1479 o647 o648 ?_
      refine e_aload_n d_L_law_1480 rfl ?_
      refine e_iload_n d_L_law_1481 rfl ?_
      refine e_iconst d_L_law_1482 (by decide) ?_
      obtain ⟨o649, h⟩ := h
      refine e_iadd d_L_law_1483 o649 ?_
      obtain ⟨o650, o651, h⟩ := h
      refine e_tld_i (gn (gX e b m) 18) (gn (gX e b m) 19) (gscr (gX e b m)) (fun s h => h.2.2.2.2.2.2.2.2.2.2.2.2.2.2.2.2.2) (gscr_in _ _) d_L_law_1484 o650 o651 ?_
      refine EV.inv fun hFf652 => ?_
      have f652 := (fx_ct 0 rfl hFf652).1
      refine e_callV m_C_quarrel 11 lw_good d_L_law_1485 (k_C_quarrel _) ⟨Nat.le_of_ble_eq_true rfl, Nat.le_of_ble_eq_true rfl⟩ w_1352 w_1353 w_1354 (q_C _) rfl f652 (args := [(0, (gscr (gX e b m) (x3 + 1))), (0, (gscr (gX e b m) (x3 + 2))), (0, (gscr (gX e b m) (x3 + 3)))]) rfl rfl (Nat.le_of_ble_eq_true rfl) (kc' := kc) (ks' := ks) (mc := 0) (ms := 0) rfl rfl h ?_
      intro v653 G654 h
      refine e_aload_n d_L_law_1488 rfl ?_
      refine e_aload_n d_L_law_1489 rfl ?_
      refine e_iload_n d_L_law_1490 rfl ?_
      refine e_iconst d_L_law_1491 (by decide) ?_
      refine e_iadd d_L_law_1492 o643 ?_
      refine e_tld_i (gn (gX e b m) 18) (gn (gX e b m) 19) (gscr (gX e b m)) (fun s h => h.2.2.2.2.2.2.2.2.2.2.2.2.2.2.2.2.2) (gscr_in _ _) d_L_law_1493 o644 o645 ?_
      refine e_aload_n d_L_law_1494 rfl ?_
      refine e_iload_n d_L_law_1495 rfl ?_
      refine e_iconst d_L_law_1496 (by decide) ?_
      refine e_iadd d_L_law_1497 o646 ?_
      refine e_tld_i (gn (gX e b m) 18) (gn (gX e b m) 19) (gscr (gX e b m)) (fun s h => h.2.2.2.2.2.2.2.2.2.2.2.2.2.2.2.2.2) (gscr_in _ _) d_L_law_1498 o647 o648 ?_
      refine e_aload_n d_L_law_1499 rfl ?_
      refine e_iload_n d_L_law_1500 rfl ?_
      refine e_iconst d_L_law_1501 (by decide) ?_
      refine e_iadd d_L_law_1502 o649 ?_
      refine e_tld_i (gn (gX e b m) 18) (gn (gX e b m) 19) (gscr (gX e b m)) (fun s h => h.2.2.2.2.2.2.2.2.2.2.2.2.2.2.2.2.2) (gscr_in _ _) d_L_law_1503 o650 o651 ?_
      refine EV.inv fun hFf655 => ?_
      have f655 := (fx_mt 0 rfl hFf655).1
      refine e_callV m_M_quarrel 12 lw_good d_L_law_1504 (k_M_quarrel _) ⟨Nat.le_of_ble_eq_true rfl, Nat.le_of_ble_eq_true rfl⟩ w_1859 w_1860 w_1861 (q_M _) rfl f655 (args := [(0, (gscr (gX e b m) (x3 + 1))), (0, (gscr (gX e b m) (x3 + 2))), (0, (gscr (gX e b m) (x3 + 3)))]) rfl rfl (Nat.le_of_ble_eq_true rfl) (kc' := kc) (ks' := ks) (mc := 0) (ms := 0) rfl rfl h ?_
      intro v656 G657 h
      refine e_icmp_eq (tgt := 1589) d_L_law_1507 (by decide) (fun q658 => ?_) (fun q659 => ?_)
      · have h := h.1 q658
        obtain ⟨o660, h⟩ := h
        refine e_iinc (ls' := [(2, ((gn (gX e b m) 18 : Int) + 1)), (2, ((b : Int) + 1)), (2, (m + 0)), (0, (x3 + 6))]) d_L_law_1589 rfl (by decide) o660 rfl ?_
        refine e_goto (tgt := 18) d_L_law_1592 (by decide) ?_
        exact e_forget (ls' := [(2, ((gn (gX e b m) 18 : Int) + 1)), (2, ((b : Int) + 1)), (2, (m + 0)), (0, (x3 + 6))]) ⟨Or.inr rfl, Or.inr rfl, Or.inr rfl, Or.inr rfl, trivial⟩ h
      · have h := h.2 q659
        refine e_iconst d_L_law_1510 (by decide) ?_
        exact e_zret .boolean d_L_law_1511 rfl (by decide) h
    by_cases q661 : (gand (gscr (gX e b m) x3) 63) = 39
    · have h := hs39 q661
      refine e_tableIn (tgt := 1512) d_L_law_33 (by omega) (by omega) (by rw [show (gand (gscr (gX e b m) x3) 63) = 39 from q661]; rfl) (by decide) ?_
      refine e_aload_n d_L_law_1512 rfl ?_
      refine e_aload_n d_L_law_1513 rfl ?_
      refine e_iload_n d_L_law_1514 rfl ?_
      refine e_iconst d_L_law_1515 (by decide) ?_
      obtain ⟨o662, h⟩ := h
      refine e_iadd d_L_law_1516 o662 ?_
      obtain ⟨o663, o664, h⟩ := h
      refine e_tld_i (gn (gX e b m) 18) (gn (gX e b m) 19) (gscr (gX e b m)) (fun s h => h.2.2.2.2.2.2.2.2.2.2.2.2.2.2.2.2.2) (gscr_in _ _) d_L_law_1517 o663 o664 ?_
      refine e_aload_n d_L_law_1518 rfl ?_
      refine e_iload_n d_L_law_1519 rfl ?_
      refine e_iconst d_L_law_1520 (by decide) ?_
      obtain ⟨o665, h⟩ := h
      refine e_iadd d_L_law_1521 o665 ?_
      obtain ⟨o666, o667, h⟩ := h
      refine e_tld_i (gn (gX e b m) 18) (gn (gX e b m) 19) (gscr (gX e b m)) (fun s h => h.2.2.2.2.2.2.2.2.2.2.2.2.2.2.2.2.2) (gscr_in _ _) d_L_law_1522 o666 o667 ?_
      refine e_aload_n d_L_law_1523 rfl ?_
      refine e_iload_n d_L_law_1524 rfl ?_
      refine e_iconst d_L_law_1525 (by decide) ?_
      obtain ⟨o668, h⟩ := h
      refine e_iadd d_L_law_1526 o668 ?_
      obtain ⟨o669, o670, h⟩ := h
      refine e_tld_i (gn (gX e b m) 18) (gn (gX e b m) 19) (gscr (gX e b m)) (fun s h => h.2.2.2.2.2.2.2.2.2.2.2.2.2.2.2.2.2) (gscr_in _ _) d_L_law_1527 o669 o670 ?_
      refine e_aload_n d_L_law_1528 rfl ?_
      refine e_iload_n d_L_law_1529 rfl ?_
      refine e_iconst d_L_law_1530 (by decide) ?_
      obtain ⟨o671, h⟩ := h
      refine e_iadd d_L_law_1531 o671 ?_
      obtain ⟨o672, o673, h⟩ := h
      refine e_tld_i (gn (gX e b m) 18) (gn (gX e b m) 19) (gscr (gX e b m)) (fun s h => h.2.2.2.2.2.2.2.2.2.2.2.2.2.2.2.2.2) (gscr_in _ _) d_L_law_1532 o672 o673 ?_
      refine EV.inv fun hFf674 => ?_
      have f674 := (fx_ct 0 rfl hFf674).1
      refine e_callV m_C_said 11 lw_good d_L_law_1533 (k_C_said _) ⟨Nat.le_of_ble_eq_true rfl, Nat.le_of_ble_eq_true rfl⟩ w_1367 w_1368 w_1369 (q_C _) rfl f674 (args := [(0, (gscr (gX e b m) (x3 + 1))), (0, (gscr (gX e b m) (x3 + 2))), (0, (gscr (gX e b m) (x3 + 3))), (0, (gscr (gX e b m) (x3 + 4)))]) rfl rfl (Nat.le_of_ble_eq_true rfl) (kc' := kc) (ks' := ks) (mc := 0) (ms := 0) rfl rfl h ?_
      intro v675 G676 h
      refine e_aload_n d_L_law_1536 rfl ?_
      refine e_aload_n d_L_law_1537 rfl ?_
      refine e_iload_n d_L_law_1538 rfl ?_
      refine e_iconst d_L_law_1539 (by decide) ?_
      refine e_iadd d_L_law_1540 o662 ?_
      refine e_tld_i (gn (gX e b m) 18) (gn (gX e b m) 19) (gscr (gX e b m)) (fun s h => h.2.2.2.2.2.2.2.2.2.2.2.2.2.2.2.2.2) (gscr_in _ _) d_L_law_1541 o663 o664 ?_
      refine e_aload_n d_L_law_1542 rfl ?_
      refine e_iload_n d_L_law_1543 rfl ?_
      refine e_iconst d_L_law_1544 (by decide) ?_
      refine e_iadd d_L_law_1545 o665 ?_
      refine e_tld_i (gn (gX e b m) 18) (gn (gX e b m) 19) (gscr (gX e b m)) (fun s h => h.2.2.2.2.2.2.2.2.2.2.2.2.2.2.2.2.2) (gscr_in _ _) d_L_law_1546 o666 o667 ?_
      refine e_aload_n d_L_law_1547 rfl ?_
      refine e_iload_n d_L_law_1548 rfl ?_
      refine e_iconst d_L_law_1549 (by decide) ?_
      refine e_iadd d_L_law_1550 o668 ?_
      refine e_tld_i (gn (gX e b m) 18) (gn (gX e b m) 19) (gscr (gX e b m)) (fun s h => h.2.2.2.2.2.2.2.2.2.2.2.2.2.2.2.2.2) (gscr_in _ _) d_L_law_1551 o669 o670 ?_
      refine e_aload_n d_L_law_1552 rfl ?_
      refine e_iload_n d_L_law_1553 rfl ?_
      refine e_iconst d_L_law_1554 (by decide) ?_
      refine e_iadd d_L_law_1555 o671 ?_
      refine e_tld_i (gn (gX e b m) 18) (gn (gX e b m) 19) (gscr (gX e b m)) (fun s h => h.2.2.2.2.2.2.2.2.2.2.2.2.2.2.2.2.2) (gscr_in _ _) d_L_law_1556 o672 o673 ?_
      refine EV.inv fun hFf677 => ?_
      have f677 := (fx_mt 0 rfl hFf677).1
      refine e_callV m_M_said 12 lw_good d_L_law_1557 (k_M_said _) ⟨Nat.le_of_ble_eq_true rfl, Nat.le_of_ble_eq_true rfl⟩ w_1871 w_1872 w_1873 (q_M _) rfl f677 (args := [(0, (gscr (gX e b m) (x3 + 1))), (0, (gscr (gX e b m) (x3 + 2))), (0, (gscr (gX e b m) (x3 + 3))), (0, (gscr (gX e b m) (x3 + 4)))]) rfl rfl (Nat.le_of_ble_eq_true rfl) (kc' := kc) (ks' := ks) (mc := 0) (ms := 0) rfl rfl h ?_
      intro v678 G679 h
      refine e_lcmp_eq (tgt := 1589) d_L_law_1560 d_L_law_1561 (by decide) (fun q680 => ?_) (fun q681 => ?_)
      · have h := h.1 q680
        obtain ⟨o682, h⟩ := h
        refine e_iinc (ls' := [(2, ((gn (gX e b m) 18 : Int) + 1)), (2, ((b : Int) + 1)), (2, (m + 0)), (0, (x3 + 6))]) d_L_law_1589 rfl (by decide) o682 rfl ?_
        refine e_goto (tgt := 18) d_L_law_1592 (by decide) ?_
        exact e_forget (ls' := [(2, ((gn (gX e b m) 18 : Int) + 1)), (2, ((b : Int) + 1)), (2, (m + 0)), (0, (x3 + 6))]) ⟨Or.inr rfl, Or.inr rfl, Or.inr rfl, Or.inr rfl, trivial⟩ h
      · have h := h.2 q681
        refine e_iconst d_L_law_1564 (by decide) ?_
        exact e_zret .boolean d_L_law_1565 rfl (by decide) h
    by_cases q683 : (gand (gscr (gX e b m) x3) 63) = 40
    · have h := hs40 q683
      refine e_tableIn (tgt := 1566) d_L_law_33 (by omega) (by omega) (by rw [show (gand (gscr (gX e b m) x3) 63) = 40 from q683]; rfl) (by decide) ?_
      refine e_aload_n d_L_law_1566 rfl ?_
      refine e_aload_n d_L_law_1567 rfl ?_
      refine e_iload_n d_L_law_1568 rfl ?_
      refine e_iconst d_L_law_1569 (by decide) ?_
      obtain ⟨o684, h⟩ := h
      refine e_iadd d_L_law_1570 o684 ?_
      obtain ⟨o685, o686, h⟩ := h
      refine e_tld_i (gn (gX e b m) 18) (gn (gX e b m) 19) (gscr (gX e b m)) (fun s h => h.2.2.2.2.2.2.2.2.2.2.2.2.2.2.2.2.2) (gscr_in _ _) d_L_law_1571 o685 o686 ?_
      refine EV.inv fun hFf687 => ?_
      have f687 := (fx_ct 0 rfl hFf687).1
      refine e_callV m_C_status 11 lw_good d_L_law_1572 (k_C_status _) ⟨Nat.le_of_ble_eq_true rfl, Nat.le_of_ble_eq_true rfl⟩ w_1373 w_1374 w_1375 (q_C _) rfl f687 (args := [(0, (gscr (gX e b m) (x3 + 1)))]) rfl rfl (Nat.le_of_ble_eq_true rfl) (kc' := kc) (ks' := ks) (mc := 0) (ms := 0) rfl rfl h ?_
      intro v688 G689 h
      refine e_aload_n d_L_law_1575 rfl ?_
      refine e_aload_n d_L_law_1576 rfl ?_
      refine e_iload_n d_L_law_1577 rfl ?_
      refine e_iconst d_L_law_1578 (by decide) ?_
      refine e_iadd d_L_law_1579 o684 ?_
      refine e_tld_i (gn (gX e b m) 18) (gn (gX e b m) 19) (gscr (gX e b m)) (fun s h => h.2.2.2.2.2.2.2.2.2.2.2.2.2.2.2.2.2) (gscr_in _ _) d_L_law_1580 o685 o686 ?_
      refine EV.inv fun hFf690 => ?_
      have f690 := (fx_mt 0 rfl hFf690).1
      refine e_callV m_M_status 12 lw_good d_L_law_1581 (k_M_status _) ⟨Nat.le_of_ble_eq_true rfl, Nat.le_of_ble_eq_true rfl⟩ w_1876 w_1877 w_1878 (q_M _) rfl f690 (args := [(0, (gscr (gX e b m) (x3 + 1)))]) rfl rfl (Nat.le_of_ble_eq_true rfl) (kc' := kc) (ks' := ks) (mc := 0) (ms := 0) rfl rfl h ?_
      intro v691 G692 h
      refine e_icmp_eq (tgt := 1589) d_L_law_1584 (by decide) (fun q693 => ?_) (fun q694 => ?_)
      · have h := h.1 q693
        obtain ⟨o695, h⟩ := h
        refine e_iinc (ls' := [(2, ((gn (gX e b m) 18 : Int) + 1)), (2, ((b : Int) + 1)), (2, (m + 0)), (0, (x3 + 6))]) d_L_law_1589 rfl (by decide) o695 rfl ?_
        refine e_goto (tgt := 18) d_L_law_1592 (by decide) ?_
        exact e_forget (ls' := [(2, ((gn (gX e b m) 18 : Int) + 1)), (2, ((b : Int) + 1)), (2, (m + 0)), (0, (x3 + 6))]) ⟨Or.inr rfl, Or.inr rfl, Or.inr rfl, Or.inr rfl, trivial⟩ h
      · have h := h.2 q694
        refine e_iconst d_L_law_1587 (by decide) ?_
        exact e_zret .boolean d_L_law_1588 rfl (by decide) h
    have q696 : (gand (gscr (gX e b m) x3) 63) ≠ 0 ∧ (gand (gscr (gX e b m) x3) 63) ≠ 1 ∧ (gand (gscr (gX e b m) x3) 63) ≠ 2 ∧ (gand (gscr (gX e b m) x3) 63) ≠ 3 ∧ (gand (gscr (gX e b m) x3) 63) ≠ 4 ∧ (gand (gscr (gX e b m) x3) 63) ≠ 5 ∧ (gand (gscr (gX e b m) x3) 63) ≠ 6 ∧ (gand (gscr (gX e b m) x3) 63) ≠ 7 ∧ (gand (gscr (gX e b m) x3) 63) ≠ 8 ∧ (gand (gscr (gX e b m) x3) 63) ≠ 9 ∧ (gand (gscr (gX e b m) x3) 63) ≠ 10 ∧ (gand (gscr (gX e b m) x3) 63) ≠ 11 ∧ (gand (gscr (gX e b m) x3) 63) ≠ 12 ∧ (gand (gscr (gX e b m) x3) 63) ≠ 13 ∧ (gand (gscr (gX e b m) x3) 63) ≠ 14 ∧ (gand (gscr (gX e b m) x3) 63) ≠ 15 ∧ (gand (gscr (gX e b m) x3) 63) ≠ 16 ∧ (gand (gscr (gX e b m) x3) 63) ≠ 17 ∧ (gand (gscr (gX e b m) x3) 63) ≠ 18 ∧ (gand (gscr (gX e b m) x3) 63) ≠ 19 ∧ (gand (gscr (gX e b m) x3) 63) ≠ 20 ∧ (gand (gscr (gX e b m) x3) 63) ≠ 21 ∧ (gand (gscr (gX e b m) x3) 63) ≠ 22 ∧ (gand (gscr (gX e b m) x3) 63) ≠ 23 ∧ (gand (gscr (gX e b m) x3) 63) ≠ 24 ∧ (gand (gscr (gX e b m) x3) 63) ≠ 25 ∧ (gand (gscr (gX e b m) x3) 63) ≠ 26 ∧ (gand (gscr (gX e b m) x3) 63) ≠ 27 ∧ (gand (gscr (gX e b m) x3) 63) ≠ 28 ∧ (gand (gscr (gX e b m) x3) 63) ≠ 29 ∧ (gand (gscr (gX e b m) x3) 63) ≠ 30 ∧ (gand (gscr (gX e b m) x3) 63) ≠ 31 ∧ (gand (gscr (gX e b m) x3) 63) ≠ 32 ∧ (gand (gscr (gX e b m) x3) 63) ≠ 33 ∧ (gand (gscr (gX e b m) x3) 63) ≠ 34 ∧ (gand (gscr (gX e b m) x3) 63) ≠ 35 ∧ (gand (gscr (gX e b m) x3) 63) ≠ 36 ∧ (gand (gscr (gX e b m) x3) 63) ≠ 37 ∧ (gand (gscr (gX e b m) x3) 63) ≠ 38 ∧ (gand (gscr (gX e b m) x3) 63) ≠ 39 ∧ (gand (gscr (gX e b m) x3) 63) ≠ 40 := ⟨q7, q26, q43, q72, q89, q99, q119, q138, q160, q185, q201, q217, q230, q243, q260, q266, q280, q297, q317, q334, q347, q360, q373, q396, q412, q428, q447, q463, q476, q482, q502, q515, q532, q549, q571, q587, q607, q623, q642, q661, q683⟩
    have h := hs41 q696
    have hout : ((gand (gscr (gX e b m) x3) 63) < 0 ∨ 40 < (gand (gscr (gX e b m) x3) 63)) := by omega
    refine e_tableOut (tgt := 1589) d_L_law_33 hout (by decide) ?_
    obtain ⟨o757, h⟩ := h
    refine e_iinc (ls' := [(2, ((gn (gX e b m) 18 : Int) + 1)), (2, ((b : Int) + 1)), (2, (m + 0)), (0, (x3 + 6))]) d_L_law_1589 rfl (by decide) o757 rfl ?_
    refine e_goto (tgt := 18) d_L_law_1592 (by decide) ?_
    exact e_forget (ls' := [(2, ((gn (gX e b m) 18 : Int) + 1)), (2, ((b : Int) + 1)), (2, (m + 0)), (0, (x3 + 6))]) ⟨Or.inr rfl, Or.inr rfl, Or.inr rfl, Or.inr rfl, trivial⟩ h
theorem zM_rf {m : Int} {G G1 : gH} (h : zRf m G G1) : zM m G1 = zM m G := by
  funext k i
  unfold zM
  split
  · split
    · exact h _ _ _ (by decide) (by omega) (by omega)
    · exact h _ _ _ (by decide) (by omega) (by omega)
  · split
    · exact h _ _ _ (by omega) (by omega) (by omega)
    · rfl
theorem zin {y : Int} (h : 0 ≤ y ∧ y < 4000) : inI y := ⟨by omega, by omega⟩
/-- what the loop's next turn wants -/
def zIH (e : gE) (b : Nat) (m n x : Int) : Prop := ∀ (kc ks : Nat) (G : gH) (A : zA), zM m G = A → zRel e b m G A → zInv (n + 1) A → 64 * (511 - n) ≤ (kc : Int) → 2560 * (511 - n) + (98304 - zPsi A) ≤ (ks : Int) → EX e b m m_L_law (fun v _ => v = 1) kc ks 18 [(2, ((gn (gX e b m) 18 : Int) + 1)), (2, ((b : Int) + 1)), (2, (m + 0)), (0, (x + 6))] [] G
theorem zStp {e : gE} {b : Nat} {m n x : Int} {G : gH} {A : zA} {r : Int × zA} {MC MM : gM} {aC aM : List gV} {kc ks mc ms : Nat} (ih : zIH e b m n x) (hx : inI (x + 6)) (hA : zM m G = A)
    (hC : GX e b m MC aC G mc ms (zCQ e b m G r)) (hM : ∀ G1, zM m G1 = A → GX e b m MM aM G1 0 0 (zQ m G1 r)) (v : zInv (n + 1) r.2) (hk : 64 * (511 - n) ≤ (kc : Int)) (hs : 2560 * (511 - n) + (98304 - zPsi r.2) ≤ (ks : Int)) :
    GX e b m MC aC G mc ms (fun v1 G1 => GX e b m MM aM G1 0 0 (fun v2 G2 => (v1 = v2 → inI (x + 6) ∧ EX e b m m_L_law (fun v _ => v = 1) kc ks 18 [(2, ((gn (gX e b m) 18 : Int) + 1)), (2, ((b : Int) + 1)), (2, (m + 0)), (0, (x + 6))] [] G2) ∧ (v1 ≠ v2 → (0 : Int) = 1))) := by
  refine GM.mono hC ?_
  rintro v1 G1 ⟨h1, h2, h3⟩
  refine GM.inv fun hF1 => GM.mono (hM G1 ((zM_rf h3).trans hA)) ?_
  rintro v2 G2 ⟨k1, k2, k3⟩
  refine ⟨fun _ => ⟨hx, EV.inv fun hF2 => ih kc ks G2 r.2 k2 (zRel_M (fx_lo hF1).1 (zEq_mk hF1 hF2 k3) h2) v hk hs⟩, fun q => absurd (h1.trans k1.symm) q⟩
theorem zQp {e : gE} {b : Nat} {m : Int} {G : gH} {A : zA} {M : gM} {args : List gV} {y : Int} (w : zM m G = A) (h : GX e b m M args G 0 0 (fun v G9 => v = y ∧ G9 = G)) : GX e b m M args G 0 0 (zQ m G (y, A)) := by
  refine GM.mono h ?_
  rintro v _ ⟨rfl, rfl⟩
  exact ⟨rfl, w, zC_r⟩
/-- what a turn has at hand -/
def zTu (n : Int) (A : zA) (kc ks : Nat) : Prop := zInv n A ∧ (0 ≤ n ∧ n < 512) ∧ 64 * (512 - n) ≤ (kc : Int) ∧ 2560 * (512 - n) + (98304 - zPsi A) ≤ (ks : Int)
theorem zk_door {e : gE} {b : Nat} {m n x : Int} {G : gH} {A : zA} {kc ks : Nat} (ih : zIH e b m n x) (hx : inI (x + 6)) (hA : zM m G = A) (hR : zRel e b m G A) (hT : zTu n A kc ks) : GX e b m m_C_door [(2, ((b : Int) + 1)), (0, (gscr (gX e b m) (x + 1))), (0, (gscr (gX e b m) (x + 2))), (0, (gscr (gX e b m) (x + 3)))] G 0 0 (fun v1 G1 => GX e b m m_M_door [(2, (m + 0)), (0, (gscr (gX e b m) (x + 1))), (0, (gscr (gX e b m) (x + 2))), (0, (gscr (gX e b m) (x + 3)))] G1 0 0 (fun v2 G2 => (v1 = v2 → inI (x + 6) ∧ EX e b m m_L_law (fun v _ => v = 1) kc ks 18 [(2, ((gn (gX e b m) 18 : Int) + 1)), (2, ((b : Int) + 1)), (2, (m + 0)), (0, (x + 6))] [] G2) ∧ (v1 ≠ v2 → (0 : Int) = 1))) := by
  obtain ⟨hI, hN, hk, hs⟩ := hT
  have hn := hN.2
  have h := hI.i
  have hB : zB 512 A := zB_mono h.b (by omega)
  have hv : zInv (n + 1) (zfDoor A (gscr (gX e b m) (x + 1)) (gscr (gX e b m) (x + 2)) (gscr (gX e b m) (x + 3))).2 := v_door hI hn
  have hg := zPsi_gw (B := (zfDoor A (gscr (gX e b m) (x + 1)) (gscr (gX e b m) (x + 2)) (gscr (gX e b m) (x + 3))).2) h.b (g_door)
  have b1 := zPsib hv.i.b
  have b2 := zPsib h.b
  exact zStp (r := (zfDoor A (gscr (gX e b m) (x + 1)) (gscr (gX e b m) (x + 2)) (gscr (gX e b m) (x + 3)))) ih hx hA (c_C_door hR hB h.dr) (fun G1 w => by
      have k := c_M_door (e := e) (b := b) (m := m) (G := G1) (p1 := (gscr (gX e b m) (x + 1))) (p2 := (gscr (gX e b m) (x + 2))) (p3 := (gscr (gX e b m) (x + 3))) (show zB 512 (zM m G1) by rw [w]; exact hB)
      rw [w] at k
      exact k) hv (by omega) (by omega)
theorem zk_team {e : gE} {b : Nat} {m n x : Int} {G : gH} {A : zA} {kc ks : Nat} (ih : zIH e b m n x) (hx : inI (x + 6)) (hA : zM m G = A) (hR : zRel e b m G A) (hT : zTu n A kc ks) : ∃ kc1 ks1 mc ms : Nat, kc = kc1 + mc ∧ ks = ks1 + ms ∧ GX e b m m_C_team [(2, ((b : Int) + 1)), (0, (gscr (gX e b m) (x + 1)))] G mc ms (fun v1 G1 => GX e b m m_M_team [(2, (m + 0)), (0, (gscr (gX e b m) (x + 1)))] G1 0 0 (fun v2 G2 => (v1 = v2 → inI (x + 6) ∧ EX e b m m_L_law (fun v _ => v = 1) kc1 ks1 18 [(2, ((gn (gX e b m) 18 : Int) + 1)), (2, ((b : Int) + 1)), (2, (m + 0)), (0, (x + 6))] [] G2) ∧ (v1 ≠ v2 → (0 : Int) = 1))) := by
  obtain ⟨hI, hN, hk, hs⟩ := hT
  have hn := hN.2
  have h := hI.i
  have hB : zB 512 A := zB_mono h.b (by omega)
  have hv : zInv (n + 1) (zfTeam A (gscr (gX e b m) (x + 1))).2 := v_team hI
  have hg := zPsi_gw (B := (zfTeam A (gscr (gX e b m) (x + 1))).2) h.b (g_team)
  have b1 := zPsib hv.i.b
  have b2 := zPsib h.b
  refine ⟨kc - 2, ks - 43, 2, 43, by omega, by omega, zStp (r := (zfTeam A (gscr (gX e b m) (x + 1)))) ih hx hA (c_C_team hR hB (h.nm _ (Int.le_refl _))) (fun G1 w => by
      have k := c_M_team (e := e) (b := b) (m := m) (G := G1) (p1 := (gscr (gX e b m) (x + 1))) (show zB 512 (zM m G1) by rw [w]; exact hB)
      rw [w] at k
      exact k) hv (by omega) (by omega)⟩
theorem zk_thing {e : gE} {b : Nat} {m n x : Int} {G : gH} {A : zA} {kc ks : Nat} (ih : zIH e b m n x) (hx : inI (x + 6)) (hA : zM m G = A) (hR : zRel e b m G A) (hT : zTu n A kc ks) : ∃ kc1 ks1 mc ms : Nat, kc = kc1 + mc ∧ ks = ks1 + ms ∧ GX e b m m_C_thing [(2, ((b : Int) + 1)), (0, (gscr (gX e b m) (x + 1))), (0, (gscr (gX e b m) (x + 2))), (0, (gscr (gX e b m) (x + 3))), (0, (gscr (gX e b m) (x + 4))), (0, (gscr (gX e b m) (x + 5)))] G mc ms (fun v1 G1 => GX e b m m_M_thing [(2, (m + 0)), (0, (gscr (gX e b m) (x + 1))), (0, (gscr (gX e b m) (x + 2))), (0, (gscr (gX e b m) (x + 3))), (0, (gscr (gX e b m) (x + 4))), (0, (gscr (gX e b m) (x + 5)))] G1 0 0 (fun v2 G2 => (v1 = v2 → inI (x + 6) ∧ EX e b m m_L_law (fun v _ => v = 1) kc1 ks1 18 [(2, ((gn (gX e b m) 18 : Int) + 1)), (2, ((b : Int) + 1)), (2, (m + 0)), (0, (x + 6))] [] G2) ∧ (v1 ≠ v2 → (0 : Int) = 1))) := by
  obtain ⟨hI, hN, hk, hs⟩ := hT
  have hn := hN.2
  have h := hI.i
  have hB : zB 512 A := zB_mono h.b (by omega)
  have hz : zNw A := ⟨h.nt _ (Int.le_refl _), h.sl, h.ih⟩
  have hv : zInv (n + 1) (zfThing A (gscr (gX e b m) (x + 1)) (gscr (gX e b m) (x + 2)) (gscr (gX e b m) (x + 3)) (gscr (gX e b m) (x + 4)) (gscr (gX e b m) (x + 5))).2 := v_thing hI
  have hg := zPsi_gw (B := (zfThing A (gscr (gX e b m) (x + 1)) (gscr (gX e b m) (x + 2)) (gscr (gX e b m) (x + 3)) (gscr (gX e b m) (x + 4)) (gscr (gX e b m) (x + 5))).2) h.b (g_thing)
  have b1 := zPsib hv.i.b
  have b2 := zPsib h.b
  refine ⟨kc - 4, ks - 86, 4, 86, by omega, by omega, zStp (r := (zfThing A (gscr (gX e b m) (x + 1)) (gscr (gX e b m) (x + 2)) (gscr (gX e b m) (x + 3)) (gscr (gX e b m) (x + 4)) (gscr (gX e b m) (x + 5)))) ih hx hA (c_C_thing hR hB hz) (fun G1 w => by
      have k := c_M_thing (e := e) (b := b) (m := m) (G := G1) (p1 := (gscr (gX e b m) (x + 1))) (p2 := (gscr (gX e b m) (x + 2))) (p3 := (gscr (gX e b m) (x + 3))) (p4 := (gscr (gX e b m) (x + 4))) (p5 := (gscr (gX e b m) (x + 5))) (show zB 512 (zM m G1) by rw [w]; exact hB)
      rw [w] at k
      exact k) hv (by omega) (by omega)⟩
theorem zk_label {e : gE} {b : Nat} {m n x : Int} {G : gH} {A : zA} {kc ks : Nat} (ih : zIH e b m n x) (hx : inI (x + 6)) (hA : zM m G = A) (hR : zRel e b m G A) (hT : zTu n A kc ks) : ∃ kc1 ks1 mc ms : Nat, kc = kc1 + mc ∧ ks = ks1 + ms ∧ GX e b m m_C_label [(2, ((b : Int) + 1)), (0, (gscr (gX e b m) (x + 1)))] G mc ms (fun v1 G1 => GX e b m m_M_label [(2, (m + 0)), (0, (gscr (gX e b m) (x + 1)))] G1 0 0 (fun v2 G2 => (v1 = v2 → inI (x + 6) ∧ EX e b m m_L_law (fun v _ => v = 1) kc1 ks1 18 [(2, ((gn (gX e b m) 18 : Int) + 1)), (2, ((b : Int) + 1)), (2, (m + 0)), (0, (x + 6))] [] G2) ∧ (v1 ≠ v2 → (0 : Int) = 1))) := by
  obtain ⟨hI, hN, hk, hs⟩ := hT
  have hn := hN.2
  have h := hI.i
  have hB : zB 512 A := zB_mono h.b (by omega)
  have hz : zNw A := ⟨h.nt _ (Int.le_refl _), h.sl, h.ih⟩
  have hv : zInv (n + 1) (zfLabel A (gscr (gX e b m) (x + 1))).2 := v_label hI
  have hg := zPsi_gw (B := (zfLabel A (gscr (gX e b m) (x + 1))).2) h.b (g_label)
  have b1 := zPsib hv.i.b
  have b2 := zPsib h.b
  refine ⟨kc - 4, ks - 86, 4, 86, by omega, by omega, zStp (r := (zfLabel A (gscr (gX e b m) (x + 1)))) ih hx hA (c_C_label hR hB h.shw hz) (fun G1 w => by
      have k := c_M_label (e := e) (b := b) (m := m) (G := G1) (p1 := (gscr (gX e b m) (x + 1))) (show zB 512 (zM m G1) by rw [w]; exact hB)
      rw [w] at k
      exact k) hv (by omega) (by omega)⟩
theorem zk_fault {e : gE} {b : Nat} {m n x : Int} {G : gH} {A : zA} {kc ks : Nat} (ih : zIH e b m n x) (hx : inI (x + 6)) (hA : zM m G = A) (hR : zRel e b m G A) (hT : zTu n A kc ks) : GX e b m m_C_fault [(2, ((b : Int) + 1))] G 0 0 (fun v1 G1 => GX e b m m_M_fault [(2, (m + 0))] G1 0 0 (fun v2 G2 => (v1 = v2 → inI (x + 6) ∧ EX e b m m_L_law (fun v _ => v = 1) kc ks 18 [(2, ((gn (gX e b m) 18 : Int) + 1)), (2, ((b : Int) + 1)), (2, (m + 0)), (0, (x + 6))] [] G2) ∧ (v1 ≠ v2 → (0 : Int) = 1))) := by
  obtain ⟨hI, hN, hk, hs⟩ := hT
  have hn := hN.2
  have h := hI.i
  have hB : zB 512 A := zB_mono h.b (by omega)
  have hv : zInv (n + 1) (A 793 0, A).2 := zInv_1 hI
  have hg := zPsi_gw (B := (A 793 0, A).2) h.b (zGw_r)
  have b1 := zPsib hv.i.b
  have b2 := zPsib h.b
  exact zStp (r := (A 793 0, A)) ih hx hA (c_C_fault hR) (fun G1 w => by
      have k := c_M_fault (e := e) (b := b) (m := m) (G := G1)  
      rw [w] at k
      exact zQp w k) hv (by omega) (by omega)
theorem zk_danger {e : gE} {b : Nat} {m n x : Int} {G : gH} {A : zA} {kc ks : Nat} (ih : zIH e b m n x) (hx : inI (x + 6)) (hA : zM m G = A) (hR : zRel e b m G A) (hT : zTu n A kc ks) : ∃ kc1 ks1 mc ms : Nat, kc = kc1 + mc ∧ ks = ks1 + ms ∧ GX e b m m_C_danger [(2, ((b : Int) + 1)), (0, (gscr (gX e b m) (x + 1))), (0, (gscr (gX e b m) (x + 2)))] G mc ms (fun v1 G1 => GX e b m m_M_danger [(2, (m + 0)), (0, (gscr (gX e b m) (x + 1))), (0, (gscr (gX e b m) (x + 2)))] G1 0 0 (fun v2 G2 => (v1 = v2 → inI (x + 6) ∧ EX e b m m_L_law (fun v _ => v = 1) kc1 ks1 18 [(2, ((gn (gX e b m) 18 : Int) + 1)), (2, ((b : Int) + 1)), (2, (m + 0)), (0, (x + 6))] [] G2) ∧ (v1 ≠ v2 → (0 : Int) = 1))) := by
  obtain ⟨hI, hN, hk, hs⟩ := hT
  have hn := hN.2
  have h := hI.i
  have hB : zB 512 A := zB_mono h.b (by omega)
  have hv : zInv (n + 1) (zfDanger A (gscr (gX e b m) (x + 1)) (gscr (gX e b m) (x + 2))).2 := v_danger hI
  have hg := zPsi_gw (B := (zfDanger A (gscr (gX e b m) (x + 1)) (gscr (gX e b m) (x + 2))).2) h.b (g_danger)
  have b1 := zPsib hv.i.b
  have b2 := zPsib h.b
  refine ⟨kc - 32, ks - 1280, 32, 1280, by omega, by omega, zStp (r := (zfDanger A (gscr (gX e b m) (x + 1)) (gscr (gX e b m) (x + 2)))) ih hx hA (c_C_danger hR hB h.ir h.wf) (fun G1 w => by
      have k := c_M_danger (e := e) (b := b) (m := m) (G := G1) (p1 := (gscr (gX e b m) (x + 1))) (p2 := (gscr (gX e b m) (x + 2))) (show zB 512 (zM m G1) by rw [w]; exact hB) (by rw [w]; exact h.ir)
      rw [w] at k
      exact k) hv (by omega) (by omega)⟩
theorem zk_row {e : gE} {b : Nat} {m n x : Int} {G : gH} {A : zA} {kc ks : Nat} (ih : zIH e b m n x) (hx : inI (x + 6)) (hA : zM m G = A) (hR : zRel e b m G A) (hT : zTu n A kc ks) : GX e b m m_C_row [(2, ((b : Int) + 1)), (0, (gscr (gX e b m) (x + 1))), (0, (gscr (gX e b m) (x + 2))), (0, (gscr (gX e b m) (x + 3)))] G 0 0 (fun v1 G1 => GX e b m m_M_row [(2, (m + 0)), (0, (gscr (gX e b m) (x + 1))), (0, (gscr (gX e b m) (x + 2))), (0, (gscr (gX e b m) (x + 3)))] G1 0 0 (fun v2 G2 => (v1 = v2 → inI (x + 6) ∧ EX e b m m_L_law (fun v _ => v = 1) kc ks 18 [(2, ((gn (gX e b m) 18 : Int) + 1)), (2, ((b : Int) + 1)), (2, (m + 0)), (0, (x + 6))] [] G2) ∧ (v1 ≠ v2 → (0 : Int) = 1))) := by
  obtain ⟨hI, hN, hk, hs⟩ := hT
  have hn := hN.2
  have h := hI.i
  have hB : zB 512 A := zB_mono h.b (by omega)
  have hv : zInv (n + 1) (zfRow A (gscr (gX e b m) (x + 1)) (gscr (gX e b m) (x + 2)) (gscr (gX e b m) (x + 3))).2 := v_row hI
  have hg := zPsi_gw (B := (zfRow A (gscr (gX e b m) (x + 1)) (gscr (gX e b m) (x + 2)) (gscr (gX e b m) (x + 3))).2) h.b (g_row)
  have b1 := zPsib hv.i.b
  have b2 := zPsib h.b
  exact zStp (r := (zfRow A (gscr (gX e b m) (x + 1)) (gscr (gX e b m) (x + 2)) (gscr (gX e b m) (x + 3)))) ih hx hA (c_C_row hR hB) (fun G1 w => by
      have k := c_M_row (e := e) (b := b) (m := m) (G := G1) (p1 := (gscr (gX e b m) (x + 1))) (p2 := (gscr (gX e b m) (x + 2))) (p3 := (gscr (gX e b m) (x + 3))) (show zB 512 (zM m G1) by rw [w]; exact hB)
      rw [w] at k
      exact k) hv (by omega) (by omega)
theorem zk_set {e : gE} {b : Nat} {m n x : Int} {G : gH} {A : zA} {kc ks : Nat} (ih : zIH e b m n x) (hx : inI (x + 6)) (hA : zM m G = A) (hR : zRel e b m G A) (hT : zTu n A kc ks) : GX e b m m_C_set [(2, ((b : Int) + 1)), (0, (gscr (gX e b m) (x + 1))), (0, (gscr (gX e b m) (x + 2))), (1, (glor (glshl (gscr (gX e b m) (x + 3)) 32) (gland (gscr (gX e b m) (x + 4)) 4294967295)))] G 0 0 (fun v1 G1 => GX e b m m_M_set [(2, (m + 0)), (0, (gscr (gX e b m) (x + 1))), (0, (gscr (gX e b m) (x + 2))), (1, (glor (glshl (gscr (gX e b m) (x + 3)) 32) (gland (gscr (gX e b m) (x + 4)) 4294967295)))] G1 0 0 (fun v2 G2 => (v1 = v2 → inI (x + 6) ∧ EX e b m m_L_law (fun v _ => v = 1) kc ks 18 [(2, ((gn (gX e b m) 18 : Int) + 1)), (2, ((b : Int) + 1)), (2, (m + 0)), (0, (x + 6))] [] G2) ∧ (v1 ≠ v2 → (0 : Int) = 1))) := by
  obtain ⟨hI, hN, hk, hs⟩ := hT
  have hn := hN.2
  have h := hI.i
  have hB : zB 512 A := zB_mono h.b (by omega)
  have hv : zInv (n + 1) (zfSet A (gscr (gX e b m) (x + 1)) (gscr (gX e b m) (x + 2)) (glor (glshl (gscr (gX e b m) (x + 3)) 32) (gland (gscr (gX e b m) (x + 4)) 4294967295))).2 := v_set hI (inL_t _)
  have hg := zPsi_gw (B := (zfSet A (gscr (gX e b m) (x + 1)) (gscr (gX e b m) (x + 2)) (glor (glshl (gscr (gX e b m) (x + 3)) 32) (gland (gscr (gX e b m) (x + 4)) 4294967295))).2) h.b (g_set)
  have b1 := zPsib hv.i.b
  have b2 := zPsib h.b
  exact zStp (r := (zfSet A (gscr (gX e b m) (x + 1)) (gscr (gX e b m) (x + 2)) (glor (glshl (gscr (gX e b m) (x + 3)) 32) (gland (gscr (gX e b m) (x + 4)) 4294967295)))) ih hx hA (c_C_set hR hB h.shw) (fun G1 w => by
      have k := c_M_set (e := e) (b := b) (m := m) (G := G1) (p1 := (gscr (gX e b m) (x + 1))) (p2 := (gscr (gX e b m) (x + 2))) (p3 := (glor (glshl (gscr (gX e b m) (x + 3)) 32) (gland (gscr (gX e b m) (x + 4)) 4294967295))) (show zB 512 (zM m G1) by rw [w]; exact hB)
      rw [w] at k
      exact k) hv (by omega) (by omega)
theorem zk_copy {e : gE} {b : Nat} {m n x : Int} {G : gH} {A : zA} {kc ks : Nat} (ih : zIH e b m n x) (hx : inI (x + 6)) (hA : zM m G = A) (hR : zRel e b m G A) (hT : zTu n A kc ks) : GX e b m m_C_copy [(2, ((b : Int) + 1)), (0, (gscr (gX e b m) (x + 1))), (0, (gscr (gX e b m) (x + 2))), (0, (gscr (gX e b m) (x + 3))), (0, (gscr (gX e b m) (x + 4))), (0, (gscr (gX e b m) (x + 5)))] G 0 0 (fun v1 G1 => GX e b m m_M_copy [(2, (m + 0)), (0, (gscr (gX e b m) (x + 1))), (0, (gscr (gX e b m) (x + 2))), (0, (gscr (gX e b m) (x + 3))), (0, (gscr (gX e b m) (x + 4))), (0, (gscr (gX e b m) (x + 5)))] G1 0 0 (fun v2 G2 => (v1 = v2 → inI (x + 6) ∧ EX e b m m_L_law (fun v _ => v = 1) kc ks 18 [(2, ((gn (gX e b m) 18 : Int) + 1)), (2, ((b : Int) + 1)), (2, (m + 0)), (0, (x + 6))] [] G2) ∧ (v1 ≠ v2 → (0 : Int) = 1))) := by
  obtain ⟨hI, hN, hk, hs⟩ := hT
  have hn := hN.2
  have h := hI.i
  have hB : zB 512 A := zB_mono h.b (by omega)
  have hv : zInv (n + 1) (zfCopy A (gscr (gX e b m) (x + 1)) (gscr (gX e b m) (x + 2)) (gscr (gX e b m) (x + 3)) (gscr (gX e b m) (x + 4)) (gscr (gX e b m) (x + 5))).2 := v_copy hI
  have hg := zPsi_gw (B := (zfCopy A (gscr (gX e b m) (x + 1)) (gscr (gX e b m) (x + 2)) (gscr (gX e b m) (x + 3)) (gscr (gX e b m) (x + 4)) (gscr (gX e b m) (x + 5))).2) h.b (g_copy)
  have b1 := zPsib hv.i.b
  have b2 := zPsib h.b
  exact zStp (r := (zfCopy A (gscr (gX e b m) (x + 1)) (gscr (gX e b m) (x + 2)) (gscr (gX e b m) (x + 3)) (gscr (gX e b m) (x + 4)) (gscr (gX e b m) (x + 5)))) ih hx hA (c_C_copy hR hB h.shw) (fun G1 w => by
      have k := c_M_copy (e := e) (b := b) (m := m) (G := G1) (p1 := (gscr (gX e b m) (x + 1))) (p2 := (gscr (gX e b m) (x + 2))) (p3 := (gscr (gX e b m) (x + 3))) (p4 := (gscr (gX e b m) (x + 4))) (p5 := (gscr (gX e b m) (x + 5))) (show zB 512 (zM m G1) by rw [w]; exact hB)
      rw [w] at k
      exact k) hv (by omega) (by omega)
theorem zk_element {e : gE} {b : Nat} {m n x : Int} {G : gH} {A : zA} {kc ks : Nat} (ih : zIH e b m n x) (hx : inI (x + 6)) (hA : zM m G = A) (hR : zRel e b m G A) (hT : zTu n A kc ks) : GX e b m m_C_element [(2, ((b : Int) + 1)), (0, (gscr (gX e b m) (x + 1))), (0, (gscr (gX e b m) (x + 2)))] G 0 0 (fun v1 G1 => GX e b m m_M_element [(2, (m + 0)), (0, (gscr (gX e b m) (x + 1))), (0, (gscr (gX e b m) (x + 2)))] G1 0 0 (fun v2 G2 => (v1 = v2 → inI (x + 6) ∧ EX e b m m_L_law (fun v _ => v = 1) kc ks 18 [(2, ((gn (gX e b m) 18 : Int) + 1)), (2, ((b : Int) + 1)), (2, (m + 0)), (0, (x + 6))] [] G2) ∧ (v1 ≠ v2 → (0 : Int) = 1))) := by
  obtain ⟨hI, hN, hk, hs⟩ := hT
  have hn := hN.2
  have h := hI.i
  have hB : zB 512 A := zB_mono h.b (by omega)
  have hv : zInv (n + 1) (zfElement A (gscr (gX e b m) (x + 1)) (gscr (gX e b m) (x + 2)), A).2 := zInv_1 hI
  have hg := zPsi_gw (B := (zfElement A (gscr (gX e b m) (x + 1)) (gscr (gX e b m) (x + 2)), A).2) h.b (zGw_r)
  have b1 := zPsib hv.i.b
  have b2 := zPsib h.b
  exact zStp (r := (zfElement A (gscr (gX e b m) (x + 1)) (gscr (gX e b m) (x + 2)), A)) ih hx hA (c_C_element hR hB) (fun G1 w => by
      have k := c_M_element (e := e) (b := b) (m := m) (G := G1) (p1 := (gscr (gX e b m) (x + 1))) (p2 := (gscr (gX e b m) (x + 2))) (show zB 512 (zM m G1) by rw [w]; exact hB)
      rw [w] at k
      exact zQp w k) hv (by omega) (by omega)
theorem zk_show {e : gE} {b : Nat} {m n x : Int} {G : gH} {A : zA} {kc ks : Nat} (ih : zIH e b m n x) (hx : inI (x + 6)) (hA : zM m G = A) (hR : zRel e b m G A) (hT : zTu n A kc ks) : GX e b m m_C_show [(2, ((b : Int) + 1)), (0, (gscr (gX e b m) (x + 1))), (0, (gscr (gX e b m) (x + 2)))] G 0 0 (fun v1 G1 => GX e b m m_M_show [(2, (m + 0)), (0, (gscr (gX e b m) (x + 1))), (0, (gscr (gX e b m) (x + 2)))] G1 0 0 (fun v2 G2 => (v1 = v2 → inI (x + 6) ∧ EX e b m m_L_law (fun v _ => v = 1) kc ks 18 [(2, ((gn (gX e b m) 18 : Int) + 1)), (2, ((b : Int) + 1)), (2, (m + 0)), (0, (x + 6))] [] G2) ∧ (v1 ≠ v2 → (0 : Int) = 1))) := by
  obtain ⟨hI, hN, hk, hs⟩ := hT
  have hn := hN.2
  have h := hI.i
  have hB : zB 512 A := zB_mono h.b (by omega)
  have hv : zInv (n + 1) (zfShow A (gscr (gX e b m) (x + 1)) (gscr (gX e b m) (x + 2))).2 := v_show hI
  have hg := zPsi_gw (B := (zfShow A (gscr (gX e b m) (x + 1)) (gscr (gX e b m) (x + 2))).2) h.b (g_show)
  have b1 := zPsib hv.i.b
  have b2 := zPsib h.b
  exact zStp (r := (zfShow A (gscr (gX e b m) (x + 1)) (gscr (gX e b m) (x + 2)))) ih hx hA (c_C_show hR hB) (fun G1 w => by
      have k := c_M_show (e := e) (b := b) (m := m) (G := G1) (p1 := (gscr (gX e b m) (x + 1))) (p2 := (gscr (gX e b m) (x + 2))) (show zB 512 (zM m G1) by rw [w]; exact hB)
      rw [w] at k
      exact k) hv (by omega) (by omega)
theorem zk_holds {e : gE} {b : Nat} {m n x : Int} {G : gH} {A : zA} {kc ks : Nat} (ih : zIH e b m n x) (hx : inI (x + 6)) (hA : zM m G = A) (hR : zRel e b m G A) (hT : zTu n A kc ks) : GX e b m m_C_holds [(2, ((b : Int) + 1)), (0, (gscr (gX e b m) (x + 1)))] G 0 0 (fun v1 G1 => GX e b m m_M_holds [(2, (m + 0)), (0, (gscr (gX e b m) (x + 1)))] G1 0 0 (fun v2 G2 => (v1 = v2 → inI (x + 6) ∧ EX e b m m_L_law (fun v _ => v = 1) kc ks 18 [(2, ((gn (gX e b m) 18 : Int) + 1)), (2, ((b : Int) + 1)), (2, (m + 0)), (0, (x + 6))] [] G2) ∧ (v1 ≠ v2 → (0 : Int) = 1))) := by
  obtain ⟨hI, hN, hk, hs⟩ := hT
  have hn := hN.2
  have h := hI.i
  have hB : zB 512 A := zB_mono h.b (by omega)
  have hv : zInv (n + 1) (zfHolds A (gscr (gX e b m) (x + 1)), A).2 := zInv_1 hI
  have hg := zPsi_gw (B := (zfHolds A (gscr (gX e b m) (x + 1)), A).2) h.b (zGw_r)
  have b1 := zPsib hv.i.b
  have b2 := zPsib h.b
  exact zStp (r := (zfHolds A (gscr (gX e b m) (x + 1)), A)) ih hx hA (c_C_holds hR) (fun G1 w => by
      have k := c_M_holds (e := e) (b := b) (m := m) (G := G1) (p1 := (gscr (gX e b m) (x + 1))) (show zB 512 (zM m G1) by rw [w]; exact hB)
      rw [w] at k
      exact zQp w k) hv (by omega) (by omega)
theorem zk_worthIn {e : gE} {b : Nat} {m n x : Int} {G : gH} {A : zA} {kc ks : Nat} (ih : zIH e b m n x) (hx : inI (x + 6)) (hA : zM m G = A) (hR : zRel e b m G A) (hT : zTu n A kc ks) : GX e b m m_C_worthIn [(2, ((b : Int) + 1)), (0, (gscr (gX e b m) (x + 1)))] G 0 0 (fun v1 G1 => GX e b m m_M_worthIn [(2, (m + 0)), (0, (gscr (gX e b m) (x + 1)))] G1 0 0 (fun v2 G2 => (v1 = v2 → inI (x + 6) ∧ EX e b m m_L_law (fun v _ => v = 1) kc ks 18 [(2, ((gn (gX e b m) 18 : Int) + 1)), (2, ((b : Int) + 1)), (2, (m + 0)), (0, (x + 6))] [] G2) ∧ (v1 ≠ v2 → (0 : Int) = 1))) := by
  obtain ⟨hI, hN, hk, hs⟩ := hT
  have hn := hN.2
  have h := hI.i
  have hB : zB 512 A := zB_mono h.b (by omega)
  have hv : zInv (n + 1) (zfWorthIn A (gscr (gX e b m) (x + 1))).2 := (v_worthIn hI).1
  have hg := zPsi_gw (B := (zfWorthIn A (gscr (gX e b m) (x + 1))).2) h.b ((v_worthIn hI).2)
  have b1 := zPsib hv.i.b
  have b2 := zPsib h.b
  exact zStp (r := (zfWorthIn A (gscr (gX e b m) (x + 1)))) ih hx hA (c_C_worthIn hR hB h.shw) (fun G1 w => by
      have k := c_M_worthIn (e := e) (b := b) (m := m) (G := G1) (p1 := (gscr (gX e b m) (x + 1))) (show zB 512 (zM m G1) by rw [w]; exact hB) (by rw [w]; exact h.hs _)
      rw [w] at k
      exact k) hv (by omega) (by omega)
theorem zk_alarm {e : gE} {b : Nat} {m n x : Int} {G : gH} {A : zA} {kc ks : Nat} (ih : zIH e b m n x) (hx : inI (x + 6)) (hA : zM m G = A) (hR : zRel e b m G A) (hT : zTu n A kc ks) : ∃ kc1 ks1 mc ms : Nat, kc = kc1 + mc ∧ ks = ks1 + ms ∧ GX e b m m_C_alarm [(2, ((b : Int) + 1)), (0, (gscr (gX e b m) (x + 1)))] G mc ms (fun v1 G1 => GX e b m m_M_alarm [(2, (m + 0)), (0, (gscr (gX e b m) (x + 1)))] G1 0 0 (fun v2 G2 => (v1 = v2 → inI (x + 6) ∧ EX e b m m_L_law (fun v _ => v = 1) kc1 ks1 18 [(2, ((gn (gX e b m) 18 : Int) + 1)), (2, ((b : Int) + 1)), (2, (m + 0)), (0, (x + 6))] [] G2) ∧ (v1 ≠ v2 → (0 : Int) = 1))) := by
  obtain ⟨hI, hN, hk, hs⟩ := hT
  have hn := hN.2
  have h := hI.i
  have hB : zB 512 A := zB_mono h.b (by omega)
  have hv : zInv (n + 1) (zfAlarm A (gscr (gX e b m) (x + 1))).2 := v_alarm hI hn
  have hg := zPsi_gw (B := (zfAlarm A (gscr (gX e b m) (x + 1))).2) h.b (g_alarm)
  have b1 := zPsib hv.i.b
  have b2 := zPsib h.b
  refine ⟨kc - 32, ks - 1280, 32, 1280, by omega, by omega, zStp (r := (zfAlarm A (gscr (gX e b m) (x + 1)))) ih hx hA (c_C_alarm hR hB h.ir h.wf) (fun G1 w => by
      have k := c_M_alarm (e := e) (b := b) (m := m) (G := G1) (p1 := (gscr (gX e b m) (x + 1))) (show zB 512 (zM m G1) by rw [w]; exact hB) (by rw [w]; exact h.ir)
      rw [w] at k
      exact k) hv (by omega) (by omega)⟩
theorem zk_plan {e : gE} {b : Nat} {m n x p : Int} {G : gH} {A : zA} {kc ks : Nat} (ih : zIH e b m n x) (hx : inI (x + 6)) (hA : zM m G = A) (hR : zRel e b m G A) (hT : zTu n A kc ks) (P : p = 0 ∨ p = 1) : ∃ kc1 ks1 mc ms : Nat, kc = kc1 + mc ∧ ks = ks1 + ms ∧ GX e b m m_C_plan [(2, ((b : Int) + 1)), (0, p)] G mc ms (fun v1 G1 => GX e b m m_M_plan [(2, (m + 0)), (0, p)] G1 0 0 (fun v2 G2 => (v1 = v2 → inI (x + 6) ∧ EX e b m m_L_law (fun v _ => v = 1) kc1 ks1 18 [(2, ((gn (gX e b m) 18 : Int) + 1)), (2, ((b : Int) + 1)), (2, (m + 0)), (0, (x + 6))] [] G2) ∧ (v1 ≠ v2 → (0 : Int) = 1))) := by
  obtain ⟨hI, hN, hk, hs⟩ := hT
  have hn := hN.2
  have h := hI.i
  have hB : zB 512 A := zB_mono h.b (by omega)
  have hv : zInv (n + 1) (zfPlan A p).2 := v_plan hI P
  have hg := zPsi_gw (B := (zfPlan A p).2) h.b (g_plan)
  have b1 := zPsib hv.i.b
  have b2 := zPsib h.b
  refine ⟨kc - 32, ks - 1280, 32, 1280, by omega, by omega, zStp (r := (zfPlan A p)) ih hx hA (c_C_plan hR hB h.ir h.wf P) (fun G1 w => by
      have k := c_M_plan (e := e) (b := b) (m := m) (G := G1) (p1 := p) (show zB 512 (zM m G1) by rw [w]; exact hB) (by rw [w]; exact h.ir) P
      rw [w] at k
      exact k) hv (by omega) (by omega)⟩
theorem zk_gap {e : gE} {b : Nat} {m n x : Int} {G : gH} {A : zA} {kc ks : Nat} (ih : zIH e b m n x) (hx : inI (x + 6)) (hA : zM m G = A) (hR : zRel e b m G A) (hT : zTu n A kc ks) : ∃ kc1 ks1 mc ms : Nat, kc = kc1 + mc ∧ ks = ks1 + ms ∧ GX e b m m_C_gap [(2, ((b : Int) + 1))] G mc ms (fun v1 G1 => GX e b m m_M_gap [(2, (m + 0))] G1 0 0 (fun v2 G2 => (v1 = v2 → inI (x + 6) ∧ EX e b m m_L_law (fun v _ => v = 1) kc1 ks1 18 [(2, ((gn (gX e b m) 18 : Int) + 1)), (2, ((b : Int) + 1)), (2, (m + 0)), (0, (x + 6))] [] G2) ∧ (v1 ≠ v2 → (0 : Int) = 1))) := by
  obtain ⟨hI, hN, hk, hs⟩ := hT
  have hn := hN.2
  have h := hI.i
  have hB : zB 512 A := zB_mono h.b (by omega)
  have hv : zInv (n + 1) (zfGap A).2 := (v_gap hI).1
  have hg := zPsi_gw (B := (zfGap A).2) h.b ((v_gap hI).2)
  have b1 := zPsib hv.i.b
  have b2 := zPsib h.b
  refine ⟨kc - 64, ks - 2560, 64, 2560, by omega, by omega, zStp (r := (zfGap A)) ih hx hA (c_C_gap hR hB h.ir h.wf) (fun G1 w => by
      have k := c_M_gap (e := e) (b := b) (m := m) (G := G1)  (show zB 512 (zM m G1) by rw [w]; exact hB) (by rw [w]; exact h.ir)
      rw [w] at k
      exact k) hv (by omega) (by omega)⟩
theorem zk_block {e : gE} {b : Nat} {m n x : Int} {G : gH} {A : zA} {kc ks : Nat} (ih : zIH e b m n x) (hx : inI (x + 6)) (hA : zM m G = A) (hR : zRel e b m G A) (hT : zTu n A kc ks) : ∃ kc1 ks1 mc ms : Nat, kc = kc1 + mc ∧ ks = ks1 + ms ∧ GX e b m m_C_block [(2, ((b : Int) + 1)), (0, (gscr (gX e b m) (x + 1)))] G mc ms (fun v1 G1 => GX e b m m_M_block [(2, (m + 0)), (0, (gscr (gX e b m) (x + 1)))] G1 0 0 (fun v2 G2 => (v1 = v2 → inI (x + 6) ∧ EX e b m m_L_law (fun v _ => v = 1) kc1 ks1 18 [(2, ((gn (gX e b m) 18 : Int) + 1)), (2, ((b : Int) + 1)), (2, (m + 0)), (0, (x + 6))] [] G2) ∧ (v1 ≠ v2 → (0 : Int) = 1))) := by
  obtain ⟨hI, hN, hk, hs⟩ := hT
  have hn := hN.2
  have h := hI.i
  have hB : zB 512 A := zB_mono h.b (by omega)
  have hv : zInv (n + 1) (zfBlock A (gscr (gX e b m) (x + 1))).2 := v_block hI hn
  have hg := zPsi_gw (B := (zfBlock A (gscr (gX e b m) (x + 1))).2) h.b (g_block)
  have b1 := zPsib hv.i.b
  have b2 := zPsib h.b
  refine ⟨kc - 32, ks - 1280, 32, 1280, by omega, by omega, zStp (r := (zfBlock A (gscr (gX e b m) (x + 1)))) ih hx hA (c_C_block hR hB h.ir h.dr) (fun G1 w => by
      have k := c_M_block (e := e) (b := b) (m := m) (G := G1) (p1 := (gscr (gX e b m) (x + 1))) (show zB 512 (zM m G1) by rw [w]; exact hB) (by rw [w]; exact h.ir)
      rw [w] at k
      exact k) hv (by omega) (by omega)⟩
theorem zk_late {e : gE} {b : Nat} {m n x : Int} {G : gH} {A : zA} {kc ks : Nat} (ih : zIH e b m n x) (hx : inI (x + 6)) (hA : zM m G = A) (hR : zRel e b m G A) (hT : zTu n A kc ks) : ∃ kc1 ks1 mc ms : Nat, kc = kc1 + mc ∧ ks = ks1 + ms ∧ GX e b m m_C_late [(2, ((b : Int) + 1)), (0, (gscr (gX e b m) (x + 1))), (0, (gscr (gX e b m) (x + 2)))] G mc ms (fun v1 G1 => GX e b m m_M_late [(2, (m + 0)), (0, (gscr (gX e b m) (x + 1))), (0, (gscr (gX e b m) (x + 2)))] G1 0 0 (fun v2 G2 => (v1 = v2 → inI (x + 6) ∧ EX e b m m_L_law (fun v _ => v = 1) kc1 ks1 18 [(2, ((gn (gX e b m) 18 : Int) + 1)), (2, ((b : Int) + 1)), (2, (m + 0)), (0, (x + 6))] [] G2) ∧ (v1 ≠ v2 → (0 : Int) = 1))) := by
  obtain ⟨hI, hN, hk, hs⟩ := hT
  have hn := hN.2
  have h := hI.i
  have hB : zB 512 A := zB_mono h.b (by omega)
  have hB1 : zB 511 A := zB_mono h.b (by omega)
  have hv : zInv (n + 1) (zfLate A (gscr (gX e b m) (x + 1)) (gscr (gX e b m) (x + 2))).2 := v_late hI
  have hg := zPsi_gw (B := (zfLate A (gscr (gX e b m) (x + 1)) (gscr (gX e b m) (x + 2))).2) h.b (g_late)
  have b1 := zPsib hv.i.b
  have b2 := zPsib h.b
  refine ⟨kc - 32, ks - 1280, 32, 1280, by omega, by omega, zStp (r := (zfLate A (gscr (gX e b m) (x + 1)) (gscr (gX e b m) (x + 2)))) ih hx hA (c_C_late hR hB1 h.ir h.wf h.hd) (fun G1 w => by
      have k := c_M_late (e := e) (b := b) (m := m) (G := G1) (p1 := (gscr (gX e b m) (x + 1))) (p2 := (gscr (gX e b m) (x + 2))) (show zB 511 (zM m G1) by rw [w]; exact hB1) (by rw [w]; exact h.ir)
      rw [w] at k
      exact k) hv (by omega) (by omega)⟩
theorem zk_minutes {e : gE} {b : Nat} {m n x : Int} {G : gH} {A : zA} {kc ks : Nat} (ih : zIH e b m n x) (hx : inI (x + 6)) (hA : zM m G = A) (hR : zRel e b m G A) (hT : zTu n A kc ks) : ∃ kc1 ks1 mc ms : Nat, kc = kc1 + mc ∧ ks = ks1 + ms ∧ GX e b m m_C_minutes [(2, ((b : Int) + 1)), (0, (gscr (gX e b m) (x + 1)))] G mc ms (fun v1 G1 => GX e b m m_M_minutes [(2, (m + 0)), (0, (gscr (gX e b m) (x + 1)))] G1 0 0 (fun v2 G2 => (v1 = v2 → inI (x + 6) ∧ EX e b m m_L_law (fun v _ => v = 1) kc1 ks1 18 [(2, ((gn (gX e b m) 18 : Int) + 1)), (2, ((b : Int) + 1)), (2, (m + 0)), (0, (x + 6))] [] G2) ∧ (v1 ≠ v2 → (0 : Int) = 1))) := by
  obtain ⟨hI, hN, hk, hs⟩ := hT
  have hn := hN.2
  have h := hI.i
  have hB : zB 512 A := zB_mono h.b (by omega)
  have hv : zInv (n + 1) (zfMinutes A (gscr (gX e b m) (x + 1))).2 := v_minutes hI hn
  have hg := zPsi_gw (B := (zfMinutes A (gscr (gX e b m) (x + 1))).2) h.b (g_minutes hI)
  have b1 := zPsib hv.i.b
  have b2 := zPsib h.b
  refine ⟨kc - 32, ks - 0, 32, 0, by omega, by omega, zStp (r := (zfMinutes A (gscr (gX e b m) (x + 1)))) ih hx hA (c_C_minutes hR hB (fun q => ⟨zInv_ho hI (by omega) q, h.p1 q⟩)) (fun G1 w => by
      have k := c_M_minutes (e := e) (b := b) (m := m) (G := G1) (p1 := (gscr (gX e b m) (x + 1))) (by rw [w]; exact ⟨hB, h.ir, h.hd, by have := hI.pt; unfold zPt at *; omega⟩) (by rw [w]; intro q; exact Int.le_of_lt (h.p1 q).2)
      rw [w] at k
      exact k) hv (by omega) (by omega)⟩
theorem zk_far {e : gE} {b : Nat} {m n x : Int} {G : gH} {A : zA} {kc ks : Nat} (ih : zIH e b m n x) (hx : inI (x + 6)) (hA : zM m G = A) (hR : zRel e b m G A) (hT : zTu n A kc ks) : GX e b m m_C_far [(2, ((b : Int) + 1)), (0, (gscr (gX e b m) (x + 1)))] G 0 0 (fun v1 G1 => GX e b m m_M_far [(2, (m + 0)), (0, (gscr (gX e b m) (x + 1)))] G1 0 0 (fun v2 G2 => (v1 = v2 → inI (x + 6) ∧ EX e b m m_L_law (fun v _ => v = 1) kc ks 18 [(2, ((gn (gX e b m) 18 : Int) + 1)), (2, ((b : Int) + 1)), (2, (m + 0)), (0, (x + 6))] [] G2) ∧ (v1 ≠ v2 → (0 : Int) = 1))) := by
  obtain ⟨hI, hN, hk, hs⟩ := hT
  have hn := hN.2
  have h := hI.i
  have hB : zB 512 A := zB_mono h.b (by omega)
  have hv : zInv (n + 1) (zfFar A (gscr (gX e b m) (x + 1)), A).2 := zInv_1 hI
  have hg := zPsi_gw (B := (zfFar A (gscr (gX e b m) (x + 1)), A).2) h.b (zGw_r)
  have b1 := zPsib hv.i.b
  have b2 := zPsib h.b
  exact zStp (r := (zfFar A (gscr (gX e b m) (x + 1)), A)) ih hx hA (c_C_far hR h.wf) (fun G1 w => by
      have k := c_M_far (e := e) (b := b) (m := m) (G := G1) (p1 := (gscr (gX e b m) (x + 1))) 
      rw [w] at k
      exact zQp w k) hv (by omega) (by omega)
theorem zk_given {e : gE} {b : Nat} {m n x : Int} {G : gH} {A : zA} {kc ks : Nat} (ih : zIH e b m n x) (hx : inI (x + 6)) (hA : zM m G = A) (hR : zRel e b m G A) (hT : zTu n A kc ks) : GX e b m m_C_given [(2, ((b : Int) + 1)), (0, (gscr (gX e b m) (x + 1)))] G 0 0 (fun v1 G1 => GX e b m m_M_given [(2, (m + 0)), (0, (gscr (gX e b m) (x + 1)))] G1 0 0 (fun v2 G2 => (v1 = v2 → inI (x + 6) ∧ EX e b m m_L_law (fun v _ => v = 1) kc ks 18 [(2, ((gn (gX e b m) 18 : Int) + 1)), (2, ((b : Int) + 1)), (2, (m + 0)), (0, (x + 6))] [] G2) ∧ (v1 ≠ v2 → (0 : Int) = 1))) := by
  obtain ⟨hI, hN, hk, hs⟩ := hT
  have hn := hN.2
  have h := hI.i
  have hB : zB 512 A := zB_mono h.b (by omega)
  have hgi : A 788 0 ≠ 1 → ∀ t, 0 ≤ t → t < A 785 0 → zIn A t → A 14 t = -1 := fun q t t1 t2 hi => (h.tm t ⟨t1, t2⟩ hi).resolve_right (fun z => q z.1)
  have hv : zInv (n + 1) (zfGiven A (gscr (gX e b m) (x + 1)), A).2 := zInv_1 hI
  have hg := zPsi_gw (B := (zfGiven A (gscr (gX e b m) (x + 1)), A).2) h.b (zGw_r)
  have b1 := zPsib hv.i.b
  have b2 := zPsib h.b
  exact zStp (r := (zfGiven A (gscr (gX e b m) (x + 1)), A)) ih hx hA (c_C_given hR hB hgi) (fun G1 w => by
      have k := c_M_given (e := e) (b := b) (m := m) (G := G1) (p1 := (gscr (gX e b m) (x + 1))) (show zB 512 (zM m G1) by rw [w]; exact hB)
      rw [w] at k
      exact zQp w k) hv (by omega) (by omega)
theorem zk_begins {e : gE} {b : Nat} {m n x : Int} {G : gH} {A : zA} {kc ks : Nat} (ih : zIH e b m n x) (hx : inI (x + 6)) (hA : zM m G = A) (hR : zRel e b m G A) (hT : zTu n A kc ks) : GX e b m m_C_begins [(2, ((b : Int) + 1)), (0, (gscr (gX e b m) (x + 1)))] G 0 0 (fun v1 G1 => GX e b m m_M_begins [(2, (m + 0)), (0, (gscr (gX e b m) (x + 1)))] G1 0 0 (fun v2 G2 => (v1 = v2 → inI (x + 6) ∧ EX e b m m_L_law (fun v _ => v = 1) kc ks 18 [(2, ((gn (gX e b m) 18 : Int) + 1)), (2, ((b : Int) + 1)), (2, (m + 0)), (0, (x + 6))] [] G2) ∧ (v1 ≠ v2 → (0 : Int) = 1))) := by
  obtain ⟨hI, hN, hk, hs⟩ := hT
  have hn := hN.2
  have h := hI.i
  have hB : zB 512 A := zB_mono h.b (by omega)
  have hv : zInv (n + 1) (zfBegins A (gscr (gX e b m) (x + 1))).2 := zInv_1 hI
  have hg := zPsi_gw (B := (zfBegins A (gscr (gX e b m) (x + 1))).2) h.b (zGw_r)
  have b1 := zPsib hv.i.b
  have b2 := zPsib h.b
  exact zStp (r := (zfBegins A (gscr (gX e b m) (x + 1)))) ih hx hA (c_C_begins hR hB h.ir h.tm) (fun G1 w => by
      have k := c_M_begins (e := e) (b := b) (m := m) (G := G1) (p1 := (gscr (gX e b m) (x + 1))) (show zB 512 (zM m G1) by rw [w]; exact hB) (by rw [w]; exact h.ir)
      rw [w] at k
      exact k) hv (by omega) (by omega)
theorem zk_place {e : gE} {b : Nat} {m n x : Int} {G : gH} {A : zA} {kc ks : Nat} (ih : zIH e b m n x) (hx : inI (x + 6)) (hA : zM m G = A) (hR : zRel e b m G A) (hT : zTu n A kc ks) : ∃ kc1 ks1 mc ms : Nat, kc = kc1 + mc ∧ ks = ks1 + ms ∧ GX e b m m_C_place [(2, ((b : Int) + 1)), (0, (gscr (gX e b m) (x + 1))), (0, (gscr (gX e b m) (x + 2))), (0, (gscr (gX e b m) (x + 3)))] G mc ms (fun v1 G1 => GX e b m m_M_place [(2, (m + 0)), (0, (gscr (gX e b m) (x + 1))), (0, (gscr (gX e b m) (x + 2))), (0, (gscr (gX e b m) (x + 3)))] G1 0 0 (fun v2 G2 => (v1 = v2 → inI (x + 6) ∧ EX e b m m_L_law (fun v _ => v = 1) kc1 ks1 18 [(2, ((gn (gX e b m) 18 : Int) + 1)), (2, ((b : Int) + 1)), (2, (m + 0)), (0, (x + 6))] [] G2) ∧ (v1 ≠ v2 → (0 : Int) = 1))) := by
  obtain ⟨hI, hN, hk, hs⟩ := hT
  have hn := hN.2
  have h := hI.i
  have hB : zB 512 A := zB_mono h.b (by omega)
  have hv : zInv (n + 1) (zfPlace A (gscr (gX e b m) (x + 1)) (gscr (gX e b m) (x + 2)) (gscr (gX e b m) (x + 3))).2 := v_place hI
  have hg := zPsi_gw (B := (zfPlace A (gscr (gX e b m) (x + 1)) (gscr (gX e b m) (x + 2)) (gscr (gX e b m) (x + 3))).2) h.b (g_place)
  have b1 := zPsib hv.i.b
  have b2 := zPsib h.b
  refine ⟨kc - 4, ks - 107, 4, 107, by omega, by omega, zStp (r := (zfPlace A (gscr (gX e b m) (x + 1)) (gscr (gX e b m) (x + 2)) (gscr (gX e b m) (x + 3)))) ih hx hA (c_C_place hR hB (h.np _ (Int.le_refl _))) (fun G1 w => by
      have k := c_M_place (e := e) (b := b) (m := m) (G := G1) (p1 := (gscr (gX e b m) (x + 1))) (p2 := (gscr (gX e b m) (x + 2))) (p3 := (gscr (gX e b m) (x + 3))) (show zB 512 (zM m G1) by rw [w]; exact hB)
      rw [w] at k
      exact k) hv (by omega) (by omega)⟩
theorem zk_air {e : gE} {b : Nat} {m n x : Int} {G : gH} {A : zA} {kc ks : Nat} (ih : zIH e b m n x) (hx : inI (x + 6)) (hA : zM m G = A) (hR : zRel e b m G A) (hT : zTu n A kc ks) : GX e b m m_C_air [(2, ((b : Int) + 1)), (0, (gscr (gX e b m) (x + 1))), (0, (gscr (gX e b m) (x + 2)))] G 0 0 (fun v1 G1 => GX e b m m_M_air [(2, (m + 0)), (0, (gscr (gX e b m) (x + 1))), (0, (gscr (gX e b m) (x + 2)))] G1 0 0 (fun v2 G2 => (v1 = v2 → inI (x + 6) ∧ EX e b m m_L_law (fun v _ => v = 1) kc ks 18 [(2, ((gn (gX e b m) 18 : Int) + 1)), (2, ((b : Int) + 1)), (2, (m + 0)), (0, (x + 6))] [] G2) ∧ (v1 ≠ v2 → (0 : Int) = 1))) := by
  obtain ⟨hI, hN, hk, hs⟩ := hT
  have hn := hN.2
  have h := hI.i
  have hB : zB 512 A := zB_mono h.b (by omega)
  have hv : zInv (n + 1) (zfAir A (gscr (gX e b m) (x + 1)) (gscr (gX e b m) (x + 2))).2 := v_air hI
  have hg := zPsi_gw (B := (zfAir A (gscr (gX e b m) (x + 1)) (gscr (gX e b m) (x + 2))).2) h.b (g_air)
  have b1 := zPsib hv.i.b
  have b2 := zPsib h.b
  exact zStp (r := (zfAir A (gscr (gX e b m) (x + 1)) (gscr (gX e b m) (x + 2)))) ih hx hA (c_C_air hR hB h.shw) (fun G1 w => by
      have k := c_M_air (e := e) (b := b) (m := m) (G := G1) (p1 := (gscr (gX e b m) (x + 1))) (p2 := (gscr (gX e b m) (x + 2))) (show zB 512 (zM m G1) by rw [w]; exact hB)
      rw [w] at k
      exact k) hv (by omega) (by omega)
theorem zk_airIn {e : gE} {b : Nat} {m n x : Int} {G : gH} {A : zA} {kc ks : Nat} (ih : zIH e b m n x) (hx : inI (x + 6)) (hA : zM m G = A) (hR : zRel e b m G A) (hT : zTu n A kc ks) : GX e b m m_C_airIn [(2, ((b : Int) + 1)), (0, (gscr (gX e b m) (x + 1))), (0, (gscr (gX e b m) (x + 2)))] G 0 0 (fun v1 G1 => GX e b m m_M_airIn [(2, (m + 0)), (0, (gscr (gX e b m) (x + 1))), (0, (gscr (gX e b m) (x + 2)))] G1 0 0 (fun v2 G2 => (v1 = v2 → inI (x + 6) ∧ EX e b m m_L_law (fun v _ => v = 1) kc ks 18 [(2, ((gn (gX e b m) 18 : Int) + 1)), (2, ((b : Int) + 1)), (2, (m + 0)), (0, (x + 6))] [] G2) ∧ (v1 ≠ v2 → (0 : Int) = 1))) := by
  obtain ⟨hI, hN, hk, hs⟩ := hT
  have hn := hN.2
  have h := hI.i
  have hB : zB 512 A := zB_mono h.b (by omega)
  have hv : zInv (n + 1) (zfAirIn A (gscr (gX e b m) (x + 1)) (gscr (gX e b m) (x + 2)), A).2 := zInv_1 hI
  have hg := zPsi_gw (B := (zfAirIn A (gscr (gX e b m) (x + 1)) (gscr (gX e b m) (x + 2)), A).2) h.b (zGw_r)
  have b1 := zPsib hv.i.b
  have b2 := zPsib h.b
  exact zStp (r := (zfAirIn A (gscr (gX e b m) (x + 1)) (gscr (gX e b m) (x + 2)), A)) ih hx hA (c_C_airIn hR hB) (fun G1 w => by
      have k := c_M_airIn (e := e) (b := b) (m := m) (G := G1) (p1 := (gscr (gX e b m) (x + 1))) (p2 := (gscr (gX e b m) (x + 2))) (show zB 512 (zM m G1) by rw [w]; exact hB)
      rw [w] at k
      exact zQp w k) hv (by omega) (by omega)
theorem zk_band {e : gE} {b : Nat} {m n x : Int} {G : gH} {A : zA} {kc ks : Nat} (ih : zIH e b m n x) (hx : inI (x + 6)) (hA : zM m G = A) (hR : zRel e b m G A) (hT : zTu n A kc ks) : GX e b m m_C_band [(2, ((b : Int) + 1)), (0, (gscr (gX e b m) (x + 1))), (0, (gscr (gX e b m) (x + 2))), (0, (gscr (gX e b m) (x + 3)))] G 0 0 (fun v1 G1 => GX e b m m_M_band [(2, (m + 0)), (0, (gscr (gX e b m) (x + 1))), (0, (gscr (gX e b m) (x + 2))), (0, (gscr (gX e b m) (x + 3)))] G1 0 0 (fun v2 G2 => (v1 = v2 → inI (x + 6) ∧ EX e b m m_L_law (fun v _ => v = 1) kc ks 18 [(2, ((gn (gX e b m) 18 : Int) + 1)), (2, ((b : Int) + 1)), (2, (m + 0)), (0, (x + 6))] [] G2) ∧ (v1 ≠ v2 → (0 : Int) = 1))) := by
  obtain ⟨hI, hN, hk, hs⟩ := hT
  have hn := hN.2
  have h := hI.i
  have hB : zB 512 A := zB_mono h.b (by omega)
  have hv : zInv (n + 1) (zfBand A (gscr (gX e b m) (x + 1)) (gscr (gX e b m) (x + 2)) (gscr (gX e b m) (x + 3))).2 := v_band hI
  have hg := zPsi_gw (B := (zfBand A (gscr (gX e b m) (x + 1)) (gscr (gX e b m) (x + 2)) (gscr (gX e b m) (x + 3))).2) h.b (g_band)
  have b1 := zPsib hv.i.b
  have b2 := zPsib h.b
  exact zStp (r := (zfBand A (gscr (gX e b m) (x + 1)) (gscr (gX e b m) (x + 2)) (gscr (gX e b m) (x + 3)))) ih hx hA (c_C_band hR hB) (fun G1 w => by
      have k := c_M_band (e := e) (b := b) (m := m) (G := G1) (p1 := (gscr (gX e b m) (x + 1))) (p2 := (gscr (gX e b m) (x + 2))) (p3 := (gscr (gX e b m) (x + 3))) (show zB 512 (zM m G1) by rw [w]; exact hB)
      rw [w] at k
      exact k) hv (by omega) (by omega)
theorem zk_keep {e : gE} {b : Nat} {m n x : Int} {G : gH} {A : zA} {kc ks : Nat} (ih : zIH e b m n x) (hx : inI (x + 6)) (hA : zM m G = A) (hR : zRel e b m G A) (hT : zTu n A kc ks) : GX e b m m_C_keep [(2, ((b : Int) + 1)), (0, (gscr (gX e b m) (x + 1))), (0, (gscr (gX e b m) (x + 2)))] G 0 0 (fun v1 G1 => GX e b m m_M_keep [(2, (m + 0)), (0, (gscr (gX e b m) (x + 1))), (0, (gscr (gX e b m) (x + 2)))] G1 0 0 (fun v2 G2 => (v1 = v2 → inI (x + 6) ∧ EX e b m m_L_law (fun v _ => v = 1) kc ks 18 [(2, ((gn (gX e b m) 18 : Int) + 1)), (2, ((b : Int) + 1)), (2, (m + 0)), (0, (x + 6))] [] G2) ∧ (v1 ≠ v2 → (0 : Int) = 1))) := by
  obtain ⟨hI, hN, hk, hs⟩ := hT
  have hn := hN.2
  have h := hI.i
  have hB : zB 512 A := zB_mono h.b (by omega)
  have hv : zInv (n + 1) (zfKeep A (gscr (gX e b m) (x + 1)) (gscr (gX e b m) (x + 2))).2 := v_keep hI
  have hg := zPsi_gw (B := (zfKeep A (gscr (gX e b m) (x + 1)) (gscr (gX e b m) (x + 2))).2) h.b (g_keep)
  have b1 := zPsib hv.i.b
  have b2 := zPsib h.b
  exact zStp (r := (zfKeep A (gscr (gX e b m) (x + 1)) (gscr (gX e b m) (x + 2)))) ih hx hA (c_C_keep hR hB) (fun G1 w => by
      have k := c_M_keep (e := e) (b := b) (m := m) (G := G1) (p1 := (gscr (gX e b m) (x + 1))) (p2 := (gscr (gX e b m) (x + 2))) (show zB 512 (zM m G1) by rw [w]; exact hB)
      rw [w] at k
      exact k) hv (by omega) (by omega)
theorem zk_fuel {e : gE} {b : Nat} {m n x : Int} {G : gH} {A : zA} {kc ks : Nat} (ih : zIH e b m n x) (hx : inI (x + 6)) (hA : zM m G = A) (hR : zRel e b m G A) (hT : zTu n A kc ks) : GX e b m m_C_fuel [(2, ((b : Int) + 1)), (0, (gscr (gX e b m) (x + 1)))] G 0 0 (fun v1 G1 => GX e b m m_M_fuel [(2, (m + 0)), (0, (gscr (gX e b m) (x + 1)))] G1 0 0 (fun v2 G2 => (v1 = v2 → inI (x + 6) ∧ EX e b m m_L_law (fun v _ => v = 1) kc ks 18 [(2, ((gn (gX e b m) 18 : Int) + 1)), (2, ((b : Int) + 1)), (2, (m + 0)), (0, (x + 6))] [] G2) ∧ (v1 ≠ v2 → (0 : Int) = 1))) := by
  obtain ⟨hI, hN, hk, hs⟩ := hT
  have hn := hN.2
  have h := hI.i
  have hB : zB 512 A := zB_mono h.b (by omega)
  have hv : zInv (n + 1) (zfFuel A (gscr (gX e b m) (x + 1))).2 := v_fuel hI
  have hg := zPsi_gw (B := (zfFuel A (gscr (gX e b m) (x + 1))).2) h.b (g_fuel)
  have b1 := zPsib hv.i.b
  have b2 := zPsib h.b
  exact zStp (r := (zfFuel A (gscr (gX e b m) (x + 1)))) ih hx hA (c_C_fuel hR hB) (fun G1 w => by
      have k := c_M_fuel (e := e) (b := b) (m := m) (G := G1) (p1 := (gscr (gX e b m) (x + 1))) (show zB 512 (zM m G1) by rw [w]; exact hB)
      rw [w] at k
      exact k) hv (by omega) (by omega)
theorem zk_spread {e : gE} {b : Nat} {m n x p : Int} {G : gH} {A : zA} {kc ks : Nat} (ih : zIH e b m n x) (hx : inI (x + 6)) (hA : zM m G = A) (hR : zRel e b m G A) (hT : zTu n A kc ks) (P : p = 0 ∨ p = 1) : ∃ kc1 ks1 mc ms : Nat, kc = kc1 + mc ∧ ks = ks1 + ms ∧ GX e b m m_C_spread [(2, ((b : Int) + 1)), (0, p)] G mc ms (fun v1 G1 => GX e b m m_M_spread [(2, (m + 0)), (0, p)] G1 0 0 (fun v2 G2 => (v1 = v2 → inI (x + 6) ∧ EX e b m m_L_law (fun v _ => v = 1) kc1 ks1 18 [(2, ((gn (gX e b m) 18 : Int) + 1)), (2, ((b : Int) + 1)), (2, (m + 0)), (0, (x + 6))] [] G2) ∧ (v1 ≠ v2 → (0 : Int) = 1))) := by
  obtain ⟨hI, hN, hk, hs⟩ := hT
  have hn := hN.2
  have h := hI.i
  have hB : zB 512 A := zB_mono h.b (by omega)
  have hB1 : zB 511 A := zB_mono h.b (by omega)
  have hc : ∀ t, zTh A t → zSeals A t < 1024 := fun t ht => by have := hI.sc t ht; omega
  have hv : zInv (n + 1) (zfSpread A p).2 := v_spread hI
  have hg := zPsi_gw (B := (zfSpread A p).2) h.b (g_spread hI)
  have b1 := zPsib hv.i.b
  have b2 := zPsib h.b
  refine ⟨kc - 24, ks - ((zPsi (zfSpread A p).2 - zPsi A).toNat + 640), 24, ((zPsi (zfSpread A p).2 - zPsi A).toNat + 640), by omega, by omega, zStp (r := (zfSpread A p)) ih hx hA (c_C_spread hR hB1 h.ft h.pl h.wv hc) (fun G1 w => by
      have k := c_M_spread (e := e) (b := b) (m := m) (G := G1) (p1 := p) (show zB 512 (zM m G1) by rw [w]; exact hB) (by rw [w]; exact h.pl)
      rw [w] at k
      exact k) hv (by omega) (by omega)⟩
theorem zk_move {e : gE} {b : Nat} {m n x : Int} {G : gH} {A : zA} {kc ks : Nat} (ih : zIH e b m n x) (hx : inI (x + 6)) (hA : zM m G = A) (hR : zRel e b m G A) (hT : zTu n A kc ks) : ∃ kc1 ks1 mc ms : Nat, kc = kc1 + mc ∧ ks = ks1 + ms ∧ GX e b m m_C_move [(2, ((b : Int) + 1)), (0, (gscr (gX e b m) (x + 1))), (0, (gscr (gX e b m) (x + 2)))] G mc ms (fun v1 G1 => GX e b m m_M_move [(2, (m + 0)), (0, (gscr (gX e b m) (x + 1))), (0, (gscr (gX e b m) (x + 2)))] G1 0 0 (fun v2 G2 => (v1 = v2 → inI (x + 6) ∧ EX e b m m_L_law (fun v _ => v = 1) kc1 ks1 18 [(2, ((gn (gX e b m) 18 : Int) + 1)), (2, ((b : Int) + 1)), (2, (m + 0)), (0, (x + 6))] [] G2) ∧ (v1 ≠ v2 → (0 : Int) = 1))) := by
  obtain ⟨hI, hN, hk, hs⟩ := hT
  have hn := hN.2
  have h := hI.i
  have hB : zB 512 A := zB_mono h.b (by omega)
  have hc : ∀ t, zTh A t → zSeals A t < 1024 := fun t ht => by have := hI.sc t ht; omega
  have hv : zInv (n + 1) (zfMove A (gscr (gX e b m) (x + 1)) (gscr (gX e b m) (x + 2))).2 := v_move hI
  have hg := zPsi_gw (B := (zfMove A (gscr (gX e b m) (x + 1)) (gscr (gX e b m) (x + 2))).2) h.b (g_move hI)
  have b1 := zPsib hv.i.b
  have b2 := zPsib h.b
  refine ⟨kc - 1, ks - (zPsi (zfMove A (gscr (gX e b m) (x + 1)) (gscr (gX e b m) (x + 2))).2 - zPsi A).toNat, 1, (zPsi (zfMove A (gscr (gX e b m) (x + 1)) (gscr (gX e b m) (x + 2))).2 - zPsi A).toNat, by omega, by omega, zStp (r := (zfMove A (gscr (gX e b m) (x + 1)) (gscr (gX e b m) (x + 2)))) ih hx hA (c_C_move hR hB h.pl h.wv hc) (fun G1 w => by
      have k := c_M_move (e := e) (b := b) (m := m) (G := G1) (p1 := (gscr (gX e b m) (x + 1))) (p2 := (gscr (gX e b m) (x + 2))) (show zB 512 (zM m G1) by rw [w]; exact hB) (by rw [w]; exact h.pl)
      rw [w] at k
      exact k) hv (by omega) (by omega)⟩
theorem zk_weeks {e : gE} {b : Nat} {m n x : Int} {G : gH} {A : zA} {kc ks : Nat} (ih : zIH e b m n x) (hx : inI (x + 6)) (hA : zM m G = A) (hR : zRel e b m G A) (hT : zTu n A kc ks) : GX e b m m_C_weeks [(2, ((b : Int) + 1)), (0, (gscr (gX e b m) (x + 1)))] G 0 0 (fun v1 G1 => GX e b m m_M_weeks [(2, (m + 0)), (0, (gscr (gX e b m) (x + 1)))] G1 0 0 (fun v2 G2 => (v1 = v2 → inI (x + 6) ∧ EX e b m m_L_law (fun v _ => v = 1) kc ks 18 [(2, ((gn (gX e b m) 18 : Int) + 1)), (2, ((b : Int) + 1)), (2, (m + 0)), (0, (x + 6))] [] G2) ∧ (v1 ≠ v2 → (0 : Int) = 1))) := by
  obtain ⟨hI, hN, hk, hs⟩ := hT
  have hn := hN.2
  have h := hI.i
  have hB : zB 512 A := zB_mono h.b (by omega)
  have hB1 : zB 511 A := zB_mono h.b (by omega)
  have hv : zInv (n + 1) (zfWeeks A (gscr (gX e b m) (x + 1))).2 := v_weeks hI
  have hg := zPsi_gw (B := (zfWeeks A (gscr (gX e b m) (x + 1))).2) h.b (g_weeks hI)
  have b1 := zPsib hv.i.b
  have b2 := zPsib h.b
  exact zStp (r := (zfWeeks A (gscr (gX e b m) (x + 1)))) ih hx hA (c_C_weeks hR hB1 h.ft h.pl h.wv) (fun G1 w => by
      have k := c_M_weeks (e := e) (b := b) (m := m) (G := G1) (p1 := (gscr (gX e b m) (x + 1))) (show zB 511 (zM m G1) by rw [w]; exact hB1) (by rw [w]; exact h.pl)
      rw [w] at k
      exact k) hv (by omega) (by omega)
theorem zk_lose {e : gE} {b : Nat} {m n x : Int} {G : gH} {A : zA} {kc ks : Nat} (ih : zIH e b m n x) (hx : inI (x + 6)) (hA : zM m G = A) (hR : zRel e b m G A) (hT : zTu n A kc ks) : ∃ kc1 ks1 mc ms : Nat, kc = kc1 + mc ∧ ks = ks1 + ms ∧ GX e b m m_C_lose [(2, ((b : Int) + 1)), (0, (gscr (gX e b m) (x + 1)))] G mc ms (fun v1 G1 => GX e b m m_M_lose [(2, (m + 0)), (0, (gscr (gX e b m) (x + 1)))] G1 0 0 (fun v2 G2 => (v1 = v2 → inI (x + 6) ∧ EX e b m m_L_law (fun v _ => v = 1) kc1 ks1 18 [(2, ((gn (gX e b m) 18 : Int) + 1)), (2, ((b : Int) + 1)), (2, (m + 0)), (0, (x + 6))] [] G2) ∧ (v1 ≠ v2 → (0 : Int) = 1))) := by
  obtain ⟨hI, hN, hk, hs⟩ := hT
  have hn := hN.2
  have h := hI.i
  have hB : zB 512 A := zB_mono h.b (by omega)
  have hB1 : zB 511 A := zB_mono h.b (by omega)
  have hc : ∀ t, zTh A t → zSeals A t < 1024 := fun t ht => by have := hI.sc t ht; omega
  have hv : zInv (n + 1) (zfLose A (gscr (gX e b m) (x + 1))).2 := v_lose hI
  have hg := zPsi_gw (B := (zfLose A (gscr (gX e b m) (x + 1))).2) h.b (g_lose hI)
  have b1 := zPsib hv.i.b
  have b2 := zPsib h.b
  refine ⟨kc - 16, ks - (zPsi (zfLose A (gscr (gX e b m) (x + 1))).2 - zPsi A).toNat, 16, (zPsi (zfLose A (gscr (gX e b m) (x + 1))).2 - zPsi A).toNat, by omega, by omega, zStp (r := (zfLose A (gscr (gX e b m) (x + 1)))) ih hx hA (c_C_lose hR hB1 h.pl hc) (fun G1 w => by
      have k := c_M_lose (e := e) (b := b) (m := m) (G := G1) (p1 := (gscr (gX e b m) (x + 1))) (show zB 512 (zM m G1) by rw [w]; exact hB) (by rw [w]; exact h.pl)
      rw [w] at k
      exact k) hv (by omega) (by omega)⟩
theorem zk_found {e : gE} {b : Nat} {m n x : Int} {G : gH} {A : zA} {kc ks : Nat} (ih : zIH e b m n x) (hx : inI (x + 6)) (hA : zM m G = A) (hR : zRel e b m G A) (hT : zTu n A kc ks) : ∃ kc1 ks1 mc ms : Nat, kc = kc1 + mc ∧ ks = ks1 + ms ∧ GX e b m m_C_found [(2, ((b : Int) + 1)), (0, (gscr (gX e b m) (x + 1)))] G mc ms (fun v1 G1 => GX e b m m_M_found [(2, (m + 0)), (0, (gscr (gX e b m) (x + 1)))] G1 0 0 (fun v2 G2 => (v1 = v2 → inI (x + 6) ∧ EX e b m m_L_law (fun v _ => v = 1) kc1 ks1 18 [(2, ((gn (gX e b m) 18 : Int) + 1)), (2, ((b : Int) + 1)), (2, (m + 0)), (0, (x + 6))] [] G2) ∧ (v1 ≠ v2 → (0 : Int) = 1))) := by
  obtain ⟨hI, hN, hk, hs⟩ := hT
  have hn := hN.2
  have h := hI.i
  have hB : zB 512 A := zB_mono h.b (by omega)
  have hc : ∀ t, zTh A t → zSeals A t < 1024 := fun t ht => by have := hI.sc t ht; omega
  have hv : zInv (n + 1) (zfFound A (gscr (gX e b m) (x + 1))).2 := v_found hI
  have hg := zPsi_gw (B := (zfFound A (gscr (gX e b m) (x + 1))).2) h.b (g_found hI)
  have b1 := zPsib hv.i.b
  have b2 := zPsib h.b
  refine ⟨kc - 1, ks - (zPsi (zfFound A (gscr (gX e b m) (x + 1))).2 - zPsi A).toNat, 1, (zPsi (zfFound A (gscr (gX e b m) (x + 1))).2 - zPsi A).toNat, by omega, by omega, zStp (r := (zfFound A (gscr (gX e b m) (x + 1)))) ih hx hA (c_C_found hR hB hc) (fun G1 w => by
      have k := c_M_found (e := e) (b := b) (m := m) (G := G1) (p1 := (gscr (gX e b m) (x + 1))) (show zB 512 (zM m G1) by rw [w]; exact hB)
      rw [w] at k
      exact k) hv (by omega) (by omega)⟩
theorem zk_paper {e : gE} {b : Nat} {m n x : Int} {G : gH} {A : zA} {kc ks : Nat} (ih : zIH e b m n x) (hx : inI (x + 6)) (hA : zM m G = A) (hR : zRel e b m G A) (hT : zTu n A kc ks) : GX e b m m_C_paper [(2, ((b : Int) + 1)), (0, (gscr (gX e b m) (x + 1))), (0, (gscr (gX e b m) (x + 2))), (0, (gscr (gX e b m) (x + 3))), (0, (gscr (gX e b m) (x + 4)))] G 0 0 (fun v1 G1 => GX e b m m_M_paper [(2, (m + 0)), (0, (gscr (gX e b m) (x + 1))), (0, (gscr (gX e b m) (x + 2))), (0, (gscr (gX e b m) (x + 3))), (0, (gscr (gX e b m) (x + 4)))] G1 0 0 (fun v2 G2 => (v1 = v2 → inI (x + 6) ∧ EX e b m m_L_law (fun v _ => v = 1) kc ks 18 [(2, ((gn (gX e b m) 18 : Int) + 1)), (2, ((b : Int) + 1)), (2, (m + 0)), (0, (x + 6))] [] G2) ∧ (v1 ≠ v2 → (0 : Int) = 1))) := by
  obtain ⟨hI, hN, hk, hs⟩ := hT
  have hn := hN.2
  have h := hI.i
  have hB : zB 512 A := zB_mono h.b (by omega)
  have hv : zInv (n + 1) (zfPaper A (gscr (gX e b m) (x + 1)) (gscr (gX e b m) (x + 2)) (gscr (gX e b m) (x + 3)) (gscr (gX e b m) (x + 4))).2 := v_paper hI
  have hg := zPsi_gw (B := (zfPaper A (gscr (gX e b m) (x + 1)) (gscr (gX e b m) (x + 2)) (gscr (gX e b m) (x + 3)) (gscr (gX e b m) (x + 4))).2) h.b (g_paper)
  have b1 := zPsib hv.i.b
  have b2 := zPsib h.b
  exact zStp (r := (zfPaper A (gscr (gX e b m) (x + 1)) (gscr (gX e b m) (x + 2)) (gscr (gX e b m) (x + 3)) (gscr (gX e b m) (x + 4)))) ih hx hA (c_C_paper hR hB) (fun G1 w => by
      have k := c_M_paper (e := e) (b := b) (m := m) (G := G1) (p1 := (gscr (gX e b m) (x + 1))) (p2 := (gscr (gX e b m) (x + 2))) (p3 := (gscr (gX e b m) (x + 3))) (p4 := (gscr (gX e b m) (x + 4))) (show zB 512 (zM m G1) by rw [w]; exact hB)
      rw [w] at k
      exact k) hv (by omega) (by omega)
theorem zk_holder {e : gE} {b : Nat} {m n x : Int} {G : gH} {A : zA} {kc ks : Nat} (ih : zIH e b m n x) (hx : inI (x + 6)) (hA : zM m G = A) (hR : zRel e b m G A) (hT : zTu n A kc ks) : GX e b m m_C_holder [(2, ((b : Int) + 1)), (0, (gscr (gX e b m) (x + 1))), (0, (gscr (gX e b m) (x + 2)))] G 0 0 (fun v1 G1 => GX e b m m_M_holder [(2, (m + 0)), (0, (gscr (gX e b m) (x + 1))), (0, (gscr (gX e b m) (x + 2)))] G1 0 0 (fun v2 G2 => (v1 = v2 → inI (x + 6) ∧ EX e b m m_L_law (fun v _ => v = 1) kc ks 18 [(2, ((gn (gX e b m) 18 : Int) + 1)), (2, ((b : Int) + 1)), (2, (m + 0)), (0, (x + 6))] [] G2) ∧ (v1 ≠ v2 → (0 : Int) = 1))) := by
  obtain ⟨hI, hN, hk, hs⟩ := hT
  have hn := hN.2
  have h := hI.i
  have hB : zB 512 A := zB_mono h.b (by omega)
  have hv : zInv (n + 1) (zfHolder A (gscr (gX e b m) (x + 1)) (gscr (gX e b m) (x + 2)), A).2 := zInv_1 hI
  have hg := zPsi_gw (B := (zfHolder A (gscr (gX e b m) (x + 1)) (gscr (gX e b m) (x + 2)), A).2) h.b (zGw_r)
  have b1 := zPsib hv.i.b
  have b2 := zPsib h.b
  exact zStp (r := (zfHolder A (gscr (gX e b m) (x + 1)) (gscr (gX e b m) (x + 2)), A)) ih hx hA (c_C_holder hR hB) (fun G1 w => by
      have k := c_M_holder (e := e) (b := b) (m := m) (G := G1) (p1 := (gscr (gX e b m) (x + 1))) (p2 := (gscr (gX e b m) (x + 2))) (show zB 512 (zM m G1) by rw [w]; exact hB)
      rw [w] at k
      exact zQp w k) hv (by omega) (by omega)
theorem zk_giveBack {e : gE} {b : Nat} {m n x : Int} {G : gH} {A : zA} {kc ks : Nat} (ih : zIH e b m n x) (hx : inI (x + 6)) (hA : zM m G = A) (hR : zRel e b m G A) (hT : zTu n A kc ks) : ∃ kc1 ks1 mc ms : Nat, kc = kc1 + mc ∧ ks = ks1 + ms ∧ GX e b m m_C_giveBack [(2, ((b : Int) + 1)), (0, (gscr (gX e b m) (x + 1))), (0, (gscr (gX e b m) (x + 2)))] G mc ms (fun v1 G1 => GX e b m m_M_giveBack [(2, (m + 0)), (0, (gscr (gX e b m) (x + 1))), (0, (gscr (gX e b m) (x + 2)))] G1 0 0 (fun v2 G2 => (v1 = v2 → inI (x + 6) ∧ EX e b m m_L_law (fun v _ => v = 1) kc1 ks1 18 [(2, ((gn (gX e b m) 18 : Int) + 1)), (2, ((b : Int) + 1)), (2, (m + 0)), (0, (x + 6))] [] G2) ∧ (v1 ≠ v2 → (0 : Int) = 1))) := by
  obtain ⟨hI, hN, hk, hs⟩ := hT
  have hn := hN.2
  have h := hI.i
  have hB : zB 512 A := zB_mono h.b (by omega)
  have hc : ∀ t, zTh A t → zSeals A t < 1024 := fun t ht => by have := hI.sc t ht; omega
  have hv : zInv (n + 1) (zfGiveBack A (gscr (gX e b m) (x + 1)) (gscr (gX e b m) (x + 2))).2 := v_giveBack hI
  have hg := zPsi_gw (B := (zfGiveBack A (gscr (gX e b m) (x + 1)) (gscr (gX e b m) (x + 2))).2) h.b (g_giveBack hI)
  have b1 := zPsib hv.i.b
  have b2 := zPsib h.b
  refine ⟨kc - 1, ks - (zPsi (zfGiveBack A (gscr (gX e b m) (x + 1)) (gscr (gX e b m) (x + 2))).2 - zPsi A).toNat, 1, (zPsi (zfGiveBack A (gscr (gX e b m) (x + 1)) (gscr (gX e b m) (x + 2))).2 - zPsi A).toNat, by omega, by omega, zStp (r := (zfGiveBack A (gscr (gX e b m) (x + 1)) (gscr (gX e b m) (x + 2)))) ih hx hA (c_C_giveBack hR hB h.wv hc) (fun G1 w => by
      have k := c_M_giveBack (e := e) (b := b) (m := m) (G := G1) (p1 := (gscr (gX e b m) (x + 1))) (p2 := (gscr (gX e b m) (x + 2))) (show zB 512 (zM m G1) by rw [w]; exact hB)
      rw [w] at k
      exact k) hv (by omega) (by omega)⟩
theorem zk_about {e : gE} {b : Nat} {m n x : Int} {G : gH} {A : zA} {kc ks : Nat} (ih : zIH e b m n x) (hx : inI (x + 6)) (hA : zM m G = A) (hR : zRel e b m G A) (hT : zTu n A kc ks) : GX e b m m_C_about [(2, ((b : Int) + 1)), (0, (gscr (gX e b m) (x + 1))), (0, (gscr (gX e b m) (x + 2)))] G 0 0 (fun v1 G1 => GX e b m m_M_about [(2, (m + 0)), (0, (gscr (gX e b m) (x + 1))), (0, (gscr (gX e b m) (x + 2)))] G1 0 0 (fun v2 G2 => (v1 = v2 → inI (x + 6) ∧ EX e b m m_L_law (fun v _ => v = 1) kc ks 18 [(2, ((gn (gX e b m) 18 : Int) + 1)), (2, ((b : Int) + 1)), (2, (m + 0)), (0, (x + 6))] [] G2) ∧ (v1 ≠ v2 → (0 : Int) = 1))) := by
  obtain ⟨hI, hN, hk, hs⟩ := hT
  have hn := hN.2
  have h := hI.i
  have hB : zB 512 A := zB_mono h.b (by omega)
  have hv : zInv (n + 1) (zfAbout A (gscr (gX e b m) (x + 1)) (gscr (gX e b m) (x + 2)), A).2 := zInv_1 hI
  have hg := zPsi_gw (B := (zfAbout A (gscr (gX e b m) (x + 1)) (gscr (gX e b m) (x + 2)), A).2) h.b (zGw_r)
  have b1 := zPsib hv.i.b
  have b2 := zPsib h.b
  exact zStp (r := (zfAbout A (gscr (gX e b m) (x + 1)) (gscr (gX e b m) (x + 2)), A)) ih hx hA (c_C_about hR hB) (fun G1 w => by
      have k := c_M_about (e := e) (b := b) (m := m) (G := G1) (p1 := (gscr (gX e b m) (x + 1))) (p2 := (gscr (gX e b m) (x + 2))) (show zB 512 (zM m G1) by rw [w]; exact hB)
      rw [w] at k
      exact zQp w k) hv (by omega) (by omega)
theorem zk_seal {e : gE} {b : Nat} {m n x : Int} {G : gH} {A : zA} {kc ks : Nat} (ih : zIH e b m n x) (hx : inI (x + 6)) (hA : zM m G = A) (hR : zRel e b m G A) (hT : zTu n A kc ks) : GX e b m m_C_seal [(2, ((b : Int) + 1)), (0, (gscr (gX e b m) (x + 1))), (0, (gscr (gX e b m) (x + 2))), (0, (gscr (gX e b m) (x + 3)))] G 0 0 (fun v1 G1 => GX e b m m_M_seal [(2, (m + 0)), (0, (gscr (gX e b m) (x + 1))), (0, (gscr (gX e b m) (x + 2))), (0, (gscr (gX e b m) (x + 3)))] G1 0 0 (fun v2 G2 => (v1 = v2 → inI (x + 6) ∧ EX e b m m_L_law (fun v _ => v = 1) kc ks 18 [(2, ((gn (gX e b m) 18 : Int) + 1)), (2, ((b : Int) + 1)), (2, (m + 0)), (0, (x + 6))] [] G2) ∧ (v1 ≠ v2 → (0 : Int) = 1))) := by
  obtain ⟨hI, hN, hk, hs⟩ := hT
  have hn := hN.2
  have h := hI.i
  have hB : zB 512 A := zB_mono h.b (by omega)
  have hc : ∀ t, zTh A t → zSeals A t < 1024 := fun t ht => by have := hI.sc t ht; omega
  have hv : zInv (n + 1) (zfSeal A (gscr (gX e b m) (x + 1)) (gscr (gX e b m) (x + 2)) (gscr (gX e b m) (x + 3)), A).2 := zInv_1 hI
  have hg := zPsi_gw (B := (zfSeal A (gscr (gX e b m) (x + 1)) (gscr (gX e b m) (x + 2)) (gscr (gX e b m) (x + 3)), A).2) h.b (zGw_r)
  have b1 := zPsib hv.i.b
  have b2 := zPsib h.b
  exact zStp (r := (zfSeal A (gscr (gX e b m) (x + 1)) (gscr (gX e b m) (x + 2)) (gscr (gX e b m) (x + 3)), A)) ih hx hA (c_C_seal hR hB (fun t ht => Int.le_of_lt (hc t ht))) (fun G1 w => by
      have k := c_M_seal (e := e) (b := b) (p1 := (gscr (gX e b m) (x + 1))) (p2 := (gscr (gX e b m) (x + 2))) (p3 := (gscr (gX e b m) (x + 3))) (show zB 512 (zM m G1) by rw [w]; exact hB)
      rw [w] at k
      refine GM.mono k ?_
      rintro v1 _ ⟨k1, rfl⟩
      exact ⟨zfSeal_u (hB 794 0).1 k1, w, zC_r⟩) hv (by omega) (by omega)
theorem zk_quarrel {e : gE} {b : Nat} {m n x : Int} {G : gH} {A : zA} {kc ks : Nat} (ih : zIH e b m n x) (hx : inI (x + 6)) (hA : zM m G = A) (hR : zRel e b m G A) (hT : zTu n A kc ks) : GX e b m m_C_quarrel [(2, ((b : Int) + 1)), (0, (gscr (gX e b m) (x + 1))), (0, (gscr (gX e b m) (x + 2))), (0, (gscr (gX e b m) (x + 3)))] G 0 0 (fun v1 G1 => GX e b m m_M_quarrel [(2, (m + 0)), (0, (gscr (gX e b m) (x + 1))), (0, (gscr (gX e b m) (x + 2))), (0, (gscr (gX e b m) (x + 3)))] G1 0 0 (fun v2 G2 => (v1 = v2 → inI (x + 6) ∧ EX e b m m_L_law (fun v _ => v = 1) kc ks 18 [(2, ((gn (gX e b m) 18 : Int) + 1)), (2, ((b : Int) + 1)), (2, (m + 0)), (0, (x + 6))] [] G2) ∧ (v1 ≠ v2 → (0 : Int) = 1))) := by
  obtain ⟨hI, hN, hk, hs⟩ := hT
  have hn := hN.2
  have h := hI.i
  have hB : zB 512 A := zB_mono h.b (by omega)
  have hv : zInv (n + 1) (zfQuarrel A (gscr (gX e b m) (x + 1)) (gscr (gX e b m) (x + 2)) (gscr (gX e b m) (x + 3))).2 := (v_quarrel hI).1
  have hg := zPsi_gw (B := (zfQuarrel A (gscr (gX e b m) (x + 1)) (gscr (gX e b m) (x + 2)) (gscr (gX e b m) (x + 3))).2) h.b ((v_quarrel hI).2)
  have b1 := zPsib hv.i.b
  have b2 := zPsib h.b
  exact zStp (r := (zfQuarrel A (gscr (gX e b m) (x + 1)) (gscr (gX e b m) (x + 2)) (gscr (gX e b m) (x + 3)))) ih hx hA (c_C_quarrel hR hB h.shw) (fun G1 w => by
      have k := c_M_quarrel (e := e) (b := b) (m := m) (G := G1) (p1 := (gscr (gX e b m) (x + 1))) (p2 := (gscr (gX e b m) (x + 2))) (p3 := (gscr (gX e b m) (x + 3))) (show zB 512 (zM m G1) by rw [w]; exact hB)
      rw [w] at k
      exact k) hv (by omega) (by omega)
theorem zk_said {e : gE} {b : Nat} {m n x : Int} {G : gH} {A : zA} {kc ks : Nat} (ih : zIH e b m n x) (hx : inI (x + 6)) (hA : zM m G = A) (hR : zRel e b m G A) (hT : zTu n A kc ks) : GX e b m m_C_said [(2, ((b : Int) + 1)), (0, (gscr (gX e b m) (x + 1))), (0, (gscr (gX e b m) (x + 2))), (0, (gscr (gX e b m) (x + 3))), (0, (gscr (gX e b m) (x + 4)))] G 0 0 (fun v1 G1 => GX e b m m_M_said [(2, (m + 0)), (0, (gscr (gX e b m) (x + 1))), (0, (gscr (gX e b m) (x + 2))), (0, (gscr (gX e b m) (x + 3))), (0, (gscr (gX e b m) (x + 4)))] G1 0 0 (fun v2 G2 => (v1 = v2 → inI (x + 6) ∧ EX e b m m_L_law (fun v _ => v = 1) kc ks 18 [(2, ((gn (gX e b m) 18 : Int) + 1)), (2, ((b : Int) + 1)), (2, (m + 0)), (0, (x + 6))] [] G2) ∧ (v1 ≠ v2 → (0 : Int) = 1))) := by
  obtain ⟨hI, hN, hk, hs⟩ := hT
  have hn := hN.2
  have h := hI.i
  have hB : zB 512 A := zB_mono h.b (by omega)
  have hv : zInv (n + 1) (zfSaid A (gscr (gX e b m) (x + 1)) (gscr (gX e b m) (x + 2)) (gscr (gX e b m) (x + 3)) (gscr (gX e b m) (x + 4)), A).2 := zInv_1 hI
  have hg := zPsi_gw (B := (zfSaid A (gscr (gX e b m) (x + 1)) (gscr (gX e b m) (x + 2)) (gscr (gX e b m) (x + 3)) (gscr (gX e b m) (x + 4)), A).2) h.b (zGw_r)
  have b1 := zPsib hv.i.b
  have b2 := zPsib h.b
  exact zStp (r := (zfSaid A (gscr (gX e b m) (x + 1)) (gscr (gX e b m) (x + 2)) (gscr (gX e b m) (x + 3)) (gscr (gX e b m) (x + 4)), A)) ih hx hA (c_C_said hR hB h.shw) (fun G1 w => by
      have k := c_M_said (e := e) (b := b) (m := m) (G := G1) (p1 := (gscr (gX e b m) (x + 1))) (p2 := (gscr (gX e b m) (x + 2))) (p3 := (gscr (gX e b m) (x + 3))) (p4 := (gscr (gX e b m) (x + 4))) (show zB 512 (zM m G1) by rw [w]; exact hB)
      rw [w] at k
      exact zQp w k) hv (by omega) (by omega)
theorem zk_status {e : gE} {b : Nat} {m n x : Int} {G : gH} {A : zA} {kc ks : Nat} (ih : zIH e b m n x) (hx : inI (x + 6)) (hA : zM m G = A) (hR : zRel e b m G A) (hT : zTu n A kc ks) : GX e b m m_C_status [(2, ((b : Int) + 1)), (0, (gscr (gX e b m) (x + 1)))] G 0 0 (fun v1 G1 => GX e b m m_M_status [(2, (m + 0)), (0, (gscr (gX e b m) (x + 1)))] G1 0 0 (fun v2 G2 => (v1 = v2 → inI (x + 6) ∧ EX e b m m_L_law (fun v _ => v = 1) kc ks 18 [(2, ((gn (gX e b m) 18 : Int) + 1)), (2, ((b : Int) + 1)), (2, (m + 0)), (0, (x + 6))] [] G2) ∧ (v1 ≠ v2 → (0 : Int) = 1))) := by
  obtain ⟨hI, hN, hk, hs⟩ := hT
  have hn := hN.2
  have h := hI.i
  have hB : zB 512 A := zB_mono h.b (by omega)
  have hv : zInv (n + 1) (zfStatus A (gscr (gX e b m) (x + 1)), A).2 := zInv_1 hI
  have hg := zPsi_gw (B := (zfStatus A (gscr (gX e b m) (x + 1)), A).2) h.b (zGw_r)
  have b1 := zPsib hv.i.b
  have b2 := zPsib h.b
  exact zStp (r := (zfStatus A (gscr (gX e b m) (x + 1)), A)) ih hx hA (c_C_status hR hB) (fun G1 w => by
      have k := c_M_status (e := e) (b := b) (m := m) (G := G1) (p1 := (gscr (gX e b m) (x + 1))) (show zB 512 (zM m G1) by rw [w]; exact hB)
      rw [w] at k
      exact zQp w k) hv (by omega) (by omega)
set_option maxRecDepth 20000 in
set_option maxHeartbeats 4000000 in
theorem z_loop {e : gE} {b : Nat} {m : Int} (hL : (gn (gX e b m) 19 : Int) ≤ 3072) : ∀ (d : Nat) (n x : Int) (kc ks : Nat) (G : gH) (A : zA), n + d = 512 → 0 ≤ n → x = 6 * n → zM m G = A → zRel e b m G A → zInv n A → 64 * (512 - n) ≤ (kc : Int) → 2560 * (512 - n) + (98304 - zPsi A) ≤ (ks : Int) → EX e b m m_L_law (fun v _ => v = 1) kc ks 18 [(2, ((gn (gX e b m) 18 : Int) + 1)), (2, ((b : Int) + 1)), (2, (m + 0)), (0, x)] [] G := by
  have hL0 : 0 ≤ (gn (gX e b m) 19 : Int) := Int.natCast_nonneg _
  intro d
  induction d with
  | zero =>
    intro n x kc ks G A hd hn hx hA hR hI hk hs
    exact sg_L_law_18 ⟨⟨by omega, by omega⟩, ⟨by omega, by omega⟩, fun _ => rfl, fun q => absurd q (by omega)⟩
  | succ d ihd =>
    intro n x kc ks G A hd hn hxx hA hR hI hk hs
    have ih : zIH e b m n x := fun kc2 ks2 G2 A2 a1 a2 a3 a4 a5 => ihd (n + 1) (x + 6) kc2 ks2 G2 A2 (by omega) (by omega) (by omega) a1 a2 a3 (by omega) (by omega)
    have hT : zTu n A kc ks := ⟨hI, ⟨hn, by omega⟩, hk, hs⟩
    have hx : inI (x + 6) := zin (by omega)
    refine sg_L_law_18 ⟨⟨by omega, by omega⟩, ⟨by omega, by omega⟩, fun _ => rfl, fun q => ⟨by omega, by omega, fun _ => ⟨zin (by omega), by omega, by omega, zin (by omega), by omega, by omega, zin (by omega), by omega, by omega, zk_door ih hx hA hR hT⟩, fun _ => ⟨zin (by omega), by omega, by omega, zk_team ih hx hA hR hT⟩, fun _ => ⟨zin (by omega), by omega, by omega, zin (by omega), by omega, by omega, zin (by omega), by omega, by omega, zin (by omega), by omega, by omega, zin (by omega), by omega, by omega, zk_thing ih hx hA hR hT⟩, fun _ => ⟨zin (by omega), by omega, by omega, zk_label ih hx hA hR hT⟩, fun _ => zk_fault ih hx hA hR hT, fun _ => ⟨zin (by omega), by omega, by omega, zin (by omega), by omega, by omega, zk_danger ih hx hA hR hT⟩, fun _ => ⟨zin (by omega), by omega, by omega, zin (by omega), by omega, by omega, zin (by omega), by omega, by omega, zk_row ih hx hA hR hT⟩, fun _ => ⟨zin (by omega), by omega, by omega, zin (by omega), by omega, by omega, zin (by omega), by omega, by omega, zin (by omega), by omega, by omega, zk_set ih hx hA hR hT⟩, fun _ => ⟨zin (by omega), by omega, by omega, zin (by omega), by omega, by omega, zin (by omega), by omega, by omega, zin (by omega), by omega, by omega, zin (by omega), by omega, by omega, zk_copy ih hx hA hR hT⟩, fun _ => ⟨zin (by omega), by omega, by omega, zin (by omega), by omega, by omega, zk_element ih hx hA hR hT⟩, fun _ => ⟨zin (by omega), by omega, by omega, zin (by omega), by omega, by omega, zk_show ih hx hA hR hT⟩, fun _ => ⟨zin (by omega), by omega, by omega, zk_holds ih hx hA hR hT⟩, fun _ => ⟨zin (by omega), by omega, by omega, zk_worthIn ih hx hA hR hT⟩, fun _ => ⟨zin (by omega), by omega, by omega, zk_alarm ih hx hA hR hT⟩, fun _ => ⟨zin (by omega), by omega, by omega, ⟨fun _ => zk_plan ih hx hA hR hT (Or.inl rfl), fun _ => zk_plan ih hx hA hR hT (Or.inr rfl)⟩⟩, fun _ => zk_gap ih hx hA hR hT, fun _ => ⟨zin (by omega), by omega, by omega, zk_block ih hx hA hR hT⟩, fun _ => ⟨zin (by omega), by omega, by omega, zin (by omega), by omega, by omega, zk_late ih hx hA hR hT⟩, fun _ => ⟨zin (by omega), by omega, by omega, zk_minutes ih hx hA hR hT⟩, fun _ => ⟨zin (by omega), by omega, by omega, zk_far ih hx hA hR hT⟩, fun _ => ⟨zin (by omega), by omega, by omega, zk_given ih hx hA hR hT⟩, fun _ => ⟨zin (by omega), by omega, by omega, zk_begins ih hx hA hR hT⟩, fun _ => ⟨zin (by omega), by omega, by omega, zin (by omega), by omega, by omega, zin (by omega), by omega, by omega, zk_place ih hx hA hR hT⟩, fun _ => ⟨zin (by omega), by omega, by omega, zin (by omega), by omega, by omega, zk_air ih hx hA hR hT⟩, fun _ => ⟨zin (by omega), by omega, by omega, zin (by omega), by omega, by omega, zk_airIn ih hx hA hR hT⟩, fun _ => ⟨zin (by omega), by omega, by omega, zin (by omega), by omega, by omega, zin (by omega), by omega, by omega, zk_band ih hx hA hR hT⟩, fun _ => ⟨zin (by omega), by omega, by omega, zin (by omega), by omega, by omega, zk_keep ih hx hA hR hT⟩, fun _ => ⟨zin (by omega), by omega, by omega, zk_fuel ih hx hA hR hT⟩, fun _ => ⟨zin (by omega), by omega, by omega, ⟨fun _ => zk_spread ih hx hA hR hT (Or.inl rfl), fun _ => zk_spread ih hx hA hR hT (Or.inr rfl)⟩⟩, fun _ => ⟨zin (by omega), by omega, by omega, zin (by omega), by omega, by omega, zk_move ih hx hA hR hT⟩, fun _ => ⟨zin (by omega), by omega, by omega, zk_weeks ih hx hA hR hT⟩, fun _ => ⟨zin (by omega), by omega, by omega, zk_lose ih hx hA hR hT⟩, fun _ => ⟨zin (by omega), by omega, by omega, zk_found ih hx hA hR hT⟩, fun _ => ⟨zin (by omega), by omega, by omega, zin (by omega), by omega, by omega, zin (by omega), by omega, by omega, zin (by omega), by omega, by omega, zk_paper ih hx hA hR hT⟩, fun _ => ⟨zin (by omega), by omega, by omega, zin (by omega), by omega, by omega, zk_holder ih hx hA hR hT⟩, fun _ => ⟨zin (by omega), by omega, by omega, zin (by omega), by omega, by omega, zk_giveBack ih hx hA hR hT⟩, fun _ => ⟨zin (by omega), by omega, by omega, zin (by omega), by omega, by omega, zk_about ih hx hA hR hT⟩, fun _ => ⟨zin (by omega), by omega, by omega, zin (by omega), by omega, by omega, zin (by omega), by omega, by omega, zk_seal ih hx hA hR hT⟩, fun _ => ⟨zin (by omega), by omega, by omega, zin (by omega), by omega, by omega, zin (by omega), by omega, by omega, zk_quarrel ih hx hA hR hT⟩, fun _ => ⟨zin (by omega), by omega, by omega, zin (by omega), by omega, by omega, zin (by omega), by omega, by omega, zin (by omega), by omega, by omega, zk_said ih hx hA hR hT⟩, fun _ => ⟨zin (by omega), by omega, by omega, zk_status ih hx hA hR hT⟩, fun _ => ⟨hx, EV.inv fun hF => ih kc ks G A hA hR (zInv_1 hI) (by omega) (by omega)⟩⟩⟩
