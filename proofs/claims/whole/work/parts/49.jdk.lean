/-! A CONTRACT of a method of the library -/
theorem GM.ofJ {l : Launch} {B : gB} {M : gM} {args : List gV} {G : gH} {mc ms : Nat} {Z : Int → gH → Prop} (hy : plainFor (gy M) = true) (hn : (gEn args).length ≤ gnL M) (h : EV l B M Z mc ms 0 (gpad (gnL M) (gEn args)) [] G) : GM l B M args G mc ms Z := by
  unfold GM
  refine MetFree.of_bodySF (code := gcc M) (maxLocals := gnL M) (ret := grt M) hy (fun args s m q hn => ?_) (fun p e s m a below meth c s₁ Bd hml hv _ => ?_)
  · obtain ⟨meth, c, h1, h2, h3, h4, h5, h6, -, -⟩ := Cond.code_spec hn (atoms_spec q _ List.mem_cons_self)
    exact ⟨meth, c, h1, h2, h3, h4, h5, h6⟩
  · obtain ⟨rfl, hok, hC, hK, hSF⟩ := hv
    have hts := atoms_spec Bd.pre
    have hl := lv_entry (args.map cV) (n := gnL M) (by rw [gEn_len]; exact hn)
    have hh0 : s₁.heap = s.heap := by rw [Bd.state]; rfl
    rw [lg_entry_eq]
    have w := h p e { frames := gfr M, cells := mc, slots := ms, locals := glo M } s m _ below meth c s.heap [] 0 0 _ ⟨Bd.exec, Bd.bytes, hml, Bd.returns, findClass_of_methodNamed Bd.named, fun w hw => hts w (List.mem_cons_of_mem _ hw), Bd.notSynchronized, (name_of_methodNamed Bd.named Bd.method).1, Nat.le_refl _, Nat.le_refl _, hK, hSF⟩ (by show 0 + mc ≤ mc; omega) (by show 0 + ms ≤ ms; omega) hC (fun q hq => absurd hq List.not_mem_nil) ⟨hl.1, hl.2.1, fun i x hi h9 => ?_⟩ (fun x hx => absurd hx List.not_mem_nil)
    · obtain ⟨t, a1, o, b1, b2, b3⟩ := w s₁ hh0 (Stand.of_body Bd)
      exact ⟨t, o, a1, b1, b2, ⟨b3.1, b3.2⟩⟩
    · have hi' : (gEn args)[i]? = some x := by
        unfold gpad at hi
        by_cases hlt : i < (gEn args).length
        · rwa [List.getElem?_append_left hlt] at hi
        · rw [List.getElem?_append_right (by omega), List.getElem?_replicate] at hi
          split at hi
          · cases hi; exact absurd rfl h9
          · cases hi
      obtain ⟨h1, h2⟩ := gEn_get args hok i x hi' h9
      refine ⟨h1, ?_⟩
      rw [List.getElem?_toArray, List.getElem?_append_left (List.getElem?_eq_some_iff.mp h2).1]
      exact h2
