/-! ===== what the tables say stays, as the tables get warmer ===== -/
theorem jx_w.warm {s U : State} {w : Cond} (hW : s.WarmedH U.vm) (hg : goodWord w = true) (h : jx_w w s) : jx_w w U := fun _ => word_at hW (good_of_word hg) (h #[])
theorem jx_lk.warm {s U : State} {own ref n d : String} {k : Nat} (hW : s.WarmedH U.vm) (h : jx_lk own k ref n d s) : jx_lk own k ref n d U := by
  rcases h with h | ⟨host, h⟩
  · exact Or.inl (h.warm hW rfl)
  · exact Or.inr ⟨host, fun A => va_Nw.use (A := A) rfl (va_Nw.warmF hW (h #[]))⟩
theorem jx_sm.warm {s U : State} {C ref n d : String} (hW : s.WarmedH U.vm) (h : jx_sm s C ref n d) : jx_sm U C ref n d := h.imp id (fun h => h.warm hW rfl)
theorem jx_lay_good (C : String) (T : u_T) (k : Nat) : goodWord (u_lay C T k) = true := by
  unfold u_lay
  split <;> rfl
theorem jx_ok.warm {T : jx_T} {cl : List vw_C} {ow : Nat → String} {G : jx_G} {H0 : Heap} {s U : State} (hW : s.WarmedH U.vm) (h : jx_ok T cl ow G H0 s) : jx_ok T cl ow G H0 U := by
  obtain ⟨hF, hC, hfx, hA, hO, hN, hY, hM, hT, hK, hS, hB, hI⟩ := h
  have hal := hW.alike
  refine ⟨?_, ?_, hfx, ?_, ⟨?_, ?_⟩, ?_, ⟨?_, ?_⟩, hM, ⟨?_, ?_⟩, ?_, ?_, ⟨?_, ?_⟩, hI⟩
  · intro own k ci f hf
    obtain ⟨r, ref, h1, h2, h3, h4⟩ := hF own k ci f hf
    exact ⟨r, ref, h1, h2, h3.warm hW, h4.warm hW⟩
  · intro ci r h0 hr
    obtain ⟨h1, h2⟩ := hC ci r h0 hr
    refine ⟨u_Kn_moved hal h1, fun w hw => (h2 w hw).warm hW ?_⟩
    obtain ⟨k, -, rfl⟩ := List.mem_map.mp hw
    exact jx_lay_good _ _ _
  · intro t ty h0 ht
    obtain ⟨h1, h2⟩ := hA t ty h0 ht
    exact ⟨arrOfT_moved hal h1, h2.moved hal⟩
  · intro j ci hj
    obtain ⟨r, h1, h2, h3⟩ := hO.1 j ci hj
    exact ⟨r, h1, h2.moved hal, fun f v hv hf => (h3 f v hv hf).moved hal⟩
  · intro j x hx ty hty
    exact (hO.2 j x hx ty hty).moved hal
  · intro own k ci hn
    obtain ⟨h0, r, h1, h2, h3, h4⟩ := hN own k ci hn
    exact ⟨h0, r, h1, h2.warm hW rfl, h3.warm hW rfl, h4.warm hW rfl⟩
  · intro y t hy
    obtain ⟨h0, h1, h2⟩ := hY.1 y t hy
    exact ⟨h0, h1, h2.warm hW rfl⟩
  · intro own k t hy
    obtain ⟨h0, C, h1, h2, h3⟩ := hY.2 own k t hy
    exact ⟨h0, C, h1, h2.warm hW rfl, fun A => va_AO.use ((va_AO.of (h3 #[])).moved hal)⟩
  · intro own k ci b hb
    obtain ⟨r, nm, h1, h2, h3, h4⟩ := hT.1 own k ci b hb
    exact ⟨r, nm, h1, h2.warm hW rfl, fun z => (h3 z).imp (fun z => ⟨z.1, z.2.elim fun cC h => ⟨cC, classAt_moved hal h⟩⟩) (fun z A => va_Nw.use (A := A) rfl (va_Nw.warmC hW (z #[]))), fun z => (h4 z).moved hal⟩
  · intro t ci hb
    obtain ⟨r, E, h1, h2, h3⟩ := hT.2 t ci hb
    exact ⟨r, E, h1, h2, h3.imp (fun z => ⟨z.1, z.2.elim fun cC h => ⟨cC, classAt_moved hal h⟩⟩) (fun z A => va_Nw.use (A := A) rfl (va_Nw.warmC hW (z #[])))⟩
  · intro own k v hv
    rcases hK own k v hv with ⟨x, h1, h2⟩ | ⟨x, h1, h2⟩ | ⟨j, tx, h1, h2⟩ | ⟨j, C, h1, h2, h3⟩
    · exact Or.inl ⟨x, h1, h2.warm hW rfl⟩
    · exact Or.inr (Or.inl ⟨x, h1, h2.warm hW rfl⟩)
    · exact Or.inr (Or.inr (Or.inl ⟨j, tx, h1, h2.warm hW⟩))
    · exact Or.inr (Or.inr (Or.inr ⟨j, C, h1, h2.warm hW rfl, h3.moved hal⟩))
  · intro own k v hv
    obtain ⟨C, n, d, ref, h1, h2, h3⟩ := hS own k v hv
    exact ⟨C, n, d, ref, h1.moved hal, h2.warm hW, h3.warm hW⟩
  · intro own k b hb
    rcases hB.1 own k b hb with ⟨h1, h2, h3, h4, h5⟩ | ⟨h1, h2, h3, h4, h5⟩ | ⟨h1, h2, h3, h4, h5⟩ | ⟨h1, h2, h3, h4, h5, h6, h7, h8⟩
    · exact Or.inl ⟨h1, h2.warm hW rfl, h3.warm hW rfl, h4.warm hW rfl, h5.warm hW rfl⟩
    · exact Or.inr (Or.inl ⟨h1, h2.warm hW rfl, h3.warm hW rfl, h4.warm hW rfl, h5.warm hW rfl⟩)
    · exact Or.inr (Or.inr (Or.inl ⟨h1, h2.warm hW rfl, h3.warm hW rfl, h4.warm hW rfl, h5.warm hW rfl⟩))
    · exact Or.inr (Or.inr (Or.inr ⟨h1, h2.warm hW rfl, h3.moved hal, h4.warm hW rfl, h5.warm hW rfl, h6.warm hW rfl, h7.moved hal, h8⟩))
  · intro own k hk
    obtain ⟨h1, h2, h3⟩ := hB.2 own k hk
    exact ⟨h1.warm hW rfl, h2.warm hW rfl, h3.warm hW rfl⟩
