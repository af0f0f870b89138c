/-! ===== calls, fields, classes, arrays at a state where the words hold ===== -/
section JWE
variable {wr : Nat → Bool} {L : Nat} {xs : Nat → Int32} {s : State}
theorem jw_cok (hs : jw_H s) : jx_cok (jw_T wr L xs) jw_cl jw_ow jw_N s := by
  refine ⟨fun own k m2 n h => ?_, fun own k n g ci m2 h hg => ?_, fun own k n g ci m2 h hg => ?_⟩
  · have h : jw_find jw_csT own k = some (m2, n) := h
    obtain ⟨z, hz, hk⟩ := jw_find_ok jw_csT_i h jw_fS_ok
    rw [show (jw_N m2).1 = z from hz]
    exact hk s hs
  · have h : jw_cv own k = some (n, g) := h
    unfold jw_cv at h
    split at h
    · rename_i x hx
      cases h
      obtain ⟨r, z, h1, hz, hk⟩ := jw_find_ok jw_cvT_i hx jw_fV_ok _ (jw_ls_mem hg)
      refine ⟨r, h1, ?_⟩
      rw [show (jw_N m2).1 = z from hz]
      exact hk s hs
    · cases h
  · have h : jw_cp own k = some (n, g) := h
    unfold jw_cp at h
    split at h
    · rename_i x hx
      cases h
      obtain ⟨z, hz, hk⟩ := jw_find_ok jw_cpT_i hx jw_fP_ok
      dsimp only at hg
      split at hg
      · rename_i hlt
        cases hg
        have hl : ci < jw_cl.length := Nat.lt_of_lt_of_le hlt (by decide)
        refine ⟨jw_cl[ci], List.getElem?_eq_getElem hl, ?_⟩
        rw [show (jw_N x.2).1 = z from hz]
        exact hk _ s hs
      · cases hg
    · cases h
theorem jw_okF (hs : jw_H s) : jx_okF (jw_T wr L xs) jw_cl jw_ow s := by
  intro own k ci f h
  have h : jw_fld own k ci = some f := h
  unfold jw_fld at h
  split at h
  · rename_i l hl
    exact jw_find_ok jw_fldT_i hl jw_fF_ok _ (jw_ls_mem h) s hs
  · cases h
theorem jw_okN {G : jx_G} (hG : G.2.2.2.2.2 = 17) (hs : jw_H s) : jx_okN (jw_T wr L xs) jw_cl jw_ow G s := by
  intro own k ci h
  have h : jw_find jw_nwT own k = some ci := h
  rw [hG]
  exact jw_find_ok jw_nwT_i h jw_fN_ok s hs
theorem jw_okB {G : jx_G} (hs : jw_H s) (hMi : va_Mi "[Ljava/lang/Object;" (G.2.1 56) s) (hDc : va_Dc s) : jx_okB (jw_T wr L xs) jw_ow G s := by
  refine ⟨fun own k b h => ?_, fun own k h => ?_⟩
  · have h : jw_biB own k = some b := h
    unfold jw_biB at h
    cases hc : ((own == 8 && k == 55) || ((own == 13 && k == 150) || (own == 15 && k == 212))) with
    | true =>
      rw [hc] at h
      have e : 2 = b := Option.some.inj h
      refine Or.inr (Or.inr (Or.inl ⟨e.symm, ?_, (hs.1 _ (jw_k2 4 rfl) rfl), (hs.1 _ (jw_k2 3 rfl) rfl), (hs.1 _ (jw_k1 15 rfl) rfl)⟩))
      simp only [Bool.or_eq_true, Bool.and_eq_true, beq_iff_eq] at hc
      rcases hc with ⟨rfl, rfl⟩ | ⟨rfl, rfl⟩ | ⟨rfl, rfl⟩
      · exact (hs.1 _ (jw_k3 134 rfl) rfl)
      · exact (hs.1 _ (jw_k2 2 rfl) rfl)
      · exact (hs.1 _ (jw_k2 128 rfl) rfl)
    | false =>
      rw [hc] at h
      dsimp only [cond] at h
      cases hc2 : (own == 13 && k == 86) with
      | true =>
        rw [hc2] at h
        have e : 9 = b := Option.some.inj h
        simp only [Bool.and_eq_true, beq_iff_eq] at hc2
        obtain ⟨rfl, rfl⟩ := hc2
        exact Or.inr (Or.inr (Or.inr ⟨e.symm, (hs.1 _ (jw_k4 182 rfl) rfl), hDc, (hs.1 _ (jw_k8 15 rfl) rfl), (hs.1 _ (jw_k4 183 rfl) rfl), (hs.1 _ (jw_k4 203 rfl) rfl), hMi, rfl⟩))
      | false =>
        rw [hc2] at h
        rcases jw_find_ok jw_biT_i h jw_fB_ok s hs with h | h
        · exact Or.inl h
        · exact Or.inr (Or.inl h)
  · have h : jw_oi own k = true := h
    unfold jw_oi at h
    split at h
    · rename_i x hx
      exact jw_find_ok jw_oiT_i hx jw_fO_ok s hs
    · cases h
theorem jw_okY (hs : jw_H s) : jx_okY (jw_T wr L xs) jw_ow s := by
  refine ⟨fun y t h => ?_, fun own k t h => ?_⟩
  · have h : jw_ay y = some t := h
    cases y <;> first | (cases h; done) | skip
    all_goals cases h
    · exact ⟨by decide, rfl, hs.1 _ (jw_mem 82 (by decide +kernel)) rfl⟩
    · exact ⟨by decide, rfl, hs.1 _ (jw_mem 83 (by decide +kernel)) rfl⟩
    · exact ⟨by decide, rfl, hs.1 _ (jw_mem 1390 (by decide +kernel)) rfl⟩
    · exact ⟨by decide, rfl, hs.1 _ (jw_mem 1391 (by decide +kernel)) rfl⟩
  · have h : jw_find jw_anT own k = some t := h
    exact jw_find_ok jw_anT_i h jw_fA_ok s hs
/-- fields that are final, and whose class may write them -/
def jw_fmB : Bool := (List.range 17).all fun ci => (List.range ((jw_cl.getD ci jw_c0).2.2)).all fun f => match jw_fmL[ci]? with
  | some l => (match l[f]? with
    | some none => !((jw_cl.getD ci jw_c0).2.1 f).2.2.2
    | some (some o) => ((jw_cl.getD ci jw_c0).2.1 f).2.2.2 && decide (((jw_cl.getD ci jw_c0).2.1 f).1 = jw_ow o)
    | none => true)
  | none => true
theorem jw_fmB_ok : jw_fmB = true := by decide +kernel
def jw_fmN : Bool := (List.range 17).all fun ci => match jw_fmL[ci]? with
  | some l => decide (l.length = (jw_cl.getD ci jw_c0).2.2)
  | none => true
theorem jw_fmN_ok : jw_fmN = true := by decide +kernel
theorem jw_okM : jx_okM (jw_T wr L xs) jw_cl jw_ow := by
  intro own ci f b h
  have h : jw_fm own ci f = some b := h
  unfold jw_fm at h
  split at h
  · rename_i l hl
    have hci : ci < 17 := by
      have := (List.getElem?_eq_some_iff.mp hl).1
      exact Nat.lt_of_lt_of_le this (by decide)
    have hcl : ci < jw_cl.length := Nat.lt_of_lt_of_le hci (by decide)
    have e1 : jw_cl[ci]? = some (jw_cl.getD ci jw_c0) := by
      rw [List.getElem?_eq_getElem hcl]
      simp [List.getD_eq_getElem?_getD, List.getElem?_eq_getElem hcl]
    refine ⟨_, e1, ?_⟩
    have hN := List.all_eq_true.mp jw_fmN_ok ci (List.mem_range.mpr hci)
    rw [hl] at hN
    have hN : l.length = (jw_cl.getD ci jw_c0).2.2 := of_decide_eq_true hN
    have hB := List.all_eq_true.mp jw_fmB_ok ci (List.mem_range.mpr hci)
    split at h
    · rename_i hf
      cases h
      have hlt := (List.getElem?_eq_some_iff.mp hf).1
      have h2 := List.all_eq_true.mp hB f (List.mem_range.mpr (by rw [← hN]; exact hlt))
      rw [hl] at h2
      dsimp only at h2
      rw [hf] at h2
      exact ⟨by simpa using h2, fun z => by cases z⟩
    · rename_i o hf
      split at h
      · rename_i ho
        have hb : b = true := (Option.some.inj h).symm
        subst hb
        have hlt := (List.getElem?_eq_some_iff.mp hf).1
        have h2 := List.all_eq_true.mp hB f (List.mem_range.mpr (by rw [← hN]; exact hlt))
        rw [hl] at h2
        dsimp only at h2
        rw [hf] at h2
        obtain ⟨h3, h4⟩ := (Bool.and_eq_true _ _).mp h2
        exact ⟨h3, fun _ => by rw [← ho]; exact of_decide_eq_true h4⟩
      · cases h
    · cases h
  · cases h
def jw_fixB : Bool := (List.range 17).all fun ci => decide ((jw_nf ci).length = (jw_cl.getD ci jw_c0).2.2) && (List.range ((jw_cl.getD ci jw_c0).2.2)).all fun k => match parseFieldDescriptor ((jw_cl.getD ci jw_c0).2.1 k).2.2.1 with
  | some ty => decide (jw_ft ci k = some ty) && decide ((jw_nf ci)[k]? = some (defaultValue ty))
  | none => false
set_option maxRecDepth 100000 in
theorem jw_fixB_ok : jw_fixB = true := by decide +kernel
def jw_nmB : Bool := (List.range 17).all fun ci => (List.range ((jw_cl.getD ci jw_c0).2.2)).all fun a => (List.range ((jw_cl.getD ci jw_c0).2.2)).all fun b => decide (a = b) || !(decide (((jw_cl.getD ci jw_c0).2.1 a).2.1 = ((jw_cl.getD ci jw_c0).2.1 b).2.1))
set_option maxRecDepth 100000 in
theorem jw_nmB_ok : jw_nmB = true := by decide +kernel
theorem jw_getD {ci : Nat} {r : vw_C} (h : jw_cl[ci]? = some r) : jw_cl.getD ci jw_c0 = r := by
  simp [List.getD_eq_getElem?_getD, h]
theorem jw_fix {G : jx_G} (hG : G.2.2.2.2.2 = 17) : jx_fix (jw_T wr L xs) jw_cl G := by
  intro ci r h0 hr
  rw [hG] at h0
  have e := jw_getD hr
  have h1 := List.all_eq_true.mp jw_fixB_ok ci (List.mem_range.mpr h0)
  have h2 := List.all_eq_true.mp jw_nmB_ok ci (List.mem_range.mpr h0)
  rw [e] at h1 h2
  obtain ⟨h3, h4⟩ := (Bool.and_eq_true _ _).mp h1
  refine ⟨fun a ha b hb hne => ?_, of_decide_eq_true h3, fun k hk => ?_⟩
  · have h5 := List.all_eq_true.mp (List.all_eq_true.mp h2 a (List.mem_range.mpr ha)) b (List.mem_range.mpr hb)
    simpa [hne] using h5
  · have h5 := List.all_eq_true.mp h4 k (List.mem_range.mpr hk)
    split at h5
    · rename_i ty hty
      obtain ⟨h6, h7⟩ := (Bool.and_eq_true _ _).mp h5
      exact ⟨ty, hty, of_decide_eq_true h6, of_decide_eq_true h7⟩
    · cases h5
/-- the classes' numbers and slots, the array classes' numbers -/
theorem jw_uws (hs : jw_H s) : ∀ (ci : Nat) (r : vw_C), ci < 17 → jw_cl[ci]? = some r → (∀ w ∈ u_ws r.1 r.2.1 r.2.2, jx_w w s) ∧ ∃ n : Nat, jx_w (.instantiable r.1 n) s := by
  intro ci r h0 hr
  match ci, h0, hr with
  | 0, _, hr => cases hr; exact ⟨show ∀ w ∈ ([u_lay jw_c0.1 jw_c0.2.1 0, u_lay jw_c0.1 jw_c0.2.1 1, u_lay jw_c0.1 jw_c0.2.1 2, u_lay jw_c0.1 jw_c0.2.1 3, u_lay jw_c0.1 jw_c0.2.1 4, u_lay jw_c0.1 jw_c0.2.1 5, u_lay jw_c0.1 jw_c0.2.1 6, u_lay jw_c0.1 jw_c0.2.1 7, u_lay jw_c0.1 jw_c0.2.1 8] : List Cond), jx_w w s from List.forall_mem_cons.mpr ⟨(hs.1 _ (jw_k2 144 rfl) rfl), List.forall_mem_cons.mpr ⟨(hs.1 _ (jw_k2 146 rfl) rfl), List.forall_mem_cons.mpr ⟨(hs.1 _ (jw_k2 148 rfl) rfl), List.forall_mem_cons.mpr ⟨(hs.1 _ (jw_k2 150 rfl) rfl), List.forall_mem_cons.mpr ⟨(hs.1 _ (jw_k2 152 rfl) rfl), List.forall_mem_cons.mpr ⟨(hs.1 _ (jw_k2 154 rfl) rfl), List.forall_mem_cons.mpr ⟨(hs.1 _ (jw_k2 156 rfl) rfl), List.forall_mem_cons.mpr ⟨(hs.1 _ (jw_k2 158 rfl) rfl), List.forall_mem_cons.mpr ⟨(hs.1 _ (jw_k2 160 rfl) rfl), fun _ h => absurd h List.not_mem_nil⟩⟩⟩⟩⟩⟩⟩⟩⟩, 9, hs.1 _ (jw_k1 37 rfl) rfl⟩
  | 1, _, hr => cases hr; exact ⟨show ∀ w ∈ ([u_lay jw_c1.1 jw_c1.2.1 0, u_lay jw_c1.1 jw_c1.2.1 1, u_lay jw_c1.1 jw_c1.2.1 2, u_lay jw_c1.1 jw_c1.2.1 3, u_lay jw_c1.1 jw_c1.2.1 4] : List Cond), jx_w w s from List.forall_mem_cons.mpr ⟨(hs.1 _ (jw_k1 91 rfl) rfl), List.forall_mem_cons.mpr ⟨(hs.1 _ (jw_k1 93 rfl) rfl), List.forall_mem_cons.mpr ⟨(hs.1 _ (jw_k1 95 rfl) rfl), List.forall_mem_cons.mpr ⟨(hs.1 _ (jw_k1 97 rfl) rfl), List.forall_mem_cons.mpr ⟨(hs.1 _ (jw_k1 99 rfl) rfl), fun _ h => absurd h List.not_mem_nil⟩⟩⟩⟩⟩, 5, hs.1 _ (jw_k1 45 rfl) rfl⟩
  | 2, _, hr => cases hr; exact ⟨show ∀ w ∈ ([u_lay jw_c2.1 jw_c2.2.1 0, u_lay jw_c2.1 jw_c2.2.1 1, u_lay jw_c2.1 jw_c2.2.1 2, u_lay jw_c2.1 jw_c2.2.1 3] : List Cond), jx_w w s from List.forall_mem_cons.mpr ⟨(hs.1 _ (jw_k1 73 rfl) rfl), List.forall_mem_cons.mpr ⟨(hs.1 _ (jw_k1 75 rfl) rfl), List.forall_mem_cons.mpr ⟨(hs.1 _ (jw_k1 77 rfl) rfl), List.forall_mem_cons.mpr ⟨(hs.1 _ (jw_k1 79 rfl) rfl), fun _ h => absurd h List.not_mem_nil⟩⟩⟩⟩, 4, hs.1 _ (jw_k1 51 rfl) rfl⟩
  | 3, _, hr => cases hr; exact ⟨show ∀ w ∈ ([u_lay jw_c3.1 jw_c3.2.1 0] : List Cond), jx_w w s from List.forall_mem_cons.mpr ⟨(hs.1 _ (jw_k1 109 rfl) rfl), fun _ h => absurd h List.not_mem_nil⟩, 1, hs.1 _ (jw_k1 103 rfl) rfl⟩
  | 4, _, hr => cases hr; exact ⟨show ∀ w ∈ ([u_lay jw_c4.1 jw_c4.2.1 0, u_lay jw_c4.1 jw_c4.2.1 1] : List Cond), jx_w w s from List.forall_mem_cons.mpr ⟨(hs.1 _ (jw_k1 120 rfl) rfl), List.forall_mem_cons.mpr ⟨(hs.1 _ (jw_k1 122 rfl) rfl), fun _ h => absurd h List.not_mem_nil⟩⟩, 2, hs.1 _ (jw_k1 113 rfl) rfl⟩
  | 5, _, hr => cases hr; exact ⟨show ∀ w ∈ ([u_lay jw_c5.1 jw_c5.2.1 0, u_lay jw_c5.1 jw_c5.2.1 1, u_lay jw_c5.1 jw_c5.2.1 2, u_lay jw_c5.1 jw_c5.2.1 3, u_lay jw_c5.1 jw_c5.2.1 4, u_lay jw_c5.1 jw_c5.2.1 5] : List Cond), jx_w w s from List.forall_mem_cons.mpr ⟨(hs.1 _ (jw_k1 155 rfl) rfl), List.forall_mem_cons.mpr ⟨(hs.1 _ (jw_k1 157 rfl) rfl), List.forall_mem_cons.mpr ⟨(hs.1 _ (jw_k1 159 rfl) rfl), List.forall_mem_cons.mpr ⟨(hs.1 _ (jw_k1 161 rfl) rfl), List.forall_mem_cons.mpr ⟨(hs.1 _ (jw_k1 163 rfl) rfl), List.forall_mem_cons.mpr ⟨(hs.1 _ (jw_k1 165 rfl) rfl), fun _ h => absurd h List.not_mem_nil⟩⟩⟩⟩⟩⟩, 6, hs.1 _ (jw_k1 129 rfl) rfl⟩
  | 6, _, hr => cases hr; exact ⟨show ∀ w ∈ ([u_lay jw_c6.1 jw_c6.2.1 0, u_lay jw_c6.1 jw_c6.2.1 1, u_lay jw_c6.1 jw_c6.2.1 2] : List Cond), jx_w w s from List.forall_mem_cons.mpr ⟨(hs.1 _ (jw_k1 188 rfl) rfl), List.forall_mem_cons.mpr ⟨(hs.1 _ (jw_k1 190 rfl) rfl), List.forall_mem_cons.mpr ⟨(hs.1 _ (jw_k1 192 rfl) rfl), fun _ h => absurd h List.not_mem_nil⟩⟩⟩, 3, hs.1 _ (jw_k1 169 rfl) rfl⟩
  | 7, _, hr => cases hr; exact ⟨show ∀ w ∈ ([u_lay jw_c7.1 jw_c7.2.1 0] : List Cond), jx_w w s from List.forall_mem_cons.mpr ⟨(hs.1 _ (jw_k1 181 rfl) rfl), fun _ h => absurd h List.not_mem_nil⟩, 1, hs.1 _ (jw_k1 175 rfl) rfl⟩
  | 8, _, hr => cases hr; exact ⟨show ∀ w ∈ ([] : List Cond), jx_w w s from fun _ h => absurd h List.not_mem_nil, 6, hs.1 _ (jw_k2 218 rfl) rfl⟩
  | 9, _, hr => cases hr; exact ⟨show ∀ w ∈ ([u_lay jw_c9.1 jw_c9.2.1 0, u_lay jw_c9.1 jw_c9.2.1 1, u_lay jw_c9.1 jw_c9.2.1 2, u_lay jw_c9.1 jw_c9.2.1 3] : List Cond), jx_w w s from List.forall_mem_cons.mpr ⟨(hs.1 _ (jw_k3 101 rfl) rfl), List.forall_mem_cons.mpr ⟨(hs.1 _ (jw_k3 103 rfl) rfl), List.forall_mem_cons.mpr ⟨(hs.1 _ (jw_k3 105 rfl) rfl), List.forall_mem_cons.mpr ⟨(hs.1 _ (jw_k3 107 rfl) rfl), fun _ h => absurd h List.not_mem_nil⟩⟩⟩⟩, 4, hs.1 _ (jw_k3 29 rfl) rfl⟩
  | 10, _, hr => cases hr; exact ⟨show ∀ w ∈ ([] : List Cond), jx_w w s from fun _ h => absurd h List.not_mem_nil, 6, hs.1 _ (jw_k3 236 rfl) rfl⟩
  | 11, _, hr => cases hr; exact ⟨show ∀ w ∈ ([u_lay jw_c11.1 jw_c11.2.1 0] : List Cond), jx_w w s from List.forall_mem_cons.mpr ⟨(hs.1 _ (jw_k4 60 rfl) rfl), fun _ h => absurd h List.not_mem_nil⟩, 1, hs.1 _ (jw_k4 26 rfl) rfl⟩
  | 12, _, hr => cases hr; exact ⟨show ∀ w ∈ ([u_lay jw_c12.1 jw_c12.2.1 0, u_lay jw_c12.1 jw_c12.2.1 1, u_lay jw_c12.1 jw_c12.2.1 2] : List Cond), jx_w w s from List.forall_mem_cons.mpr ⟨(hs.1 _ (jw_k4 50 rfl) rfl), List.forall_mem_cons.mpr ⟨(hs.1 _ (jw_k4 52 rfl) rfl), List.forall_mem_cons.mpr ⟨(hs.1 _ (jw_k4 54 rfl) rfl), fun _ h => absurd h List.not_mem_nil⟩⟩⟩, 3, hs.1 _ (jw_k4 32 rfl) rfl⟩
  | 13, _, hr => cases hr; exact ⟨show ∀ w ∈ ([u_lay jw_c13.1 jw_c13.2.1 0, u_lay jw_c13.1 jw_c13.2.1 1, u_lay jw_c13.1 jw_c13.2.1 2] : List Cond), jx_w w s from List.forall_mem_cons.mpr ⟨(hs.1 _ (jw_k4 85 rfl) rfl), List.forall_mem_cons.mpr ⟨(hs.1 _ (jw_k4 87 rfl) rfl), List.forall_mem_cons.mpr ⟨(hs.1 _ (jw_k4 89 rfl) rfl), fun _ h => absurd h List.not_mem_nil⟩⟩⟩, 3, hs.1 _ (jw_k4 68 rfl) rfl⟩
  | 14, _, hr => cases hr; exact ⟨show ∀ w ∈ ([u_lay jw_c14.1 jw_c14.2.1 0, u_lay jw_c14.1 jw_c14.2.1 1, u_lay jw_c14.1 jw_c14.2.1 2, u_lay jw_c14.1 jw_c14.2.1 3, u_lay jw_c14.1 jw_c14.2.1 4, u_lay jw_c14.1 jw_c14.2.1 5, u_lay jw_c14.1 jw_c14.2.1 6, u_lay jw_c14.1 jw_c14.2.1 7] : List Cond), jx_w w s from List.forall_mem_cons.mpr ⟨(hs.1 _ (jw_k4 145 rfl) rfl), List.forall_mem_cons.mpr ⟨(hs.1 _ (jw_k4 147 rfl) rfl), List.forall_mem_cons.mpr ⟨(hs.1 _ (jw_k4 149 rfl) rfl), List.forall_mem_cons.mpr ⟨(hs.1 _ (jw_k4 151 rfl) rfl), List.forall_mem_cons.mpr ⟨(hs.1 _ (jw_k4 153 rfl) rfl), List.forall_mem_cons.mpr ⟨(hs.1 _ (jw_k4 155 rfl) rfl), List.forall_mem_cons.mpr ⟨(hs.1 _ (jw_k4 157 rfl) rfl), List.forall_mem_cons.mpr ⟨(hs.1 _ (jw_k4 159 rfl) rfl), fun _ h => absurd h List.not_mem_nil⟩⟩⟩⟩⟩⟩⟩⟩, 8, hs.1 _ (jw_k4 122 rfl) rfl⟩
  | 15, _, hr => cases hr; exact ⟨show ∀ w ∈ ([u_lay jw_c15.1 jw_c15.2.1 0, u_lay jw_c15.1 jw_c15.2.1 1, u_lay jw_c15.1 jw_c15.2.1 2] : List Cond), jx_w w s from List.forall_mem_cons.mpr ⟨(hs.1 _ (jw_k5 3 rfl) rfl), List.forall_mem_cons.mpr ⟨(hs.1 _ (jw_k5 5 rfl) rfl), List.forall_mem_cons.mpr ⟨(hs.1 _ (jw_k5 7 rfl) rfl), fun _ h => absurd h List.not_mem_nil⟩⟩⟩, 3, hs.1 _ (jw_k4 229 rfl) rfl⟩
  | 16, _, hr => cases hr; exact ⟨show ∀ w ∈ ([u_lay jw_c16.1 jw_c16.2.1 0, u_lay jw_c16.1 jw_c16.2.1 1, u_lay jw_c16.1 jw_c16.2.1 2, u_lay jw_c16.1 jw_c16.2.1 3, u_lay jw_c16.1 jw_c16.2.1 4, u_lay jw_c16.1 jw_c16.2.1 5, u_lay jw_c16.1 jw_c16.2.1 6, u_lay jw_c16.1 jw_c16.2.1 7, u_lay jw_c16.1 jw_c16.2.1 8, u_lay jw_c16.1 jw_c16.2.1 9, u_lay jw_c16.1 jw_c16.2.1 10, u_lay jw_c16.1 jw_c16.2.1 11, u_lay jw_c16.1 jw_c16.2.1 12, u_lay jw_c16.1 jw_c16.2.1 13, u_lay jw_c16.1 jw_c16.2.1 14, u_lay jw_c16.1 jw_c16.2.1 15, u_lay jw_c16.1 jw_c16.2.1 16, u_lay jw_c16.1 jw_c16.2.1 17, u_lay jw_c16.1 jw_c16.2.1 18, u_lay jw_c16.1 jw_c16.2.1 19, u_lay jw_c16.1 jw_c16.2.1 20, u_lay jw_c16.1 jw_c16.2.1 21, u_lay jw_c16.1 jw_c16.2.1 22, u_lay jw_c16.1 jw_c16.2.1 23, u_lay jw_c16.1 jw_c16.2.1 24, u_lay jw_c16.1 jw_c16.2.1 25, u_lay jw_c16.1 jw_c16.2.1 26, u_lay jw_c16.1 jw_c16.2.1 27, u_lay jw_c16.1 jw_c16.2.1 28, u_lay jw_c16.1 jw_c16.2.1 29, u_lay jw_c16.1 jw_c16.2.1 30, u_lay jw_c16.1 jw_c16.2.1 31, u_lay jw_c16.1 jw_c16.2.1 32, u_lay jw_c16.1 jw_c16.2.1 33, u_lay jw_c16.1 jw_c16.2.1 34, u_lay jw_c16.1 jw_c16.2.1 35, u_lay jw_c16.1 jw_c16.2.1 36, u_lay jw_c16.1 jw_c16.2.1 37, u_lay jw_c16.1 jw_c16.2.1 38, u_lay jw_c16.1 jw_c16.2.1 39, u_lay jw_c16.1 jw_c16.2.1 40, u_lay jw_c16.1 jw_c16.2.1 41, u_lay jw_c16.1 jw_c16.2.1 42, u_lay jw_c16.1 jw_c16.2.1 43, u_lay jw_c16.1 jw_c16.2.1 44, u_lay jw_c16.1 jw_c16.2.1 45, u_lay jw_c16.1 jw_c16.2.1 46] : List Cond), jx_w w s from List.forall_mem_cons.mpr ⟨(hs.1 _ (jw_k6 95 rfl) rfl), List.forall_mem_cons.mpr ⟨(hs.1 _ (jw_k6 97 rfl) rfl), List.forall_mem_cons.mpr ⟨(hs.1 _ (jw_k6 99 rfl) rfl), List.forall_mem_cons.mpr ⟨(hs.1 _ (jw_k6 101 rfl) rfl), List.forall_mem_cons.mpr ⟨(hs.1 _ (jw_k6 103 rfl) rfl), List.forall_mem_cons.mpr ⟨(hs.1 _ (jw_k6 105 rfl) rfl), List.forall_mem_cons.mpr ⟨(hs.1 _ (jw_k6 107 rfl) rfl), List.forall_mem_cons.mpr ⟨(hs.1 _ (jw_k6 109 rfl) rfl), List.forall_mem_cons.mpr ⟨(hs.1 _ (jw_k6 111 rfl) rfl), List.forall_mem_cons.mpr ⟨(hs.1 _ (jw_k6 113 rfl) rfl), List.forall_mem_cons.mpr ⟨(hs.1 _ (jw_k6 115 rfl) rfl), List.forall_mem_cons.mpr ⟨(hs.1 _ (jw_k6 117 rfl) rfl), List.forall_mem_cons.mpr ⟨(hs.1 _ (jw_k6 119 rfl) rfl), List.forall_mem_cons.mpr ⟨(hs.1 _ (jw_k6 121 rfl) rfl), List.forall_mem_cons.mpr ⟨(hs.1 _ (jw_k6 123 rfl) rfl), List.forall_mem_cons.mpr ⟨(hs.1 _ (jw_k6 125 rfl) rfl), List.forall_mem_cons.mpr ⟨(hs.1 _ (jw_k6 127 rfl) rfl), List.forall_mem_cons.mpr ⟨(hs.1 _ (jw_k6 129 rfl) rfl), List.forall_mem_cons.mpr ⟨(hs.1 _ (jw_k6 131 rfl) rfl), List.forall_mem_cons.mpr ⟨(hs.1 _ (jw_k6 133 rfl) rfl), List.forall_mem_cons.mpr ⟨(hs.1 _ (jw_k6 135 rfl) rfl), List.forall_mem_cons.mpr ⟨(hs.1 _ (jw_k6 137 rfl) rfl), List.forall_mem_cons.mpr ⟨(hs.1 _ (jw_k6 139 rfl) rfl), List.forall_mem_cons.mpr ⟨(hs.1 _ (jw_k6 141 rfl) rfl), List.forall_mem_cons.mpr ⟨(hs.1 _ (jw_k6 143 rfl) rfl), List.forall_mem_cons.mpr ⟨(hs.1 _ (jw_k6 145 rfl) rfl), List.forall_mem_cons.mpr ⟨(hs.1 _ (jw_k6 147 rfl) rfl), List.forall_mem_cons.mpr ⟨(hs.1 _ (jw_k6 149 rfl) rfl), List.forall_mem_cons.mpr ⟨(hs.1 _ (jw_k6 151 rfl) rfl), List.forall_mem_cons.mpr ⟨(hs.1 _ (jw_k6 153 rfl) rfl), List.forall_mem_cons.mpr ⟨(hs.1 _ (jw_k6 155 rfl) rfl), List.forall_mem_cons.mpr ⟨(hs.1 _ (jw_k6 157 rfl) rfl), List.forall_mem_cons.mpr ⟨(hs.1 _ (jw_k6 159 rfl) rfl), List.forall_mem_cons.mpr ⟨(hs.1 _ (jw_k6 161 rfl) rfl), List.forall_mem_cons.mpr ⟨(hs.1 _ (jw_k6 163 rfl) rfl), List.forall_mem_cons.mpr ⟨(hs.1 _ (jw_k6 165 rfl) rfl), List.forall_mem_cons.mpr ⟨(hs.1 _ (jw_k6 167 rfl) rfl), List.forall_mem_cons.mpr ⟨(hs.1 _ (jw_k6 169 rfl) rfl), List.forall_mem_cons.mpr ⟨(hs.1 _ (jw_k6 171 rfl) rfl), List.forall_mem_cons.mpr ⟨(hs.1 _ (jw_k6 173 rfl) rfl), List.forall_mem_cons.mpr ⟨(hs.1 _ (jw_k6 175 rfl) rfl), List.forall_mem_cons.mpr ⟨(hs.1 _ (jw_k6 177 rfl) rfl), List.forall_mem_cons.mpr ⟨(hs.1 _ (jw_k6 179 rfl) rfl), List.forall_mem_cons.mpr ⟨(hs.1 _ (jw_k6 181 rfl) rfl), List.forall_mem_cons.mpr ⟨(hs.1 _ (jw_k6 183 rfl) rfl), List.forall_mem_cons.mpr ⟨(hs.1 _ (jw_k6 185 rfl) rfl), List.forall_mem_cons.mpr ⟨(hs.1 _ (jw_k6 187 rfl) rfl), fun _ h => absurd h List.not_mem_nil⟩⟩⟩⟩⟩⟩⟩⟩⟩⟩⟩⟩⟩⟩⟩⟩⟩⟩⟩⟩⟩⟩⟩⟩⟩⟩⟩⟩⟩⟩⟩⟩⟩⟩⟩⟩⟩⟩⟩⟩⟩⟩⟩⟩⟩⟩⟩, 47, hs.1 _ (jw_k6 39 rfl) rfl⟩
  | n + 17, h0, _ => exact absurd h0 (by omega)
theorem jw_known (hs : jw_H s) : ∃ f : Nat → ClassId × (Nat → Nat), ∀ (ci : Nat) (r : vw_C), ci < 17 → jw_cl[ci]? = some r → u_Kn s r.1 r.2.1 r.2.2 (f ci).1 (f ci).2 := by
  have h : ∀ ci : Nat, ∃ q : ClassId × (Nat → Nat), ∀ r : vw_C, ci < 17 → jw_cl[ci]? = some r → u_Kn s r.1 r.2.1 r.2.2 q.1 q.2 := by
    intro ci
    by_cases h0 : ci < 17
    · have hcl : ci < jw_cl.length := Nat.lt_of_lt_of_le h0 (by decide)
      obtain ⟨h1, n, h2⟩ := jw_uws hs ci _ h0 (List.getElem?_eq_getElem hcl)
      obtain ⟨cC, iS, hk⟩ := u_known (ws := u_ws jw_cl[ci].1 jw_cl[ci].2.1 jw_cl[ci].2.2) (args := #[]) (fun w hw => h1 w hw #[]) (fun _ hw => hw) (h2 #[])
      refine ⟨(cC, iS), fun r _ hr => ?_⟩
      rw [List.getElem?_eq_getElem hcl] at hr
      cases hr
      exact hk
    · exact ⟨(0, fun _ => 0), fun r hh => absurd hh h0⟩
  obtain ⟨f, hf⟩ := Classical.axiomOfChoice h
  exact ⟨f, fun ci r => hf ci r⟩
theorem jw_arrs (hs : jw_H s) : ∃ f : Nat → ClassId, ∀ (t : Nat) (ty : FieldType), t < 100 → jw_ty t = some ty → ArrOfT s (f t) ty ∧ va_RA s (f t) ty := by
  have prim : ∀ ty : FieldType, (∀ C, ty ≠ .object C) → jx_w (.arrayClass ty) s → ∃ c : ClassId, ArrOfT s c ty ∧ va_RA s c ty := by
    intro ty hty hw
    obtain ⟨c, k, comp, h1, h2, h3⟩ := Cond.arrayClass_spec (hw #[])
    refine ⟨c, fun n z => ⟨fun k h => (by cases h), k, h2, comp, h3⟩, ?_⟩
    cases ty <;> first | exact h1 | exact absurd rfl (hty _)
  have obj : ∀ C : String, jx_w (.arrayOver (.object C)) s → ∃ c : ClassId, ArrOfT s c (.object C) ∧ va_RA s c (.object C) := by
    intro C hw
    obtain ⟨comp, c, k, h1, h2, h3, h4, h5⟩ := Cond.arrayOver_spec (hw #[])
    exact ⟨c, fun n z => ⟨fun k h => (by cases h), k, h3, comp, h4⟩, k, comp, h3, h4, h1, h5⟩
  have h : ∀ t : Nat, ∃ c : ClassId, ∀ ty : FieldType, t < 100 → jw_ty t = some ty → ArrOfT s c ty ∧ va_RA s c ty := by
    intro t
    match t with
    | 0 => obtain ⟨c, hc⟩ := prim .int (fun _ h => by cases h) (hs.1 _ (jw_mem 1390 (by decide +kernel)) rfl); exact ⟨c, fun ty _ h => by cases h; exact hc⟩
    | 1 => obtain ⟨c, hc⟩ := prim .long (fun _ h => by cases h) (hs.1 _ (jw_mem 1391 (by decide +kernel)) rfl); exact ⟨c, fun ty _ h => by cases h; exact hc⟩
    | 2 => obtain ⟨c, hc⟩ := prim .char (fun _ h => by cases h) (hs.1 _ (jw_mem 82 (by decide +kernel)) rfl); exact ⟨c, fun ty _ h => by cases h; exact hc⟩
    | 3 => obtain ⟨c, hc⟩ := prim .byte (fun _ h => by cases h) (hs.1 _ (jw_mem 83 (by decide +kernel)) rfl); exact ⟨c, fun ty _ h => by cases h; exact hc⟩
    | 4 => obtain ⟨c, hc⟩ := obj "PickDesk$Value" (hs.2 _ (jw_mem 135 (by decide +kernel))); exact ⟨c, fun ty _ h => by cases h; exact hc⟩
    | 5 => obtain ⟨c, hc⟩ := obj "PickDesk$Query" (hs.2 _ (jw_mem 196 (by decide +kernel))); exact ⟨c, fun ty _ h => by cases h; exact hc⟩
    | 6 => obtain ⟨c, hc⟩ := obj "java/lang/Object" (hs.2 _ (jw_mem 928 (by decide +kernel))); exact ⟨c, fun ty _ h => by cases h; exact hc⟩
    | n + 7 =>
      refine ⟨0, fun ty hlt h => ?_⟩
      unfold jw_ty at h
      rw [if_neg (by omega)] at h
      have := (List.getElem?_eq_some_iff.mp h).1
      simp [jw_tyL] at this
      exact absurd this (by omega)
  obtain ⟨f, hf⟩ := Classical.axiomOfChoice h
  exact ⟨f, fun t ty => hf t ty⟩
end JWE
