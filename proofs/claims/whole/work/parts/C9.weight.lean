/-! ===== no step makes a value heavier ===== -/
def wS (l : List vT) : Nat := (l.map fun v => 1 + fct v.2).sum
theorem wS_nil : wS [] = 0 := rfl
theorem wS_cons (v : vT) (l : List vT) : wS (v :: l) = 1 + fct v.2 + wS l := by
  unfold wS
  rw [List.map_cons, List.sum_cons]
theorem wS_app (a b : List vT) : wS (a ++ b) = wS a + wS b := by
  unfold wS
  rw [List.map_append, List.sum_append]
theorem wS_len : ∀ l : List vT, l.length ≤ wS l
  | [] => Nat.le_refl 0
  | v :: l => by
    have := wS_len l
    rw [wS_cons, List.length_cons]
    omega
theorem wS_sib : ∀ F : FT, wS (sib F) = fct F
  | .leaf => rfl
  | .inner _ i _ c n => by
    show wS ((i, c) :: sib n) = 1 + fct c + fct n
    rw [wS_cons, wS_sib n]
theorem wS_sub {a b : List vT} (h : a.Sublist b) : wS a ≤ wS b := by
  induction h with
  | slnil => exact Nat.le_refl _
  | cons v _ ih => rw [wS_cons]; omega
  | cons_cons v _ ih => rw [wS_cons, wS_cons]; omega
theorem wS_rev (a : List vT) : wS a.reverse = wS a := by
  induction a with
  | nil => rfl
  | cons v a ih =>
    rw [List.reverse_cons, wS_app, ih, wS_cons, wS_cons, wS_nil]
    omega
theorem fct_fl : ∀ l : List vT, fct (fl l) = wS l
  | [] => rfl
  | (i, c) :: l => by
    show 1 + fct c + fct (fl l) = _
    rw [fct_fl l, wS_cons]
def vok (v : vT) : Prop := iok v.1 ∧ fwf v.2
theorem sib_ok : ∀ F : FT, fwf F → ∀ v ∈ sib F, vok v
  | .leaf, _, v, h => absurd h List.not_mem_nil
  | .inner _ i _ c n, hw, v, h => by
    rcases List.mem_cons.mp h with rfl | h
    · exact ⟨hw.1, hw.2.1⟩
    · exact sib_ok n hw.2.2 v h
theorem sib_ct : ∀ F : FT, ∀ v ∈ sib F, fct v.2 + 1 ≤ fct F
  | .leaf, v, h => absurd h List.not_mem_nil
  | .inner _ i _ c n, v, h => by
    show fct v.2 + 1 ≤ 1 + fct c + fct n
    rcases List.mem_cons.mp h with rfl | h
    · show fct c + 1 ≤ _
      omega
    · have := sib_ct n v h
      omega
theorem fl_ok : ∀ l : List vT, (∀ v ∈ l, vok v) → fwf (fl l)
  | [], _ => trivial
  | (i, c) :: l, h => by
    obtain ⟨⟨h1, h2, h3, h4, h5⟩, h6⟩ := h (i, c) List.mem_cons_self
    exact ⟨⟨h1, h2, h3, h4, tx_nil⟩, h6, fl_ok l fun v hv => h v (List.mem_cons_of_mem _ hv)⟩
theorem lsV_ok {l : List vT} (h : ∀ v ∈ l, vok v) : vok (lsV l) := ⟨⟨by show (0 : Int) ≤ 5; decide, by show (5 : Int) ≤ 6; decide, mr0, tx_nil, tx_nil⟩, fl_ok l h⟩
/-! slices -/
theorem slI_up {c b : Int} (hc : 0 < c) (L : List vT) : ∀ (f : Nat) (k : Int), 0 ≤ k → ((slI c b f k).filterMap fun j => L[j.toNat]?).Sublist (L.drop k.toNat)
  | 0, k, _ => List.nil_sublist _
  | f + 1, k, h0 => by
    show ((if (0 < c ∧ k < b) ∨ (c ≤ 0 ∧ b < k) then k :: slI c b f (k + c) else []).filterMap _).Sublist _
    split
    · have ih := slI_up (b := b) hc L f (k + c) (by omega)
      have h2 : (L.drop (k + c).toNat).Sublist (L.drop (k.toNat + 1)) := List.drop_sublist_drop_left L (by omega)
      rw [List.filterMap_cons]
      cases hk : L[k.toNat]? with
      | none => exact (ih.trans h2).trans (List.drop_sublist_drop_left L (by omega))
      | some v =>
        obtain ⟨hlt, hv⟩ := List.getElem?_eq_some_iff.mp hk
        rw [List.drop_eq_getElem_cons hlt, hv]
        exact (ih.trans h2).cons_cons v
    · exact List.nil_sublist _
theorem slI_dn {c b : Int} (hc : c < 0) (hb : -1 ≤ b) (L : List vT) : ∀ (f : Nat) (k : Int), -1 ≤ k → ((slI c b f k).filterMap fun j => L[j.toNat]?).reverse.Sublist (L.take (k + 1).toNat)
  | 0, k, _ => List.nil_sublist _
  | f + 1, k, h0 => by
    show ((if (0 < c ∧ k < b) ∨ (c ≤ 0 ∧ b < k) then k :: slI c b f (k + c) else []).filterMap _).reverse.Sublist _
    split
    next hcond =>
      have hk0 : 0 ≤ k := by omega
      rw [List.filterMap_cons]
      have hr : ((slI c b f (k + c)).filterMap fun j => L[j.toNat]?).reverse.Sublist (L.take k.toNat) := by
        by_cases hkc : -1 ≤ k + c
        · refine (slI_dn hc hb L f (k + c) hkc).trans ?_
          exact List.take_sublist_take_left (by omega)
        · have : slI c b f (k + c) = [] := by
            cases f with
            | zero => rfl
            | succ f =>
              show (if (0 < c ∧ k + c < b) ∨ (c ≤ 0 ∧ b < k + c) then _ else []) = []
              rw [if_neg (by omega)]
          rw [this]
          exact List.nil_sublist _
      cases hk : L[k.toNat]? with
      | none => exact hr.trans (List.take_sublist_take_left (by omega))
      | some v =>
        rw [List.reverse_cons]
        have e : L.take (k + 1).toNat = L.take k.toNat ++ [v] := by
          rw [show (k + 1).toNat = k.toNat + 1 by omega, List.take_succ, hk]
          rfl
        rw [e]
        exact hr.append (List.Sublist.refl _)
    · exact List.nil_sublist _
theorem clp_r {lo hi x : Int} (h : lo ≤ hi) : lo ≤ clp lo hi x ∧ clp lo hi x ≤ hi := by
  unfold clp
  split
  · exact ⟨Int.le_refl _, h⟩
  · split
    · exact ⟨h, Int.le_refl _⟩
    · exact ⟨by omega, by omega⟩
theorem slA_r (p : Int × Int × Int × Int) {n : Int} (hn : 0 ≤ n) : slLo (slC p) ≤ slA p n ∧ slA p n ≤ slHi (slC p) n := by
  have h : slLo (slC p) ≤ slHi (slC p) n := by
    unfold slLo slHi
    split <;> omega
  unfold slA
  exact clp_r h
theorem slB_r (p : Int × Int × Int × Int) {n : Int} (hn : 0 ≤ n) : slLo (slC p) ≤ slB p n ∧ slB p n ≤ slHi (slC p) n := by
  have h : slLo (slC p) ≤ slHi (slC p) n := by
    unfold slLo slHi
    split <;> omega
  unfold slB
  exact clp_r h
theorem slS_w {p : Int × Int × Int × Int} (hp : ¬ slC p = 0) (F : FT) : wS (slS p F) ≤ fct F := by
  have ha := slA_r p (n := fsz F) (by omega)
  have hb := slB_r p (n := fsz F) (by omega)
  unfold slLo slHi at ha hb
  unfold slS
  rw [← wS_sib F]
  by_cases hc : 0 < slC p
  · rw [if_pos hc] at ha hb
    exact wS_sub ((slI_up hc (sib F) _ _ ha.1).trans (List.drop_sublist _ _))
  · rw [if_neg hc] at ha hb
    rw [← wS_rev]
    exact wS_sub ((slI_dn (by omega) hb.1 (sib F) _ _ ha.1).trans (List.take_sublist _ _))
theorem slS_mem {p : Int × Int × Int × Int} {F : FT} {v : vT} (h : v ∈ slS p F) : v ∈ sib F := by
  unfold slS at h
  obtain ⟨k, -, hk⟩ := List.mem_filterMap.mp h
  exact List.mem_of_getElem? hk
theorem flat_w : ∀ l : List vT, wS (l.flatMap fun v => if v.1.1 = 5 then sib v.2 else [v]) ≤ wS l
  | [] => Nat.le_refl 0
  | v :: l => by
    have ih := flat_w l
    rw [List.flatMap_cons, wS_app, wS_cons]
    split
    · rw [wS_sib]
      omega
    · rw [wS_cons, wS_nil]
      omega
/-- what a step must be like -/
def eok1 (e : sE) : Prop := 0 ≤ e.1 ∧ e.1 ≤ 6 ∧ (e.1 = 5 → ¬ slC e.2.2.1 = 0)
theorem selS_w {e : sE} (he : eok1 e) (F : FT) : wS (selS e F) ≤ fct F := by
  unfold selS
  split
  · rw [← wS_sib F]
    exact wS_sub List.filter_sublist
  · split
    next h5 => exact slS_w (he.2.2 h5) F
    · split
      · rw [← wS_sib F]
        exact flat_w _
      · rw [wS_sib]
        exact Nat.le_refl _
theorem selS_ok {e : sE} {F : FT} (hw : fwf F) {v : vT} (h : v ∈ selS e F) : vok v := by
  unfold selS at h
  split at h
  · exact sib_ok F hw v (List.mem_filter.mp h).1
  · split at h
    · exact sib_ok F hw v (slS_mem h)
    · split at h
      · unfold flatS at h
        obtain ⟨w, hw1, hw2⟩ := List.mem_flatMap.mp h
        have := sib_ok F hw w hw1
        split at hw2
        · exact sib_ok w.2 this.2 v hw2
        · rcases List.mem_cons.mp hw2 with rfl | z
          · exact this
          · exact absurd z List.not_mem_nil
      · exact sib_ok F hw v h
theorem nnO_some {x : Option vT} {w : vT} (h : nnO x = some w) : x = some w := by
  cases x with
  | none => cases h
  | some v =>
    have h : (if v.1.1 = 0 then none else some v) = some w := h
    split at h
    · cases h
    · exact h
theorem wS_fm {f : vT → Option vT} : ∀ l : List vT, (∀ v ∈ l, ∀ w, f v = some w → fct w.2 ≤ fct v.2) → wS (l.filterMap f) ≤ wS l
  | [], _ => Nat.le_refl 0
  | v :: l, h => by
    have ih := wS_fm l fun u hu => h u (List.mem_cons_of_mem _ hu)
    rw [List.filterMap_cons, wS_cons]
    cases hv : f v with
    | none =>
      show wS (l.filterMap f) ≤ _
      omega
    | some w =>
      have := h v List.mem_cons_self w hv
      show wS (w :: l.filterMap f) ≤ _
      rw [wS_cons]
      omega
theorem pckS_ok {e : sE} {v w : vT} (hv : vok v) (h : pckS e v = some w) : vok w ∧ fct w.2 + 1 ≤ fct v.2 := by
  unfold pckS at h
  split at h
  · refine ⟨?_, vget_ct (j := w.1) (E := w.2) h⟩
    unfold vget at h
    split at h
    · exact fget_ok v.2 w.1 w.2 hv.2 h
    · cases h
  · unfold idxS at h
    split at h
    · have hm := List.mem_of_getElem? h
      exact ⟨sib_ok v.2 hv.2 w hm, sib_ct v.2 w hm⟩
    · cases h
theorem evS_ok : ∀ (l : List sE) (v w : vT), (∀ e ∈ l, eok1 e) → vok v → evS l v = some w → vok w ∧ fct w.2 ≤ fct v.2
  | [], v, w, _, hv, h => by
    cases h
    exact ⟨hv, Nat.le_refl _⟩
  | e :: l, v, w, he, hv, h => by
    have hl : ∀ e ∈ l, eok1 e := fun x hx => he x (List.mem_cons_of_mem _ hx)
    by_cases h1 : e.1 ≤ 1
    · rw [evS_pck h1] at h
      cases hp : pckS e v with
      | none =>
        rw [hp] at h
        cases h
      | some u =>
        rw [hp] at h
        obtain ⟨p1, p2⟩ := pckS_ok hv hp
        obtain ⟨q1, q2⟩ := evS_ok l u w hl p1 h
        exact ⟨q1, by omega⟩
    · rw [evS_prj h1] at h
      unfold prS at h
      split at h
      · cases h
        refine ⟨lsV_ok fun u hu => ?_, ?_⟩
        · obtain ⟨x, hx1, hx2⟩ := List.mem_filterMap.mp hu
          exact (evS_ok l x u hl (selS_ok hv.2 hx1) (nnO_some hx2)).1
        · show fct (fl _) ≤ _
          rw [fct_fl]
          refine Nat.le_trans (wS_fm _ fun x hx y hy => ?_) (selS_w (he e List.mem_cons_self) v.2)
          exact (evS_ok l x y hl (selS_ok hv.2 hx) (nnO_some hy)).2
      · cases h
theorem evT_ok : ∀ (l acc : List sE) (x : Option vT) (w : vT) (D : Nat), (∀ e ∈ l, eok1 e) → (∀ e ∈ acc, eok1 e) → (∀ v, x = some v → vok v ∧ fct v.2 ≤ D) → evT x acc l = some w → vok w ∧ fct w.2 ≤ D
  | [], acc, x, w, D, _, ha, hx, h => by
    have h : x.bind (evS acc) = some w := h
    cases x with
    | none => cases h
    | some v =>
      obtain ⟨h1, h2⟩ := hx v rfl
      obtain ⟨q1, q2⟩ := evS_ok acc v w ha h1 h
      exact ⟨q1, by omega⟩
  | e :: l, acc, x, w, D, hl, ha, hx, h => by
    have h : (if e.1 = 6 then evT (x.bind (evS acc)) [e] l else evT x (acc ++ [e]) l) = some w := h
    have he := hl e List.mem_cons_self
    have hl2 : ∀ e ∈ l, eok1 e := fun y hy => hl y (List.mem_cons_of_mem _ hy)
    split at h
    · refine evT_ok l [e] (x.bind (evS acc)) w D hl2 (fun y hy => ?_) (fun v hv => ?_) h
      · rcases List.mem_cons.mp hy with rfl | z
        · exact he
        · exact absurd z List.not_mem_nil
      · cases x with
        | none => cases hv
        | some u =>
          obtain ⟨h1, h2⟩ := hx u rfl
          obtain ⟨q1, q2⟩ := evS_ok acc u v ha h1 hv
          exact ⟨q1, by omega⟩
    · refine evT_ok l (acc ++ [e]) x w D hl2 (fun y hy => ?_) hx h
      rcases List.mem_append.mp hy with hy | hy
      · exact ha y hy
      · rcases List.mem_cons.mp hy with rfl | z
        · exact he
        · exact absurd z List.not_mem_nil
