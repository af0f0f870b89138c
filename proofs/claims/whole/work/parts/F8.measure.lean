/-! ===== how long, how deep, how plain a value is ===== -/
def vl (v : vT) : Nat := (wV v.1 v.2).length
def lw (l : List vT) : Nat := (l.map fun v => vl v + 1).sum
theorem lw_cons (v : vT) (l : List vT) : lw (v :: l) = vl v + 1 + lw l := by
  unfold lw
  rw [List.map_cons, List.sum_cons]
theorem lw_app (a b : List vT) : lw (a ++ b) = lw a + lw b := by
  unfold lw
  rw [List.map_append, List.sum_append]
theorem lw_sub {a b : List vT} (h : a.Sublist b) : lw a ≤ lw b := by
  induction h with
  | slnil => exact Nat.le_refl _
  | cons v _ ih => rw [lw_cons]; omega
  | cons_cons v _ ih => rw [lw_cons, lw_cons]; omega
theorem lw_rev : ∀ a : List vT, lw a.reverse = lw a
  | [] => rfl
  | v :: l => by
    rw [List.reverse_cons, lw_app, lw_rev l, lw_cons, lw_cons]
    show lw l + (vl v + 1 + 0) = _
    omega
theorem lw_mem : ∀ (l : List vT) (v : vT), v ∈ l → vl v + 1 ≤ lw l
  | [], v, h => absurd h List.not_mem_nil
  | a :: l, v, h => by
    rw [lw_cons]
    rcases List.mem_cons.mp h with rfl | h
    · omega
    · have := lw_mem l v h
      omega
theorem lw_fm {f : vT → Option vT} : ∀ l : List vT, (∀ v ∈ l, ∀ w, f v = some w → vl w ≤ vl v) → lw (l.filterMap f) ≤ lw l
  | [], _ => Nat.le_refl _
  | v :: l, h => by
    have ih := lw_fm (f := f) l fun x hx => h x (List.mem_cons_of_mem _ hx)
    rw [List.filterMap_cons, lw_cons]
    cases hv : f v with
    | none =>
      show lw (l.filterMap f) ≤ _
      omega
    | some w =>
      have := h v (List.mem_cons_self ..) w hv
      show lw (w :: l.filterMap f) ≤ _
      rw [lw_cons]
      omega
theorem wF_c (ob first : Bool) (s : Nat) (i : tI) (u : Unit) (c n : FT) : (wF ob first (.inner s i u c n)).length = (bif first then 0 else 1) + (bif ob then i.2.2.2.length + 1 else 0) + vl (i, c) + (wF ob false n).length := by
  show ((bif first then [] else [44]) ++ ((bif ob then i.2.2.2 ++ [58] else []) ++ (wL i ++ ((if 5 ≤ i.1 then wF (decide (i.1 = 6)) true c ++ [wC i] else []) ++ wF ob false n)))).length = _
  unfold vl wV
  cases first <;> cases ob <;> simp only [cond, List.length_append, List.length_cons, List.length_nil] <;> omega
theorem wF_t (ob : Bool) : ∀ F : FT, (wF ob true F).length = (wF ob false F).length - 1
  | .leaf => rfl
  | .inner s i u c n => by
    rw [wF_c, wF_c]
    cases ob <;> simp only [cond] <;> omega
theorem wF_lw (ob : Bool) : ∀ F : FT, lw (sib F) ≤ (wF ob false F).length ∧ (ob = false → (wF ob false F).length = lw (sib F))
  | .leaf => ⟨Nat.le_refl _, fun _ => rfl⟩
  | .inner s i u c n => by
    have ih := wF_lw ob n
    rw [wF_c]
    show lw ((i, c) :: sib n) ≤ _ ∧ (ob = false → _ = lw ((i, c) :: sib n))
    rw [lw_cons]
    refine ⟨?_, fun h => ?_⟩
    · cases ob <;> simp only [cond] <;> omega
    · have h2 := ih.2 h
      subst h
      simp only [cond]
      omega
theorem wL_pos (i : tI) : 1 ≤ (wL i).length := by
  unfold wL dec
  repeat' split
  all_goals simp only [List.length_cons, List.length_append, List.length_nil, dgk_len]
  all_goals omega
theorem wL_5 {i : tI} (h : 5 ≤ i.1) : (wL i).length = 1 := by
  unfold wL
  rw [if_neg (by omega), if_neg (by omega), if_neg (by omega), if_neg (by omega), if_neg (by omega)]
  split
  · rfl
  · rfl
theorem vl_5 {i : tI} {F : FT} (h : 5 ≤ i.1) : vl (i, F) = 2 + ((wF (decide (i.1 = 6)) false F).length - 1) := by
  show (wL i ++ (if 5 ≤ i.1 then wF (decide (i.1 = 6)) true F ++ [wC i] else [])).length = _
  rw [if_pos h, List.length_append, wL_5 h, List.length_append, wF_t]
  simp only [List.length_cons, List.length_nil]
  omega
theorem vl_s {i : tI} {F : FT} (h : ¬ 5 ≤ i.1) : vl (i, F) = (wL i).length := by
  show (wL i ++ (if 5 ≤ i.1 then wF (decide (i.1 = 6)) true F ++ [wC i] else [])).length = _
  rw [if_neg h, List.append_nil]
theorem vl_ge {v : vT} (h : 5 ≤ v.1.1) : 2 + (lw (sib v.2) - 1) ≤ vl v := by
  have h1 := vl_5 (i := v.1) (F := v.2) h
  have h2 := (wF_lw (decide (v.1.1 = 6)) v.2).1
  have h1 : vl v = _ := h1
  omega
theorem lw_fl : ∀ l : List vT, lw (sib (fl l)) = lw l
  | [] => rfl
  | (i, c) :: l => by
    show lw ((wk i [], c) :: sib (fl l)) = _
    rw [lw_cons, lw_cons, lw_fl l]
    rfl
theorem vl_lsV (l : List vT) : vl (lsV l) = 2 + (lw l - 1) := by
  have h := vl_5 (i := (5, 0, [], [])) (F := fl l) (by show (5 : Int) ≤ 5; decide)
  have h2 := (wF_lw (decide ((5 : Int) = 6)) (fl l)).2 (by decide)
  rw [lw_fl] at h2
  have h : vl (lsV l) = 2 + ((wF (decide ((5 : Int) = 6)) false (fl l)).length - 1) := h
  rw [h, h2]
/-- only a number has a number, only a text has letters, only a list or an object has something in it -/
def cnI (i : tI) (c : FT) : Prop := (¬ i.1 = 3 → i.2.1 = 0) ∧ (¬ i.1 = 4 → i.2.2.1 = []) ∧ (i.1 < 5 → c = .leaf)
def cnF : FT → Prop
  | .leaf => True
  | .inner _ i _ c n => cnI i c ∧ cnF c ∧ cnF n
def cnV (v : vT) : Prop := cnI v.1 v.2 ∧ cnF v.2
def fdp : FT → Nat
  | .leaf => 0
  | .inner _ _ _ c n => max (1 + fdp c) (fdp n)
theorem cn_sib : ∀ F : FT, cnF F → ∀ v ∈ sib F, cnV v
  | .leaf, _, v, h => absurd h List.not_mem_nil
  | .inner _ i _ c n, hF, v, h => by
    rcases List.mem_cons.mp h with rfl | h
    · exact ⟨hF.1, hF.2.1⟩
    · exact cn_sib n hF.2.2 v h
theorem fdp_sib : ∀ (F : FT) (v : vT), v ∈ sib F → 1 + fdp v.2 ≤ fdp F
  | .leaf, v, h => absurd h List.not_mem_nil
  | .inner _ i _ c n, v, h => by
    show _ ≤ max (1 + fdp c) (fdp n)
    rcases List.mem_cons.mp h with rfl | h
    · exact Nat.le_max_left _ _
    · exact Nat.le_trans (fdp_sib n v h) (Nat.le_max_right _ _)
theorem cn_fl : ∀ l : List vT, (∀ v ∈ l, cnV v) → cnF (fl l)
  | [], _ => trivial
  | (i, c) :: l, h => by
    obtain ⟨h1, h2⟩ := h (i, c) (List.mem_cons_self ..)
    exact ⟨h1, h2, cn_fl l fun v hv => h v (List.mem_cons_of_mem _ hv)⟩
theorem fdp_fl (D : Nat) : ∀ l : List vT, (∀ v ∈ l, 1 + fdp v.2 ≤ D) → fdp (fl l) ≤ D
  | [], _ => Nat.zero_le _
  | (i, c) :: l, h => by
    show max (1 + fdp c) (fdp (fl l)) ≤ D
    exact Nat.max_le.mpr ⟨h (i, c) (List.mem_cons_self ..), fdp_fl D l fun v hv => h v (List.mem_cons_of_mem _ hv)⟩
theorem cn_lsV {l : List vT} (h : ∀ v ∈ l, cnV v) : cnV (lsV l) := ⟨⟨fun _ => rfl, fun _ => rfl, fun z => absurd z (by show ¬ (5 : Int) < 5; decide)⟩, cn_fl l h⟩
theorem vl_pos (v : vT) : 1 ≤ vl v := by
  have h : vl v = (wL v.1 ++ (if 5 ≤ v.1.1 then wF (decide (v.1.1 = 6)) true v.2 ++ [wC v.1] else [])).length := rfl
  have h2 := wL_pos v.1
  rw [h, List.length_append]
  omega
theorem fct_wF (ob : Bool) : ∀ F : FT, cnF F → 2 * fct F ≤ (wF ob false F).length
  | .leaf, _ => Nat.le_refl _
  | .inner s i u c n, h => by
    obtain ⟨h1, h2, h3⟩ := h
    have ihn := fct_wF ob n h3
    have ihc := fct_wF (decide (i.1 = 6)) c h2
    have hv : 1 + 2 * fct c ≤ vl (i, c) := by
      by_cases h5 : 5 ≤ i.1
      · rw [vl_5 h5]
        omega
      · have hc := h1.2.2 (by omega)
        rw [hc]
        exact vl_pos _
    rw [wF_c]
    show 2 * (1 + fct c + fct n) ≤ _
    cases ob <;> simp only [cond] <;> omega
theorem fct_vl {v : vT} (h : cnV v) : 1 + 2 * fct v.2 ≤ vl v := by
  by_cases h5 : 5 ≤ v.1.1
  · have h1 : vl v = _ := vl_5 (i := v.1) (F := v.2) h5
    have h2 := fct_wF (decide (v.1.1 = 6)) v.2 h.2
    omega
  · have hc := h.1.2.2 (by omega)
    rw [hc]
    exact vl_pos v
/-- w is no longer, no deeper than v -/
def lsI (v w : vT) : Prop := cnV w ∧ fdp w.2 ≤ fdp v.2 ∧ vl w ≤ vl v
theorem sib_I {v w : vT} (h5 : 5 ≤ v.1.1) (hv : cnV v) (h : w ∈ sib v.2) : lsI v w := by
  have h1 := lw_mem _ _ h
  have h2 := vl_ge h5
  have h3 := fdp_sib _ _ h
  exact ⟨cn_sib _ hv.2 w h, by omega, by omega⟩
theorem fget_mem {s : List Int} : ∀ (F : FT) (y : vT), fget s F = some y → y ∈ sib F
  | .leaf, y, h => by cases h
  | .inner _ i _ c n, y, h => by
    have h : (if i.2.2.2 = s then some (i, c) else fget s n) = some y := h
    show y ∈ (i, c) :: sib n
    by_cases hs : i.2.2.2 = s
    · rw [if_pos hs] at h
      cases h
      exact List.mem_cons_self ..
    · rw [if_neg hs] at h
      exact List.mem_cons_of_mem _ (fget_mem n y h)
theorem pck_I {e : sE} {v w : vT} (hv : cnV v) (h : pckS e v = some w) : lsI v w := by
  unfold pckS at h
  split at h
  · unfold vget at h
    split at h
    · exact sib_I (by omega) hv (fget_mem _ _ h)
    · cases h
  · unfold idxS at h
    split at h
    · rename_i h5
      exact sib_I (by have := h5.1; omega) hv (List.mem_of_getElem? h)
    · cases h
theorem slS_lw {p : Int × Int × Int × Int} (hp : ¬ slC p = 0) (F : FT) : lw (slS p F) ≤ lw (sib F) := by
  have ha := slA_r p (n := fsz F) (by omega)
  have hb := slB_r p (n := fsz F) (by omega)
  unfold slLo slHi at ha hb
  unfold slS
  by_cases hc : 0 < slC p
  · rw [if_pos hc] at ha hb
    exact lw_sub ((slI_up hc (sib F) _ _ ha.1).trans (List.drop_sublist _ _))
  · rw [if_neg hc] at ha hb
    rw [← lw_rev]
    exact lw_sub ((slI_dn (by omega) hb.1 (sib F) _ _ ha.1).trans (List.take_sublist _ _))
theorem flat_lw : ∀ l : List vT, lw (l.flatMap fun v => if v.1.1 = 5 then sib v.2 else [v]) ≤ lw l
  | [] => Nat.le_refl _
  | v :: l => by
    have ih := flat_lw l
    rw [List.flatMap_cons, lw_app, lw_cons]
    have : lw (if v.1.1 = 5 then sib v.2 else [v]) ≤ vl v + 1 := by
      by_cases h5 : v.1.1 = 5
      · rw [if_pos h5]
        have := vl_ge (v := v) (by omega)
        omega
      · rw [if_neg h5, lw_cons]
        show vl v + 1 + 0 ≤ _
        omega
    omega
theorem selS_lw {e : sE} (he : eok1 e) (F : FT) : lw (selS e F) ≤ lw (sib F) := by
  unfold selS
  split
  · exact lw_sub List.filter_sublist
  · split
    · rename_i h5
      exact slS_lw (he.2.2 h5) F
    · split
      · exact flat_lw _
      · exact Nat.le_refl _
theorem selS_I {e : sE} {F : FT} (hF : cnF F) {v : vT} (h : v ∈ selS e F) : cnV v ∧ 1 + fdp v.2 ≤ fdp F := by
  have hs : ∀ v ∈ sib F, cnV v ∧ 1 + fdp v.2 ≤ fdp F := fun v hv => ⟨cn_sib F hF v hv, fdp_sib F v hv⟩
  unfold selS at h
  split at h
  · exact hs v (List.mem_filter.mp h).1
  · split at h
    · exact hs v (slS_mem h)
    · split at h
      · unfold flatS at h
        obtain ⟨u, hu, hv⟩ := List.mem_flatMap.mp h
        split at hv
        · have h1 := hs u hu
          have h2 := fdp_sib _ _ hv
          exact ⟨cn_sib _ h1.1.2 v hv, by omega⟩
        · rw [List.mem_singleton.mp hv]
          exact hs u hu
      · exact hs v h
theorem evS_I : ∀ (l : List sE) (v w : vT), (∀ e ∈ l, eok1 e) → cnV v → evS l v = some w → lsI v w
  | [], v, w, _, hv, h => by
    cases h
    exact ⟨hv, Nat.le_refl _, Nat.le_refl _⟩
  | e :: l, v, w, he, hv, h => by
    have hl : ∀ e ∈ l, eok1 e := fun x hx => he x (List.mem_cons_of_mem _ hx)
    by_cases h1 : e.1 ≤ 1
    · rw [evS_pck h1] at h
      cases hp : pckS e v with
      | none =>
        rw [hp] at h
        cases h
      | some u =>
        rw [hp] at h
        obtain ⟨p1, p2, p3⟩ := pck_I hv hp
        obtain ⟨q1, q2, q3⟩ := evS_I l u w hl p1 h
        exact ⟨q1, by omega, by omega⟩
    · rw [evS_prj h1] at h
      unfold prS at h
      split at h
      · rename_i hf
        cases h
        have h5 : 5 ≤ v.1.1 := by
          have := of_decide_eq_true hf
          rw [this]
          split
          · decide
          · decide
        have hm : ∀ u ∈ (selS e v.2).filterMap (fun w => nnO (evS l w)), cnV u ∧ 1 + fdp u.2 ≤ fdp v.2 := fun u hu => by
          obtain ⟨x, hx1, hx2⟩ := List.mem_filterMap.mp hu
          obtain ⟨s1, s2⟩ := selS_I hv.2 hx1
          obtain ⟨q1, q2, q3⟩ := evS_I l x u hl s1 (nnO_some hx2)
          exact ⟨q1, by omega⟩
        refine ⟨cn_lsV fun u hu => (hm u hu).1, fdp_fl _ _ fun u hu => (hm u hu).2, ?_⟩
        rw [vl_lsV]
        have k1 : lw ((selS e v.2).filterMap (fun w => nnO (evS l w))) ≤ lw (selS e v.2) := lw_fm _ fun x hx y hy => (evS_I l x y hl (selS_I hv.2 hx).1 (nnO_some hy)).2.2
        have k2 := selS_lw (he e (List.mem_cons_self ..)) v.2
        have k3 := vl_ge h5
        omega
      · cases h
theorem evT_I (D W : Nat) : ∀ (l acc : List sE) (x : Option vT) (w : vT), (∀ e ∈ l, eok1 e) → (∀ e ∈ acc, eok1 e) → (∀ v, x = some v → cnV v ∧ fdp v.2 ≤ D ∧ vl v ≤ W) → evT x acc l = some w → cnV w ∧ fdp w.2 ≤ D ∧ vl w ≤ W := by
  have hb : ∀ (acc : List sE) (x : Option vT), (∀ e ∈ acc, eok1 e) → (∀ v, x = some v → cnV v ∧ fdp v.2 ≤ D ∧ vl v ≤ W) → ∀ w, x.bind (evS acc) = some w → cnV w ∧ fdp w.2 ≤ D ∧ vl w ≤ W := fun acc x ha hx w h => by
    cases x with
    | none => cases h
    | some v =>
      obtain ⟨h1, h2, h3⟩ := hx v rfl
      obtain ⟨q1, q2, q3⟩ := evS_I acc v w ha h1 h
      exact ⟨q1, by omega, by omega⟩
  intro l
  induction l with
  | nil => intro acc x w _ ha hx h; exact hb acc x ha hx w h
  | cons e l ih =>
    intro acc x w hl ha hx h
    have h : (if e.1 = 6 then evT (x.bind (evS acc)) [e] l else evT x (acc ++ [e]) l) = some w := h
    have he := hl e (List.mem_cons_self ..)
    have hl2 : ∀ e ∈ l, eok1 e := fun y hy => hl y (List.mem_cons_of_mem _ hy)
    split at h
    · refine ih [e] (x.bind (evS acc)) w hl2 (fun y hy => ?_) (hb acc x ha hx) h
      rw [List.mem_singleton.mp hy]
      exact he
    · refine ih (acc ++ [e]) x w hl2 (fun y hy => ?_) hx h
      rcases List.mem_append.mp hy with hy | hy
      · exact ha y hy
      · rw [List.mem_singleton.mp hy]
        exact he
