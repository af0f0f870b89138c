/-! ===== a query's steps and what they give of a value ===== -/
abbrev vT : Type := tI × FT
/-- a step: what (0 key, 1 index, 2 all, 3 values, 4 filter, 5 slice, 6 flat), key, (which numbers are said, three numbers), sign, sides -/
abbrev sE : Type := Int × List Int × (Int × Int × Int × Int) × Int × sD × sD
theorem fnth_sib : ∀ (F : FT) (k : Nat), fnth F k = (sib F)[k]?
  | .leaf, _ => rfl
  | .inner _ _ _ _ _, 0 => rfl
  | .inner _ _ _ _ n, k + 1 => fnth_sib n k
theorem sib_sz : ∀ F : FT, (sib F).length = fsz F
  | .leaf => rfl
  | .inner _ _ _ _ n => by
    show (sib n).length + 1 = fsz n + 1
    rw [sib_sz n]
def slI (c b : Int) : Nat → Int → List Int
  | 0, _ => []
  | f + 1, k => if (0 < c ∧ k < b) ∨ (c ≤ 0 ∧ b < k) then k :: slI c b f (k + c) else []
def slC (p : Int × Int × Int × Int) : Int := if 4 ≤ p.1 then p.2.2.2 else 1
def slLo (c : Int) : Int := if 0 < c then 0 else -1
def slHi (c n : Int) : Int := if 0 < c then n else n - 1
def clp (lo hi x : Int) : Int := if x < lo then lo else if hi < x then hi else x
def slA (p : Int × Int × Int × Int) (n : Int) : Int := clp (slLo (slC p)) (slHi (slC p) n) (if p.1 % 2 = 1 then (if p.2.1 < 0 then p.2.1 + n else p.2.1) else if 0 < slC p then slLo (slC p) else slHi (slC p) n)
def slB (p : Int × Int × Int × Int) (n : Int) : Int := clp (slLo (slC p)) (slHi (slC p) n) (if p.1 / 2 % 2 = 1 then (if p.2.2.1 < 0 then p.2.2.1 + n else p.2.2.1) else if 0 < slC p then slHi (slC p) n else slLo (slC p))
def slS (p : Int × Int × Int × Int) (F : FT) : List vT := (slI (slC p) (slB p (fsz F)) (fsz F + 1) (slA p (fsz F))).filterMap fun k => (sib F)[k.toNat]?
def flatS (F : FT) : List vT := (sib F).flatMap fun v => if v.1.1 = 5 then sib v.2 else [v]
def selS (e : sE) (F : FT) : List vT := if e.1 = 4 then (sib F).filter (fun v => holS e.2.2.2.1 e.2.2.2.2.1 e.2.2.2.2.2 v) else if e.1 = 5 then slS e.2.2.1 F else if e.1 = 6 then flatS F else sib F
def fitP (e : sE) (i : tI) : Bool := decide (i.1 = if e.1 = 3 then 6 else 5)
def nnO : Option vT → Option vT
  | some v => if v.1.1 = 0 then none else some v
  | none => none
def lsV (l : List vT) : vT := ((5, 0, [], []), fl l)
def idxK (n : Int) (m : Nat) : Int := if n < 0 then n + m else n
def idxS (n : Int) (v : vT) : Option vT := if v.1.1 = 5 ∧ 0 ≤ idxK n (fsz v.2) ∧ idxK n (fsz v.2) < fsz v.2 then (sib v.2)[(idxK n (fsz v.2)).toNat]? else none
def pckS (e : sE) (v : vT) : Option vT := if e.1 = 0 then vget e.2.1 v.1 v.2 else idxS e.2.2.1.2.1 v
def evS : List sE → vT → Option vT
  | [], v => some v
  | e :: l, v => if e.1 ≤ 1 then (pckS e v).bind (evS l) else if fitP e v.1 = true then some (lsV ((selS e v.2).filterMap fun w => nnO (evS l w))) else none
/-! level by level -/
abbrev lT : Type := Int × Option vT
def fitO (e : sE) : Option vT → Bool
  | none => false
  | some v => fitP e v.1
def selO (e : sE) : Option vT → List vT
  | none => []
  | some v => if fitP e v.1 = true then selS e v.2 else []
def prj (e : sE) : Int → List lT → List lT
  | _, [] => []
  | k, s :: l => ((selO e s.2).map fun w => (k, some w)) ++ prj e (k + 1) l
def clo1 (top : List lT) (k : Int) : List vT := (top.filter fun s => decide (s.1 = k)).filterMap fun s => nnO s.2
def clo (top : List lT) : Int → List (Int × Bool) → List lT
  | _, [] => []
  | k, s :: l => (s.1, if s.2 = true then some (lsV (clo1 top k)) else none) :: clo top (k + 1) l
def tot (bs : List (List (Int × Bool))) : Int := ((bs.map List.length).sum : Nat)
theorem tot_cons (b : List (Int × Bool)) (bs : List (List (Int × Bool))) : tot (b :: bs) = b.length + tot bs := by
  unfold tot
  rw [List.map_cons, List.sum_cons]
  omega
def clsA : List lT → List (List (Int × Bool)) → List lT
  | top, [] => top
  | top, b :: bs => clsA (clo top (tot bs) b) bs
def mapV (f : vT → Option vT) (top : List lT) : List lT := top.map fun s => (s.1, s.2.bind f)
def fitL (e : sE) (top : List lT) : List (Int × Bool) := top.map fun s => (s.1, fitO e s.2)
def prS (e : sE) (f : vT → Option vT) (v : vT) : Option vT := if fitP e v.1 = true then some (lsV ((selS e v.2).filterMap fun w => nnO (f w))) else none
theorem prj_ge (e : sE) : ∀ (l : List lT) (k : Int), ∀ s ∈ prj e k l, k ≤ s.1
  | [], k, s, h => absurd h List.not_mem_nil
  | a :: l, k, s, h => by
    rcases List.mem_append.mp h with h | h
    · obtain ⟨w, -, rfl⟩ := List.mem_map.mp h
      exact Int.le_refl _
    · have := prj_ge e l (k + 1) s h
      omega
theorem mapV_app (f : vT → Option vT) (a b : List lT) : mapV f (a ++ b) = mapV f a ++ mapV f b := List.map_append
theorem clo1_app (a b : List lT) (k : Int) : clo1 (a ++ b) k = clo1 a k ++ clo1 b k := by
  unfold clo1
  rw [List.filter_append, List.filterMap_append]
theorem clo1_ne {a : List lT} {k : Int} (h : ∀ s ∈ a, ¬ s.1 = k) : clo1 a k = [] := by
  unfold clo1
  rw [List.filter_eq_nil_iff.mpr (fun s hs z => h s hs (of_decide_eq_true z))]
  rfl
theorem clo1_blk (f : vT → Option vT) (k : Int) : ∀ l : List vT, clo1 (mapV f (l.map fun w => (k, some w))) k = l.filterMap fun w => nnO (f w)
  | [] => rfl
  | w :: l => by
    have ih := clo1_blk f k l
    have e : clo1 (mapV f ((w :: l).map fun w => (k, some w))) k = clo1 ((k, f w) :: mapV f (l.map fun w => (k, some w))) k := rfl
    rw [e]
    unfold clo1 at ih ⊢
    rw [List.filter_cons_of_pos (p := fun s : lT => decide (s.1 = k)) (a := (k, f w)) (decide_eq_true rfl), List.filterMap_cons, List.filterMap_cons]
    cases nnO (f w) with
    | none => exact ih
    | some y => exact congrArg (List.cons y) ih
theorem clo_prj (e : sE) (f : vT → Option vT) : ∀ (l : List lT) (k : Int) (pre : List lT), (∀ s ∈ pre, s.1 < k) → clo (pre ++ mapV f (prj e k l)) k (fitL e l) = mapV (prS e f) l
  | [], _, _, _ => rfl
  | a :: l, k, pre, hp => by
    have e1 : mapV f (prj e k (a :: l)) = mapV f ((selO e a.2).map fun w => (k, some w)) ++ mapV f (prj e (k + 1) l) := mapV_app f _ _
    have h1 : clo1 (pre ++ mapV f (prj e k (a :: l))) k = (selO e a.2).filterMap fun w => nnO (f w) := by
      rw [e1, clo1_app, clo1_app, clo1_ne (fun s hs z => by have := hp s hs; omega), clo1_blk, clo1_ne (a := mapV f (prj e (k + 1) l)) (fun s hs z => ?_), List.append_nil]
      · rfl
      · obtain ⟨s0, hs0, rfl⟩ := List.mem_map.mp hs
        have := prj_ge e l (k + 1) s0 hs0
        have z : s0.1 = k := z
        omega
    have h2 : clo (pre ++ mapV f (prj e k (a :: l))) (k + 1) (fitL e l) = mapV (prS e f) l := by
      rw [e1, ← List.append_assoc]
      refine clo_prj e f l (k + 1) _ fun s hs => ?_
      rcases List.mem_append.mp hs with hs | hs
      · have := hp s hs
        omega
      · obtain ⟨s0, hs0, rfl⟩ := List.mem_map.mp hs
        obtain ⟨w, -, rfl⟩ := List.mem_map.mp hs0
        show k < k + 1
        omega
    show (a.1, if fitO e a.2 = true then some (lsV (clo1 (pre ++ mapV f (prj e k (a :: l))) k)) else none) :: clo (pre ++ mapV f (prj e k (a :: l))) (k + 1) (fitL e l) = (a.1, a.2.bind (prS e f)) :: mapV (prS e f) l
    rw [h1, h2]
    congr 2
    cases ha : a.2 with
    | none => rfl
    | some v =>
      show (if fitP e v.1 = true then some (lsV ((selO e (some v)).filterMap fun w => nnO (f w))) else none) = prS e f v
      unfold prS selO
      by_cases hf : fitP e v.1 = true
      · simp only [if_pos hf]
      · simp only [if_neg hf]
theorem evS_prj {e : sE} (he : ¬ e.1 ≤ 1) (l : List sE) (v : vT) : evS (e :: l) v = prS e (evS l) v := by
  show (if e.1 ≤ 1 then (pckS e v).bind (evS l) else if fitP e v.1 = true then some (lsV ((selS e v.2).filterMap fun w => nnO (evS l w))) else none) = _
  rw [if_neg he]
  rfl
theorem evS_pck {e : sE} (he : e.1 ≤ 1) (l : List sE) (v : vT) : evS (e :: l) v = (pckS e v).bind (evS l) := by
  show (if e.1 ≤ 1 then (pckS e v).bind (evS l) else if fitP e v.1 = true then some (lsV ((selS e v.2).filterMap fun w => nnO (evS l w))) else none) = _
  rw [if_pos he]
theorem cls_prj {e : sE} (he : ¬ e.1 ≤ 1) (l : List sE) (top : List lT) (bs : List (List (Int × Bool))) : clsA (mapV (evS l) (prj e (tot bs) top)) (fitL e top :: bs) = clsA (mapV (evS (e :: l)) top) bs := by
  show clsA (clo (mapV (evS l) (prj e (tot bs) top)) (tot bs) (fitL e top)) bs = _
  have h := clo_prj e (evS l) top (tot bs) [] (fun s hs => absurd hs List.not_mem_nil)
  rw [List.nil_append] at h
  rw [h]
  congr 2
  funext v
  exact (evS_prj he l v).symm
theorem mapV_pck {e : sE} (he : e.1 ≤ 1) (l : List sE) (top : List lT) : mapV (evS l) (mapV (pckS e) top) = mapV (evS (e :: l)) top := by
  unfold mapV
  rw [List.map_map]
  apply List.map_congr_left
  intro s _
  show (s.1, (s.2.bind (pckS e)).bind (evS l)) = (s.1, s.2.bind (evS (e :: l)))
  congr 1
  cases s.2 with
  | none => rfl
  | some v => exact (evS_pck he l v).symm
theorem mapV_nil (top : List lT) : mapV (evS []) top = top := by
  unfold mapV
  conv => rhs; rw [← List.map_id top]
  apply List.map_congr_left
  intro s _
  show (s.1, s.2.bind (evS [])) = s
  obtain ⟨a, x⟩ := s
  cases x with
  | none => rfl
  | some v => rfl
/-- what comes out at the end: a list of what is left, or the only one -/
def finV (many : Bool) (top : List lT) : Option vT := bif many then some (lsV (top.filterMap fun s => nnO s.2)) else match top with
  | [] => none
  | s :: _ => s.2
/-- a stage of steps: v is what the parts before gave, acc the part at hand -/
def evT : Option vT → List sE → List sE → Option vT
  | v, acc, [] => v.bind (evS acc)
  | v, acc, e :: l => if e.1 = 6 then evT (v.bind (evS acc)) [e] l else evT v (acc ++ [e]) l
theorem evT_none : ∀ (l acc : List sE), evT none acc l = none
  | [], _ => rfl
  | e :: l, acc => by
    show (if e.1 = 6 then evT none [e] l else evT none (acc ++ [e]) l) = none
    split
    · exact evT_none l _
    · exact evT_none l _
theorem evT_bad (v : vT) : ∀ (l acc : List sE), (∀ l', evS (acc ++ l') v = none) → evT (some v) acc l = none
  | [], acc, h => by
    have := h []
    rw [List.append_nil] at this
    exact this
  | e :: l, acc, h => by
    show (if e.1 = 6 then evT (evS acc v) [e] l else evT (some v) (acc ++ [e]) l) = none
    have h0 := h []
    rw [List.append_nil] at h0
    split
    · rw [h0]
      exact evT_none l _
    · exact evT_bad v l _ fun l' => by
        rw [List.append_assoc]
        exact h _
theorem evT_unfit {v : vT} (h5 : ¬ v.1.1 = 5) {e : sE} (he : e.1 = 6) (l : List sE) : evT (some v) [e] l = none := evT_bad v l [e] fun l' => by
  show evS (e :: l') v = none
  rw [evS_prj (by omega)]
  unfold prS fitP
  rw [if_neg]
  intro z
  have z := of_decide_eq_true z
  rw [if_neg (by omega)] at z
  exact h5 z
