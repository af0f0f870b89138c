/-! ===== goes: what stays true from step to step ===== -/
def wO : Option vT → Nat
  | none => 0
  | some v => fct v.2
def wT (top : List lT) : Nat := (top.map fun t => 1 + wO t.2).sum
theorem wT_cons (t : lT) (l : List lT) : wT (t :: l) = 1 + wO t.2 + wT l := by
  unfold wT
  rw [List.map_cons, List.sum_cons]
theorem wT_app (a b : List lT) : wT (a ++ b) = wT a + wT b := by
  unfold wT
  rw [List.map_append, List.sum_append]
theorem wT_len : ∀ l : List lT, l.length ≤ wT l
  | [] => Nat.le_refl 0
  | t :: l => by
    have := wT_len l
    rw [wT_cons, List.length_cons]
    omega
theorem wT_mem : ∀ (l : List lT) (t : lT), t ∈ l → wO t.2 + 1 ≤ wT l
  | [], t, h => absurd h List.not_mem_nil
  | s :: l, t, h => by
    rw [wT_cons]
    rcases List.mem_cons.mp h with rfl | h
    · omega
    · have := wT_mem l t h
      omega
theorem wT_map (k : Int) : ∀ l : List vT, wT (l.map fun u => (k, some u)) = wS l
  | [] => rfl
  | v :: l => by
    rw [List.map_cons, wT_cons, wS_cons, wT_map k l]
    rfl
theorem wT_pck {e : sE} : ∀ top : List lT, (∀ t ∈ top, vokO t.2) → wT (mapV (pckS e) top) ≤ wT top
  | [], _ => Nat.le_refl 0
  | (a, x) :: l, hv => by
    have ih := wT_pck (e := e) l (fun t ht => hv t (List.mem_cons_of_mem _ ht))
    show wT ((a, x.bind (pckS e)) :: mapV (pckS e) l) ≤ wT ((a, x) :: l)
    rw [wT_cons, wT_cons]
    have : wO (x.bind (pckS e)) ≤ wO x := by
      cases x with
      | none => exact Nat.le_refl 0
      | some v =>
        show wO (pckS e v) ≤ fct v.2
        cases hp : pckS e v with
        | none => exact Nat.zero_le _
        | some w =>
          have := (pckS_ok (hv (a, some v) (List.mem_cons_self ..) v.1 v.2 rfl) hp).2
          show fct w.2 ≤ fct v.2
          omega
    show 1 + wO (x.bind (pckS e)) + wT (mapV (pckS e) l) ≤ 1 + wO x + wT l
    omega
theorem wT_prj {e : sE} (he : eok1 e) : ∀ (top : List lT) (k : Int), (fitL e top).length + wT (prj e k top) ≤ wT top
  | [], _ => Nat.le_refl 0
  | (a, x) :: l, k => by
    have ih := wT_prj he l (k + 1)
    show (fitL e l).length + 1 + wT (((selO e x).map fun w => (k, some w)) ++ prj e (k + 1) l) ≤ wT ((a, x) :: l)
    rw [wT_app, wT_map, wT_cons]
    have : wS (selO e x) ≤ wO x := by
      cases x with
      | none => exact Nat.le_refl 0
      | some v =>
        show wS (if fitP e v.1 = true then selS e v.2 else []) ≤ fct v.2
        by_cases hf : fitP e v.1 = true
        · rw [if_pos hf]
          exact selS_w he v.2
        · rw [if_neg hf]
          exact Nat.zero_le _
    show (fitL e l).length + 1 + (wS (selO e x) + wT (prj e (k + 1) l)) ≤ 1 + wO x + wT l
    omega
theorem prj_fr (e : sE) : ∀ (l : List lT) (k : Int), ∀ s ∈ prj e k l, k ≤ s.1 ∧ s.1 < k + l.length
  | [], k, s, h => absurd h List.not_mem_nil
  | a :: l, k, s, h => by
    have hl : ((a :: l).length : Int) = l.length + 1 := by simp
    rcases List.mem_append.mp h with h | h
    · obtain ⟨w, -, rfl⟩ := List.mem_map.mp h
      show k ≤ k ∧ k < k + ((a :: l).length : Int)
      omega
    · have := prj_fr e l (k + 1) s h
      omega
theorem prj_ok {e : sE} : ∀ (l : List lT) (k : Int), (∀ t ∈ l, vokO t.2) → ∀ s ∈ prj e k l, vokO s.2
  | [], k, _, s, h => absurd h List.not_mem_nil
  | (a, x) :: l, k, hv, s, h => by
    rcases List.mem_append.mp h with h | h
    · obtain ⟨w, hw, rfl⟩ := List.mem_map.mp h
      intro i F hiF
      have hiF := Option.some.inj hiF
      have hw : w ∈ selO e x := hw
      cases x with
      | none => exact absurd hw List.not_mem_nil
      | some v =>
        have hw : w ∈ (if fitP e v.1 = true then selS e v.2 else []) := hw
        by_cases hf : fitP e v.1 = true
        · rw [if_pos hf] at hw
          have hk := selS_ok (hv (a, some v) (List.mem_cons_self ..) v.1 v.2 rfl).2 hw
          rw [hiF] at hk
          exact hk
        · rw [if_neg hf] at hw
          exact absurd hw List.not_mem_nil
    · exact prj_ok l (k + 1) (fun t ht => hv t (List.mem_cons_of_mem _ ht)) s h
theorem mapV_ok {e : sE} {top : List lT} (hv : ∀ t ∈ top, vokO t.2) : ∀ t ∈ mapV (pckS e) top, vokO t.2 := fun t ht i F hiF => by
  obtain ⟨s, hs, rfl⟩ := List.mem_map.mp ht
  have hiF : s.2.bind (pckS e) = some (i, F) := hiF
  cases hx : s.2 with
  | none => rw [hx] at hiF; cases hiF
  | some v =>
    rw [hx] at hiF
    exact (pckS_ok (hv s hs v.1 v.2 hx) hiF).1
theorem mapV_fr {f : vT → Option vT} {P : Int → Prop} {top : List lT} (hv : ∀ t ∈ top, P t.1) : ∀ t ∈ mapV f top, P t.1 := fun t ht => by
  obtain ⟨s, hs, rfl⟩ := List.mem_map.mp ht
  exact hv s hs
theorem fitL_fr {e : sE} {P : Int → Prop} {top : List lT} (hv : ∀ t ∈ top, P t.1) : ∀ t ∈ fitL e top, P t.1 := fun t ht => by
  obtain ⟨s, hs, rfl⟩ := List.mem_map.mp ht
  exact hv s hs
theorem fitL_len (e : sE) (top : List lT) : (fitL e top).length = top.length := List.length_map ..
theorem mapV_len (f : vT → Option vT) (top : List lT) : (mapV f top).length = top.length := List.length_map ..
/-- how many are at the bottom -/
def botL (n : Nat) : List (List (Int × Bool)) → Nat
  | [] => n
  | b :: bs => botL b.length bs
theorem clsA_len : ∀ (bs : List (List (Int × Bool))) (top : List lT), (clsA top bs).length = botL top.length bs
  | [], _ => rfl
  | b :: bs, top => by
    show (clsA (clo top (tot bs) b) bs).length = botL b.length bs
    rw [clsA_len bs, clo_len]
/-- what the slots stand for: x picked by acc -/
def evI (many : Bool) (top : List lT) (bs : List (List (Int × Bool))) (x : Option vT) (acc : List sE) : Prop := ∀ l, finV many (clsA (mapV (evS l) top) bs) = x.bind (evS (acc ++ l))
theorem evI_init (v : vT) : evI false [(0, some v)] [] (some v) [] := fun l => rfl
theorem evI_end {many : Bool} {top : List lT} {bs : List (List (Int × Bool))} {x : Option vT} {acc : List sE} (h : evI many top bs x acc) : finV many (clsA top bs) = x.bind (evS acc) := by
  have := h []
  rw [mapV_nil, List.append_nil] at this
  exact this
theorem evI_pck {many : Bool} {top : List lT} {bs : List (List (Int × Bool))} {x : Option vT} {acc : List sE} {e : sE} (he : e.1 ≤ 1) (h : evI many top bs x acc) : evI many (mapV (pckS e) top) bs x (acc ++ [e]) := fun l => by
  rw [mapV_pck he, h (e :: l), List.append_assoc]
  rfl
theorem evI_prj {many : Bool} {top : List lT} {bs : List (List (Int × Bool))} {x : Option vT} {acc : List sE} {e : sE} (he : ¬ e.1 ≤ 1) (h : evI many top bs x acc) : evI many (prj e (tot bs) top) (fitL e top :: bs) x (acc ++ [e]) := fun l => by
  rw [cls_prj he, h (e :: l), List.append_assoc]
  rfl
theorem evI_flat {v : vT} {e : sE} (he : e.1 = 6) (h5 : v.1.1 = 5) : evI true ((flatS v.2).map fun u => (0, some u)) [] (some v) [e] := fun l => by
  show some (lsV ((mapV (evS l) ((flatS v.2).map fun u => (0, some u))).filterMap fun s => nnO s.2)) = evS (e :: l) v
  rw [evS_prj (by omega)]
  unfold prS
  have hf : fitP e v.1 = true := by
    unfold fitP
    rw [if_neg (by omega)]
    exact decide_eq_true h5
  have hs : selS e v.2 = flatS v.2 := by
    unfold selS
    rw [if_neg (by omega), if_neg (by omega), if_pos he]
  rw [if_pos hf, hs]
  congr 2
  unfold mapV
  rw [List.map_map, List.filterMap_map]
  rfl
/-- the steps stand in the items from i on -/
def itR (σ : mS) : Int → List sE → Prop
  | _, [] => True
  | i, e :: l => ((0 ≤ i ∧ i < 1200) ∧ σ 17 i = e.1 ∧ (0 ≤ e.1 ∧ e.1 ≤ 6) ∧ (e.1 ≤ 1 → pkR σ i (σ 19 i) e) ∧ (2 ≤ e.1 → e.1 ≤ 5 → prR σ (σ 19 i) e)) ∧ itR σ (i + 1) l
theorem itR_fr {σ τ : mS} (hq : ∀ f, 17 ≤ f → f ≤ 27 → τ f = σ f) : ∀ (l : List sE) (i : Int), itR σ i l → itR τ i l
  | [], _, _ => trivial
  | e :: l, i, h => by
    obtain ⟨⟨h1, h2, h3, h4, h5⟩, h6⟩ := h
    have q19 : τ 19 = σ 19 := hq 19 (by decide) (by decide)
    refine ⟨⟨h1, by rw [hq 17 (by decide) (by decide)]; exact h2, h3, fun z => ?_, fun z1 z2 => ?_⟩, itR_fr hq l (i + 1) h6⟩
    · rw [q19]
      have := h4 z
      unfold pkR at this ⊢
      rw [hq 17 (by decide) (by decide), hq 18 (by decide) (by decide), hq 21 (by decide) (by decide)]
      exact this
    · rw [q19]
      exact prR_fr (fun f f1 f2 => hq f (by omega) f2) (h5 z1 z2)
theorem itR_ok {σ : mS} : ∀ (l : List sE) (i : Int), itR σ i l → ∀ e ∈ l, eok1 e
  | [], _, _, e, h => absurd h List.not_mem_nil
  | a :: l, i, h, e, he => by
    rcases List.mem_cons.mp he with rfl | he
    · obtain ⟨h1, h2, h3, h4, h5⟩ := h.1
      exact ⟨h3.1, h3.2, fun z => (((h5 (by omega) (by omega)).2.2 z).2.2)⟩
    · exact itR_ok l (i + 1) h.2 e he
/-- what goes leaves alone -/
def goF (σ τ : mS) : Prop := (∀ f v, 3 ≤ f → f ≤ 7 → v < 680 → τ f v = σ f v) ∧ (∀ f x, 8 ≤ f → f ≤ 10 → x < 680 → τ f x = σ f x) ∧ (∀ f, f ∉ [3, 4, 5, 6, 7, 8, 9, 10, 11, 12, 36, 37, 38, 39, 40, 41, 43, 44] → τ f = σ f) ∧ (∀ v, ¬ v = 4 → τ 11 v = σ 11 v ∧ τ 12 v = σ 12 v)
theorem goF_refl (σ : mS) : goF σ σ := ⟨fun _ _ _ _ _ => rfl, fun _ _ _ _ _ => rfl, fun _ _ => rfl, fun _ _ => ⟨rfl, rfl⟩⟩
theorem goF_trans {σ τ υ : mS} (h : goF σ τ) (h2 : goF τ υ) : goF σ υ := ⟨fun f v f1 f2 hv => (h2.1 f v f1 f2 hv).trans (h.1 f v f1 f2 hv), fun f v f1 f2 hv => (h2.2.1 f v f1 f2 hv).trans (h.2.1 f v f1 f2 hv), fun f hf => (h2.2.2.1 f hf).trans (h.2.2.1 f hf), fun v hv => ⟨(h2.2.2.2 v hv).1.trans (h.2.2.2 v hv).1, (h2.2.2.2 v hv).2.trans (h.2.2.2 v hv).2⟩⟩
theorem goF_cl {σ τ : mS} {nn cc : Int} (hn : 0 ≤ nn) (hc : 0 ≤ cc) (h : clG σ τ nn cc) : goF σ τ := ⟨fun f v f1 f2 hv => h.1 f v f1 f2 (by omega), fun f v f1 f2 hv => h.2.1 f v f1 f2 (by omega), fun f hf => h.2.2.1 f (by simp only [List.mem_cons, List.mem_nil_iff, or_false, not_or] at hf ⊢; omega), h.2.2.2⟩
theorem goF_pj {σ τ : mS} {N p t : Int} (hN : 680 ≤ N) (h : pjF σ τ N p t) : goF σ τ := ⟨fun f v f1 f2 hv => h.1 f v f1 f2 (by omega), fun f v f1 f2 _ => by rw [pjF_10 h f f1 f2], fun f hf => h.2.2.2.1 f (by simp only [List.mem_cons, List.mem_nil_iff, or_false, not_or] at hf ⊢; omega), fun v _ => ⟨h.2.2.2.2 v, by rw [h.2.2.2.1 12 (by decide)]⟩⟩
theorem goF_pk {σ τ : mS} {k : Int} (h : pkF σ τ k) : goF σ τ := ⟨fun f v f1 f2 _ => by rw [h.1 f (by omega)], fun f v f1 f2 _ => by rw [h.1 f (by omega)], fun f hf => h.1 f (by simp only [List.mem_cons, List.mem_nil_iff, or_false, not_or] at hf; omega), fun v _ => ⟨by rw [h.1 11 (by decide)], by rw [h.1 12 (by decide)]⟩⟩
theorem goF_q {σ τ : mS} (h : ∀ f, f ∉ [36, 37, 38, 39, 40, 41] → τ f = σ f) : goF σ τ := ⟨fun f v f1 f2 _ => by rw [h f (by simp; omega)], fun f v f1 f2 _ => by rw [h f (by simp; omega)], fun f hf => h f (by simp only [List.mem_cons, List.mem_nil_iff, or_false, not_or] at hf ⊢; omega), fun v _ => ⟨by rw [h 11 (by decide)], by rw [h 12 (by decide)]⟩⟩
theorem goF_it {σ τ : mS} (h : goF σ τ) : ∀ f, 17 ≤ f → f ≤ 27 → τ f = σ f := fun f f1 f2 => h.2.2.1 f (by simp; omega)
