/-! ===== the model's heap as numbers: fields and rows of whole numbers ===== -/
abbrev jz (β : Bool) : jx_T := jw_TB β (fun _ => true)
abbrev mS : Type := Nat → Int → Int
def su (σ : mS) (f : Nat) (i x : Int) : mS := fun g j => if g = f ∧ j = i then x else σ g j
theorem su_eq (σ : mS) (f : Nat) (i x : Int) : su σ f i x f i = x := if_pos ⟨rfl, rfl⟩
theorem su_nf {σ : mS} {f g : Nat} {i j x : Int} (h : ¬ g = f) : su σ f i x g j = σ g j := if_neg fun e => h e.1
theorem su_ni {σ : mS} {f g : Nat} {i j x : Int} (h : ¬ j = i) : su σ f i x g j = σ g j := if_neg fun e => h e.2
/-- what a field is: 0 an int, 1 a long, 2 a row of ints, 3 a row of longs -/
def ml_kL : List Nat := [0, 2, 0, 2, 2, 3, 2, 2, 2, 3, 2, 2, 2, 0, 0, 0, 2, 2, 3, 2, 2, 2, 2, 2, 2, 3, 2, 3, 0, 0, 0, 1, 0, 2, 2, 3, 0, 2, 2, 2, 2, 0, 0, 2, 2, 0, 2]
def ml_kd (f : Nat) : Nat := ml_kL.getD f 9
def ml_al : List Nat := [1, 3, 4, 5, 6, 7, 8, 9, 10, 11, 12, 16, 17, 18, 19, 20, 21, 22, 23, 24, 25, 26, 27, 33, 34, 35, 37, 38, 39, 40, 43, 44, 46]
def ml_nL : List Nat := [0, 160, 0, 1740, 1740, 1740, 1740, 1740, 1740, 1740, 1740, 5, 5, 0, 0, 0, 12, 1200, 1200, 1200, 144, 432, 144, 288, 288, 864, 288, 288, 0, 0, 0, 0, 0, 5, 5, 5, 0, 400, 400, 400, 16, 0, 0, 400, 400, 0, 500]
def ml_n (f : Nat) : Nat := ml_nL.getD f 0
def ml_adL : List Nat := [0, 16, 0, 17, 18, 19, 20, 21, 22, 23, 24, 25, 26, 0, 0, 0, 27, 28, 29, 30, 31, 32, 33, 34, 35, 36, 37, 38, 0, 0, 0, 0, 0, 39, 40, 41, 0, 42, 43, 44, 45, 0, 0, 46, 47, 0, 48]
def ml_ad (f : Nat) : Nat := ml_adL.getD f 0
def ml_fv (σ : mS) (f : Nat) : Value := match ml_kd f with
  | 0 => .int (Int32.ofInt (σ f 0))
  | 1 => .long (Int64.ofInt (σ f 0))
  | _ => .ref (ml_ad f)
def ml_ev (σ : mS) (f : Nat) (i : Nat) : Value := match ml_kd f with
  | 3 => .long (Int64.ofInt (σ f i))
  | _ => .int (Int32.ofInt (σ f i))
def ml_et (f : Nat) : Nat := match ml_kd f with
  | 3 => 1
  | _ => 0
def ml_ob (σ : mS) : jx_C := .inr (16, (List.range 47).map (ml_fv σ))
def ml_ar (σ : mS) (f : Nat) : jx_C := .inl (ml_et f, ml_n f, ml_ev σ f)
def ml_ce (σ : mS) : List jx_C := ml_ob σ :: ml_al.map (ml_ar σ)
def ml_mk (h : jx_H) (σ : mS) : jx_H := h.take 15 ++ (ml_ce σ ++ h.drop 49)
theorem ml_ce_len (σ : mS) : (ml_ce σ).length = 34 := by
  unfold ml_ce
  rw [List.length_cons, List.length_map]
  rfl
section ML
variable {h : jx_H} {σ : mS}
theorem ml_len (hl : 49 ≤ h.length) : (ml_mk h σ).length = h.length := by
  unfold ml_mk
  rw [List.length_append, List.length_append, List.length_take, List.length_drop, ml_ce_len]
  omega
theorem ml_get (hl : 49 ≤ h.length) {k : Nat} (hk : k < 34) : (ml_mk h σ)[15 + k]? = (ml_ce σ)[k]? := by
  unfold ml_mk
  rw [List.getElem?_append_right (by rw [List.length_take]; omega), List.getElem?_append_left (by rw [List.length_take, ml_ce_len]; omega), List.length_take]
  congr 1
  omega
theorem ml_set (hl : 49 ≤ h.length) {k : Nat} (hk : k < 34) {c : jx_C} : (ml_mk h σ).set (15 + k) c = h.take 15 ++ ((ml_ce σ).set k c ++ h.drop 49) := by
  unfold ml_mk
  rw [List.set_append_right _ _ (by rw [List.length_take]; omega), List.set_append_left _ _ (by rw [List.length_take, ml_ce_len]; omega)]
  congr 3
  rw [List.length_take]
  omega
theorem ml_15 (hl : 49 ≤ h.length) : (ml_mk h σ)[15]? = some (ml_ob σ) := ml_get hl (k := 0) (by decide)
theorem ml_other (hl : 49 ≤ h.length) {a : Nat} (ha : a < 15 ∨ 49 ≤ a) : (ml_mk h σ)[a]? = h[a]? := by
  unfold ml_mk
  rcases ha with ha | ha
  · rw [List.getElem?_append_left (by rw [List.length_take]; omega), List.getElem?_take_of_lt ha]
  · rw [List.getElem?_append_right (by rw [List.length_take]; omega), List.getElem?_append_right (by rw [List.length_take, ml_ce_len]; omega), List.getElem?_drop, List.length_take, ml_ce_len]
    congr 1
    omega
def ml_isA (f : Nat) : Bool := decide (2 ≤ ml_kd f) && decide (f < 47)
theorem ml_adP : ∀ f, f < 47 → ml_isA f = true → 16 ≤ ml_ad f ∧ ml_ad f < 49 ∧ ml_al[ml_ad f - 16]? = some f := by decide
theorem ml_at (hl : 49 ≤ h.length) {f : Nat} (hf : ml_isA f = true) : (ml_mk h σ)[ml_ad f]? = some (ml_ar σ f) := by
  have h47 : f < 47 := of_decide_eq_true ((Bool.and_eq_true _ _).mp hf).2
  obtain ⟨h1, h2, h3⟩ := ml_adP f h47 hf
  rw [show ml_ad f = 15 + (ml_ad f - 16 + 1) from by omega, ml_get hl (by omega)]
  unfold ml_ce
  rw [List.getElem?_cons_succ, List.getElem?_map, h3]
  rfl
theorem ml_alP : ∀ f ∈ ml_al, 2 ≤ ml_kd f := by decide
theorem ml_alN : ∀ i, i < 33 → ∀ j, j < 33 → ml_al.getD i 0 = ml_al.getD j 0 → i = j := by decide
theorem ml_fv_su {f g : Nat} {i x : Int} (hg : ¬ g = f) : ml_fv (su σ f i x) g = ml_fv σ g := by
  unfold ml_fv
  rw [su_nf hg]
theorem ml_ar_su {f g : Nat} {i x : Int} (hg : ¬ g = f) : ml_ar (su σ f i x) g = ml_ar σ g := by
  unfold ml_ar
  have : ml_ev (su σ f i x) g = ml_ev σ g := by
    funext j
    unfold ml_ev
    rw [su_nf hg]
  rw [this]
/-- a scalar is written -/
theorem ml_put (hl : 49 ≤ h.length) {f : Nat} {x : Int} {v : Value} (hf : f < 47) (hk : ml_kd f < 2) (hv : ml_fv (su σ f 0 x) f = v) : (ml_mk h σ).set 15 (.inr (16, ((List.range 47).map (ml_fv σ)).set f v)) = ml_mk h (su σ f 0 x) := by
  rw [show (15 : Nat) = 15 + 0 from rfl, ml_set hl (by decide)]
  unfold ml_mk
  congr 2
  unfold ml_ce
  rw [List.set_cons_zero]
  congr 1
  · unfold ml_ob
    congr 2
    apply List.ext_getElem?
    intro j
    by_cases hj : f = j
    · subst hj
      rw [List.getElem?_set_self (by rw [List.length_map, List.length_range]; exact hf), List.getElem?_map, List.getElem?_range hf, ← hv]
      rfl
    · rw [List.getElem?_set_ne hj, List.getElem?_map, List.getElem?_map]
      by_cases h47 : j < 47
      · rw [List.getElem?_range h47]
        show some _ = some _
        rw [ml_fv_su (fun e => hj e.symm)]
      · rw [List.getElem?_eq_none (by rw [List.length_range]; omega)]
        rfl
  · apply List.map_congr_left
    intro g hg
    have := ml_alP g hg
    rw [ml_ar_su (fun e => by subst e; omega)]
/-- a row's element is written -/
theorem ml_sto (hl : 49 ≤ h.length) {f j : Nat} {x : Int} {v : Value} (hf : ml_isA f = true) (hv : ml_ev (su σ f j x) f j = v) : (ml_mk h σ).set (ml_ad f) (.inl (ml_et f, ml_n f, updV (ml_ev σ f) j v)) = ml_mk h (su σ f j x) := by
  have h47 : f < 47 := of_decide_eq_true ((Bool.and_eq_true _ _).mp hf).2
  have hk2 : 2 ≤ ml_kd f := of_decide_eq_true ((Bool.and_eq_true _ _).mp hf).1
  obtain ⟨h1, h2, h3⟩ := ml_adP f h47 hf
  rw [show ml_ad f = 15 + (ml_ad f - 16 + 1) from by omega, ml_set hl (by omega)]
  unfold ml_mk
  congr 2
  unfold ml_ce
  rw [List.set_cons_succ]
  congr 1
  · unfold ml_ob
    congr 2
    apply List.map_congr_left
    intro g hg
    by_cases hgf : g = f
    · subst hgf
      unfold ml_fv
      split
      · omega
      · omega
      · rfl
    · rw [ml_fv_su hgf]
  · apply List.ext_getElem?
    intro i
    by_cases hi : ml_ad f - 16 = i
    · subst hi
      rw [List.getElem?_set_self (by rw [List.length_map]; exact (List.getElem?_eq_some_iff.mp h3).1), List.getElem?_map, h3]
      show some _ = some _
      unfold ml_ar
      congr 4
      funext i
      unfold updV
      by_cases hij : i = j
      · subst hij
        rw [hv]
        simp
      · simp only [hij]
        unfold ml_ev
        rw [su_ni (by omega)]
        simp
    · rw [List.getElem?_set_ne hi, List.getElem?_map, List.getElem?_map]
      cases hg : ml_al[i]? with
      | none => rfl
      | some g =>
        show some _ = some _
        congr 1
        by_cases hgf : g = f
        · subst hgf
          have i1 := (List.getElem?_eq_some_iff.mp hg).1
          have i2 := (List.getElem?_eq_some_iff.mp h3).1
          have := ml_alN i i1 (ml_ad g - 16) i2 (by rw [List.getD_eq_getElem?_getD, List.getD_eq_getElem?_getD, hg, h3])
          omega
        · rw [ml_ar_su hgf]
end ML
