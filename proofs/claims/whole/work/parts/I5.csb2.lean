/-! ===== the class: append(char) to the resultText (printed by program: gen97.py) ===== -/
def sbP (cap : Nat) : Nat := if cap = 16 then 4 else if cap = 34 then 3 else if cap = 70 then 2 else if cap = 142 then 1 else 0
def sbV (cap : Nat) : Nat := if cap = 16 then 532 else if cap = 34 then 498 else if cap = 70 then 428 else if cap = 142 then 286 else 0
/-- what writing leaves as it was -/
def sbF (h : jx_H) (κ : mS) (r cap : Nat) (h' : jx_H) (κ' : mS) (r' cap' : Nat) : Prop := mEq [12, 13, 14, 16] κ κ' ∧ h.length ≤ h'.length ∧ (∀ (c : Nat) (y : jx_C), ¬ c = r → h[c]? = some y → ¬ c = r' ∧ h'[c]? = some y) ∧ h'.length + sbP cap' ≤ h.length + sbP cap ∧ cvol h' + sbV cap' ≤ cvol h + sbV cap
theorem sbF_tr {h : jx_H} {κ : mS} {r cap : Nat} {h1 : jx_H} {κ1 : mS} {r1 cap1 : Nat} {h2 : jx_H} {κ2 : mS} {r2 cap2 : Nat} (a : sbF h κ r cap h1 κ1 r1 cap1) (b : sbF h1 κ1 r1 cap1 h2 κ2 r2 cap2) : sbF h κ r cap h2 κ2 r2 cap2 := by
  obtain ⟨a1, a2, a3, a4, a5⟩ := a
  obtain ⟨b1, b2, b3, b4, b5⟩ := b
  exact ⟨fun f hf => (b1 f hf).trans (a1 f hf), by omega, fun c y hc hy => b3 c y (a3 c y hc hy).1 (a3 c y hc hy).2, by omega, by omega⟩
theorem rt_k {h : jx_H} {κ κ' : mS} {r : Nat} {y : jx_C} (hl : 50 ≤ h.length) (hr : r = 14 ∨ (50 ≤ r ∧ r < 4000000000)) (he : κ' 14 = κ 14) (hR : (cl_mk h κ)[r]? = some y) : (cl_mk h κ')[r]? = some y := by
  rcases hr with rfl | ⟨r1, r2⟩
  · rw [cl_c14] at hR ⊢
    rw [he]
    exact hR
  · rw [cl_dy (by omega) (by omega)] at hR ⊢
    exact hR
theorem sb_big {r : Nat} (hr : r = 14 ∨ (50 ≤ r ∧ r < 4000000000)) : r < 4000000000 := by omega
theorem sb_13 {h : jx_H} {κ : mS} {r cap : Nat} {fb : Nat → Value} {l : List Int} (hs : sbR h κ r cap fb l) : (κ 13 0).toNat = r := by rw [hs.1]; exact Int.toNat_natCast r
theorem js_ens {β : Bool} {d : Nat} {h : jx_H} {κ : mS} (hl : 50 ≤ h.length) {N : Nat} (hN : h.length = N) (hb32 : N < 3000000000) {r cap : Nat} {fb : Nat → Value} {l : List Int} (hs : sbR h κ r cap fb l) {m : Int} (hm : 0 ≤ m ∧ m ≤ l.length + 12 ∧ m ≤ 270) : ∃ (h' : jx_H) (κ' : mS) (r' cap' : Nat) (fb' : Nat → Value), jx_r (jz β) jw_M (d + 2) 16 (0, [some (.ref 13), some (.int (Int32.ofInt (m))), none], [], (cl_mk h κ)) (cl_mk h' (κ'), .inl none) ∧ sbR h' κ' r' cap' fb' l ∧ m ≤ cap' ∧ sbF h κ r cap h' κ' r' cap' := by
  have e13 := sb_13 hs
  obtain ⟨s1, s2, s3, s4, s5, s6, s7, s8⟩ := hs
  have hrr := sb_big s3
  by_cases hc : m ≤ cap
  · exact ⟨h, κ, r, cap, fb, js_en0 hl e13 hrr s4 (by omega) ⟨hm.1, hc⟩, ⟨s1, s2, s3, s4, s5, s6, s7, s8⟩, hc, fun f _ => rfl, Nat.le_refl _, fun c y hc hy => ⟨hc, hy⟩, Nat.le_refl _, Nat.le_refl _⟩
  · have hcc : cap = 16 ∨ cap = 34 ∨ cap = 70 ∨ cap = 142 := by omega
    have hr := js_en1 (β := β) (d := d) hl hN hb32 e13 hrr s4 (by omega) s7 (m := m) ⟨by omega, by omega⟩
    obtain ⟨fb', ef⟩ : ∃ fb', fb' = va_cpy fb (fun _ => .int 0) (0 : Int).toNat (0 : Int).toNat (((cap : Nat) : Int)).toNat := ⟨_, rfl⟩
    obtain ⟨w, ew⟩ : ∃ w : Nat, w = ((((cap : Nat) : Int) + (((cap : Nat) : Int) + 2))).toNat := ⟨_, rfl⟩
    rw [← ef, ← ew] at hr
    have hw : w = 2 * cap + 2 := by omega
    have ei : (((cap : Nat) : Int)).toNat = cap := by omega
    have hfin : ∀ i, i < cap → fb' i = fb i := fun i hi => by
      rw [ef, ei]
      refine (if_pos ⟨by show 0 ≤ i; omega, by show i < 0 + cap; omega⟩).trans ?_
      show fb (0 + (i - 0)) = fb i
      rw [Nat.sub_zero, Nat.zero_add]
    have hfout : ∀ i, ¬ i < cap → fb' i = .int (Int32.ofInt 0) := fun i hi => by
      rw [ef, ei]
      refine (if_neg (fun z => hi (by have := z.2; show i < cap; have e : (0 : Int).toNat = 0 := rfl; omega))).trans ?_
      rfl
    have hvol : cvol (h ++ [.inl (3, w, fb')]) = cvol h + w := cvol_app _ _
    have hlen : (h ++ [Sum.inl (3, w, fb')] : jx_H).length = N + 1 := by rw [List.length_append, hN]; rfl
    refine ⟨_, _, N, w, fb', hr, ⟨su_eq _ _ _ _, (su_nf (by decide)).trans s2, Or.inr ⟨by omega, by omega⟩, ?_, by omega, by omega, fun i => ?_, fun i hi => ?_⟩, by omega, fun f hf => su_row (fun e => hf (by rw [e]; decide)), by omega, fun c y hc2 hy => ⟨?_, ?_⟩, ?_, ?_⟩
    · exact ap_get hl hN 0 rfl
    · by_cases hi : i < cap
      · rw [hfin i hi]; exact s7 i
      · exact ⟨0, hfout i hi, by decide, by decide⟩
    · rw [hfin i (by omega)]
      exact s8 i hi
    · have := (List.getElem?_eq_some_iff.mp hy).1
      omega
    · rw [List.getElem?_append_left (List.getElem?_eq_some_iff.mp hy).1]
      exact hy
    · rw [hlen, hN, hw]
      unfold sbP
      rcases hcc with e | e | e | e
      all_goals
        subst e
        simp
        try omega
    · rw [hvol, hw]
      unfold sbV
      rcases hcc with e | e | e | e
      all_goals
        subst e
        simp
        try omega
theorem csB {β : Bool} {cd : Nat → Option Instr} {own pc : Nat} {rt : Option FieldType × Bool} {lo : jx_L} {st : List Value} {H H' : jx_H} {a n : Nat} {g : Nat → Value} {i x : Int} (ho : H[a]? = some (.inl (3, n, g))) (ha : a < jx_big) (hn : n ≤ 2000000000) (h0 : 0 ≤ i) (h1 : i < n) (hx : 0 ≤ x ∧ x ≤ 127) (hs : H.set a (.inl (3, n, updV g i.toNat (.int (Int32.ofInt x)))) = H') : jx_do (jz β) cd own pc rt .bastore lo (.int (Int32.ofInt x) :: .int (Int32.ofInt i) :: .ref a :: st) H = some (.inl (pc + 1, lo, st, H')) := by
  obtain ⟨k1, k2⟩ := ci_nat hn h0 h1
  have e := js_ast (T := jz β) (ok := fun ty => match ty with | .byte => true | _ => false) (pc := pc) (lo := lo) (st := st) (v := .int (Int32.ofInt x)) ho ha (ty := .byte) rfl rfl rfl k1
  rw [narrow_of_fits (fitB hx), k2, hs] at e
  exact e
