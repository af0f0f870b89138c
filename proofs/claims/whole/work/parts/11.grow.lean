/-! ===== a run of the abstract machine is a run of the machine ===== -/
section JXMONO
variable {T : jx_T} {cd : Nat → Option Instr} {own pc : Nat} {rt : Option FieldType × Bool} {i : Instr} {lo : jx_L} {st : List Value} {h : jx_H}
theorem jx_grow_refl (T : jx_T) (h : jx_H) : h.length ≤ h.length ∧ jx_vol T h ≤ jx_vol T h := ⟨Nat.le_refl _, Nat.le_refl _⟩
theorem jx_grow_push (T : jx_T) (h : jx_H) (x : jx_C) : h.length ≤ (h ++ [x]).length ∧ jx_vol T h ≤ jx_vol T (h ++ [x]) := ⟨by simp, by rw [jx_vol_push]; exact Nat.le_add_right _ _⟩
theorem jx_grow_set (T : jx_T) {h : jx_H} {a : Nat} {x0 x : jx_C} (ha : h[a]? = some x0) (hz : jx_sz T x = jx_sz T x0) : h.length ≤ (h.set a x).length ∧ jx_vol T h ≤ jx_vol T (h.set a x) := ⟨by simp, by rw [jx_vol_set T ha hz]; exact Nat.le_refl _⟩
theorem jx_go_h {pc : Nat} {off : Int} {F : jx_F} (hg : jx_go pc off lo st h = some (.inl F)) : F.2.2.2 = h := by
  obtain ⟨t, -, rfl⟩ := jx_go_some hg
  rfl
theorem jx_br_h {b : Bool} {pc : Nat} {off : Int} {F : jx_F} (hg : jx_br b pc off lo st h = some (.inl F)) : F.2.2.2 = h := by
  obtain ⟨t, -, ⟨-, rfl⟩ | ⟨-, rfl⟩⟩ := jx_br_some hg <;> rfl
theorem jx_ld_h {ck : Value → Bool} {k pc' : Nat} {F : jx_F} (hg : jx_ld ck k pc' lo st h = some (.inl F)) : F.2.2.2 = h := by
  unfold jx_ld at hg
  split at hg
  · split at hg
    · cases hg; rfl
    · cases hg
  · cases hg
theorem jx_ald_h {ok : FieldType → Bool} {F : jx_F} (hg : jx_ald T ok pc lo st h = some (.inl F)) : F.2.2.2 = h := by
  obtain ⟨_, _, _, _, _, _, _, _, _, _, rfl⟩ := jx_ald_some hg
  rfl
theorem jx_ast_g {ok : FieldType → Bool} {v : Value} {j : Int32} {a : Nat} {r : List Value} {F : jx_F} (hg : jx_ast T ok v j a pc lo r h = some (.inl F)) : h.length ≤ F.2.2.2.length ∧ jx_vol T h ≤ jx_vol T F.2.2.2 := by
  obtain ⟨x, ty, hx, _, _, _, _, _, rfl⟩ := jx_ast_some hg
  exact jx_grow_set T hx rfl
theorem jx_newa_g {t : Nat} {n : Int32} {v : Value} {r : List Value} {F : jx_F} (hg : jx_newa T t n v pc lo r h = some (.inl F)) : h.length ≤ F.2.2.2.length ∧ jx_vol T h ≤ jx_vol T F.2.2.2 := by
  obtain ⟨_, _, _, rfl⟩ := jx_newa_some hg
  exact jx_grow_push T h _
theorem jx_more_g {x : jx_C} {r : List Value} {F : jx_F} (hg : jx_more h x pc lo r = some (.inl F)) : h.length ≤ F.2.2.2.length ∧ jx_vol T h ≤ jx_vol T F.2.2.2 := by
  obtain ⟨_, rfl⟩ := jx_more_some hg
  exact jx_grow_push T h _
theorem jx_cpy_g {n dp sp : Int32} {a a0 : Nat} {r : List Value} {F : jx_F} (hg : jx_cpy T n dp a sp a0 pc lo r h = some (.inl F)) : h.length ≤ F.2.2.2.length ∧ jx_vol T h ≤ jx_vol T F.2.2.2 := by
  obtain ⟨x, y, ty, hx, _, _, _, _, _, _, _, _, _, _, _, _, rfl⟩ := jx_cpy_some hg
  exact jx_grow_set T hx rfl
theorem jx_gcl_h {b a : Nat} {r : List Value} {F : jx_F} (hg : jx_gcl b a pc lo r h = some (.inl F)) : F.2.2.2 = h := by
  obtain ⟨x, _, _, _, _, rfl⟩ := jx_gcl_some hg
  rfl
set_option maxHeartbeats 8000000 in
theorem jx_do_grow {F : jx_F} (hdo : jx_do T cd own pc rt i lo st h = some (.inl F)) : h.length ≤ F.2.2.2.length ∧ jx_vol T h ≤ jx_vol T F.2.2.2 := by
  have key : F.2.2.2 = h → h.length ≤ F.2.2.2.length ∧ jx_vol T h ≤ jx_vol T F.2.2.2 := fun z => by rw [z]; exact jx_grow_refl T h
  cases i <;> simp only [jx_do] at hdo <;> (repeat' (split at hdo)) <;>
    first
    | (cases hdo; done)
    | exact key (jx_go_h hdo)
    | exact key (jx_br_h hdo)
    | exact key (jx_ld_h hdo)
    | exact key (jx_ald_h hdo)
    | exact key (jx_gcl_h hdo)
    | exact jx_cpy_g hdo
    | exact jx_ast_g hdo
    | exact jx_newa_g hdo
    | exact jx_more_g hdo
    | (cases hdo; exact jx_grow_refl T h)
    | (cases hdo; apply jx_grow_set T; assumption; rfl)
set_option maxHeartbeats 8000000 in
theorem jx_do_throw {a : Nat} {h2 : jx_H} (hdo : jx_do T cd own pc rt i lo st h = some (.inr (.inr (.inr (a, h2))))) : ∃ k ic ci, i = .new k ∧ jx_xc T own k = some (ic, ci) ∧ st = [] ∧ cd (pc + 3) = some .dup ∧ cd (pc + 4) = some (.invokespecial ic) ∧ cd (pc + 7) = some .athrow ∧ h.length < jx_big ∧ a = h.length ∧ h2 = h ++ [.inr (ci, [])] := by
  cases i <;> simp only [jx_do, jx_go, jx_br, jx_ld, jx_ald, jx_ast, jx_newa, jx_more, jx_cpy, jx_gcl] at hdo <;> (repeat' (split at hdo)) <;> first | (cases hdo; done) | skip
  all_goals
    rename_i hx _ _ _ _ _ h3 h4 h7 hc
    obtain ⟨c1, c2⟩ := (Bool.and_eq_true _ _).mp hc
    obtain rfl := of_decide_eq_true c1
    cases hdo
    exact ⟨_, _, _, rfl, hx, rfl, h3, h4, h7, of_decide_eq_true c2, rfl, rfl⟩
theorem jx_grow {T : jx_T} {M : Nat → Option jx_M} : ∀ (f d mi : Nat) (F : jx_F) (hf : jx_H) (o : Option Value ⊕ Nat), jx_ex T M f d mi F = some (hf, o) → F.2.2.2.length ≤ hf.length ∧ jx_vol T F.2.2.2 ≤ jx_vol T hf := by
  intro f
  induction f with
  | zero => intro d mi F hf o h; cases h
  | succ f ih =>
    intro d mi F hf o h
    rw [jx_ex_succ] at h
    unfold jx_one at h
    split at h
    · cases h
    · rename_i own nL rt cd hd hM
      split at h
      · cases h
      · rename_i i hi
        split at h
        · cases h
        · rename_i F2 hdo
          have h1 := jx_do_grow hdo
          have h2 := ih _ _ _ _ _ h
          exact ⟨Nat.le_trans h1.1 h2.1, Nat.le_trans h1.2 h2.2⟩
        · split at h
          · split at h
            · split at h
              · rename_i h2 v hc
                have h1 := ih _ _ _ _ _ hc
                have h3 := ih _ _ _ _ _ h
                exact ⟨Nat.le_trans h1.1 h3.1, Nat.le_trans h1.2 h3.2⟩
              · rename_i h2 a hc
                have h1 := ih _ _ _ _ _ hc
                split at h
                · split at h
                  · have h3 := ih _ _ _ _ _ h
                    exact ⟨Nat.le_trans h1.1 h3.1, Nat.le_trans h1.2 h3.2⟩
                  · cases h
                · cases h
              · cases h
            · cases h
          · cases h
        · cases h
          exact jx_grow_refl T _
        · rename_i a h2 hdo
          cases h
          obtain ⟨_, _, _, _, _, _, _, _, _, _, _, rfl⟩ := jx_do_throw hdo
          exact jx_grow_push T _ _
end JXMONO
