/-! ===== runs without fuel ===== -/
/-- what the smaller tables say, the larger ones say too -/
def jx_le (T' T : jx_T) : Prop := (∀ (cd : Nat → Option Instr) (own pc : Nat) (rt : Option FieldType × Bool) (i : Instr) (lo : jx_L) (st : List Value) (h : jx_H) (x : jx_A), jx_do T' cd own pc rt i lo st h = some x → jx_do T cd own pc rt i lo st h = some x) ∧ ∀ (h : jx_H) (a ci : Nat), jx_cls T' h a = some ci → jx_cls T h a = some ci
theorem jx_le_refl (T : jx_T) : jx_le T T := ⟨fun _ _ _ _ _ _ _ _ _ h => h, fun _ _ _ h => h⟩
theorem jx_one_mono {T T' : jx_T} {M : Nat → Option jx_M} {ih ih' : Nat → Nat → jx_F → Option jx_R} {k : Nat} (hT : jx_le T' T) (hI : ∀ (d mi : Nat) (F : jx_F) (r : jx_R), ih d mi F = some r → ih' (d + k) mi F = some r) (d mi : Nat) (F : jx_F) (r : jx_R) (h : jx_one T' M ih d mi F = some r) : jx_one T M ih' (d + k) mi F = some r := by
  unfold jx_one at h ⊢
  cases hM : M mi with
  | none => rw [hM] at h; cases h
  | some E =>
    obtain ⟨own, nL, rt, cd, hd⟩ := E
    rw [hM] at h
    dsimp only at h ⊢
    cases hcd : cd F.1 with
    | none => rw [hcd] at h; cases h
    | some i =>
      rw [hcd] at h
      dsimp only at h ⊢
      cases hdo : jx_do T' cd own F.1 rt i F.2.1 F.2.2.1 F.2.2.2 with
      | none => rw [hdo] at h; cases h
      | some x =>
        rw [hdo] at h
        rw [hT.1 _ _ _ _ _ _ _ _ _ hdo]
        rcases x with F2 | ⟨m2, as, r2⟩ | v | ⟨a, h2⟩
        · exact hI _ _ _ _ h
        · dsimp only at h ⊢
          cases d with
          | zero => cases h
          | succ d2 =>
            rw [show d2 + 1 + k = (d2 + k) + 1 from by omega]
            cases hM2 : M m2 with
            | none => rw [hM2] at h; cases h
            | some E2 =>
              obtain ⟨own2, n2, rt2, cd2, hd2⟩ := E2
              rw [hM2] at h
              dsimp only at h ⊢
              split at h
              · rename_i hc
                rw [if_pos hc]
                cases hr : ih d2 m2 (0, jx_in0 n2 as, [], F.2.2.2) with
                | none => rw [hr] at h; cases h
                | some y =>
                  rw [hr] at h
                  rw [hI _ _ _ _ hr]
                  obtain ⟨h3, v | a⟩ := y
                  · dsimp only at h ⊢
                    rw [show (d2 + k) + 1 = (d2 + 1) + k from by omega]
                    exact hI _ _ _ _ h
                  · dsimp only at h ⊢
                    cases hc2 : jx_cls T' h3 a with
                    | none => rw [hc2] at h; cases h
                    | some ci =>
                      rw [hc2] at h
                      rw [hT.2 _ _ _ hc2]
                      dsimp only at h ⊢
                      cases hh : hd F.1 ci with
                      | none => rw [hh] at h; cases h
                      | some pc2 =>
                        rw [hh] at h
                        dsimp only at h ⊢
                        rw [show (d2 + k) + 1 = (d2 + 1) + k from by omega]
                        exact hI _ _ _ _ h
              · cases h
        · exact h
        · exact h
theorem jx_ex_mono {T T' : jx_T} {M : Nat → Option jx_M} (hT : jx_le T' T) (k : Nat) : ∀ (f n d mi : Nat) (F : jx_F) (r : jx_R), jx_ex T' M f d mi F = some r → jx_ex T M (f + n) (d + k) mi F = some r := by
  intro f
  induction f with
  | zero => intro n d mi F r h; cases h
  | succ f ih =>
    intro n d mi F r h
    rw [show f + 1 + n = (f + n) + 1 from by omega, jx_ex_succ]
    exact jx_one_mono hT (fun d mi F r h => ih n d mi F r h) d mi F r h
/-- from this frame on the method comes to this end, at most d calls deep -/
def jx_r (T : jx_T) (M : Nat → Option jx_M) (d mi : Nat) (F : jx_F) (r : jx_R) : Prop := ∃ f, jx_ex T M f d mi F = some r
theorem jx_r.up {T T' : jx_T} {M : Nat → Option jx_M} {d mi : Nat} {F : jx_F} {r : jx_R} (hT : jx_le T' T) {d' : Nat} (hd : d ≤ d') (h : jx_r T' M d mi F r) : jx_r T M d' mi F r := by
  obtain ⟨f, h⟩ := h
  obtain ⟨k, rfl⟩ := Nat.exists_eq_add_of_le hd
  exact ⟨f + 0, jx_ex_mono hT k f 0 d mi F r h⟩
section JXRR
variable {T : jx_T} {M : Nat → Option jx_M} {d mi own nL : Nat} {rt : Option FieldType × Bool} {cd : Nat → Option Instr} {hd : Nat → Nat → Option Nat} {F F2 : jx_F} {r : jx_R} {i : Instr}
theorem jx_r1 (hM : M mi = some (own, nL, rt, cd, hd)) (hi : cd F.1 = some i) (hdo : jx_do T cd own F.1 rt i F.2.1 F.2.2.1 F.2.2.2 = some (.inl F2)) (k : jx_r T M d mi F2 r) : jx_r T M d mi F r := by
  obtain ⟨f, k⟩ := k
  refine ⟨f + 1, ?_⟩
  rw [jx_ex_succ]
  unfold jx_one
  rw [hM]
  dsimp only
  rw [hi]
  dsimp only
  rw [hdo]
  exact k
theorem jx_rv (hM : M mi = some (own, nL, rt, cd, hd)) (hi : cd F.1 = some i) {v : Option Value} (hdo : jx_do T cd own F.1 rt i F.2.1 F.2.2.1 F.2.2.2 = some (.inr (.inr (.inl v)))) : jx_r T M d mi F (F.2.2.2, .inl v) := by
  refine ⟨1, ?_⟩
  rw [jx_ex_succ]
  unfold jx_one
  rw [hM]
  dsimp only
  rw [hi]
  dsimp only
  rw [hdo]
theorem jx_rx (hM : M mi = some (own, nL, rt, cd, hd)) (hi : cd F.1 = some i) {a : Nat} {h2 : jx_H} (hdo : jx_do T cd own F.1 rt i F.2.1 F.2.2.1 F.2.2.2 = some (.inr (.inr (.inr (a, h2))))) : jx_r T M d mi F (h2, .inr a) := by
  refine ⟨1, ?_⟩
  rw [jx_ex_succ]
  unfold jx_one
  rw [hM]
  dsimp only
  rw [hi]
  dsimp only
  rw [hdo]
theorem jx_rc (hM : M mi = some (own, nL, rt, cd, hd)) (hi : cd F.1 = some i) {m2 : Nat} {as s2 : List Value} (hdo : jx_do T cd own F.1 rt i F.2.1 F.2.2.1 F.2.2.2 = some (.inr (.inl (m2, as, s2)))) {own2 n2 : Nat} {rt2 : Option FieldType × Bool} {cd2 : Nat → Option Instr} {hd2 : Nat → Nat → Option Nat} (hM2 : M m2 = some (own2, n2, rt2, cd2, hd2)) (hl : (lg_sl as).length ≤ n2 ∧ m2 < 1000) {h2 : jx_H} {v : Option Value} (hc : jx_r T M d m2 (0, jx_in0 n2 as, [], F.2.2.2) (h2, .inl v)) (k : jx_r T M (d + 1) mi (F.1 + 3, F.2.1, v.toList ++ s2, h2) r) : jx_r T M (d + 1) mi F r := by
  obtain ⟨f1, hc⟩ := hc
  obtain ⟨f2, k⟩ := k
  refine ⟨(f1 + f2) + 1, ?_⟩
  rw [jx_ex_succ]
  unfold jx_one
  rw [hM]
  dsimp only
  rw [hi]
  dsimp only
  rw [hdo]
  dsimp only
  rw [hM2]
  dsimp only
  rw [if_pos hl, show jx_ex T M (f1 + f2) d m2 (0, jx_in0 n2 as, [], F.2.2.2) = _ from jx_ex_mono (jx_le_refl T) 0 f1 f2 _ _ _ _ hc]
  dsimp only
  rw [show f1 + f2 = f2 + f1 from Nat.add_comm _ _]
  exact jx_ex_mono (jx_le_refl T) 0 f2 f1 _ _ _ _ k
end JXRR
