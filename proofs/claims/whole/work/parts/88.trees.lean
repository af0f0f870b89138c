/-! ===== values: a value is its kind, number, text, and the forest of what is in it; a forest's nodes have keys too ===== -/
/-- kind, number, text, key -/
abbrev tI : Type := Int × Int × List Int × List Int
abbrev FT : Type := Std.DTreeMap.Internal.Impl tI (fun _ => Unit)
abbrev fnil : FT := .leaf
abbrev fcons (i : tI) (c n : FT) : FT := .inner 0 i () c n
def fsz : FT → Nat
  | .leaf => 0
  | .inner _ _ _ _ n => fsz n + 1
def fct : FT → Nat
  | .leaf => 0
  | .inner _ _ _ c n => 1 + fct c + fct n
theorem fsz_le : ∀ F : FT, fsz F ≤ fct F
  | .leaf => Nat.le_refl 0
  | .inner _ _ _ c n => by
    have := fsz_le n
    show fsz n + 1 ≤ 1 + fct c + fct n
    omega
