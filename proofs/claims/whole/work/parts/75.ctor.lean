/-! ===== the constructors ===== -/
abbrev jw_C1 : jx_T := jw_TC (fun _ => true)
theorem jw_suR {L : Nat} {xs : Nat → Int32} {mc d : Nat} {E : jx_M} {as : List Value} {h h2 : jx_H} {v : Option Value} (hM : jw_M mc = some E) (hl : (lg_sl as).length ≤ E.2.1) (hc : mc < 1000) (hd : d ≤ 800) (hr : jx_r jw_C1 jw_M d mc (0, jx_in0 E.2.1 as, [], h) (h2, .inl v)) : jw_su L xs mc as h (h2, .inl v) := by
  obtain ⟨f, hr⟩ := hr
  obtain ⟨own, n2, rt, cd, hd9⟩ := E
  exact ⟨v, rfl, Or.inl ⟨f + 0, d + 0, own, n2, rt, cd, hd9, hM, hl, hc, hd, Or.inl ⟨v, rfl, jx_ex_mono (jw_le (fun _ h => h)) 0 f 0 d mc _ _ hr⟩⟩⟩
noncomputable def jw_z0 : Option jx_R := jx_ex jw_C1 jw_M 4000 100 0 (0, jx_in0 me_0.1.2.1 [.ref 0], [], [.inr (0, jw_nf 0)])
def jw_void (x : Option jx_R) : Bool := match x with
  | some (_, .inl none) => true
  | _ => false
def jw_heap (x : Option jx_R) : jx_H := match x with
  | some (h, _) => h
  | none => []
theorem jw_void_ok {x : Option jx_R} (h : jw_void x = true) : x = some (jw_heap x, .inl none) := by
  unfold jw_void at h
  split at h
  · rfl
  · cases h
set_option maxRecDepth 100000 in
theorem jw_z0_ok : jw_void jw_z0 = true := by decide +kernel
noncomputable def jw_hA : jx_H := jw_heap jw_z0
set_option maxRecDepth 100000 in
theorem jw_hA_len : jw_hA.length = 15 := by decide +kernel
noncomputable def jw_z1 : Option jx_R := jx_ex jw_C1 jw_M 4000 100 207 (0, jx_in0 me_207.1.2.1 [.ref 15], [], jw_hA ++ [.inr (16, jw_nf 16)])
set_option maxRecDepth 100000 in
theorem jw_z1_ok : jw_void jw_z1 = true := by decide +kernel
noncomputable def jw_hB : jx_H := jw_heap jw_z1
set_option maxRecDepth 100000 in
theorem jw_hB_len : decide (jw_hB.length < 100) = true := by decide +kernel
