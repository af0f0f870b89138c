/-! ===== room: the cells of a query's run ===== -/
/-- the words of a query -/
def wnS : List sT → Nat
  | [] => 0
  | st :: l => (if st.1 < 0 then 0 else 1) + wnS l
theorem vl_nul : vl nulV ≤ 12 := by decide
theorem stg_v {W : Nat} {st : sT} {v : vT} (hW : 12 ≤ W) (hs : sgP st) (hp : prP v) (hv : vl v ≤ W) : vl (stgV (stg st v)) ≤ W := by
  have nul := vl_nul
  unfold stgV
  by_cases h0 : (stg st v).1 = 0
  · rw [if_pos h0]
    unfold stg
    rcases hs with ⟨h1, h2, -⟩ | ⟨h1, -⟩
    · rw [if_pos (by omega)]
      cases he : evT (some v) [] st.2.2 with
      | none =>
        show vl nulV ≤ W
        omega
      | some u => exact (evT_I 8 W st.2.2 [] (some v) u (fun e h => stO_ok (h2 e h)) (fun e h => absurd h List.not_mem_nil) (fun w hw => by cases hw; exact ⟨hp.2.1, hp.2.2.1, hv⟩) he).2.2
    · rw [if_neg (by omega)]
      cases hd : (doS st.1 st.2.1 v).2 with
      | none =>
        show vl nulV ≤ W
        omega
      | some u =>
        have := (doS_I hp.1 hp.2.1 hp.2.2.2 hd).2.2
        show vl u ≤ W
        omega
  · rw [if_neg h0]
    omega
theorem rnC_m {W : Nat} (hW : 12 ≤ W) : ∀ (L : List sT) (v : vT), (∀ st ∈ L, sgP st) → prP v → vl v ≤ W → 2 * rnC L v ≤ qnS L * (W + 31) + 12 * wnS L
  | [], _, _, _, _ => Nat.zero_le _
  | st :: L, v, hs, hp, hv => by
    have h1 := hs st List.mem_cons_self
    have ih := rnC_m hW L (stgV (stg st v)) (fun s h => hs s (List.mem_cons_of_mem _ h)) (stg_p h1 hp) (stg_v hW h1 hp hv)
    have e1 : rnC (st :: L) v = stC st v + rnC L (stgV (stg st v)) := rfl
    have e2 : qnS (st :: L) = stS st + qnS L := rfl
    have e4 : wnS (st :: L) = (if st.1 < 0 then 0 else 1) + wnS L := rfl
    have e3 : (stS st + qnS L) * (W + 31) = stS st * (W + 31) + qnS L * (W + 31) := Nat.add_mul _ _ _
    have a : 2 * stC st v ≤ stS st * (W + 31) + 12 * (if st.1 < 0 then 0 else 1) := by
      unfold stC stS
      by_cases hn : st.1 < 0
      · rw [if_pos hn, if_pos hn, if_pos hn]
        have h2 : ∀ e ∈ st.2.2, stO e := by
          rcases h1 with ⟨-, z, -⟩ | ⟨z, -⟩
          · exact z
          · omega
        have b := clT_m (W := W) st.2.2 [] (some v) (fun e h => stO_ok (h2 e h)) ⟨fun e h => absurd h List.not_mem_nil, fun e h => absurd h List.not_mem_nil⟩ (fun w hw => by cases hw; exact ⟨hp.2.1, hv⟩)
        have b : 6 * clT (some v) [] st.2.2 ≤ (0 + st.2.2.length) * (W + 31) := b
        rw [Nat.zero_add] at b
        omega
      · rw [if_neg hn, if_neg hn, if_neg hn]
        omega
    rw [e1, e2, e3, e4]
    omega
