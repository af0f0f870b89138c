/-! ===== what was there before, and the whole at the law's entry ===== -/
theorem jw_lenE : ∀ i, i < 20 → (jw_txL.map List.length).getD i 0 = jw_len i := by decide +kernel
theorem jw_lenS : ∀ i, i < 20 → (jw_txL.map List.length).getD i 0 < 2 ^ 31 := by decide +kernel
theorem jw_spLt : ∀ i, i < 9 → 9 ≤ jw_spL.getD i 0 ∧ jw_spL.getD i 0 < 29 := by decide +kernel
theorem jw_ALt : ∀ i, i < 9 → jw_AL.getD i 0 < 9 := by decide +kernel
/-- the addresses of what was there before -/
def jw_oad (aW aK aV : Nat → Nat) (t0 t1 t2 t3 t4 b : Nat) (j : Nat) : Nat := if j < 9 then aW j else if j < 29 then aK (j - 9) else if j < 49 then aV (j - 29) else match j - 49 with
  | 0 => t0
  | 1 => t1
  | 2 => t2
  | 3 => t3
  | 4 => t4
  | 5 => b
  | 6 => aV 1000
  | _ => aV 1001
def jw_txS : List String := ["", "fromIndex(", ") > toIndex(", ")", " > ", "none", "truth", "number", "text", "list", "object", "sort", "sum", "max", "min", "length", "keys", "values", "reverse", "type"]
def jw_ixR : List Nat := [130, 499, 502, 503, 540, 1231, 1232, 1233, 1234, 1235, 1236, 1719, 1720, 1721, 1722, 1723, 1724, 1725, 1726, 1727]
set_option maxRecDepth 100000 in
theorem jw_sR : ∀ i, i < 20 → tables_1[jw_ixR.getD i 0]? = some (.stringRef (jw_sr.getD i ("", 0)).1 (jw_sr.getD i ("", 0)).2 (jw_txS.getD i "")) := by decide +kernel
/-- two terms that are said to be one reference, from the left to the right -/
theorem jw_eqr {args : Array Value} {s : State} {t u : Term} {a : Nat} (h : (Cond.eq t u).before args s = true) (ht : t.eval args s none [] s = some (.ref a)) : u.eval args s none [] s = some (.ref a) := by
  cases hu : u.eval args s none [] s with
  | none => simp [Cond.before, Cond.holds, Cond.value, ht, hu] at h
  | some v => exact (va_eqv h hu).symm.trans ht |> fun e => by rw [← e]
section JWO
variable {s : State} {args : Array Value} {L b : Nat} {xs : Nat → Int32}
/-- all that is known of them -/
def jw_out (s : State) (L : Nat) (xs : Nat → Int32) (aW aK aV : Nat → Nat) (t0 t1 t2 t3 t4 b : Nat) : Prop :=
  (∀ i, i < 9 → va_O "PickDesk$Word" (aW i) (fun q => s.heap.size ≤ q) s s.heap ∧ va_Z "PickDesk$Word" (jw_wn.getD i "") "LPickDesk$Word;" (.ref (aW i)) (fun q => s.heap.size ≤ q) s s.heap ∧
    va_OF "PickDesk$Word" "spelling" "Ljava/lang/String;" (.ref (aK (jw_spL.getD i 0 - 9))) (aW i) (fun q => s.heap.size ≤ q) s s.heap ∧ va_OF "PickDesk$Word" "takes" "I" (.int (jw_taL.getD i 0)) (aW i) (fun q => s.heap.size ≤ q) s s.heap ∧
    va_OF "java/lang/Enum" "ordinal" "I" (.int (Int32.ofNat i)) (aW i) (fun q => s.heap.size ≤ q) s s.heap) ∧
  (∀ i j, i < 9 → j < 9 → aW i = aW j → i = j) ∧
  vk_S 20 (jw_txL.map List.length) jw_txL aK aV (fun q => s.heap.size ≤ q) s s.heap ∧
  (∀ i, i < 20 → vk_R (jw_sr.getD i ("", 0)).1 (jw_sr.getD i ("", 0)).2 (jw_txS.getD i "") (aK i) s) ∧
  (vk_R "PickDesk$Stage" 13 "" (aK 0) s ∧ vk_R "PickDesk$Step" 15 "" (aK 0) s ∧ vk_R "java/lang/String" 7 "" (aK 0) s) ∧
  (va_T (.object "PickDesk$Word") t0 9 (fun j => .ref (aW (jw_AL.getD j 0))) (fun q => s.heap.size ≤ q) s s.heap ∧ va_Z "PickDesk$Word" "ALL" "[LPickDesk$Word;" (.ref t0) (fun q => s.heap.size ≤ q) s s.heap) ∧
  (va_T .int t1 9 (fun j => .int (jw_SW.getD j 0)) (fun q => s.heap.size ≤ q) s s.heap ∧ va_Z "PickDesk$1" "$SwitchMap$PickDesk$Word" "[I" (.ref t1) (fun q => s.heap.size ≤ q) s s.heap) ∧
  (va_T .byte t2 100 (fun j => .int (jw_D1.getD j 0)) (fun q => s.heap.size ≤ q) s s.heap ∧ va_Z "java/lang/Integer" "DigitOnes" "[B" (.ref t2) (fun q => s.heap.size ≤ q) s s.heap) ∧
  (va_T .byte t3 100 (fun j => .int (jw_D2.getD j 0)) (fun q => s.heap.size ≤ q) s s.heap ∧ va_Z "java/lang/Integer" "DigitTens" "[B" (.ref t3) (fun q => s.heap.size ≤ q) s s.heap) ∧
  (va_T (.object "java/lang/Object") t4 0 (fun _ => .null) (fun q => s.heap.size ≤ q) s s.heap ∧ va_Z "java/util/ArrayList" "DEFAULTCAPACITY_EMPTY_ELEMENTDATA" "[Ljava/lang/Object;" (.ref t4) (fun q => s.heap.size ≤ q) s s.heap) ∧
  va_T .int b L (fun j => .int (xs j)) (fun q => s.heap.size ≤ q) s s.heap ∧
  (va_Z "java/lang/String" "COMPACT_STRINGS" "Z" (.int 1) (fun q => s.heap.size ≤ q) s s.heap ∧ va_Z "java/lang/StringUTF16" "$assertionsDisabled" "Z" (.int 1) (fun q => s.heap.size ≤ q) s s.heap ∧ va_Z "java/lang/StringUTF16" "HI_BYTE_SHIFT" "I" (.int 0) (fun q => s.heap.size ≤ q) s s.heap ∧ va_Z "java/lang/StringUTF16" "LO_BYTE_SHIFT" "I" (.int 8) (fun q => s.heap.size ≤ q) s s.heap)
theorem jw_out_ex (hts : ∀ w ∈ lw_tbl, w.before args s = true) (hp : jw_pre args s) (hX : va_X b L xs s s.heap) : ∃ aW aK aV : Nat → Nat, ∃ t0 t1 t2 t3 t4 : Nat, jw_out s L xs aW aK aV t0 t1 t2 t3 t4 b := by
  have hA : ∀ a : Nat, a < s.heap.size → ¬ (fun q => s.heap.size ≤ q) a := fun a h1 h2 => Nat.not_lt.mpr h2 h1
  obtain ⟨aK, aV, hS, hev⟩ := vk_Sof (args := args) (s := s) (N := 20) (tm := jw_tm) (len := jw_txL.map List.length) (byt := jw_txL) (A := fun q => s.heap.size ≤ q) jw_lenS
    (fun i hi => hp.at _ (jw_s1 i hi)) (fun i hi => hp.at _ (jw_s2 i hi)) (fun i hi => hp.at _ (jw_s3 i hi)) (fun i hi => by rw [jw_lenE i hi]; exact hp.at _ (jw_s4 i hi))
    (fun i hi j hj => by rw [jw_lenE i hi] at hj; exact hp.at _ (jw_s5 i hi j hj))
    (fun i j hi hj hne => by
      have h := hp.at _ (jw_s6 i hi j hj hne)
      split at h
      · exact Or.inl h
      · exact Or.inr h) hA
  have hWex : ∀ i : Nat, ∃ a : Nat, i < 9 → (jw_wt i).eval args s none [] s = some (.ref a) ∧ va_O "PickDesk$Word" a (fun q => s.heap.size ≤ q) s s.heap := by
    intro i
    by_cases hi : i < 9
    · obtain ⟨a, c, cA, kA, q1, -⟩ := Cond.exactly_spec (args := args) (first := s) (o := none) (s := s) (idx := []) (hp.at _ (jw_w1 i hi))
      exact ⟨a, fun _ => ⟨q1, va_Oof (hp.at _ (jw_w1 i hi)) q1 hA⟩⟩
    · exact ⟨0, fun h => absurd h hi⟩
  obtain ⟨aW, hW⟩ := Classical.axiomOfChoice hWex
  have iniW : (Cond.initialized "PickDesk$Word").before args s = true := hts _ (jw_mem 31 (by decide +kernel))
  obtain ⟨t0, ht0, hT0⟩ := va_Tof (tm := jw_tAL) (ty := .object "PickDesk$Word") (N := 9) (f := fun j => .ref (aW (jw_AL.getD j 0))) (A := fun q => s.heap.size ≤ q) (by decide) (hp.at _ jw_AL1) (va_eqt (hp.at _ jw_AL2))
    (fun j hj => va_eqv (hp.at _ (jw_AL3 j hj)) (hW _ (jw_ALt j hj)).1) hA
  obtain ⟨t1, ht1, hT1⟩ := va_Tof (tm := jw_tSW) (ty := .int) (N := 9) (f := fun j => .int (jw_SW.getD j 0)) (A := fun q => s.heap.size ≤ q) (by decide) (hp.at _ jw_SW1) (va_eqt (hp.at _ jw_SW2)) (fun j hj => va_eqt (hp.at _ (jw_SW3 j hj))) hA
  obtain ⟨t2, ht2, hT2⟩ := va_Tof (tm := jw_tD1) (ty := .byte) (N := 100) (f := fun j => .int (jw_D1.getD j 0)) (A := fun q => s.heap.size ≤ q) (by decide) (hp.at _ jw_D11) (va_eqt (hp.at _ jw_D12)) (fun j hj => va_eqt (hp.at _ (jw_D13 j hj))) hA
  obtain ⟨t3, ht3, hT3⟩ := va_Tof (tm := jw_tD2) (ty := .byte) (N := 100) (f := fun j => .int (jw_D2.getD j 0)) (A := fun q => s.heap.size ≤ q) (by decide) (hp.at _ jw_D21) (va_eqt (hp.at _ jw_D22)) (fun j hj => va_eqt (hp.at _ (jw_D23 j hj))) hA
  obtain ⟨t4, ht4, hT4⟩ := va_Tof (tm := jw_tEM) (ty := .object "java/lang/Object") (N := 0) (f := fun _ => .null) (A := fun q => s.heap.size ≤ q) (by decide) (hp.at _ jw_EM1) (va_eqt (hp.at _ jw_EM2)) (fun j hj => absurd hj (Nat.not_lt_zero j)) hA
  refine ⟨aW, aK, aV, t0, t1, t2, t3, t4, fun i hi => ⟨(hW i hi).2, va_Zof (hts _ (jw_mem _ (jw_w5 i hi))) iniW (hW i hi).1 hA, ?_, vk_OFof (hW i hi).1 (va_eqt (hp.at _ (jw_w3 i hi))) hA, vk_OFof (hW i hi).1 (va_eqt (hp.at _ (jw_w2 i hi))) hA⟩, fun i j hi hj e => ?_, hS, fun i hi => ?_, ⟨?_, ?_, ?_⟩,
    ⟨hT0, va_Zof (hts _ (jw_mem 828 (by decide +kernel))) iniW ht0 hA⟩, ⟨hT1, va_Zof (hts _ (jw_mem 1124 (by decide +kernel))) (hts _ (jw_mem 35 (by decide +kernel))) ht1 hA⟩, ⟨hT2, va_Zof (hts _ (jw_mem 312 (by decide +kernel))) (hts _ (jw_mem 18 (by decide +kernel))) ht2 hA⟩, ⟨hT3, va_Zof (hts _ (jw_mem 314 (by decide +kernel))) (hts _ (jw_mem 18 (by decide +kernel))) ht3 hA⟩,
    ⟨hT4, va_Zof (hts _ (jw_mem 764 (by decide +kernel))) (hts _ (jw_mem 28 (by decide +kernel))) ht4 hA⟩, ?_,
    va_Zof (hts _ (jw_mem 60 (by decide +kernel))) (hts _ (jw_mem 5 (by decide +kernel))) (va_eqt (hp.at _ jw_st_cs)) hA, va_Zof (hts _ (jw_mem 281 (by decide +kernel))) (hts _ (jw_mem 6 (by decide +kernel))) (va_eqt (hp.at _ jw_st_ad)) hA, va_Zof (hts _ (jw_mem 283 (by decide +kernel))) (hts _ (jw_mem 6 (by decide +kernel))) (va_eqt (hp.at _ jw_st_hb)) hA, va_Zof (hts _ (jw_mem 285 (by decide +kernel))) (hts _ (jw_mem 6 (by decide +kernel))) (va_eqt (hp.at _ jw_st_lb)) hA⟩
  · have h1 := jw_spLt i hi
    exact vk_OFof (hW i hi).1 (va_eqv (hp.at _ (jw_w4 i hi)) (hev _ (by omega))) hA
  · by_cases hij : i = j
    · exact hij
    · have h := hp.at _ (jw_w6 i hi j hj hij)
      split at h
      · exact absurd e (va_neR h (hW i hi).1 (hW j hj).1)
      · exact absurd e.symm (va_neR h (hW j hj).1 (hW i hi).1)
  · exact vk_R.of (hts _ (jw_mem _ (jw_sR i hi))) (hev i hi)
  · exact vk_R.of (hts _ (jw_mem 793 (by decide +kernel))) (jw_eqr (hp.at _ jw_eq0) (hev 0 (by decide)))
  · exact vk_R.of (hts _ (jw_mem 847 (by decide +kernel))) (jw_eqr (hp.at _ jw_eq1) (hev 0 (by decide)))
  · exact vk_R.of (hts _ (jw_mem 1202 (by decide +kernel))) (jw_eqr (hp.at _ jw_eq2) (hev 0 (by decide)))
  · obtain ⟨scr, h1, h2, h3, h4, h5⟩ := hX
    exact ⟨scr, h1, h2, h3, Nat.le_of_eq h4.symm, by rw [h4], h5, hA _ (Array.getElem?_eq_some_iff.mp h1).1⟩
end JWO
