/-! ===== at the law's entry (printed by program: gen9.py) ===== -/
def jw_ssL (c : List (List (Option Instr))) : Bool := c.all fun r => r.all fun x => match x with
  | some i => jx_noSS i
  | none => true
theorem jw_ss_ok {c : List (List (Option Instr))} (h : jw_ssL c = true) : ∀ (pc : Nat) (i : Instr), jw_cd c pc = some i → jx_noSS i = true := by
  intro pc i hi
  unfold jw_cd at hi
  split at hi
  · rename_i x hx
    obtain ⟨-, r, hr, hm⟩ := jw_at_mem hx
    have h1 := List.all_eq_true.mp (List.all_eq_true.mp h r hr) x hm
    subst hi
    exact h1
  · cases hi
theorem jw_find_row {α : Type} {l : List (List (Nat × Nat × α))} {own k : Nat} {x : α} {r : List (Nat × Nat × α)} (hr : l[own]? = some r) (h : jw_find l own k = some x) : ∃ y ∈ r, y.2.1 = k ∧ y.2.2 = x := by
  unfold jw_find at h
  rw [hr] at h
  dsimp only at h
  split at h
  · rename_i y hy
    cases h
    have h1 := List.find?_some hy
    exact ⟨y, List.mem_of_find?_eq_some hy, Nat.eq_of_beq_eq_true h1, rfl⟩
  · cases h
def jw_pv_P (y : Nat × Nat × (Nat × List (Nat × Nat))) : Prop := ∀ q ∈ y.2.2.2, ∃ (r : vw_C) (z : MethodName), jw_cl[q.1]? = some r ∧ (jw_N q.2).1 = z ∧ ∀ s : State, jw_H s → jx_w (.instanceMethod z) s ∧ jx_w (.initialized z.cls) s ∧ jx_w (.methodLink (jw_ow 22) y.2.1 z) s ∧ jx_w (.selects r.1 z z) s ∧ jx_nmh z y.2.2.1
theorem jw_pv_7 : jw_pv_P (22, 7, (1, [(0, 114)])) := List.forall_mem_cons.mpr ⟨⟨jw_c0, ⟨"PickDesk", "letter", "(I)I"⟩, rfl, by decide +kernel, fun s hs => ⟨(hs.1 _ (jw_k3 217 rfl) rfl), (hs.1 _ (jw_k1 1 rfl) rfl), (hs.1 _ (jw_k3 216 rfl) rfl), (hs.1 _ (jw_k3 218 rfl) rfl), ⟨by decide +kernel, by decide +kernel, by decide +kernel⟩⟩⟩, fun _ h => absurd h List.not_mem_nil⟩
theorem jw_pv_17 : jw_pv_P (22, 17, (0, [(0, 122)])) := List.forall_mem_cons.mpr ⟨⟨jw_c0, ⟨"PickDesk", "query", "()I"⟩, rfl, by decide +kernel, fun s hs => ⟨(hs.1 _ (jw_k4 18 rfl) rfl), (hs.1 _ (jw_k1 1 rfl) rfl), (hs.1 _ (jw_k4 17 rfl) rfl), (hs.1 _ (jw_k4 19 rfl) rfl), ⟨by decide +kernel, by decide +kernel, by decide +kernel⟩⟩⟩, fun _ h => absurd h List.not_mem_nil⟩
theorem jw_pv_21 : jw_pv_P (22, 21, (1, [(0, 157)])) := List.forall_mem_cons.mpr ⟨⟨jw_c0, ⟨"PickDesk", "run", "(I)I"⟩, rfl, by decide +kernel, fun s hs => ⟨(hs.1 _ (jw_k5 51 rfl) rfl), (hs.1 _ (jw_k1 1 rfl) rfl), (hs.1 _ (jw_k5 50 rfl) rfl), (hs.1 _ (jw_k5 52 rfl) rfl), ⟨by decide +kernel, by decide +kernel, by decide +kernel⟩⟩⟩, fun _ h => absurd h List.not_mem_nil⟩
theorem jw_pv_33 : jw_pv_P (22, 33, (1, [(16, 210)])) := List.forall_mem_cons.mpr ⟨⟨jw_c16, ⟨"PickDeskModel", "letter", "(I)I"⟩, rfl, by decide +kernel, fun s hs => ⟨(hs.1 _ (jw_k6 197 rfl) rfl), (hs.1 _ (jw_k1 19 rfl) rfl), (hs.1 _ (jw_k6 196 rfl) rfl), (hs.1 _ (jw_k6 198 rfl) rfl), ⟨by decide +kernel, by decide +kernel, by decide +kernel⟩⟩⟩, fun _ h => absurd h List.not_mem_nil⟩
theorem jw_pv_34 : jw_pv_P (22, 34, (0, [(16, 209)])) := List.forall_mem_cons.mpr ⟨⟨jw_c16, ⟨"PickDeskModel", "thrown", "()I"⟩, rfl, by decide +kernel, fun s hs => ⟨(hs.1 _ (jw_k6 193 rfl) rfl), (hs.1 _ (jw_k1 19 rfl) rfl), (hs.1 _ (jw_k6 192 rfl) rfl), (hs.1 _ (jw_k6 194 rfl) rfl), ⟨by decide +kernel, by decide +kernel, by decide +kernel⟩⟩⟩, fun _ h => absurd h List.not_mem_nil⟩
theorem jw_pv_37 : jw_pv_P (22, 37, (0, [(0, 56)])) := List.forall_mem_cons.mpr ⟨⟨jw_c0, ⟨"PickDesk", "load", "()I"⟩, rfl, by decide +kernel, fun s hs => ⟨(hs.1 _ (jw_k2 164 rfl) rfl), (hs.1 _ (jw_k1 1 rfl) rfl), (hs.1 _ (jw_k2 163 rfl) rfl), (hs.1 _ (jw_k2 165 rfl) rfl), ⟨by decide +kernel, by decide +kernel, by decide +kernel⟩⟩⟩, fun _ h => absurd h List.not_mem_nil⟩
theorem jw_pv_40 : jw_pv_P (22, 40, (0, [(16, 211)])) := List.forall_mem_cons.mpr ⟨⟨jw_c16, ⟨"PickDeskModel", "load", "()I"⟩, rfl, by decide +kernel, fun s hs => ⟨(hs.1 _ (jw_k6 201 rfl) rfl), (hs.1 _ (jw_k1 19 rfl) rfl), (hs.1 _ (jw_k6 200 rfl) rfl), (hs.1 _ (jw_k6 202 rfl) rfl), ⟨by decide +kernel, by decide +kernel, by decide +kernel⟩⟩⟩, fun _ h => absurd h List.not_mem_nil⟩
theorem jw_pv_44 : jw_pv_P (22, 44, (0, [(16, 232)])) := List.forall_mem_cons.mpr ⟨⟨jw_c16, ⟨"PickDeskModel", "query", "()I"⟩, rfl, by decide +kernel, fun s hs => ⟨(hs.1 _ (jw_k7 42 rfl) rfl), (hs.1 _ (jw_k1 19 rfl) rfl), (hs.1 _ (jw_k7 41 rfl) rfl), (hs.1 _ (jw_k7 43 rfl) rfl), ⟨by decide +kernel, by decide +kernel, by decide +kernel⟩⟩⟩, fun _ h => absurd h List.not_mem_nil⟩
theorem jw_pv_47 : jw_pv_P (22, 47, (1, [(16, 245)])) := List.forall_mem_cons.mpr ⟨⟨jw_c16, ⟨"PickDeskModel", "run", "(I)I"⟩, rfl, by decide +kernel, fun s hs => ⟨(hs.1 _ (jw_k7 92 rfl) rfl), (hs.1 _ (jw_k1 19 rfl) rfl), (hs.1 _ (jw_k7 91 rfl) rfl), (hs.1 _ (jw_k7 93 rfl) rfl), ⟨by decide +kernel, by decide +kernel, by decide +kernel⟩⟩⟩, fun _ h => absurd h List.not_mem_nil⟩
theorem jw_pv_48 : jw_pv_P (22, 48, (0, [(0, 106)])) := List.forall_mem_cons.mpr ⟨⟨jw_c0, ⟨"PickDesk", "keep", "()I"⟩, rfl, by decide +kernel, fun s hs => ⟨(hs.1 _ (jw_k3 180 rfl) rfl), (hs.1 _ (jw_k1 1 rfl) rfl), (hs.1 _ (jw_k3 179 rfl) rfl), (hs.1 _ (jw_k3 181 rfl) rfl), ⟨by decide +kernel, by decide +kernel, by decide +kernel⟩⟩⟩, fun _ h => absurd h List.not_mem_nil⟩
theorem jw_pv_51 : jw_pv_P (22, 51, (0, [(16, 273)])) := List.forall_mem_cons.mpr ⟨⟨jw_c16, ⟨"PickDeskModel", "keep", "()I"⟩, rfl, by decide +kernel, fun s hs => ⟨(hs.1 _ (jw_k7 202 rfl) rfl), (hs.1 _ (jw_k1 19 rfl) rfl), (hs.1 _ (jw_k7 201 rfl) rfl), (hs.1 _ (jw_k7 203 rfl) rfl), ⟨by decide +kernel, by decide +kernel, by decide +kernel⟩⟩⟩, fun _ h => absurd h List.not_mem_nil⟩
theorem jw_pv_52 : jw_pv_P (22, 52, (1, [(0, 107)])) := List.forall_mem_cons.mpr ⟨⟨jw_c0, ⟨"PickDesk", "result", "(I)I"⟩, rfl, by decide +kernel, fun s hs => ⟨(hs.1 _ (jw_k3 184 rfl) rfl), (hs.1 _ (jw_k1 1 rfl) rfl), (hs.1 _ (jw_k3 183 rfl) rfl), (hs.1 _ (jw_k3 185 rfl) rfl), ⟨by decide +kernel, by decide +kernel, by decide +kernel⟩⟩⟩, fun _ h => absurd h List.not_mem_nil⟩
theorem jw_pv_55 : jw_pv_P (22, 55, (1, [(16, 274)])) := List.forall_mem_cons.mpr ⟨⟨jw_c16, ⟨"PickDeskModel", "result", "(I)I"⟩, rfl, by decide +kernel, fun s hs => ⟨(hs.1 _ (jw_k7 206 rfl) rfl), (hs.1 _ (jw_k1 19 rfl) rfl), (hs.1 _ (jw_k7 205 rfl) rfl), (hs.1 _ (jw_k7 207 rfl) rfl), ⟨by decide +kernel, by decide +kernel, by decide +kernel⟩⟩⟩, fun _ h => absurd h List.not_mem_nil⟩
theorem jw_pv_56 : jw_pv_P (22, 56, (1, [(0, 109)])) := List.forall_mem_cons.mpr ⟨⟨jw_c0, ⟨"PickDesk", "written", "(I)I"⟩, rfl, by decide +kernel, fun s hs => ⟨(hs.1 _ (jw_k3 194 rfl) rfl), (hs.1 _ (jw_k1 1 rfl) rfl), (hs.1 _ (jw_k3 193 rfl) rfl), (hs.1 _ (jw_k3 195 rfl) rfl), ⟨by decide +kernel, by decide +kernel, by decide +kernel⟩⟩⟩, fun _ h => absurd h List.not_mem_nil⟩
theorem jw_pv_59 : jw_pv_P (22, 59, (1, [(16, 280)])) := List.forall_mem_cons.mpr ⟨⟨jw_c16, ⟨"PickDeskModel", "written", "(I)I"⟩, rfl, by decide +kernel, fun s hs => ⟨(hs.1 _ (jw_k7 232 rfl) rfl), (hs.1 _ (jw_k1 19 rfl) rfl), (hs.1 _ (jw_k7 231 rfl) rfl), (hs.1 _ (jw_k7 233 rfl) rfl), ⟨by decide +kernel, by decide +kernel, by decide +kernel⟩⟩⟩, fun _ h => absurd h List.not_mem_nil⟩
theorem jw_pv_60 : jw_pv_P (22, 60, (1, [(0, 112)])) := List.forall_mem_cons.mpr ⟨⟨jw_c0, ⟨"PickDesk", "about", "(I)I"⟩, rfl, by decide +kernel, fun s hs => ⟨(hs.1 _ (jw_k3 208 rfl) rfl), (hs.1 _ (jw_k1 1 rfl) rfl), (hs.1 _ (jw_k3 207 rfl) rfl), (hs.1 _ (jw_k3 209 rfl) rfl), ⟨by decide +kernel, by decide +kernel, by decide +kernel⟩⟩⟩, fun _ h => absurd h List.not_mem_nil⟩
theorem jw_pv_63 : jw_pv_P (22, 63, (1, [(16, 281)])) := List.forall_mem_cons.mpr ⟨⟨jw_c16, ⟨"PickDeskModel", "about", "(I)I"⟩, rfl, by decide +kernel, fun s hs => ⟨(hs.1 _ (jw_k7 236 rfl) rfl), (hs.1 _ (jw_k1 19 rfl) rfl), (hs.1 _ (jw_k7 235 rfl) rfl), (hs.1 _ (jw_k7 237 rfl) rfl), ⟨by decide +kernel, by decide +kernel, by decide +kernel⟩⟩⟩, fun _ h => absurd h List.not_mem_nil⟩
def jw_cv22 : List (Nat × Nat × (Nat × List (Nat × Nat))) := [(22, 7, (1, [(0, 114)])), (22, 17, (0, [(0, 122)])), (22, 21, (1, [(0, 157)])), (22, 33, (1, [(16, 210)])), (22, 34, (0, [(16, 209)])), (22, 37, (0, [(0, 56)])), (22, 40, (0, [(16, 211)])), (22, 44, (0, [(16, 232)])), (22, 47, (1, [(16, 245)])), (22, 48, (0, [(0, 106)])), (22, 51, (0, [(16, 273)])), (22, 52, (1, [(0, 107)])), (22, 55, (1, [(16, 274)])), (22, 56, (1, [(0, 109)])), (22, 59, (1, [(16, 280)])), (22, 60, (1, [(0, 112)])), (22, 63, (1, [(16, 281)]))]
theorem jw_cv22_ok : ∀ y ∈ jw_cv22, jw_pv_P y := List.forall_mem_cons.mpr ⟨jw_pv_7, List.forall_mem_cons.mpr ⟨jw_pv_17, List.forall_mem_cons.mpr ⟨jw_pv_21, List.forall_mem_cons.mpr ⟨jw_pv_33, List.forall_mem_cons.mpr ⟨jw_pv_34, List.forall_mem_cons.mpr ⟨jw_pv_37, List.forall_mem_cons.mpr ⟨jw_pv_40, List.forall_mem_cons.mpr ⟨jw_pv_44, List.forall_mem_cons.mpr ⟨jw_pv_47, List.forall_mem_cons.mpr ⟨jw_pv_48, List.forall_mem_cons.mpr ⟨jw_pv_51, List.forall_mem_cons.mpr ⟨jw_pv_52, List.forall_mem_cons.mpr ⟨jw_pv_55, List.forall_mem_cons.mpr ⟨jw_pv_56, List.forall_mem_cons.mpr ⟨jw_pv_59, List.forall_mem_cons.mpr ⟨jw_pv_60, List.forall_mem_cons.mpr ⟨jw_pv_63, fun _ h => absurd h List.not_mem_nil⟩⟩⟩⟩⟩⟩⟩⟩⟩⟩⟩⟩⟩⟩⟩⟩⟩
theorem jw_cv22_is : jw_cvT[22]? = some jw_cv22 := rfl
def jw_h0 : (Nat × Nat × (Option FieldType × Bool) × (Nat → Option Instr) × List (Nat × Nat × Nat × Nat)) × MethodName × ByteArray := ((22, 4, (some .int, false), jw_cd cd_113, [(0, 9, 12, 13), (0, 9, 15, 15)]), ⟨"PickDeskLaw", "letter", "(LPickDesk;I[J)I"⟩, method_3_code)
theorem jw_hw0 {s : State} (hs : jw_H s) : jx_w (.methodLink (jw_ow 22) 28 jw_h0.2.1) s ∧ jx_w (.static jw_h0.2.1) s ∧ jx_w (.initialized jw_h0.2.1.cls) s ∧ jx_nmh jw_h0.2.1 3 := ⟨(hs.1 _ (jw_k3 211 rfl) rfl), (hs.1 _ (jw_k3 212 rfl) rfl), (hs.1 _ (jw_k1 0 rfl) rfl), ⟨by decide +kernel, by decide +kernel, by decide +kernel⟩⟩
theorem jw_ns0 : ∀ (pc : Nat) (i : Instr), jw_cd cd_113 pc = some i → jx_noSS i = true := jw_ss_ok (by decide +kernel)
theorem jw_hc0 : Cond.codeWith jw_h0.2.1 jw_h0.2.2 jw_h0.1.2.1 jw_h0.1.2.2.1.1 jw_h0.1.2.2.2.2 ∈ jw_WS := jw_WS_mem (jw_k3 213 rfl) rfl
theorem jw_hd0 : ∀ (pc : Nat) (i : Instr), jw_cd cd_113 pc = some i → ∃ len, decode method_3_code pc = .ok (i, len) ∧ (jx_isSwitch i = false → len = jx_len i) := jw_chk_ok ck_113
def jw_h1 : (Nat × Nat × (Option FieldType × Bool) × (Nat → Option Instr) × List (Nat × Nat × Nat × Nat)) × MethodName × ByteArray := ((22, 3, (some .int, false), jw_cd cd_121, [(0, 8, 11, 15)]), ⟨"PickDeskLaw", "query", "(LPickDesk;[J)I"⟩, method_4_code)
theorem jw_hw1 {s : State} (hs : jw_H s) : jx_w (.methodLink (jw_ow 22) 41 jw_h1.2.1) s ∧ jx_w (.static jw_h1.2.1) s ∧ jx_w (.initialized jw_h1.2.1.cls) s ∧ jx_nmh jw_h1.2.1 2 := ⟨(hs.1 _ (jw_k4 14 rfl) rfl), (hs.1 _ (jw_k4 15 rfl) rfl), (hs.1 _ (jw_k1 0 rfl) rfl), ⟨by decide +kernel, by decide +kernel, by decide +kernel⟩⟩
theorem jw_ns1 : ∀ (pc : Nat) (i : Instr), jw_cd cd_121 pc = some i → jx_noSS i = true := jw_ss_ok (by decide +kernel)
theorem jw_hc1 : Cond.codeWith jw_h1.2.1 jw_h1.2.2 jw_h1.1.2.1 jw_h1.1.2.2.1.1 jw_h1.1.2.2.2.2 ∈ jw_WS := jw_WS_mem (jw_k4 16 rfl) rfl
theorem jw_hd1 : ∀ (pc : Nat) (i : Instr), jw_cd cd_121 pc = some i → ∃ len, decode method_4_code pc = .ok (i, len) ∧ (jx_isSwitch i = false → len = jx_len i) := jw_chk_ok ck_121
def jw_h2 : (Nat × Nat × (Option FieldType × Bool) × (Nat → Option Instr) × List (Nat × Nat × Nat × Nat)) × MethodName × ByteArray := ((22, 4, (some .int, false), jw_cd cd_156, [(0, 9, 12, 13)]), ⟨"PickDeskLaw", "run", "(LPickDesk;I[J)I"⟩, method_5_code)
theorem jw_hw2 {s : State} (hs : jw_H s) : jx_w (.methodLink (jw_ow 22) 45 jw_h2.2.1) s ∧ jx_w (.static jw_h2.2.1) s ∧ jx_w (.initialized jw_h2.2.1.cls) s ∧ jx_nmh jw_h2.2.1 3 := ⟨(hs.1 _ (jw_k5 47 rfl) rfl), (hs.1 _ (jw_k5 48 rfl) rfl), (hs.1 _ (jw_k1 0 rfl) rfl), ⟨by decide +kernel, by decide +kernel, by decide +kernel⟩⟩
theorem jw_ns2 : ∀ (pc : Nat) (i : Instr), jw_cd cd_156 pc = some i → jx_noSS i = true := jw_ss_ok (by decide +kernel)
theorem jw_hc2 : Cond.codeWith jw_h2.2.1 jw_h2.2.2 jw_h2.1.2.1 jw_h2.1.2.2.1.1 jw_h2.1.2.2.2.2 ∈ jw_WS := jw_WS_mem (jw_k5 49 rfl) rfl
theorem jw_hd2 : ∀ (pc : Nat) (i : Instr), jw_cd cd_156 pc = some i → ∃ len, decode method_5_code pc = .ok (i, len) ∧ (jx_isSwitch i = false → len = jx_len i) := jw_chk_ok ck_156
def cd_law : List (List (Option Instr)) := [[some (.new 8), none, none, some (.dup), some (.invokespecial 24), none, none, some (.astore_n 1), some (.new 25), none, none, some (.dup), some (.invokespecial 27), none, none, some (.astore_n 2)],
  [some (.iconst 1), some (.newarray .long), none, some (.astore_n 3), some (.iconst 0), some (.istore 4), none, some (.iload 4), none, some (.aload_n 0), some (.arraylength), some (.iconst 2), some (.isub), some (.if_icmp .gt 318), none, none],
  [some (.aload_n 0), some (.iload 4), none, some (.iaload), some (.bipush 7), none, some (.iand), some (.tableswitch 302 0 7 #[45, 101, 114, 158, 214, 227, 252, 277]), none, none, none, none, none, none, none, none],
  [none, none, none, none, none, none, none, none, none, none, none, none, none, none, none, none],
  [none, none, none, none, none, none, none, none, none, none, none, none, none, none, none, none],
  [none, none, none, none, some (.aload_n 1), some (.aload_n 0), some (.iload 4), none, some (.iconst 1), some (.iadd), some (.iaload), some (.aload_n 3), some (.invokestatic 28), none, none, some (.istore 5)],
  [none, some (.aload_n 2), some (.aload_n 0), some (.iload 4), none, some (.iconst 1), some (.iadd), some (.iaload), some (.invokevirtual 33), none, none, some (.istore 6), none, some (.aload_n 2), some (.invokevirtual 34), none],
  [none, some (.iload 5), none, some (.if_icmp .eq 5), none, none, some (.iconst 0), some (.ireturn), some (.iload 5), none, some (.ifCond .ne 15), none, none, some (.aload_n 3), some (.iconst 0), some (.laload)],
  [some (.iload 6), none, some (.i2l), some (.lcmp), some (.ifCond .eq 5), none, none, some (.iconst 0), some (.ireturn), some (.goto 204), none, none, some (.aload_n 1), some (.invokevirtual 37), none, none],
  [some (.aload_n 2), some (.invokevirtual 40), none, none, some (.if_icmp .eq 193), none, none, some (.iconst 0), some (.ireturn), some (.aload_n 1), some (.aload_n 3), some (.invokestatic 41), none, none, some (.istore 5), none],
  [some (.aload_n 2), some (.invokevirtual 44), none, none, some (.istore 6), none, some (.aload_n 2), some (.invokevirtual 34), none, none, some (.iload 5), none, some (.if_icmp .eq 5), none, none, some (.iconst 0)],
  [some (.ireturn), some (.iload 5), none, some (.ifCond .ne 15), none, none, some (.aload_n 3), some (.iconst 0), some (.laload), some (.iload 6), none, some (.i2l), some (.lcmp), some (.ifCond .eq 5), none, none],
  [some (.iconst 0), some (.ireturn), some (.goto 147), none, none, some (.aload_n 1), some (.aload_n 0), some (.iload 4), none, some (.iconst 1), some (.iadd), some (.iaload), some (.aload_n 3), some (.invokestatic 45), none, none],
  [some (.istore 5), none, some (.aload_n 2), some (.aload_n 0), some (.iload 4), none, some (.iconst 1), some (.iadd), some (.iaload), some (.invokevirtual 47), none, none, some (.istore 6), none, some (.aload_n 2), some (.invokevirtual 34)],
  [none, none, some (.iload 5), none, some (.if_icmp .eq 5), none, none, some (.iconst 0), some (.ireturn), some (.iload 5), none, some (.ifCond .ne 15), none, none, some (.aload_n 3), some (.iconst 0)],
  [some (.laload), some (.iload 6), none, some (.i2l), some (.lcmp), some (.ifCond .eq 5), none, none, some (.iconst 0), some (.ireturn), some (.goto 91), none, none, some (.aload_n 1), some (.invokevirtual 48), none],
  [none, some (.aload_n 2), some (.invokevirtual 51), none, none, some (.if_icmp .eq 80), none, none, some (.iconst 0), some (.ireturn), some (.aload_n 1), some (.aload_n 0), some (.iload 4), none, some (.iconst 1), some (.iadd)],
  [some (.iaload), some (.invokevirtual 52), none, none, some (.aload_n 2), some (.aload_n 0), some (.iload 4), none, some (.iconst 1), some (.iadd), some (.iaload), some (.invokevirtual 55), none, none, some (.if_icmp .eq 55), none],
  [none, some (.iconst 0), some (.ireturn), some (.aload_n 1), some (.aload_n 0), some (.iload 4), none, some (.iconst 1), some (.iadd), some (.iaload), some (.invokevirtual 56), none, none, some (.aload_n 2), some (.aload_n 0), some (.iload 4)],
  [none, some (.iconst 1), some (.iadd), some (.iaload), some (.invokevirtual 59), none, none, some (.if_icmp .eq 30), none, none, some (.iconst 0), some (.ireturn), some (.aload_n 1), some (.aload_n 0), some (.iload 4), none],
  [some (.iconst 1), some (.iadd), some (.iaload), some (.invokevirtual 60), none, none, some (.aload_n 2), some (.aload_n 0), some (.iload 4), none, some (.iconst 1), some (.iadd), some (.iaload), some (.invokevirtual 63), none, none],
  [some (.if_icmp .eq 5), none, none, some (.iconst 0), some (.ireturn), some (.iinc 4 2), none, none, some (.goto (-321)), none, none, some (.iconst 1), some (.ireturn)]]
set_option maxRecDepth 100000 in
theorem ck_law : jw_chk code cd_law = true := by decide +kernel
def jw_hs : jx_Hs := fun n => match n with
  | 1000 => some jw_h0
  | 1001 => some jw_h1
  | 1002 => some jw_h2
  | _ => none
def jw_xs : Nat → Option (Nat × Nat) := fun k => match k with
  | 28 => some (1000, 3)
  | 41 => some (1001, 2)
  | 45 => some (1002, 3)
  | _ => none
theorem jw_hs_some {n : Nat} {x : (Nat × Nat × (Option FieldType × Bool) × (Nat → Option Instr) × List (Nat × Nat × Nat × Nat)) × MethodName × ByteArray} (h : jw_hs n = some x) : (n = 1000 ∧ x = jw_h0) ∨ (n = 1001 ∧ x = jw_h1) ∨ (n = 1002 ∧ x = jw_h2) := by
  unfold jw_hs at h
  split at h
  · cases h; exact Or.inl ⟨rfl, rfl⟩
  · cases h; exact Or.inr (Or.inl ⟨rfl, rfl⟩)
  · cases h; exact Or.inr (Or.inr ⟨rfl, rfl⟩)
  · cases h
theorem jw_xs_some {k mc n : Nat} (h : jw_xs k = some (mc, n)) : (k = 28 ∧ mc = 1000 ∧ n = 3) ∨ (k = 41 ∧ mc = 1001 ∧ n = 2) ∨ (k = 45 ∧ mc = 1002 ∧ n = 3) := by
  unfold jw_xs at h
  split at h
  · cases h; exact Or.inl ⟨rfl, rfl, rfl⟩
  · cases h; exact Or.inr (Or.inl ⟨rfl, rfl, rfl⟩)
  · cases h; exact Or.inr (Or.inr ⟨rfl, rfl, rfl⟩)
  · cases h
theorem jw_hok {s : State} (hs : jw_H s) : jx_hok jw_ow jw_WS jw_M jw_hs jw_xs 22 s := by
  refine ⟨fun mc x h => ?_, fun k mc n h => ?_⟩
  · rcases jw_hs_some h with ⟨rfl, rfl⟩ | ⟨rfl, rfl⟩ | ⟨rfl, rfl⟩
    · exact ⟨by decide, by decide +kernel, by decide +kernel, rfl, rfl, jw_hd0, jw_ns0, jw_hc0, by decide⟩
    · exact ⟨by decide, by decide +kernel, by decide +kernel, rfl, rfl, jw_hd1, jw_ns1, jw_hc1, by decide⟩
    · exact ⟨by decide, by decide +kernel, by decide +kernel, rfl, rfl, jw_hd2, jw_ns2, jw_hc2, by decide⟩
  · rcases jw_xs_some h with ⟨rfl, rfl, rfl⟩ | ⟨rfl, rfl, rfl⟩ | ⟨rfl, rfl, rfl⟩
    · refine ⟨by decide, fun x hx => ?_⟩
      cases hx
      exact jw_hw0 hs
    · refine ⟨by decide, fun x hx => ?_⟩
      cases hx
      exact jw_hw1 hs
    · refine ⟨by decide, fun x hx => ?_⟩
      cases hx
      exact jw_hw2 hs
theorem jw_plV {s : State} {wr : Nat → Bool} {L : Nat} {xs : Nat → Int32} (hs : jw_H s) : jx_plV (jw_T wr L xs) jw_cl jw_ow jw_N 22 s := by
  intro k n g ci m2 h hg
  have h : jw_cv 22 k = some (n, g) := h
  unfold jw_cv at h
  split at h
  · rename_i x hx
    cases h
    obtain ⟨y, hy, rfl, rfl⟩ := jw_find_row jw_cv22_is hx
    obtain ⟨r, z, h1, hz, hk⟩ := jw_cv22_ok y hy _ (jw_ls_mem hg)
    refine ⟨r, h1, ?_⟩
    rw [show (jw_N m2).1 = z from hz]
    exact hk s hs
  · cases h
theorem jw_lt_cs : ∀ r ∈ jw_csT, ∀ y ∈ r, y.2.2.1 < 1000 := fun r hr y hy => of_decide_eq_true (List.all_eq_true.mp (List.all_eq_true.mp (show (jw_csT.all fun r => r.all fun y => decide (y.2.2.1 < 1000)) = true by decide +kernel) r hr) y hy)
theorem jw_lt_cv : ∀ r ∈ jw_cvT, ∀ y ∈ r, ∀ q ∈ y.2.2.2, q.2 < 1000 := fun r hr y hy q hq => of_decide_eq_true (List.all_eq_true.mp (List.all_eq_true.mp (List.all_eq_true.mp (show (jw_cvT.all fun r => r.all fun y => y.2.2.2.all fun q => decide (q.2 < 1000)) = true by decide +kernel) r hr) y hy) q hq)
theorem jw_lt_cp : ∀ r ∈ jw_cpT, ∀ y ∈ r, y.2.2.2 < 1000 := fun r hr y hy => of_decide_eq_true (List.all_eq_true.mp (List.all_eq_true.mp (show (jw_cpT.all fun r => r.all fun y => decide (y.2.2.2 < 1000)) = true by decide +kernel) r hr) y hy)
theorem jw_lt {wr : Nat → Bool} {L : Nat} {xs : Nat → Int32} (own k : Nat) : (∀ m2 n, jx_cs (jw_T wr L xs) own k = some (m2, n) → m2 < 1000) ∧ (∀ n g ci m2, jx_cv (jw_T wr L xs) own k = some (n, g) → g ci = some m2 → m2 < 1000) ∧ ∀ n g ci m2, jx_cp (jw_T wr L xs) own k = some (n, g) → g ci = some m2 → m2 < 1000 := by
  refine ⟨fun m2 n h => ?_, fun n g ci m2 h hg => ?_, fun n g ci m2 h hg => ?_⟩
  · have h : jw_find jw_csT own k = some (m2, n) := h
    exact jw_find_ok (P := fun y => y.2.2.1 < 1000) jw_csT_i h jw_lt_cs
  · have h : jw_cv own k = some (n, g) := h
    unfold jw_cv at h
    split at h
    · rename_i x hx
      cases h
      exact jw_find_ok (P := fun y => ∀ q ∈ y.2.2.2, q.2 < 1000) jw_cvT_i hx jw_lt_cv _ (jw_ls_mem hg)
    · cases h
  · have h : jw_cp own k = some (n, g) := h
    unfold jw_cp at h
    split at h
    · rename_i x hx
      cases h
      dsimp only at hg
      split at hg
      · cases hg
        exact jw_find_ok (P := fun y => y.2.2.2 < 1000) jw_cpT_i hx jw_lt_cp
      · cases hg
    · cases h
def jw_xin (a : Cond) : Bool := match a with
  | .isRef _ => true
  | _ => tables_1.any fun w => decide (w = a)
def jw_xrf (a : Cond) : Bool := match a with
  | .isRef t => decide (t = .static "java/lang/Throwable" "UNASSIGNED_STACK" "[Ljava/lang/StackTraceElement;") || decide (t = .static "java/lang/Throwable" "SUPPRESSED_SENTINEL" "Ljava/util/List;")
  | _ => true
abbrev jw_xn : List String := ["java/lang/RuntimeException", "java/lang/Exception"]
set_option maxRecDepth 100000 in
theorem jw_xa0 : ((Bundle.ownAtoms0 "PickDesk" 77 "java/lang/IllegalArgumentException" jw_xn).all fun a => jw_xin a && jw_xrf a && jx_mv a) = true := by decide +kernel
set_option maxRecDepth 100000 in
theorem jw_xa1 : ((Bundle.ownAtoms0 "PickDesk" 84 "java/lang/IllegalStateException" jw_xn).all fun a => jw_xin a && jw_xrf a && jx_mv a) = true := by decide +kernel
section JWX
variable {s : State} {args : Array Value} {G : jx_G}
set_option maxRecDepth 100000 in
theorem jw_rf (hp : jw_pre args s) : (Cond.isRef (.static "java/lang/Throwable" "UNASSIGNED_STACK" "[Ljava/lang/StackTraceElement;")).before args s = true ∧ (Cond.isRef (.static "java/lang/Throwable" "SUPPRESSED_SENTINEL" "Ljava/util/List;")).before args s = true := ⟨hp.at 215 (by decide +kernel), hp.at 216 (by decide +kernel)⟩
theorem jw_xt (hts : ∀ w ∈ lw_tbl, w.before args s = true) (hp : jw_pre args s) (hG : G.1 = s.heap.size) : jx_xt G s.heap s := by
  have hA : ∀ a : Nat, a < s.heap.size → ¬ (G.1 ≤ a) := fun a ha => by rw [hG]; omega
  intro x hx
  rcases List.mem_cons.mp hx with rfl | hx
  · exact va_Zqof (hts _ (jw_k3 4 rfl)) (hts _ (jw_k1 20 rfl)) (jw_rf hp).1 hA
  · rcases List.mem_cons.mp hx with rfl | hx
    · exact va_Zqof (hts _ (jw_k3 6 rfl)) (hts _ (jw_k1 20 rfl)) (jw_rf hp).2 hA
    · cases hx
theorem jw_xat (hts : ∀ w ∈ lw_tbl, w.before args s = true) (hp : jw_pre args s) (hG : G.1 = s.heap.size) {a : Cond} (ha : (jw_xin a && jw_xrf a && jx_mv a) = true) : jx_mv a = true ∧ a.before #[] s = true := by
  obtain ⟨h12, h3⟩ := (Bool.and_eq_true _ _).mp ha
  obtain ⟨h1, h2⟩ := (Bool.and_eq_true _ _).mp h12
  refine ⟨h3, jx_mv_move (A := args) hG (State.WarmedH.refl s) (fun q _ => rfl) (jw_xt hts hp hG) h3 ?_⟩
  have key : (tables_1.any fun w => decide (w = a)) = true → a.before args s = true := by
    intro h
    obtain ⟨w, hw, he⟩ := List.any_eq_true.mp h
    obtain rfl := of_decide_eq_true he
    exact hts _ (List.mem_append_right _ hw)
  unfold jw_xin at h1
  split at h1
  · rename_i t
    rcases (Bool.or_eq_true _ _).mp h2 with h | h
    · obtain rfl := of_decide_eq_true h
      exact (jw_rf hp).1
    · obtain rfl := of_decide_eq_true h
      exact (jw_rf hp).2
  · exact key h1
theorem jw_fit : Bundle.fit "java/lang/IllegalArgumentException" = true ∧ Bundle.fit "java/lang/IllegalStateException" = true ∧ ∀ n ∈ jw_xn, Bundle.fit n = true := by decide +kernel
theorem jw_xok {wr : Nat → Bool} {L : Nat} {xs : Nat → Int32} (hts : ∀ w ∈ lw_tbl, w.before args s = true) (hp : jw_pre args s) (hG : G.1 = s.heap.size) (hG2 : 16 < G.2.2.2.2.2) : jx_xok (jw_T wr L xs) jw_cl jw_ow G s := by
  have hs := jw_H.of hts
  intro own k ic ci h
  have h : jw_find jw_xcT own k = some (ic, ci) := h
  have hP : ∀ r ∈ jw_xcT, ∀ y ∈ r, y = (0, 75, (77, 8)) ∨ y = (0, 82, (84, 10)) := by decide +kernel
  rcases jw_find_ok (P := fun y => y = (0, 75, (77, 8)) ∨ y = (0, 82, (84, 10))) jw_xcT_i h hP with e | e
  · cases e
    exact ⟨"java/lang/IllegalArgumentException", jw_c8.2.1, jw_xn, rfl, by omega, by rfl, jw_fit.1, jw_fit.2.2, by decide, fun a ha => jw_xat hts hp hG (List.all_eq_true.mp jw_xa0 a ha), (hs.1 _ (jw_k3 220 rfl) rfl), (hs.1 _ (jw_k1 23 rfl) rfl)⟩
  · cases e
    exact ⟨"java/lang/IllegalStateException", jw_c10.2.1, jw_xn, rfl, by omega, by rfl, jw_fit.2.1, jw_fit.2.2, by decide, fun a ha => jw_xat hts hp hG (List.all_eq_true.mp jw_xa1 a ha), (hs.1 _ (jw_k3 235 rfl) rfl), (hs.1 _ (jw_k1 24 rfl) rfl)⟩
/-- all that the abstract machine asks, at the law's entry -/
theorem jw_all {l : Launch} (hl : l.stackTraces = false) {L b : Nat} {xs : Nat → Int32} (hts : ∀ w ∈ lw_tbl, w.before args s = true) (hp : jw_pre args s) (hX : va_X b L xs s s.heap) :
    ∃ (G : jx_G) (xs2 : Nat → Int32), G.1 = s.heap.size ∧ G.2.1 54 = b ∧ jx_cx (jw_T (fun _ => true) L xs2) (jw_T (fun _ => false) L xs2) jw_cl jw_ow G s jw_M jw_N jw_WS l ∧ jx_en2 (jw_T (fun _ => true) L xs2) (jw_T (fun _ => false) L xs2) jw_cl jw_ow G s jw_N jw_WS 22 s ∧ jx_hok jw_ow jw_WS jw_M jw_hs jw_xs 22 s := by
  obtain ⟨G, xs2, h1, h2, h3⟩ := jw_env_ex hts hp hX
  have hs := jw_H.of hts
  have hG2 : 16 < G.2.2.2.2.2 := ((h3 (fun _ => true)).1.2.2.2.2.2.1 22 25 16 (show jw_find jw_nwT 22 25 = some 16 by decide +kernel)).1
  exact ⟨G, xs2, h1, h2, ⟨jw_mok, h1, fun _ => rfl, jw_xt hts hp h1, jw_xok hts hp h1 hG2, hl⟩, ⟨h3 _, h3 _, State.WarmedH.refl s, jw_plV hs⟩, jw_hok hs⟩
end JWX
