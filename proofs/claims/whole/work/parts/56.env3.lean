/-! ===== constants and statics (printed by program: gen8.py); the whole environment at the law's entry ===== -/
def jw_G (s : State) (aW aK aV : Nat → Nat) (t0 t1 t2 t3 t4 b : Nat) (fC : Nat → ClassId × (Nat → Nat)) (fA : Nat → ClassId) : jx_G := (s.heap.size, jw_oad aW aK aV t0 t1 t2 t3 t4 b, fun ci => (fC ci).1, fun ci => (fC ci).2, fA, 17)
def jw_gK_P (y : Nat × Nat × Value) : Prop := ∀ (s : State) (L : Nat) (xs : Nat → Int32) (aW aK aV : Nat → Nat) (t0 t1 t2 t3 t4 b : Nat) (fC : Nat → ClassId × (Nat → Nat)) (fA : Nat → ClassId), jw_H s → jw_out s L xs aW aK aV t0 t1 t2 t3 t4 b → (∃ x : Int32, y.2.2 = .int x ∧ jx_w (.constant (jw_ow y.1) y.2.1 x) s) ∨ (∃ x : Int64, y.2.2 = .long x ∧ jx_w (.constantLong (jw_ow y.1) y.2.1 x) s) ∨ ∃ (j : Nat) (tx : String), y.2.2 = .ref (jx_big + j) ∧ vk_R (jw_ow y.1) y.2.1 tx ((jw_G s aW aK aV t0 t1 t2 t3 t4 b fC fA).2.1 j) s
theorem jw_gK_4_39 : jw_gK_P (4, 39, .int 2147483647) := fun s L xs aW aK aV t0 t1 t2 t3 t4 b fC fA hs ho => Or.inl ⟨_, rfl, (hs.1 _ (jw_k1 228 rfl) rfl)⟩
theorem jw_gK_5_20 : jw_gK_P (5, 20, .int 1073741823) := fun s L xs aW aK aV t0 t1 t2 t3 t4 b fC fA hs ho => Or.inl ⟨_, rfl, (hs.1 _ (jw_k1 67 rfl) rfl)⟩
theorem jw_gK_7_133 : jw_gK_P (7, 133, .int 1000000) := fun s L xs aW aK aV t0 t1 t2 t3 t4 b fC fA hs ho => Or.inl ⟨_, rfl, (hs.1 _ (jw_k5 38 rfl) rfl)⟩
theorem jw_gK_7_134 : jw_gK_P (7, 134, .int (-1000000)) := fun s L xs aW aK aV t0 t1 t2 t3 t4 b fC fA hs ho => Or.inl ⟨_, rfl, (hs.1 _ (jw_k5 39 rfl) rfl)⟩
theorem jw_gK_8_32 : jw_gK_P (8, 32, .ref 4294967305) := fun s L xs aW aK aV t0 t1 t2 t3 t4 b fC fA hs ho => Or.inr (Or.inr ⟨9, _, rfl, ho.2.2.2.1 0 (by decide)⟩)
theorem jw_gK_10_152 : jw_gK_P (10, 152, .ref 4294967310) := fun s L xs aW aK aV t0 t1 t2 t3 t4 b fC fA hs ho => Or.inr (Or.inr ⟨14, _, rfl, ho.2.2.2.1 5 (by decide)⟩)
theorem jw_gK_10_153 : jw_gK_P (10, 153, .ref 4294967311) := fun s L xs aW aK aV t0 t1 t2 t3 t4 b fC fA hs ho => Or.inr (Or.inr ⟨15, _, rfl, ho.2.2.2.1 6 (by decide)⟩)
theorem jw_gK_10_155 : jw_gK_P (10, 155, .ref 4294967312) := fun s L xs aW aK aV t0 t1 t2 t3 t4 b fC fA hs ho => Or.inr (Or.inr ⟨16, _, rfl, ho.2.2.2.1 7 (by decide)⟩)
theorem jw_gK_10_156 : jw_gK_P (10, 156, .ref 4294967313) := fun s L xs aW aK aV t0 t1 t2 t3 t4 b fC fA hs ho => Or.inr (Or.inr ⟨17, _, rfl, ho.2.2.2.1 8 (by decide)⟩)
theorem jw_gK_10_157 : jw_gK_P (10, 157, .ref 4294967314) := fun s L xs aW aK aV t0 t1 t2 t3 t4 b fC fA hs ho => Or.inr (Or.inr ⟨18, _, rfl, ho.2.2.2.1 9 (by decide)⟩)
theorem jw_gK_10_159 : jw_gK_P (10, 159, .ref 4294967315) := fun s L xs aW aK aV t0 t1 t2 t3 t4 b fC fA hs ho => Or.inr (Or.inr ⟨19, _, rfl, ho.2.2.2.1 10 (by decide)⟩)
theorem jw_gK_11_200 : jw_gK_P (11, 200, .int 2147483639) := fun s L xs aW aK aV t0 t1 t2 t3 t4 b fC fA hs ho => Or.inl ⟨_, rfl, (hs.1 _ (jw_k1 224 rfl) rfl)⟩
theorem jw_gK_13_48 : jw_gK_P (13, 48, .ref 4294967306) := fun s L xs aW aK aV t0 t1 t2 t3 t4 b fC fA hs ho => Or.inr (Or.inr ⟨10, _, rfl, ho.2.2.2.1 1 (by decide)⟩)
theorem jw_gK_13_57 : jw_gK_P (13, 57, .ref 4294967307) := fun s L xs aW aK aV t0 t1 t2 t3 t4 b fC fA hs ho => Or.inr (Or.inr ⟨11, _, rfl, ho.2.2.2.1 2 (by decide)⟩)
theorem jw_gK_13_59 : jw_gK_P (13, 59, .ref 4294967308) := fun s L xs aW aK aV t0 t1 t2 t3 t4 b fC fA hs ho => Or.inr (Or.inr ⟨12, _, rfl, ho.2.2.2.1 3 (by decide)⟩)
theorem jw_gK_13_337 : jw_gK_P (13, 337, .ref 4294967309) := fun s L xs aW aK aV t0 t1 t2 t3 t4 b fC fA hs ho => Or.inr (Or.inr ⟨13, _, rfl, ho.2.2.2.1 4 (by decide)⟩)
theorem jw_gK_15_7 : jw_gK_P (15, 7, .ref 4294967305) := fun s L xs aW aK aV t0 t1 t2 t3 t4 b fC fA hs ho => Or.inr (Or.inr ⟨9, _, rfl, ho.2.2.2.2.1.2.2⟩)
theorem jw_gK_28_13 : jw_gK_P (28, 13, .ref 4294967305) := fun s L xs aW aK aV t0 t1 t2 t3 t4 b fC fA hs ho => Or.inr (Or.inr ⟨9, _, rfl, ho.2.2.2.2.1.1⟩)
theorem jw_gK_29_70 : jw_gK_P (29, 70, .ref 4294967320) := fun s L xs aW aK aV t0 t1 t2 t3 t4 b fC fA hs ho => Or.inr (Or.inr ⟨24, _, rfl, ho.2.2.2.1 15 (by decide)⟩)
theorem jw_gK_29_76 : jw_gK_P (29, 76, .ref 4294967321) := fun s L xs aW aK aV t0 t1 t2 t3 t4 b fC fA hs ho => Or.inr (Or.inr ⟨25, _, rfl, ho.2.2.2.1 16 (by decide)⟩)
theorem jw_gK_29_79 : jw_gK_P (29, 79, .ref 4294967322) := fun s L xs aW aK aV t0 t1 t2 t3 t4 b fC fA hs ho => Or.inr (Or.inr ⟨26, _, rfl, ho.2.2.2.1 17 (by decide)⟩)
theorem jw_gK_29_82 : jw_gK_P (29, 82, .ref 4294967316) := fun s L xs aW aK aV t0 t1 t2 t3 t4 b fC fA hs ho => Or.inr (Or.inr ⟨20, _, rfl, ho.2.2.2.1 11 (by decide)⟩)
theorem jw_gK_29_85 : jw_gK_P (29, 85, .ref 4294967323) := fun s L xs aW aK aV t0 t1 t2 t3 t4 b fC fA hs ho => Or.inr (Or.inr ⟨27, _, rfl, ho.2.2.2.1 18 (by decide)⟩)
theorem jw_gK_29_88 : jw_gK_P (29, 88, .ref 4294967317) := fun s L xs aW aK aV t0 t1 t2 t3 t4 b fC fA hs ho => Or.inr (Or.inr ⟨21, _, rfl, ho.2.2.2.1 12 (by decide)⟩)
theorem jw_gK_29_91 : jw_gK_P (29, 91, .ref 4294967318) := fun s L xs aW aK aV t0 t1 t2 t3 t4 b fC fA hs ho => Or.inr (Or.inr ⟨22, _, rfl, ho.2.2.2.1 13 (by decide)⟩)
theorem jw_gK_29_94 : jw_gK_P (29, 94, .ref 4294967319) := fun s L xs aW aK aV t0 t1 t2 t3 t4 b fC fA hs ho => Or.inr (Or.inr ⟨23, _, rfl, ho.2.2.2.1 14 (by decide)⟩)
theorem jw_gK_29_97 : jw_gK_P (29, 97, .ref 4294967324) := fun s L xs aW aK aV t0 t1 t2 t3 t4 b fC fA hs ho => Or.inr (Or.inr ⟨28, _, rfl, ho.2.2.2.1 19 (by decide)⟩)
theorem jw_gK_30_15 : jw_gK_P (30, 15, .ref 4294967305) := fun s L xs aW aK aV t0 t1 t2 t3 t4 b fC fA hs ho => Or.inr (Or.inr ⟨9, _, rfl, ho.2.2.2.2.1.2.1⟩)
theorem jw_gK_30_24 : jw_gK_P (30, 24, .int 1000000) := fun s L xs aW aK aV t0 t1 t2 t3 t4 b fC fA hs ho => Or.inl ⟨_, rfl, (hs.1 _ (jw_k4 128 rfl) rfl)⟩
theorem jw_gK_34_136 : jw_gK_P (34, 136, .long 127) := fun s L xs aW aK aV t0 t1 t2 t3 t4 b fC fA hs ho => Or.inr (Or.inl ⟨_, rfl, (hs.1 _ (jw_k7 112 rfl) rfl)⟩)
theorem jw_gK_34_359 : jw_gK_P (34, 359, .long 10) := fun s L xs aW aK aV t0 t1 t2 t3 t4 b fC fA hs ho => Or.inr (Or.inl ⟨_, rfl, (hs.1 _ (jw_k7 225 rfl) rfl)⟩)
theorem jw_gK_34_361 : jw_gK_P (34, 361, .long 48) := fun s L xs aW aK aV t0 t1 t2 t3 t4 b fC fA hs ho => Or.inr (Or.inl ⟨_, rfl, (hs.1 _ (jw_k7 226 rfl) rfl)⟩)
theorem jw_gK_ok : ∀ r ∈ jw_kcT, ∀ y ∈ r, jw_gK_P y := List.forall_mem_cons.mpr ⟨(fun _ h => absurd h List.not_mem_nil), List.forall_mem_cons.mpr ⟨(fun _ h => absurd h List.not_mem_nil), List.forall_mem_cons.mpr ⟨(fun _ h => absurd h List.not_mem_nil), List.forall_mem_cons.mpr ⟨(fun _ h => absurd h List.not_mem_nil), List.forall_mem_cons.mpr ⟨(List.forall_mem_cons.mpr ⟨jw_gK_4_39, fun _ h => absurd h List.not_mem_nil⟩), List.forall_mem_cons.mpr ⟨(List.forall_mem_cons.mpr ⟨jw_gK_5_20, fun _ h => absurd h List.not_mem_nil⟩), List.forall_mem_cons.mpr ⟨(fun _ h => absurd h List.not_mem_nil), List.forall_mem_cons.mpr ⟨(List.forall_mem_cons.mpr ⟨jw_gK_7_133, List.forall_mem_cons.mpr ⟨jw_gK_7_134, fun _ h => absurd h List.not_mem_nil⟩⟩), List.forall_mem_cons.mpr ⟨(List.forall_mem_cons.mpr ⟨jw_gK_8_32, fun _ h => absurd h List.not_mem_nil⟩), List.forall_mem_cons.mpr ⟨(fun _ h => absurd h List.not_mem_nil), List.forall_mem_cons.mpr ⟨(List.forall_mem_cons.mpr ⟨jw_gK_10_152, List.forall_mem_cons.mpr ⟨jw_gK_10_153, List.forall_mem_cons.mpr ⟨jw_gK_10_155, List.forall_mem_cons.mpr ⟨jw_gK_10_156, List.forall_mem_cons.mpr ⟨jw_gK_10_157, List.forall_mem_cons.mpr ⟨jw_gK_10_159, fun _ h => absurd h List.not_mem_nil⟩⟩⟩⟩⟩⟩), List.forall_mem_cons.mpr ⟨(List.forall_mem_cons.mpr ⟨jw_gK_11_200, fun _ h => absurd h List.not_mem_nil⟩), List.forall_mem_cons.mpr ⟨(fun _ h => absurd h List.not_mem_nil), List.forall_mem_cons.mpr ⟨(List.forall_mem_cons.mpr ⟨jw_gK_13_48, List.forall_mem_cons.mpr ⟨jw_gK_13_57, List.forall_mem_cons.mpr ⟨jw_gK_13_59, List.forall_mem_cons.mpr ⟨jw_gK_13_337, fun _ h => absurd h List.not_mem_nil⟩⟩⟩⟩), List.forall_mem_cons.mpr ⟨(fun _ h => absurd h List.not_mem_nil), List.forall_mem_cons.mpr ⟨(List.forall_mem_cons.mpr ⟨jw_gK_15_7, fun _ h => absurd h List.not_mem_nil⟩), List.forall_mem_cons.mpr ⟨(fun _ h => absurd h List.not_mem_nil), List.forall_mem_cons.mpr ⟨(fun _ h => absurd h List.not_mem_nil), List.forall_mem_cons.mpr ⟨(fun _ h => absurd h List.not_mem_nil), List.forall_mem_cons.mpr ⟨(fun _ h => absurd h List.not_mem_nil), List.forall_mem_cons.mpr ⟨(fun _ h => absurd h List.not_mem_nil), List.forall_mem_cons.mpr ⟨(fun _ h => absurd h List.not_mem_nil), List.forall_mem_cons.mpr ⟨(fun _ h => absurd h List.not_mem_nil), List.forall_mem_cons.mpr ⟨(fun _ h => absurd h List.not_mem_nil), List.forall_mem_cons.mpr ⟨(fun _ h => absurd h List.not_mem_nil), List.forall_mem_cons.mpr ⟨(fun _ h => absurd h List.not_mem_nil), List.forall_mem_cons.mpr ⟨(fun _ h => absurd h List.not_mem_nil), List.forall_mem_cons.mpr ⟨(fun _ h => absurd h List.not_mem_nil), List.forall_mem_cons.mpr ⟨(List.forall_mem_cons.mpr ⟨jw_gK_28_13, fun _ h => absurd h List.not_mem_nil⟩), List.forall_mem_cons.mpr ⟨(List.forall_mem_cons.mpr ⟨jw_gK_29_70, List.forall_mem_cons.mpr ⟨jw_gK_29_76, List.forall_mem_cons.mpr ⟨jw_gK_29_79, List.forall_mem_cons.mpr ⟨jw_gK_29_82, List.forall_mem_cons.mpr ⟨jw_gK_29_85, List.forall_mem_cons.mpr ⟨jw_gK_29_88, List.forall_mem_cons.mpr ⟨jw_gK_29_91, List.forall_mem_cons.mpr ⟨jw_gK_29_94, List.forall_mem_cons.mpr ⟨jw_gK_29_97, fun _ h => absurd h List.not_mem_nil⟩⟩⟩⟩⟩⟩⟩⟩⟩), List.forall_mem_cons.mpr ⟨(List.forall_mem_cons.mpr ⟨jw_gK_30_15, List.forall_mem_cons.mpr ⟨jw_gK_30_24, fun _ h => absurd h List.not_mem_nil⟩⟩), List.forall_mem_cons.mpr ⟨(fun _ h => absurd h List.not_mem_nil), List.forall_mem_cons.mpr ⟨(fun _ h => absurd h List.not_mem_nil), List.forall_mem_cons.mpr ⟨(fun _ h => absurd h List.not_mem_nil), List.forall_mem_cons.mpr ⟨(List.forall_mem_cons.mpr ⟨jw_gK_34_136, List.forall_mem_cons.mpr ⟨jw_gK_34_359, List.forall_mem_cons.mpr ⟨jw_gK_34_361, fun _ h => absurd h List.not_mem_nil⟩⟩⟩), fun _ h => absurd h List.not_mem_nil⟩⟩⟩⟩⟩⟩⟩⟩⟩⟩⟩⟩⟩⟩⟩⟩⟩⟩⟩⟩⟩⟩⟩⟩⟩⟩⟩⟩⟩⟩⟩⟩⟩⟩⟩
def jw_gS_P (y : Nat × Nat × Value) : Prop := ∀ (s : State) (L : Nat) (xs : Nat → Int32) (aW aK aV : Nat → Nat) (t0 t1 t2 t3 t4 b : Nat) (fC : Nat → ClassId × (Nat → Nat)) (fA : Nat → ClassId), jw_H s → jw_out s L xs aW aK aV t0 t1 t2 t3 t4 b → ∃ C n d ref : String, va_Z C n d (jx_v (jw_G s aW aK aV t0 t1 t2 t3 t4 b fC fA) y.2.2) (fun q => s.heap.size ≤ q) s s.heap ∧ jx_lk (jw_ow y.1) y.2.1 ref n d s ∧ jx_sm s C ref n d
theorem jw_gS_4_18 : jw_gS_P (4, 18, .int 1) := fun s L xs aW aK aV t0 t1 t2 t3 t4 b fC fA hs ho => ⟨"java/lang/String", "COMPACT_STRINGS", "Z", "java/lang/String", ho.2.2.2.2.2.2.2.2.2.2.2.1, Or.inl (hs.1 _ (jw_k1 59 rfl) rfl), Or.inl rfl⟩
theorem jw_gS_5_44 : jw_gS_P (5, 44, .int 1) := fun s L xs aW aK aV t0 t1 t2 t3 t4 b fC fA hs ho => ⟨"java/lang/StringUTF16", "$assertionsDisabled", "Z", "java/lang/StringUTF16", ho.2.2.2.2.2.2.2.2.2.2.2.2.1, Or.inl (hs.1 _ (jw_k2 40 rfl) rfl), Or.inl rfl⟩
theorem jw_gS_5_59 : jw_gS_P (5, 59, .int 0) := fun s L xs aW aK aV t0 t1 t2 t3 t4 b fC fA hs ho => ⟨"java/lang/StringUTF16", "HI_BYTE_SHIFT", "I", "java/lang/StringUTF16", ho.2.2.2.2.2.2.2.2.2.2.2.2.2.1, Or.inl (hs.1 _ (jw_k2 42 rfl) rfl), Or.inl rfl⟩
theorem jw_gS_5_63 : jw_gS_P (5, 63, .int 8) := fun s L xs aW aK aV t0 t1 t2 t3 t4 b fC fA hs ho => ⟨"java/lang/StringUTF16", "LO_BYTE_SHIFT", "I", "java/lang/StringUTF16", ho.2.2.2.2.2.2.2.2.2.2.2.2.2.2, Or.inl (hs.1 _ (jw_k2 44 rfl) rfl), Or.inl rfl⟩
theorem jw_gS_5_403 : jw_gS_P (5, 403, .ref 4294967347) := fun s L xs aW aK aV t0 t1 t2 t3 t4 b fC fA hs ho => ⟨"java/lang/Integer", "DigitOnes", "[B", "java/lang/Integer", ho.2.2.2.2.2.2.2.1.2, Or.inl (hs.1 _ (jw_k2 90 rfl) rfl), Or.inl rfl⟩
theorem jw_gS_5_407 : jw_gS_P (5, 407, .ref 4294967348) := fun s L xs aW aK aV t0 t1 t2 t3 t4 b fC fA hs ho => ⟨"java/lang/Integer", "DigitTens", "[B", "java/lang/Integer", ho.2.2.2.2.2.2.2.2.1.2, Or.inl (hs.1 _ (jw_k2 91 rfl) rfl), Or.inl rfl⟩
theorem jw_gS_7_102 : jw_gS_P (7, 102, .ref 4294967299) := fun s L xs aW aK aV t0 t1 t2 t3 t4 b fC fA hs ho => ⟨"PickDesk$Word", "SORT", "LPickDesk$Word;", "PickDesk$Word", (ho.1 3 (by decide)).2.1, Or.inl (hs.1 _ (jw_k4 111 rfl) rfl), Or.inl rfl⟩
theorem jw_gS_10_27 : jw_gS_P (10, 27, .ref 4294967301) := fun s L xs aW aK aV t0 t1 t2 t3 t4 b fC fA hs ho => ⟨"PickDesk$Word", "SUM", "LPickDesk$Word;", "PickDesk$Word", (ho.1 5 (by decide)).2.1, Or.inl (hs.1 _ (jw_k5 139 rfl) rfl), Or.inl rfl⟩
theorem jw_gS_10_35 : jw_gS_P (10, 35, .ref 4294967299) := fun s L xs aW aK aV t0 t1 t2 t3 t4 b fC fA hs ho => ⟨"PickDesk$Word", "SORT", "LPickDesk$Word;", "PickDesk$Word", (ho.1 3 (by decide)).2.1, Or.inl (hs.1 _ (jw_k5 154 rfl) rfl), Or.inl rfl⟩
theorem jw_gS_10_38 : jw_gS_P (10, 38, .ref 4294967302) := fun s L xs aW aK aV t0 t1 t2 t3 t4 b fC fA hs ho => ⟨"PickDesk$Word", "MAX", "LPickDesk$Word;", "PickDesk$Word", (ho.1 6 (by decide)).2.1, Or.inl (hs.1 _ (jw_k5 155 rfl) rfl), Or.inl rfl⟩
theorem jw_gS_10_41 : jw_gS_P (10, 41, .ref 4294967303) := fun s L xs aW aK aV t0 t1 t2 t3 t4 b fC fA hs ho => ⟨"PickDesk$Word", "MIN", "LPickDesk$Word;", "PickDesk$Word", (ho.1 7 (by decide)).2.1, Or.inl (hs.1 _ (jw_k5 157 rfl) rfl), Or.inl rfl⟩
theorem jw_gS_10_65 : jw_gS_P (10, 65, .ref 4294967346) := fun s L xs aW aK aV t0 t1 t2 t3 t4 b fC fA hs ho => ⟨"PickDesk$1", "$SwitchMap$PickDesk$Word", "[I", "PickDesk$1", ho.2.2.2.2.2.2.1.2, Or.inl (hs.1 _ (jw_k5 163 rfl) rfl), Or.inl rfl⟩
theorem jw_gS_15_38 : jw_gS_P (15, 38, .int 1) := fun s L xs aW aK aV t0 t1 t2 t3 t4 b fC fA hs ho => ⟨"java/lang/String", "COMPACT_STRINGS", "Z", "java/lang/String", ho.2.2.2.2.2.2.2.2.2.2.2.1, Or.inl (hs.1 _ (jw_k2 114 rfl) rfl), Or.inl rfl⟩
theorem jw_gS_17_83 : jw_gS_P (17, 83, .ref 4294967347) := fun s L xs aW aK aV t0 t1 t2 t3 t4 b fC fA hs ho => ⟨"java/lang/Integer", "DigitOnes", "[B", "java/lang/Integer", ho.2.2.2.2.2.2.2.1.2, Or.inl (hs.1 _ (jw_k2 71 rfl) rfl), Or.inl rfl⟩
theorem jw_gS_17_87 : jw_gS_P (17, 87, .ref 4294967348) := fun s L xs aW aK aV t0 t1 t2 t3 t4 b fC fA hs ho => ⟨"java/lang/Integer", "DigitTens", "[B", "java/lang/Integer", ho.2.2.2.2.2.2.2.2.1.2, Or.inl (hs.1 _ (jw_k2 73 rfl) rfl), Or.inl rfl⟩
theorem jw_gS_25_39 : jw_gS_P (25, 39, .ref 4294967349) := fun s L xs aW aK aV t0 t1 t2 t3 t4 b fC fA hs ho => ⟨"java/util/ArrayList", "DEFAULTCAPACITY_EMPTY_ELEMENTDATA", "[Ljava/lang/Object;", "java/util/ArrayList", ho.2.2.2.2.2.2.2.2.2.1.2, Or.inl (hs.1 _ (jw_k4 43 rfl) rfl), Or.inl rfl⟩
theorem jw_gS_29_60 : jw_gS_P (29, 60, .ref 4294967345) := fun s L xs aW aK aV t0 t1 t2 t3 t4 b fC fA hs ho => ⟨"PickDesk$Word", "ALL", "[LPickDesk$Word;", "PickDesk$Word", ho.2.2.2.2.2.1.2, Or.inl (hs.1 _ (jw_k4 107 rfl) rfl), Or.inl rfl⟩
theorem jw_gS_ok : ∀ r ∈ jw_svT, ∀ y ∈ r, jw_gS_P y := List.forall_mem_cons.mpr ⟨(fun _ h => absurd h List.not_mem_nil), List.forall_mem_cons.mpr ⟨(fun _ h => absurd h List.not_mem_nil), List.forall_mem_cons.mpr ⟨(fun _ h => absurd h List.not_mem_nil), List.forall_mem_cons.mpr ⟨(fun _ h => absurd h List.not_mem_nil), List.forall_mem_cons.mpr ⟨(List.forall_mem_cons.mpr ⟨jw_gS_4_18, fun _ h => absurd h List.not_mem_nil⟩), List.forall_mem_cons.mpr ⟨(List.forall_mem_cons.mpr ⟨jw_gS_5_44, List.forall_mem_cons.mpr ⟨jw_gS_5_59, List.forall_mem_cons.mpr ⟨jw_gS_5_63, List.forall_mem_cons.mpr ⟨jw_gS_5_403, List.forall_mem_cons.mpr ⟨jw_gS_5_407, fun _ h => absurd h List.not_mem_nil⟩⟩⟩⟩⟩), List.forall_mem_cons.mpr ⟨(fun _ h => absurd h List.not_mem_nil), List.forall_mem_cons.mpr ⟨(List.forall_mem_cons.mpr ⟨jw_gS_7_102, fun _ h => absurd h List.not_mem_nil⟩), List.forall_mem_cons.mpr ⟨(fun _ h => absurd h List.not_mem_nil), List.forall_mem_cons.mpr ⟨(fun _ h => absurd h List.not_mem_nil), List.forall_mem_cons.mpr ⟨(List.forall_mem_cons.mpr ⟨jw_gS_10_27, List.forall_mem_cons.mpr ⟨jw_gS_10_35, List.forall_mem_cons.mpr ⟨jw_gS_10_38, List.forall_mem_cons.mpr ⟨jw_gS_10_41, List.forall_mem_cons.mpr ⟨jw_gS_10_65, fun _ h => absurd h List.not_mem_nil⟩⟩⟩⟩⟩), List.forall_mem_cons.mpr ⟨(fun _ h => absurd h List.not_mem_nil), List.forall_mem_cons.mpr ⟨(fun _ h => absurd h List.not_mem_nil), List.forall_mem_cons.mpr ⟨(fun _ h => absurd h List.not_mem_nil), List.forall_mem_cons.mpr ⟨(fun _ h => absurd h List.not_mem_nil), List.forall_mem_cons.mpr ⟨(List.forall_mem_cons.mpr ⟨jw_gS_15_38, fun _ h => absurd h List.not_mem_nil⟩), List.forall_mem_cons.mpr ⟨(fun _ h => absurd h List.not_mem_nil), List.forall_mem_cons.mpr ⟨(List.forall_mem_cons.mpr ⟨jw_gS_17_83, List.forall_mem_cons.mpr ⟨jw_gS_17_87, fun _ h => absurd h List.not_mem_nil⟩⟩), List.forall_mem_cons.mpr ⟨(fun _ h => absurd h List.not_mem_nil), List.forall_mem_cons.mpr ⟨(fun _ h => absurd h List.not_mem_nil), List.forall_mem_cons.mpr ⟨(fun _ h => absurd h List.not_mem_nil), List.forall_mem_cons.mpr ⟨(fun _ h => absurd h List.not_mem_nil), List.forall_mem_cons.mpr ⟨(fun _ h => absurd h List.not_mem_nil), List.forall_mem_cons.mpr ⟨(fun _ h => absurd h List.not_mem_nil), List.forall_mem_cons.mpr ⟨(fun _ h => absurd h List.not_mem_nil), List.forall_mem_cons.mpr ⟨(List.forall_mem_cons.mpr ⟨jw_gS_25_39, fun _ h => absurd h List.not_mem_nil⟩), List.forall_mem_cons.mpr ⟨(fun _ h => absurd h List.not_mem_nil), List.forall_mem_cons.mpr ⟨(fun _ h => absurd h List.not_mem_nil), List.forall_mem_cons.mpr ⟨(fun _ h => absurd h List.not_mem_nil), List.forall_mem_cons.mpr ⟨(List.forall_mem_cons.mpr ⟨jw_gS_29_60, fun _ h => absurd h List.not_mem_nil⟩), List.forall_mem_cons.mpr ⟨(fun _ h => absurd h List.not_mem_nil), List.forall_mem_cons.mpr ⟨(fun _ h => absurd h List.not_mem_nil), List.forall_mem_cons.mpr ⟨(fun _ h => absurd h List.not_mem_nil), List.forall_mem_cons.mpr ⟨(fun _ h => absurd h List.not_mem_nil), List.forall_mem_cons.mpr ⟨(fun _ h => absurd h List.not_mem_nil), fun _ h => absurd h List.not_mem_nil⟩⟩⟩⟩⟩⟩⟩⟩⟩⟩⟩⟩⟩⟩⟩⟩⟩⟩⟩⟩⟩⟩⟩⟩⟩⟩⟩⟩⟩⟩⟩⟩⟩⟩⟩
theorem jw_mu_out (G : jx_G) (j : Nat) : jx_mu G (jx_big + j) = G.2.1 j := by
  rw [jx_mu, if_neg (by omega), Nat.add_sub_cancel_left]
section JWG
variable {s : State} {L b t0 t1 t2 t3 t4 : Nat} {xs : Nat → Int32} {aW aK aV : Nat → Nat} {fC : Nat → ClassId × (Nat → Nat)} {fA : Nat → ClassId} {wr : Nat → Bool}
theorem jw_oad_w {j : Nat} (h : j < 9) : jw_oad aW aK aV t0 t1 t2 t3 t4 b j = aW j := if_pos h
theorem jw_oad_k {j : Nat} (h : ¬ j < 9) (h2 : j < 29) : jw_oad aW aK aV t0 t1 t2 t3 t4 b j = aK (j - 9) := by rw [jw_oad, if_neg h, if_pos h2]
theorem jw_oad_v {j : Nat} (h : ¬ j < 29) (h2 : j < 49) : jw_oad aW aK aV t0 t1 t2 t3 t4 b j = aV (j - 29) := by rw [jw_oad, if_neg (by omega), if_neg h, if_pos h2]
theorem jw_okO (ho : jw_out s L xs aW aK aV t0 t1 t2 t3 t4 b) : jx_okO (jw_T wr L xs) jw_cl (jw_G s aW aK aV t0 t1 t2 t3 t4 b fC fA) s.heap s := by
  obtain ⟨h1, h2, h3, h4, h5, h6, h7, h8, h9, h10, h11, h12⟩ := ho
  refine ⟨fun j ci h => ?_, fun j x h ty hty => ?_⟩
  · have h : jw_ocl j = some ci := h
    unfold jw_ocl at h
    split at h
    · rename_i hj
      cases h
      refine ⟨jw_c17, rfl, ?_, fun f v hv hf => ?_⟩
      · show va_O "PickDesk$Word" (jw_oad aW aK aV t0 t1 t2 t3 t4 b j) _ s s.heap
        rw [jw_oad_w hj]
        exact (h1 j hj).1
      · have hv : jw_ofl j f = some v := hv
        show va_OF _ _ _ _ (jw_oad aW aK aV t0 t1 t2 t3 t4 b j) _ s s.heap
        rw [jw_oad_w hj]
        unfold jw_ofl at hv
        rw [if_pos hj] at hv
        match f, hf, hv with
        | 0, _, hv =>
          cases hv
          have hsp := jw_spLt j hj
          show va_OF _ _ _ (.ref (jx_mu _ (jx_big + jw_spL.getD j 0))) _ _ s s.heap
          rw [jw_mu_out]
          show va_OF _ _ _ (.ref (jw_oad aW aK aV t0 t1 t2 t3 t4 b (jw_spL.getD j 0))) _ _ s s.heap
          rw [jw_oad_k (by omega) (by omega)]
          exact (h1 j hj).2.2.1
        | 1, _, hv => cases hv; exact (h1 j hj).2.2.2.1
        | 2, _, hv => cases hv; exact (h1 j hj).2.2.2.2
        | n + 3, hf, _ => exact absurd hf (by show ¬ n + 3 < 3; omega)
    · rename_i hj
      split at h
      · rename_i hj2
        cases h
        refine ⟨jw_c9, rfl, ?_, fun f v hv hf => ?_⟩
        · show va_O "java/lang/String" (jw_oad aW aK aV t0 t1 t2 t3 t4 b j) _ s s.heap
          rw [jw_oad_k hj hj2]
          exact (h3.1 _ (by omega)).1
        · have hv : jw_ofl j f = some v := hv
          show va_OF _ _ _ _ (jw_oad aW aK aV t0 t1 t2 t3 t4 b j) _ s s.heap
          rw [jw_oad_k hj hj2]
          unfold jw_ofl at hv
          rw [if_neg hj, if_pos hj2] at hv
          match f, hf, hv with
          | 0, _, hv =>
            cases hv
            show va_OF _ _ _ (.ref (jx_mu _ (jx_big + 20 + j))) _ _ s s.heap
            rw [Nat.add_assoc, jw_mu_out]
            show va_OF _ _ _ (.ref (jw_oad aW aK aV t0 t1 t2 t3 t4 b (20 + j))) _ _ s s.heap
            rw [jw_oad_v (by omega) (by omega), show 20 + j - 29 = j - 9 from by omega]
            exact (h3.1 _ (by omega)).2.2.1
          | 1, _, hv => cases hv; exact (h3.1 _ (by omega)).2.1
          | n + 2, _, hv => cases hv
      · cases h
  · have h : jw_oar L xs j = some x := h
    have hty : jw_ty x.1 = some ty := hty
    unfold jw_oar at h
    split at h
    · cases h
    · rename_i hj
      split at h
      · rename_i hj2
        cases h
        cases hty
        show va_T _ (jw_oad aW aK aV t0 t1 t2 t3 t4 b j) _ _ _ s s.heap
        rw [jw_oad_v hj hj2]
        have h := (h3.1 (j - 29) (by omega)).2.2.2
        rw [jw_lenE _ (by omega)] at h
        exact h
      · rename_i hj2
        have hjj : jw_oad aW aK aV t0 t1 t2 t3 t4 b j = (match j - 49 with
          | 0 => t0
          | 1 => t1
          | 2 => t2
          | 3 => t3
          | 4 => t4
          | 5 => b
          | 6 => aV 1000
          | _ => aV 1001) := by
          rw [jw_oad, if_neg (by omega), if_neg hj, if_neg hj2]
          rfl
        show va_T _ (jw_oad aW aK aV t0 t1 t2 t3 t4 b j) _ _ _ s s.heap
        rw [hjj]
        split at h
        · rename_i hk
          cases h
          cases hty
          rw [hk]
          refine (?_ : va_T _ t0 9 _ _ s s.heap)
          have he : (fun i => jx_v (jw_G s aW aK aV t0 t1 t2 t3 t4 b fC fA) (.ref (jx_big + jw_AL.getD i 0))) = (fun i => .ref (jw_oad aW aK aV t0 t1 t2 t3 t4 b (jw_AL.getD i 0))) := by
            funext i
            show Value.ref (jx_mu _ _) = _
            rw [jw_mu_out]
            rfl
          show va_T _ t0 9 (fun i => jx_v (jw_G s aW aK aV t0 t1 t2 t3 t4 b fC fA) (.ref (jx_big + jw_AL.getD i 0))) _ s s.heap
          rw [he]
          obtain ⟨cell, q1, q2, q3, q4, q5, q6, q7⟩ := h6.1
          refine ⟨cell, q1, q2, q3, q4, q5, fun i hi => ?_, q7⟩
          rw [q6 i hi]
          show some (Value.ref _) = some (Value.ref _)
          rw [jw_oad_w (jw_ALt i hi)]
        · rename_i hk; cases h; cases hty; rw [hk]; exact h7.1
        · rename_i hk; cases h; cases hty; rw [hk]; exact h8.1
        · rename_i hk; cases h; cases hty; rw [hk]; exact h9.1
        · rename_i hk; cases h; cases hty; rw [hk]; exact h10.1
        · rename_i hk; cases h; cases hty; rw [hk]; exact h11
        · cases h
theorem jw_injG (ho : jw_out s L xs aW aK aV t0 t1 t2 t3 t4 b) : jx_inj (jw_T wr L xs) (jw_G s aW aK aV t0 t1 t2 t3 t4 b fC fA) := by
  obtain ⟨h1, h2, h3, h4, h5, h6, h7, h8, h9, h10, h11, h12⟩ := ho
  have lt : ∀ {ty : FieldType} {t n : Nat} {f : Nat → Value}, va_T ty t n f (fun q => s.heap.size ≤ q) s s.heap → t < s.heap.size := by
    intro ty t n f h
    obtain ⟨cell, q1, q2, q3, q4, q5, q6, q7⟩ := h
    exact Nat.not_le.mp q7
  refine ⟨show (9 : Nat) ≤ 55 from by decide, fun j hj => ?_, fun i j hi hj e => ?_, fun i j hi1 hi hj1 hj e => ?_⟩
  · have hj : j < 55 := hj
    show jw_oad aW aK aV t0 t1 t2 t3 t4 b j < s.heap.size
    by_cases c1 : j < 9
    · rw [jw_oad_w c1]
      obtain ⟨cell, q1, q2, q3, q4⟩ := (h1 j c1).1
      exact Nat.not_le.mp q4
    · by_cases c2 : j < 29
      · rw [jw_oad_k c1 c2]
        obtain ⟨cell, q1, q2, q3, q4⟩ := (h3.1 (j - 9) (by omega)).1
        exact Nat.not_le.mp q4
      · by_cases c3 : j < 49
        · rw [jw_oad_v c2 c3]
          exact lt (h3.1 (j - 29) (by omega)).2.2.2
        · rw [jw_oad, if_neg c1, if_neg c2, if_neg c3]
          have hk : j - 49 < 6 := by omega
          match j - 49, hk with
          | 0, _ => exact lt h6.1
          | 1, _ => exact lt h7.1
          | 2, _ => exact lt h8.1
          | 3, _ => exact lt h9.1
          | 4, _ => exact lt h10.1
          | 5, _ => exact lt h11
          | n + 6, hk => exact absurd hk (by omega)
  · have hi : i < 9 := hi
    have hj : j < 9 := hj
    have e : jw_oad aW aK aV t0 t1 t2 t3 t4 b i = jw_oad aW aK aV t0 t1 t2 t3 t4 b j := e
    rw [jw_oad_w hi, jw_oad_w hj] at e
    exact h2 i j hi hj e
  · have hi1 : 9 ≤ i := hi1
    have hj1 : 9 ≤ j := hj1
    have hi : i < 29 := hi
    have hj : j < 29 := hj
    have e : jw_oad aW aK aV t0 t1 t2 t3 t4 b i = jw_oad aW aK aV t0 t1 t2 t3 t4 b j := e
    rw [jw_oad_k (by omega) hi, jw_oad_k (by omega) hj] at e
    have := h3.2 (i - 9) (j - 9) (by omega) (by omega) e
    omega
end JWG
def jw_tkB : Bool := jw_tkL.all fun x => decide (x.2 < 17 ∨ x.2 = 17)
set_option maxRecDepth 100000 in
theorem jw_sf : jw_nl[5]? = some (.isRef (.static "jdk/internal/util/Preconditions" "SIOOBE_FORMATTER" "Ljava/util/function/BiFunction;")) := by decide +kernel
set_option maxRecDepth 100000 in
theorem jw_sm : jw_nl[371]? = some (.isRef (.mirror "[Ljava/lang/Object;")) := by decide +kernel
theorem jw_env_ex {s : State} {args : Array Value} {L b : Nat} {xs : Nat → Int32} (hts : ∀ w ∈ lw_tbl, w.before args s = true) (hp : jw_pre args s) (hX : va_X b L xs s s.heap) :
    ∃ (G : jx_G) (xs2 : Nat → Int32), G.1 = s.heap.size ∧ G.2.1 54 = b ∧ ∀ wr : Nat → Bool, jx_env (jw_T wr L xs2) jw_cl jw_ow G s.heap jw_N jw_WS s := by
  have hs := jw_H.of hts
  have hA : ∀ a : Nat, a < s.heap.size → ¬ (fun q => s.heap.size ≤ q) a := fun a ha h => absurd ha (Nat.not_lt.mpr h)
  obtain ⟨x0, q0, hZ⟩ : ∃ (x0 : Int32) (q0 : Nat), va_Z "jdk/internal/util/Preconditions" "SIOOBE_FORMATTER" "Ljava/util/function/BiFunction;" (bif decide (¬ x0 = 0) then .ref q0 else .null) (fun q => s.heap.size ≤ q) s s.heap := by
    rcases va_Zqof (hts _ (jw_mem 273 (by decide +kernel))) (hts _ (jw_mem 17 (by decide +kernel))) (hp.at _ jw_sf) hA with h | ⟨t, h⟩
    · exact ⟨0, 0, h⟩
    · exact ⟨1, t, h⟩
  obtain ⟨xs2, hx2, hX2⟩ : ∃ xs2 : Nat → Int32, xs2 (L + 2000) = x0 ∧ va_X b L xs2 s s.heap := by
    obtain ⟨scr, h1, h2, h3, h4, h5⟩ := hX
    refine ⟨fun j => if j = L + 2000 then x0 else xs j, if_pos rfl, scr, h1, h2, h3, h4, fun j hj => ?_⟩
    show _ = some (Value.int (if j = L + 2000 then x0 else xs j))
    rw [if_neg (by omega)]
    exact h5 j hj
  obtain ⟨aW, aK, aV0, t0, t1, t2, t3, t4, ho0⟩ := jw_out_ex hts hp hX2
  obtain ⟨mi, hMi⟩ := va_Mi.of (hp.at _ jw_sm)
  have hDc : va_Dc s := va_Dc.of (hts _ (jw_mem 1696 (by decide +kernel)))
  obtain ⟨aV, hav, hav2, ho⟩ : ∃ aV : Nat → Nat, aV 1000 = q0 ∧ aV 1001 = mi ∧ jw_out s L xs2 aW aK aV t0 t1 t2 t3 t4 b := by
    obtain ⟨h1, h2, h3, h4⟩ := ho0
    refine ⟨fun i => if i = 1000 then q0 else if i = 1001 then mi else aV0 i, if_pos rfl, by simp, h1, h2, ⟨fun i hi => ?_, h3.2⟩, h4⟩
    have h := h3.1 i hi
    rw [show aV0 i = (if i = 1000 then q0 else if i = 1001 then mi else aV0 i) from by rw [if_neg (by omega), if_neg (by omega)]] at h
    exact h
  obtain ⟨fC, hfC⟩ := jw_known hs
  obtain ⟨fA, hfA⟩ := jw_arrs hs
  refine ⟨jw_G s aW aK aV t0 t1 t2 t3 t4 b fC fA, xs2, rfl, rfl, fun wr => ⟨⟨jw_okF hs, fun ci r h0 hr => ⟨hfC ci r h0 hr, (jw_uws hs ci r h0 hr).1⟩, jw_fix rfl, hfA, jw_okO ho, jw_okN rfl hs, jw_okY hs, jw_okM, ⟨fun own k ci bb h => ?_, fun t ci h => ?_⟩, fun own k v h => ?_, fun own k v h => ?_, jw_okB hs (by rw [show (jw_G s aW aK aV t0 t1 t2 t3 t4 b fC fA).2.1 56 = mi from hav2]; exact hMi) hDc, jw_injG ho⟩, jw_cok hs, hs.ws⟩⟩
  · have h : jw_ct own k ci = some bb := h
    unfold jw_ct at h
    split at h
    · rename_i l hl
      refine jw_find_ok jw_ctT_i hl jw_fC_ok _ (jw_ls_mem h) s hs (fun x hx => ?_) (fun i r hi hr => ⟨_, (hfC i r hi hr).2⟩)
      obtain ⟨i, hi⟩ := List.getElem?_of_mem hx
      have hlt : i < 52 := (List.getElem?_eq_some_iff.mp hi).1
      have h2 := hp.at _ (jw_n1 i hlt)
      rw [show jw_ncL.getD i ("", "") = x from by simp [List.getD_eq_getElem?_getD, hi]] at h2
      exact va_Nc.of h2
    · cases h
  · have h : jw_tk t ci = true := h
    unfold jw_tk at h
    obtain ⟨x, hx, hc⟩ := List.any_eq_true.mp h
    obtain ⟨c1, c2⟩ := (Bool.and_eq_true _ _).mp hc
    obtain rfl := Nat.eq_of_beq_eq_true c1
    obtain rfl := Nat.eq_of_beq_eq_true c2
    have key : ∀ x ∈ jw_tkL, ∃ (r : vw_C) (E : String), jw_cl[x.2]? = some r ∧ jw_ty x.1 = some (.object E) ∧ ((r.1 = E ∧ ∃ cC : ClassId, ClassAt s E cC) ∨ jx_w (.castable r.1 E) s) := List.forall_mem_cons.mpr ⟨⟨jw_c5, "PickDesk$Value", rfl, by decide +kernel, Or.inl ⟨rfl, _, (hfC 5 jw_c5 (by decide) rfl).2⟩⟩, List.forall_mem_cons.mpr ⟨⟨jw_c11, "PickDesk$Query", rfl, by decide +kernel, Or.inl ⟨rfl, _, (hfC 11 jw_c11 (by decide) rfl).2⟩⟩, List.forall_mem_cons.mpr ⟨⟨jw_c0, "java/lang/Object", rfl, by decide +kernel, Or.inr (hs.1 _ (jw_k8 17 rfl) rfl)⟩, List.forall_mem_cons.mpr ⟨⟨jw_c1, "java/lang/Object", rfl, by decide +kernel, Or.inr (hs.1 _ (jw_k8 18 rfl) rfl)⟩, List.forall_mem_cons.mpr ⟨⟨jw_c3, "java/lang/Object", rfl, by decide +kernel, Or.inr (hs.1 _ (jw_k8 19 rfl) rfl)⟩, List.forall_mem_cons.mpr ⟨⟨jw_c4, "java/lang/Object", rfl, by decide +kernel, Or.inr (hs.1 _ (jw_k8 20 rfl) rfl)⟩, List.forall_mem_cons.mpr ⟨⟨jw_c5, "java/lang/Object", rfl, by decide +kernel, Or.inr (hs.1 _ (jw_k8 21 rfl) rfl)⟩, List.forall_mem_cons.mpr ⟨⟨jw_c6, "java/lang/Object", rfl, by decide +kernel, Or.inr (hs.1 _ (jw_k8 22 rfl) rfl)⟩, List.forall_mem_cons.mpr ⟨⟨jw_c7, "java/lang/Object", rfl, by decide +kernel, Or.inr (hs.1 _ (jw_k8 23 rfl) rfl)⟩, List.forall_mem_cons.mpr ⟨⟨jw_c9, "java/lang/Object", rfl, by decide +kernel, Or.inr (hs.1 _ (jw_k8 25 rfl) rfl)⟩, List.forall_mem_cons.mpr ⟨⟨jw_c11, "java/lang/Object", rfl, by decide +kernel, Or.inr (hs.1 _ (jw_k8 26 rfl) rfl)⟩, List.forall_mem_cons.mpr ⟨⟨jw_c13, "java/lang/Object", rfl, by decide +kernel, Or.inr (hs.1 _ (jw_k8 27 rfl) rfl)⟩, List.forall_mem_cons.mpr ⟨⟨jw_c14, "java/lang/Object", rfl, by decide +kernel, Or.inr (hs.1 _ (jw_k8 28 rfl) rfl)⟩, List.forall_mem_cons.mpr ⟨⟨jw_c15, "java/lang/Object", rfl, by decide +kernel, Or.inr (hs.1 _ (jw_k8 29 rfl) rfl)⟩, List.forall_mem_cons.mpr ⟨⟨jw_c16, "java/lang/Object", rfl, by decide +kernel, Or.inr (hs.1 _ (jw_k8 24 rfl) rfl)⟩, List.forall_mem_cons.mpr ⟨⟨jw_c17, "java/lang/Object", rfl, by decide +kernel, Or.inr (hs.1 _ (jw_k8 30 rfl) rfl)⟩, fun _ h => absurd h List.not_mem_nil⟩⟩⟩⟩⟩⟩⟩⟩⟩⟩⟩⟩⟩⟩⟩⟩
    exact key x hx
  · have h : jw_kcB own k = some v := h
    unfold jw_kcB at h
    cases hc : (own == 13 && k == 110) with
    | false =>
      rw [hc] at h
      rcases jw_find_ok jw_kcT_i h jw_gK_ok s L xs2 aW aK aV t0 t1 t2 t3 t4 b fC fA hs ho with h | h | h
      · exact Or.inl h
      · exact Or.inr (Or.inl h)
      · exact Or.inr (Or.inr (Or.inl h))
    | true =>
      rw [hc] at h
      simp only [Bool.and_eq_true, beq_iff_eq] at hc
      obtain ⟨rfl, rfl⟩ := hc
      have h : some (Value.ref (jx_big + 56)) = some v := h
      exact Or.inr (Or.inr (Or.inr ⟨56, "[Ljava/lang/Object;", (Option.some.inj h).symm, (hs.1 _ (jw_k4 207 rfl) rfl), by rw [show (jw_G s aW aK aV t0 t1 t2 t3 t4 b fC fA).2.1 56 = mi from hav2]; exact hMi⟩))
  · have h : jw_svB (jw_bt L xs2) own k = some v := h
    unfold jw_svB at h
    cases hc : (own == 15 && k == 1053) with
    | false =>
      rw [hc] at h
      exact jw_find_ok jw_svT_i h jw_gS_ok s L xs2 aW aK aV t0 t1 t2 t3 t4 b fC fA hs ho
    | true =>
      rw [hc] at h
      obtain ⟨c1, c2⟩ := (Bool.and_eq_true _ _).mp hc
      obtain rfl := beq_iff_eq.mp c1
      obtain rfl := beq_iff_eq.mp c2
      have h : some (bif jw_bt L xs2 then Value.ref (jx_big + 55) else .null) = some v := h
      obtain rfl := Option.some.inj h
      refine ⟨"jdk/internal/util/Preconditions", "SIOOBE_FORMATTER", "Ljava/util/function/BiFunction;", "jdk/internal/util/Preconditions", ?_, Or.inl (hs.1 _ (jw_k2 32 rfl) rfl), Or.inl rfl⟩
      have e : jx_v (jw_G s aW aK aV t0 t1 t2 t3 t4 b fC fA) (bif jw_bt L xs2 then .ref (jx_big + 55) else .null) = bif decide (¬ x0 = 0) then .ref q0 else .null := by
        unfold jw_bt
        rw [hx2]
        cases decide (¬ x0 = 0)
        · rfl
        · show Value.ref (jx_mu _ (jx_big + 55)) = Value.ref q0
          rw [jw_mu_out, ← hav]
          rfl
      rw [e]
      exact hZ
