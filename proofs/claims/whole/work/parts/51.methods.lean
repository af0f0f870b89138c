/-! ===== the methods (printed by program: gen4.py) ===== -/
abbrev jw_E : Type := jx_M × MethodName × ByteArray
theorem jw_k1 (i : Nat) {w : Cond} (h : tables_1_1[i]? = some w) : w ∈ lw_tbl := List.mem_append_right _ (List.mem_append_left _ (List.mem_of_getElem? h))
theorem jw_k2 (i : Nat) {w : Cond} (h : tables_1_2[i]? = some w) : w ∈ lw_tbl := List.mem_append_right _ (List.mem_append_right _ (List.mem_append_left _ (List.mem_of_getElem? h)))
theorem jw_k3 (i : Nat) {w : Cond} (h : tables_1_3[i]? = some w) : w ∈ lw_tbl := List.mem_append_right _ (List.mem_append_right _ (List.mem_append_right _ (List.mem_append_left _ (List.mem_of_getElem? h))))
theorem jw_k4 (i : Nat) {w : Cond} (h : tables_1_4[i]? = some w) : w ∈ lw_tbl := List.mem_append_right _ (List.mem_append_right _ (List.mem_append_right _ (List.mem_append_right _ (List.mem_append_left _ (List.mem_of_getElem? h)))))
theorem jw_k5 (i : Nat) {w : Cond} (h : tables_1_5[i]? = some w) : w ∈ lw_tbl := List.mem_append_right _ (List.mem_append_right _ (List.mem_append_right _ (List.mem_append_right _ (List.mem_append_right _ (List.mem_append_left _ (List.mem_of_getElem? h))))))
theorem jw_k6 (i : Nat) {w : Cond} (h : tables_1_6[i]? = some w) : w ∈ lw_tbl := List.mem_append_right _ (List.mem_append_right _ (List.mem_append_right _ (List.mem_append_right _ (List.mem_append_right _ (List.mem_append_right _ (List.mem_append_left _ (List.mem_of_getElem? h)))))))
theorem jw_k7 (i : Nat) {w : Cond} (h : tables_1_7[i]? = some w) : w ∈ lw_tbl := List.mem_append_right _ (List.mem_append_right _ (List.mem_append_right _ (List.mem_append_right _ (List.mem_append_right _ (List.mem_append_right _ (List.mem_append_right _ (List.mem_append_left _ (List.mem_of_getElem? h))))))))
theorem jw_k8 (i : Nat) {w : Cond} (h : tables_1_8[i]? = some w) : w ∈ lw_tbl := List.mem_append_right _ (List.mem_append_right _ (List.mem_append_right _ (List.mem_append_right _ (List.mem_append_right _ (List.mem_append_right _ (List.mem_append_right _ (List.mem_append_right _ ((List.mem_of_getElem? h)))))))))
def jw_P (x : jw_E) : Prop := Cond.code x.2.1 x.2.2 x.1.2.1 x.1.2.2.1.1 ∈ jw_WS ∧ plainName x.2.1.cls = true ∧ x.2.1.cls = jw_ow x.1.1 ∧ x.1.2.1 ≤ 81 ∧ (x.1.2.2.1.2 = true → x.2.1.name = "<init>") ∧ (x.2.1.name = "<init>" → x.1.2.2.1.1 = none) ∧
  (∀ (pc : Nat) (i : Instr), x.1.2.2.2.1 pc = some i → ∃ len, decode x.2.2 pc = .ok (i, len) ∧ (jx_isSwitch i = false → len = jx_len i)) ∧ ∀ pc ci : Nat, x.1.2.2.2.2 pc ci = none
def jw_PO (x : Option jw_E) : Prop := ∀ y, x = some y → jw_P y
theorem jw_PO_none : jw_PO none := fun _ h => by cases h
theorem jw_PO_some {x : jw_E} (h : jw_P x) : jw_PO (some x) := fun _ e => by cases e; exact h
def me_0 : jw_E := ((0, 2, (none, true), jw_cd cd_0, fun _ _ => none), ⟨"PickDesk", "<init>", "()V"⟩, prog_1_method_1_code)
theorem mp_0 : jw_P me_0 := ⟨jw_WS_mem (jw_k1 40 rfl) rfl, by decide +kernel, by decide +kernel, by decide +kernel, by decide +kernel, by decide +kernel, jw_chk_ok ck_0, fun _ _ => rfl⟩
def me_2 : jw_E := ((2, 1, (none, true), jw_cd cd_2, fun _ _ => none), ⟨"PickDesk$Text", "<init>", "()V"⟩, prog_9_method_1_code)
theorem mp_2 : jw_P me_2 := ⟨jw_WS_mem (jw_k1 48 rfl) rfl, by decide +kernel, by decide +kernel, by decide +kernel, by decide +kernel, by decide +kernel, jw_chk_ok ck_2, fun _ _ => rfl⟩
def me_3 : jw_E := ((3, 1, (none, true), jw_cd cd_3, fun _ _ => none), ⟨"java/lang/StringBuilder", "<init>", "()V"⟩, prog_28_method_1_code)
theorem mp_3 : jw_P me_3 := ⟨jw_WS_mem (jw_k1 54 rfl) rfl, by decide +kernel, by decide +kernel, by decide +kernel, by decide +kernel, by decide +kernel, jw_chk_ok ck_3, fun _ _ => rfl⟩
def me_4 : jw_E := ((4, 2, (none, true), jw_cd cd_4, fun _ _ => none), ⟨"java/lang/AbstractStringBuilder", "<init>", "(I)V"⟩, prog_17_method_2_code)
theorem mp_4 : jw_P me_4 := ⟨jw_WS_mem (jw_k1 57 rfl) rfl, by decide +kernel, by decide +kernel, by decide +kernel, by decide +kernel, by decide +kernel, jw_chk_ok ck_4, fun _ _ => rfl⟩
def me_5 : jw_E := ((5, 1, ((Option.some (Jvm.ClassFile.FieldType.array Jvm.ClassFile.FieldType.byte)), false), jw_cd cd_5, fun _ _ => none), ⟨"java/lang/StringUTF16", "newBytesFor", "(I)[B"⟩, prog_30_method_2_code)
theorem mp_5 : jw_P me_5 := ⟨jw_WS_mem (jw_k1 63 rfl) rfl, by decide +kernel, by decide +kernel, by decide +kernel, by decide +kernel, by decide +kernel, jw_chk_ok ck_5, fun _ _ => rfl⟩
def me_6 : jw_E := ((5, 1, ((Option.some Jvm.ClassFile.FieldType.int), false), jw_cd cd_6, fun _ _ => none), ⟨"java/lang/StringUTF16", "newBytesLength", "(I)I"⟩, prog_30_method_3_code)
theorem mp_6 : jw_P me_6 := ⟨jw_WS_mem (jw_k1 66 rfl) rfl, by decide +kernel, by decide +kernel, by decide +kernel, by decide +kernel, by decide +kernel, jw_chk_ok ck_6, fun _ _ => rfl⟩
def me_7 : jw_E := ((6, 2, (none, true), jw_cd cd_7, fun _ _ => none), ⟨"PickDesk$ValueReader", "<init>", "(LPickDesk$Text;)V"⟩, prog_11_method_1_code)
theorem mp_7 : jw_P me_7 := ⟨jw_WS_mem (jw_k1 106 rfl) rfl, by decide +kernel, by decide +kernel, by decide +kernel, by decide +kernel, by decide +kernel, jw_chk_ok ck_7, fun _ _ => rfl⟩
def me_8 : jw_E := ((7, 2, (none, true), jw_cd cd_8, fun _ _ => none), ⟨"PickDesk$QueryReader", "<init>", "(LPickDesk$Text;)V"⟩, prog_5_method_1_code)
theorem mp_8 : jw_P me_8 := ⟨jw_WS_mem (jw_k1 116 rfl) rfl, by decide +kernel, by decide +kernel, by decide +kernel, by decide +kernel, by decide +kernel, jw_chk_ok ck_8, fun _ _ => rfl⟩
def me_9 : jw_E := ((8, 1, ((Option.some (Jvm.ClassFile.FieldType.object "PickDesk$Value")), false), jw_cd cd_9, fun _ _ => none), ⟨"PickDesk$Value", "ofKind", "(I)LPickDesk$Value;"⟩, prog_10_method_2_code)
theorem mp_9 : jw_P me_9 := ⟨jw_WS_mem (jw_k1 127 rfl) rfl, by decide +kernel, by decide +kernel, by decide +kernel, by decide +kernel, by decide +kernel, jw_chk_ok ck_9, fun _ _ => rfl⟩
def me_10 : jw_E := ((8, 5, (none, true), jw_cd cd_10, fun _ _ => none), ⟨"PickDesk$Value", "<init>", "(IILjava/lang/String;I)V"⟩, prog_10_method_1_code)
theorem mp_10 : jw_P me_10 := ⟨jw_WS_mem (jw_k1 133 rfl) rfl, by decide +kernel, by decide +kernel, by decide +kernel, by decide +kernel, by decide +kernel, jw_chk_ok ck_10, fun _ _ => rfl⟩
def me_11 : jw_E := ((9, 2, (none, true), jw_cd cd_11, fun _ _ => none), ⟨"PickDesk$Picker", "<init>", "(LPickDesk$Value;)V"⟩, prog_3_method_1_code)
theorem mp_11 : jw_P me_11 := ⟨jw_WS_mem (jw_k1 172 rfl) rfl, by decide +kernel, by decide +kernel, by decide +kernel, by decide +kernel, by decide +kernel, jw_chk_ok ck_11, fun _ _ => rfl⟩
def me_12 : jw_E := ((10, 2, (none, true), jw_cd cd_12, fun _ _ => none), ⟨"PickDesk$Words", "<init>", "(LPickDesk$Value;)V"⟩, prog_13_method_1_code)
theorem mp_12 : jw_P me_12 := ⟨jw_WS_mem (jw_k1 178 rfl) rfl, by decide +kernel, by decide +kernel, by decide +kernel, by decide +kernel, by decide +kernel, jw_chk_ok ck_12, fun _ _ => rfl⟩
def me_13 : jw_E := ((8, 3, (none, false), jw_cd cd_13, fun _ _ => none), ⟨"PickDesk$Value", "write", "(Ljava/lang/StringBuilder;I)V"⟩, prog_10_method_18_code)
theorem mp_13 : jw_P me_13 := ⟨jw_WS_mem (jw_k1 202 rfl) rfl, by decide +kernel, by decide +kernel, by decide +kernel, by decide +kernel, by decide +kernel, jw_chk_ok ck_13, fun _ _ => rfl⟩
def me_14 : jw_E := ((3, 2, ((Option.some (Jvm.ClassFile.FieldType.object "java/lang/StringBuilder")), false), jw_cd cd_14, fun _ _ => none), ⟨"java/lang/StringBuilder", "append", "(C)Ljava/lang/StringBuilder;"⟩, prog_28_method_14_code)
theorem mp_14 : jw_P me_14 := ⟨jw_WS_mem (jw_k1 206 rfl) rfl, by decide +kernel, by decide +kernel, by decide +kernel, by decide +kernel, by decide +kernel, jw_chk_ok ck_14, fun _ _ => rfl⟩
def me_15 : jw_E := ((4, 2, ((Option.some (Jvm.ClassFile.FieldType.object "java/lang/AbstractStringBuilder")), false), jw_cd cd_15, fun _ _ => none), ⟨"java/lang/AbstractStringBuilder", "append", "(C)Ljava/lang/AbstractStringBuilder;"⟩, prog_17_method_31_code)
theorem mp_15 : jw_P me_15 := ⟨jw_WS_mem (jw_k1 209 rfl) rfl, by decide +kernel, by decide +kernel, by decide +kernel, by decide +kernel, by decide +kernel, jw_chk_ok ck_15, fun _ _ => rfl⟩
def me_16 : jw_E := ((4, 3, (none, false), jw_cd cd_16, fun _ _ => none), ⟨"java/lang/AbstractStringBuilder", "ensureCapacityInternal", "(I)V"⟩, prog_17_method_9_code)
theorem mp_16 : jw_P me_16 := ⟨jw_WS_mem (jw_k1 213 rfl) rfl, by decide +kernel, by decide +kernel, by decide +kernel, by decide +kernel, by decide +kernel, jw_chk_ok ck_16, fun _ _ => rfl⟩
def me_17 : jw_E := ((4, 6, ((Option.some Jvm.ClassFile.FieldType.int), false), jw_cd cd_17, fun _ _ => none), ⟨"java/lang/AbstractStringBuilder", "newCapacity", "(I)I"⟩, prog_17_method_10_code)
theorem mp_17 : jw_P me_17 := ⟨jw_WS_mem (jw_k1 217 rfl) rfl, by decide +kernel, by decide +kernel, by decide +kernel, by decide +kernel, by decide +kernel, jw_chk_ok ck_17, fun _ _ => rfl⟩
def me_18 : jw_E := ((11, 4, ((Option.some Jvm.ClassFile.FieldType.int), false), jw_cd cd_18, fun _ _ => none), ⟨"jdk/internal/util/ArraysSupport", "newLength", "(III)I"⟩, prog_42_method_27_code)
theorem mp_18 : jw_P me_18 := ⟨jw_WS_mem (jw_k1 220 rfl) rfl, by decide +kernel, by decide +kernel, by decide +kernel, by decide +kernel, by decide +kernel, jw_chk_ok ck_18, fun _ _ => rfl⟩
def me_20 : jw_E := ((11, 3, ((Option.some Jvm.ClassFile.FieldType.int), false), jw_cd cd_20, fun _ _ => none), ⟨"jdk/internal/util/ArraysSupport", "hugeLength", "(II)I"⟩, prog_42_method_28_code)
theorem mp_20 : jw_P me_20 := ⟨jw_WS_mem (jw_k1 227 rfl) rfl, by decide +kernel, by decide +kernel, by decide +kernel, by decide +kernel, by decide +kernel, jw_chk_ok ck_20, fun _ _ => rfl⟩
def me_21 : jw_E := ((13, 3, ((Option.some (Jvm.ClassFile.FieldType.array Jvm.ClassFile.FieldType.byte)), false), jw_cd cd_21, fun _ _ => none), ⟨"java/util/Arrays", "copyOf", "([BI)[B"⟩, prog_36_method_121_code)
theorem mp_21 : jw_P me_21 := ⟨jw_WS_mem (jw_k1 231 rfl) rfl, by decide +kernel, by decide +kernel, by decide +kernel, by decide +kernel, by decide +kernel, jw_chk_ok ck_21, fun _ _ => rfl⟩
def me_23 : jw_E := ((4, 1, ((Option.some Jvm.ClassFile.FieldType.boolean), false), jw_cd cd_23, fun _ _ => none), ⟨"java/lang/AbstractStringBuilder", "isLatin1", "()Z"⟩, prog_17_method_68_code)
theorem mp_23 : jw_P me_23 := ⟨jw_WS_mem (jw_k2 9 rfl) rfl, by decide +kernel, by decide +kernel, by decide +kernel, by decide +kernel, by decide +kernel, jw_chk_ok ck_23, fun _ _ => rfl⟩
def me_24 : jw_E := ((14, 1, ((Option.some Jvm.ClassFile.FieldType.boolean), false), jw_cd cd_24, fun _ _ => none), ⟨"java/lang/StringLatin1", "canEncode", "(C)Z"⟩, prog_29_method_3_code)
theorem mp_24 : jw_P me_24 := ⟨jw_WS_mem (jw_k2 12 rfl) rfl, by decide +kernel, by decide +kernel, by decide +kernel, by decide +kernel, by decide +kernel, jw_chk_ok ck_24, fun _ _ => rfl⟩
def me_25 : jw_E := ((4, 2, (none, false), jw_cd cd_25, fun _ _ => none), ⟨"java/lang/AbstractStringBuilder", "inflate", "()V"⟩, prog_17_method_11_code)
theorem mp_25 : jw_P me_25 := ⟨jw_WS_mem (jw_k2 16 rfl) rfl, by decide +kernel, by decide +kernel, by decide +kernel, by decide +kernel, by decide +kernel, jw_chk_ok ck_25, fun _ _ => rfl⟩
def me_26 : jw_E := ((14, 5, (none, false), jw_cd cd_26, fun _ _ => none), ⟨"java/lang/StringLatin1", "inflate", "([BI[BII)V"⟩, prog_29_method_50_code)
theorem mp_26 : jw_P me_26 := ⟨jw_WS_mem (jw_k2 19 rfl) rfl, by decide +kernel, by decide +kernel, by decide +kernel, by decide +kernel, by decide +kernel, jw_chk_ok ck_26, fun _ _ => rfl⟩
def me_27 : jw_E := ((5, 6, (none, false), jw_cd cd_27, fun _ _ => none), ⟨"java/lang/StringUTF16", "inflate", "([BI[BII)V"⟩, prog_30_method_86_code)
theorem mp_27 : jw_P me_27 := ⟨jw_WS_mem (jw_k2 22 rfl) rfl, by decide +kernel, by decide +kernel, by decide +kernel, by decide +kernel, by decide +kernel, jw_chk_ok ck_27, fun _ _ => rfl⟩
def me_28 : jw_E := ((5, 3, (none, false), jw_cd cd_28, fun _ _ => none), ⟨"java/lang/StringUTF16", "checkBoundsOffCount", "(II[B)V"⟩, prog_30_method_94_code)
theorem mp_28 : jw_P me_28 := ⟨jw_WS_mem (jw_k2 25 rfl) rfl, by decide +kernel, by decide +kernel, by decide +kernel, by decide +kernel, by decide +kernel, jw_chk_ok ck_28, fun _ _ => rfl⟩
def me_29 : jw_E := ((5, 1, ((Option.some Jvm.ClassFile.FieldType.int), false), jw_cd cd_29, fun _ _ => none), ⟨"java/lang/StringUTF16", "length", "([B)I"⟩, prog_30_method_6_code)
theorem mp_29 : jw_P me_29 := ⟨jw_WS_mem (jw_k2 28 rfl) rfl, by decide +kernel, by decide +kernel, by decide +kernel, by decide +kernel, by decide +kernel, jw_chk_ok ck_29, fun _ _ => rfl⟩
def me_30 : jw_E := ((15, 3, ((Option.some Jvm.ClassFile.FieldType.int), false), jw_cd cd_30, fun _ _ => none), ⟨"java/lang/String", "checkBoundsOffCount", "(III)I"⟩, prog_27_method_157_code)
theorem mp_30 : jw_P me_30 := ⟨jw_WS_mem (jw_k2 31 rfl) rfl, by decide +kernel, by decide +kernel, by decide +kernel, by decide +kernel, by decide +kernel, jw_chk_ok ck_30, fun _ _ => rfl⟩
def me_31 : jw_E := ((16, 4, ((Option.some Jvm.ClassFile.FieldType.int), false), jw_cd cd_31, fun _ _ => none), ⟨"jdk/internal/util/Preconditions", "checkFromIndexSize", "(IIILjava/util/function/BiFunction;)I"⟩, prog_43_method_13_code)
theorem mp_31 : jw_P me_31 := ⟨jw_WS_mem (jw_k2 36 rfl) rfl, by decide +kernel, by decide +kernel, by decide +kernel, by decide +kernel, by decide +kernel, jw_chk_ok ck_31, fun _ _ => rfl⟩
def me_32 : jw_E := ((5, 3, (none, false), jw_cd cd_32, fun _ _ => none), ⟨"java/lang/StringUTF16", "putChar", "([BII)V"⟩, prog_30_method_4_code)
theorem mp_32 : jw_P me_32 := ⟨jw_WS_mem (jw_k2 39 rfl) rfl, by decide +kernel, by decide +kernel, by decide +kernel, by decide +kernel, by decide +kernel, jw_chk_ok ck_32, fun _ _ => rfl⟩
def me_33 : jw_E := ((5, 3, (none, false), jw_cd cd_33, fun _ _ => none), ⟨"java/lang/StringUTF16", "putCharSB", "([BII)V"⟩, prog_30_method_71_code)
theorem mp_33 : jw_P me_33 := ⟨jw_WS_mem (jw_k2 48 rfl) rfl, by decide +kernel, by decide +kernel, by decide +kernel, by decide +kernel, by decide +kernel, jw_chk_ok ck_33, fun _ _ => rfl⟩
def me_34 : jw_E := ((5, 2, (none, false), jw_cd cd_34, fun _ _ => none), ⟨"java/lang/StringUTF16", "checkIndex", "(I[B)V"⟩, prog_30_method_91_code)
theorem mp_34 : jw_P me_34 := ⟨jw_WS_mem (jw_k2 51 rfl) rfl, by decide +kernel, by decide +kernel, by decide +kernel, by decide +kernel, by decide +kernel, jw_chk_ok ck_34, fun _ _ => rfl⟩
def me_35 : jw_E := ((15, 2, (none, false), jw_cd cd_35, fun _ _ => none), ⟨"java/lang/String", "checkIndex", "(II)V"⟩, prog_27_method_155_code)
theorem mp_35 : jw_P me_35 := ⟨jw_WS_mem (jw_k2 54 rfl) rfl, by decide +kernel, by decide +kernel, by decide +kernel, by decide +kernel, by decide +kernel, jw_chk_ok ck_35, fun _ _ => rfl⟩
def me_36 : jw_E := ((16, 3, ((Option.some Jvm.ClassFile.FieldType.int), false), jw_cd cd_36, fun _ _ => none), ⟨"jdk/internal/util/Preconditions", "checkIndex", "(IILjava/util/function/BiFunction;)I"⟩, prog_43_method_11_code)
theorem mp_36 : jw_P me_36 := ⟨jw_WS_mem (jw_k2 57 rfl) rfl, by decide +kernel, by decide +kernel, by decide +kernel, by decide +kernel, by decide +kernel, jw_chk_ok ck_36, fun _ _ => rfl⟩
def me_37 : jw_E := ((3, 2, ((Option.some (Jvm.ClassFile.FieldType.object "java/lang/StringBuilder")), false), jw_cd cd_37, fun _ _ => none), ⟨"java/lang/StringBuilder", "append", "(I)Ljava/lang/StringBuilder;"⟩, prog_28_method_15_code)
theorem mp_37 : jw_P me_37 := ⟨jw_WS_mem (jw_k2 61 rfl) rfl, by decide +kernel, by decide +kernel, by decide +kernel, by decide +kernel, by decide +kernel, jw_chk_ok ck_37, fun _ _ => rfl⟩
def me_38 : jw_E := ((4, 4, ((Option.some (Jvm.ClassFile.FieldType.object "java/lang/AbstractStringBuilder")), false), jw_cd cd_38, fun _ _ => none), ⟨"java/lang/AbstractStringBuilder", "append", "(I)Ljava/lang/AbstractStringBuilder;"⟩, prog_17_method_32_code)
theorem mp_38 : jw_P me_38 := ⟨jw_WS_mem (jw_k2 64 rfl) rfl, by decide +kernel, by decide +kernel, by decide +kernel, by decide +kernel, by decide +kernel, jw_chk_ok ck_38, fun _ _ => rfl⟩
def me_39 : jw_E := ((17, 4, ((Option.some Jvm.ClassFile.FieldType.int), false), jw_cd cd_39, fun _ _ => none), ⟨"java/lang/Integer", "stringSize", "(I)I"⟩, prog_23_method_13_code)
theorem mp_39 : jw_P me_39 := ⟨jw_WS_mem (jw_k2 67 rfl) rfl, by decide +kernel, by decide +kernel, by decide +kernel, by decide +kernel, by decide +kernel, jw_chk_ok ck_39, fun _ _ => rfl⟩
def me_40 : jw_E := ((17, 7, ((Option.some Jvm.ClassFile.FieldType.int), false), jw_cd cd_40, fun _ _ => none), ⟨"java/lang/Integer", "getChars", "(II[B)I"⟩, prog_23_method_12_code)
theorem mp_40 : jw_P me_40 := ⟨jw_WS_mem (jw_k2 70 rfl) rfl, by decide +kernel, by decide +kernel, by decide +kernel, by decide +kernel, by decide +kernel, jw_chk_ok ck_40, fun _ _ => rfl⟩
def me_41 : jw_E := ((5, 5, ((Option.some Jvm.ClassFile.FieldType.int), false), jw_cd cd_41, fun _ _ => none), ⟨"java/lang/StringUTF16", "getChars", "(III[B)I"⟩, prog_30_method_77_code)
theorem mp_41 : jw_P me_41 := ⟨jw_WS_mem (jw_k2 77 rfl) rfl, by decide +kernel, by decide +kernel, by decide +kernel, by decide +kernel, by decide +kernel, jw_chk_ok ck_41, fun _ _ => rfl⟩
def me_42 : jw_E := ((5, 3, (none, false), jw_cd cd_42, fun _ _ => none), ⟨"java/lang/StringUTF16", "checkBoundsBeginEnd", "(II[B)V"⟩, prog_30_method_93_code)
theorem mp_42 : jw_P me_42 := ⟨jw_WS_mem (jw_k2 80 rfl) rfl, by decide +kernel, by decide +kernel, by decide +kernel, by decide +kernel, by decide +kernel, jw_chk_ok ck_42, fun _ _ => rfl⟩
def me_43 : jw_E := ((15, 3, (none, false), jw_cd cd_43, fun _ _ => none), ⟨"java/lang/String", "checkBoundsBeginEnd", "(III)V"⟩, prog_27_method_158_code)
theorem mp_43 : jw_P me_43 := ⟨jw_WS_mem (jw_k2 83 rfl) rfl, by decide +kernel, by decide +kernel, by decide +kernel, by decide +kernel, by decide +kernel, jw_chk_ok ck_43, fun _ _ => rfl⟩
def me_44 : jw_E := ((16, 4, ((Option.some Jvm.ClassFile.FieldType.int), false), jw_cd cd_44, fun _ _ => none), ⟨"jdk/internal/util/Preconditions", "checkFromToIndex", "(IIILjava/util/function/BiFunction;)I"⟩, prog_43_method_12_code)
theorem mp_44 : jw_P me_44 := ⟨jw_WS_mem (jw_k2 86 rfl) rfl, by decide +kernel, by decide +kernel, by decide +kernel, by decide +kernel, by decide +kernel, jw_chk_ok ck_44, fun _ _ => rfl⟩
def me_45 : jw_E := ((5, 7, ((Option.some Jvm.ClassFile.FieldType.int), false), jw_cd cd_45, fun _ _ => none), ⟨"java/lang/StringUTF16", "getChars", "(II[B)I"⟩, prog_30_method_89_code)
theorem mp_45 : jw_P me_45 := ⟨jw_WS_mem (jw_k2 89 rfl) rfl, by decide +kernel, by decide +kernel, by decide +kernel, by decide +kernel, by decide +kernel, jw_chk_ok ck_45, fun _ _ => rfl⟩
def me_46 : jw_E := ((3, 2, ((Option.some (Jvm.ClassFile.FieldType.object "java/lang/StringBuilder")), false), jw_cd cd_46, fun _ _ => none), ⟨"java/lang/StringBuilder", "append", "(Ljava/lang/String;)Ljava/lang/StringBuilder;"⟩, prog_28_method_7_code)
theorem mp_46 : jw_P me_46 := ⟨jw_WS_mem (jw_k2 95 rfl) rfl, by decide +kernel, by decide +kernel, by decide +kernel, by decide +kernel, by decide +kernel, jw_chk_ok ck_46, fun _ _ => rfl⟩
def me_47 : jw_E := ((4, 3, ((Option.some (Jvm.ClassFile.FieldType.object "java/lang/AbstractStringBuilder")), false), jw_cd cd_47, fun _ _ => none), ⟨"java/lang/AbstractStringBuilder", "append", "(Ljava/lang/String;)Ljava/lang/AbstractStringBuilder;"⟩, prog_17_method_22_code)
theorem mp_47 : jw_P me_47 := ⟨jw_WS_mem (jw_k2 98 rfl) rfl, by decide +kernel, by decide +kernel, by decide +kernel, by decide +kernel, by decide +kernel, jw_chk_ok ck_47, fun _ _ => rfl⟩
def me_48 : jw_E := ((4, 3, ((Option.some (Jvm.ClassFile.FieldType.object "java/lang/AbstractStringBuilder")), false), jw_cd cd_48, fun _ _ => none), ⟨"java/lang/AbstractStringBuilder", "appendNull", "()Ljava/lang/AbstractStringBuilder;"⟩, prog_17_method_26_code)
theorem mp_48 : jw_P me_48 := ⟨jw_WS_mem (jw_k2 102 rfl) rfl, by decide +kernel, by decide +kernel, by decide +kernel, by decide +kernel, by decide +kernel, jw_chk_ok ck_48, fun _ _ => rfl⟩
def me_49 : jw_E := ((5, 7, ((Option.some Jvm.ClassFile.FieldType.int), false), jw_cd cd_49, fun _ _ => none), ⟨"java/lang/StringUTF16", "putCharsAt", "([BICCCC)I"⟩, prog_30_method_81_code)
theorem mp_49 : jw_P me_49 := ⟨jw_WS_mem (jw_k2 105 rfl) rfl, by decide +kernel, by decide +kernel, by decide +kernel, by decide +kernel, by decide +kernel, jw_chk_ok ck_49, fun _ _ => rfl⟩
def me_50 : jw_E := ((15, 1, ((Option.some Jvm.ClassFile.FieldType.int), false), jw_cd cd_50, fun _ _ => none), ⟨"java/lang/String", "length", "()I"⟩, prog_27_method_54_code)
theorem mp_50 : jw_P me_50 := ⟨jw_WS_mem (jw_k2 109 rfl) rfl, by decide +kernel, by decide +kernel, by decide +kernel, by decide +kernel, by decide +kernel, jw_chk_ok ck_50, fun _ _ => rfl⟩
def me_51 : jw_E := ((15, 1, ((Option.some Jvm.ClassFile.FieldType.byte), false), jw_cd cd_51, fun _ _ => none), ⟨"java/lang/String", "coder", "()B"⟩, prog_27_method_152_code)
theorem mp_51 : jw_P me_51 := ⟨jw_WS_mem (jw_k2 113 rfl) rfl, by decide +kernel, by decide +kernel, by decide +kernel, by decide +kernel, by decide +kernel, jw_chk_ok ck_51, fun _ _ => rfl⟩
def me_52 : jw_E := ((4, 3, (none, false), jw_cd cd_52, fun _ _ => none), ⟨"java/lang/AbstractStringBuilder", "putStringAt", "(ILjava/lang/String;)V"⟩, prog_17_method_73_code)
theorem mp_52 : jw_P me_52 := ⟨jw_WS_mem (jw_k2 118 rfl) rfl, by decide +kernel, by decide +kernel, by decide +kernel, by decide +kernel, by decide +kernel, jw_chk_ok ck_52, fun _ _ => rfl⟩
def me_53 : jw_E := ((4, 2, (none, false), jw_cd cd_53, fun _ _ => none), ⟨"java/lang/AbstractStringBuilder", "inflateIfNeededFor", "(Ljava/lang/String;)V"⟩, prog_17_method_71_code)
theorem mp_53 : jw_P me_53 := ⟨jw_WS_mem (jw_k2 122 rfl) rfl, by decide +kernel, by decide +kernel, by decide +kernel, by decide +kernel, by decide +kernel, jw_chk_ok ck_53, fun _ _ => rfl⟩
def me_54 : jw_E := ((15, 4, (none, false), jw_cd cd_54, fun _ _ => none), ⟨"java/lang/String", "getBytes", "([BIB)V"⟩, prog_27_method_147_code)
theorem mp_54 : jw_P me_54 := ⟨jw_WS_mem (jw_k2 127 rfl) rfl, by decide +kernel, by decide +kernel, by decide +kernel, by decide +kernel, by decide +kernel, jw_chk_ok ck_54, fun _ _ => rfl⟩
def me_55 : jw_E := ((8, 4, (none, false), jw_cd cd_55, fun _ _ => none), ⟨"PickDesk$Value", "writeItems", "(Ljava/lang/StringBuilder;I)V"⟩, prog_10_method_19_code)
theorem mp_55 : jw_P me_55 := ⟨jw_WS_mem (jw_k2 133 rfl) rfl, by decide +kernel, by decide +kernel, by decide +kernel, by decide +kernel, by decide +kernel, jw_chk_ok ck_55, fun _ _ => rfl⟩
def me_56 : jw_E := ((0, 3, ((Option.some Jvm.ClassFile.FieldType.int), false), jw_cd cd_56, fun _ _ => none), ⟨"PickDesk", "load", "()I"⟩, prog_1_method_3_code)
theorem mp_56 : jw_P me_56 := ⟨jw_WS_mem (jw_k2 166 rfl) rfl, by decide +kernel, by decide +kernel, by decide +kernel, by decide +kernel, by decide +kernel, jw_chk_ok ck_56, fun _ _ => rfl⟩
def me_57 : jw_E := ((6, 3, ((Option.some (Jvm.ClassFile.FieldType.object "PickDesk$Value")), false), jw_cd cd_57, fun _ _ => none), ⟨"PickDesk$ValueReader", "readValue", "(I)LPickDesk$Value;"⟩, prog_11_method_2_code)
theorem mp_57 : jw_P me_57 := ⟨jw_WS_mem (jw_k2 170 rfl) rfl, by decide +kernel, by decide +kernel, by decide +kernel, by decide +kernel, by decide +kernel, jw_chk_ok ck_57, fun _ _ => rfl⟩
def me_58 : jw_E := ((2, 1, ((Option.some Jvm.ClassFile.FieldType.char), false), jw_cd cd_58, fun _ _ => none), ⟨"PickDesk$Text", "here", "()C"⟩, prog_9_method_5_code)
theorem mp_58 : jw_P me_58 := ⟨jw_WS_mem (jw_k2 174 rfl) rfl, by decide +kernel, by decide +kernel, by decide +kernel, by decide +kernel, by decide +kernel, jw_chk_ok ck_58, fun _ _ => rfl⟩
def me_59 : jw_E := ((2, 1, ((Option.some Jvm.ClassFile.FieldType.boolean), false), jw_cd cd_59, fun _ _ => none), ⟨"PickDesk$Text", "startsNumber", "(C)Z"⟩, prog_9_method_11_code)
theorem mp_59 : jw_P me_59 := ⟨jw_WS_mem (jw_k2 177 rfl) rfl, by decide +kernel, by decide +kernel, by decide +kernel, by decide +kernel, by decide +kernel, jw_chk_ok ck_59, fun _ _ => rfl⟩
def me_60 : jw_E := ((2, 4, ((Option.some Jvm.ClassFile.FieldType.int), false), jw_cd cd_60, fun _ _ => none), ⟨"PickDesk$Text", "readNumber", "()I"⟩, prog_9_method_13_code)
theorem mp_60 : jw_P me_60 := ⟨jw_WS_mem (jw_k2 181 rfl) rfl, by decide +kernel, by decide +kernel, by decide +kernel, by decide +kernel, by decide +kernel, jw_chk_ok ck_60, fun _ _ => rfl⟩
def me_61 : jw_E := ((2, 1, ((Option.some Jvm.ClassFile.FieldType.boolean), false), jw_cd cd_61, fun _ _ => none), ⟨"PickDesk$Text", "isDigit", "(C)Z"⟩, prog_9_method_10_code)
theorem mp_61 : jw_P me_61 := ⟨jw_WS_mem (jw_k2 185 rfl) rfl, by decide +kernel, by decide +kernel, by decide +kernel, by decide +kernel, by decide +kernel, jw_chk_ok ck_61, fun _ _ => rfl⟩
def me_62 : jw_E := ((2, 2, (none, false), jw_cd cd_62, fun _ _ => none), ⟨"PickDesk$Text", "wrongAt", "(I)V"⟩, prog_9_method_6_code)
theorem mp_62 : jw_P me_62 := ⟨jw_WS_mem (jw_k2 189 rfl) rfl, by decide +kernel, by decide +kernel, by decide +kernel, by decide +kernel, by decide +kernel, jw_chk_ok ck_62, fun _ _ => rfl⟩
def me_63 : jw_E := ((8, 1, ((Option.some (Jvm.ClassFile.FieldType.object "PickDesk$Value")), false), jw_cd cd_63, fun _ _ => none), ⟨"PickDesk$Value", "ofNumber", "(I)LPickDesk$Value;"⟩, prog_10_method_3_code)
theorem mp_63 : jw_P me_63 := ⟨jw_WS_mem (jw_k2 192 rfl) rfl, by decide +kernel, by decide +kernel, by decide +kernel, by decide +kernel, by decide +kernel, jw_chk_ok ck_63, fun _ _ => rfl⟩
def me_64 : jw_E := ((2, 2, ((Option.some Jvm.ClassFile.FieldType.boolean), false), jw_cd cd_64, fun _ _ => none), ⟨"PickDesk$Text", "take", "(C)Z"⟩, prog_9_method_7_code)
theorem mp_64 : jw_P me_64 := ⟨jw_WS_mem (jw_k2 196 rfl) rfl, by decide +kernel, by decide +kernel, by decide +kernel, by decide +kernel, by decide +kernel, jw_chk_ok ck_64, fun _ _ => rfl⟩
def me_65 : jw_E := ((2, 2, ((Option.some (Jvm.ClassFile.FieldType.object "java/lang/String")), false), jw_cd cd_65, fun _ _ => none), ⟨"PickDesk$Text", "readQuoted", "()Ljava/lang/String;"⟩, prog_9_method_14_code)
theorem mp_65 : jw_P me_65 := ⟨jw_WS_mem (jw_k2 200 rfl) rfl, by decide +kernel, by decide +kernel, by decide +kernel, by decide +kernel, by decide +kernel, jw_chk_ok ck_65, fun _ _ => rfl⟩
def me_66 : jw_E := ((3, 2, (none, false), jw_cd cd_66, fun _ _ => none), ⟨"java/lang/StringBuilder", "setLength", "(I)V"⟩, prog_28_method_89_code)
theorem mp_66 : jw_P me_66 := ⟨jw_WS_mem (jw_k2 204 rfl) rfl, by decide +kernel, by decide +kernel, by decide +kernel, by decide +kernel, by decide +kernel, jw_chk_ok ck_66, fun _ _ => rfl⟩
def me_67 : jw_E := ((4, 2, (none, false), jw_cd cd_67, fun _ _ => none), ⟨"java/lang/AbstractStringBuilder", "setLength", "(I)V"⟩, prog_17_method_13_code)
theorem mp_67 : jw_P me_67 := ⟨jw_WS_mem (jw_k2 207 rfl) rfl, by decide +kernel, by decide +kernel, by decide +kernel, by decide +kernel, by decide +kernel, jw_chk_ok ck_67, fun _ _ => rfl⟩
def me_68 : jw_E := ((14, 3, (none, false), jw_cd cd_68, fun _ _ => none), ⟨"java/lang/StringLatin1", "fillNull", "([BII)V"⟩, prog_29_method_48_code)
theorem mp_68 : jw_P me_68 := ⟨jw_WS_mem (jw_k2 210 rfl) rfl, by decide +kernel, by decide +kernel, by decide +kernel, by decide +kernel, by decide +kernel, jw_chk_ok ck_68, fun _ _ => rfl⟩
def me_69 : jw_E := ((13, 5, (none, false), jw_cd cd_69, fun _ _ => none), ⟨"java/util/Arrays", "fill", "([BIIB)V"⟩, prog_36_method_110_code)
theorem mp_69 : jw_P me_69 := ⟨jw_WS_mem (jw_k2 213 rfl) rfl, by decide +kernel, by decide +kernel, by decide +kernel, by decide +kernel, by decide +kernel, jw_chk_ok ck_69, fun _ _ => rfl⟩
def me_70 : jw_E := ((13, 3, (none, false), jw_cd cd_70, fun _ _ => none), ⟨"java/util/Arrays", "rangeCheck", "(III)V"⟩, prog_36_method_30_code)
theorem mp_70 : jw_P me_70 := ⟨jw_WS_mem (jw_k2 216 rfl) rfl, by decide +kernel, by decide +kernel, by decide +kernel, by decide +kernel, by decide +kernel, jw_chk_ok ck_70, fun _ _ => rfl⟩
def me_71 : jw_E := ((18, 1, (none, true), jw_cd cd_71, fun _ _ => none), ⟨"java/lang/Throwable", "<init>", "()V"⟩, prog_32_method_1_code)
theorem mp_71 : jw_P me_71 := ⟨jw_WS_mem (jw_k3 1 rfl) rfl, by decide +kernel, by decide +kernel, by decide +kernel, by decide +kernel, by decide +kernel, jw_chk_ok ck_71, fun _ _ => rfl⟩
def me_73 : jw_E := ((3, 1, ((Option.some (Jvm.ClassFile.FieldType.object "java/lang/String")), false), jw_cd cd_73, fun _ _ => none), ⟨"java/lang/StringBuilder", "toString", "()Ljava/lang/String;"⟩, prog_28_method_42_code)
theorem mp_73 : jw_P me_73 := ⟨jw_WS_mem (jw_k3 27 rfl) rfl, by decide +kernel, by decide +kernel, by decide +kernel, by decide +kernel, by decide +kernel, jw_chk_ok ck_73, fun _ _ => rfl⟩
def me_74 : jw_E := ((15, 2, (none, true), jw_cd cd_74, fun _ _ => none), ⟨"java/lang/String", "<init>", "(Ljava/lang/StringBuilder;)V"⟩, prog_27_method_53_code)
theorem mp_74 : jw_P me_74 := ⟨jw_WS_mem (jw_k3 32 rfl) rfl, by decide +kernel, by decide +kernel, by decide +kernel, by decide +kernel, by decide +kernel, jw_chk_ok ck_74, fun _ _ => rfl⟩
def me_75 : jw_E := ((15, 5, (none, true), jw_cd cd_75, fun _ _ => none), ⟨"java/lang/String", "<init>", "(Ljava/lang/AbstractStringBuilder;Ljava/lang/Void;)V"⟩, prog_27_method_150_code)
theorem mp_75 : jw_P me_75 := ⟨jw_WS_mem (jw_k3 35 rfl) rfl, by decide +kernel, by decide +kernel, by decide +kernel, by decide +kernel, by decide +kernel, jw_chk_ok ck_75, fun _ _ => rfl⟩
def me_76 : jw_E := ((4, 1, ((Option.some (Jvm.ClassFile.FieldType.array Jvm.ClassFile.FieldType.byte)), false), jw_cd cd_76, fun _ _ => none), ⟨"java/lang/AbstractStringBuilder", "getValue", "()[B"⟩, prog_17_method_64_code)
theorem mp_76 : jw_P me_76 := ⟨jw_WS_mem (jw_k3 41 rfl) rfl, by decide +kernel, by decide +kernel, by decide +kernel, by decide +kernel, by decide +kernel, jw_chk_ok ck_76, fun _ _ => rfl⟩
def me_77 : jw_E := ((3, 1, ((Option.some Jvm.ClassFile.FieldType.int), false), jw_cd cd_77, fun _ _ => none), ⟨"java/lang/StringBuilder", "length", "()I"⟩, prog_28_method_93_code)
theorem mp_77 : jw_P me_77 := ⟨jw_WS_mem (jw_k3 47 rfl) rfl, by decide +kernel, by decide +kernel, by decide +kernel, by decide +kernel, by decide +kernel, jw_chk_ok ck_77, fun _ _ => rfl⟩
def me_78 : jw_E := ((4, 1, ((Option.some Jvm.ClassFile.FieldType.int), false), jw_cd cd_78, fun _ _ => none), ⟨"java/lang/AbstractStringBuilder", "length", "()I"⟩, prog_17_method_6_code)
theorem mp_78 : jw_P me_78 := ⟨jw_WS_mem (jw_k3 49 rfl) rfl, by decide +kernel, by decide +kernel, by decide +kernel, by decide +kernel, by decide +kernel, jw_chk_ok ck_78, fun _ _ => rfl⟩
def me_79 : jw_E := ((13, 3, ((Option.some (Jvm.ClassFile.FieldType.array Jvm.ClassFile.FieldType.byte)), false), jw_cd cd_79, fun _ _ => none), ⟨"java/util/Arrays", "copyOfRange", "([BII)[B"⟩, prog_36_method_132_code)
theorem mp_79 : jw_P me_79 := ⟨jw_WS_mem (jw_k3 53 rfl) rfl, by decide +kernel, by decide +kernel, by decide +kernel, by decide +kernel, by decide +kernel, jw_chk_ok ck_79, fun _ _ => rfl⟩
def me_80 : jw_E := ((13, 5, ((Option.some (Jvm.ClassFile.FieldType.array Jvm.ClassFile.FieldType.byte)), false), jw_cd cd_80, fun _ _ => none), ⟨"java/util/Arrays", "copyOfRangeByte", "([BII)[B"⟩, prog_36_method_133_code)
theorem mp_80 : jw_P me_80 := ⟨jw_WS_mem (jw_k3 56 rfl) rfl, by decide +kernel, by decide +kernel, by decide +kernel, by decide +kernel, by decide +kernel, jw_chk_ok ck_80, fun _ _ => rfl⟩
def me_81 : jw_E := ((13, 2, (none, false), jw_cd cd_81, fun _ _ => none), ⟨"java/util/Arrays", "checkLength", "(II)V"⟩, prog_36_method_131_code)
theorem mp_81 : jw_P me_81 := ⟨jw_WS_mem (jw_k3 59 rfl) rfl, by decide +kernel, by decide +kernel, by decide +kernel, by decide +kernel, by decide +kernel, jw_chk_ok ck_81, fun _ _ => rfl⟩
def me_82 : jw_E := ((19, 2, (none, true), jw_cd cd_82, fun _ _ => none), ⟨"java/lang/IllegalArgumentException", "<init>", "(Ljava/lang/String;)V"⟩, prog_21_method_2_code)
theorem mp_82 : jw_P me_82 := ⟨jw_WS_mem (jw_k3 63 rfl) rfl, by decide +kernel, by decide +kernel, by decide +kernel, by decide +kernel, by decide +kernel, jw_chk_ok ck_82, fun _ _ => rfl⟩
def me_83 : jw_E := ((20, 2, (none, true), jw_cd cd_83, fun _ _ => none), ⟨"java/lang/RuntimeException", "<init>", "(Ljava/lang/String;)V"⟩, prog_26_method_2_code)
theorem mp_83 : jw_P me_83 := ⟨jw_WS_mem (jw_k3 66 rfl) rfl, by decide +kernel, by decide +kernel, by decide +kernel, by decide +kernel, by decide +kernel, jw_chk_ok ck_83, fun _ _ => rfl⟩
def me_84 : jw_E := ((21, 2, (none, true), jw_cd cd_84, fun _ _ => none), ⟨"java/lang/Exception", "<init>", "(Ljava/lang/String;)V"⟩, prog_20_method_2_code)
theorem mp_84 : jw_P me_84 := ⟨jw_WS_mem (jw_k3 69 rfl) rfl, by decide +kernel, by decide +kernel, by decide +kernel, by decide +kernel, by decide +kernel, jw_chk_ok ck_84, fun _ _ => rfl⟩
def me_85 : jw_E := ((18, 2, (none, true), jw_cd cd_85, fun _ _ => none), ⟨"java/lang/Throwable", "<init>", "(Ljava/lang/String;)V"⟩, prog_32_method_2_code)
theorem mp_85 : jw_P me_85 := ⟨jw_WS_mem (jw_k3 72 rfl) rfl, by decide +kernel, by decide +kernel, by decide +kernel, by decide +kernel, by decide +kernel, jw_chk_ok ck_85, fun _ _ => rfl⟩
def me_86 : jw_E := ((5, 6, ((Option.some (Jvm.ClassFile.FieldType.array Jvm.ClassFile.FieldType.byte)), false), jw_cd cd_86, fun _ _ => none), ⟨"java/lang/StringUTF16", "compress", "([BII)[B"⟩, prog_30_method_17_code)
theorem mp_86 : jw_P me_86 := ⟨jw_WS_mem (jw_k3 88 rfl) rfl, by decide +kernel, by decide +kernel, by decide +kernel, by decide +kernel, by decide +kernel, jw_chk_ok ck_86, fun _ _ => rfl⟩
def me_87 : jw_E := ((5, 7, ((Option.some Jvm.ClassFile.FieldType.int), false), jw_cd cd_87, fun _ _ => none), ⟨"java/lang/StringUTF16", "compress", "([BI[BII)I"⟩, prog_30_method_22_code)
theorem mp_87 : jw_P me_87 := ⟨jw_WS_mem (jw_k3 91 rfl) rfl, by decide +kernel, by decide +kernel, by decide +kernel, by decide +kernel, by decide +kernel, jw_chk_ok ck_87, fun _ _ => rfl⟩
def me_88 : jw_E := ((5, 2, ((Option.some Jvm.ClassFile.FieldType.char), false), jw_cd cd_88, fun _ _ => none), ⟨"java/lang/StringUTF16", "getChar", "([BI)C"⟩, prog_30_method_5_code)
theorem mp_88 : jw_P me_88 := ⟨jw_WS_mem (jw_k3 94 rfl) rfl, by decide +kernel, by decide +kernel, by decide +kernel, by decide +kernel, by decide +kernel, jw_chk_ok ck_88, fun _ _ => rfl⟩
def me_89 : jw_E := ((5, 2, ((Option.some Jvm.ClassFile.FieldType.byte), false), jw_cd cd_89, fun _ _ => none), ⟨"java/lang/StringUTF16", "coderFromArrayLen", "([BI)B"⟩, prog_30_method_15_code)
theorem mp_89 : jw_P me_89 := ⟨jw_WS_mem (jw_k3 98 rfl) rfl, by decide +kernel, by decide +kernel, by decide +kernel, by decide +kernel, by decide +kernel, jw_chk_ok ck_89, fun _ _ => rfl⟩
def me_90 : jw_E := ((5, 3, (none, false), jw_cd cd_90, fun _ _ => none), ⟨"java/lang/StringUTF16", "fillNull", "([BII)V"⟩, prog_30_method_70_code)
theorem mp_90 : jw_P me_90 := ⟨jw_WS_mem (jw_k3 112 rfl) rfl, by decide +kernel, by decide +kernel, by decide +kernel, by decide +kernel, by decide +kernel, jw_chk_ok ck_90, fun _ _ => rfl⟩
def me_91 : jw_E := ((8, 1, ((Option.some (Jvm.ClassFile.FieldType.object "PickDesk$Value")), false), jw_cd cd_91, fun _ _ => none), ⟨"PickDesk$Value", "ofText", "(Ljava/lang/String;)LPickDesk$Value;"⟩, prog_10_method_4_code)
theorem mp_91 : jw_P me_91 := ⟨jw_WS_mem (jw_k3 118 rfl) rfl, by decide +kernel, by decide +kernel, by decide +kernel, by decide +kernel, by decide +kernel, jw_chk_ok ck_91, fun _ _ => rfl⟩
def me_92 : jw_E := ((6, 4, ((Option.some (Jvm.ClassFile.FieldType.object "PickDesk$Value")), false), jw_cd cd_92, fun _ _ => none), ⟨"PickDesk$ValueReader", "readList", "(I)LPickDesk$Value;"⟩, prog_11_method_4_code)
theorem mp_92 : jw_P me_92 := ⟨jw_WS_mem (jw_k3 122 rfl) rfl, by decide +kernel, by decide +kernel, by decide +kernel, by decide +kernel, by decide +kernel, jw_chk_ok ck_92, fun _ _ => rfl⟩
def me_93 : jw_E := ((8, 1, ((Option.some (Jvm.ClassFile.FieldType.object "PickDesk$Value")), false), jw_cd cd_93, fun _ _ => none), ⟨"PickDesk$Value", "ofList", "(I)LPickDesk$Value;"⟩, prog_10_method_5_code)
theorem mp_93 : jw_P me_93 := ⟨jw_WS_mem (jw_k3 125 rfl) rfl, by decide +kernel, by decide +kernel, by decide +kernel, by decide +kernel, by decide +kernel, jw_chk_ok ck_93, fun _ _ => rfl⟩
def me_94 : jw_E := ((8, 2, (none, false), jw_cd cd_94, fun _ _ => none), ⟨"PickDesk$Value", "add", "(LPickDesk$Value;)V"⟩, prog_10_method_6_code)
theorem mp_94 : jw_P me_94 := ⟨jw_WS_mem (jw_k3 130 rfl) rfl, by decide +kernel, by decide +kernel, by decide +kernel, by decide +kernel, by decide +kernel, jw_chk_ok ck_94, fun _ _ => rfl⟩
def me_95 : jw_E := ((8, 2, ((Option.some (Jvm.ClassFile.FieldType.array (Jvm.ClassFile.FieldType.object "PickDesk$Value"))), false), jw_cd cd_95, fun _ _ => none), ⟨"PickDesk$Value", "widened", "([LPickDesk$Value;)[LPickDesk$Value;"⟩, prog_10_method_10_code)
theorem mp_95 : jw_P me_95 := ⟨jw_WS_mem (jw_k3 133 rfl) rfl, by decide +kernel, by decide +kernel, by decide +kernel, by decide +kernel, by decide +kernel, jw_chk_ok ck_95, fun _ _ => rfl⟩
def me_96 : jw_E := ((2, 2, (none, false), jw_cd cd_96, fun _ _ => none), ⟨"PickDesk$Text", "must", "(C)V"⟩, prog_9_method_8_code)
theorem mp_96 : jw_P me_96 := ⟨jw_WS_mem (jw_k3 138 rfl) rfl, by decide +kernel, by decide +kernel, by decide +kernel, by decide +kernel, by decide +kernel, jw_chk_ok ck_96, fun _ _ => rfl⟩
def me_97 : jw_E := ((6, 5, ((Option.some (Jvm.ClassFile.FieldType.object "PickDesk$Value")), false), jw_cd cd_97, fun _ _ => none), ⟨"PickDesk$ValueReader", "readObject", "(I)LPickDesk$Value;"⟩, prog_11_method_5_code)
theorem mp_97 : jw_P me_97 := ⟨jw_WS_mem (jw_k3 142 rfl) rfl, by decide +kernel, by decide +kernel, by decide +kernel, by decide +kernel, by decide +kernel, jw_chk_ok ck_97, fun _ _ => rfl⟩
def me_98 : jw_E := ((2, 2, ((Option.some (Jvm.ClassFile.FieldType.object "java/lang/String")), false), jw_cd cd_98, fun _ _ => none), ⟨"PickDesk$Text", "readKey", "()Ljava/lang/String;"⟩, prog_9_method_12_code)
theorem mp_98 : jw_P me_98 := ⟨jw_WS_mem (jw_k3 147 rfl) rfl, by decide +kernel, by decide +kernel, by decide +kernel, by decide +kernel, by decide +kernel, jw_chk_ok ck_98, fun _ _ => rfl⟩
def me_99 : jw_E := ((2, 1, ((Option.some Jvm.ClassFile.FieldType.boolean), false), jw_cd cd_99, fun _ _ => none), ⟨"PickDesk$Text", "isKeyLetter", "(C)Z"⟩, prog_9_method_9_code)
theorem mp_99 : jw_P me_99 := ⟨jw_WS_mem (jw_k3 150 rfl) rfl, by decide +kernel, by decide +kernel, by decide +kernel, by decide +kernel, by decide +kernel, jw_chk_ok ck_99, fun _ _ => rfl⟩
def me_100 : jw_E := ((8, 4, (none, false), jw_cd cd_100, fun _ _ => none), ⟨"PickDesk$Value", "put", "(Ljava/lang/String;LPickDesk$Value;)V"⟩, prog_10_method_9_code)
theorem mp_100 : jw_P me_100 := ⟨jw_WS_mem (jw_k3 155 rfl) rfl, by decide +kernel, by decide +kernel, by decide +kernel, by decide +kernel, by decide +kernel, jw_chk_ok ck_100, fun _ _ => rfl⟩
def me_101 : jw_E := ((15, 3, ((Option.some Jvm.ClassFile.FieldType.boolean), false), jw_cd cd_101, fun _ _ => none), ⟨"java/lang/String", "equals", "(Ljava/lang/Object;)Z"⟩, prog_27_method_66_code)
theorem mp_101 : jw_P me_101 := ⟨jw_WS_mem (jw_k3 159 rfl) rfl, by decide +kernel, by decide +kernel, by decide +kernel, by decide +kernel, by decide +kernel, jw_chk_ok ck_101, fun _ _ => rfl⟩
def me_102 : jw_E := ((14, 3, ((Option.some Jvm.ClassFile.FieldType.boolean), false), jw_cd cd_102, fun _ _ => none), ⟨"java/lang/StringLatin1", "equals", "([B[B)Z"⟩, prog_29_method_13_code)
theorem mp_102 : jw_P me_102 := ⟨jw_WS_mem (jw_k3 163 rfl) rfl, by decide +kernel, by decide +kernel, by decide +kernel, by decide +kernel, by decide +kernel, jw_chk_ok ck_102, fun _ _ => rfl⟩
def me_103 : jw_E := ((6, 1, ((Option.some (Jvm.ClassFile.FieldType.object "PickDesk$Value")), false), jw_cd cd_103, fun _ _ => none), ⟨"PickDesk$ValueReader", "readName", "()LPickDesk$Value;"⟩, prog_11_method_3_code)
theorem mp_103 : jw_P me_103 := ⟨jw_WS_mem (jw_k3 169 rfl) rfl, by decide +kernel, by decide +kernel, by decide +kernel, by decide +kernel, by decide +kernel, jw_chk_ok ck_103, fun _ _ => rfl⟩
def me_104 : jw_E := ((2, 2, ((Option.some Jvm.ClassFile.FieldType.int), false), jw_cd cd_104, fun _ _ => none), ⟨"PickDesk$Text", "endReading", "()I"⟩, prog_9_method_4_code)
theorem mp_104 : jw_P me_104 := ⟨jw_WS_mem (jw_k3 173 rfl) rfl, by decide +kernel, by decide +kernel, by decide +kernel, by decide +kernel, by decide +kernel, jw_chk_ok ck_104, fun _ _ => rfl⟩
def me_105 : jw_E := ((8, 4, ((Option.some Jvm.ClassFile.FieldType.int), false), jw_cd cd_105, fun _ _ => none), ⟨"PickDesk$Value", "count", "(I)I"⟩, prog_10_method_15_code)
theorem mp_105 : jw_P me_105 := ⟨jw_WS_mem (jw_k3 177 rfl) rfl, by decide +kernel, by decide +kernel, by decide +kernel, by decide +kernel, by decide +kernel, jw_chk_ok ck_105, fun _ _ => rfl⟩
def me_106 : jw_E := ((0, 1, ((Option.some Jvm.ClassFile.FieldType.int), false), jw_cd cd_106, fun _ _ => none), ⟨"PickDesk", "keep", "()I"⟩, prog_1_method_6_code)
theorem mp_106 : jw_P me_106 := ⟨jw_WS_mem (jw_k3 182 rfl) rfl, by decide +kernel, by decide +kernel, by decide +kernel, by decide +kernel, by decide +kernel, jw_chk_ok ck_106, fun _ _ => rfl⟩
def me_107 : jw_E := ((0, 2, ((Option.some Jvm.ClassFile.FieldType.int), false), jw_cd cd_107, fun _ _ => none), ⟨"PickDesk", "result", "(I)I"⟩, prog_1_method_7_code)
theorem mp_107 : jw_P me_107 := ⟨jw_WS_mem (jw_k3 186 rfl) rfl, by decide +kernel, by decide +kernel, by decide +kernel, by decide +kernel, by decide +kernel, jw_chk_ok ck_107, fun _ _ => rfl⟩
def me_108 : jw_E := ((8, 1, ((Option.some Jvm.ClassFile.FieldType.int), false), jw_cd cd_108, fun _ _ => none), ⟨"PickDesk$Value", "extent", "()I"⟩, prog_10_method_13_code)
theorem mp_108 : jw_P me_108 := ⟨jw_WS_mem (jw_k3 190 rfl) rfl, by decide +kernel, by decide +kernel, by decide +kernel, by decide +kernel, by decide +kernel, jw_chk_ok ck_108, fun _ _ => rfl⟩
def me_109 : jw_E := ((0, 2, ((Option.some Jvm.ClassFile.FieldType.int), false), jw_cd cd_109, fun _ _ => none), ⟨"PickDesk", "written", "(I)I"⟩, prog_1_method_8_code)
theorem mp_109 : jw_P me_109 := ⟨jw_WS_mem (jw_k3 196 rfl) rfl, by decide +kernel, by decide +kernel, by decide +kernel, by decide +kernel, by decide +kernel, jw_chk_ok ck_109, fun _ _ => rfl⟩
def me_110 : jw_E := ((3, 2, ((Option.some Jvm.ClassFile.FieldType.char), false), jw_cd cd_110, fun _ _ => none), ⟨"java/lang/StringBuilder", "charAt", "(I)C"⟩, prog_28_method_88_code)
theorem mp_110 : jw_P me_110 := ⟨jw_WS_mem (jw_k3 200 rfl) rfl, by decide +kernel, by decide +kernel, by decide +kernel, by decide +kernel, by decide +kernel, jw_chk_ok ck_110, fun _ _ => rfl⟩
def me_111 : jw_E := ((4, 5, ((Option.some Jvm.ClassFile.FieldType.char), false), jw_cd cd_111, fun _ _ => none), ⟨"java/lang/AbstractStringBuilder", "charAt", "(I)C"⟩, prog_17_method_14_code)
theorem mp_111 : jw_P me_111 := ⟨jw_WS_mem (jw_k3 203 rfl) rfl, by decide +kernel, by decide +kernel, by decide +kernel, by decide +kernel, by decide +kernel, jw_chk_ok ck_111, fun _ _ => rfl⟩
def me_112 : jw_E := ((0, 2, ((Option.some Jvm.ClassFile.FieldType.int), false), jw_cd cd_112, fun _ _ => none), ⟨"PickDesk", "about", "(I)I"⟩, prog_1_method_9_code)
theorem mp_112 : jw_P me_112 := ⟨jw_WS_mem (jw_k3 210 rfl) rfl, by decide +kernel, by decide +kernel, by decide +kernel, by decide +kernel, by decide +kernel, jw_chk_ok ck_112, fun _ _ => rfl⟩
def me_114 : jw_E := ((0, 2, ((Option.some Jvm.ClassFile.FieldType.int), false), jw_cd cd_114, fun _ _ => none), ⟨"PickDesk", "letter", "(I)I"⟩, prog_1_method_2_code)
theorem mp_114 : jw_P me_114 := ⟨jw_WS_mem (jw_k3 219 rfl) rfl, by decide +kernel, by decide +kernel, by decide +kernel, by decide +kernel, by decide +kernel, jw_chk_ok ck_114, fun _ _ => rfl⟩
def me_115 : jw_E := ((19, 1, (none, true), jw_cd cd_115, fun _ _ => none), ⟨"java/lang/IllegalArgumentException", "<init>", "()V"⟩, prog_21_method_1_code)
theorem mp_115 : jw_P me_115 := ⟨jw_WS_mem (jw_k3 223 rfl) rfl, by decide +kernel, by decide +kernel, by decide +kernel, by decide +kernel, by decide +kernel, jw_chk_ok ck_115, fun _ _ => rfl⟩
def me_116 : jw_E := ((20, 1, (none, true), jw_cd cd_116, fun _ _ => none), ⟨"java/lang/RuntimeException", "<init>", "()V"⟩, prog_26_method_1_code)
theorem mp_116 : jw_P me_116 := ⟨jw_WS_mem (jw_k3 226 rfl) rfl, by decide +kernel, by decide +kernel, by decide +kernel, by decide +kernel, by decide +kernel, jw_chk_ok ck_116, fun _ _ => rfl⟩
def me_117 : jw_E := ((21, 1, (none, true), jw_cd cd_117, fun _ _ => none), ⟨"java/lang/Exception", "<init>", "()V"⟩, prog_20_method_1_code)
theorem mp_117 : jw_P me_117 := ⟨jw_WS_mem (jw_k3 229 rfl) rfl, by decide +kernel, by decide +kernel, by decide +kernel, by decide +kernel, by decide +kernel, jw_chk_ok ck_117, fun _ _ => rfl⟩
def me_118 : jw_E := ((2, 1, ((Option.some Jvm.ClassFile.FieldType.boolean), false), jw_cd cd_118, fun _ _ => none), ⟨"PickDesk$Text", "isFull", "()Z"⟩, prog_9_method_2_code)
theorem mp_118 : jw_P me_118 := ⟨jw_WS_mem (jw_k3 234 rfl) rfl, by decide +kernel, by decide +kernel, by decide +kernel, by decide +kernel, by decide +kernel, jw_chk_ok ck_118, fun _ _ => rfl⟩
def me_119 : jw_E := ((23, 1, (none, true), jw_cd cd_119, fun _ _ => none), ⟨"java/lang/IllegalStateException", "<init>", "()V"⟩, prog_22_method_1_code)
theorem mp_119 : jw_P me_119 := ⟨jw_WS_mem (jw_k4 6 rfl) rfl, by decide +kernel, by decide +kernel, by decide +kernel, by decide +kernel, by decide +kernel, jw_chk_ok ck_119, fun _ _ => rfl⟩
def me_120 : jw_E := ((2, 2, (none, false), jw_cd cd_120, fun _ _ => none), ⟨"PickDesk$Text", "add", "(C)V"⟩, prog_9_method_3_code)
theorem mp_120 : jw_P me_120 := ⟨jw_WS_mem (jw_k4 13 rfl) rfl, by decide +kernel, by decide +kernel, by decide +kernel, by decide +kernel, by decide +kernel, jw_chk_ok ck_120, fun _ _ => rfl⟩
def me_122 : jw_E := ((0, 3, ((Option.some Jvm.ClassFile.FieldType.int), false), jw_cd cd_122, fun _ _ => none), ⟨"PickDesk", "query", "()I"⟩, prog_1_method_4_code)
theorem mp_122 : jw_P me_122 := ⟨jw_WS_mem (jw_k4 20 rfl) rfl, by decide +kernel, by decide +kernel, by decide +kernel, by decide +kernel, by decide +kernel, jw_chk_ok ck_122, fun _ _ => rfl⟩
def me_123 : jw_E := ((7, 3, ((Option.some (Jvm.ClassFile.FieldType.object "PickDesk$Query")), false), jw_cd cd_123, fun _ _ => none), ⟨"PickDesk$QueryReader", "read", "()LPickDesk$Query;"⟩, prog_5_method_2_code)
theorem mp_123 : jw_P me_123 := ⟨jw_WS_mem (jw_k4 24 rfl) rfl, by decide +kernel, by decide +kernel, by decide +kernel, by decide +kernel, by decide +kernel, jw_chk_ok ck_123, fun _ _ => rfl⟩
def me_124 : jw_E := ((24, 1, (none, true), jw_cd cd_124, fun _ _ => none), ⟨"PickDesk$Query", "<init>", "()V"⟩, prog_4_method_1_code)
theorem mp_124 : jw_P me_124 := ⟨jw_WS_mem (jw_k4 29 rfl) rfl, by decide +kernel, by decide +kernel, by decide +kernel, by decide +kernel, by decide +kernel, jw_chk_ok ck_124, fun _ _ => rfl⟩
def me_125 : jw_E := ((25, 1, (none, true), jw_cd cd_125, fun _ _ => none), ⟨"java/util/ArrayList", "<init>", "()V"⟩, prog_35_method_2_code)
theorem mp_125 : jw_P me_125 := ⟨jw_WS_mem (jw_k4 35 rfl) rfl, by decide +kernel, by decide +kernel, by decide +kernel, by decide +kernel, by decide +kernel, jw_chk_ok ck_125, fun _ _ => rfl⟩
def me_126 : jw_E := ((26, 1, (none, true), jw_cd cd_126, fun _ _ => none), ⟨"java/util/AbstractList", "<init>", "()V"⟩, prog_34_method_1_code)
theorem mp_126 : jw_P me_126 := ⟨jw_WS_mem (jw_k4 38 rfl) rfl, by decide +kernel, by decide +kernel, by decide +kernel, by decide +kernel, by decide +kernel, jw_chk_ok ck_126, fun _ _ => rfl⟩
def me_127 : jw_E := ((27, 1, (none, true), jw_cd cd_127, fun _ _ => none), ⟨"java/util/AbstractCollection", "<init>", "()V"⟩, prog_33_method_1_code)
theorem mp_127 : jw_P me_127 := ⟨jw_WS_mem (jw_k4 41 rfl) rfl, by decide +kernel, by decide +kernel, by decide +kernel, by decide +kernel, by decide +kernel, jw_chk_ok ck_127, fun _ _ => rfl⟩
def me_128 : jw_E := ((7, 3, ((Option.some (Jvm.ClassFile.FieldType.object "PickDesk$Stage")), false), jw_cd cd_128, fun _ _ => none), ⟨"PickDesk$QueryReader", "readStage", "()LPickDesk$Stage;"⟩, prog_5_method_3_code)
theorem mp_128 : jw_P me_128 := ⟨jw_WS_mem (jw_k4 66 rfl) rfl, by decide +kernel, by decide +kernel, by decide +kernel, by decide +kernel, by decide +kernel, jw_chk_ok ck_128, fun _ _ => rfl⟩
def me_129 : jw_E := ((28, 1, (none, true), jw_cd cd_129, fun _ _ => none), ⟨"PickDesk$Stage", "<init>", "()V"⟩, prog_7_method_1_code)
theorem mp_129 : jw_P me_129 := ⟨jw_WS_mem (jw_k4 71 rfl) rfl, by decide +kernel, by decide +kernel, by decide +kernel, by decide +kernel, by decide +kernel, jw_chk_ok ck_129, fun _ _ => rfl⟩
def me_130 : jw_E := ((7, 4, (none, false), jw_cd cd_130, fun _ _ => none), ⟨"PickDesk$QueryReader", "readWordOrKey", "(LPickDesk$Stage;)V"⟩, prog_5_method_5_code)
theorem mp_130 : jw_P me_130 := ⟨jw_WS_mem (jw_k4 97 rfl) rfl, by decide +kernel, by decide +kernel, by decide +kernel, by decide +kernel, by decide +kernel, jw_chk_ok ck_130, fun _ _ => rfl⟩
def me_131 : jw_E := ((7, 4, (none, false), jw_cd cd_131, fun _ _ => none), ⟨"PickDesk$QueryReader", "readWord", "(LPickDesk$Stage;Ljava/lang/String;I)V"⟩, prog_5_method_6_code)
theorem mp_131 : jw_P me_131 := ⟨jw_WS_mem (jw_k4 103 rfl) rfl, by decide +kernel, by decide +kernel, by decide +kernel, by decide +kernel, by decide +kernel, jw_chk_ok ck_131, fun _ _ => rfl⟩
def me_132 : jw_E := ((29, 2, ((Option.some (Jvm.ClassFile.FieldType.object "PickDesk$Word")), false), jw_cd cd_132, fun _ _ => none), ⟨"PickDesk$Word", "spelled", "(Ljava/lang/String;)LPickDesk$Word;"⟩, prog_12_method_4_code)
theorem mp_132 : jw_P me_132 := ⟨jw_WS_mem (jw_k4 106 rfl) rfl, by decide +kernel, by decide +kernel, by decide +kernel, by decide +kernel, by decide +kernel, jw_chk_ok ck_132, fun _ _ => rfl⟩
def me_133 : jw_E := ((7, 2, (none, false), jw_cd cd_133, fun _ _ => none), ⟨"PickDesk$QueryReader", "countStep", "(I)V"⟩, prog_5_method_4_code)
theorem mp_133 : jw_P me_133 := ⟨jw_WS_mem (jw_k4 117 rfl) rfl, by decide +kernel, by decide +kernel, by decide +kernel, by decide +kernel, by decide +kernel, jw_chk_ok ck_133, fun _ _ => rfl⟩
def me_134 : jw_E := ((30, 2, ((Option.some (Jvm.ClassFile.FieldType.object "PickDesk$Step")), false), jw_cd cd_134, fun _ _ => none), ⟨"PickDesk$Step", "ofKey", "(Ljava/lang/String;)LPickDesk$Step;"⟩, prog_8_method_3_code)
theorem mp_134 : jw_P me_134 := ⟨jw_WS_mem (jw_k4 120 rfl) rfl, by decide +kernel, by decide +kernel, by decide +kernel, by decide +kernel, by decide +kernel, jw_chk_ok ck_134, fun _ _ => rfl⟩
def me_135 : jw_E := ((30, 2, (none, true), jw_cd cd_135, fun _ _ => none), ⟨"PickDesk$Step", "<init>", "(I)V"⟩, prog_8_method_1_code)
theorem mp_135 : jw_P me_135 := ⟨jw_WS_mem (jw_k4 125 rfl) rfl, by decide +kernel, by decide +kernel, by decide +kernel, by decide +kernel, by decide +kernel, jw_chk_ok ck_135, fun _ _ => rfl⟩
def me_136 : jw_E := ((25, 2, ((Option.some Jvm.ClassFile.FieldType.boolean), false), jw_cd cd_136, fun _ _ => none), ⟨"java/util/ArrayList", "add", "(Ljava/lang/Object;)Z"⟩, prog_35_method_25_code)
theorem mp_136 : jw_P me_136 := ⟨jw_WS_mem (jw_k4 165 rfl) rfl, by decide +kernel, by decide +kernel, by decide +kernel, by decide +kernel, by decide +kernel, jw_chk_ok ck_136, fun _ _ => rfl⟩
def me_137 : jw_E := ((25, 4, (none, false), jw_cd cd_137, fun _ _ => none), ⟨"java/util/ArrayList", "add", "(Ljava/lang/Object;[Ljava/lang/Object;I)V"⟩, prog_35_method_24_code)
theorem mp_137 : jw_P me_137 := ⟨jw_WS_mem (jw_k4 169 rfl) rfl, by decide +kernel, by decide +kernel, by decide +kernel, by decide +kernel, by decide +kernel, jw_chk_ok ck_137, fun _ _ => rfl⟩
def me_138 : jw_E := ((25, 1, ((Option.some (Jvm.ClassFile.FieldType.array (Jvm.ClassFile.FieldType.object "java/lang/Object"))), false), jw_cd cd_138, fun _ _ => none), ⟨"java/util/ArrayList", "grow", "()[Ljava/lang/Object;"⟩, prog_35_method_7_code)
theorem mp_138 : jw_P me_138 := ⟨jw_WS_mem (jw_k4 173 rfl) rfl, by decide +kernel, by decide +kernel, by decide +kernel, by decide +kernel, by decide +kernel, jw_chk_ok ck_138, fun _ _ => rfl⟩
def me_139 : jw_E := ((25, 4, ((Option.some (Jvm.ClassFile.FieldType.array (Jvm.ClassFile.FieldType.object "java/lang/Object"))), false), jw_cd cd_139, fun _ _ => none), ⟨"java/util/ArrayList", "grow", "(I)[Ljava/lang/Object;"⟩, prog_35_method_6_code)
theorem mp_139 : jw_P me_139 := ⟨jw_WS_mem (jw_k4 177 rfl) rfl, by decide +kernel, by decide +kernel, by decide +kernel, by decide +kernel, by decide +kernel, jw_chk_ok ck_139, fun _ _ => rfl⟩
def me_140 : jw_E := ((13, 2, ((Option.some (Jvm.ClassFile.FieldType.array (Jvm.ClassFile.FieldType.object "java/lang/Object"))), false), jw_cd cd_140, fun _ _ => none), ⟨"java/util/Arrays", "copyOf", "([Ljava/lang/Object;I)[Ljava/lang/Object;"⟩, prog_36_method_119_code)
theorem mp_140 : jw_P me_140 := ⟨jw_WS_mem (jw_k4 181 rfl) rfl, by decide +kernel, by decide +kernel, by decide +kernel, by decide +kernel, by decide +kernel, jw_chk_ok ck_140, fun _ _ => rfl⟩
def me_141 : jw_E := ((13, 4, ((Option.some (Jvm.ClassFile.FieldType.array (Jvm.ClassFile.FieldType.object "java/lang/Object"))), false), jw_cd cd_141, fun _ _ => none), ⟨"java/util/Arrays", "copyOf", "([Ljava/lang/Object;ILjava/lang/Class;)[Ljava/lang/Object;"⟩, prog_36_method_120_code)
theorem mp_141 : jw_P me_141 := ⟨jw_WS_mem (jw_k4 206 rfl) rfl, by decide +kernel, by decide +kernel, by decide +kernel, by decide +kernel, by decide +kernel, jw_chk_ok ck_141, fun _ _ => rfl⟩
def me_142 : jw_E := ((7, 2, (none, false), jw_cd cd_142, fun _ _ => none), ⟨"PickDesk$QueryReader", "readBrackets", "(LPickDesk$Stage;)V"⟩, prog_5_method_8_code)
theorem mp_142 : jw_P me_142 := ⟨jw_WS_mem (jw_k4 215 rfl) rfl, by decide +kernel, by decide +kernel, by decide +kernel, by decide +kernel, by decide +kernel, jw_chk_ok ck_142, fun _ _ => rfl⟩
def me_143 : jw_E := ((30, 1, ((Option.some (Jvm.ClassFile.FieldType.object "PickDesk$Step")), false), jw_cd cd_143, fun _ _ => none), ⟨"PickDesk$Step", "ofKind", "(I)LPickDesk$Step;"⟩, prog_8_method_2_code)
theorem mp_143 : jw_P me_143 := ⟨jw_WS_mem (jw_k4 218 rfl) rfl, by decide +kernel, by decide +kernel, by decide +kernel, by decide +kernel, by decide +kernel, jw_chk_ok ck_143, fun _ _ => rfl⟩
def me_144 : jw_E := ((7, 3, ((Option.some (Jvm.ClassFile.FieldType.object "PickDesk$Step")), false), jw_cd cd_144, fun _ _ => none), ⟨"PickDesk$QueryReader", "readCondition", "()LPickDesk$Step;"⟩, prog_5_method_11_code)
theorem mp_144 : jw_P me_144 := ⟨jw_WS_mem (jw_k4 222 rfl) rfl, by decide +kernel, by decide +kernel, by decide +kernel, by decide +kernel, by decide +kernel, jw_chk_ok ck_144, fun _ _ => rfl⟩
def me_145 : jw_E := ((7, 3, ((Option.some (Jvm.ClassFile.FieldType.object "PickDesk$Side")), false), jw_cd cd_145, fun _ _ => none), ⟨"PickDesk$QueryReader", "readSide", "()LPickDesk$Side;"⟩, prog_5_method_13_code)
theorem mp_145 : jw_P me_145 := ⟨jw_WS_mem (jw_k4 226 rfl) rfl, by decide +kernel, by decide +kernel, by decide +kernel, by decide +kernel, by decide +kernel, jw_chk_ok ck_145, fun _ _ => rfl⟩
def me_146 : jw_E := ((31, 2, (none, true), jw_cd cd_146, fun _ _ => none), ⟨"PickDesk$Side", "<init>", "(LPickDesk$Value;)V"⟩, prog_6_method_1_code)
theorem mp_146 : jw_P me_146 := ⟨jw_WS_mem (jw_k4 234 rfl) rfl, by decide +kernel, by decide +kernel, by decide +kernel, by decide +kernel, by decide +kernel, jw_chk_ok ck_146, fun _ _ => rfl⟩
def me_147 : jw_E := ((31, 2, (none, false), jw_cd cd_147, fun _ _ => none), ⟨"PickDesk$Side", "add", "(LPickDesk$Value;)V"⟩, prog_6_method_3_code)
theorem mp_147 : jw_P me_147 := ⟨jw_WS_mem (jw_k5 15 rfl) rfl, by decide +kernel, by decide +kernel, by decide +kernel, by decide +kernel, by decide +kernel, jw_chk_ok ck_147, fun _ _ => rfl⟩
def me_148 : jw_E := ((31, 1, ((Option.some Jvm.ClassFile.FieldType.boolean), false), jw_cd cd_148, fun _ _ => none), ⟨"PickDesk$Side", "isFull", "()Z"⟩, prog_6_method_2_code)
theorem mp_148 : jw_P me_148 := ⟨jw_WS_mem (jw_k5 19 rfl) rfl, by decide +kernel, by decide +kernel, by decide +kernel, by decide +kernel, by decide +kernel, jw_chk_ok ck_148, fun _ _ => rfl⟩
def me_149 : jw_E := ((7, 1, ((Option.some Jvm.ClassFile.FieldType.int), false), jw_cd cd_149, fun _ _ => none), ⟨"PickDesk$QueryReader", "readSign", "()I"⟩, prog_5_method_12_code)
theorem mp_149 : jw_P me_149 := ⟨jw_WS_mem (jw_k5 23 rfl) rfl, by decide +kernel, by decide +kernel, by decide +kernel, by decide +kernel, by decide +kernel, jw_chk_ok ck_149, fun _ _ => rfl⟩
def me_150 : jw_E := ((30, 4, ((Option.some (Jvm.ClassFile.FieldType.object "PickDesk$Step")), false), jw_cd cd_150, fun _ _ => none), ⟨"PickDesk$Step", "ofCondition", "(LPickDesk$Side;ILPickDesk$Side;)LPickDesk$Step;"⟩, prog_8_method_6_code)
theorem mp_150 : jw_P me_150 := ⟨jw_WS_mem (jw_k5 26 rfl) rfl, by decide +kernel, by decide +kernel, by decide +kernel, by decide +kernel, by decide +kernel, jw_chk_ok ck_150, fun _ _ => rfl⟩
def me_151 : jw_E := ((7, 8, ((Option.some (Jvm.ClassFile.FieldType.object "PickDesk$Step")), false), jw_cd cd_151, fun _ _ => none), ⟨"PickDesk$QueryReader", "readIndexOrSlice", "()LPickDesk$Step;"⟩, prog_5_method_9_code)
theorem mp_151 : jw_P me_151 := ⟨jw_WS_mem (jw_k5 30 rfl) rfl, by decide +kernel, by decide +kernel, by decide +kernel, by decide +kernel, by decide +kernel, jw_chk_ok ck_151, fun _ _ => rfl⟩
def me_152 : jw_E := ((30, 2, ((Option.some (Jvm.ClassFile.FieldType.object "PickDesk$Step")), false), jw_cd cd_152, fun _ _ => none), ⟨"PickDesk$Step", "ofIndex", "(I)LPickDesk$Step;"⟩, prog_8_method_4_code)
theorem mp_152 : jw_P me_152 := ⟨jw_WS_mem (jw_k5 33 rfl) rfl, by decide +kernel, by decide +kernel, by decide +kernel, by decide +kernel, by decide +kernel, jw_chk_ok ck_152, fun _ _ => rfl⟩
def me_153 : jw_E := ((7, 3, ((Option.some Jvm.ClassFile.FieldType.int), false), jw_cd cd_153, fun _ _ => none), ⟨"PickDesk$QueryReader", "readSliceStep", "()I"⟩, prog_5_method_10_code)
theorem mp_153 : jw_P me_153 := ⟨jw_WS_mem (jw_k5 37 rfl) rfl, by decide +kernel, by decide +kernel, by decide +kernel, by decide +kernel, by decide +kernel, jw_chk_ok ck_153, fun _ _ => rfl⟩
def me_154 : jw_E := ((30, 4, ((Option.some (Jvm.ClassFile.FieldType.object "PickDesk$Step")), false), jw_cd cd_154, fun _ _ => none), ⟨"PickDesk$Step", "ofSlice", "(III)LPickDesk$Step;"⟩, prog_8_method_5_code)
theorem mp_154 : jw_P me_154 := ⟨jw_WS_mem (jw_k5 42 rfl) rfl, by decide +kernel, by decide +kernel, by decide +kernel, by decide +kernel, by decide +kernel, jw_chk_ok ck_154, fun _ _ => rfl⟩
def me_155 : jw_E := ((7, 2, (none, false), jw_cd cd_155, fun _ _ => none), ⟨"PickDesk$QueryReader", "readDot", "(LPickDesk$Stage;)V"⟩, prog_5_method_7_code)
theorem mp_155 : jw_P me_155 := ⟨jw_WS_mem (jw_k5 46 rfl) rfl, by decide +kernel, by decide +kernel, by decide +kernel, by decide +kernel, by decide +kernel, jw_chk_ok ck_155, fun _ _ => rfl⟩
def me_157 : jw_E := ((0, 2, ((Option.some Jvm.ClassFile.FieldType.int), false), jw_cd cd_157, fun _ _ => none), ⟨"PickDesk", "run", "(I)I"⟩, prog_1_method_5_code)
theorem mp_157 : jw_P me_157 := ⟨jw_WS_mem (jw_k5 53 rfl) rfl, by decide +kernel, by decide +kernel, by decide +kernel, by decide +kernel, by decide +kernel, jw_chk_ok ck_157, fun _ _ => rfl⟩
def me_158 : jw_E := ((9, 6, ((Option.some (Jvm.ClassFile.FieldType.object "PickDesk$Value")), false), jw_cd cd_158, fun _ _ => none), ⟨"PickDesk$Picker", "answer", "(LPickDesk$Query;LPickDesk$Value;)LPickDesk$Value;"⟩, prog_3_method_2_code)
theorem mp_158 : jw_P me_158 := ⟨jw_WS_mem (jw_k5 57 rfl) rfl, by decide +kernel, by decide +kernel, by decide +kernel, by decide +kernel, by decide +kernel, jw_chk_ok ck_158, fun _ _ => rfl⟩
def me_159 : jw_E := ((25, 1, ((Option.some Jvm.ClassFile.FieldType.int), false), jw_cd cd_159, fun _ _ => none), ⟨"java/util/ArrayList", "size", "()I"⟩, prog_35_method_8_code)
theorem mp_159 : jw_P me_159 := ⟨jw_WS_mem (jw_k5 61 rfl) rfl, by decide +kernel, by decide +kernel, by decide +kernel, by decide +kernel, by decide +kernel, jw_chk_ok ck_159, fun _ _ => rfl⟩
def me_160 : jw_E := ((25, 2, ((Option.some (Jvm.ClassFile.FieldType.object "java/lang/Object")), false), jw_cd cd_160, fun _ _ => none), ⟨"java/util/ArrayList", "get", "(I)Ljava/lang/Object;"⟩, prog_35_method_20_code)
theorem mp_160 : jw_P me_160 := ⟨jw_WS_mem (jw_k5 65 rfl) rfl, by decide +kernel, by decide +kernel, by decide +kernel, by decide +kernel, by decide +kernel, jw_chk_ok ck_160, fun _ _ => rfl⟩
def me_161 : jw_E := ((32, 2, ((Option.some Jvm.ClassFile.FieldType.int), false), jw_cd cd_161, fun _ _ => none), ⟨"java/util/Objects", "checkIndex", "(II)I"⟩, prog_39_method_17_code)
theorem mp_161 : jw_P me_161 := ⟨jw_WS_mem (jw_k5 68 rfl) rfl, by decide +kernel, by decide +kernel, by decide +kernel, by decide +kernel, by decide +kernel, jw_chk_ok ck_161, fun _ _ => rfl⟩
def me_162 : jw_E := ((25, 2, ((Option.some (Jvm.ClassFile.FieldType.object "java/lang/Object")), false), jw_cd cd_162, fun _ _ => none), ⟨"java/util/ArrayList", "elementData", "(I)Ljava/lang/Object;"⟩, prog_35_method_18_code)
theorem mp_162 : jw_P me_162 := ⟨jw_WS_mem (jw_k5 73 rfl) rfl, by decide +kernel, by decide +kernel, by decide +kernel, by decide +kernel, by decide +kernel, jw_chk_ok ck_162, fun _ _ => rfl⟩
def me_163 : jw_E := ((9, 7, ((Option.some (Jvm.ClassFile.FieldType.object "PickDesk$Value")), false), jw_cd cd_163, fun _ _ => none), ⟨"PickDesk$Picker", "followParts", "(LPickDesk$Stage;LPickDesk$Value;)LPickDesk$Value;"⟩, prog_3_method_3_code)
theorem mp_163 : jw_P me_163 := ⟨jw_WS_mem (jw_k5 78 rfl) rfl, by decide +kernel, by decide +kernel, by decide +kernel, by decide +kernel, by decide +kernel, jw_chk_ok ck_163, fun _ _ => rfl⟩
def me_164 : jw_E := ((9, 12, ((Option.some (Jvm.ClassFile.FieldType.object "PickDesk$Value")), false), jw_cd cd_164, fun _ _ => none), ⟨"PickDesk$Picker", "follow", "(LPickDesk$Stage;IILPickDesk$Value;)LPickDesk$Value;"⟩, prog_3_method_4_code)
theorem mp_164 : jw_P me_164 := ⟨jw_WS_mem (jw_k5 83 rfl) rfl, by decide +kernel, by decide +kernel, by decide +kernel, by decide +kernel, by decide +kernel, jw_chk_ok ck_164, fun _ _ => rfl⟩
def me_165 : jw_E := ((8, 4, ((Option.some (Jvm.ClassFile.FieldType.object "PickDesk$Value")), false), jw_cd cd_165, fun _ _ => none), ⟨"PickDesk$Value", "at", "(Ljava/lang/String;LPickDesk$Value;)LPickDesk$Value;"⟩, prog_10_method_11_code)
theorem mp_165 : jw_P me_165 := ⟨jw_WS_mem (jw_k5 87 rfl) rfl, by decide +kernel, by decide +kernel, by decide +kernel, by decide +kernel, by decide +kernel, jw_chk_ok ck_165, fun _ _ => rfl⟩
def me_166 : jw_E := ((8, 4, ((Option.some (Jvm.ClassFile.FieldType.object "PickDesk$Value")), false), jw_cd cd_166, fun _ _ => none), ⟨"PickDesk$Value", "element", "(ILPickDesk$Value;)LPickDesk$Value;"⟩, prog_10_method_12_code)
theorem mp_166 : jw_P me_166 := ⟨jw_WS_mem (jw_k5 91 rfl) rfl, by decide +kernel, by decide +kernel, by decide +kernel, by decide +kernel, by decide +kernel, jw_chk_ok ck_166, fun _ _ => rfl⟩
def me_167 : jw_E := ((30, 1, ((Option.some Jvm.ClassFile.FieldType.int), false), jw_cd cd_167, fun _ _ => none), ⟨"PickDesk$Step", "takes", "()I"⟩, prog_8_method_7_code)
theorem mp_167 : jw_P me_167 := ⟨jw_WS_mem (jw_k5 95 rfl) rfl, by decide +kernel, by decide +kernel, by decide +kernel, by decide +kernel, by decide +kernel, jw_chk_ok ck_167, fun _ _ => rfl⟩
def me_168 : jw_E := ((9, 6, ((Option.some (Jvm.ClassFile.FieldType.object "PickDesk$Value")), false), jw_cd cd_168, fun _ _ => none), ⟨"PickDesk$Picker", "flat", "(LPickDesk$Value;)LPickDesk$Value;"⟩, prog_3_method_5_code)
theorem mp_168 : jw_P me_168 := ⟨jw_WS_mem (jw_k5 99 rfl) rfl, by decide +kernel, by decide +kernel, by decide +kernel, by decide +kernel, by decide +kernel, jw_chk_ok ck_168, fun _ _ => rfl⟩
def me_169 : jw_E := ((30, 6, ((Option.some Jvm.ClassFile.FieldType.int), false), jw_cd cd_169, fun _ _ => none), ⟨"PickDesk$Step", "bound", "(II)I"⟩, prog_8_method_8_code)
theorem mp_169 : jw_P me_169 := ⟨jw_WS_mem (jw_k5 105 rfl) rfl, by decide +kernel, by decide +kernel, by decide +kernel, by decide +kernel, by decide +kernel, jw_chk_ok ck_169, fun _ _ => rfl⟩
def me_170 : jw_E := ((9, 5, ((Option.some Jvm.ClassFile.FieldType.boolean), false), jw_cd cd_170, fun _ _ => none), ⟨"PickDesk$Picker", "holds", "(LPickDesk$Step;LPickDesk$Value;)Z"⟩, prog_3_method_6_code)
theorem mp_170 : jw_P me_170 := ⟨jw_WS_mem (jw_k5 111 rfl) rfl, by decide +kernel, by decide +kernel, by decide +kernel, by decide +kernel, by decide +kernel, jw_chk_ok ck_170, fun _ _ => rfl⟩
def me_171 : jw_E := ((9, 5, ((Option.some (Jvm.ClassFile.FieldType.object "PickDesk$Value")), false), jw_cd cd_171, fun _ _ => none), ⟨"PickDesk$Picker", "sideValue", "(LPickDesk$Side;LPickDesk$Value;)LPickDesk$Value;"⟩, prog_3_method_7_code)
theorem mp_171 : jw_P me_171 := ⟨jw_WS_mem (jw_k5 115 rfl) rfl, by decide +kernel, by decide +kernel, by decide +kernel, by decide +kernel, by decide +kernel, jw_chk_ok ck_171, fun _ _ => rfl⟩
def me_172 : jw_E := ((8, 1, ((Option.some Jvm.ClassFile.FieldType.boolean), false), jw_cd cd_172, fun _ _ => none), ⟨"PickDesk$Value", "countsAsTrue", "()Z"⟩, prog_10_method_14_code)
theorem mp_172 : jw_P me_172 := ⟨jw_WS_mem (jw_k5 119 rfl) rfl, by decide +kernel, by decide +kernel, by decide +kernel, by decide +kernel, by decide +kernel, jw_chk_ok ck_172, fun _ _ => rfl⟩
def me_173 : jw_E := ((8, 6, ((Option.some Jvm.ClassFile.FieldType.boolean), false), jw_cd cd_173, fun _ _ => none), ⟨"PickDesk$Value", "same", "(LPickDesk$Value;I)Z"⟩, prog_10_method_16_code)
theorem mp_173 : jw_P me_173 := ⟨jw_WS_mem (jw_k5 124 rfl) rfl, by decide +kernel, by decide +kernel, by decide +kernel, by decide +kernel, by decide +kernel, jw_chk_ok ck_173, fun _ _ => rfl⟩
def me_174 : jw_E := ((8, 2, (none, false), jw_cd cd_174, fun _ _ => none), ⟨"PickDesk$Value", "addUnlessNull", "(LPickDesk$Value;)V"⟩, prog_10_method_7_code)
theorem mp_174 : jw_P me_174 := ⟨jw_WS_mem (jw_k5 130 rfl) rfl, by decide +kernel, by decide +kernel, by decide +kernel, by decide +kernel, by decide +kernel, jw_chk_ok ck_174, fun _ _ => rfl⟩
def me_175 : jw_E := ((10, 5, ((Option.some Jvm.ClassFile.FieldType.int), false), jw_cd cd_175, fun _ _ => none), ⟨"PickDesk$Words", "failure", "(LPickDesk$Word;LPickDesk$Value;Ljava/lang/String;)I"⟩, prog_13_method_2_code)
theorem mp_175 : jw_P me_175 := ⟨jw_WS_mem (jw_k5 134 rfl) rfl, by decide +kernel, by decide +kernel, by decide +kernel, by decide +kernel, by decide +kernel, jw_chk_ok ck_175, fun _ _ => rfl⟩
def me_176 : jw_E := ((29, 2, ((Option.some Jvm.ClassFile.FieldType.boolean), false), jw_cd cd_176, fun _ _ => none), ⟨"PickDesk$Word", "takesKind", "(I)Z"⟩, prog_12_method_5_code)
theorem mp_176 : jw_P me_176 := ⟨jw_WS_mem (jw_k5 138 rfl) rfl, by decide +kernel, by decide +kernel, by decide +kernel, by decide +kernel, by decide +kernel, jw_chk_ok ck_176, fun _ _ => rfl⟩
def me_177 : jw_E := ((10, 5, ((Option.some Jvm.ClassFile.FieldType.boolean), false), jw_cd cd_177, fun _ _ => none), ⟨"PickDesk$Words", "allOfKind", "(LPickDesk$Value;Ljava/lang/String;I)Z"⟩, prog_13_method_3_code)
theorem mp_177 : jw_P me_177 := ⟨jw_WS_mem (jw_k5 144 rfl) rfl, by decide +kernel, by decide +kernel, by decide +kernel, by decide +kernel, by decide +kernel, jw_chk_ok ck_177, fun _ _ => rfl⟩
def me_178 : jw_E := ((10, 3, ((Option.some (Jvm.ClassFile.FieldType.object "PickDesk$Value")), false), jw_cd cd_178, fun _ _ => none), ⟨"PickDesk$Words", "rank", "(LPickDesk$Value;Ljava/lang/String;)LPickDesk$Value;"⟩, prog_13_method_4_code)
theorem mp_178 : jw_P me_178 := ⟨jw_WS_mem (jw_k5 148 rfl) rfl, by decide +kernel, by decide +kernel, by decide +kernel, by decide +kernel, by decide +kernel, jw_chk_ok ck_178, fun _ _ => rfl⟩
def me_179 : jw_E := ((15, 1, ((Option.some Jvm.ClassFile.FieldType.boolean), false), jw_cd cd_179, fun _ _ => none), ⟨"java/lang/String", "isEmpty", "()Z"⟩, prog_27_method_55_code)
theorem mp_179 : jw_P me_179 := ⟨jw_WS_mem (jw_k5 152 rfl) rfl, by decide +kernel, by decide +kernel, by decide +kernel, by decide +kernel, by decide +kernel, jw_chk_ok ck_179, fun _ _ => rfl⟩
def me_180 : jw_E := ((10, 4, ((Option.some (Jvm.ClassFile.FieldType.object "PickDesk$Value")), false), jw_cd cd_180, fun _ _ => none), ⟨"PickDesk$Words", "give", "(LPickDesk$Word;LPickDesk$Value;Ljava/lang/String;)LPickDesk$Value;"⟩, prog_13_method_5_code)
theorem mp_180 : jw_P me_180 := ⟨jw_WS_mem (jw_k5 162 rfl) rfl, by decide +kernel, by decide +kernel, by decide +kernel, by decide +kernel, by decide +kernel, jw_chk_ok ck_180, fun _ _ => rfl⟩
def me_181 : jw_E := ((33, 1, ((Option.some Jvm.ClassFile.FieldType.int), false), jw_cd cd_181, fun _ _ => none), ⟨"java/lang/Enum", "ordinal", "()I"⟩, prog_19_method_2_code)
theorem mp_181 : jw_P me_181 := ⟨jw_WS_mem (jw_k5 170 rfl) rfl, by decide +kernel, by decide +kernel, by decide +kernel, by decide +kernel, by decide +kernel, jw_chk_ok ck_181, fun _ _ => rfl⟩
def me_182 : jw_E := ((10, 5, ((Option.some (Jvm.ClassFile.FieldType.object "PickDesk$Value")), false), jw_cd cd_182, fun _ _ => none), ⟨"PickDesk$Words", "listOf", "([LPickDesk$Value;I)LPickDesk$Value;"⟩, prog_13_method_6_code)
theorem mp_182 : jw_P me_182 := ⟨jw_WS_mem (jw_k5 176 rfl) rfl, by decide +kernel, by decide +kernel, by decide +kernel, by decide +kernel, by decide +kernel, jw_chk_ok ck_182, fun _ _ => rfl⟩
def me_183 : jw_E := ((10, 5, ((Option.some (Jvm.ClassFile.FieldType.object "PickDesk$Value")), false), jw_cd cd_183, fun _ _ => none), ⟨"PickDesk$Words", "sorted", "(LPickDesk$Value;Ljava/lang/String;)LPickDesk$Value;"⟩, prog_13_method_7_code)
theorem mp_183 : jw_P me_183 := ⟨jw_WS_mem (jw_k5 182 rfl) rfl, by decide +kernel, by decide +kernel, by decide +kernel, by decide +kernel, by decide +kernel, jw_chk_ok ck_183, fun _ _ => rfl⟩
def me_184 : jw_E := ((10, 8, ((Option.some Jvm.ClassFile.FieldType.int), false), jw_cd cd_184, fun _ _ => none), ⟨"PickDesk$Words", "placeIn", "(LPickDesk$Value;LPickDesk$Value;Ljava/lang/String;)I"⟩, prog_13_method_8_code)
theorem mp_184 : jw_P me_184 := ⟨jw_WS_mem (jw_k5 186 rfl) rfl, by decide +kernel, by decide +kernel, by decide +kernel, by decide +kernel, by decide +kernel, jw_chk_ok ck_184, fun _ _ => rfl⟩
def me_185 : jw_E := ((8, 4, ((Option.some Jvm.ClassFile.FieldType.int), false), jw_cd cd_185, fun _ _ => none), ⟨"PickDesk$Value", "order", "(LPickDesk$Value;)I"⟩, prog_10_method_17_code)
theorem mp_185 : jw_P me_185 := ⟨jw_WS_mem (jw_k5 190 rfl) rfl, by decide +kernel, by decide +kernel, by decide +kernel, by decide +kernel, by decide +kernel, jw_chk_ok ck_185, fun _ _ => rfl⟩
def me_186 : jw_E := ((17, 2, ((Option.some Jvm.ClassFile.FieldType.int), false), jw_cd cd_186, fun _ _ => none), ⟨"java/lang/Integer", "compare", "(II)I"⟩, prog_23_method_40_code)
theorem mp_186 : jw_P me_186 := ⟨jw_WS_mem (jw_k5 193 rfl) rfl, by decide +kernel, by decide +kernel, by decide +kernel, by decide +kernel, by decide +kernel, jw_chk_ok ck_186, fun _ _ => rfl⟩
def me_187 : jw_E := ((15, 2, ((Option.some Jvm.ClassFile.FieldType.char), false), jw_cd cd_187, fun _ _ => none), ⟨"java/lang/String", "charAt", "(I)C"⟩, prog_27_method_56_code)
theorem mp_187 : jw_P me_187 := ⟨jw_WS_mem (jw_k5 198 rfl) rfl, by decide +kernel, by decide +kernel, by decide +kernel, by decide +kernel, by decide +kernel, jw_chk_ok ck_187, fun _ _ => rfl⟩
def me_188 : jw_E := ((15, 1, ((Option.some Jvm.ClassFile.FieldType.boolean), false), jw_cd cd_188, fun _ _ => none), ⟨"java/lang/String", "isLatin1", "()Z"⟩, prog_27_method_154_code)
theorem mp_188 : jw_P me_188 := ⟨jw_WS_mem (jw_k5 202 rfl) rfl, by decide +kernel, by decide +kernel, by decide +kernel, by decide +kernel, by decide +kernel, jw_chk_ok ck_188, fun _ _ => rfl⟩
def me_189 : jw_E := ((14, 2, ((Option.some Jvm.ClassFile.FieldType.char), false), jw_cd cd_189, fun _ _ => none), ⟨"java/lang/StringLatin1", "charAt", "([BI)C"⟩, prog_29_method_2_code)
theorem mp_189 : jw_P me_189 := ⟨jw_WS_mem (jw_k5 205 rfl) rfl, by decide +kernel, by decide +kernel, by decide +kernel, by decide +kernel, by decide +kernel, jw_chk_ok ck_189, fun _ _ => rfl⟩
def me_190 : jw_E := ((5, 2, ((Option.some Jvm.ClassFile.FieldType.char), false), jw_cd cd_190, fun _ _ => none), ⟨"java/lang/StringUTF16", "charAt", "([BI)C"⟩, prog_30_method_83_code)
theorem mp_190 : jw_P me_190 := ⟨jw_WS_mem (jw_k5 209 rfl) rfl, by decide +kernel, by decide +kernel, by decide +kernel, by decide +kernel, by decide +kernel, jw_chk_ok ck_190, fun _ _ => rfl⟩
def me_191 : jw_E := ((8, 4, (none, false), jw_cd cd_191, fun _ _ => none), ⟨"PickDesk$Value", "insert", "(ILPickDesk$Value;)V"⟩, prog_10_method_8_code)
theorem mp_191 : jw_P me_191 := ⟨jw_WS_mem (jw_k5 213 rfl) rfl, by decide +kernel, by decide +kernel, by decide +kernel, by decide +kernel, by decide +kernel, jw_chk_ok ck_191, fun _ _ => rfl⟩
def me_192 : jw_E := ((10, 4, ((Option.some (Jvm.ClassFile.FieldType.object "java/lang/String")), false), jw_cd cd_192, fun _ _ => none), ⟨"PickDesk$Words", "reversed", "(Ljava/lang/String;)Ljava/lang/String;"⟩, prog_13_method_10_code)
theorem mp_192 : jw_P me_192 := ⟨jw_WS_mem (jw_k5 217 rfl) rfl, by decide +kernel, by decide +kernel, by decide +kernel, by decide +kernel, by decide +kernel, jw_chk_ok ck_192, fun _ _ => rfl⟩
def me_193 : jw_E := ((15, 1, ((Option.some (Jvm.ClassFile.FieldType.array Jvm.ClassFile.FieldType.char)), false), jw_cd cd_193, fun _ _ => none), ⟨"java/lang/String", "toCharArray", "()[C"⟩, prog_27_method_129_code)
theorem mp_193 : jw_P me_193 := ⟨jw_WS_mem (jw_k5 221 rfl) rfl, by decide +kernel, by decide +kernel, by decide +kernel, by decide +kernel, by decide +kernel, jw_chk_ok ck_193, fun _ _ => rfl⟩
def me_194 : jw_E := ((14, 2, ((Option.some (Jvm.ClassFile.FieldType.array Jvm.ClassFile.FieldType.char)), false), jw_cd cd_194, fun _ _ => none), ⟨"java/lang/StringLatin1", "toChars", "([B)[C"⟩, prog_29_method_9_code)
theorem mp_194 : jw_P me_194 := ⟨jw_WS_mem (jw_k5 224 rfl) rfl, by decide +kernel, by decide +kernel, by decide +kernel, by decide +kernel, by decide +kernel, jw_chk_ok ck_194, fun _ _ => rfl⟩
def me_195 : jw_E := ((14, 6, (none, false), jw_cd cd_195, fun _ _ => none), ⟨"java/lang/StringLatin1", "inflate", "([BI[CII)V"⟩, prog_29_method_49_code)
theorem mp_195 : jw_P me_195 := ⟨jw_WS_mem (jw_k5 227 rfl) rfl, by decide +kernel, by decide +kernel, by decide +kernel, by decide +kernel, by decide +kernel, jw_chk_ok ck_195, fun _ _ => rfl⟩
def me_196 : jw_E := ((5, 2, ((Option.some (Jvm.ClassFile.FieldType.array Jvm.ClassFile.FieldType.char)), false), jw_cd cd_196, fun _ _ => none), ⟨"java/lang/StringUTF16", "toChars", "([B)[C"⟩, prog_30_method_13_code)
theorem mp_196 : jw_P me_196 := ⟨jw_WS_mem (jw_k5 230 rfl) rfl, by decide +kernel, by decide +kernel, by decide +kernel, by decide +kernel, by decide +kernel, jw_chk_ok ck_196, fun _ _ => rfl⟩
def me_197 : jw_E := ((5, 6, (none, false), jw_cd cd_197, fun _ _ => none), ⟨"java/lang/StringUTF16", "getChars", "([BII[CI)V"⟩, prog_30_method_26_code)
theorem mp_197 : jw_P me_197 := ⟨jw_WS_mem (jw_k5 233 rfl) rfl, by decide +kernel, by decide +kernel, by decide +kernel, by decide +kernel, by decide +kernel, jw_chk_ok ck_197, fun _ _ => rfl⟩
def me_198 : jw_E := ((15, 2, (none, true), jw_cd cd_198, fun _ _ => none), ⟨"java/lang/String", "<init>", "([C)V"⟩, prog_27_method_3_code)
theorem mp_198 : jw_P me_198 := ⟨jw_WS_mem (jw_k5 238 rfl) rfl, by decide +kernel, by decide +kernel, by decide +kernel, by decide +kernel, by decide +kernel, jw_chk_ok ck_198, fun _ _ => rfl⟩
def me_199 : jw_E := ((15, 6, (none, true), jw_cd cd_199, fun _ _ => none), ⟨"java/lang/String", "<init>", "([CIILjava/lang/Void;)V"⟩, prog_27_method_149_code)
theorem mp_199 : jw_P me_199 := ⟨jw_WS_mem (jw_k6 1 rfl) rfl, by decide +kernel, by decide +kernel, by decide +kernel, by decide +kernel, by decide +kernel, jw_chk_ok ck_199, fun _ _ => rfl⟩
def me_200 : jw_E := ((5, 6, ((Option.some (Jvm.ClassFile.FieldType.array Jvm.ClassFile.FieldType.byte)), false), jw_cd cd_200, fun _ _ => none), ⟨"java/lang/StringUTF16", "compress", "([CII)[B"⟩, prog_30_method_16_code)
theorem mp_200 : jw_P me_200 := ⟨jw_WS_mem (jw_k6 5 rfl) rfl, by decide +kernel, by decide +kernel, by decide +kernel, by decide +kernel, by decide +kernel, jw_chk_ok ck_200, fun _ _ => rfl⟩
def me_201 : jw_E := ((5, 7, ((Option.some Jvm.ClassFile.FieldType.int), false), jw_cd cd_201, fun _ _ => none), ⟨"java/lang/StringUTF16", "compress", "([CI[BII)I"⟩, prog_30_method_21_code)
theorem mp_201 : jw_P me_201 := ⟨jw_WS_mem (jw_k6 8 rfl) rfl, by decide +kernel, by decide +kernel, by decide +kernel, by decide +kernel, by decide +kernel, jw_chk_ok ck_201, fun _ _ => rfl⟩
def me_202 : jw_E := ((5, 5, ((Option.some (Jvm.ClassFile.FieldType.array Jvm.ClassFile.FieldType.byte)), false), jw_cd cd_202, fun _ _ => none), ⟨"java/lang/StringUTF16", "toBytes", "([CII)[B"⟩, prog_30_method_14_code)
theorem mp_202 : jw_P me_202 := ⟨jw_WS_mem (jw_k6 11 rfl) rfl, by decide +kernel, by decide +kernel, by decide +kernel, by decide +kernel, by decide +kernel, jw_chk_ok ck_202, fun _ _ => rfl⟩
def me_203 : jw_E := ((10, 4, ((Option.some (Jvm.ClassFile.FieldType.object "PickDesk$Value")), false), jw_cd cd_203, fun _ _ => none), ⟨"PickDesk$Words", "reversedList", "(LPickDesk$Value;)LPickDesk$Value;"⟩, prog_13_method_9_code)
theorem mp_203 : jw_P me_203 := ⟨jw_WS_mem (jw_k6 18 rfl) rfl, by decide +kernel, by decide +kernel, by decide +kernel, by decide +kernel, by decide +kernel, jw_chk_ok ck_203, fun _ _ => rfl⟩
def me_204 : jw_E := ((10, 4, ((Option.some Jvm.ClassFile.FieldType.int), false), jw_cd cd_204, fun _ _ => none), ⟨"PickDesk$Words", "sum", "(LPickDesk$Value;)I"⟩, prog_13_method_11_code)
theorem mp_204 : jw_P me_204 := ⟨jw_WS_mem (jw_k6 22 rfl) rfl, by decide +kernel, by decide +kernel, by decide +kernel, by decide +kernel, by decide +kernel, jw_chk_ok ck_204, fun _ _ => rfl⟩
def me_205 : jw_E := ((10, 5, ((Option.some (Jvm.ClassFile.FieldType.object "PickDesk$Value")), false), jw_cd cd_205, fun _ _ => none), ⟨"PickDesk$Words", "outermost", "(LPickDesk$Value;I)LPickDesk$Value;"⟩, prog_13_method_12_code)
theorem mp_205 : jw_P me_205 := ⟨jw_WS_mem (jw_k6 26 rfl) rfl, by decide +kernel, by decide +kernel, by decide +kernel, by decide +kernel, by decide +kernel, jw_chk_ok ck_205, fun _ _ => rfl⟩
def me_206 : jw_E := ((10, 2, ((Option.some (Jvm.ClassFile.FieldType.object "java/lang/String")), false), jw_cd cd_206, fun _ _ => none), ⟨"PickDesk$Words", "typeOf", "(I)Ljava/lang/String;"⟩, prog_13_method_13_code)
theorem mp_206 : jw_P me_206 := ⟨jw_WS_mem (jw_k6 30 rfl) rfl, by decide +kernel, by decide +kernel, by decide +kernel, by decide +kernel, by decide +kernel, jw_chk_ok ck_206, fun _ _ => rfl⟩
def me_207 : jw_E := ((34, 1, (none, true), jw_cd cd_207, fun _ _ => none), ⟨"PickDeskModel", "<init>", "()V"⟩, prog_15_method_1_code)
theorem mp_207 : jw_P me_207 := ⟨jw_WS_mem (jw_k6 42 rfl) rfl, by decide +kernel, by decide +kernel, by decide +kernel, by decide +kernel, by decide +kernel, jw_chk_ok ck_207, fun _ _ => rfl⟩
def me_208 : jw_E := ((34, 7, ((Option.some Jvm.ClassFile.FieldType.int), false), jw_cd cd_208, fun _ _ => none), ⟨"PickDeskModel", "node", "(IIIJ)I"⟩, prog_15_method_3_code)
theorem mp_208 : jw_P me_208 := ⟨jw_WS_mem (jw_k6 47 rfl) rfl, by decide +kernel, by decide +kernel, by decide +kernel, by decide +kernel, by decide +kernel, jw_chk_ok ck_208, fun _ _ => rfl⟩
def me_209 : jw_E := ((34, 1, ((Option.some Jvm.ClassFile.FieldType.int), false), jw_cd cd_209, fun _ _ => none), ⟨"PickDeskModel", "thrown", "()I"⟩, prog_15_method_2_code)
theorem mp_209 : jw_P me_209 := ⟨jw_WS_mem (jw_k6 195 rfl) rfl, by decide +kernel, by decide +kernel, by decide +kernel, by decide +kernel, by decide +kernel, jw_chk_ok ck_209, fun _ _ => rfl⟩
def me_210 : jw_E := ((34, 2, ((Option.some Jvm.ClassFile.FieldType.int), false), jw_cd cd_210, fun _ _ => none), ⟨"PickDeskModel", "letter", "(I)I"⟩, prog_15_method_16_code)
theorem mp_210 : jw_P me_210 := ⟨jw_WS_mem (jw_k6 199 rfl) rfl, by decide +kernel, by decide +kernel, by decide +kernel, by decide +kernel, by decide +kernel, jw_chk_ok ck_210, fun _ _ => rfl⟩
def me_211 : jw_E := ((34, 2, ((Option.some Jvm.ClassFile.FieldType.int), false), jw_cd cd_211, fun _ _ => none), ⟨"PickDeskModel", "load", "()I"⟩, prog_15_method_30_code)
theorem mp_211 : jw_P me_211 := ⟨jw_WS_mem (jw_k6 203 rfl) rfl, by decide +kernel, by decide +kernel, by decide +kernel, by decide +kernel, by decide +kernel, jw_chk_ok ck_211, fun _ _ => rfl⟩
def me_212 : jw_E := ((34, 1, (none, false), jw_cd cd_212, fun _ _ => none), ⟨"PickDeskModel", "begin", "()V"⟩, prog_15_method_29_code)
theorem mp_212 : jw_P me_212 := ⟨jw_WS_mem (jw_k6 207 rfl) rfl, by decide +kernel, by decide +kernel, by decide +kernel, by decide +kernel, by decide +kernel, jw_chk_ok ck_212, fun _ _ => rfl⟩
def me_213 : jw_E := ((34, 2, (none, false), jw_cd cd_213, fun _ _ => none), ⟨"PickDeskModel", "empty", "(I)V"⟩, prog_15_method_5_code)
theorem mp_213 : jw_P me_213 := ⟨jw_WS_mem (jw_k6 211 rfl) rfl, by decide +kernel, by decide +kernel, by decide +kernel, by decide +kernel, by decide +kernel, jw_chk_ok ck_213, fun _ _ => rfl⟩
def me_214 : jw_E := ((34, 5, ((Option.some Jvm.ClassFile.FieldType.int), false), jw_cd cd_214, fun _ _ => none), ⟨"PickDeskModel", "readValue", "()I"⟩, prog_15_method_28_code)
theorem mp_214 : jw_P me_214 := ⟨jw_WS_mem (jw_k6 215 rfl) rfl, by decide +kernel, by decide +kernel, by decide +kernel, by decide +kernel, by decide +kernel, jw_chk_ok ck_214, fun _ _ => rfl⟩
def me_215 : jw_E := ((34, 1, ((Option.some Jvm.ClassFile.FieldType.int), false), jw_cd cd_215, fun _ _ => none), ⟨"PickDeskModel", "here", "()I"⟩, prog_15_method_17_code)
theorem mp_215 : jw_P me_215 := ⟨jw_WS_mem (jw_k6 219 rfl) rfl, by decide +kernel, by decide +kernel, by decide +kernel, by decide +kernel, by decide +kernel, jw_chk_ok ck_215, fun _ _ => rfl⟩
def me_216 : jw_E := ((34, 2, (none, false), jw_cd cd_216, fun _ _ => none), ⟨"PickDeskModel", "wrong", "(I)V"⟩, prog_15_method_18_code)
theorem mp_216 : jw_P me_216 := ⟨jw_WS_mem (jw_k6 223 rfl) rfl, by decide +kernel, by decide +kernel, by decide +kernel, by decide +kernel, by decide +kernel, jw_chk_ok ck_216, fun _ _ => rfl⟩
def me_217 : jw_E := ((34, 3, (none, false), jw_cd cd_217, fun _ _ => none), ⟨"PickDeskModel", "name", "(I)V"⟩, prog_15_method_27_code)
theorem mp_217 : jw_P me_217 := ⟨jw_WS_mem (jw_k6 227 rfl) rfl, by decide +kernel, by decide +kernel, by decide +kernel, by decide +kernel, by decide +kernel, jw_chk_ok ck_217, fun _ _ => rfl⟩
def me_218 : jw_E := ((34, 2, ((Option.some Jvm.ClassFile.FieldType.boolean), false), jw_cd cd_218, fun _ _ => none), ⟨"PickDeskModel", "readKey", "()Z"⟩, prog_15_method_21_code)
theorem mp_218 : jw_P me_218 := ⟨jw_WS_mem (jw_k6 231 rfl) rfl, by decide +kernel, by decide +kernel, by decide +kernel, by decide +kernel, by decide +kernel, jw_chk_ok ck_218, fun _ _ => rfl⟩
def me_219 : jw_E := ((34, 1, ((Option.some Jvm.ClassFile.FieldType.boolean), false), jw_cd cd_219, fun _ _ => none), ⟨"PickDeskModel", "isLetter", "(I)Z"⟩, prog_15_method_14_code)
theorem mp_219 : jw_P me_219 := ⟨jw_WS_mem (jw_k6 234 rfl) rfl, by decide +kernel, by decide +kernel, by decide +kernel, by decide +kernel, by decide +kernel, jw_chk_ok ck_219, fun _ _ => rfl⟩
def me_220 : jw_E := ((34, 4, ((Option.some Jvm.ClassFile.FieldType.long), false), jw_cd cd_220, fun _ _ => none), ⟨"PickDeskModel", "with", "(JII)J"⟩, prog_15_method_13_code)
theorem mp_220 : jw_P me_220 := ⟨jw_WS_mem (jw_k6 237 rfl) rfl, by decide +kernel, by decide +kernel, by decide +kernel, by decide +kernel, by decide +kernel, jw_chk_ok ck_220, fun _ _ => rfl⟩
def me_221 : jw_E := ((34, 2, ((Option.some Jvm.ClassFile.FieldType.boolean), false), jw_cd cd_221, fun _ _ => none), ⟨"PickDeskModel", "must", "(I)Z"⟩, prog_15_method_19_code)
theorem mp_221 : jw_P me_221 := ⟨jw_WS_mem (jw_k7 1 rfl) rfl, by decide +kernel, by decide +kernel, by decide +kernel, by decide +kernel, by decide +kernel, jw_chk_ok ck_221, fun _ _ => rfl⟩
def me_222 : jw_E := ((34, 3, ((Option.some Jvm.ClassFile.FieldType.int), false), jw_cd cd_222, fun _ _ => none), ⟨"PickDeskModel", "plain", "()I"⟩, prog_15_method_25_code)
theorem mp_222 : jw_P me_222 := ⟨jw_WS_mem (jw_k7 5 rfl) rfl, by decide +kernel, by decide +kernel, by decide +kernel, by decide +kernel, by decide +kernel, jw_chk_ok ck_222, fun _ _ => rfl⟩
def me_223 : jw_E := ((34, 1, ((Option.some Jvm.ClassFile.FieldType.boolean), false), jw_cd cd_223, fun _ _ => none), ⟨"PickDeskModel", "numberBegins", "()Z"⟩, prog_15_method_24_code)
theorem mp_223 : jw_P me_223 := ⟨jw_WS_mem (jw_k7 9 rfl) rfl, by decide +kernel, by decide +kernel, by decide +kernel, by decide +kernel, by decide +kernel, jw_chk_ok ck_223, fun _ _ => rfl⟩
def me_224 : jw_E := ((34, 1, ((Option.some Jvm.ClassFile.FieldType.boolean), false), jw_cd cd_224, fun _ _ => none), ⟨"PickDeskModel", "isDigit", "(I)Z"⟩, prog_15_method_15_code)
theorem mp_224 : jw_P me_224 := ⟨jw_WS_mem (jw_k7 12 rfl) rfl, by decide +kernel, by decide +kernel, by decide +kernel, by decide +kernel, by decide +kernel, jw_chk_ok ck_224, fun _ _ => rfl⟩
def me_225 : jw_E := ((34, 3, ((Option.some Jvm.ClassFile.FieldType.boolean), false), jw_cd cd_225, fun _ _ => none), ⟨"PickDeskModel", "readNumber", "()Z"⟩, prog_15_method_22_code)
theorem mp_225 : jw_P me_225 := ⟨jw_WS_mem (jw_k7 16 rfl) rfl, by decide +kernel, by decide +kernel, by decide +kernel, by decide +kernel, by decide +kernel, jw_chk_ok ck_225, fun _ _ => rfl⟩
def me_226 : jw_E := ((34, 2, ((Option.some Jvm.ClassFile.FieldType.boolean), false), jw_cd cd_226, fun _ _ => none), ⟨"PickDeskModel", "takes", "(I)Z"⟩, prog_15_method_20_code)
theorem mp_226 : jw_P me_226 := ⟨jw_WS_mem (jw_k7 20 rfl) rfl, by decide +kernel, by decide +kernel, by decide +kernel, by decide +kernel, by decide +kernel, jw_chk_ok ck_226, fun _ _ => rfl⟩
def me_227 : jw_E := ((34, 2, ((Option.some Jvm.ClassFile.FieldType.boolean), false), jw_cd cd_227, fun _ _ => none), ⟨"PickDeskModel", "readText", "()Z"⟩, prog_15_method_23_code)
theorem mp_227 : jw_P me_227 := ⟨jw_WS_mem (jw_k7 24 rfl) rfl, by decide +kernel, by decide +kernel, by decide +kernel, by decide +kernel, by decide +kernel, jw_chk_ok ck_227, fun _ _ => rfl⟩
def me_228 : jw_E := ((34, 5, (none, false), jw_cd cd_228, fun _ _ => none), ⟨"PickDeskModel", "put", "(II)V"⟩, prog_15_method_26_code)
theorem mp_228 : jw_P me_228 := ⟨jw_WS_mem (jw_k7 28 rfl) rfl, by decide +kernel, by decide +kernel, by decide +kernel, by decide +kernel, by decide +kernel, jw_chk_ok ck_228, fun _ _ => rfl⟩
def me_229 : jw_E := ((34, 8, ((Option.some Jvm.ClassFile.FieldType.int), false), jw_cd cd_229, fun _ _ => none), ⟨"PickDeskModel", "join", "(IIIIJ)I"⟩, prog_15_method_4_code)
theorem mp_229 : jw_P me_229 := ⟨jw_WS_mem (jw_k7 32 rfl) rfl, by decide +kernel, by decide +kernel, by decide +kernel, by decide +kernel, by decide +kernel, jw_chk_ok ck_229, fun _ _ => rfl⟩
def me_230 : jw_E := ((34, 10, ((Option.some Jvm.ClassFile.FieldType.int), false), jw_cd cd_230, fun _ _ => none), ⟨"PickDeskModel", "copy", "(II)I"⟩, prog_15_method_6_code)
theorem mp_230 : jw_P me_230 := ⟨jw_WS_mem (jw_k7 36 rfl) rfl, by decide +kernel, by decide +kernel, by decide +kernel, by decide +kernel, by decide +kernel, jw_chk_ok ck_230, fun _ _ => rfl⟩
def me_231 : jw_E := ((34, 5, ((Option.some Jvm.ClassFile.FieldType.int), false), jw_cd cd_231, fun _ _ => none), ⟨"PickDeskModel", "sizeOf", "(I)I"⟩, prog_15_method_7_code)
theorem mp_231 : jw_P me_231 := ⟨jw_WS_mem (jw_k7 40 rfl) rfl, by decide +kernel, by decide +kernel, by decide +kernel, by decide +kernel, by decide +kernel, jw_chk_ok ck_231, fun _ _ => rfl⟩
def me_232 : jw_E := ((34, 3, ((Option.some Jvm.ClassFile.FieldType.int), false), jw_cd cd_232, fun _ _ => none), ⟨"PickDeskModel", "query", "()I"⟩, prog_15_method_43_code)
theorem mp_232 : jw_P me_232 := ⟨jw_WS_mem (jw_k7 44 rfl) rfl, by decide +kernel, by decide +kernel, by decide +kernel, by decide +kernel, by decide +kernel, jw_chk_ok ck_232, fun _ _ => rfl⟩
def me_233 : jw_E := ((34, 2, ((Option.some Jvm.ClassFile.FieldType.boolean), false), jw_cd cd_233, fun _ _ => none), ⟨"PickDeskModel", "readFirst", "()Z"⟩, prog_15_method_36_code)
theorem mp_233 : jw_P me_233 := ⟨jw_WS_mem (jw_k7 48 rfl) rfl, by decide +kernel, by decide +kernel, by decide +kernel, by decide +kernel, by decide +kernel, jw_chk_ok ck_233, fun _ _ => rfl⟩
def me_234 : jw_E := ((34, 6, (none, false), jw_cd cd_234, fun _ _ => none), ⟨"PickDeskModel", "readWord", "(I)V"⟩, prog_15_method_35_code)
theorem mp_234 : jw_P me_234 := ⟨jw_WS_mem (jw_k7 52 rfl) rfl, by decide +kernel, by decide +kernel, by decide +kernel, by decide +kernel, by decide +kernel, jw_chk_ok ck_234, fun _ _ => rfl⟩
def me_235 : jw_E := ((34, 4, ((Option.some Jvm.ClassFile.FieldType.int), false), jw_cd cd_235, fun _ _ => none), ⟨"PickDeskModel", "wordOf", "(J)I"⟩, prog_15_method_34_code)
theorem mp_235 : jw_P me_235 := ⟨jw_WS_mem (jw_k7 55 rfl) rfl, by decide +kernel, by decide +kernel, by decide +kernel, by decide +kernel, by decide +kernel, jw_chk_ok ck_235, fun _ _ => rfl⟩
def me_236 : jw_E := ((34, 9, ((Option.some Jvm.ClassFile.FieldType.long), false), jw_cd cd_236, fun _ _ => none), ⟨"PickDeskModel", "packed", "(IIIIIII)J"⟩, prog_15_method_33_code)
theorem mp_236 : jw_P me_236 := ⟨jw_WS_mem (jw_k7 58 rfl) rfl, by decide +kernel, by decide +kernel, by decide +kernel, by decide +kernel, by decide +kernel, jw_chk_ok ck_236, fun _ _ => rfl⟩
def me_237 : jw_E := ((34, 6, (none, false), jw_cd cd_237, fun _ _ => none), ⟨"PickDeskModel", "add", "(IJI)V"⟩, prog_15_method_31_code)
theorem mp_237 : jw_P me_237 := ⟨jw_WS_mem (jw_k7 62 rfl) rfl, by decide +kernel, by decide +kernel, by decide +kernel, by decide +kernel, by decide +kernel, jw_chk_ok ck_237, fun _ _ => rfl⟩
def me_238 : jw_E := ((34, 2, ((Option.some Jvm.ClassFile.FieldType.boolean), false), jw_cd cd_238, fun _ _ => none), ⟨"PickDeskModel", "counts", "(I)Z"⟩, prog_15_method_32_code)
theorem mp_238 : jw_P me_238 := ⟨jw_WS_mem (jw_k7 66 rfl) rfl, by decide +kernel, by decide +kernel, by decide +kernel, by decide +kernel, by decide +kernel, jw_chk_ok ck_238, fun _ _ => rfl⟩
def me_239 : jw_E := ((34, 2, (none, false), jw_cd cd_239, fun _ _ => none), ⟨"PickDeskModel", "brackets", "()V"⟩, prog_15_method_38_code)
theorem mp_239 : jw_P me_239 := ⟨jw_WS_mem (jw_k7 70 rfl) rfl, by decide +kernel, by decide +kernel, by decide +kernel, by decide +kernel, by decide +kernel, jw_chk_ok ck_239, fun _ _ => rfl⟩
def me_240 : jw_E := ((34, 4, (none, false), jw_cd cd_240, fun _ _ => none), ⟨"PickDeskModel", "condition", "(I)V"⟩, prog_15_method_40_code)
theorem mp_240 : jw_P me_240 := ⟨jw_WS_mem (jw_k7 74 rfl) rfl, by decide +kernel, by decide +kernel, by decide +kernel, by decide +kernel, by decide +kernel, jw_chk_ok ck_240, fun _ _ => rfl⟩
def me_241 : jw_E := ((34, 3, (none, false), jw_cd cd_241, fun _ _ => none), ⟨"PickDeskModel", "readSide", "(I)V"⟩, prog_15_method_41_code)
theorem mp_241 : jw_P me_241 := ⟨jw_WS_mem (jw_k7 78 rfl) rfl, by decide +kernel, by decide +kernel, by decide +kernel, by decide +kernel, by decide +kernel, jw_chk_ok ck_241, fun _ _ => rfl⟩
def me_242 : jw_E := ((34, 2, (none, false), jw_cd cd_242, fun _ _ => none), ⟨"PickDeskModel", "sideKey", "(I)V"⟩, prog_15_method_42_code)
theorem mp_242 : jw_P me_242 := ⟨jw_WS_mem (jw_k7 82 rfl) rfl, by decide +kernel, by decide +kernel, by decide +kernel, by decide +kernel, by decide +kernel, jw_chk_ok ck_242, fun _ _ => rfl⟩
def me_243 : jw_E := ((34, 6, (none, false), jw_cd cd_243, fun _ _ => none), ⟨"PickDeskModel", "numbered", "(I)V"⟩, prog_15_method_39_code)
theorem mp_243 : jw_P me_243 := ⟨jw_WS_mem (jw_k7 86 rfl) rfl, by decide +kernel, by decide +kernel, by decide +kernel, by decide +kernel, by decide +kernel, jw_chk_ok ck_243, fun _ _ => rfl⟩
def me_244 : jw_E := ((34, 1, (none, false), jw_cd cd_244, fun _ _ => none), ⟨"PickDeskModel", "readNext", "()V"⟩, prog_15_method_37_code)
theorem mp_244 : jw_P me_244 := ⟨jw_WS_mem (jw_k7 90 rfl) rfl, by decide +kernel, by decide +kernel, by decide +kernel, by decide +kernel, by decide +kernel, jw_chk_ok ck_244, fun _ _ => rfl⟩
def me_245 : jw_E := ((34, 8, ((Option.some Jvm.ClassFile.FieldType.int), false), jw_cd cd_245, fun _ _ => none), ⟨"PickDeskModel", "run", "(I)I"⟩, prog_15_method_66_code)
theorem mp_245 : jw_P me_245 := ⟨jw_WS_mem (jw_k7 94 rfl) rfl, by decide +kernel, by decide +kernel, by decide +kernel, by decide +kernel, by decide +kernel, jw_chk_ok ck_245, fun _ _ => rfl⟩
def me_246 : jw_E := ((34, 6, ((Option.some Jvm.ClassFile.FieldType.int), false), jw_cd cd_246, fun _ _ => none), ⟨"PickDeskModel", "does", "(IJI)I"⟩, prog_15_method_65_code)
theorem mp_246 : jw_P me_246 := ⟨jw_WS_mem (jw_k7 98 rfl) rfl, by decide +kernel, by decide +kernel, by decide +kernel, by decide +kernel, by decide +kernel, jw_chk_ok ck_246, fun _ _ => rfl⟩
def me_247 : jw_E := ((34, 2, ((Option.some Jvm.ClassFile.FieldType.boolean), false), jw_cd cd_247, fun _ _ => none), ⟨"PickDeskModel", "fits", "(II)Z"⟩, prog_15_method_64_code)
theorem mp_247 : jw_P me_247 := ⟨jw_WS_mem (jw_k7 101 rfl) rfl, by decide +kernel, by decide +kernel, by decide +kernel, by decide +kernel, by decide +kernel, jw_chk_ok ck_247, fun _ _ => rfl⟩
def me_248 : jw_E := ((34, 4, ((Option.some Jvm.ClassFile.FieldType.int), false), jw_cd cd_248, fun _ _ => none), ⟨"PickDeskModel", "typeOf", "(I)I"⟩, prog_15_method_63_code)
theorem mp_248 : jw_P me_248 := ⟨jw_WS_mem (jw_k7 105 rfl) rfl, by decide +kernel, by decide +kernel, by decide +kernel, by decide +kernel, by decide +kernel, jw_chk_ok ck_248, fun _ _ => rfl⟩
def me_249 : jw_E := ((34, 3, ((Option.some Jvm.ClassFile.FieldType.int), false), jw_cd cd_249, fun _ _ => none), ⟨"PickDeskModel", "lengthOf", "(J)I"⟩, prog_15_method_12_code)
theorem mp_249 : jw_P me_249 := ⟨jw_WS_mem (jw_k7 108 rfl) rfl, by decide +kernel, by decide +kernel, by decide +kernel, by decide +kernel, by decide +kernel, jw_chk_ok ck_249, fun _ _ => rfl⟩
def me_250 : jw_E := ((34, 3, ((Option.some Jvm.ClassFile.FieldType.int), false), jw_cd cd_250, fun _ _ => none), ⟨"PickDeskModel", "charAt", "(JI)I"⟩, prog_15_method_11_code)
theorem mp_250 : jw_P me_250 := ⟨jw_WS_mem (jw_k7 111 rfl) rfl, by decide +kernel, by decide +kernel, by decide +kernel, by decide +kernel, by decide +kernel, jw_chk_ok ck_250, fun _ _ => rfl⟩
def me_251 : jw_E := ((34, 6, ((Option.some Jvm.ClassFile.FieldType.int), false), jw_cd cd_251, fun _ _ => none), ⟨"PickDeskModel", "members", "(IZ)I"⟩, prog_15_method_59_code)
theorem mp_251 : jw_P me_251 := ⟨jw_WS_mem (jw_k7 116 rfl) rfl, by decide +kernel, by decide +kernel, by decide +kernel, by decide +kernel, by decide +kernel, jw_chk_ok ck_251, fun _ _ => rfl⟩
def me_252 : jw_E := ((34, 5, ((Option.some Jvm.ClassFile.FieldType.int), false), jw_cd cd_252, fun _ _ => none), ⟨"PickDeskModel", "listed", "(I)I"⟩, prog_15_method_58_code)
theorem mp_252 : jw_P me_252 := ⟨jw_WS_mem (jw_k7 120 rfl) rfl, by decide +kernel, by decide +kernel, by decide +kernel, by decide +kernel, by decide +kernel, jw_chk_ok ck_252, fun _ _ => rfl⟩
def me_253 : jw_E := ((34, 6, ((Option.some Jvm.ClassFile.FieldType.int), false), jw_cd cd_253, fun _ _ => none), ⟨"PickDeskModel", "turned", "(I)I"⟩, prog_15_method_60_code)
theorem mp_253 : jw_P me_253 := ⟨jw_WS_mem (jw_k7 124 rfl) rfl, by decide +kernel, by decide +kernel, by decide +kernel, by decide +kernel, by decide +kernel, jw_chk_ok ck_253, fun _ _ => rfl⟩
def me_254 : jw_E := ((34, 4, ((Option.some Jvm.ClassFile.FieldType.int), false), jw_cd cd_254, fun _ _ => none), ⟨"PickDeskModel", "total", "(I)I"⟩, prog_15_method_61_code)
theorem mp_254 : jw_P me_254 := ⟨jw_WS_mem (jw_k7 128 rfl) rfl, by decide +kernel, by decide +kernel, by decide +kernel, by decide +kernel, by decide +kernel, jw_chk_ok ck_254, fun _ _ => rfl⟩
def me_255 : jw_E := ((34, 8, ((Option.some Jvm.ClassFile.FieldType.int), false), jw_cd cd_255, fun _ _ => none), ⟨"PickDeskModel", "sort", "(IJ)I"⟩, prog_15_method_55_code)
theorem mp_255 : jw_P me_255 := ⟨jw_WS_mem (jw_k7 132 rfl) rfl, by decide +kernel, by decide +kernel, by decide +kernel, by decide +kernel, by decide +kernel, jw_chk_ok ck_255, fun _ _ => rfl⟩
def me_256 : jw_E := ((34, 5, ((Option.some Jvm.ClassFile.FieldType.int), false), jw_cd cd_256, fun _ _ => none), ⟨"PickDeskModel", "child", "(IJ)I"⟩, prog_15_method_8_code)
theorem mp_256 : jw_P me_256 := ⟨jw_WS_mem (jw_k7 136 rfl) rfl, by decide +kernel, by decide +kernel, by decide +kernel, by decide +kernel, by decide +kernel, jw_chk_ok ck_256, fun _ _ => rfl⟩
def me_257 : jw_E := ((34, 8, ((Option.some Jvm.ClassFile.FieldType.int), false), jw_cd cd_257, fun _ _ => none), ⟨"PickDeskModel", "sorted", "(IJ)I"⟩, prog_15_method_57_code)
theorem mp_257 : jw_P me_257 := ⟨jw_WS_mem (jw_k7 140 rfl) rfl, by decide +kernel, by decide +kernel, by decide +kernel, by decide +kernel, by decide +kernel, jw_chk_ok ck_257, fun _ _ => rfl⟩
def me_258 : jw_E := ((34, 3, ((Option.some Jvm.ClassFile.FieldType.boolean), false), jw_cd cd_258, fun _ _ => none), ⟨"PickDeskModel", "above", "(II)Z"⟩, prog_15_method_56_code)
theorem mp_258 : jw_P me_258 := ⟨jw_WS_mem (jw_k7 144 rfl) rfl, by decide +kernel, by decide +kernel, by decide +kernel, by decide +kernel, by decide +kernel, jw_chk_ok ck_258, fun _ _ => rfl⟩
def me_259 : jw_E := ((34, 6, ((Option.some Jvm.ClassFile.FieldType.int), false), jw_cd cd_259, fun _ _ => none), ⟨"PickDeskModel", "best", "(IZ)I"⟩, prog_15_method_62_code)
theorem mp_259 : jw_P me_259 := ⟨jw_WS_mem (jw_k7 148 rfl) rfl, by decide +kernel, by decide +kernel, by decide +kernel, by decide +kernel, by decide +kernel, jw_chk_ok ck_259, fun _ _ => rfl⟩
def me_260 : jw_E := ((34, 9, ((Option.some Jvm.ClassFile.FieldType.int), false), jw_cd cd_260, fun _ _ => none), ⟨"PickDeskModel", "goes", "(III)I"⟩, prog_15_method_54_code)
theorem mp_260 : jw_P me_260 := ⟨jw_WS_mem (jw_k7 152 rfl) rfl, by decide +kernel, by decide +kernel, by decide +kernel, by decide +kernel, by decide +kernel, jw_chk_ok ck_260, fun _ _ => rfl⟩
def me_261 : jw_E := ((34, 3, (none, false), jw_cd cd_261, fun _ _ => none), ⟨"PickDeskModel", "enter", "(II)V"⟩, prog_15_method_44_code)
theorem mp_261 : jw_P me_261 := ⟨jw_WS_mem (jw_k7 156 rfl) rfl, by decide +kernel, by decide +kernel, by decide +kernel, by decide +kernel, by decide +kernel, jw_chk_ok ck_261, fun _ _ => rfl⟩
def me_262 : jw_E := ((34, 6, (none, false), jw_cd cd_262, fun _ _ => none), ⟨"PickDeskModel", "close", "()V"⟩, prog_15_method_51_code)
theorem mp_262 : jw_P me_262 := ⟨jw_WS_mem (jw_k7 160 rfl) rfl, by decide +kernel, by decide +kernel, by decide +kernel, by decide +kernel, by decide +kernel, jw_chk_ok ck_262, fun _ _ => rfl⟩
def me_263 : jw_E := ((34, 2, ((Option.some Jvm.ClassFile.FieldType.boolean), false), jw_cd cd_263, fun _ _ => none), ⟨"PickDeskModel", "isNull", "(I)Z"⟩, prog_15_method_46_code)
theorem mp_263 : jw_P me_263 := ⟨jw_WS_mem (jw_k7 164 rfl) rfl, by decide +kernel, by decide +kernel, by decide +kernel, by decide +kernel, by decide +kernel, jw_chk_ok ck_263, fun _ _ => rfl⟩
def me_264 : jw_E := ((34, 4, ((Option.some Jvm.ClassFile.FieldType.int), false), jw_cd cd_264, fun _ _ => none), ⟨"PickDeskModel", "gathered", "()I"⟩, prog_15_method_52_code)
theorem mp_264 : jw_P me_264 := ⟨jw_WS_mem (jw_k7 168 rfl) rfl, by decide +kernel, by decide +kernel, by decide +kernel, by decide +kernel, by decide +kernel, jw_chk_ok ck_264, fun _ _ => rfl⟩
def me_265 : jw_E := ((34, 5, (none, false), jw_cd cd_265, fun _ _ => none), ⟨"PickDeskModel", "flatten", "(I)V"⟩, prog_15_method_53_code)
theorem mp_265 : jw_P me_265 := ⟨jw_WS_mem (jw_k7 172 rfl) rfl, by decide +kernel, by decide +kernel, by decide +kernel, by decide +kernel, by decide +kernel, jw_chk_ok ck_265, fun _ _ => rfl⟩
def me_266 : jw_E := ((34, 7, (none, false), jw_cd cd_266, fun _ _ => none), ⟨"PickDeskModel", "picks", "(II)V"⟩, prog_15_method_50_code)
theorem mp_266 : jw_P me_266 := ⟨jw_WS_mem (jw_k7 176 rfl) rfl, by decide +kernel, by decide +kernel, by decide +kernel, by decide +kernel, by decide +kernel, jw_chk_ok ck_266, fun _ _ => rfl⟩
def me_267 : jw_E := ((34, 5, ((Option.some Jvm.ClassFile.FieldType.int), false), jw_cd cd_267, fun _ _ => none), ⟨"PickDeskModel", "element", "(II)I"⟩, prog_15_method_9_code)
theorem mp_267 : jw_P me_267 := ⟨jw_WS_mem (jw_k7 180 rfl) rfl, by decide +kernel, by decide +kernel, by decide +kernel, by decide +kernel, by decide +kernel, jw_chk_ok ck_267, fun _ _ => rfl⟩
def me_268 : jw_E := ((34, 9, (none, false), jw_cd cd_268, fun _ _ => none), ⟨"PickDeskModel", "project", "(II)V"⟩, prog_15_method_49_code)
theorem mp_268 : jw_P me_268 := ⟨jw_WS_mem (jw_k7 184 rfl) rfl, by decide +kernel, by decide +kernel, by decide +kernel, by decide +kernel, by decide +kernel, jw_chk_ok ck_268, fun _ _ => rfl⟩
def me_269 : jw_E := ((34, 11, (none, false), jw_cd cd_269, fun _ _ => none), ⟨"PickDeskModel", "slice", "(III)V"⟩, prog_15_method_48_code)
theorem mp_269 : jw_P me_269 := ⟨jw_WS_mem (jw_k7 188 rfl) rfl, by decide +kernel, by decide +kernel, by decide +kernel, by decide +kernel, by decide +kernel, jw_chk_ok ck_269, fun _ _ => rfl⟩
def me_270 : jw_E := ((34, 12, ((Option.some Jvm.ClassFile.FieldType.boolean), false), jw_cd cd_270, fun _ _ => none), ⟨"PickDeskModel", "holds", "(II)Z"⟩, prog_15_method_47_code)
theorem mp_270 : jw_P me_270 := ⟨jw_WS_mem (jw_k7 192 rfl) rfl, by decide +kernel, by decide +kernel, by decide +kernel, by decide +kernel, by decide +kernel, jw_chk_ok ck_270, fun _ _ => rfl⟩
def me_271 : jw_E := ((34, 5, ((Option.some Jvm.ClassFile.FieldType.int), false), jw_cd cd_271, fun _ _ => none), ⟨"PickDeskModel", "sideOf", "(II)I"⟩, prog_15_method_45_code)
theorem mp_271 : jw_P me_271 := ⟨jw_WS_mem (jw_k7 196 rfl) rfl, by decide +kernel, by decide +kernel, by decide +kernel, by decide +kernel, by decide +kernel, jw_chk_ok ck_271, fun _ _ => rfl⟩
def me_272 : jw_E := ((34, 10, ((Option.some Jvm.ClassFile.FieldType.boolean), false), jw_cd cd_272, fun _ _ => none), ⟨"PickDeskModel", "same", "(II)Z"⟩, prog_15_method_10_code)
theorem mp_272 : jw_P me_272 := ⟨jw_WS_mem (jw_k7 200 rfl) rfl, by decide +kernel, by decide +kernel, by decide +kernel, by decide +kernel, by decide +kernel, jw_chk_ok ck_272, fun _ _ => rfl⟩
def me_273 : jw_E := ((34, 1, ((Option.some Jvm.ClassFile.FieldType.int), false), jw_cd cd_273, fun _ _ => none), ⟨"PickDeskModel", "keep", "()I"⟩, prog_15_method_67_code)
theorem mp_273 : jw_P me_273 := ⟨jw_WS_mem (jw_k7 204 rfl) rfl, by decide +kernel, by decide +kernel, by decide +kernel, by decide +kernel, by decide +kernel, jw_chk_ok ck_273, fun _ _ => rfl⟩
def me_274 : jw_E := ((34, 2, ((Option.some Jvm.ClassFile.FieldType.int), false), jw_cd cd_274, fun _ _ => none), ⟨"PickDeskModel", "result", "(I)I"⟩, prog_15_method_73_code)
theorem mp_274 : jw_P me_274 := ⟨jw_WS_mem (jw_k7 208 rfl) rfl, by decide +kernel, by decide +kernel, by decide +kernel, by decide +kernel, by decide +kernel, jw_chk_ok ck_274, fun _ _ => rfl⟩
def me_275 : jw_E := ((34, 5, (none, false), jw_cd cd_275, fun _ _ => none), ⟨"PickDeskModel", "write", "()V"⟩, prog_15_method_72_code)
theorem mp_275 : jw_P me_275 := ⟨jw_WS_mem (jw_k7 212 rfl) rfl, by decide +kernel, by decide +kernel, by decide +kernel, by decide +kernel, by decide +kernel, jw_chk_ok ck_275, fun _ _ => rfl⟩
def me_276 : jw_E := ((34, 2, (none, false), jw_cd cd_276, fun _ _ => none), ⟨"PickDeskModel", "leafOrOpening", "(I)V"⟩, prog_15_method_71_code)
theorem mp_276 : jw_P me_276 := ⟨jw_WS_mem (jw_k7 216 rfl) rfl, by decide +kernel, by decide +kernel, by decide +kernel, by decide +kernel, by decide +kernel, jw_chk_ok ck_276, fun _ _ => rfl⟩
def me_277 : jw_E := ((34, 2, (none, false), jw_cd cd_277, fun _ _ => none), ⟨"PickDeskModel", "mark", "(I)V"⟩, prog_15_method_68_code)
theorem mp_277 : jw_P me_277 := ⟨jw_WS_mem (jw_k7 220 rfl) rfl, by decide +kernel, by decide +kernel, by decide +kernel, by decide +kernel, by decide +kernel, jw_chk_ok ck_277, fun _ _ => rfl⟩
def me_278 : jw_E := ((34, 6, (none, false), jw_cd cd_278, fun _ _ => none), ⟨"PickDeskModel", "decimal", "(I)V"⟩, prog_15_method_69_code)
theorem mp_278 : jw_P me_278 := ⟨jw_WS_mem (jw_k7 224 rfl) rfl, by decide +kernel, by decide +kernel, by decide +kernel, by decide +kernel, by decide +kernel, jw_chk_ok ck_278, fun _ _ => rfl⟩
def me_279 : jw_E := ((34, 4, (none, false), jw_cd cd_279, fun _ _ => none), ⟨"PickDeskModel", "characters", "(J)V"⟩, prog_15_method_70_code)
theorem mp_279 : jw_P me_279 := ⟨jw_WS_mem (jw_k7 230 rfl) rfl, by decide +kernel, by decide +kernel, by decide +kernel, by decide +kernel, by decide +kernel, jw_chk_ok ck_279, fun _ _ => rfl⟩
def me_280 : jw_E := ((34, 2, ((Option.some Jvm.ClassFile.FieldType.int), false), jw_cd cd_280, fun _ _ => none), ⟨"PickDeskModel", "written", "(I)I"⟩, prog_15_method_74_code)
theorem mp_280 : jw_P me_280 := ⟨jw_WS_mem (jw_k7 234 rfl) rfl, by decide +kernel, by decide +kernel, by decide +kernel, by decide +kernel, by decide +kernel, jw_chk_ok ck_280, fun _ _ => rfl⟩
def me_281 : jw_E := ((34, 2, ((Option.some Jvm.ClassFile.FieldType.int), false), jw_cd cd_281, fun _ _ => none), ⟨"PickDeskModel", "about", "(I)I"⟩, prog_15_method_75_code)
theorem mp_281 : jw_P me_281 := ⟨jw_WS_mem (jw_k7 238 rfl) rfl, by decide +kernel, by decide +kernel, by decide +kernel, by decide +kernel, by decide +kernel, jw_chk_ok ck_281, fun _ _ => rfl⟩
def jw_L0 : List (Option jw_E) := [some me_0, none, some me_2, some me_3, some me_4, some me_5, some me_6, some me_7, some me_8, some me_9, some me_10, some me_11, some me_12, some me_13, some me_14, some me_15]
theorem jw_L0_p : ∀ x ∈ jw_L0, jw_PO x := List.forall_mem_cons.mpr ⟨jw_PO_some mp_0, List.forall_mem_cons.mpr ⟨jw_PO_none, List.forall_mem_cons.mpr ⟨jw_PO_some mp_2, List.forall_mem_cons.mpr ⟨jw_PO_some mp_3, List.forall_mem_cons.mpr ⟨jw_PO_some mp_4, List.forall_mem_cons.mpr ⟨jw_PO_some mp_5, List.forall_mem_cons.mpr ⟨jw_PO_some mp_6, List.forall_mem_cons.mpr ⟨jw_PO_some mp_7, List.forall_mem_cons.mpr ⟨jw_PO_some mp_8, List.forall_mem_cons.mpr ⟨jw_PO_some mp_9, List.forall_mem_cons.mpr ⟨jw_PO_some mp_10, List.forall_mem_cons.mpr ⟨jw_PO_some mp_11, List.forall_mem_cons.mpr ⟨jw_PO_some mp_12, List.forall_mem_cons.mpr ⟨jw_PO_some mp_13, List.forall_mem_cons.mpr ⟨jw_PO_some mp_14, List.forall_mem_cons.mpr ⟨jw_PO_some mp_15, fun _ h => absurd h List.not_mem_nil⟩⟩⟩⟩⟩⟩⟩⟩⟩⟩⟩⟩⟩⟩⟩⟩
def jw_L1 : List (Option jw_E) := [some me_16, some me_17, some me_18, none, some me_20, some me_21, none, some me_23, some me_24, some me_25, some me_26, some me_27, some me_28, some me_29, some me_30, some me_31]
theorem jw_L1_p : ∀ x ∈ jw_L1, jw_PO x := List.forall_mem_cons.mpr ⟨jw_PO_some mp_16, List.forall_mem_cons.mpr ⟨jw_PO_some mp_17, List.forall_mem_cons.mpr ⟨jw_PO_some mp_18, List.forall_mem_cons.mpr ⟨jw_PO_none, List.forall_mem_cons.mpr ⟨jw_PO_some mp_20, List.forall_mem_cons.mpr ⟨jw_PO_some mp_21, List.forall_mem_cons.mpr ⟨jw_PO_none, List.forall_mem_cons.mpr ⟨jw_PO_some mp_23, List.forall_mem_cons.mpr ⟨jw_PO_some mp_24, List.forall_mem_cons.mpr ⟨jw_PO_some mp_25, List.forall_mem_cons.mpr ⟨jw_PO_some mp_26, List.forall_mem_cons.mpr ⟨jw_PO_some mp_27, List.forall_mem_cons.mpr ⟨jw_PO_some mp_28, List.forall_mem_cons.mpr ⟨jw_PO_some mp_29, List.forall_mem_cons.mpr ⟨jw_PO_some mp_30, List.forall_mem_cons.mpr ⟨jw_PO_some mp_31, fun _ h => absurd h List.not_mem_nil⟩⟩⟩⟩⟩⟩⟩⟩⟩⟩⟩⟩⟩⟩⟩⟩
def jw_L2 : List (Option jw_E) := [some me_32, some me_33, some me_34, some me_35, some me_36, some me_37, some me_38, some me_39, some me_40, some me_41, some me_42, some me_43, some me_44, some me_45, some me_46, some me_47]
theorem jw_L2_p : ∀ x ∈ jw_L2, jw_PO x := List.forall_mem_cons.mpr ⟨jw_PO_some mp_32, List.forall_mem_cons.mpr ⟨jw_PO_some mp_33, List.forall_mem_cons.mpr ⟨jw_PO_some mp_34, List.forall_mem_cons.mpr ⟨jw_PO_some mp_35, List.forall_mem_cons.mpr ⟨jw_PO_some mp_36, List.forall_mem_cons.mpr ⟨jw_PO_some mp_37, List.forall_mem_cons.mpr ⟨jw_PO_some mp_38, List.forall_mem_cons.mpr ⟨jw_PO_some mp_39, List.forall_mem_cons.mpr ⟨jw_PO_some mp_40, List.forall_mem_cons.mpr ⟨jw_PO_some mp_41, List.forall_mem_cons.mpr ⟨jw_PO_some mp_42, List.forall_mem_cons.mpr ⟨jw_PO_some mp_43, List.forall_mem_cons.mpr ⟨jw_PO_some mp_44, List.forall_mem_cons.mpr ⟨jw_PO_some mp_45, List.forall_mem_cons.mpr ⟨jw_PO_some mp_46, List.forall_mem_cons.mpr ⟨jw_PO_some mp_47, fun _ h => absurd h List.not_mem_nil⟩⟩⟩⟩⟩⟩⟩⟩⟩⟩⟩⟩⟩⟩⟩⟩
def jw_L3 : List (Option jw_E) := [some me_48, some me_49, some me_50, some me_51, some me_52, some me_53, some me_54, some me_55, some me_56, some me_57, some me_58, some me_59, some me_60, some me_61, some me_62, some me_63]
theorem jw_L3_p : ∀ x ∈ jw_L3, jw_PO x := List.forall_mem_cons.mpr ⟨jw_PO_some mp_48, List.forall_mem_cons.mpr ⟨jw_PO_some mp_49, List.forall_mem_cons.mpr ⟨jw_PO_some mp_50, List.forall_mem_cons.mpr ⟨jw_PO_some mp_51, List.forall_mem_cons.mpr ⟨jw_PO_some mp_52, List.forall_mem_cons.mpr ⟨jw_PO_some mp_53, List.forall_mem_cons.mpr ⟨jw_PO_some mp_54, List.forall_mem_cons.mpr ⟨jw_PO_some mp_55, List.forall_mem_cons.mpr ⟨jw_PO_some mp_56, List.forall_mem_cons.mpr ⟨jw_PO_some mp_57, List.forall_mem_cons.mpr ⟨jw_PO_some mp_58, List.forall_mem_cons.mpr ⟨jw_PO_some mp_59, List.forall_mem_cons.mpr ⟨jw_PO_some mp_60, List.forall_mem_cons.mpr ⟨jw_PO_some mp_61, List.forall_mem_cons.mpr ⟨jw_PO_some mp_62, List.forall_mem_cons.mpr ⟨jw_PO_some mp_63, fun _ h => absurd h List.not_mem_nil⟩⟩⟩⟩⟩⟩⟩⟩⟩⟩⟩⟩⟩⟩⟩⟩
def jw_L4 : List (Option jw_E) := [some me_64, some me_65, some me_66, some me_67, some me_68, some me_69, some me_70, some me_71, none, some me_73, some me_74, some me_75, some me_76, some me_77, some me_78, some me_79]
theorem jw_L4_p : ∀ x ∈ jw_L4, jw_PO x := List.forall_mem_cons.mpr ⟨jw_PO_some mp_64, List.forall_mem_cons.mpr ⟨jw_PO_some mp_65, List.forall_mem_cons.mpr ⟨jw_PO_some mp_66, List.forall_mem_cons.mpr ⟨jw_PO_some mp_67, List.forall_mem_cons.mpr ⟨jw_PO_some mp_68, List.forall_mem_cons.mpr ⟨jw_PO_some mp_69, List.forall_mem_cons.mpr ⟨jw_PO_some mp_70, List.forall_mem_cons.mpr ⟨jw_PO_some mp_71, List.forall_mem_cons.mpr ⟨jw_PO_none, List.forall_mem_cons.mpr ⟨jw_PO_some mp_73, List.forall_mem_cons.mpr ⟨jw_PO_some mp_74, List.forall_mem_cons.mpr ⟨jw_PO_some mp_75, List.forall_mem_cons.mpr ⟨jw_PO_some mp_76, List.forall_mem_cons.mpr ⟨jw_PO_some mp_77, List.forall_mem_cons.mpr ⟨jw_PO_some mp_78, List.forall_mem_cons.mpr ⟨jw_PO_some mp_79, fun _ h => absurd h List.not_mem_nil⟩⟩⟩⟩⟩⟩⟩⟩⟩⟩⟩⟩⟩⟩⟩⟩
def jw_L5 : List (Option jw_E) := [some me_80, some me_81, some me_82, some me_83, some me_84, some me_85, some me_86, some me_87, some me_88, some me_89, some me_90, some me_91, some me_92, some me_93, some me_94, some me_95]
theorem jw_L5_p : ∀ x ∈ jw_L5, jw_PO x := List.forall_mem_cons.mpr ⟨jw_PO_some mp_80, List.forall_mem_cons.mpr ⟨jw_PO_some mp_81, List.forall_mem_cons.mpr ⟨jw_PO_some mp_82, List.forall_mem_cons.mpr ⟨jw_PO_some mp_83, List.forall_mem_cons.mpr ⟨jw_PO_some mp_84, List.forall_mem_cons.mpr ⟨jw_PO_some mp_85, List.forall_mem_cons.mpr ⟨jw_PO_some mp_86, List.forall_mem_cons.mpr ⟨jw_PO_some mp_87, List.forall_mem_cons.mpr ⟨jw_PO_some mp_88, List.forall_mem_cons.mpr ⟨jw_PO_some mp_89, List.forall_mem_cons.mpr ⟨jw_PO_some mp_90, List.forall_mem_cons.mpr ⟨jw_PO_some mp_91, List.forall_mem_cons.mpr ⟨jw_PO_some mp_92, List.forall_mem_cons.mpr ⟨jw_PO_some mp_93, List.forall_mem_cons.mpr ⟨jw_PO_some mp_94, List.forall_mem_cons.mpr ⟨jw_PO_some mp_95, fun _ h => absurd h List.not_mem_nil⟩⟩⟩⟩⟩⟩⟩⟩⟩⟩⟩⟩⟩⟩⟩⟩
def jw_L6 : List (Option jw_E) := [some me_96, some me_97, some me_98, some me_99, some me_100, some me_101, some me_102, some me_103, some me_104, some me_105, some me_106, some me_107, some me_108, some me_109, some me_110, some me_111]
theorem jw_L6_p : ∀ x ∈ jw_L6, jw_PO x := List.forall_mem_cons.mpr ⟨jw_PO_some mp_96, List.forall_mem_cons.mpr ⟨jw_PO_some mp_97, List.forall_mem_cons.mpr ⟨jw_PO_some mp_98, List.forall_mem_cons.mpr ⟨jw_PO_some mp_99, List.forall_mem_cons.mpr ⟨jw_PO_some mp_100, List.forall_mem_cons.mpr ⟨jw_PO_some mp_101, List.forall_mem_cons.mpr ⟨jw_PO_some mp_102, List.forall_mem_cons.mpr ⟨jw_PO_some mp_103, List.forall_mem_cons.mpr ⟨jw_PO_some mp_104, List.forall_mem_cons.mpr ⟨jw_PO_some mp_105, List.forall_mem_cons.mpr ⟨jw_PO_some mp_106, List.forall_mem_cons.mpr ⟨jw_PO_some mp_107, List.forall_mem_cons.mpr ⟨jw_PO_some mp_108, List.forall_mem_cons.mpr ⟨jw_PO_some mp_109, List.forall_mem_cons.mpr ⟨jw_PO_some mp_110, List.forall_mem_cons.mpr ⟨jw_PO_some mp_111, fun _ h => absurd h List.not_mem_nil⟩⟩⟩⟩⟩⟩⟩⟩⟩⟩⟩⟩⟩⟩⟩⟩
def jw_L7 : List (Option jw_E) := [some me_112, none, some me_114, some me_115, some me_116, some me_117, some me_118, some me_119, some me_120, none, some me_122, some me_123, some me_124, some me_125, some me_126, some me_127]
theorem jw_L7_p : ∀ x ∈ jw_L7, jw_PO x := List.forall_mem_cons.mpr ⟨jw_PO_some mp_112, List.forall_mem_cons.mpr ⟨jw_PO_none, List.forall_mem_cons.mpr ⟨jw_PO_some mp_114, List.forall_mem_cons.mpr ⟨jw_PO_some mp_115, List.forall_mem_cons.mpr ⟨jw_PO_some mp_116, List.forall_mem_cons.mpr ⟨jw_PO_some mp_117, List.forall_mem_cons.mpr ⟨jw_PO_some mp_118, List.forall_mem_cons.mpr ⟨jw_PO_some mp_119, List.forall_mem_cons.mpr ⟨jw_PO_some mp_120, List.forall_mem_cons.mpr ⟨jw_PO_none, List.forall_mem_cons.mpr ⟨jw_PO_some mp_122, List.forall_mem_cons.mpr ⟨jw_PO_some mp_123, List.forall_mem_cons.mpr ⟨jw_PO_some mp_124, List.forall_mem_cons.mpr ⟨jw_PO_some mp_125, List.forall_mem_cons.mpr ⟨jw_PO_some mp_126, List.forall_mem_cons.mpr ⟨jw_PO_some mp_127, fun _ h => absurd h List.not_mem_nil⟩⟩⟩⟩⟩⟩⟩⟩⟩⟩⟩⟩⟩⟩⟩⟩
def jw_L8 : List (Option jw_E) := [some me_128, some me_129, some me_130, some me_131, some me_132, some me_133, some me_134, some me_135, some me_136, some me_137, some me_138, some me_139, some me_140, some me_141, some me_142, some me_143]
theorem jw_L8_p : ∀ x ∈ jw_L8, jw_PO x := List.forall_mem_cons.mpr ⟨jw_PO_some mp_128, List.forall_mem_cons.mpr ⟨jw_PO_some mp_129, List.forall_mem_cons.mpr ⟨jw_PO_some mp_130, List.forall_mem_cons.mpr ⟨jw_PO_some mp_131, List.forall_mem_cons.mpr ⟨jw_PO_some mp_132, List.forall_mem_cons.mpr ⟨jw_PO_some mp_133, List.forall_mem_cons.mpr ⟨jw_PO_some mp_134, List.forall_mem_cons.mpr ⟨jw_PO_some mp_135, List.forall_mem_cons.mpr ⟨jw_PO_some mp_136, List.forall_mem_cons.mpr ⟨jw_PO_some mp_137, List.forall_mem_cons.mpr ⟨jw_PO_some mp_138, List.forall_mem_cons.mpr ⟨jw_PO_some mp_139, List.forall_mem_cons.mpr ⟨jw_PO_some mp_140, List.forall_mem_cons.mpr ⟨jw_PO_some mp_141, List.forall_mem_cons.mpr ⟨jw_PO_some mp_142, List.forall_mem_cons.mpr ⟨jw_PO_some mp_143, fun _ h => absurd h List.not_mem_nil⟩⟩⟩⟩⟩⟩⟩⟩⟩⟩⟩⟩⟩⟩⟩⟩
def jw_L9 : List (Option jw_E) := [some me_144, some me_145, some me_146, some me_147, some me_148, some me_149, some me_150, some me_151, some me_152, some me_153, some me_154, some me_155, none, some me_157, some me_158, some me_159]
theorem jw_L9_p : ∀ x ∈ jw_L9, jw_PO x := List.forall_mem_cons.mpr ⟨jw_PO_some mp_144, List.forall_mem_cons.mpr ⟨jw_PO_some mp_145, List.forall_mem_cons.mpr ⟨jw_PO_some mp_146, List.forall_mem_cons.mpr ⟨jw_PO_some mp_147, List.forall_mem_cons.mpr ⟨jw_PO_some mp_148, List.forall_mem_cons.mpr ⟨jw_PO_some mp_149, List.forall_mem_cons.mpr ⟨jw_PO_some mp_150, List.forall_mem_cons.mpr ⟨jw_PO_some mp_151, List.forall_mem_cons.mpr ⟨jw_PO_some mp_152, List.forall_mem_cons.mpr ⟨jw_PO_some mp_153, List.forall_mem_cons.mpr ⟨jw_PO_some mp_154, List.forall_mem_cons.mpr ⟨jw_PO_some mp_155, List.forall_mem_cons.mpr ⟨jw_PO_none, List.forall_mem_cons.mpr ⟨jw_PO_some mp_157, List.forall_mem_cons.mpr ⟨jw_PO_some mp_158, List.forall_mem_cons.mpr ⟨jw_PO_some mp_159, fun _ h => absurd h List.not_mem_nil⟩⟩⟩⟩⟩⟩⟩⟩⟩⟩⟩⟩⟩⟩⟩⟩
def jw_L10 : List (Option jw_E) := [some me_160, some me_161, some me_162, some me_163, some me_164, some me_165, some me_166, some me_167, some me_168, some me_169, some me_170, some me_171, some me_172, some me_173, some me_174, some me_175]
theorem jw_L10_p : ∀ x ∈ jw_L10, jw_PO x := List.forall_mem_cons.mpr ⟨jw_PO_some mp_160, List.forall_mem_cons.mpr ⟨jw_PO_some mp_161, List.forall_mem_cons.mpr ⟨jw_PO_some mp_162, List.forall_mem_cons.mpr ⟨jw_PO_some mp_163, List.forall_mem_cons.mpr ⟨jw_PO_some mp_164, List.forall_mem_cons.mpr ⟨jw_PO_some mp_165, List.forall_mem_cons.mpr ⟨jw_PO_some mp_166, List.forall_mem_cons.mpr ⟨jw_PO_some mp_167, List.forall_mem_cons.mpr ⟨jw_PO_some mp_168, List.forall_mem_cons.mpr ⟨jw_PO_some mp_169, List.forall_mem_cons.mpr ⟨jw_PO_some mp_170, List.forall_mem_cons.mpr ⟨jw_PO_some mp_171, List.forall_mem_cons.mpr ⟨jw_PO_some mp_172, List.forall_mem_cons.mpr ⟨jw_PO_some mp_173, List.forall_mem_cons.mpr ⟨jw_PO_some mp_174, List.forall_mem_cons.mpr ⟨jw_PO_some mp_175, fun _ h => absurd h List.not_mem_nil⟩⟩⟩⟩⟩⟩⟩⟩⟩⟩⟩⟩⟩⟩⟩⟩
def jw_L11 : List (Option jw_E) := [some me_176, some me_177, some me_178, some me_179, some me_180, some me_181, some me_182, some me_183, some me_184, some me_185, some me_186, some me_187, some me_188, some me_189, some me_190, some me_191]
theorem jw_L11_p : ∀ x ∈ jw_L11, jw_PO x := List.forall_mem_cons.mpr ⟨jw_PO_some mp_176, List.forall_mem_cons.mpr ⟨jw_PO_some mp_177, List.forall_mem_cons.mpr ⟨jw_PO_some mp_178, List.forall_mem_cons.mpr ⟨jw_PO_some mp_179, List.forall_mem_cons.mpr ⟨jw_PO_some mp_180, List.forall_mem_cons.mpr ⟨jw_PO_some mp_181, List.forall_mem_cons.mpr ⟨jw_PO_some mp_182, List.forall_mem_cons.mpr ⟨jw_PO_some mp_183, List.forall_mem_cons.mpr ⟨jw_PO_some mp_184, List.forall_mem_cons.mpr ⟨jw_PO_some mp_185, List.forall_mem_cons.mpr ⟨jw_PO_some mp_186, List.forall_mem_cons.mpr ⟨jw_PO_some mp_187, List.forall_mem_cons.mpr ⟨jw_PO_some mp_188, List.forall_mem_cons.mpr ⟨jw_PO_some mp_189, List.forall_mem_cons.mpr ⟨jw_PO_some mp_190, List.forall_mem_cons.mpr ⟨jw_PO_some mp_191, fun _ h => absurd h List.not_mem_nil⟩⟩⟩⟩⟩⟩⟩⟩⟩⟩⟩⟩⟩⟩⟩⟩
def jw_L12 : List (Option jw_E) := [some me_192, some me_193, some me_194, some me_195, some me_196, some me_197, some me_198, some me_199, some me_200, some me_201, some me_202, some me_203, some me_204, some me_205, some me_206, some me_207]
theorem jw_L12_p : ∀ x ∈ jw_L12, jw_PO x := List.forall_mem_cons.mpr ⟨jw_PO_some mp_192, List.forall_mem_cons.mpr ⟨jw_PO_some mp_193, List.forall_mem_cons.mpr ⟨jw_PO_some mp_194, List.forall_mem_cons.mpr ⟨jw_PO_some mp_195, List.forall_mem_cons.mpr ⟨jw_PO_some mp_196, List.forall_mem_cons.mpr ⟨jw_PO_some mp_197, List.forall_mem_cons.mpr ⟨jw_PO_some mp_198, List.forall_mem_cons.mpr ⟨jw_PO_some mp_199, List.forall_mem_cons.mpr ⟨jw_PO_some mp_200, List.forall_mem_cons.mpr ⟨jw_PO_some mp_201, List.forall_mem_cons.mpr ⟨jw_PO_some mp_202, List.forall_mem_cons.mpr ⟨jw_PO_some mp_203, List.forall_mem_cons.mpr ⟨jw_PO_some mp_204, List.forall_mem_cons.mpr ⟨jw_PO_some mp_205, List.forall_mem_cons.mpr ⟨jw_PO_some mp_206, List.forall_mem_cons.mpr ⟨jw_PO_some mp_207, fun _ h => absurd h List.not_mem_nil⟩⟩⟩⟩⟩⟩⟩⟩⟩⟩⟩⟩⟩⟩⟩⟩
def jw_L13 : List (Option jw_E) := [some me_208, some me_209, some me_210, some me_211, some me_212, some me_213, some me_214, some me_215, some me_216, some me_217, some me_218, some me_219, some me_220, some me_221, some me_222, some me_223]
theorem jw_L13_p : ∀ x ∈ jw_L13, jw_PO x := List.forall_mem_cons.mpr ⟨jw_PO_some mp_208, List.forall_mem_cons.mpr ⟨jw_PO_some mp_209, List.forall_mem_cons.mpr ⟨jw_PO_some mp_210, List.forall_mem_cons.mpr ⟨jw_PO_some mp_211, List.forall_mem_cons.mpr ⟨jw_PO_some mp_212, List.forall_mem_cons.mpr ⟨jw_PO_some mp_213, List.forall_mem_cons.mpr ⟨jw_PO_some mp_214, List.forall_mem_cons.mpr ⟨jw_PO_some mp_215, List.forall_mem_cons.mpr ⟨jw_PO_some mp_216, List.forall_mem_cons.mpr ⟨jw_PO_some mp_217, List.forall_mem_cons.mpr ⟨jw_PO_some mp_218, List.forall_mem_cons.mpr ⟨jw_PO_some mp_219, List.forall_mem_cons.mpr ⟨jw_PO_some mp_220, List.forall_mem_cons.mpr ⟨jw_PO_some mp_221, List.forall_mem_cons.mpr ⟨jw_PO_some mp_222, List.forall_mem_cons.mpr ⟨jw_PO_some mp_223, fun _ h => absurd h List.not_mem_nil⟩⟩⟩⟩⟩⟩⟩⟩⟩⟩⟩⟩⟩⟩⟩⟩
def jw_L14 : List (Option jw_E) := [some me_224, some me_225, some me_226, some me_227, some me_228, some me_229, some me_230, some me_231, some me_232, some me_233, some me_234, some me_235, some me_236, some me_237, some me_238, some me_239]
theorem jw_L14_p : ∀ x ∈ jw_L14, jw_PO x := List.forall_mem_cons.mpr ⟨jw_PO_some mp_224, List.forall_mem_cons.mpr ⟨jw_PO_some mp_225, List.forall_mem_cons.mpr ⟨jw_PO_some mp_226, List.forall_mem_cons.mpr ⟨jw_PO_some mp_227, List.forall_mem_cons.mpr ⟨jw_PO_some mp_228, List.forall_mem_cons.mpr ⟨jw_PO_some mp_229, List.forall_mem_cons.mpr ⟨jw_PO_some mp_230, List.forall_mem_cons.mpr ⟨jw_PO_some mp_231, List.forall_mem_cons.mpr ⟨jw_PO_some mp_232, List.forall_mem_cons.mpr ⟨jw_PO_some mp_233, List.forall_mem_cons.mpr ⟨jw_PO_some mp_234, List.forall_mem_cons.mpr ⟨jw_PO_some mp_235, List.forall_mem_cons.mpr ⟨jw_PO_some mp_236, List.forall_mem_cons.mpr ⟨jw_PO_some mp_237, List.forall_mem_cons.mpr ⟨jw_PO_some mp_238, List.forall_mem_cons.mpr ⟨jw_PO_some mp_239, fun _ h => absurd h List.not_mem_nil⟩⟩⟩⟩⟩⟩⟩⟩⟩⟩⟩⟩⟩⟩⟩⟩
def jw_L15 : List (Option jw_E) := [some me_240, some me_241, some me_242, some me_243, some me_244, some me_245, some me_246, some me_247, some me_248, some me_249, some me_250, some me_251, some me_252, some me_253, some me_254, some me_255]
theorem jw_L15_p : ∀ x ∈ jw_L15, jw_PO x := List.forall_mem_cons.mpr ⟨jw_PO_some mp_240, List.forall_mem_cons.mpr ⟨jw_PO_some mp_241, List.forall_mem_cons.mpr ⟨jw_PO_some mp_242, List.forall_mem_cons.mpr ⟨jw_PO_some mp_243, List.forall_mem_cons.mpr ⟨jw_PO_some mp_244, List.forall_mem_cons.mpr ⟨jw_PO_some mp_245, List.forall_mem_cons.mpr ⟨jw_PO_some mp_246, List.forall_mem_cons.mpr ⟨jw_PO_some mp_247, List.forall_mem_cons.mpr ⟨jw_PO_some mp_248, List.forall_mem_cons.mpr ⟨jw_PO_some mp_249, List.forall_mem_cons.mpr ⟨jw_PO_some mp_250, List.forall_mem_cons.mpr ⟨jw_PO_some mp_251, List.forall_mem_cons.mpr ⟨jw_PO_some mp_252, List.forall_mem_cons.mpr ⟨jw_PO_some mp_253, List.forall_mem_cons.mpr ⟨jw_PO_some mp_254, List.forall_mem_cons.mpr ⟨jw_PO_some mp_255, fun _ h => absurd h List.not_mem_nil⟩⟩⟩⟩⟩⟩⟩⟩⟩⟩⟩⟩⟩⟩⟩⟩
def jw_L16 : List (Option jw_E) := [some me_256, some me_257, some me_258, some me_259, some me_260, some me_261, some me_262, some me_263, some me_264, some me_265, some me_266, some me_267, some me_268, some me_269, some me_270, some me_271]
theorem jw_L16_p : ∀ x ∈ jw_L16, jw_PO x := List.forall_mem_cons.mpr ⟨jw_PO_some mp_256, List.forall_mem_cons.mpr ⟨jw_PO_some mp_257, List.forall_mem_cons.mpr ⟨jw_PO_some mp_258, List.forall_mem_cons.mpr ⟨jw_PO_some mp_259, List.forall_mem_cons.mpr ⟨jw_PO_some mp_260, List.forall_mem_cons.mpr ⟨jw_PO_some mp_261, List.forall_mem_cons.mpr ⟨jw_PO_some mp_262, List.forall_mem_cons.mpr ⟨jw_PO_some mp_263, List.forall_mem_cons.mpr ⟨jw_PO_some mp_264, List.forall_mem_cons.mpr ⟨jw_PO_some mp_265, List.forall_mem_cons.mpr ⟨jw_PO_some mp_266, List.forall_mem_cons.mpr ⟨jw_PO_some mp_267, List.forall_mem_cons.mpr ⟨jw_PO_some mp_268, List.forall_mem_cons.mpr ⟨jw_PO_some mp_269, List.forall_mem_cons.mpr ⟨jw_PO_some mp_270, List.forall_mem_cons.mpr ⟨jw_PO_some mp_271, fun _ h => absurd h List.not_mem_nil⟩⟩⟩⟩⟩⟩⟩⟩⟩⟩⟩⟩⟩⟩⟩⟩
def jw_L17 : List (Option jw_E) := [some me_272, some me_273, some me_274, some me_275, some me_276, some me_277, some me_278, some me_279, some me_280, some me_281]
theorem jw_L17_p : ∀ x ∈ jw_L17, jw_PO x := List.forall_mem_cons.mpr ⟨jw_PO_some mp_272, List.forall_mem_cons.mpr ⟨jw_PO_some mp_273, List.forall_mem_cons.mpr ⟨jw_PO_some mp_274, List.forall_mem_cons.mpr ⟨jw_PO_some mp_275, List.forall_mem_cons.mpr ⟨jw_PO_some mp_276, List.forall_mem_cons.mpr ⟨jw_PO_some mp_277, List.forall_mem_cons.mpr ⟨jw_PO_some mp_278, List.forall_mem_cons.mpr ⟨jw_PO_some mp_279, List.forall_mem_cons.mpr ⟨jw_PO_some mp_280, List.forall_mem_cons.mpr ⟨jw_PO_some mp_281, fun _ h => absurd h List.not_mem_nil⟩⟩⟩⟩⟩⟩⟩⟩⟩⟩
def jw_L : List (List (Option jw_E)) := [jw_L0, jw_L1, jw_L2, jw_L3, jw_L4, jw_L5, jw_L6, jw_L7, jw_L8, jw_L9, jw_L10, jw_L11, jw_L12, jw_L13, jw_L14, jw_L15, jw_L16, jw_L17]
theorem jw_L_p : ∀ r ∈ jw_L, ∀ x ∈ r, jw_PO x := List.forall_mem_cons.mpr ⟨jw_L0_p, List.forall_mem_cons.mpr ⟨jw_L1_p, List.forall_mem_cons.mpr ⟨jw_L2_p, List.forall_mem_cons.mpr ⟨jw_L3_p, List.forall_mem_cons.mpr ⟨jw_L4_p, List.forall_mem_cons.mpr ⟨jw_L5_p, List.forall_mem_cons.mpr ⟨jw_L6_p, List.forall_mem_cons.mpr ⟨jw_L7_p, List.forall_mem_cons.mpr ⟨jw_L8_p, List.forall_mem_cons.mpr ⟨jw_L9_p, List.forall_mem_cons.mpr ⟨jw_L10_p, List.forall_mem_cons.mpr ⟨jw_L11_p, List.forall_mem_cons.mpr ⟨jw_L12_p, List.forall_mem_cons.mpr ⟨jw_L13_p, List.forall_mem_cons.mpr ⟨jw_L14_p, List.forall_mem_cons.mpr ⟨jw_L15_p, List.forall_mem_cons.mpr ⟨jw_L16_p, List.forall_mem_cons.mpr ⟨jw_L17_p, fun _ h => absurd h List.not_mem_nil⟩⟩⟩⟩⟩⟩⟩⟩⟩⟩⟩⟩⟩⟩⟩⟩⟩⟩
def jw_e (mi : Nat) : Option jw_E := match jw_at jw_L mi with
  | some x => x
  | none => none
theorem jw_e_p {mi : Nat} {x : jw_E} (h : jw_e mi = some x) : jw_P x := by
  unfold jw_e at h
  split at h
  · rename_i y hy
    obtain ⟨-, r, hr, hm⟩ := jw_at_mem hy
    exact jw_L_p r hr y hm x h
  · cases h
def jw_M (mi : Nat) : Option jx_M := match jw_e mi with
  | some x => some x.1
  | none => none
def jw_N (mi : Nat) : MethodName × ByteArray := match jw_e mi with
  | some x => x.2
  | none => (⟨"", "", ""⟩, ⟨#[]⟩)
theorem jw_mok : jx_mok jw_M jw_N jw_WS jw_ow := by
  intro mi own nL rt cd hd h
  unfold jw_M at h
  split at h
  · rename_i x hx
    have hp := jw_e_p hx
    have hN : jw_N mi = x.2 := by unfold jw_N; rw [hx]
    rw [hN]
    obtain ⟨x1, x2⟩ := x
    dsimp only at h
    cases h
    obtain ⟨p1, p2, p3, p4, p5, p6, p7, p8⟩ := hp
    exact ⟨fun _ => p1, p2, p3, p4, p5, p6, p7, p8⟩
  · cases h
