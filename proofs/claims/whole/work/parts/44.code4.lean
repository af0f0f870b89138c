/-! instructions of the methods, as decoded (printed by program: gen2.py) -/
def cd_171 : List (List (Option Instr)) := [[some (.aload_n 1), some (.ifnonnull 8), none, none, some (.aload_n 0), some (.getfield 9), none, none, some (.areturn), some (.aload_n 1), some (.getfield 154), none, none, some (.ifnull 8), none, none],
  [some (.aload_n 1), some (.getfield 154), none, none, some (.areturn), some (.aload_n 2), some (.astore_n 3), some (.iconst 0), some (.istore 4), none, some (.iload 4), none, some (.aload_n 1), some (.getfield 159), none, none],
  [some (.if_icmp .ge 28), none, none, some (.aload_n 3), some (.aload_n 1), some (.getfield 160), none, none, some (.iload 4), none, some (.aaload), some (.getfield 163), none, none, some (.aload_n 0), some (.getfield 9)],
  [none, none, some (.invokevirtual 78), none, none, some (.astore_n 3), some (.iinc 4 1), none, none, some (.goto (-31)), none, none, some (.aload_n 3), some (.areturn)]]
set_option maxRecDepth 100000 in
theorem ck_171 : jw_chk prog_3_method_7_code cd_171 = true := by decide +kernel
def cd_172 : List (List (Option Instr)) := [[some (.aload_n 0), some (.getfield 9), none, none, some (.iconst 2), some (.if_icmp .eq 18), none, none, some (.aload_n 0), some (.getfield 9), none, none, some (.iconst 3), some (.if_icmp .eq 10), none, none],
  [some (.aload_n 0), some (.invokevirtual 65), none, none, some (.ifCond .le 7), none, none, some (.iconst 1), some (.goto 4), none, none, some (.iconst 0), some (.ireturn)]]
set_option maxRecDepth 100000 in
theorem ck_172 : jw_chk prog_10_method_14_code cd_172 = true := by decide +kernel
def cd_173 : List (List (Option Instr)) := [[some (.aload_n 0), some (.getfield 9), none, none, some (.aload_n 1), some (.getfield 9), none, none, some (.if_icmp .ne 31), none, none, some (.aload_n 0), some (.getfield 15), none, none, some (.aload_n 1)],
  [some (.getfield 15), none, none, some (.if_icmp .ne 20), none, none, some (.aload_n 0), some (.getfield 29), none, none, some (.aload_n 1), some (.getfield 29), none, none, some (.if_icmp .ne 9), none],
  [none, some (.iload_n 2), some (.bipush 8), none, some (.if_icmp .le 5), none, none, some (.iconst 0), some (.ireturn), some (.aload_n 0), some (.getfield 18), none, none, some (.aload_n 1), some (.getfield 18), none],
  [none, some (.invokevirtual 45), none, none, some (.istore_n 3), some (.iconst 0), some (.istore 4), none, some (.iload 4), none, some (.aload_n 0), some (.getfield 29), none, none, some (.if_icmp .ge 78), none],
  [none, some (.iload_n 3), some (.ifCond .eq 74), none, none, some (.aload_n 0), some (.getfield 9), none, none, some (.bipush 6), none, some (.if_icmp .ne 21), none, none, some (.aload_n 1), some (.aload_n 0)],
  [some (.getfield 22), none, none, some (.iload 4), none, some (.aaload), some (.getfield 18), none, none, some (.aconst_null), some (.invokevirtual 72), none, none, some (.goto 10), none, none],
  [some (.aload_n 1), some (.getfield 26), none, none, some (.iload 4), none, some (.aaload), some (.astore 5), none, some (.aload 5), none, some (.ifnull 25), none, none, some (.aload_n 0), some (.getfield 26)],
  [none, none, some (.iload 4), none, some (.aaload), some (.aload 5), none, some (.iload_n 2), some (.iconst 1), some (.iadd), some (.invokevirtual 76), none, none, some (.ifCond .eq 7), none, none],
  [some (.iconst 1), some (.goto 4), none, none, some (.iconst 0), some (.istore_n 3), some (.iinc 4 1), none, none, some (.goto (-81)), none, none, some (.iload_n 3), some (.ireturn)]]
set_option maxRecDepth 100000 in
theorem ck_173 : jw_chk prog_10_method_16_code cd_173 = true := by decide +kernel
def cd_174 : List (List (Option Instr)) := [[some (.aload_n 1), some (.getfield 9), none, none, some (.ifCond .eq 8), none, none, some (.aload_n 0), some (.aload_n 1), some (.invokevirtual 41), none, none, some (.return_)]]
set_option maxRecDepth 100000 in
theorem ck_174 : jw_chk prog_10_method_7_code cd_174 = true := by decide +kernel
def cd_175 : List (List (Option Instr)) := [[some (.aload_n 1), some (.aload_n 2), some (.getfield 15), none, none, some (.invokevirtual 21), none, none, some (.ifCond .ne 5), none, none, some (.iconst 1), some (.ireturn), some (.iconst 1), some (.istore 4), none],
  [some (.aload_n 1), some (.getstatic 27), none, none, some (.if_acmp .ne 12), none, none, some (.aload_n 0), some (.aload_n 2), some (.aload_n 3), some (.iconst 3), some (.invokevirtual 31), none, none, some (.istore 4), none],
  [some (.aload_n 1), some (.getstatic 35), none, none, some (.if_acmp .eq 17), none, none, some (.aload_n 1), some (.getstatic 38), none, none, some (.if_acmp .eq 10), none, none, some (.aload_n 1), some (.getstatic 41)],
  [none, none, some (.if_acmp .ne 30), none, none, some (.aload_n 0), some (.aload_n 2), some (.aload_n 3), some (.iconst 3), some (.invokevirtual 31), none, none, some (.ifCond .ne 13), none, none, some (.aload_n 0)],
  [some (.aload_n 2), some (.aload_n 3), some (.iconst 4), some (.invokevirtual 31), none, none, some (.ifCond .eq 7), none, none, some (.iconst 1), some (.goto 4), none, none, some (.iconst 0), some (.istore 4), none],
  [some (.iload 4), none, some (.ifCond .eq 7), none, none, some (.iconst 0), some (.goto 4), none, none, some (.iconst 2), some (.ireturn)]]
set_option maxRecDepth 100000 in
theorem ck_175 : jw_chk prog_13_method_2_code cd_175 = true := by decide +kernel
def cd_176 : List (List (Option Instr)) := [[some (.aload_n 0), some (.getfield 56), none, none, some (.iload_n 1), some (.ishr), some (.iconst 1), some (.iand), some (.iconst 1), some (.if_icmp .ne 7), none, none, some (.iconst 1), some (.goto 4), none, none],
  [some (.iconst 0), some (.ireturn)]]
set_option maxRecDepth 100000 in
theorem ck_176 : jw_chk prog_12_method_5_code cd_176 = true := by decide +kernel
def cd_177 : List (List (Option Instr)) := [[some (.iconst 0), some (.istore 4), none, some (.iload 4), none, some (.aload_n 1), some (.getfield 44), none, none, some (.if_icmp .ge 30), none, none, some (.aload_n 0), some (.aload_n 1), some (.getfield 47), none],
  [none, some (.iload 4), none, some (.aaload), some (.aload_n 2), some (.invokevirtual 51), none, none, some (.getfield 15), none, none, some (.iload_n 3), some (.if_icmp .eq 5), none, none, some (.iconst 0)],
  [some (.ireturn), some (.iinc 4 1), none, none, some (.goto (-33)), none, none, some (.iconst 1), some (.ireturn)]]
set_option maxRecDepth 100000 in
theorem ck_177 : jw_chk prog_13_method_3_code cd_177 = true := by decide +kernel
def cd_178 : List (List (Option Instr)) := [[some (.aload_n 2), some (.invokevirtual 55), none, none, some (.ifCond .eq 7), none, none, some (.aload_n 1), some (.goto 12), none, none, some (.aload_n 1), some (.aload_n 2), some (.aload_n 0), some (.getfield 9), none],
  [none, some (.invokevirtual 61), none, none, some (.areturn)]]
set_option maxRecDepth 100000 in
theorem ck_178 : jw_chk prog_13_method_4_code cd_178 = true := by decide +kernel
def cd_179 : List (List (Option Instr)) := [[some (.aload_n 0), some (.getfield 9), none, none, some (.arraylength), some (.ifCond .ne 7), none, none, some (.iconst 1), some (.goto 4), none, none, some (.iconst 0), some (.ireturn)]]
set_option maxRecDepth 100000 in
theorem ck_179 : jw_chk prog_27_method_55_code cd_179 = true := by decide +kernel
def cd_180 : List (List (Option Instr)) := [[some (.getstatic 65), none, none, some (.aload_n 1), some (.invokevirtual 71), none, none, some (.iaload), some (.tableswitch 140 1 8 #[48, 56, 69, 82, 89, 117, 126, 133]), none, none, none, none, none, none, none],
  [none, none, none, none, none, none, none, none, none, none, none, none, none, none, none, none],
  [none, none, none, none, none, none, none, none, none, none, none, none, none, none, none, none],
  [none, none, none, none, none, none, none, none, some (.aload_n 2), some (.invokevirtual 75), none, none, some (.invokestatic 78), none, none, some (.areturn)],
  [some (.aload_n 0), some (.aload_n 2), some (.getfield 82), none, none, some (.aload_n 2), some (.getfield 44), none, none, some (.invokevirtual 85), none, none, some (.areturn), some (.aload_n 0), some (.aload_n 2), some (.getfield 47)],
  [none, none, some (.aload_n 2), some (.getfield 44), none, none, some (.invokevirtual 85), none, none, some (.areturn), some (.aload_n 0), some (.aload_n 2), some (.aload_n 3), some (.invokevirtual 89), none, none],
  [some (.areturn), some (.aload_n 2), some (.getfield 15), none, none, some (.iconst 4), some (.if_icmp .ne 17), none, none, some (.aload_n 0), some (.aload_n 2), some (.getfield 92), none, none, some (.invokevirtual 96), none],
  [none, some (.invokestatic 100), none, none, some (.goto 8), none, none, some (.aload_n 0), some (.aload_n 2), some (.invokevirtual 104), none, none, some (.areturn), some (.aload_n 0), some (.aload_n 2), some (.invokevirtual 108)],
  [none, none, some (.invokestatic 78), none, none, some (.areturn), some (.aload_n 0), some (.aload_n 2), some (.iconst 1), some (.invokevirtual 112), none, none, some (.areturn), some (.aload_n 0), some (.aload_n 2), some (.iconst (-1))],
  [some (.invokevirtual 112), none, none, some (.areturn), some (.aload_n 0), some (.aload_n 2), some (.getfield 15), none, none, some (.invokevirtual 116), none, none, some (.invokestatic 100), none, none, some (.areturn)]]
set_option maxRecDepth 100000 in
theorem ck_180 : jw_chk prog_13_method_5_code cd_180 = true := by decide +kernel
def cd_181 : List (List (Option Instr)) := [[some (.aload_n 0), some (.getfield 7), none, none, some (.ireturn)]]
set_option maxRecDepth 100000 in
theorem ck_181 : jw_chk prog_19_method_2_code cd_181 = true := by decide +kernel
def cd_182 : List (List (Option Instr)) := [[some (.iload_n 2), some (.invokestatic 120), none, none, some (.astore_n 3), some (.iconst 0), some (.istore 4), none, some (.iload 4), none, some (.iload_n 2), some (.if_icmp .ge 24), none, none, some (.iload 4), none],
  [some (.aload_n 1), some (.arraylength), some (.if_icmp .ge 17), none, none, some (.aload_n 3), some (.aload_n 1), some (.iload 4), none, some (.aaload), some (.invokevirtual 123), none, none, some (.iinc 4 1), none, none],
  [some (.goto (-24)), none, none, some (.aload_n 3), some (.areturn)]]
set_option maxRecDepth 100000 in
theorem ck_182 : jw_chk prog_13_method_6_code cd_182 = true := by decide +kernel
def cd_183 : List (List (Option Instr)) := [[some (.aload_n 1), some (.getfield 44), none, none, some (.invokestatic 120), none, none, some (.astore_n 3), some (.iconst 0), some (.istore 4), none, some (.iload 4), none, some (.aload_n 1), some (.getfield 44), none],
  [none, some (.if_icmp .ge 38), none, none, some (.aload_n 3), some (.aload_n 0), some (.aload_n 3), some (.aload_n 0), some (.aload_n 1), some (.getfield 47), none, none, some (.iload 4), none, some (.aaload), some (.aload_n 2)],
  [some (.invokevirtual 51), none, none, some (.aload_n 2), some (.invokevirtual 127), none, none, some (.aload_n 1), some (.getfield 47), none, none, some (.iload 4), none, some (.aaload), some (.invokevirtual 131), none],
  [none, some (.iinc 4 1), none, none, some (.goto (-41)), none, none, some (.aload_n 3), some (.areturn)]]
set_option maxRecDepth 100000 in
theorem ck_183 : jw_chk prog_13_method_7_code cd_183 = true := by decide +kernel
def cd_184 : List (List (Option Instr)) := [[some (.iconst 0), some (.istore 4), none, some (.aload_n 1), some (.getfield 44), none, none, some (.istore 5), none, some (.iconst 0), some (.istore 6), none, some (.iload 6), none, some (.aload_n 1), some (.getfield 44)],
  [none, none, some (.if_icmp .ge 57), none, none, some (.iload 4), none, some (.iload 5), none, some (.if_icmp .ge 50), none, none, some (.iload 4), none, some (.iload 5), none],
  [some (.iadd), some (.iconst 2), some (.idiv), some (.istore 7), none, some (.aload_n 0), some (.aload_n 1), some (.getfield 47), none, none, some (.iload 7), none, some (.aaload), some (.aload_n 3), some (.invokevirtual 51), none],
  [none, some (.aload_n 2), some (.invokevirtual 135), none, none, some (.ifCond .le 10), none, none, some (.iload 7), none, some (.istore 5), none, some (.goto 9), none, none, some (.iload 7)],
  [none, some (.iconst 1), some (.iadd), some (.istore 4), none, some (.iinc 6 1), none, none, some (.goto (-60)), none, none, some (.iload 4), none, some (.ireturn)]]
set_option maxRecDepth 100000 in
theorem ck_184 : jw_chk prog_13_method_8_code cd_184 = true := by decide +kernel
def cd_185 : List (List (Option Instr)) := [[some (.aload_n 0), some (.getfield 9), none, none, some (.iconst 3), some (.if_icmp .ne 15), none, none, some (.aload_n 0), some (.getfield 15), none, none, some (.aload_n 1), some (.getfield 15), none, none],
  [some (.invokestatic 80), none, none, some (.ireturn), some (.aload_n 0), some (.getfield 18), none, none, some (.invokevirtual 61), none, none, some (.aload_n 1), some (.getfield 18), none, none, some (.invokevirtual 61)],
  [none, none, some (.invokestatic 86), none, none, some (.istore_n 2), some (.iconst 0), some (.istore_n 3), some (.iload_n 3), some (.iload_n 2), some (.if_icmp .ge 48), none, none, some (.aload_n 0), some (.getfield 18), none],
  [none, some (.iload_n 3), some (.invokevirtual 91), none, none, some (.aload_n 1), some (.getfield 18), none, none, some (.iload_n 3), some (.invokevirtual 91), none, none, some (.if_icmp .eq 23), none, none],
  [some (.aload_n 0), some (.getfield 18), none, none, some (.iload_n 3), some (.invokevirtual 91), none, none, some (.aload_n 1), some (.getfield 18), none, none, some (.iload_n 3), some (.invokevirtual 91), none, none],
  [some (.invokestatic 80), none, none, some (.ireturn), some (.iinc 3 1), none, none, some (.goto (-47)), none, none, some (.aload_n 0), some (.getfield 18), none, none, some (.invokevirtual 61), none],
  [none, some (.aload_n 1), some (.getfield 18), none, none, some (.invokevirtual 61), none, none, some (.invokestatic 80), none, none, some (.ireturn)]]
set_option maxRecDepth 100000 in
theorem ck_185 : jw_chk prog_10_method_17_code cd_185 = true := by decide +kernel
def cd_186 : List (List (Option Instr)) := [[some (.iload_n 0), some (.iload_n 1), some (.if_icmp .ge 7), none, none, some (.iconst (-1)), some (.goto 13), none, none, some (.iload_n 0), some (.iload_n 1), some (.if_icmp .ne 7), none, none, some (.iconst 0), some (.goto 4)],
  [none, none, some (.iconst 1), some (.ireturn)]]
set_option maxRecDepth 100000 in
theorem ck_186 : jw_chk prog_23_method_40_code cd_186 = true := by decide +kernel
def cd_187 : List (List (Option Instr)) := [[some (.aload_n 0), some (.invokevirtual 492), none, none, some (.ifCond .eq 12), none, none, some (.aload_n 0), some (.getfield 9), none, none, some (.iload_n 1), some (.invokestatic 495), none, none, some (.ireturn)],
  [some (.aload_n 0), some (.getfield 9), none, none, some (.iload_n 1), some (.invokestatic 498), none, none, some (.ireturn)]]
set_option maxRecDepth 100000 in
theorem ck_187 : jw_chk prog_27_method_56_code cd_187 = true := by decide +kernel
def cd_188 : List (List (Option Instr)) := [[some (.getstatic 38), none, none, some (.ifCond .eq 14), none, none, some (.aload_n 0), some (.getfield 15), none, none, some (.ifCond .ne 7), none, none, some (.iconst 1), some (.goto 4), none],
  [none, some (.iconst 0), some (.ireturn)]]
set_option maxRecDepth 100000 in
theorem ck_188 : jw_chk prog_27_method_154_code cd_188 = true := by decide +kernel
def cd_189 : List (List (Option Instr)) := [[some (.iload_n 1), some (.aload_n 0), some (.arraylength), some (.invokestatic 9), none, none, some (.aload_n 0), some (.iload_n 1), some (.baload), some (.sipush 255), none, none, some (.iand), some (.i2c), some (.ireturn)]]
set_option maxRecDepth 100000 in
theorem ck_189 : jw_chk prog_29_method_2_code cd_189 = true := by decide +kernel
def cd_190 : List (List (Option Instr)) := [[some (.iload_n 1), some (.aload_n 0), some (.invokestatic 67), none, none, some (.aload_n 0), some (.iload_n 1), some (.invokestatic 71), none, none, some (.ireturn)]]
set_option maxRecDepth 100000 in
theorem ck_190 : jw_chk prog_30_method_83_code cd_190 = true := by decide +kernel
def cd_191 : List (List (Option Instr)) := [[some (.aload_n 0), some (.aload_n 2), some (.invokevirtual 41), none, none, some (.aload_n 0), some (.getfield 29), none, none, some (.iconst 1), some (.isub), some (.istore_n 3), some (.iload_n 3), some (.iload_n 1), some (.if_icmp .le 36), none],
  [none, some (.iload_n 3), some (.ifCond .le 32), none, none, some (.aload_n 0), some (.getfield 26), none, none, some (.iload_n 3), some (.aload_n 0), some (.getfield 26), none, none, some (.iload_n 3), some (.iconst 1)],
  [some (.isub), some (.aaload), some (.aastore), some (.aload_n 0), some (.getfield 26), none, none, some (.iload_n 3), some (.iconst 1), some (.isub), some (.aload_n 2), some (.aastore), some (.iinc 3 (-1)), none, none, some (.goto (-35))],
  [none, none, some (.return_)]]
set_option maxRecDepth 100000 in
theorem ck_191 : jw_chk prog_10_method_8_code cd_191 = true := by decide +kernel
def cd_192 : List (List (Option Instr)) := [[some (.aload_n 1), some (.invokevirtual 138), none, none, some (.astore_n 2), some (.iconst 0), some (.istore_n 3), some (.iload_n 3), some (.aload_n 2), some (.arraylength), some (.if_icmp .ge 22), none, none, some (.aload_n 2), some (.iload_n 3), some (.aload_n 1)],
  [some (.aload_n 2), some (.arraylength), some (.iconst 1), some (.isub), some (.iload_n 3), some (.isub), some (.invokevirtual 142), none, none, some (.castore), some (.iinc 3 1), none, none, some (.goto (-22)), none, none],
  [some (.new 56), none, none, some (.dup), some (.aload_n 2), some (.invokespecial 146), none, none, some (.areturn)]]
set_option maxRecDepth 100000 in
theorem ck_192 : jw_chk prog_13_method_10_code cd_192 = true := by decide +kernel
def cd_193 : List (List (Option Instr)) := [[some (.aload_n 0), some (.invokevirtual 492), none, none, some (.ifCond .eq 13), none, none, some (.aload_n 0), some (.getfield 9), none, none, some (.invokestatic 299), none, none, some (.goto 10), none],
  [none, some (.aload_n 0), some (.getfield 9), none, none, some (.invokestatic 303), none, none, some (.areturn)]]
set_option maxRecDepth 100000 in
theorem ck_193 : jw_chk prog_27_method_129_code cd_193 = true := by decide +kernel
def cd_194 : List (List (Option Instr)) := [[some (.aload_n 0), some (.arraylength), some (.newarray .char), none, some (.astore_n 1), some (.aload_n 0), some (.iconst 0), some (.aload_n 1), some (.iconst 0), some (.aload_n 0), some (.arraylength), some (.invokestatic 13), none, none, some (.aload_n 1), some (.areturn)]]
set_option maxRecDepth 100000 in
theorem ck_194 : jw_chk prog_29_method_9_code cd_194 = true := by decide +kernel
def cd_195 : List (List (Option Instr)) := [[some (.iconst 0), some (.istore 5), none, some (.iload 5), none, some (.iload 4), none, some (.if_icmp .ge 26), none, none, some (.aload_n 2), some (.iload_n 3), some (.iinc 3 1), none, none, some (.aload_n 0)],
  [some (.iload_n 1), some (.iinc 1 1), none, none, some (.baload), some (.sipush 255), none, none, some (.iand), some (.i2c), some (.castore), some (.iinc 5 1), none, none, some (.goto (-27)), none],
  [none, some (.return_)]]
set_option maxRecDepth 100000 in
theorem ck_195 : jw_chk prog_29_method_49_code cd_195 = true := by decide +kernel
def cd_196 : List (List (Option Instr)) := [[some (.aload_n 0), some (.arraylength), some (.iconst 1), some (.ishr), some (.newarray .char), none, some (.astore_n 1), some (.aload_n 0), some (.iconst 0), some (.aload_n 1), some (.arraylength), some (.aload_n 1), some (.iconst 0), some (.invokestatic 103), none, none],
  [some (.aload_n 1), some (.areturn)]]
set_option maxRecDepth 100000 in
theorem ck_196 : jw_chk prog_30_method_13_code cd_196 = true := by decide +kernel
def cd_197 : List (List (Option Instr)) := [[some (.iload_n 1), some (.iload_n 2), some (.if_icmp .ge 11), none, none, some (.iload_n 1), some (.iload_n 2), some (.iload_n 1), some (.isub), some (.aload_n 0), some (.invokestatic 173), none, none, some (.iload_n 1), some (.istore 5), none],
  [some (.iload 5), none, some (.iload_n 2), some (.if_icmp .ge 22), none, none, some (.aload_n 3), some (.iload 4), none, some (.iinc 4 1), none, none, some (.aload_n 0), some (.iload 5), none, some (.invokestatic 71)],
  [none, none, some (.castore), some (.iinc 5 1), none, none, some (.goto (-22)), none, none, some (.return_)]]
set_option maxRecDepth 100000 in
theorem ck_197 : jw_chk prog_30_method_26_code cd_197 = true := by decide +kernel
def cd_198 : List (List (Option Instr)) := [[some (.aload_n 0), some (.aload_n 1), some (.iconst 0), some (.aload_n 1), some (.arraylength), some (.aconst_null), some (.invokespecial 27), none, none, some (.return_)]]
set_option maxRecDepth 100000 in
theorem ck_198 : jw_chk prog_27_method_3_code cd_198 = true := by decide +kernel
def cd_199 : List (List (Option Instr)) := [[some (.aload_n 0), some (.invokespecial 1), none, none, some (.iload_n 3), some (.ifCond .ne 22), none, none, some (.aload_n 0), some (.ldc 7), none, some (.getfield 9), none, none, some (.putfield 9), none],
  [none, some (.aload_n 0), some (.ldc 7), none, some (.getfield 15), none, none, some (.putfield 15), none, none, some (.return_), some (.getstatic 38), none, none, some (.ifCond .eq 28), none],
  [none, some (.aload_n 1), some (.iload_n 2), some (.iload_n 3), some (.invokestatic 177), none, none, some (.astore 5), none, some (.aload_n 0), some (.aload 5), none, some (.iload_n 3), some (.invokestatic 47), none, none],
  [some (.putfield 15), none, none, some (.aload_n 0), some (.aload 5), none, some (.putfield 9), none, none, some (.return_), some (.aload_n 0), some (.iconst 1), some (.putfield 15), none, none, some (.aload_n 0)],
  [some (.aload_n 1), some (.iload_n 2), some (.iload_n 3), some (.invokestatic 180), none, none, some (.putfield 9), none, none, some (.return_)]]
set_option maxRecDepth 100000 in
theorem ck_199 : jw_chk prog_27_method_149_code cd_199 = true := by decide +kernel
def cd_200 : List (List (Option Instr)) := [[some (.iload_n 2), some (.newarray .byte), none, some (.astore_n 3), some (.aload_n 0), some (.iload_n 1), some (.aload_n 3), some (.iconst 0), some (.iload_n 2), some (.invokestatic 115), none, none, some (.istore 4), none, some (.iload 4), none],
  [some (.iload_n 2), some (.if_icmp .eq 40), none, none, some (.aload_n 0), some (.iload_n 1), some (.iload_n 2), some (.invokestatic 119), none, none, some (.astore 5), none, some (.aload 5), none, some (.iload 4), none],
  [some (.invokestatic 71), none, none, some (.sipush 255), none, none, some (.if_icmp .gt 16), none, none, some (.aload 5), none, some (.iconst 0), some (.aload_n 3), some (.iconst 0), some (.iload_n 2), some (.invokestatic 123)],
  [none, none, some (.iload_n 2), some (.if_icmp .eq 6), none, none, some (.aload 5), none, some (.areturn), some (.aload_n 3), some (.areturn)]]
set_option maxRecDepth 100000 in
theorem ck_200 : jw_chk prog_30_method_16_code cd_200 = true := by decide +kernel
def cd_201 : List (List (Option Instr)) := [[some (.iconst 0), some (.istore 5), none, some (.iload 5), none, some (.iload 4), none, some (.if_icmp .ge 37), none, none, some (.aload_n 0), some (.iload_n 1), some (.caload), some (.istore 6), none, some (.iload 6)],
  [none, some (.sipush 255), none, none, some (.if_icmp .le 6), none, none, some (.iload 5), none, some (.ireturn), some (.aload_n 2), some (.iload_n 3), some (.iload 6), none, some (.i2b), some (.bastore)],
  [some (.iinc 1 1), none, none, some (.iinc 3 1), none, none, some (.iinc 5 1), none, none, some (.goto (-38)), none, none, some (.iload 4), none, some (.ireturn)]]
set_option maxRecDepth 100000 in
theorem ck_201 : jw_chk prog_30_method_21_code cd_201 = true := by decide +kernel
def cd_202 : List (List (Option Instr)) := [[some (.iload_n 2), some (.invokestatic 107), none, none, some (.astore_n 3), some (.iconst 0), some (.istore 4), none, some (.iload 4), none, some (.iload_n 2), some (.if_icmp .ge 21), none, none, some (.aload_n 3), some (.iload 4)],
  [none, some (.aload_n 0), some (.iload_n 1), some (.caload), some (.invokestatic 111), none, none, some (.iinc 1 1), none, none, some (.iinc 4 1), none, none, some (.goto (-21)), none, none],
  [some (.aload_n 3), some (.areturn)]]
set_option maxRecDepth 100000 in
theorem ck_202 : jw_chk prog_30_method_14_code cd_202 = true := by decide +kernel
def cd_203 : List (List (Option Instr)) := [[some (.aload_n 1), some (.getfield 44), none, none, some (.invokestatic 120), none, none, some (.astore_n 2), some (.aload_n 1), some (.getfield 44), none, none, some (.iconst 1), some (.isub), some (.istore_n 3), some (.iload_n 3)],
  [some (.ifCond .lt 19), none, none, some (.aload_n 2), some (.aload_n 1), some (.getfield 47), none, none, some (.iload_n 3), some (.aaload), some (.invokevirtual 123), none, none, some (.iinc 3 (-1)), none, none],
  [some (.goto (-17)), none, none, some (.aload_n 2), some (.areturn)]]
set_option maxRecDepth 100000 in
theorem ck_203 : jw_chk prog_13_method_9_code cd_203 = true := by decide +kernel
def cd_204 : List (List (Option Instr)) := [[some (.iconst 0), some (.istore_n 2), some (.iconst 0), some (.istore_n 3), some (.iload_n 3), some (.aload_n 1), some (.getfield 44), none, none, some (.if_icmp .ge 21), none, none, some (.iload_n 2), some (.aload_n 1), some (.getfield 47), none],
  [none, some (.iload_n 3), some (.aaload), some (.getfield 149), none, none, some (.iadd), some (.istore_n 2), some (.iinc 3 1), none, none, some (.goto (-23)), none, none, some (.iload_n 2), some (.ireturn)]]
set_option maxRecDepth 100000 in
theorem ck_204 : jw_chk prog_13_method_11_code cd_204 = true := by decide +kernel
def cd_205 : List (List (Option Instr)) := [[some (.aload_n 1), some (.getfield 44), none, none, some (.ifCond .ne 10), none, none, some (.aload_n 0), some (.getfield 9), none, none, some (.goto 9), none, none, some (.aload_n 1), some (.getfield 47)],
  [none, none, some (.iconst 0), some (.aaload), some (.astore_n 3), some (.iconst 1), some (.istore 4), none, some (.iload 4), none, some (.aload_n 1), some (.getfield 44), none, none, some (.if_icmp .ge 33), none],
  [none, some (.iload_n 2), some (.aload_n 1), some (.getfield 47), none, none, some (.iload 4), none, some (.aaload), some (.aload_n 3), some (.invokevirtual 135), none, none, some (.imul), some (.ifCond .le 11), none],
  [none, some (.aload_n 1), some (.getfield 47), none, none, some (.iload 4), none, some (.aaload), some (.astore_n 3), some (.iinc 4 1), none, none, some (.goto (-36)), none, none, some (.aload_n 3)],
  [some (.areturn)]]
set_option maxRecDepth 100000 in
theorem ck_205 : jw_chk prog_13_method_12_code cd_205 = true := by decide +kernel
def cd_206 : List (List (Option Instr)) := [[some (.iload_n 1), some (.tableswitch 54 0 5 #[39, 42, 42, 45, 48, 51]), none, none, none, none, none, none, none, none, none, none, none, none, none, none],
  [none, none, none, none, none, none, none, none, none, none, none, none, none, none, none, none],
  [none, none, none, none, none, none, none, none, some (.ldc 152), none, some (.areturn), some (.ldc 153), none, some (.areturn), some (.ldc 155), none],
  [some (.areturn), some (.ldc 156), none, some (.areturn), some (.ldc 157), none, some (.areturn), some (.ldc 159), none, some (.areturn)]]
set_option maxRecDepth 100000 in
theorem ck_206 : jw_chk prog_13_method_13_code cd_206 = true := by decide +kernel
def cd_207 : List (List (Option Instr)) := [[some (.aload_n 0), some (.invokespecial 1), none, none, some (.aload_n 0), some (.sipush 160), none, none, some (.newarray .int), none, some (.putfield 7), none, none, some (.aload_n 0), some (.sipush 1740), none],
  [none, some (.newarray .int), none, some (.putfield 13), none, none, some (.aload_n 0), some (.sipush 1740), none, none, some (.newarray .int), none, some (.putfield 16), none, none, some (.aload_n 0)],
  [some (.sipush 1740), none, none, some (.newarray .long), none, some (.putfield 19), none, none, some (.aload_n 0), some (.sipush 1740), none, none, some (.newarray .int), none, some (.putfield 23), none],
  [none, some (.aload_n 0), some (.sipush 1740), none, none, some (.newarray .int), none, some (.putfield 26), none, none, some (.aload_n 0), some (.sipush 1740), none, none, some (.newarray .int), none],
  [some (.putfield 29), none, none, some (.aload_n 0), some (.sipush 1740), none, none, some (.newarray .long), none, some (.putfield 32), none, none, some (.aload_n 0), some (.sipush 1740), none, none],
  [some (.newarray .int), none, some (.putfield 35), none, none, some (.aload_n 0), some (.iconst 5), some (.newarray .int), none, some (.putfield 38), none, none, some (.aload_n 0), some (.iconst 5), some (.newarray .int), none],
  [some (.putfield 41), none, none, some (.aload_n 0), some (.bipush 12), none, some (.newarray .int), none, some (.putfield 44), none, none, some (.aload_n 0), some (.sipush 1200), none, none, some (.newarray .int)],
  [none, some (.putfield 47), none, none, some (.aload_n 0), some (.sipush 1200), none, none, some (.newarray .long), none, some (.putfield 50), none, none, some (.aload_n 0), some (.sipush 1200), none],
  [none, some (.newarray .int), none, some (.putfield 53), none, none, some (.aload_n 0), some (.sipush 144), none, none, some (.newarray .int), none, some (.putfield 56), none, none, some (.aload_n 0)],
  [some (.sipush 432), none, none, some (.newarray .int), none, some (.putfield 59), none, none, some (.aload_n 0), some (.sipush 144), none, none, some (.newarray .int), none, some (.putfield 62), none],
  [none, some (.aload_n 0), some (.sipush 288), none, none, some (.newarray .int), none, some (.putfield 65), none, none, some (.aload_n 0), some (.sipush 288), none, none, some (.newarray .int), none],
  [some (.putfield 68), none, none, some (.aload_n 0), some (.sipush 864), none, none, some (.newarray .long), none, some (.putfield 71), none, none, some (.aload_n 0), some (.sipush 288), none, none],
  [some (.newarray .int), none, some (.putfield 74), none, none, some (.aload_n 0), some (.sipush 288), none, none, some (.newarray .long), none, some (.putfield 77), none, none, some (.aload_n 0), some (.iconst 5)],
  [some (.newarray .int), none, some (.putfield 80), none, none, some (.aload_n 0), some (.iconst 5), some (.newarray .int), none, some (.putfield 83), none, none, some (.aload_n 0), some (.iconst 5), some (.newarray .long), none],
  [some (.putfield 86), none, none, some (.aload_n 0), some (.sipush 400), none, none, some (.newarray .int), none, some (.putfield 89), none, none, some (.aload_n 0), some (.sipush 400), none, none],
  [some (.newarray .int), none, some (.putfield 92), none, none, some (.aload_n 0), some (.sipush 400), none, none, some (.newarray .int), none, some (.putfield 95), none, none, some (.aload_n 0), some (.bipush 16)],
  [none, some (.newarray .int), none, some (.putfield 98), none, none, some (.aload_n 0), some (.sipush 400), none, none, some (.newarray .int), none, some (.putfield 101), none, none, some (.aload_n 0)],
  [some (.sipush 400), none, none, some (.newarray .int), none, some (.putfield 104), none, none, some (.aload_n 0), some (.sipush 500), none, none, some (.newarray .int), none, some (.putfield 107), none],
  [none, some (.aload_n 0), some (.aload_n 0), some (.iconst 0), some (.iconst 0), some (.iconst 0), some (.lconst 0), some (.invokevirtual 110), none, none, some (.putfield 114), none, none, some (.aload_n 0), some (.aload_n 0), some (.iconst 1)],
  [some (.iconst 0), some (.iconst 0), some (.lconst 0), some (.invokevirtual 110), none, none, some (.putfield 118), none, none, some (.return_)]]
set_option maxRecDepth 100000 in
theorem ck_207 : jw_chk prog_15_method_1_code cd_207 = true := by decide +kernel
def cd_208 : List (List (Option Instr)) := [[some (.sipush 170), none, none, some (.iload_n 1), some (.imul), some (.aload_n 0), some (.getfield 38), none, none, some (.iload_n 1), some (.iaload), some (.iadd), some (.istore 6), none, some (.aload_n 0), some (.getfield 38)],
  [none, none, some (.iload_n 1), some (.dup2), some (.iaload), some (.iconst 1), some (.iadd), some (.iastore), some (.aload_n 0), some (.getfield 13), none, none, some (.iload 6), none, some (.iload_n 2), some (.iastore)],
  [some (.aload_n 0), some (.getfield 16), none, none, some (.iload 6), none, some (.iload_n 3), some (.iastore), some (.aload_n 0), some (.getfield 19), none, none, some (.iload 6), none, some (.lload 4), none],
  [some (.lastore), some (.aload_n 0), some (.getfield 23), none, none, some (.iload 6), none, some (.iconst (-1)), some (.iastore), some (.aload_n 0), some (.getfield 26), none, none, some (.iload 6), none, some (.iconst 0)],
  [some (.iastore), some (.iload 6), none, some (.ireturn)]]
set_option maxRecDepth 100000 in
theorem ck_208 : jw_chk prog_15_method_3_code cd_208 = true := by decide +kernel
def cd_209 : List (List (Option Instr)) := [[some (.aload_n 0), some (.getfield 121), none, none, some (.ireturn)]]
set_option maxRecDepth 100000 in
theorem ck_209 : jw_chk prog_15_method_2_code cd_209 = true := by decide +kernel
def cd_210 : List (List (Option Instr)) := [[some (.aload_n 0), some (.iload_n 1), some (.bipush 32), none, some (.if_icmp .lt 9), none, none, some (.iload_n 1), some (.bipush 126), none, some (.if_icmp .le 7), none, none, some (.iconst 1), some (.goto 18), none],
  [none, some (.aload_n 0), some (.getfield 142), none, none, some (.sipush 160), none, none, some (.if_icmp .ne 7), none, none, some (.iconst 2), some (.goto 4), none, none, some (.iconst 0)],
  [some (.putfield 121), none, none, some (.aload_n 0), some (.getfield 121), none, none, some (.ifCond .ne 23), none, none, some (.aload_n 0), some (.getfield 7), none, none, some (.aload_n 0), some (.getfield 142)],
  [none, none, some (.iload_n 1), some (.iastore), some (.aload_n 0), some (.dup), some (.getfield 142), none, none, some (.iconst 1), some (.iadd), some (.putfield 142), none, none, some (.aload_n 0), some (.getfield 142)],
  [none, none, some (.ireturn)]]
set_option maxRecDepth 100000 in
theorem ck_210 : jw_chk prog_15_method_16_code cd_210 = true := by decide +kernel
def cd_211 : List (List (Option Instr)) := [[some (.aload_n 0), some (.iconst 0), some (.putfield 121), none, none, some (.aload_n 0), some (.invokevirtual 205), none, none, some (.aload_n 0), some (.iconst 4), some (.invokevirtual 124), none, none, some (.aload_n 0), some (.invokevirtual 208)],
  [none, none, some (.istore_n 1), some (.aload_n 0), some (.iconst 0), some (.putfield 142), none, none, some (.aload_n 0), some (.getfield 148), none, none, some (.ifCond .ge 8), none, none, some (.aload_n 0)],
  [some (.getfield 148), none, none, some (.ireturn), some (.aload_n 0), some (.aload_n 0), some (.iload_n 1), some (.iconst 0), some (.invokevirtual 211), none, none, some (.putfield 114), none, none, some (.aload_n 0), some (.aload_n 0)],
  [some (.getfield 114), none, none, some (.invokevirtual 215), none, none, some (.ireturn)]]
set_option maxRecDepth 100000 in
theorem ck_211 : jw_chk prog_15_method_30_code cd_211 = true := by decide +kernel
def cd_212 : List (List (Option Instr)) := [[some (.aload_n 0), some (.iconst 0), some (.putfield 145), none, none, some (.aload_n 0), some (.iconst 0), some (.putfield 148), none, none, some (.return_)]]
set_option maxRecDepth 100000 in
theorem ck_212 : jw_chk prog_15_method_29_code cd_212 = true := by decide +kernel
def cd_213 : List (List (Option Instr)) := [[some (.aload_n 0), some (.getfield 38), none, none, some (.iload_n 1), some (.iconst 0), some (.iastore), some (.aload_n 0), some (.getfield 41), none, none, some (.iload_n 1), some (.iconst 0), some (.iastore), some (.return_)]]
set_option maxRecDepth 100000 in
theorem ck_213 : jw_chk prog_15_method_5_code cd_213 = true := by decide +kernel
def cd_214 : List (List (Option Instr)) := [[some (.iconst (-1)), some (.istore_n 1), some (.iconst (-1)), some (.istore_n 2), some (.iconst (-1)), some (.istore_n 3), some (.aload_n 0), some (.getfield 148), none, none, some (.ifCond .ne 240), none, none, some (.iload_n 3), some (.iconst (-1)), some (.if_icmp .ne 235)],
  [none, none, some (.iconst (-1)), some (.istore_n 2), some (.aload_n 0), some (.invokevirtual 151), none, none, some (.bipush 91), none, some (.if_icmp .eq 12), none, none, some (.aload_n 0), some (.invokevirtual 151), none],
  [none, some (.bipush 123), none, some (.if_icmp .ne 122), none, none, some (.iload_n 1), some (.iconst 3), some (.if_icmp .ne 13), none, none, some (.aload_n 0), some (.aload_n 0), some (.getfield 145), none, none],
  [some (.invokevirtual 155), none, none, some (.iconst (-1)), some (.ireturn), some (.aload_n 0), some (.iconst 4), some (.aload_n 0), some (.invokevirtual 151), none, none, some (.bipush 91), none, some (.if_icmp .ne 7), none, none],
  [some (.iconst 5), some (.goto 5), none, none, some (.bipush 6), none, some (.iconst 0), some (.lconst 0), some (.invokevirtual 110), none, none, some (.istore 4), none, some (.iinc 1 1), none, none],
  [some (.aload_n 0), some (.dup), some (.getfield 145), none, none, some (.iconst 1), some (.iadd), some (.putfield 145), none, none, some (.aload_n 0), some (.getfield 80), none, none, some (.iload_n 1), some (.iload 4)],
  [none, some (.iastore), some (.aload_n 0), some (.getfield 83), none, none, some (.iload_n 1), some (.iconst (-1)), some (.iastore), some (.aload_n 0), some (.invokevirtual 151), none, none, some (.aload_n 0), some (.getfield 13), none],
  [none, some (.iload 4), none, some (.iaload), some (.iconst 5), some (.if_icmp .ne 8), none, none, some (.bipush 93), none, some (.goto 5), none, none, some (.bipush 125), none, some (.if_icmp .ne 22)],
  [none, none, some (.aload_n 0), some (.dup), some (.getfield 145), none, none, some (.iconst 1), some (.iadd), some (.putfield 145), none, none, some (.iinc 1 (-1)), none, none, some (.iload 4)],
  [none, some (.istore_n 2), some (.goto 8), none, none, some (.aload_n 0), some (.iload_n 1), some (.invokevirtual 195), none, none, some (.goto 8), none, none, some (.aload_n 0), some (.invokevirtual 198), none],
  [none, some (.istore_n 2), some (.aload_n 0), some (.getfield 148), none, none, some (.ifCond .ne 79), none, none, some (.iload_n 2), some (.iconst (-1)), some (.if_icmp .eq 74), none, none, some (.iload_n 1), some (.ifCond .lt 70)],
  [none, none, some (.aload_n 0), some (.iload_n 1), some (.iload_n 2), some (.invokevirtual 201), none, none, some (.iconst (-1)), some (.istore_n 2), some (.aload_n 0), some (.getfield 80), none, none, some (.iload_n 1), some (.iaload)],
  [some (.istore 4), none, some (.aload_n 0), some (.bipush 44), none, some (.invokevirtual 170), none, none, some (.ifCond .eq 11), none, none, some (.aload_n 0), some (.iload_n 1), some (.invokevirtual 195), none, none],
  [some (.goto 34), none, none, some (.aload_n 0), some (.aload_n 0), some (.getfield 13), none, none, some (.iload 4), none, some (.iaload), some (.iconst 5), some (.if_icmp .ne 8), none, none, some (.bipush 93)],
  [none, some (.goto 5), none, none, some (.bipush 125), none, some (.invokevirtual 179), none, none, some (.ifCond .eq 9), none, none, some (.iinc 1 (-1)), none, none, some (.iload 4)],
  [none, some (.istore_n 2), some (.goto (-80)), none, none, some (.iload_n 2), some (.istore_n 3), some (.goto (-241)), none, none, some (.aload_n 0), some (.getfield 148), none, none, some (.ifCond .ne 22), none],
  [none, some (.aload_n 0), some (.getfield 145), none, none, some (.aload_n 0), some (.getfield 142), none, none, some (.if_icmp .ge 11), none, none, some (.aload_n 0), some (.aload_n 0), some (.getfield 145), none],
  [none, some (.invokevirtual 155), none, none, some (.iload_n 3), some (.ireturn)]]
set_option maxRecDepth 100000 in
theorem ck_214 : jw_chk prog_15_method_28_code cd_214 = true := by decide +kernel
