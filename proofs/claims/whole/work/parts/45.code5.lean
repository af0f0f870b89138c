/-! instructions of the methods, as decoded (printed by program: gen2.py) -/
def cd_215 : List (List (Option Instr)) := [[some (.aload_n 0), some (.getfield 145), none, none, some (.aload_n 0), some (.getfield 142), none, none, some (.if_icmp .ge 15), none, none, some (.aload_n 0), some (.getfield 7), none, none, some (.aload_n 0)],
  [some (.getfield 145), none, none, some (.iaload), some (.goto 4), none, none, some (.iconst (-1)), some (.ireturn)]]
set_option maxRecDepth 100000 in
theorem ck_215 : jw_chk prog_15_method_17_code cd_215 = true := by decide +kernel
def cd_216 : List (List (Option Instr)) := [[some (.aload_n 0), some (.aload_n 0), some (.getfield 148), none, none, some (.ifCond .ne 9), none, none, some (.iconst (-1)), some (.iload_n 1), some (.isub), some (.goto 7), none, none, some (.aload_n 0), some (.getfield 148)],
  [none, none, some (.putfield 148), none, none, some (.return_)]]
set_option maxRecDepth 100000 in
theorem ck_216 : jw_chk prog_15_method_18_code cd_216 = true := by decide +kernel
def cd_217 : List (List (Option Instr)) := [[some (.aload_n 0), some (.getfield 86), none, none, some (.iload_n 1), some (.lconst 0), some (.lastore), some (.aload_n 0), some (.getfield 13), none, none, some (.aload_n 0), some (.getfield 80), none, none, some (.iload_n 1)],
  [some (.iaload), some (.iaload), some (.bipush 6), none, some (.if_icmp .ne 29), none, none, some (.aload_n 0), some (.invokevirtual 192), none, none, some (.istore_n 2), some (.aload_n 0), some (.getfield 86), none, none],
  [some (.iload_n 1), some (.aload_n 0), some (.getfield 158), none, none, some (.lastore), some (.iload_n 2), some (.ifCond .eq 10), none, none, some (.aload_n 0), some (.bipush 58), none, some (.invokevirtual 179), none, none],
  [some (.pop), some (.return_)]]
set_option maxRecDepth 100000 in
theorem ck_217 : jw_chk prog_15_method_27_code cd_217 = true := by decide +kernel
def cd_218 : List (List (Option Instr)) := [[some (.aload_n 0), some (.lconst 0), some (.putfield 158), none, none, some (.iconst 0), some (.istore_n 1), some (.aload_n 0), some (.invokevirtual 151), none, none, some (.invokestatic 162), none, none, some (.ifCond .ne 13), none],
  [none, some (.aload_n 0), some (.aload_n 0), some (.getfield 145), none, none, some (.invokevirtual 155), none, none, some (.iconst 0), some (.ireturn), some (.aload_n 0), some (.invokevirtual 151), none, none, some (.invokestatic 162)],
  [none, none, some (.ifCond .eq 51), none, none, some (.iload_n 1), some (.bipush 7), none, some (.if_icmp .ne 13), none, none, some (.aload_n 0), some (.aload_n 0), some (.getfield 145), none, none],
  [some (.invokevirtual 155), none, none, some (.iconst 0), some (.ireturn), some (.aload_n 0), some (.aload_n 0), some (.getfield 158), none, none, some (.iload_n 1), some (.aload_n 0), some (.invokevirtual 151), none, none, some (.invokestatic 166)],
  [none, none, some (.putfield 158), none, none, some (.iinc 1 1), none, none, some (.aload_n 0), some (.dup), some (.getfield 145), none, none, some (.iconst 1), some (.iadd), some (.putfield 145)],
  [none, none, some (.goto (-55)), none, none, some (.iconst 1), some (.ireturn)]]
set_option maxRecDepth 100000 in
theorem ck_218 : jw_chk prog_15_method_21_code cd_218 = true := by decide +kernel
def cd_219 : List (List (Option Instr)) := [[some (.iload_n 0), some (.bipush 97), none, some (.if_icmp .lt 13), none, none, some (.iload_n 0), some (.bipush 122), none, some (.if_icmp .gt 7), none, none, some (.iconst 1), some (.goto 4), none, none],
  [some (.iconst 0), some (.ireturn)]]
set_option maxRecDepth 100000 in
theorem ck_219 : jw_chk prog_15_method_14_code cd_219 = true := by decide +kernel
def cd_220 : List (List (Option Instr)) := [[some (.lload_n 0), some (.iload_n 3), some (.i2l), some (.bipush 7), none, some (.bipush 6), none, some (.iload_n 2), some (.isub), some (.imul), some (.lshl), some (.lor), some (.lreturn)]]
set_option maxRecDepth 100000 in
theorem ck_220 : jw_chk prog_15_method_13_code cd_220 = true := by decide +kernel
def cd_221 : List (List (Option Instr)) := [[some (.aload_n 0), some (.invokevirtual 151), none, none, some (.iload_n 1), some (.if_icmp .eq 13), none, none, some (.aload_n 0), some (.aload_n 0), some (.getfield 145), none, none, some (.invokevirtual 155), none, none],
  [some (.iconst 0), some (.ireturn), some (.aload_n 0), some (.dup), some (.getfield 145), none, none, some (.iconst 1), some (.iadd), some (.putfield 145), none, none, some (.iconst 1), some (.ireturn)]]
set_option maxRecDepth 100000 in
theorem ck_221 : jw_chk prog_15_method_19_code cd_221 = true := by decide +kernel
def cd_222 : List (List (Option Instr)) := [[some (.aload_n 0), some (.invokevirtual 151), none, none, some (.istore_n 1), some (.iload_n 1), some (.bipush 110), none, some (.if_icmp .eq 15), none, none, some (.iload_n 1), some (.bipush 102), none, some (.if_icmp .eq 9), none],
  [none, some (.iload_n 1), some (.bipush 116), none, some (.if_icmp .ne 42), none, none, some (.aload_n 0), some (.dup), some (.getfield 145), none, none, some (.iconst 1), some (.iadd), some (.putfield 145), none],
  [none, some (.aload_n 0), some (.iconst 4), some (.iload_n 1), some (.bipush 110), none, some (.if_icmp .ne 7), none, none, some (.iconst 0), some (.goto 14), none, none, some (.iload_n 1), some (.bipush 102), none],
  [some (.if_icmp .ne 7), none, none, some (.iconst 1), some (.goto 4), none, none, some (.iconst 2), some (.iconst 0), some (.lconst 0), some (.invokevirtual 110), none, none, some (.ireturn), some (.aload_n 0), some (.invokevirtual 182)],
  [none, none, some (.ifCond .eq 28), none, none, some (.aload_n 0), some (.invokevirtual 186), none, none, some (.istore_n 2), some (.iload_n 2), some (.ifCond .eq 17), none, none, some (.aload_n 0), some (.iconst 4)],
  [some (.iconst 3), some (.aload_n 0), some (.getfield 173), none, none, some (.lconst 0), some (.invokevirtual 110), none, none, some (.goto 4), none, none, some (.iconst (-1)), some (.ireturn), some (.iload_n 1), some (.bipush 39)],
  [none, some (.if_icmp .ne 28), none, none, some (.aload_n 0), some (.invokevirtual 189), none, none, some (.istore_n 2), some (.iload_n 2), some (.ifCond .eq 17), none, none, some (.aload_n 0), some (.iconst 4), some (.iconst 4)],
  [some (.iconst 0), some (.aload_n 0), some (.getfield 158), none, none, some (.invokevirtual 110), none, none, some (.goto 4), none, none, some (.iconst (-1)), some (.ireturn), some (.aload_n 0), some (.aload_n 0), some (.getfield 145)],
  [none, none, some (.invokevirtual 155), none, none, some (.iconst (-1)), some (.ireturn)]]
set_option maxRecDepth 100000 in
theorem ck_222 : jw_chk prog_15_method_25_code cd_222 = true := by decide +kernel
def cd_223 : List (List (Option Instr)) := [[some (.aload_n 0), some (.invokevirtual 151), none, none, some (.bipush 45), none, some (.if_icmp .eq 13), none, none, some (.aload_n 0), some (.invokevirtual 151), none, none, some (.invokestatic 176), none, none],
  [some (.ifCond .eq 7), none, none, some (.iconst 1), some (.goto 4), none, none, some (.iconst 0), some (.ireturn)]]
set_option maxRecDepth 100000 in
theorem ck_223 : jw_chk prog_15_method_24_code cd_223 = true := by decide +kernel
def cd_224 : List (List (Option Instr)) := [[some (.iload_n 0), some (.bipush 48), none, some (.if_icmp .lt 13), none, none, some (.iload_n 0), some (.bipush 57), none, some (.if_icmp .gt 7), none, none, some (.iconst 1), some (.goto 4), none, none],
  [some (.iconst 0), some (.ireturn)]]
set_option maxRecDepth 100000 in
theorem ck_224 : jw_chk prog_15_method_15_code cd_224 = true := by decide +kernel
def cd_225 : List (List (Option Instr)) := [[some (.aload_n 0), some (.bipush 45), none, some (.invokevirtual 170), none, none, some (.istore_n 1), some (.iconst 0), some (.istore_n 2), some (.aload_n 0), some (.iconst 0), some (.putfield 173), none, none, some (.aload_n 0), some (.invokevirtual 151)],
  [none, none, some (.invokestatic 176), none, none, some (.ifCond .ne 13), none, none, some (.aload_n 0), some (.aload_n 0), some (.getfield 145), none, none, some (.invokevirtual 155), none, none],
  [some (.iconst 0), some (.ireturn), some (.aload_n 0), some (.invokevirtual 151), none, none, some (.invokestatic 176), none, none, some (.ifCond .eq 54), none, none, some (.iload_n 2), some (.bipush 6), none, some (.if_icmp .ne 13)],
  [none, none, some (.aload_n 0), some (.aload_n 0), some (.getfield 145), none, none, some (.invokevirtual 155), none, none, some (.iconst 0), some (.ireturn), some (.aload_n 0), some (.bipush 10), none, some (.aload_n 0)],
  [some (.getfield 173), none, none, some (.imul), some (.aload_n 0), some (.invokevirtual 151), none, none, some (.iadd), some (.bipush 48), none, some (.isub), some (.putfield 173), none, none, some (.iinc 2 1)],
  [none, none, some (.aload_n 0), some (.dup), some (.getfield 145), none, none, some (.iconst 1), some (.iadd), some (.putfield 145), none, none, some (.goto (-58)), none, none, some (.aload_n 0)],
  [some (.iload_n 1), some (.ifCond .eq 11), none, none, some (.aload_n 0), some (.getfield 173), none, none, some (.ineg), some (.goto 7), none, none, some (.aload_n 0), some (.getfield 173), none, none],
  [some (.putfield 173), none, none, some (.iconst 1), some (.ireturn)]]
set_option maxRecDepth 100000 in
theorem ck_225 : jw_chk prog_15_method_22_code cd_225 = true := by decide +kernel
def cd_226 : List (List (Option Instr)) := [[some (.aload_n 0), some (.invokevirtual 151), none, none, some (.iload_n 1), some (.if_icmp .eq 5), none, none, some (.iconst 0), some (.ireturn), some (.aload_n 0), some (.dup), some (.getfield 145), none, none, some (.iconst 1)],
  [some (.iadd), some (.putfield 145), none, none, some (.iconst 1), some (.ireturn)]]
set_option maxRecDepth 100000 in
theorem ck_226 : jw_chk prog_15_method_20_code cd_226 = true := by decide +kernel
def cd_227 : List (List (Option Instr)) := [[some (.aload_n 0), some (.lconst 0), some (.putfield 158), none, none, some (.iconst 0), some (.istore_n 1), some (.aload_n 0), some (.dup), some (.getfield 145), none, none, some (.iconst 1), some (.iadd), some (.putfield 145), none],
  [none, some (.aload_n 0), some (.invokevirtual 151), none, none, some (.iconst (-1)), some (.if_icmp .eq 60), none, none, some (.aload_n 0), some (.invokevirtual 151), none, none, some (.bipush 39), none, some (.if_icmp .eq 51)],
  [none, none, some (.iload_n 1), some (.bipush 7), none, some (.if_icmp .ne 13), none, none, some (.aload_n 0), some (.aload_n 0), some (.getfield 145), none, none, some (.invokevirtual 155), none, none],
  [some (.iconst 0), some (.ireturn), some (.aload_n 0), some (.aload_n 0), some (.getfield 158), none, none, some (.iload_n 1), some (.aload_n 0), some (.invokevirtual 151), none, none, some (.invokestatic 166), none, none, some (.putfield 158)],
  [none, none, some (.iinc 1 1), none, none, some (.aload_n 0), some (.dup), some (.getfield 145), none, none, some (.iconst 1), some (.iadd), some (.putfield 145), none, none, some (.goto (-62))],
  [none, none, some (.aload_n 0), some (.bipush 39), none, some (.invokevirtual 179), none, none, some (.ireturn)]]
set_option maxRecDepth 100000 in
theorem ck_227 : jw_chk prog_15_method_23_code cd_227 = true := by decide +kernel
def cd_228 : List (List (Option Instr)) := [[some (.aload_n 0), some (.getfield 80), none, none, some (.iload_n 1), some (.iaload), some (.istore_n 3), some (.aload_n 0), some (.getfield 13), none, none, some (.iload_n 3), some (.iaload), some (.bipush 6), none, some (.if_icmp .ne 55)],
  [none, none, some (.aload_n 0), some (.getfield 23), none, none, some (.iload_n 3), some (.iaload), some (.istore 4), none, some (.iload 4), none, some (.iconst (-1)), some (.if_icmp .eq 41), none, none],
  [some (.aload_n 0), some (.getfield 32), none, none, some (.iload 4), none, some (.laload), some (.aload_n 0), some (.getfield 86), none, none, some (.iload_n 1), some (.laload), some (.lcmp), some (.ifCond .ne 12), none],
  [none, some (.aload_n 0), some (.getfield 29), none, none, some (.iload 4), none, some (.iload_n 2), some (.iastore), some (.return_), some (.aload_n 0), some (.getfield 35), none, none, some (.iload 4), none],
  [some (.iaload), some (.istore 4), none, some (.goto (-41)), none, none, some (.aload_n 0), some (.iconst 4), some (.iload_n 3), some (.aload_n 0), some (.getfield 83), none, none, some (.iload_n 1), some (.iaload), some (.iload_n 2)],
  [some (.aload_n 0), some (.getfield 86), none, none, some (.iload_n 1), some (.laload), some (.invokevirtual 128), none, none, some (.istore 4), none, some (.aload_n 0), some (.getfield 83), none, none, some (.iload_n 1)],
  [some (.iload 4), none, some (.iastore), some (.return_)]]
set_option maxRecDepth 100000 in
theorem ck_228 : jw_chk prog_15_method_26_code cd_228 = true := by decide +kernel
def cd_229 : List (List (Option Instr)) := [[some (.sipush 170), none, none, some (.iload_n 1), some (.imul), some (.aload_n 0), some (.getfield 41), none, none, some (.iload_n 1), some (.iaload), some (.iadd), some (.istore 7), none, some (.aload_n 0), some (.getfield 41)],
  [none, none, some (.iload_n 1), some (.dup2), some (.iaload), some (.iconst 1), some (.iadd), some (.iastore), some (.aload_n 0), some (.getfield 29), none, none, some (.iload 7), none, some (.iload 4), none],
  [some (.iastore), some (.aload_n 0), some (.getfield 32), none, none, some (.iload 7), none, some (.lload 5), none, some (.lastore), some (.aload_n 0), some (.getfield 35), none, none, some (.iload 7), none],
  [some (.iconst (-1)), some (.iastore), some (.iload_n 3), some (.iconst (-1)), some (.if_icmp .ne 14), none, none, some (.aload_n 0), some (.getfield 23), none, none, some (.iload_n 2), some (.iload 7), none, some (.iastore), some (.goto 11)],
  [none, none, some (.aload_n 0), some (.getfield 35), none, none, some (.iload_n 3), some (.iload 7), none, some (.iastore), some (.aload_n 0), some (.getfield 26), none, none, some (.iload_n 2), some (.dup2)],
  [some (.iaload), some (.iconst 1), some (.iadd), some (.iastore), some (.iload 7), none, some (.ireturn)]]
set_option maxRecDepth 100000 in
theorem ck_229 : jw_chk prog_15_method_4_code cd_229 = true := by decide +kernel
def cd_230 : List (List (Option Instr)) := [[some (.aload_n 0), some (.iload_n 2), some (.invokevirtual 124), none, none, some (.aload_n 0), some (.iload_n 2), some (.aload_n 0), some (.getfield 13), none, none, some (.iload_n 1), some (.iaload), some (.aload_n 0), some (.getfield 16), none],
  [none, some (.iload_n 1), some (.iaload), some (.aload_n 0), some (.getfield 19), none, none, some (.iload_n 1), some (.laload), some (.invokevirtual 110), none, none, some (.istore_n 3), some (.aload_n 0), some (.getfield 101), none],
  [none, some (.iconst 0), some (.iload_n 1), some (.iastore), some (.aload_n 0), some (.getfield 104), none, none, some (.iconst 0), some (.iload_n 3), some (.iastore), some (.iconst 1), some (.istore 4), none, some (.iconst 0), some (.istore 5)],
  [none, some (.iload 5), none, some (.iload 4), none, some (.if_icmp .ge 127), none, none, some (.iconst (-1)), some (.istore 6), none, some (.aload_n 0), some (.getfield 23), none, none, some (.aload_n 0)],
  [some (.getfield 101), none, none, some (.iload 5), none, some (.iaload), some (.iaload), some (.istore 7), none, some (.iload 7), none, some (.iconst (-1)), some (.if_icmp .eq 98), none, none, some (.aload_n 0)],
  [some (.getfield 29), none, none, some (.iload 7), none, some (.iaload), some (.istore 8), none, some (.aload_n 0), some (.iload_n 2), some (.aload_n 0), some (.getfield 13), none, none, some (.iload 8), none],
  [some (.iaload), some (.aload_n 0), some (.getfield 16), none, none, some (.iload 8), none, some (.iaload), some (.aload_n 0), some (.getfield 19), none, none, some (.iload 8), none, some (.laload), some (.invokevirtual 110)],
  [none, none, some (.istore 9), none, some (.aload_n 0), some (.iload_n 2), some (.aload_n 0), some (.getfield 104), none, none, some (.iload 5), none, some (.iaload), some (.iload 6), none, some (.iload 9)],
  [none, some (.aload_n 0), some (.getfield 32), none, none, some (.iload 7), none, some (.laload), some (.invokevirtual 128), none, none, some (.istore 6), none, some (.aload_n 0), some (.getfield 101), none],
  [none, some (.iload 4), none, some (.iload 8), none, some (.iastore), some (.aload_n 0), some (.getfield 104), none, none, some (.iload 4), none, some (.iload 9), none, some (.iastore), some (.iinc 4 1)],
  [none, none, some (.aload_n 0), some (.getfield 35), none, none, some (.iload 7), none, some (.iaload), some (.istore 7), none, some (.goto (-98)), none, none, some (.iinc 5 1), none],
  [none, some (.goto (-128)), none, none, some (.iload_n 3), some (.ireturn)]]
set_option maxRecDepth 100000 in
theorem ck_230 : jw_chk prog_15_method_6_code cd_230 = true := by decide +kernel
def cd_231 : List (List (Option Instr)) := [[some (.aload_n 0), some (.getfield 101), none, none, some (.iconst 0), some (.iload_n 1), some (.iastore), some (.iconst 1), some (.istore_n 2), some (.iconst 0), some (.istore_n 3), some (.iload_n 3), some (.iload_n 2), some (.if_icmp .ge 56), none, none],
  [some (.aload_n 0), some (.getfield 23), none, none, some (.aload_n 0), some (.getfield 101), none, none, some (.iload_n 3), some (.iaload), some (.iaload), some (.istore 4), none, some (.iload 4), none, some (.iconst (-1))],
  [some (.if_icmp .eq 31), none, none, some (.aload_n 0), some (.getfield 101), none, none, some (.iload_n 2), some (.aload_n 0), some (.getfield 29), none, none, some (.iload 4), none, some (.iaload), some (.iastore)],
  [some (.iinc 2 1), none, none, some (.aload_n 0), some (.getfield 35), none, none, some (.iload 4), none, some (.iaload), some (.istore 4), none, some (.goto (-31)), none, none, some (.iinc 3 1)],
  [none, none, some (.goto (-55)), none, none, some (.iload_n 2), some (.ireturn)]]
set_option maxRecDepth 100000 in
theorem ck_231 : jw_chk prog_15_method_7_code cd_231 = true := by decide +kernel
def cd_232 : List (List (Option Instr)) := [[some (.aload_n 0), some (.aload_n 0), some (.getfield 219), none, none, some (.bipush 12), none, some (.if_icmp .ne 7), none, none, some (.iconst 1), some (.goto 4), none, none, some (.iconst 0), some (.putfield 121)],
  [none, none, some (.aload_n 0), some (.getfield 121), none, none, some (.ifCond .le 5), none, none, some (.iconst 0), some (.ireturn), some (.aload_n 0), some (.invokevirtual 205), none, none, some (.aload_n 0)],
  [some (.iconst 0), some (.putfield 222), none, none, some (.aload_n 0), some (.getfield 44), none, none, some (.aload_n 0), some (.getfield 219), none, none, some (.iconst 0), some (.iastore), some (.iconst 1), some (.istore_n 1)],
  [some (.iload_n 1), some (.ifCond .eq 84), none, none, some (.aload_n 0), some (.getfield 148), none, none, some (.ifCond .ne 77), none, none, some (.aload_n 0), some (.invokevirtual 258), none, none, some (.istore_n 2)],
  [some (.iload_n 2), some (.ifCond .eq 35), none, none, some (.aload_n 0), some (.getfield 148), none, none, some (.ifCond .ne 28), none, none, some (.aload_n 0), some (.invokevirtual 151), none, none, some (.bipush 46)],
  [none, some (.if_icmp .eq 12), none, none, some (.aload_n 0), some (.invokevirtual 151), none, none, some (.bipush 91), none, some (.if_icmp .ne 10), none, none, some (.aload_n 0), some (.invokevirtual 261), none],
  [none, some (.goto (-33)), none, none, some (.aload_n 0), some (.bipush 7), none, some (.lconst 0), some (.iconst 0), some (.invokevirtual 233), none, none, some (.aload_n 0), some (.getfield 148), none, none],
  [some (.ifCond .ne 16), none, none, some (.aload_n 0), some (.bipush 124), none, some (.invokevirtual 170), none, none, some (.ifCond .eq 7), none, none, some (.iconst 1), some (.goto 4), none, none],
  [some (.iconst 0), some (.istore_n 1), some (.goto (-82)), none, none, some (.aload_n 0), some (.getfield 148), none, none, some (.ifCond .ne 22), none, none, some (.aload_n 0), some (.getfield 145), none, none],
  [some (.aload_n 0), some (.getfield 142), none, none, some (.if_icmp .ge 11), none, none, some (.aload_n 0), some (.aload_n 0), some (.getfield 145), none, none, some (.invokevirtual 155), none, none, some (.aload_n 0)],
  [some (.iconst 0), some (.putfield 142), none, none, some (.aload_n 0), some (.getfield 148), none, none, some (.ifCond .ge 8), none, none, some (.aload_n 0), some (.getfield 148), none, none, some (.ireturn)],
  [some (.aload_n 0), some (.dup), some (.getfield 219), none, none, some (.iconst 1), some (.iadd), some (.putfield 219), none, none, some (.aload_n 0), some (.getfield 219), none, none, some (.iconst 1), some (.isub)],
  [some (.ireturn)]]
set_option maxRecDepth 100000 in
theorem ck_232 : jw_chk prog_15_method_43_code cd_232 = true := by decide +kernel
def cd_233 : List (List (Option Instr)) := [[some (.aload_n 0), some (.getfield 145), none, none, some (.istore_n 1), some (.aload_n 0), some (.invokevirtual 151), none, none, some (.invokestatic 162), none, none, some (.ifCond .eq 53), none, none, some (.aload_n 0)],
  [some (.invokevirtual 192), none, none, some (.ifCond .ne 5), none, none, some (.iconst 0), some (.ireturn), some (.aload_n 0), some (.invokevirtual 151), none, none, some (.bipush 40), none, some (.if_icmp .ne 10), none],
  [none, some (.aload_n 0), some (.iload_n 1), some (.invokevirtual 237), none, none, some (.iconst 0), some (.ireturn), some (.aload_n 0), some (.iload_n 1), some (.invokevirtual 240), none, none, some (.ifCond .eq 18), none, none],
  [some (.aload_n 0), some (.iconst 0), some (.aload_n 0), some (.getfield 158), none, none, some (.aload_n 0), some (.getfield 222), none, none, some (.iconst 1), some (.isub), some (.invokevirtual 233), none, none, some (.iconst 1)],
  [some (.ireturn), some (.aload_n 0), some (.invokevirtual 151), none, none, some (.bipush 91), none, some (.if_icmp .ne 9), none, none, some (.aload_n 0), some (.invokevirtual 243), none, none, some (.iconst 1), some (.ireturn)],
  [some (.aload_n 0), some (.bipush 64), none, some (.invokevirtual 179), none, none, some (.ireturn)]]
set_option maxRecDepth 100000 in
theorem ck_233 : jw_chk prog_15_method_36_code cd_233 = true := by decide +kernel
def cd_234 : List (List (Option Instr)) := [[some (.aload_n 0), some (.getfield 158), none, none, some (.invokestatic 229), none, none, some (.istore_n 2), some (.iload_n 2), some (.iconst (-1)), some (.if_icmp .ne 9), none, none, some (.aload_n 0), some (.iload_n 1), some (.invokevirtual 155)],
  [none, none, some (.return_), some (.aload_n 0), some (.dup), some (.getfield 145), none, none, some (.iconst 1), some (.iadd), some (.putfield 145), none, none, some (.lconst 0), some (.lstore_n 3), some (.aload_n 0)],
  [some (.invokevirtual 151), none, none, some (.invokestatic 162), none, none, some (.ifCond .eq 34), none, none, some (.iload_n 2), some (.iconst 3), some (.if_icmp .eq 12), none, none, some (.aload_n 0), some (.aload_n 0)],
  [some (.getfield 145), none, none, some (.invokevirtual 155), none, none, some (.return_), some (.aload_n 0), some (.invokevirtual 192), none, none, some (.istore 5), none, some (.aload_n 0), some (.getfield 158), none],
  [none, some (.lstore_n 3), some (.iload 5), none, some (.ifCond .ne 4), none, none, some (.return_), some (.aload_n 0), some (.bipush 41), none, some (.invokevirtual 179), none, none, some (.ifCond .eq 13), none],
  [none, some (.aload_n 0), some (.bipush 20), none, some (.iload_n 2), some (.iadd), some (.lload_n 3), some (.iconst 0), some (.invokevirtual 233), none, none, some (.return_)]]
set_option maxRecDepth 100000 in
theorem ck_234 : jw_chk prog_15_method_35_code cd_234 = true := by decide +kernel
def cd_235 : List (List (Option Instr)) := [[some (.lload_n 0), some (.bipush 108), none, some (.bipush 101), none, some (.bipush 110), none, some (.bipush 103), none, some (.bipush 116), none, some (.bipush 104), none, some (.iconst 0), some (.invokestatic 225), none],
  [none, some (.lcmp), some (.ifCond .ne 7), none, none, some (.iconst 0), some (.goto 75), none, none, some (.lload_n 0), some (.bipush 107), none, some (.bipush 101), none, some (.bipush 121), none],
  [some (.bipush 115), none, some (.iconst 0), some (.iconst 0), some (.iconst 0), some (.invokestatic 225), none, none, some (.lcmp), some (.ifCond .ne 7), none, none, some (.iconst 1), some (.goto 52), none, none],
  [some (.lload_n 0), some (.bipush 118), none, some (.bipush 97), none, some (.bipush 108), none, some (.bipush 117), none, some (.bipush 101), none, some (.bipush 115), none, some (.iconst 0), some (.invokestatic 225), none],
  [none, some (.lcmp), some (.ifCond .ne 7), none, none, some (.iconst 2), some (.goto 27), none, none, some (.lload_n 0), some (.bipush 115), none, some (.bipush 111), none, some (.bipush 114), none],
  [some (.bipush 116), none, some (.iconst 0), some (.iconst 0), some (.iconst 0), some (.invokestatic 225), none, none, some (.lcmp), some (.ifCond .ne 7), none, none, some (.iconst 3), some (.goto 4), none, none],
  [some (.iconst (-1)), some (.istore_n 2), some (.lload_n 0), some (.bipush 114), none, some (.bipush 101), none, some (.bipush 118), none, some (.bipush 101), none, some (.bipush 114), none, some (.bipush 115), none, some (.bipush 101)],
  [none, some (.invokestatic 225), none, none, some (.lcmp), some (.ifCond .ne 7), none, none, some (.iconst 4), some (.goto 72), none, none, some (.lload_n 0), some (.bipush 115), none, some (.bipush 117)],
  [none, some (.bipush 109), none, some (.iconst 0), some (.iconst 0), some (.iconst 0), some (.iconst 0), some (.invokestatic 225), none, none, some (.lcmp), some (.ifCond .ne 7), none, none, some (.iconst 5), some (.goto 50)],
  [none, none, some (.lload_n 0), some (.bipush 109), none, some (.bipush 97), none, some (.bipush 120), none, some (.iconst 0), some (.iconst 0), some (.iconst 0), some (.iconst 0), some (.invokestatic 225), none, none],
  [some (.lcmp), some (.ifCond .ne 8), none, none, some (.bipush 6), none, some (.goto 27), none, none, some (.lload_n 0), some (.bipush 109), none, some (.bipush 105), none, some (.bipush 110), none],
  [some (.iconst 0), some (.iconst 0), some (.iconst 0), some (.iconst 0), some (.invokestatic 225), none, none, some (.lcmp), some (.ifCond .ne 8), none, none, some (.bipush 7), none, some (.goto 4), none, none],
  [some (.iconst (-1)), some (.istore_n 3), some (.iload_n 2), some (.iconst (-1)), some (.if_icmp .eq 7), none, none, some (.iload_n 2), some (.goto 37), none, none, some (.iload_n 3), some (.iconst (-1)), some (.if_icmp .eq 7), none, none],
  [some (.iload_n 3), some (.goto 28), none, none, some (.lload_n 0), some (.bipush 116), none, some (.bipush 121), none, some (.bipush 112), none, some (.bipush 101), none, some (.iconst 0), some (.iconst 0), some (.iconst 0)],
  [some (.invokestatic 225), none, none, some (.lcmp), some (.ifCond .ne 8), none, none, some (.bipush 8), none, some (.goto 4), none, none, some (.iconst (-1)), some (.ireturn)]]
set_option maxRecDepth 100000 in
theorem ck_235 : jw_chk prog_15_method_34_code cd_235 = true := by decide +kernel
def cd_236 : List (List (Option Instr)) := [[some (.lconst 0), some (.iconst 0), some (.iload_n 0), some (.invokestatic 166), none, none, some (.iconst 1), some (.iload_n 1), some (.invokestatic 166), none, none, some (.iconst 2), some (.iload_n 2), some (.invokestatic 166), none, none],
  [some (.lstore 7), none, some (.lload 7), none, some (.iconst 3), some (.iload_n 3), some (.invokestatic 166), none, none, some (.iconst 4), some (.iload 4), none, some (.invokestatic 166), none, none, some (.iconst 5)],
  [some (.iload 5), none, some (.invokestatic 166), none, none, some (.bipush 6), none, some (.iload 6), none, some (.invokestatic 166), none, none, some (.lreturn)]]
set_option maxRecDepth 100000 in
theorem ck_236 : jw_chk prog_15_method_33_code cd_236 = true := by decide +kernel
def cd_237 : List (List (Option Instr)) := [[some (.bipush 100), none, some (.aload_n 0), some (.getfield 219), none, none, some (.imul), some (.aload_n 0), some (.getfield 44), none, none, some (.aload_n 0), some (.getfield 219), none, none, some (.iaload)],
  [some (.iadd), some (.istore 5), none, some (.aload_n 0), some (.getfield 47), none, none, some (.iload 5), none, some (.iload_n 1), some (.iastore), some (.aload_n 0), some (.getfield 50), none, none, some (.iload 5)],
  [none, some (.lload_n 2), some (.lastore), some (.aload_n 0), some (.getfield 53), none, none, some (.iload 5), none, some (.iload 4), none, some (.iastore), some (.aload_n 0), some (.getfield 44), none, none],
  [some (.aload_n 0), some (.getfield 219), none, none, some (.dup2), some (.iaload), some (.iconst 1), some (.iadd), some (.iastore), some (.return_)]]
set_option maxRecDepth 100000 in
theorem ck_237 : jw_chk prog_15_method_31_code cd_237 = true := by decide +kernel
def cd_238 : List (List (Option Instr)) := [[some (.aload_n 0), some (.getfield 222), none, none, some (.bipush 12), none, some (.if_icmp .ne 10), none, none, some (.aload_n 0), some (.iload_n 1), some (.invokevirtual 155), none, none, some (.iconst 0), some (.ireturn)],
  [some (.aload_n 0), some (.dup), some (.getfield 222), none, none, some (.iconst 1), some (.iadd), some (.putfield 222), none, none, some (.iconst 1), some (.ireturn)]]
set_option maxRecDepth 100000 in
theorem ck_238 : jw_chk prog_15_method_32_code cd_238 = true := by decide +kernel
def cd_239 : List (List (Option Instr)) := [[some (.aload_n 0), some (.aload_n 0), some (.getfield 145), none, none, some (.invokevirtual 240), none, none, some (.ifCond .ne 4), none, none, some (.return_), some (.aload_n 0), some (.dup), some (.getfield 145), none],
  [none, some (.iconst 1), some (.iadd), some (.putfield 145), none, none, some (.bipush 12), none, some (.aload_n 0), some (.getfield 219), none, none, some (.imul), some (.aload_n 0), some (.getfield 222), none],
  [none, some (.iadd), some (.iconst 1), some (.isub), some (.istore_n 1), some (.aload_n 0), some (.getfield 56), none, none, some (.iload_n 1), some (.iconst 0), some (.iastore), some (.aload_n 0), some (.getfield 65), none, none],
  [some (.iconst 2), some (.iload_n 1), some (.imul), some (.iconst 0), some (.iastore), some (.aload_n 0), some (.getfield 65), none, none, some (.iconst 2), some (.iload_n 1), some (.imul), some (.iconst 1), some (.iadd), some (.iconst 0), some (.iastore)],
  [some (.aload_n 0), some (.bipush 93), none, some (.invokevirtual 170), none, none, some (.ifCond .eq 14), none, none, some (.aload_n 0), some (.bipush 6), none, some (.lconst 0), some (.iload_n 1), some (.invokevirtual 233), none],
  [none, some (.goto 53), none, none, some (.aload_n 0), some (.bipush 42), none, some (.invokevirtual 170), none, none, some (.ifCond .eq 22), none, none, some (.aload_n 0), some (.bipush 93), none],
  [some (.invokevirtual 179), none, none, some (.ifCond .eq 35), none, none, some (.aload_n 0), some (.iconst 2), some (.lconst 0), some (.iload_n 1), some (.invokevirtual 233), none, none, some (.goto 25), none, none],
  [some (.aload_n 0), some (.bipush 63), none, some (.invokevirtual 170), none, none, some (.ifCond .eq 11), none, none, some (.aload_n 0), some (.iload_n 1), some (.invokevirtual 246), none, none, some (.goto 8), none],
  [none, some (.aload_n 0), some (.iload_n 1), some (.invokevirtual 249), none, none, some (.return_)]]
set_option maxRecDepth 100000 in
theorem ck_239 : jw_chk prog_15_method_38_code cd_239 = true := by decide +kernel
def cd_240 : List (List (Option Instr)) := [[some (.aload_n 0), some (.iconst 2), some (.iload_n 1), some (.imul), some (.invokevirtual 252), none, none, some (.aload_n 0), some (.getfield 148), none, none, some (.ifCond .ge 4), none, none, some (.return_), some (.aload_n 0)],
  [some (.invokevirtual 151), none, none, some (.istore_n 2), some (.aload_n 0), some (.getfield 62), none, none, some (.iload_n 1), some (.iconst 0), some (.iastore), some (.iload_n 2), some (.bipush 61), none, some (.if_icmp .eq 21), none],
  [none, some (.iload_n 2), some (.bipush 33), none, some (.if_icmp .eq 15), none, none, some (.iload_n 2), some (.bipush 60), none, some (.if_icmp .eq 9), none, none, some (.iload_n 2), some (.bipush 62), none],
  [some (.if_icmp .ne 108), none, none, some (.aload_n 0), some (.dup), some (.getfield 145), none, none, some (.iconst 1), some (.iadd), some (.putfield 145), none, none, some (.aload_n 0), some (.bipush 61), none],
  [some (.invokevirtual 170), none, none, some (.istore_n 3), some (.iload_n 3), some (.ifCond .ne 24), none, none, some (.iload_n 2), some (.bipush 61), none, some (.if_icmp .eq 9), none, none, some (.iload_n 2), some (.bipush 33)],
  [none, some (.if_icmp .ne 12), none, none, some (.aload_n 0), some (.aload_n 0), some (.getfield 145), none, none, some (.invokevirtual 155), none, none, some (.return_), some (.aload_n 0), some (.getfield 62), none],
  [none, some (.iload_n 1), some (.iload_n 2), some (.bipush 61), none, some (.if_icmp .ne 7), none, none, some (.iconst 1), some (.goto 41), none, none, some (.iload_n 2), some (.bipush 33), none, some (.if_icmp .ne 7)],
  [none, none, some (.iconst 2), some (.goto 31), none, none, some (.iload_n 2), some (.bipush 60), none, some (.if_icmp .ne 15), none, none, some (.iload_n 3), some (.ifCond .eq 7), none, none],
  [some (.iconst 3), some (.goto 17), none, none, some (.iconst 5), some (.goto 13), none, none, some (.iload_n 3), some (.ifCond .eq 7), none, none, some (.iconst 4), some (.goto 5), none, none],
  [some (.bipush 6), none, some (.iastore), some (.aload_n 0), some (.iconst 2), some (.iload_n 1), some (.imul), some (.iconst 1), some (.iadd), some (.invokevirtual 252), none, none, some (.aload_n 0), some (.getfield 148), none, none],
  [some (.ifCond .ne 19), none, none, some (.aload_n 0), some (.bipush 93), none, some (.invokevirtual 179), none, none, some (.ifCond .eq 10), none, none, some (.aload_n 0), some (.iconst 4), some (.lconst 0), some (.iload_n 1)],
  [some (.invokevirtual 233), none, none, some (.return_)]]
set_option maxRecDepth 100000 in
theorem ck_240 : jw_chk prog_15_method_40_code cd_240 = true := by decide +kernel
