/-! instructions of the methods, as decoded (printed by program: gen2.py) -/
def cd_241 : List (List (Option Instr)) := [[some (.aload_n 0), some (.getfield 68), none, none, some (.iload_n 1), some (.iconst 0), some (.iastore), some (.aload_n 0), some (.invokevirtual 182), none, none, some (.ifCond .eq 36), none, none, some (.aload_n 0), some (.getfield 65)],
  [none, none, some (.iload_n 1), some (.iconst 2), some (.iastore), some (.aload_n 0), some (.invokevirtual 186), none, none, some (.istore_n 2), some (.aload_n 0), some (.getfield 74), none, none, some (.iload_n 1), some (.iload_n 2)],
  [some (.ifCond .eq 10), none, none, some (.aload_n 0), some (.getfield 173), none, none, some (.goto 4), none, none, some (.iconst 0), some (.iastore), some (.goto 125), none, none, some (.aload_n 0)],
  [some (.invokevirtual 151), none, none, some (.bipush 39), none, some (.if_icmp .ne 36), none, none, some (.aload_n 0), some (.getfield 65), none, none, some (.iload_n 1), some (.iconst 3), some (.iastore), some (.aload_n 0)],
  [some (.invokevirtual 189), none, none, some (.istore_n 2), some (.aload_n 0), some (.getfield 77), none, none, some (.iload_n 1), some (.iload_n 2), some (.ifCond .eq 10), none, none, some (.aload_n 0), some (.getfield 158), none],
  [none, some (.goto 4), none, none, some (.lconst 0), some (.lastore), some (.goto 83), none, none, some (.aload_n 0), some (.getfield 65), none, none, some (.iload_n 1), some (.iconst 1), some (.iastore)],
  [some (.aload_n 0), some (.bipush 64), none, some (.invokevirtual 170), none, none, some (.ifCond .ne 8), none, none, some (.aload_n 0), some (.iload_n 1), some (.invokevirtual 255), none, none, some (.aload_n 0), some (.getfield 148)],
  [none, none, some (.ifCond .ne 55), none, none, some (.aload_n 0), some (.invokevirtual 151), none, none, some (.bipush 46), none, some (.if_icmp .ne 46), none, none, some (.aload_n 0), some (.dup)],
  [some (.getfield 145), none, none, some (.iconst 1), some (.iadd), some (.putfield 145), none, none, some (.aload_n 0), some (.getfield 68), none, none, some (.iload_n 1), some (.iaload), some (.iconst 3), some (.if_icmp .ne 11)],
  [none, none, some (.aload_n 0), some (.aload_n 0), some (.getfield 145), none, none, some (.invokevirtual 155), none, none, some (.aload_n 0), some (.getfield 148), none, none, some (.ifCond .ne (-48)), none],
  [none, some (.aload_n 0), some (.iload_n 1), some (.invokevirtual 255), none, none, some (.goto (-56)), none, none, some (.return_)]]
set_option maxRecDepth 100000 in
theorem ck_241 : jw_chk prog_15_method_41_code cd_241 = true := by decide +kernel
def cd_242 : List (List (Option Instr)) := [[some (.aload_n 0), some (.invokevirtual 192), none, none, some (.ifCond .eq 32), none, none, some (.aload_n 0), some (.getfield 71), none, none, some (.iconst 3), some (.iload_n 1), some (.imul), some (.aload_n 0), some (.getfield 68)],
  [none, none, some (.iload_n 1), some (.iaload), some (.iadd), some (.aload_n 0), some (.getfield 158), none, none, some (.lastore), some (.aload_n 0), some (.getfield 68), none, none, some (.iload_n 1), some (.dup2)],
  [some (.iaload), some (.iconst 1), some (.iadd), some (.iastore), some (.return_)]]
set_option maxRecDepth 100000 in
theorem ck_242 : jw_chk prog_15_method_42_code cd_242 = true := by decide +kernel
def cd_243 : List (List (Option Instr)) := [[some (.iconst 0), some (.istore_n 2), some (.iconst 1), some (.istore_n 3), some (.iload_n 3), some (.ifCond .eq 124), none, none, some (.aload_n 0), some (.getfield 148), none, none, some (.ifCond .ne 117), none, none, some (.aload_n 0)],
  [some (.getfield 145), none, none, some (.istore 4), none, some (.aload_n 0), some (.invokevirtual 182), none, none, some (.ifCond .eq 62), none, none, some (.aload_n 0), some (.invokevirtual 186), none, none],
  [some (.istore 5), none, some (.aload_n 0), some (.getfield 59), none, none, some (.iconst 3), some (.iload_n 1), some (.imul), some (.iload_n 2), some (.iadd), some (.aload_n 0), some (.getfield 173), none, none, some (.iastore)],
  [some (.aload_n 0), some (.getfield 56), none, none, some (.iload_n 1), some (.aload_n 0), some (.getfield 56), none, none, some (.iload_n 1), some (.iaload), some (.iconst 1), some (.iload_n 2), some (.ishl), some (.ior), some (.iastore)],
  [some (.iload 5), none, some (.ifCond .eq 21), none, none, some (.iload_n 2), some (.iconst 2), some (.if_icmp .ne 16), none, none, some (.aload_n 0), some (.getfield 173), none, none, some (.ifCond .ne 9), none],
  [none, some (.aload_n 0), some (.iload 4), none, some (.invokevirtual 155), none, none, some (.aload_n 0), some (.getfield 148), none, none, some (.ifCond .ne 21), none, none, some (.iload_n 2), some (.iconst 2)],
  [some (.if_icmp .ge 16), none, none, some (.aload_n 0), some (.bipush 58), none, some (.invokevirtual 170), none, none, some (.ifCond .eq 7), none, none, some (.iconst 1), some (.goto 4), none, none],
  [some (.iconst 0), some (.istore_n 3), some (.iload_n 2), some (.iload_n 3), some (.ifCond .eq 7), none, none, some (.iconst 1), some (.goto 4), none, none, some (.iconst 0), some (.iadd), some (.istore_n 2), some (.goto (-122)), none],
  [none, some (.iload_n 2), some (.ifCond .ne 20), none, none, some (.aload_n 0), some (.getfield 56), none, none, some (.iload_n 1), some (.iaload), some (.ifCond .ne 11), none, none, some (.aload_n 0), some (.aload_n 0)],
  [some (.getfield 145), none, none, some (.invokevirtual 155), none, none, some (.aload_n 0), some (.getfield 148), none, none, some (.ifCond .ne 27), none, none, some (.aload_n 0), some (.bipush 93), none],
  [some (.invokevirtual 179), none, none, some (.ifCond .eq 18), none, none, some (.aload_n 0), some (.iload_n 2), some (.ifCond .ne 7), none, none, some (.iconst 1), some (.goto 4), none, none, some (.iconst 5)],
  [some (.lconst 0), some (.iload_n 1), some (.invokevirtual 233), none, none, some (.return_)]]
set_option maxRecDepth 100000 in
theorem ck_243 : jw_chk prog_15_method_39_code cd_243 = true := by decide +kernel
def cd_244 : List (List (Option Instr)) := [[some (.aload_n 0), some (.invokevirtual 151), none, none, some (.bipush 91), none, some (.if_icmp .ne 8), none, none, some (.aload_n 0), some (.invokevirtual 243), none, none, some (.return_), some (.aload_n 0), some (.aload_n 0)],
  [some (.getfield 145), none, none, some (.invokevirtual 240), none, none, some (.ifCond .ne 4), none, none, some (.return_), some (.aload_n 0), some (.dup), some (.getfield 145), none, none, some (.iconst 1)],
  [some (.iadd), some (.putfield 145), none, none, some (.aload_n 0), some (.bipush 42), none, some (.invokevirtual 170), none, none, some (.ifCond .eq 18), none, none, some (.aload_n 0), some (.iconst 3), some (.lconst 0)],
  [some (.aload_n 0), some (.getfield 222), none, none, some (.iconst 1), some (.isub), some (.invokevirtual 233), none, none, some (.goto 25), none, none, some (.aload_n 0), some (.invokevirtual 192), none, none],
  [some (.ifCond .eq 18), none, none, some (.aload_n 0), some (.iconst 0), some (.aload_n 0), some (.getfield 158), none, none, some (.aload_n 0), some (.getfield 222), none, none, some (.iconst 1), some (.isub), some (.invokevirtual 233)],
  [none, none, some (.return_)]]
set_option maxRecDepth 100000 in
theorem ck_244 : jw_chk prog_15_method_37_code cd_244 = true := by decide +kernel
def cd_245 : List (List (Option Instr)) := [[some (.aload_n 0), some (.iload_n 1), some (.ifCond .lt 11), none, none, some (.iload_n 1), some (.aload_n 0), some (.getfield 219), none, none, some (.if_icmp .lt 7), none, none, some (.iconst 1), some (.goto 4), none],
  [none, some (.iconst 0), some (.putfield 121), none, none, some (.aload_n 0), some (.getfield 121), none, none, some (.ifCond .le 5), none, none, some (.iconst 0), some (.ireturn), some (.aload_n 0), some (.iconst 0)],
  [some (.putfield 317), none, none, some (.aload_n 0), some (.getfield 114), none, none, some (.istore_n 2), some (.iconst 2), some (.istore_n 3), some (.bipush 100), none, some (.iload_n 1), some (.imul), some (.istore 4), none],
  [some (.bipush 100), none, some (.iload_n 1), some (.imul), some (.aload_n 0), some (.getfield 44), none, none, some (.iload_n 1), some (.iaload), some (.iadd), some (.istore 5), none, some (.iload 4), none, some (.iload 5)],
  [none, some (.if_icmp .ge 134), none, none, some (.aload_n 0), some (.getfield 317), none, none, some (.ifCond .ne 127), none, none, some (.iload 4), none, some (.istore 6), none, some (.aload_n 0)],
  [some (.getfield 47), none, none, some (.iload 6), none, some (.iaload), some (.bipush 7), none, some (.if_icmp .eq 9), none, none, some (.iinc 6 1), none, none, some (.goto (-15)), none],
  [none, some (.aload_n 0), some (.iconst 4), some (.invokevirtual 124), none, none, some (.aload_n 0), some (.getfield 47), none, none, some (.iload 4), none, some (.iaload), some (.bipush 20), none, some (.if_icmp .lt 28)],
  [none, none, some (.aload_n 0), some (.aload_n 0), some (.getfield 47), none, none, some (.iload 4), none, some (.iaload), some (.bipush 20), none, some (.isub), some (.aload_n 0), some (.getfield 50), none],
  [none, some (.iload 4), none, some (.laload), some (.iload_n 2), some (.invokevirtual 345), none, none, some (.goto 12), none, none, some (.aload_n 0), some (.iload_n 2), some (.iload 4), none, some (.iload 6)],
  [none, some (.invokevirtual 349), none, none, some (.istore 7), none, some (.iload 7), none, some (.iconst (-1)), some (.if_icmp .eq 10), none, none, some (.aload_n 0), some (.getfield 317), none, none],
  [some (.ifCond .le 14), none, none, some (.aload_n 0), some (.iconst 4), some (.iconst 0), some (.iconst 0), some (.lconst 0), some (.invokevirtual 110), none, none, some (.goto 5), none, none, some (.iload 7), none],
  [some (.istore 7), none, some (.aload_n 0), some (.iload 7), none, some (.iload_n 3), some (.invokevirtual 211), none, none, some (.istore_n 2), some (.iconst 5), some (.iload_n 3), some (.isub), some (.istore_n 3), some (.iload 6), none],
  [some (.iconst 1), some (.iadd), some (.istore 4), none, some (.goto (-135)), none, none, some (.aload_n 0), some (.aload_n 0), some (.iload_n 2), some (.iconst 1), some (.invokevirtual 211), none, none, some (.putfield 118), none],
  [none, some (.aload_n 0), some (.getfield 317), none, none, some (.ireturn)]]
set_option maxRecDepth 100000 in
theorem ck_245 : jw_chk prog_15_method_66_code cd_245 = true := by decide +kernel
def cd_246 : List (List (Option Instr)) := [[some (.iload_n 1), some (.aload_n 0), some (.getfield 13), none, none, some (.iload 4), none, some (.iaload), some (.invokestatic 320), none, none, some (.ifCond .ne 10), none, none, some (.aload_n 0), some (.iconst 1)],
  [some (.putfield 317), none, none, some (.iconst (-1)), some (.ireturn), some (.iload_n 1), some (.bipush 8), none, some (.if_icmp .ne 15), none, none, some (.aload_n 0), some (.aload_n 0), some (.getfield 13), none, none],
  [some (.iload 4), none, some (.iaload), some (.invokevirtual 323), none, none, some (.ireturn), some (.iload_n 1), some (.ifCond .ne 42), none, none, some (.aload_n 0), some (.iconst 4), some (.iconst 3), some (.aload_n 0), some (.getfield 13)],
  [none, none, some (.iload 4), none, some (.iaload), some (.iconst 4), some (.if_icmp .ne 16), none, none, some (.aload_n 0), some (.getfield 19), none, none, some (.iload 4), none, some (.laload)],
  [some (.invokestatic 314), none, none, some (.goto 10), none, none, some (.aload_n 0), some (.getfield 26), none, none, some (.iload 4), none, some (.iaload), some (.lconst 0), some (.invokevirtual 110), none],
  [none, some (.ireturn), some (.iload_n 1), some (.iconst 3), some (.if_icmp .ge 20), none, none, some (.aload_n 0), some (.iload 4), none, some (.iload_n 1), some (.iconst 1), some (.if_icmp .ne 7), none, none, some (.iconst 1)],
  [some (.goto 4), none, none, some (.iconst 0), some (.invokevirtual 326), none, none, some (.ireturn), some (.iload_n 1), some (.iconst 4), some (.if_icmp .ne 10), none, none, some (.aload_n 0), some (.iload 4), none],
  [some (.invokevirtual 330), none, none, some (.ireturn), some (.iload_n 1), some (.iconst 5), some (.if_icmp .ne 10), none, none, some (.aload_n 0), some (.iload 4), none, some (.invokevirtual 333), none, none, some (.ireturn)],
  [some (.aload_n 0), some (.iload 4), none, some (.lload_n 2), some (.invokevirtual 336), none, none, some (.istore 5), none, some (.aload_n 0), some (.iload 5), none, some (.iconst (-1)), some (.if_icmp .ne 7), none, none],
  [some (.iconst 2), some (.goto 4), none, none, some (.iconst 0), some (.putfield 317), none, none, some (.aload_n 0), some (.getfield 317), none, none, some (.ifCond .le 7), none, none, some (.iconst (-1))],
  [some (.goto 35), none, none, some (.iload_n 1), some (.iconst 3), some (.if_icmp .ne 13), none, none, some (.aload_n 0), some (.iload 4), none, some (.lload_n 2), some (.invokevirtual 339), none, none, some (.goto 20)],
  [none, none, some (.aload_n 0), some (.iload 4), none, some (.iload_n 1), some (.bipush 6), none, some (.if_icmp .ne 7), none, none, some (.iconst 1), some (.goto 4), none, none, some (.iconst 0)],
  [some (.invokevirtual 342), none, none, some (.ireturn)]]
set_option maxRecDepth 100000 in
theorem ck_246 : jw_chk prog_15_method_65_code cd_246 = true := by decide +kernel
def cd_247 : List (List (Option Instr)) := [[some (.iload_n 0), some (.bipush 8), none, some (.if_icmp .eq 52), none, none, some (.iload_n 0), some (.ifCond .ne 11), none, none, some (.iload_n 1), some (.iconst 4), some (.if_icmp .lt 47), none, none, some (.goto 40)],
  [none, none, some (.iload_n 0), some (.iconst 3), some (.if_icmp .ge 12), none, none, some (.iload_n 1), some (.bipush 6), none, some (.if_icmp .ne 33), none, none, some (.goto 26), none, none],
  [some (.iload_n 0), some (.iconst 4), some (.if_icmp .ne 16), none, none, some (.iload_n 1), some (.iconst 4), some (.if_icmp .eq 16), none, none, some (.iload_n 1), some (.iconst 5), some (.if_icmp .ne 15), none, none, some (.goto 8)],
  [none, none, some (.iload_n 1), some (.iconst 5), some (.if_icmp .ne 7), none, none, some (.iconst 1), some (.goto 4), none, none, some (.iconst 0), some (.ireturn)]]
set_option maxRecDepth 100000 in
theorem ck_247 : jw_chk prog_15_method_64_code cd_247 = true := by decide +kernel
def cd_248 : List (List (Option Instr)) := [[some (.iload_n 1), some (.ifCond .ne 20), none, none, some (.bipush 110), none, some (.bipush 111), none, some (.bipush 110), none, some (.bipush 101), none, some (.iconst 0), some (.iconst 0), some (.iconst 0), some (.invokestatic 225)],
  [none, none, some (.goto 51), none, none, some (.iload_n 1), some (.iconst 3), some (.if_icmp .ge 21), none, none, some (.bipush 116), none, some (.bipush 114), none, some (.bipush 117), none],
  [some (.bipush 116), none, some (.bipush 104), none, some (.iconst 0), some (.iconst 0), some (.invokestatic 225), none, none, some (.goto 28), none, none, some (.iload_n 1), some (.iconst 3), some (.if_icmp .ne 22), none],
  [none, some (.bipush 110), none, some (.bipush 117), none, some (.bipush 109), none, some (.bipush 98), none, some (.bipush 101), none, some (.bipush 114), none, some (.iconst 0), some (.invokestatic 225), none],
  [none, some (.goto 4), none, none, some (.lconst 0), some (.lstore_n 2), some (.iload_n 1), some (.iconst 4), some (.if_icmp .ne 20), none, none, some (.bipush 116), none, some (.bipush 101), none, some (.bipush 120)],
  [none, some (.bipush 116), none, some (.iconst 0), some (.iconst 0), some (.iconst 0), some (.invokestatic 225), none, none, some (.goto 51), none, none, some (.iload_n 1), some (.iconst 5), some (.if_icmp .ne 20), none],
  [none, some (.bipush 108), none, some (.bipush 105), none, some (.bipush 115), none, some (.bipush 116), none, some (.iconst 0), some (.iconst 0), some (.iconst 0), some (.invokestatic 225), none, none, some (.goto 29)],
  [none, none, some (.iload_n 1), some (.bipush 6), none, some (.if_icmp .ne 22), none, none, some (.bipush 111), none, some (.bipush 98), none, some (.bipush 106), none, some (.bipush 101), none],
  [some (.bipush 99), none, some (.bipush 116), none, some (.iconst 0), some (.invokestatic 225), none, none, some (.goto 4), none, none, some (.lload_n 2), some (.lstore_n 2), some (.aload_n 0), some (.iconst 4), some (.iconst 4)],
  [some (.iconst 0), some (.lload_n 2), some (.invokevirtual 110), none, none, some (.ireturn)]]
set_option maxRecDepth 100000 in
theorem ck_248 : jw_chk prog_15_method_63_code cd_248 = true := by decide +kernel
def cd_249 : List (List (Option Instr)) := [[some (.iconst 0), some (.istore_n 2), some (.iload_n 2), some (.bipush 7), none, some (.if_icmp .ge 17), none, none, some (.lload_n 0), some (.iload_n 2), some (.invokestatic 138), none, none, some (.ifCond .le 9), none, none],
  [some (.iinc 2 1), none, none, some (.goto (-17)), none, none, some (.iload_n 2), some (.ireturn)]]
set_option maxRecDepth 100000 in
theorem ck_249 : jw_chk prog_15_method_12_code cd_249 = true := by decide +kernel
def cd_250 : List (List (Option Instr)) := [[some (.iload_n 2), some (.bipush 6), none, some (.if_icmp .le 7), none, none, some (.iconst 0), some (.goto 17), none, none, some (.lload_n 0), some (.bipush 7), none, some (.bipush 6), none, some (.iload_n 2)],
  [some (.isub), some (.imul), some (.lshr), some (.ldc2_w 136), none, none, some (.land), some (.l2i), some (.ireturn)]]
set_option maxRecDepth 100000 in
theorem ck_250 : jw_chk prog_15_method_11_code cd_250 = true := by decide +kernel
def cd_251 : List (List (Option Instr)) := [[some (.iconst 0), some (.istore_n 3), some (.aload_n 0), some (.getfield 23), none, none, some (.iload_n 1), some (.iaload), some (.istore 4), none, some (.iload 4), none, some (.iconst (-1)), some (.if_icmp .eq 56), none, none],
  [some (.iload_n 2), some (.ifCond .eq 20), none, none, some (.aload_n 0), some (.iconst 4), some (.iconst 4), some (.iconst 0), some (.aload_n 0), some (.getfield 32), none, none, some (.iload 4), none, some (.laload), some (.invokevirtual 110)],
  [none, none, some (.goto 10), none, none, some (.aload_n 0), some (.getfield 29), none, none, some (.iload 4), none, some (.iaload), some (.istore 5), none, some (.aload_n 0), some (.getfield 101)],
  [none, none, some (.iload_n 3), some (.iload 5), none, some (.iastore), some (.iinc 3 1), none, none, some (.aload_n 0), some (.getfield 35), none, none, some (.iload 4), none, some (.iaload)],
  [some (.istore 4), none, some (.goto (-56)), none, none, some (.aload_n 0), some (.iload_n 3), some (.invokevirtual 311), none, none, some (.ireturn)]]
set_option maxRecDepth 100000 in
theorem ck_251 : jw_chk prog_15_method_59_code cd_251 = true := by decide +kernel
def cd_252 : List (List (Option Instr)) := [[some (.aload_n 0), some (.iconst 4), some (.iconst 5), some (.iconst 0), some (.lconst 0), some (.invokevirtual 110), none, none, some (.istore_n 2), some (.iconst (-1)), some (.istore_n 3), some (.iconst 0), some (.istore 4), none, some (.iload 4), none],
  [some (.iload_n 1), some (.if_icmp .ge 25), none, none, some (.aload_n 0), some (.iconst 4), some (.iload_n 2), some (.iload_n 3), some (.aload_n 0), some (.getfield 101), none, none, some (.iload 4), none, some (.iaload), some (.lconst 0)],
  [some (.invokevirtual 128), none, none, some (.istore_n 3), some (.iinc 4 1), none, none, some (.goto (-25)), none, none, some (.iload_n 2), some (.ireturn)]]
set_option maxRecDepth 100000 in
theorem ck_252 : jw_chk prog_15_method_58_code cd_252 = true := by decide +kernel
def cd_253 : List (List (Option Instr)) := [[some (.aload_n 0), some (.getfield 13), none, none, some (.iload_n 1), some (.iaload), some (.iconst 4), some (.if_icmp .ne 64), none, none, some (.lconst 0), some (.lstore_n 2), some (.aload_n 0), some (.getfield 19), none, none],
  [some (.iload_n 1), some (.laload), some (.invokestatic 314), none, none, some (.istore 4), none, some (.iconst 0), some (.istore 5), none, some (.iload 5), none, some (.iload 4), none, some (.if_icmp .ge 32), none],
  [none, some (.lload_n 2), some (.iload 5), none, some (.aload_n 0), some (.getfield 19), none, none, some (.iload_n 1), some (.laload), some (.iload 4), none, some (.iconst 1), some (.isub), some (.iload 5), none],
  [some (.isub), some (.invokestatic 138), none, none, some (.invokestatic 166), none, none, some (.lstore_n 2), some (.iinc 5 1), none, none, some (.goto (-33)), none, none, some (.aload_n 0), some (.iconst 4)],
  [some (.iconst 4), some (.iconst 0), some (.lload_n 2), some (.invokevirtual 110), none, none, some (.ireturn), some (.aload_n 0), some (.getfield 26), none, none, some (.iload_n 1), some (.iaload), some (.istore_n 2), some (.aload_n 0), some (.getfield 23)],
  [none, none, some (.iload_n 1), some (.iaload), some (.istore_n 3), some (.iload_n 3), some (.iconst (-1)), some (.if_icmp .eq 28), none, none, some (.iinc 2 (-1)), none, none, some (.aload_n 0), some (.getfield 101), none],
  [none, some (.iload_n 2), some (.aload_n 0), some (.getfield 29), none, none, some (.iload_n 3), some (.iaload), some (.iastore), some (.aload_n 0), some (.getfield 35), none, none, some (.iload_n 3), some (.iaload), some (.istore_n 3)],
  [some (.goto (-27)), none, none, some (.aload_n 0), some (.aload_n 0), some (.getfield 26), none, none, some (.iload_n 1), some (.iaload), some (.invokevirtual 311), none, none, some (.ireturn)]]
set_option maxRecDepth 100000 in
theorem ck_253 : jw_chk prog_15_method_60_code cd_253 = true := by decide +kernel
def cd_254 : List (List (Option Instr)) := [[some (.iconst 0), some (.istore_n 2), some (.aload_n 0), some (.getfield 23), none, none, some (.iload_n 1), some (.iaload), some (.istore_n 3), some (.iload_n 3), some (.iconst (-1)), some (.if_icmp .eq 47), none, none, some (.aload_n 0), some (.getfield 13)],
  [none, none, some (.aload_n 0), some (.getfield 29), none, none, some (.iload_n 3), some (.iaload), some (.iaload), some (.iconst 3), some (.if_icmp .eq 8), none, none, some (.aload_n 0), some (.iconst 2), some (.putfield 317)],
  [none, none, some (.iload_n 2), some (.aload_n 0), some (.getfield 16), none, none, some (.aload_n 0), some (.getfield 29), none, none, some (.iload_n 3), some (.iaload), some (.iaload), some (.iadd), some (.istore_n 2)],
  [some (.aload_n 0), some (.getfield 35), none, none, some (.iload_n 3), some (.iaload), some (.istore_n 3), some (.goto (-46)), none, none, some (.aload_n 0), some (.iconst 4), some (.iconst 3), some (.iload_n 2), some (.lconst 0), some (.invokevirtual 110)],
  [none, none, some (.ireturn)]]
set_option maxRecDepth 100000 in
theorem ck_254 : jw_chk prog_15_method_61_code cd_254 = true := by decide +kernel
def cd_255 : List (List (Option Instr)) := [[some (.iconst 0), some (.istore 4), none, some (.aload_n 0), some (.getfield 23), none, none, some (.iload_n 1), some (.iaload), some (.istore 5), none, some (.iload 5), none, some (.iconst (-1)), some (.if_icmp .eq 104), none],
  [none, some (.lload_n 2), some (.lconst 0), some (.lcmp), some (.ifCond .ne 13), none, none, some (.aload_n 0), some (.getfield 29), none, none, some (.iload 5), none, some (.iaload), some (.goto 15), none],
  [none, some (.aload_n 0), some (.aload_n 0), some (.getfield 29), none, none, some (.iload 5), none, some (.iaload), some (.lload_n 2), some (.invokevirtual 132), none, none, some (.istore 6), none, some (.iload 6)],
  [none, some (.iconst (-1)), some (.if_icmp .ne 7), none, none, some (.iconst 0), some (.goto 10), none, none, some (.aload_n 0), some (.getfield 13), none, none, some (.iload 6), none, some (.iaload)],
  [some (.istore 7), none, some (.iload 7), none, some (.iconst 3), some (.if_icmp .eq 9), none, none, some (.iload 7), none, some (.iconst 4), some (.if_icmp .ne 15), none, none, some (.iload 4), none],
  [some (.ifCond .eq 14), none, none, some (.iload 4), none, some (.iload 7), none, some (.if_icmp .eq 7), none, none, some (.iconst (-1)), some (.goto 5), none, none, some (.iload 7), none],
  [some (.istore 4), none, some (.iload 4), none, some (.iconst (-1)), some (.if_icmp .ne 5), none, none, some (.iconst (-1)), some (.ireturn), some (.aload_n 0), some (.getfield 35), none, none, some (.iload 5), none],
  [some (.iaload), some (.istore 5), none, some (.goto (-104)), none, none, some (.iload 4), none, some (.ireturn)]]
set_option maxRecDepth 100000 in
theorem ck_255 : jw_chk prog_15_method_55_code cd_255 = true := by decide +kernel
def cd_256 : List (List (Option Instr)) := [[some (.aload_n 0), some (.getfield 13), none, none, some (.iload_n 1), some (.iaload), some (.bipush 6), none, some (.if_icmp .eq 5), none, none, some (.iconst (-1)), some (.ireturn), some (.aload_n 0), some (.getfield 23), none],
  [none, some (.iload_n 1), some (.iaload), some (.istore 4), none, some (.iload 4), none, some (.iconst (-1)), some (.if_icmp .eq 35), none, none, some (.aload_n 0), some (.getfield 32), none, none, some (.iload 4)],
  [none, some (.laload), some (.lload_n 2), some (.lcmp), some (.ifCond .ne 11), none, none, some (.aload_n 0), some (.getfield 29), none, none, some (.iload 4), none, some (.iaload), some (.ireturn), some (.aload_n 0)],
  [some (.getfield 35), none, none, some (.iload 4), none, some (.iaload), some (.istore 4), none, some (.goto (-35)), none, none, some (.iconst (-1)), some (.ireturn)]]
set_option maxRecDepth 100000 in
theorem ck_256 : jw_chk prog_15_method_8_code cd_256 = true := by decide +kernel
def cd_257 : List (List (Option Instr)) := [[some (.iconst 0), some (.istore 4), none, some (.aload_n 0), some (.getfield 23), none, none, some (.iload_n 1), some (.iaload), some (.istore 5), none, some (.iload 5), none, some (.iconst (-1)), some (.if_icmp .eq 136), none],
  [none, some (.lload_n 2), some (.lconst 0), some (.lcmp), some (.ifCond .ne 13), none, none, some (.aload_n 0), some (.getfield 29), none, none, some (.iload 5), none, some (.iaload), some (.goto 15), none],
  [none, some (.aload_n 0), some (.aload_n 0), some (.getfield 29), none, none, some (.iload 5), none, some (.iaload), some (.lload_n 2), some (.invokevirtual 132), none, none, some (.istore 6), none, some (.iload 4)],
  [none, some (.istore 7), none, some (.iload 7), none, some (.ifCond .le 59), none, none, some (.aload_n 0), some (.aload_n 0), some (.getfield 104), none, none, some (.iload 7), none, some (.iconst 1)],
  [some (.isub), some (.iaload), some (.iload 6), none, some (.invokevirtual 308), none, none, some (.ifCond .eq 41), none, none, some (.aload_n 0), some (.getfield 104), none, none, some (.iload 7), none],
  [some (.aload_n 0), some (.getfield 104), none, none, some (.iload 7), none, some (.iconst 1), some (.isub), some (.iaload), some (.iastore), some (.aload_n 0), some (.getfield 101), none, none, some (.iload 7), none],
  [some (.aload_n 0), some (.getfield 101), none, none, some (.iload 7), none, some (.iconst 1), some (.isub), some (.iaload), some (.iastore), some (.iinc 7 (-1)), none, none, some (.goto (-58)), none, none],
  [some (.aload_n 0), some (.getfield 104), none, none, some (.iload 7), none, some (.iload 6), none, some (.iastore), some (.aload_n 0), some (.getfield 101), none, none, some (.iload 7), none, some (.aload_n 0)],
  [some (.getfield 29), none, none, some (.iload 5), none, some (.iaload), some (.iastore), some (.iinc 4 1), none, none, some (.aload_n 0), some (.getfield 35), none, none, some (.iload 5), none],
  [some (.iaload), some (.istore 5), none, some (.goto (-136)), none, none, some (.aload_n 0), some (.iload 4), none, some (.invokevirtual 311), none, none, some (.ireturn)]]
set_option maxRecDepth 100000 in
theorem ck_257 : jw_chk prog_15_method_57_code cd_257 = true := by decide +kernel
def cd_258 : List (List (Option Instr)) := [[some (.aload_n 0), some (.getfield 13), none, none, some (.iload_n 1), some (.iaload), some (.iconst 3), some (.if_icmp .ne 26), none, none, some (.aload_n 0), some (.getfield 16), none, none, some (.iload_n 1), some (.iaload)],
  [some (.aload_n 0), some (.getfield 16), none, none, some (.iload_n 2), some (.iaload), some (.if_icmp .le 7), none, none, some (.iconst 1), some (.goto 28), none, none, some (.iconst 0), some (.goto 24), none],
  [none, some (.aload_n 0), some (.getfield 19), none, none, some (.iload_n 1), some (.laload), some (.aload_n 0), some (.getfield 19), none, none, some (.iload_n 2), some (.laload), some (.lcmp), some (.ifCond .le 7), none],
  [none, some (.iconst 1), some (.goto 4), none, none, some (.iconst 0), some (.ireturn)]]
set_option maxRecDepth 100000 in
theorem ck_258 : jw_chk prog_15_method_56_code cd_258 = true := by decide +kernel
def cd_259 : List (List (Option Instr)) := [[some (.iconst (-1)), some (.istore_n 3), some (.aload_n 0), some (.getfield 23), none, none, some (.iload_n 1), some (.iaload), some (.istore 4), none, some (.iload 4), none, some (.iconst (-1)), some (.if_icmp .eq 63), none, none],
  [some (.aload_n 0), some (.getfield 29), none, none, some (.iload 4), none, some (.iaload), some (.istore 5), none, some (.iload_n 3), some (.iconst (-1)), some (.if_icmp .eq 30), none, none, some (.iload_n 2), some (.ifCond .eq 16)],
  [none, none, some (.aload_n 0), some (.iload 5), none, some (.iload_n 3), some (.invokevirtual 308), none, none, some (.ifCond .eq 21), none, none, some (.goto 13), none, none, some (.aload_n 0)],
  [some (.iload_n 3), some (.iload 5), none, some (.invokevirtual 308), none, none, some (.ifCond .eq 8), none, none, some (.iload 5), none, some (.goto 4), none, none, some (.iload_n 3), some (.istore_n 3)],
  [some (.aload_n 0), some (.getfield 35), none, none, some (.iload 4), none, some (.iaload), some (.istore 4), none, some (.goto (-63)), none, none, some (.iload_n 3), some (.ireturn)]]
set_option maxRecDepth 100000 in
theorem ck_259 : jw_chk prog_15_method_62_code cd_259 = true := by decide +kernel
def cd_260 : List (List (Option Instr)) := [[some (.iconst 0), some (.istore 4), none, some (.aload_n 0), some (.iconst 0), some (.putfield 264), none, none, some (.aload_n 0), some (.iconst 1), some (.putfield 283), none, none, some (.aload_n 0), some (.getfield 98), none],
  [none, some (.iconst 0), some (.iconst 0), some (.iastore), some (.aload_n 0), some (.iload_n 1), some (.iconst 0), some (.invokevirtual 280), none, none, some (.iload_n 2), some (.istore 5), none, some (.iload 5), none, some (.iload_n 3)],
  [some (.if_icmp .ge 119), none, none, some (.aload_n 0), some (.getfield 47), none, none, some (.iload 5), none, some (.iaload), some (.istore 6), none, some (.aload_n 0), some (.getfield 53), none, none],
  [some (.iload 5), none, some (.iaload), some (.istore 7), none, some (.iload 6), none, some (.bipush 6), none, some (.if_icmp .ne 58), none, none, some (.aload_n 0), some (.invokevirtual 293), none, none],
  [some (.iload 4), none, some (.ifCond .eq 10), none, none, some (.aload_n 0), some (.invokevirtual 296), none, none, some (.goto 9), none, none, some (.aload_n 0), some (.getfield 89), none, none],
  [some (.iconst 0), some (.iaload), some (.istore 8), none, some (.iload 8), none, some (.iconst (-1)), some (.if_icmp .eq 14), none, none, some (.aload_n 0), some (.getfield 13), none, none, some (.iload 8), none],
  [some (.iaload), some (.iconst 5), some (.if_icmp .eq 5), none, none, some (.iconst (-1)), some (.ireturn), some (.aload_n 0), some (.iload 8), none, some (.invokevirtual 299), none, none, some (.iconst 1), some (.istore 4), none],
  [some (.goto 33), none, none, some (.iload 6), none, some (.ifCond .eq 9), none, none, some (.iload 6), none, some (.iconst 1), some (.if_icmp .ne 14), none, none, some (.aload_n 0), some (.iload 5)],
  [none, some (.iload 7), none, some (.invokevirtual 302), none, none, some (.goto 11), none, none, some (.aload_n 0), some (.iload 6), none, some (.iload 7), none, some (.invokevirtual 305), none],
  [none, some (.iinc 5 1), none, none, some (.goto (-119)), none, none, some (.aload_n 0), some (.invokevirtual 293), none, none, some (.iload 4), none, some (.ifCond .eq 10), none, none],
  [some (.aload_n 0), some (.invokevirtual 296), none, none, some (.goto 9), none, none, some (.aload_n 0), some (.getfield 89), none, none, some (.iconst 0), some (.iaload), some (.ireturn)]]
set_option maxRecDepth 100000 in
theorem ck_260 : jw_chk prog_15_method_54_code cd_260 = true := by decide +kernel
def cd_261 : List (List (Option Instr)) := [[some (.aload_n 0), some (.getfield 89), none, none, some (.aload_n 0), some (.getfield 264), none, none, some (.iload_n 1), some (.iastore), some (.aload_n 0), some (.getfield 92), none, none, some (.aload_n 0), some (.getfield 264)],
  [none, none, some (.iload_n 2), some (.iastore), some (.aload_n 0), some (.getfield 95), none, none, some (.aload_n 0), some (.getfield 264), none, none, some (.iconst 0), some (.iastore), some (.aload_n 0), some (.dup)],
  [some (.getfield 264), none, none, some (.iconst 1), some (.iadd), some (.putfield 264), none, none, some (.return_)]]
set_option maxRecDepth 100000 in
theorem ck_261 : jw_chk prog_15_method_44_code cd_261 = true := by decide +kernel
