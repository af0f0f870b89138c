/-! instructions of the methods, as decoded (printed by program: gen2.py) -/
def cd_276 : List (List (Option Instr)) := [[some (.aload_n 0), some (.getfield 13), none, none, some (.iload_n 1), some (.iaload), some (.tableswitch 99 0 4 #[34, 43, 52, 61, 74]), none, none, none, none, none, none, none, none, none],
  [none, none, none, none, none, none, none, none, none, none, none, none, none, none, none, none],
  [none, none, none, none, none, none, none, none, some (.aload_n 0), some (.bipush 110), none, some (.invokevirtual 356), none, none, some (.goto 80), none],
  [none, some (.aload_n 0), some (.bipush 102), none, some (.invokevirtual 356), none, none, some (.goto 71), none, none, some (.aload_n 0), some (.bipush 116), none, some (.invokevirtual 356), none, none],
  [some (.goto 62), none, none, some (.aload_n 0), some (.aload_n 0), some (.getfield 16), none, none, some (.iload_n 1), some (.iaload), some (.invokevirtual 363), none, none, some (.goto 49), none, none],
  [some (.aload_n 0), some (.bipush 39), none, some (.invokevirtual 356), none, none, some (.aload_n 0), some (.aload_n 0), some (.getfield 19), none, none, some (.iload_n 1), some (.laload), some (.invokevirtual 366), none, none],
  [some (.aload_n 0), some (.bipush 39), none, some (.invokevirtual 356), none, none, some (.goto 24), none, none, some (.aload_n 0), some (.aload_n 0), some (.getfield 13), none, none, some (.iload_n 1), some (.iaload)],
  [some (.iconst 5), some (.if_icmp .ne 8), none, none, some (.bipush 91), none, some (.goto 5), none, none, some (.bipush 123), none, some (.invokevirtual 356), none, none, some (.return_)]]
set_option maxRecDepth 100000 in
theorem ck_276 : jw_chk prog_15_method_71_code cd_276 = true := by decide +kernel
def cd_277 : List (List (Option Instr)) := [[some (.aload_n 0), some (.getfield 107), none, none, some (.aload_n 0), some (.getfield 353), none, none, some (.iload_n 1), some (.iastore), some (.aload_n 0), some (.dup), some (.getfield 353), none, none, some (.iconst 1)],
  [some (.iadd), some (.putfield 353), none, none, some (.return_)]]
set_option maxRecDepth 100000 in
theorem ck_277 : jw_chk prog_15_method_68_code cd_277 = true := by decide +kernel
def cd_278 : List (List (Option Instr)) := [[some (.iload_n 1), some (.i2l), some (.lstore_n 2), some (.iload_n 1), some (.ifCond .ge 12), none, none, some (.aload_n 0), some (.bipush 45), none, some (.invokevirtual 356), none, none, some (.lload_n 2), some (.lneg), some (.lstore_n 2)],
  [some (.lconst 1), some (.lstore 4), none, some (.lload 4), none, some (.ldc2_w 359), none, none, some (.lmul), some (.lload_n 2), some (.lcmp), some (.ifCond .gt 14), none, none, some (.lload 4), none],
  [some (.ldc2_w 359), none, none, some (.lmul), some (.lstore 4), none, some (.goto (-19)), none, none, some (.lload 4), none, some (.lconst 0), some (.lcmp), some (.ifCond .le 31), none, none],
  [some (.aload_n 0), some (.ldc2_w 361), none, none, some (.lload_n 2), some (.lload 4), none, some (.ldiv), some (.ldc2_w 359), none, none, some (.lrem), some (.ladd), some (.l2i), some (.invokevirtual 356), none],
  [none, some (.lload 4), none, some (.ldc2_w 359), none, none, some (.ldiv), some (.lstore 4), none, some (.goto (-32)), none, none, some (.return_)]]
set_option maxRecDepth 100000 in
theorem ck_278 : jw_chk prog_15_method_69_code cd_278 = true := by decide +kernel
def cd_279 : List (List (Option Instr)) := [[some (.iconst 0), some (.istore_n 3), some (.iload_n 3), some (.lload_n 1), some (.invokestatic 314), none, none, some (.if_icmp .ge 18), none, none, some (.aload_n 0), some (.lload_n 1), some (.iload_n 3), some (.invokestatic 138), none, none],
  [some (.invokevirtual 356), none, none, some (.iinc 3 1), none, none, some (.goto (-20)), none, none, some (.return_)]]
set_option maxRecDepth 100000 in
theorem ck_279 : jw_chk prog_15_method_70_code cd_279 = true := by decide +kernel
def cd_280 : List (List (Option Instr)) := [[some (.aload_n 0), some (.iconst 0), some (.putfield 121), none, none, some (.aload_n 0), some (.invokevirtual 373), none, none, some (.iload_n 1), some (.ifCond .lt 11), none, none, some (.iload_n 1), some (.aload_n 0), some (.getfield 353)],
  [none, none, some (.if_icmp .lt 7), none, none, some (.iconst (-1)), some (.goto 9), none, none, some (.aload_n 0), some (.getfield 107), none, none, some (.iload_n 1), some (.iaload), some (.ireturn)]]
set_option maxRecDepth 100000 in
theorem ck_280 : jw_chk prog_15_method_74_code cd_280 = true := by decide +kernel
def cd_281 : List (List (Option Instr)) := [[some (.aload_n 0), some (.iconst 0), some (.putfield 121), none, none, some (.iload_n 1), some (.tableswitch 59 0 3 #[30, 35, 40, 50]), none, none, none, none, none, none, none, none, none],
  [none, none, none, none, none, none, none, none, none, none, none, none, none, none, none, none],
  [none, none, none, none, some (.aload_n 0), some (.getfield 142), none, none, some (.ireturn), some (.aload_n 0), some (.getfield 219), none, none, some (.ireturn), some (.aload_n 0), some (.getfield 13)],
  [none, none, some (.aload_n 0), some (.getfield 114), none, none, some (.iaload), some (.ireturn), some (.aload_n 0), some (.aload_n 0), some (.getfield 114), none, none, some (.invokevirtual 215), none, none],
  [some (.ireturn), some (.iconst (-1)), some (.ireturn)]]
set_option maxRecDepth 100000 in
theorem ck_281 : jw_chk prog_15_method_75_code cd_281 = true := by decide +kernel
