/-! instructions of the methods, as decoded (printed by program: gen2.py) -/
def cd_59 : List (List (Option Instr)) := [[some (.iload_n 0), some (.bipush 45), none, some (.if_icmp .eq 15), none, none, some (.iload_n 0), some (.bipush 48), none, some (.if_icmp .lt 13), none, none, some (.iload_n 0), some (.bipush 57), none, some (.if_icmp .gt 7)],
  [none, none, some (.iconst 1), some (.goto 4), none, none, some (.iconst 0), some (.ireturn)]]
set_option maxRecDepth 100000 in
theorem ck_59 : jw_chk prog_9_method_11_code cd_59 = true := by decide +kernel
def cd_60 : List (List (Option Instr)) := [[some (.aload_n 0), some (.invokevirtual 36), none, none, some (.bipush 45), none, some (.if_icmp .ne 7), none, none, some (.iconst 1), some (.goto 4), none, none, some (.iconst 0), some (.istore_n 1), some (.iload_n 1)],
  [some (.ifCond .eq 13), none, none, some (.aload_n 0), some (.dup), some (.getfield 19), none, none, some (.iconst 1), some (.iadd), some (.putfield 19), none, none, some (.iconst 0), some (.istore_n 2), some (.iconst 0)],
  [some (.istore_n 3), some (.iload_n 2), some (.bipush 6), none, some (.if_icmp .ge 42), none, none, some (.aload_n 0), some (.invokevirtual 36), none, none, some (.invokestatic 58), none, none, some (.ifCond .eq 32), none],
  [none, some (.iload_n 3), some (.bipush 10), none, some (.imul), some (.aload_n 0), some (.invokevirtual 36), none, none, some (.bipush 48), none, some (.isub), some (.iadd), some (.istore_n 3), some (.aload_n 0), some (.dup)],
  [some (.getfield 19), none, none, some (.iconst 1), some (.iadd), some (.putfield 19), none, none, some (.iinc 2 1), none, none, some (.goto (-42)), none, none, some (.iload_n 2), some (.ifCond .eq 13)],
  [none, none, some (.aload_n 0), some (.invokevirtual 36), none, none, some (.invokestatic 58), none, none, some (.ifCond .eq 11), none, none, some (.aload_n 0), some (.aload_n 0), some (.getfield 19), none],
  [none, some (.invokevirtual 32), none, none, some (.iload_n 1), some (.ifCond .eq 8), none, none, some (.iload_n 3), some (.ineg), some (.goto 4), none, none, some (.iload_n 3), some (.ireturn)]]
set_option maxRecDepth 100000 in
theorem ck_60 : jw_chk prog_9_method_13_code cd_60 = true := by decide +kernel
def cd_61 : List (List (Option Instr)) := [[some (.iload_n 0), some (.bipush 48), none, some (.if_icmp .lt 13), none, none, some (.iload_n 0), some (.bipush 57), none, some (.if_icmp .gt 7), none, none, some (.iconst 1), some (.goto 4), none, none],
  [some (.iconst 0), some (.ireturn)]]
set_option maxRecDepth 100000 in
theorem ck_61 : jw_chk prog_9_method_10_code cd_61 = true := by decide +kernel
def cd_62 : List (List (Option Instr)) := [[some (.aload_n 0), some (.getfield 22), none, none, some (.iconst (-1)), some (.if_icmp .ne 8), none, none, some (.aload_n 0), some (.iload_n 1), some (.putfield 22), none, none, some (.return_)]]
set_option maxRecDepth 100000 in
theorem ck_62 : jw_chk prog_9_method_6_code cd_62 = true := by decide +kernel
def cd_63 : List (List (Option Instr)) := [[some (.new 10), none, none, some (.dup), some (.iconst 3), some (.iload_n 0), some (.ldc 32), none, some (.iconst 0), some (.invokespecial 34), none, none, some (.areturn)]]
set_option maxRecDepth 100000 in
theorem ck_63 : jw_chk prog_10_method_3_code cd_63 = true := by decide +kernel
def cd_64 : List (List (Option Instr)) := [[some (.aload_n 0), some (.invokevirtual 36), none, none, some (.iload_n 1), some (.if_icmp .eq 5), none, none, some (.iconst 0), some (.ireturn), some (.aload_n 0), some (.dup), some (.getfield 19), none, none, some (.iconst 1)],
  [some (.iadd), some (.putfield 19), none, none, some (.iconst 1), some (.ireturn)]]
set_option maxRecDepth 100000 in
theorem ck_64 : jw_chk prog_9_method_7_code cd_64 = true := by decide +kernel
def cd_65 : List (List (Option Instr)) := [[some (.aload_n 0), some (.getfield 28), none, none, some (.iconst 0), some (.invokevirtual 40), none, none, some (.iconst 0), some (.istore_n 1), some (.iload_n 1), some (.bipush 7), none, some (.if_icmp .ge 47), none, none],
  [some (.aload_n 0), some (.invokevirtual 36), none, none, some (.bipush 39), none, some (.if_icmp .eq 38), none, none, some (.aload_n 0), some (.invokevirtual 36), none, none, some (.ifCond .eq 31), none, none],
  [some (.aload_n 0), some (.getfield 28), none, none, some (.aload_n 0), some (.invokevirtual 36), none, none, some (.invokevirtual 47), none, none, some (.pop), some (.aload_n 0), some (.dup), some (.getfield 19), none],
  [none, some (.iconst 1), some (.iadd), some (.putfield 19), none, none, some (.iinc 1 1), none, none, some (.goto (-47)), none, none, some (.aload_n 0), some (.invokevirtual 36), none, none],
  [some (.bipush 39), none, some (.if_icmp .ne 16), none, none, some (.aload_n 0), some (.dup), some (.getfield 19), none, none, some (.iconst 1), some (.iadd), some (.putfield 19), none, none, some (.goto 11)],
  [none, none, some (.aload_n 0), some (.aload_n 0), some (.getfield 19), none, none, some (.invokevirtual 32), none, none, some (.aload_n 0), some (.getfield 28), none, none, some (.invokevirtual 54), none],
  [none, some (.areturn)]]
set_option maxRecDepth 100000 in
theorem ck_65 : jw_chk prog_9_method_14_code cd_65 = true := by decide +kernel
def cd_66 : List (List (Option Instr)) := [[some (.aload_n 0), some (.iload_n 1), some (.invokespecial 333), none, none, some (.return_)]]
set_option maxRecDepth 100000 in
theorem ck_66 : jw_chk prog_28_method_89_code cd_66 = true := by decide +kernel
def cd_67 : List (List (Option Instr)) := [[some (.iload_n 1), some (.ifCond .ge 12), none, none, some (.new 129), none, none, some (.dup), some (.iload_n 1), some (.invokespecial 131), none, none, some (.athrow), some (.aload_n 0), some (.iload_n 1), some (.invokevirtual 100)],
  [none, none, some (.aload_n 0), some (.getfield 79), none, none, some (.iload_n 1), some (.if_icmp .ge 40), none, none, some (.aload_n 0), some (.invokevirtual 83), none, none, some (.ifCond .eq 18), none],
  [none, some (.aload_n 0), some (.getfield 15), none, none, some (.aload_n 0), some (.getfield 79), none, none, some (.iload_n 1), some (.invokestatic 133), none, none, some (.goto 31), none, none],
  [some (.aload_n 0), some (.getfield 15), none, none, some (.aload_n 0), some (.getfield 79), none, none, some (.iload_n 1), some (.invokestatic 137), none, none, some (.goto 16), none, none, some (.aload_n 0)],
  [some (.getfield 79), none, none, some (.iload_n 1), some (.if_icmp .le 8), none, none, some (.aload_n 0), some (.iconst 1), some (.putfield 73), none, none, some (.aload_n 0), some (.iload_n 1), some (.putfield 79), none],
  [none, some (.return_)]]
set_option maxRecDepth 100000 in
theorem ck_67 : jw_chk prog_17_method_13_code cd_67 = true := by decide +kernel
def cd_68 : List (List (Option Instr)) := [[some (.aload_n 0), some (.iload_n 1), some (.iload_n 2), some (.iconst 0), some (.invokestatic 236), none, none, some (.return_)]]
set_option maxRecDepth 100000 in
theorem ck_68 : jw_chk prog_29_method_48_code cd_68 = true := by decide +kernel
def cd_69 : List (List (Option Instr)) := [[some (.aload_n 0), some (.arraylength), some (.iload_n 1), some (.iload_n 2), some (.invokestatic 13), none, none, some (.iload_n 1), some (.istore 4), none, some (.iload 4), none, some (.iload_n 2), some (.if_icmp .ge 14), none, none],
  [some (.aload_n 0), some (.iload 4), none, some (.iload_n 3), some (.bastore), some (.iinc 4 1), none, none, some (.goto (-14)), none, none, some (.return_)]]
set_option maxRecDepth 100000 in
theorem ck_69 : jw_chk prog_36_method_110_code cd_69 = true := by decide +kernel
def cd_70 : List (List (Option Instr)) := [[some (.iload_n 1), some (.iload_n 2), some (.if_icmp .le 44), none, none, some (.new 43), none, none, some (.dup), some (.new 45), none, none, some (.dup), some (.invokespecial 47), none, none],
  [some (.ldc 48), none, some (.invokevirtual 50), none, none, some (.iload_n 1), some (.invokevirtual 54), none, none, some (.ldc 57), none, some (.invokevirtual 50), none, none, some (.iload_n 2), some (.invokevirtual 54)],
  [none, none, some (.ldc 59), none, some (.invokevirtual 50), none, none, some (.invokevirtual 61), none, none, some (.invokespecial 65), none, none, some (.athrow), some (.iload_n 1), some (.ifCond .ge 12)],
  [none, none, some (.new 68), none, none, some (.dup), some (.iload_n 1), some (.invokespecial 70), none, none, some (.athrow), some (.iload_n 2), some (.iload_n 0), some (.if_icmp .le 12), none, none],
  [some (.new 68), none, none, some (.dup), some (.iload_n 2), some (.invokespecial 70), none, none, some (.athrow), some (.return_)]]
set_option maxRecDepth 100000 in
theorem ck_70 : jw_chk prog_36_method_30_code cd_70 = true := by decide +kernel
def cd_71 : List (List (Option Instr)) := [[some (.aload_n 0), some (.invokespecial 1), none, none, some (.aload_n 0), some (.aload_n 0), some (.putfield 7), none, none, some (.aload_n 0), some (.getstatic 13), none, none, some (.putfield 17), none, none],
  [some (.aload_n 0), some (.getstatic 20), none, none, some (.putfield 24), none, none, some (.aload_n 0), some (.invokevirtual 27), none, none, some (.pop), some (.return_)]]
set_option maxRecDepth 100000 in
theorem ck_71 : jw_chk prog_32_method_1_code cd_71 = true := by decide +kernel
def cd_72 : List (List (Option Instr)) := [[some (.aload_n 0), some (.getfield 17), none, none, some (.ifnonnull 10), none, none, some (.aload_n 0), some (.getfield 198), none, none, some (.ifnull 16), none, none, some (.aload_n 0), some (.iconst 0)],
  [some (.invokevirtual 202), none, none, some (.pop), some (.aload_n 0), some (.getstatic 13), none, none, some (.putfield 17), none, none, some (.aload_n 0), some (.areturn)]]
set_option maxRecDepth 100000 in
theorem ck_72 : jw_chk prog_32_method_18_code cd_72 = true := by decide +kernel
def cd_73 : List (List (Option Instr)) := [[some (.new 18), none, none, some (.dup), some (.aload_n 0), some (.invokespecial 137), none, none, some (.areturn)]]
set_option maxRecDepth 100000 in
theorem ck_73 : jw_chk prog_28_method_42_code cd_73 = true := by decide +kernel
def cd_74 : List (List (Option Instr)) := [[some (.aload_n 0), some (.aload_n 1), some (.aconst_null), some (.invokespecial 489), none, none, some (.return_)]]
set_option maxRecDepth 100000 in
theorem ck_74 : jw_chk prog_27_method_53_code cd_74 = true := by decide +kernel
def cd_75 : List (List (Option Instr)) := [[some (.aload_n 0), some (.invokespecial 1), none, none, some (.aload_n 1), some (.invokevirtual 552), none, none, some (.astore_n 3), some (.aload_n 1), some (.invokevirtual 549), none, none, some (.istore 4), none, some (.aload_n 1)],
  [some (.invokevirtual 1047), none, none, some (.ifCond .eq 22), none, none, some (.aload_n 0), some (.iconst 0), some (.putfield 15), none, none, some (.aload_n 0), some (.aload_n 3), some (.iconst 0), some (.iload 4), none],
  [some (.invokestatic 54), none, none, some (.putfield 9), none, none, some (.goto 59), none, none, some (.getstatic 38), none, none, some (.ifCond .eq 35), none, none, some (.aload_n 1)],
  [some (.getfield 1048), none, none, some (.ifCond .eq 28), none, none, some (.aload_n 0), some (.aload_n 3), some (.iconst 0), some (.iload 4), none, some (.invokestatic 1051), none, none, some (.putfield 9), none],
  [none, some (.aload_n 0), some (.aload_n 0), some (.getfield 9), none, none, some (.iload 4), none, some (.invokestatic 47), none, none, some (.putfield 15), none, none, some (.return_), some (.aload_n 0)],
  [some (.iconst 1), some (.putfield 15), none, none, some (.aload_n 0), some (.aload_n 3), some (.iconst 0), some (.iload 4), none, some (.iconst 1), some (.ishl), some (.invokestatic 54), none, none, some (.putfield 9), none],
  [none, some (.return_)]]
set_option maxRecDepth 100000 in
theorem ck_75 : jw_chk prog_27_method_150_code cd_75 = true := by decide +kernel
def cd_76 : List (List (Option Instr)) := [[some (.aload_n 0), some (.getfield 15), none, none, some (.areturn)]]
set_option maxRecDepth 100000 in
theorem ck_76 : jw_chk prog_17_method_64_code cd_76 = true := by decide +kernel
def cd_77 : List (List (Option Instr)) := [[some (.aload_n 0), some (.invokespecial 343), none, none, some (.ireturn)]]
set_option maxRecDepth 100000 in
theorem ck_77 : jw_chk prog_28_method_93_code cd_77 = true := by decide +kernel
def cd_78 : List (List (Option Instr)) := [[some (.aload_n 0), some (.getfield 79), none, none, some (.ireturn)]]
set_option maxRecDepth 100000 in
theorem ck_78 : jw_chk prog_17_method_6_code cd_78 = true := by decide +kernel
def cd_79 : List (List (Option Instr)) := [[some (.iload_n 1), some (.ifCond .ne 9), none, none, some (.iload_n 2), some (.aload_n 0), some (.arraylength), some (.if_icmp .eq 10), none, none, some (.aload_n 0), some (.iload_n 1), some (.iload_n 2), some (.invokestatic 339), none, none],
  [some (.areturn), some (.aload_n 0), some (.invokevirtual 310), none, none, some (.checkcast 311), none, none, some (.areturn)]]
set_option maxRecDepth 100000 in
theorem ck_79 : jw_chk prog_36_method_132_code cd_79 = true := by decide +kernel
def cd_80 : List (List (Option Instr)) := [[some (.iload_n 1), some (.iload_n 2), some (.invokestatic 343), none, none, some (.iload_n 2), some (.iload_n 1), some (.isub), some (.istore_n 3), some (.iload_n 3), some (.newarray .byte), none, some (.astore 4), none, some (.aload_n 0), some (.iload_n 1)],
  [some (.aload 4), none, some (.iconst 0), some (.aload_n 0), some (.arraylength), some (.iload_n 1), some (.isub), some (.iload_n 3), some (.invokestatic 304), none, none, some (.invokestatic 150), none, none, some (.aload 4), none],
  [some (.areturn)]]
set_option maxRecDepth 100000 in
theorem ck_80 : jw_chk prog_36_method_133_code cd_80 = true := by decide +kernel
def cd_81 : List (List (Option Instr)) := [[some (.iload_n 1), some (.iload_n 0), some (.if_icmp .ge 35), none, none, some (.new 43), none, none, some (.dup), some (.new 45), none, none, some (.dup), some (.invokespecial 47), none, none],
  [some (.iload_n 0), some (.invokevirtual 54), none, none, none, none, none, some (.invokevirtual 50), none, none, some (.iload_n 1), some (.invokevirtual 54), none, none, some (.invokevirtual 61), none],
  [none, some (.invokespecial 65), none, none, some (.athrow), some (.return_)]]
set_option maxRecDepth 100000 in
theorem ck_81 : jw_chk prog_36_method_131_code cd_81 = true := by decide +kernel
def cd_82 : List (List (Option Instr)) := [[some (.aload_n 0), some (.aload_n 1), some (.invokespecial 7), none, none, some (.return_)]]
set_option maxRecDepth 100000 in
theorem ck_82 : jw_chk prog_21_method_2_code cd_82 = true := by decide +kernel
def cd_83 : List (List (Option Instr)) := [[some (.aload_n 0), some (.aload_n 1), some (.invokespecial 7), none, none, some (.return_)]]
set_option maxRecDepth 100000 in
theorem ck_83 : jw_chk prog_26_method_2_code cd_83 = true := by decide +kernel
def cd_84 : List (List (Option Instr)) := [[some (.aload_n 0), some (.aload_n 1), some (.invokespecial 7), none, none, some (.return_)]]
set_option maxRecDepth 100000 in
theorem ck_84 : jw_chk prog_20_method_2_code cd_84 = true := by decide +kernel
def cd_85 : List (List (Option Instr)) := [[some (.aload_n 0), some (.invokespecial 1), none, none, some (.aload_n 0), some (.aload_n 0), some (.putfield 7), none, none, some (.aload_n 0), some (.getstatic 13), none, none, some (.putfield 17), none, none],
  [some (.aload_n 0), some (.getstatic 20), none, none, some (.putfield 24), none, none, some (.aload_n 0), some (.invokevirtual 27), none, none, some (.pop), some (.aload_n 0), some (.aload_n 1), some (.putfield 31), none],
  [none, some (.return_)]]
set_option maxRecDepth 100000 in
theorem ck_85 : jw_chk prog_32_method_2_code cd_85 = true := by decide +kernel
def cd_86 : List (List (Option Instr)) := [[some (.iload_n 2), some (.newarray .byte), none, some (.astore_n 3), some (.aload_n 0), some (.iload_n 1), some (.aload_n 3), some (.iconst 0), some (.iload_n 2), some (.invokestatic 123), none, none, some (.istore 4), none, some (.iload 4), none],
  [some (.iload_n 2), some (.if_icmp .eq 47), none, none, some (.aload_n 0), some (.iload_n 1), some (.iconst 1), some (.ishl), some (.iload_n 1), some (.iload_n 2), some (.iadd), some (.invokestatic 11), none, none, some (.invokestatic 126), none],
  [none, some (.astore 5), none, some (.aload 5), none, some (.iload 4), none, some (.invokestatic 71), none, none, some (.sipush 255), none, none, some (.if_icmp .gt 16), none, none],
  [some (.aload 5), none, some (.iconst 0), some (.aload_n 3), some (.iconst 0), some (.iload_n 2), some (.invokestatic 123), none, none, some (.iload_n 2), some (.if_icmp .eq 6), none, none, some (.aload 5), none, some (.areturn)],
  [some (.aload_n 3), some (.areturn)]]
set_option maxRecDepth 100000 in
theorem ck_86 : jw_chk prog_30_method_17_code cd_86 = true := by decide +kernel
def cd_87 : List (List (Option Instr)) := [[some (.iload_n 1), some (.iload 4), none, some (.aload_n 0), some (.invokestatic 173), none, none, some (.iconst 0), some (.istore 5), none, some (.iload 5), none, some (.iload 4), none, some (.if_icmp .ge 39), none],
  [none, some (.aload_n 0), some (.iload_n 1), some (.invokestatic 71), none, none, some (.istore 6), none, some (.iload 6), none, some (.sipush 255), none, none, some (.if_icmp .le 6), none, none],
  [some (.iload 5), none, some (.ireturn), some (.aload_n 2), some (.iload_n 3), some (.iload 6), none, some (.i2b), some (.bastore), some (.iinc 1 1), none, none, some (.iinc 3 1), none, none, some (.iinc 5 1)],
  [none, none, some (.goto (-40)), none, none, some (.iload 4), none, some (.ireturn)]]
set_option maxRecDepth 100000 in
theorem ck_87 : jw_chk prog_30_method_22_code cd_87 = true := by decide +kernel
def cd_88 : List (List (Option Instr)) := [[some (.getstatic 44), none, none, some (.ifCond .ne 25), none, none, some (.iload_n 1), some (.ifCond .lt 11), none, none, some (.iload_n 1), some (.aload_n 0), some (.invokestatic 48), none, none, some (.if_icmp .lt 13)],
  [none, none, some (.new 52), none, none, some (.dup), some (.ldc 54), none, some (.invokespecial 56), none, none, some (.athrow), some (.iload_n 1), some (.iconst 1), some (.ishl), some (.istore_n 1)],
  [some (.aload_n 0), some (.iload_n 1), some (.iinc 1 1), none, none, some (.baload), some (.sipush 255), none, none, some (.iand), some (.getstatic 59), none, none, some (.ishl), some (.aload_n 0), some (.iload_n 1)],
  [some (.baload), some (.sipush 255), none, none, some (.iand), some (.getstatic 63), none, none, some (.ishl), some (.ior), some (.i2c), some (.ireturn)]]
set_option maxRecDepth 100000 in
theorem ck_88 : jw_chk prog_30_method_5_code cd_88 = true := by decide +kernel
def cd_89 : List (List (Option Instr)) := [[some (.iload_n 1), some (.aload_n 0), some (.arraylength), some (.isub), some (.bipush 31), none, some (.iushr), some (.i2b), some (.ireturn)]]
set_option maxRecDepth 100000 in
theorem ck_89 : jw_chk prog_30_method_15_code cd_89 = true := by decide +kernel
def cd_90 : List (List (Option Instr)) := [[some (.aload_n 0), some (.iload_n 1), some (.iconst 1), some (.ishl), some (.iload_n 2), some (.iconst 1), some (.ishl), some (.iconst 0), some (.invokestatic 380), none, none, some (.return_)]]
set_option maxRecDepth 100000 in
theorem ck_90 : jw_chk prog_30_method_70_code cd_90 = true := by decide +kernel
def cd_91 : List (List (Option Instr)) := [[some (.new 10), none, none, some (.dup), some (.iconst 4), some (.iconst 0), some (.aload_n 0), some (.iconst 0), some (.invokespecial 34), none, none, some (.areturn)]]
set_option maxRecDepth 100000 in
theorem ck_91 : jw_chk prog_10_method_4_code cd_91 = true := by decide +kernel
def cd_92 : List (List (Option Instr)) := [[some (.iconst 0), some (.invokestatic 63), none, none, some (.astore_n 2), some (.aload_n 0), some (.getfield 9), none, none, some (.bipush 93), none, some (.invokevirtual 35), none, none, some (.ifCond .eq 5), none],
  [none, some (.aload_n 2), some (.areturn), some (.iconst 0), some (.istore_n 3), some (.iload_n 3), some (.sipush 160), none, none, some (.if_icmp .ge 35), none, none, some (.aload_n 2), some (.aload_n 0), some (.iload_n 1), some (.iconst 1)],
  [some (.iadd), some (.invokevirtual 66), none, none, some (.invokevirtual 69), none, none, some (.aload_n 0), some (.getfield 9), none, none, some (.bipush 44), none, some (.invokevirtual 35), none, none],
  [some (.ifCond .ne 6), none, none, some (.goto 9), none, none, some (.iinc 3 1), none, none, some (.goto (-36)), none, none, some (.aload_n 0), some (.getfield 9), none, none],
  [some (.bipush 93), none, some (.invokevirtual 59), none, none, some (.aload_n 2), some (.areturn)]]
set_option maxRecDepth 100000 in
theorem ck_92 : jw_chk prog_11_method_4_code cd_92 = true := by decide +kernel
def cd_93 : List (List (Option Instr)) := [[some (.new 10), none, none, some (.dup), some (.iconst 5), some (.iconst 0), some (.ldc 32), none, some (.iload_n 0), some (.invokespecial 34), none, none, some (.areturn)]]
set_option maxRecDepth 100000 in
theorem ck_93 : jw_chk prog_10_method_5_code cd_93 = true := by decide +kernel
def cd_94 : List (List (Option Instr)) := [[some (.aload_n 0), some (.getfield 29), none, none, some (.aload_n 0), some (.getfield 26), none, none, some (.arraylength), some (.if_icmp .ne 14), none, none, some (.aload_n 0), some (.aload_n 0), some (.getfield 26), none],
  [none, some (.invokestatic 37), none, none, some (.putfield 26), none, none, some (.aload_n 0), some (.getfield 26), none, none, some (.aload_n 0), some (.getfield 29), none, none, some (.aload_n 1)],
  [some (.aastore), some (.aload_n 0), some (.dup), some (.getfield 29), none, none, some (.iconst 1), some (.iadd), some (.putfield 29), none, none, some (.return_)]]
set_option maxRecDepth 100000 in
theorem ck_94 : jw_chk prog_10_method_6_code cd_94 = true := by decide +kernel
def cd_95 : List (List (Option Instr)) := [[some (.iconst 2), some (.aload_n 0), some (.arraylength), some (.imul), some (.iconst 2), some (.iadd), some (.anewarray 10), none, none, some (.astore_n 1), some (.aload_n 0), some (.iconst 0), some (.aload_n 1), some (.iconst 0), some (.aload_n 0), some (.arraylength)],
  [some (.invokestatic 55), none, none, some (.aload_n 1), some (.areturn)]]
set_option maxRecDepth 100000 in
theorem ck_95 : jw_chk prog_10_method_10_code cd_95 = true := by decide +kernel
def cd_96 : List (List (Option Instr)) := [[some (.aload_n 0), some (.invokevirtual 36), none, none, some (.iload_n 1), some (.if_icmp .ne 16), none, none, some (.aload_n 0), some (.dup), some (.getfield 19), none, none, some (.iconst 1), some (.iadd), some (.putfield 19)],
  [none, none, some (.goto 11), none, none, some (.aload_n 0), some (.aload_n 0), some (.getfield 19), none, none, some (.invokevirtual 32), none, none, some (.return_)]]
set_option maxRecDepth 100000 in
theorem ck_96 : jw_chk prog_9_method_8_code cd_96 = true := by decide +kernel
def cd_97 : List (List (Option Instr)) := [[some (.bipush 6), none, some (.invokestatic 56), none, none, some (.astore_n 2), some (.aload_n 0), some (.getfield 9), none, none, some (.bipush 125), none, some (.invokevirtual 35), none, none, some (.ifCond .eq 5)],
  [none, none, some (.aload_n 2), some (.areturn), some (.iconst 0), some (.istore_n 3), some (.iload_n 3), some (.sipush 160), none, none, some (.if_icmp .ge 55), none, none, some (.aload_n 0), some (.getfield 9), none],
  [none, some (.invokevirtual 73), none, none, some (.astore 4), none, some (.aload_n 0), some (.getfield 9), none, none, some (.bipush 58), none, some (.invokevirtual 59), none, none, some (.aload_n 2)],
  [some (.aload 4), none, some (.aload_n 0), some (.iload_n 1), some (.iconst 1), some (.iadd), some (.invokevirtual 66), none, none, some (.invokevirtual 76), none, none, some (.aload_n 0), some (.getfield 9), none, none],
  [some (.bipush 44), none, some (.invokevirtual 35), none, none, some (.ifCond .ne 6), none, none, some (.goto 9), none, none, some (.iinc 3 1), none, none, some (.goto (-56)), none],
  [none, some (.aload_n 0), some (.getfield 9), none, none, some (.bipush 125), none, some (.invokevirtual 59), none, none, some (.aload_n 2), some (.areturn)]]
set_option maxRecDepth 100000 in
theorem ck_97 : jw_chk prog_11_method_5_code cd_97 = true := by decide +kernel
def cd_98 : List (List (Option Instr)) := [[some (.aload_n 0), some (.getfield 28), none, none, some (.iconst 0), some (.invokevirtual 40), none, none, some (.iconst 0), some (.istore_n 1), some (.iload_n 1), some (.bipush 7), none, some (.if_icmp .ge 41), none, none],
  [some (.aload_n 0), some (.invokevirtual 36), none, none, some (.invokestatic 43), none, none, some (.ifCond .eq 31), none, none, some (.aload_n 0), some (.getfield 28), none, none, some (.aload_n 0), some (.invokevirtual 36)],
  [none, none, some (.invokevirtual 47), none, none, some (.pop), some (.aload_n 0), some (.dup), some (.getfield 19), none, none, some (.iconst 1), some (.iadd), some (.putfield 19), none, none],
  [some (.iinc 1 1), none, none, some (.goto (-41)), none, none, some (.aload_n 0), some (.getfield 28), none, none, some (.invokevirtual 51), none, none, some (.ifCond .eq 13), none, none],
  [some (.aload_n 0), some (.invokevirtual 36), none, none, some (.invokestatic 43), none, none, some (.ifCond .eq 11), none, none, some (.aload_n 0), some (.aload_n 0), some (.getfield 19), none, none, some (.invokevirtual 32)],
  [none, none, some (.aload_n 0), some (.getfield 28), none, none, some (.invokevirtual 54), none, none, some (.areturn)]]
set_option maxRecDepth 100000 in
theorem ck_98 : jw_chk prog_9_method_12_code cd_98 = true := by decide +kernel
def cd_99 : List (List (Option Instr)) := [[some (.iload_n 0), some (.bipush 97), none, some (.if_icmp .lt 13), none, none, some (.iload_n 0), some (.bipush 122), none, some (.if_icmp .gt 7), none, none, some (.iconst 1), some (.goto 4), none, none],
  [some (.iconst 0), some (.ireturn)]]
set_option maxRecDepth 100000 in
theorem ck_99 : jw_chk prog_9_method_9_code cd_99 = true := by decide +kernel
def cd_100 : List (List (Option Instr)) := [[some (.iconst 0), some (.istore_n 3), some (.iload_n 3), some (.aload_n 0), some (.getfield 29), none, none, some (.if_icmp .ge 42), none, none, some (.iload_n 3), some (.aload_n 0), some (.getfield 22), none, none, some (.arraylength)],
  [some (.if_icmp .ge 33), none, none, some (.aload_n 0), some (.getfield 22), none, none, some (.iload_n 3), some (.aaload), some (.getfield 18), none, none, some (.aload_n 1), some (.invokevirtual 45), none, none],
  [some (.ifCond .eq 11), none, none, some (.aload_n 0), some (.getfield 26), none, none, some (.iload_n 3), some (.aload_n 2), some (.aastore), some (.return_), some (.iinc 3 1), none, none, some (.goto (-44)), none],
  [none, some (.aload_n 0), some (.getfield 29), none, none, some (.aload_n 0), some (.getfield 22), none, none, some (.arraylength), some (.if_icmp .ne 14), none, none, some (.aload_n 0), some (.aload_n 0), some (.getfield 22)],
  [none, none, some (.invokestatic 37), none, none, some (.putfield 22), none, none, some (.aload_n 0), some (.getfield 22), none, none, some (.aload_n 0), some (.getfield 29), none, none],
  [some (.aload_n 1), some (.invokestatic 51), none, none, some (.aastore), some (.aload_n 0), some (.aload_n 2), some (.invokevirtual 41), none, none, some (.return_)]]
set_option maxRecDepth 100000 in
theorem ck_100 : jw_chk prog_10_method_9_code cd_100 = true := by decide +kernel
def cd_101 : List (List (Option Instr)) := [[some (.aload_n 0), some (.aload_n 1), some (.if_acmp .ne 5), none, none, some (.iconst 1), some (.ireturn), some (.aload_n 1), some (.instanceof 10), none, none, some (.ifCond .eq 43), none, none, some (.aload_n 1), some (.checkcast 10)],
  [none, none, some (.astore_n 2), some (.getstatic 38), none, none, some (.ifCond .eq 14), none, none, some (.aload_n 0), some (.getfield 15), none, none, some (.aload_n 2), some (.getfield 15), none],
  [none, some (.if_icmp .ne 21), none, none, some (.aload_n 0), some (.getfield 9), none, none, some (.aload_n 2), some (.getfield 9), none, none, some (.invokestatic 541), none, none, some (.ifCond .eq 7)],
  [none, none, some (.iconst 1), some (.goto 4), none, none, some (.iconst 0), some (.ireturn)]]
set_option maxRecDepth 100000 in
theorem ck_101 : jw_chk prog_27_method_66_code cd_101 = true := by decide +kernel
def cd_102 : List (List (Option Instr)) := [[some (.aload_n 0), some (.arraylength), some (.aload_n 1), some (.arraylength), some (.if_icmp .ne 30), none, none, some (.iconst 0), some (.istore_n 2), some (.iload_n 2), some (.aload_n 0), some (.arraylength), some (.if_icmp .ge 20), none, none, some (.aload_n 0)],
  [some (.iload_n 2), some (.baload), some (.aload_n 1), some (.iload_n 2), some (.baload), some (.if_icmp .eq 5), none, none, some (.iconst 0), some (.ireturn), some (.iinc 2 1), none, none, some (.goto (-20)), none, none],
  [some (.iconst 1), some (.ireturn), some (.iconst 0), some (.ireturn)]]
set_option maxRecDepth 100000 in
theorem ck_102 : jw_chk prog_29_method_13_code cd_102 = true := by decide +kernel
def cd_103 : List (List (Option Instr)) := [[some (.aload_n 0), some (.getfield 9), none, none, some (.bipush 102), none, some (.invokevirtual 35), none, none, some (.ifCond .eq 8), none, none, some (.iconst 1), some (.invokestatic 56), none, none],
  [some (.areturn), some (.aload_n 0), some (.getfield 9), none, none, some (.bipush 116), none, some (.invokevirtual 35), none, none, some (.ifCond .eq 8), none, none, some (.iconst 2), some (.invokestatic 56), none],
  [none, some (.areturn), some (.aload_n 0), some (.getfield 9), none, none, some (.bipush 110), none, some (.invokevirtual 59), none, none, some (.iconst 0), some (.invokestatic 56), none, none, some (.areturn)]]
set_option maxRecDepth 100000 in
theorem ck_103 : jw_chk prog_11_method_3_code cd_103 = true := by decide +kernel
def cd_104 : List (List (Option Instr)) := [[some (.aload_n 0), some (.getfield 19), none, none, some (.aload_n 0), some (.getfield 15), none, none, some (.if_icmp .ge 11), none, none, some (.aload_n 0), some (.aload_n 0), some (.getfield 19), none, none],
  [some (.invokevirtual 32), none, none, some (.aload_n 0), some (.getfield 22), none, none, some (.istore_n 1), some (.aload_n 0), some (.iconst 0), some (.putfield 15), none, none, some (.aload_n 0), some (.iconst 0), some (.putfield 19)],
  [none, none, some (.aload_n 0), some (.iconst (-1)), some (.putfield 22), none, none, some (.iload_n 1), some (.ireturn)]]
set_option maxRecDepth 100000 in
theorem ck_104 : jw_chk prog_9_method_4_code cd_104 = true := by decide +kernel
def cd_105 : List (List (Option Instr)) := [[some (.iconst 1), some (.istore_n 2), some (.iconst 0), some (.istore_n 3), some (.iload_n 3), some (.aload_n 0), some (.getfield 29), none, none, some (.if_icmp .ge 30), none, none, some (.iload_n 1), some (.bipush 8), none, some (.if_icmp .ge 24)],
  [none, none, some (.iload_n 2), some (.aload_n 0), some (.getfield 26), none, none, some (.iload_n 3), some (.aaload), some (.iload_n 1), some (.iconst 1), some (.iadd), some (.invokevirtual 68), none, none, some (.iadd)],
  [some (.istore_n 2), some (.iinc 3 1), none, none, some (.goto (-32)), none, none, some (.iload_n 2), some (.ireturn)]]
set_option maxRecDepth 100000 in
theorem ck_105 : jw_chk prog_10_method_15_code cd_105 = true := by decide +kernel
def cd_106 : List (List (Option Instr)) := [[some (.aload_n 0), some (.aload_n 0), some (.getfield 61), none, none, some (.putfield 57), none, none, some (.aload_n 0), some (.getfield 57), none, none, some (.getfield 118), none, none, some (.ireturn)]]
set_option maxRecDepth 100000 in
theorem ck_106 : jw_chk prog_1_method_6_code cd_106 = true := by decide +kernel
def cd_107 : List (List (Option Instr)) := [[some (.iload_n 1), some (.tableswitch 85 0 3 #[31, 39, 68, 76]), none, none, none, none, none, none, none, none, none, none, none, none, none, none],
  [none, none, none, none, none, none, none, none, none, none, none, none, none, none, none, none],
  [some (.aload_n 0), some (.getfield 61), none, none, some (.getfield 118), none, none, some (.ireturn), some (.aload_n 0), some (.getfield 61), none, none, some (.getfield 118), none, none, some (.iconst 3)],
  [some (.if_icmp .ne 13), none, none, some (.aload_n 0), some (.getfield 61), none, none, some (.getfield 121), none, none, some (.goto 10), none, none, some (.aload_n 0), some (.getfield 61), none],
  [none, some (.invokevirtual 124), none, none, some (.ireturn), some (.aload_n 0), some (.getfield 67), none, none, some (.invokevirtual 127), none, none, some (.ireturn), some (.aload_n 0), some (.getfield 61), none],
  [none, some (.iconst 0), some (.invokevirtual 99), none, none, some (.ireturn), some (.iconst (-1)), some (.ireturn)]]
set_option maxRecDepth 100000 in
theorem ck_107 : jw_chk prog_1_method_7_code cd_107 = true := by decide +kernel
def cd_108 : List (List (Option Instr)) := [[some (.aload_n 0), some (.getfield 9), none, none, some (.iconst 4), some (.if_icmp .ne 13), none, none, some (.aload_n 0), some (.getfield 18), none, none, some (.invokevirtual 61), none, none, some (.goto 7)],
  [none, none, some (.aload_n 0), some (.getfield 29), none, none, some (.ireturn)]]
set_option maxRecDepth 100000 in
theorem ck_108 : jw_chk prog_10_method_13_code cd_108 = true := by decide +kernel
def cd_109 : List (List (Option Instr)) := [[some (.iload_n 1), some (.ifCond .lt 14), none, none, some (.iload_n 1), some (.aload_n 0), some (.getfield 67), none, none, some (.invokevirtual 127), none, none, some (.if_icmp .lt 5), none, none, some (.iconst (-1))],
  [some (.ireturn), some (.aload_n 0), some (.getfield 67), none, none, some (.iload_n 1), some (.invokevirtual 129), none, none, some (.ireturn)]]
set_option maxRecDepth 100000 in
theorem ck_109 : jw_chk prog_1_method_8_code cd_109 = true := by decide +kernel
def cd_110 : List (List (Option Instr)) := [[some (.aload_n 0), some (.iload_n 1), some (.invokespecial 329), none, none, some (.ireturn)]]
set_option maxRecDepth 100000 in
theorem ck_110 : jw_chk prog_28_method_88_code cd_110 = true := by decide +kernel
def cd_111 : List (List (Option Instr)) := [[some (.aload_n 0), some (.getfield 22), none, none, some (.istore_n 2), some (.aload_n 0), some (.getfield 15), none, none, some (.astore_n 3), some (.aload_n 0), some (.getfield 79), none, none, some (.aload_n 3), some (.arraylength)],
  [some (.iload_n 2), some (.ishr), some (.invokestatic 138), none, none, some (.istore 4), none, some (.iload_n 1), some (.iload 4), none, some (.invokestatic 144), none, none, some (.iload_n 2), some (.ifCond .ne 12), none],
  [none, some (.aload_n 3), some (.iload_n 1), some (.baload), some (.sipush 255), none, none, some (.iand), some (.i2c), some (.ireturn), some (.aload_n 3), some (.iload_n 1), some (.invokestatic 148), none, none, some (.ireturn)]]
set_option maxRecDepth 100000 in
theorem ck_111 : jw_chk prog_17_method_14_code cd_111 = true := by decide +kernel
def cd_112 : List (List (Option Instr)) := [[some (.iload_n 1), some (.tableswitch 61 0 3 #[31, 39, 44, 52]), none, none, none, none, none, none, none, none, none, none, none, none, none, none],
  [none, none, none, none, none, none, none, none, none, none, none, none, none, none, none, none],
  [some (.aload_n 0), some (.getfield 10), none, none, some (.getfield 89), none, none, some (.ireturn), some (.aload_n 0), some (.getfield 53), none, none, some (.ireturn), some (.aload_n 0), some (.getfield 57), none],
  [none, some (.getfield 118), none, none, some (.ireturn), some (.aload_n 0), some (.getfield 57), none, none, some (.iconst 0), some (.invokevirtual 99), none, none, some (.ireturn), some (.iconst (-1)), some (.ireturn)]]
set_option maxRecDepth 100000 in
theorem ck_112 : jw_chk prog_1_method_9_code cd_112 = true := by decide +kernel
def cd_113 : List (List (Option Instr)) := [[some (.aload_n 2), some (.iconst 0), some (.aload_n 0), some (.iload_n 1), some (.invokevirtual 7), none, none, some (.i2l), some (.lastore), some (.goto 9), none, none, some (.astore_n 3), some (.iconst 1), some (.ireturn), some (.astore_n 3)],
  [some (.iconst 2), some (.ireturn), some (.iconst 0), some (.ireturn)]]
set_option maxRecDepth 100000 in
theorem ck_113 : jw_chk method_3_code cd_113 = true := by decide +kernel
def cd_114 : List (List (Option Instr)) := [[some (.iload_n 1), some (.bipush 32), none, some (.if_icmp .lt 9), none, none, some (.iload_n 1), some (.bipush 126), none, some (.if_icmp .le 11), none, none, some (.new 75), none, none, some (.dup)],
  [some (.invokespecial 77), none, none, some (.athrow), some (.aload_n 0), some (.getfield 10), none, none, some (.invokevirtual 78), none, none, some (.ifCond .eq 11), none, none, some (.new 82), none],
  [none, some (.dup), some (.invokespecial 84), none, none, some (.athrow), some (.aload_n 0), some (.getfield 10), none, none, some (.iload_n 1), some (.i2c), some (.invokevirtual 85), none, none, some (.aload_n 0)],
  [some (.getfield 10), none, none, some (.getfield 89), none, none, some (.ireturn)]]
set_option maxRecDepth 100000 in
theorem ck_114 : jw_chk prog_1_method_2_code cd_114 = true := by decide +kernel
def cd_115 : List (List (Option Instr)) := [[some (.aload_n 0), some (.invokespecial 1), none, none, some (.return_)]]
set_option maxRecDepth 100000 in
theorem ck_115 : jw_chk prog_21_method_1_code cd_115 = true := by decide +kernel
def cd_116 : List (List (Option Instr)) := [[some (.aload_n 0), some (.invokespecial 1), none, none, some (.return_)]]
set_option maxRecDepth 100000 in
theorem ck_116 : jw_chk prog_26_method_1_code cd_116 = true := by decide +kernel
def cd_117 : List (List (Option Instr)) := [[some (.aload_n 0), some (.invokespecial 1), none, none, some (.return_)]]
set_option maxRecDepth 100000 in
theorem ck_117 : jw_chk prog_20_method_1_code cd_117 = true := by decide +kernel
def cd_118 : List (List (Option Instr)) := [[some (.aload_n 0), some (.getfield 15), none, none, some (.aload_n 0), some (.getfield 9), none, none, some (.arraylength), some (.if_icmp .lt 7), none, none, some (.iconst 1), some (.goto 4), none, none],
  [some (.iconst 0), some (.ireturn)]]
set_option maxRecDepth 100000 in
theorem ck_118 : jw_chk prog_9_method_2_code cd_118 = true := by decide +kernel
def cd_119 : List (List (Option Instr)) := [[some (.aload_n 0), some (.invokespecial 1), none, none, some (.return_)]]
set_option maxRecDepth 100000 in
theorem ck_119 : jw_chk prog_22_method_1_code cd_119 = true := by decide +kernel
def cd_120 : List (List (Option Instr)) := [[some (.aload_n 0), some (.getfield 15), none, none, some (.aload_n 0), some (.getfield 9), none, none, some (.arraylength), some (.if_icmp .ge 23), none, none, some (.aload_n 0), some (.getfield 9), none, none],
  [some (.aload_n 0), some (.getfield 15), none, none, some (.iload_n 1), some (.castore), some (.aload_n 0), some (.dup), some (.getfield 15), none, none, some (.iconst 1), some (.iadd), some (.putfield 15), none, none],
  [some (.return_)]]
set_option maxRecDepth 100000 in
theorem ck_120 : jw_chk prog_9_method_3_code cd_120 = true := by decide +kernel
def cd_121 : List (List (Option Instr)) := [[some (.aload_n 1), some (.iconst 0), some (.aload_n 0), some (.invokevirtual 17), none, none, some (.i2l), some (.lastore), some (.goto 6), none, none, some (.astore_n 2), some (.iconst 1), some (.ireturn), some (.iconst 0), some (.ireturn)]]
set_option maxRecDepth 100000 in
theorem ck_121 : jw_chk method_4_code cd_121 = true := by decide +kernel
def cd_122 : List (List (Option Instr)) := [[some (.aload_n 0), some (.getfield 53), none, none, some (.bipush 12), none, some (.if_icmp .lt 11), none, none, some (.new 82), none, none, some (.dup), some (.invokespecial 84), none, none],
  [some (.athrow), some (.aload_n 0), some (.getfield 28), none, none, some (.invokevirtual 103), none, none, some (.astore_n 1), some (.aload_n 0), some (.getfield 10), none, none, some (.invokevirtual 95), none, none],
  [some (.istore_n 2), some (.iload_n 2), some (.iconst (-1)), some (.if_icmp .eq 7), none, none, some (.iconst (-1)), some (.iload_n 2), some (.isub), some (.ireturn), some (.aload_n 0), some (.getfield 49), none, none, some (.aload_n 0), some (.getfield 53)],
  [none, none, some (.aload_n 1), some (.aastore), some (.aload_n 0), some (.dup), some (.getfield 53), none, none, some (.iconst 1), some (.iadd), some (.putfield 53), none, none, some (.aload_n 0), some (.getfield 53)],
  [none, none, some (.iconst 1), some (.isub), some (.ireturn)]]
set_option maxRecDepth 100000 in
theorem ck_122 : jw_chk prog_1_method_4_code cd_122 = true := by decide +kernel
