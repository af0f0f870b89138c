/-! instructions of the methods, as decoded (printed by program: gen2.py) -/
def cd_123 : List (List (Option Instr)) := [[some (.aload_n 0), some (.iconst 0), some (.putfield 15), none, none, some (.new 19), none, none, some (.dup), some (.invokespecial 21), none, none, some (.astore_n 1), some (.iconst 0), some (.istore_n 2), some (.iload_n 2)],
  [some (.sipush 160), none, none, some (.if_icmp .ge 36), none, none, some (.aload_n 1), some (.getfield 22), none, none, some (.aload_n 0), some (.invokevirtual 26), none, none, some (.invokevirtual 30), none],
  [none, some (.pop), some (.aload_n 0), some (.getfield 9), none, none, some (.bipush 124), none, some (.invokevirtual 36), none, none, some (.ifCond .ne 6), none, none, some (.goto 9), none],
  [none, some (.iinc 2 1), none, none, some (.goto (-37)), none, none, some (.aload_n 1), some (.areturn)]]
set_option maxRecDepth 100000 in
theorem ck_123 : jw_chk prog_5_method_2_code cd_123 = true := by decide +kernel
def cd_124 : List (List (Option Instr)) := [[some (.aload_n 0), some (.invokespecial 1), none, none, some (.aload_n 0), some (.new 7), none, none, some (.dup), some (.invokespecial 9), none, none, some (.putfield 10), none, none, some (.return_)]]
set_option maxRecDepth 100000 in
theorem ck_124 : jw_chk prog_4_method_1_code cd_124 = true := by decide +kernel
def cd_125 : List (List (Option Instr)) := [[some (.aload_n 0), some (.invokespecial 1), none, none, some (.aload_n 0), some (.getstatic 39), none, none, some (.putfield 9), none, none, some (.return_)]]
set_option maxRecDepth 100000 in
theorem ck_125 : jw_chk prog_35_method_2_code cd_125 = true := by decide +kernel
def cd_126 : List (List (Option Instr)) := [[some (.aload_n 0), some (.invokespecial 1), none, none, some (.aload_n 0), some (.iconst 0), some (.putfield 7), none, none, some (.return_)]]
set_option maxRecDepth 100000 in
theorem ck_126 : jw_chk prog_34_method_1_code cd_126 = true := by decide +kernel
def cd_127 : List (List (Option Instr)) := [[some (.aload_n 0), some (.invokespecial 1), none, none, some (.return_)]]
set_option maxRecDepth 100000 in
theorem ck_127 : jw_chk prog_33_method_1_code cd_127 = true := by decide +kernel
def cd_128 : List (List (Option Instr)) := [[some (.new 42), none, none, some (.dup), some (.invokespecial 44), none, none, some (.astore_n 1), some (.aload_n 0), some (.getfield 9), none, none, some (.invokevirtual 45), none, none, some (.invokestatic 49)],
  [none, none, some (.ifCond .eq 11), none, none, some (.aload_n 0), some (.aload_n 1), some (.invokevirtual 52), none, none, some (.goto 24), none, none, some (.aload_n 0), some (.getfield 9), none],
  [none, some (.invokevirtual 45), none, none, some (.bipush 91), none, some (.if_icmp .eq 12), none, none, some (.aload_n 0), some (.getfield 9), none, none, some (.bipush 64), none, some (.invokevirtual 56)],
  [none, none, some (.iconst 0), some (.istore_n 2), some (.iload_n 2), some (.sipush 160), none, none, some (.if_icmp .ge 53), none, none, some (.aload_n 1), some (.getfield 60), none, none, some (.ifnonnull 46)],
  [none, none, some (.aload_n 0), some (.getfield 9), none, none, some (.invokevirtual 45), none, none, some (.bipush 91), none, some (.if_icmp .ne 11), none, none, some (.aload_n 0), some (.aload_n 1)],
  [some (.invokevirtual 64), none, none, some (.goto 20), none, none, some (.aload_n 0), some (.getfield 9), none, none, some (.invokevirtual 45), none, none, some (.bipush 46), none, some (.if_icmp .ne 14)],
  [none, none, some (.aload_n 0), some (.aload_n 1), some (.invokevirtual 67), none, none, some (.iinc 2 1), none, none, some (.goto (-54)), none, none, some (.aload_n 1), some (.areturn)]]
set_option maxRecDepth 100000 in
theorem ck_128 : jw_chk prog_5_method_3_code cd_128 = true := by decide +kernel
def cd_129 : List (List (Option Instr)) := [[some (.aload_n 0), some (.invokespecial 1), none, none, some (.aload_n 0), some (.aconst_null), some (.putfield 7), none, none, some (.aload_n 0), some (.ldc 13), none, some (.putfield 15), none, none, some (.aload_n 0)],
  [some (.new 19), none, none, some (.dup), some (.invokespecial 21), none, none, some (.putfield 22), none, none, some (.return_)]]
set_option maxRecDepth 100000 in
theorem ck_129 : jw_chk prog_7_method_1_code cd_129 = true := by decide +kernel
def cd_130 : List (List (Option Instr)) := [[some (.aload_n 0), some (.getfield 9), none, none, some (.getfield 74), none, none, some (.istore_n 2), some (.aload_n 0), some (.getfield 9), none, none, some (.invokevirtual 77), none, none, some (.astore_n 3)],
  [some (.aload_n 0), some (.getfield 9), none, none, some (.bipush 40), none, some (.invokevirtual 36), none, none, some (.ifCond .eq 13), none, none, some (.aload_n 0), some (.aload_n 1), some (.aload_n 3), some (.iload_n 2)],
  [some (.invokevirtual 81), none, none, some (.goto 20), none, none, some (.aload_n 0), some (.iload_n 2), some (.invokevirtual 85), none, none, some (.aload_n 1), some (.getfield 88), none, none, some (.aload_n 3)],
  [some (.invokestatic 90), none, none, some (.invokevirtual 30), none, none, some (.pop), some (.return_)]]
set_option maxRecDepth 100000 in
theorem ck_130 : jw_chk prog_5_method_5_code cd_130 = true := by decide +kernel
def cd_131 : List (List (Option Instr)) := [[some (.aload_n 1), some (.aload_n 2), some (.invokestatic 96), none, none, some (.putfield 60), none, none, some (.aload_n 1), some (.getfield 60), none, none, some (.ifnonnull 11), none, none, some (.aload_n 0)],
  [some (.getfield 9), none, none, some (.iload_n 3), some (.invokevirtual 70), none, none, some (.aload_n 1), some (.getfield 60), none, none, some (.getstatic 102), none, none, some (.if_acmp .ne 26), none],
  [none, some (.aload_n 0), some (.getfield 9), none, none, some (.invokevirtual 45), none, none, some (.bipush 41), none, some (.if_icmp .eq 14), none, none, some (.aload_n 1), some (.aload_n 0), some (.getfield 9)],
  [none, none, some (.invokevirtual 77), none, none, some (.putfield 105), none, none, some (.aload_n 0), some (.getfield 9), none, none, some (.bipush 41), none, some (.invokevirtual 56), none],
  [none, some (.return_)]]
set_option maxRecDepth 100000 in
theorem ck_131 : jw_chk prog_5_method_6_code cd_131 = true := by decide +kernel
def cd_132 : List (List (Option Instr)) := [[some (.iconst 0), some (.istore_n 1), some (.iload_n 1), some (.getstatic 60), none, none, some (.arraylength), some (.if_icmp .ge 30), none, none, some (.getstatic 60), none, none, some (.iload_n 1), some (.aaload), some (.getfield 52)],
  [none, none, some (.aload_n 0), some (.invokevirtual 63), none, none, some (.ifCond .eq 9), none, none, some (.getstatic 60), none, none, some (.iload_n 1), some (.aaload), some (.areturn), some (.iinc 1 1)],
  [none, none, some (.goto (-32)), none, none, some (.aconst_null), some (.areturn)]]
set_option maxRecDepth 100000 in
theorem ck_132 : jw_chk prog_12_method_4_code cd_132 = true := by decide +kernel
def cd_133 : List (List (Option Instr)) := [[some (.aload_n 0), some (.dup), some (.getfield 15), none, none, some (.iconst 1), some (.iadd), some (.putfield 15), none, none, some (.aload_n 0), some (.getfield 15), none, none, some (.bipush 12), none],
  [some (.if_icmp .le 11), none, none, some (.aload_n 0), some (.getfield 9), none, none, some (.iload_n 1), some (.invokevirtual 70), none, none, some (.return_)]]
set_option maxRecDepth 100000 in
theorem ck_133 : jw_chk prog_5_method_4_code cd_133 = true := by decide +kernel
def cd_134 : List (List (Option Instr)) := [[some (.new 10), none, none, some (.dup), some (.iconst 0), some (.invokespecial 41), none, none, some (.astore_n 1), some (.aload_n 1), some (.aload_n 0), some (.putfield 17), none, none, some (.aload_n 1), some (.areturn)]]
set_option maxRecDepth 100000 in
theorem ck_134 : jw_chk prog_8_method_3_code cd_134 = true := by decide +kernel
def cd_135 : List (List (Option Instr)) := [[some (.aload_n 0), some (.invokespecial 3), none, none, some (.aload_n 0), some (.iload_n 1), some (.putfield 9), none, none, some (.aload_n 0), some (.ldc 15), none, some (.putfield 17), none, none, some (.aload_n 0)],
  [some (.iconst 0), some (.putfield 21), none, none, some (.aload_n 0), some (.ldc 24), none, some (.putfield 25), none, none, some (.aload_n 0), some (.iconst 1), some (.putfield 28), none, none, some (.aload_n 0)],
  [some (.aconst_null), some (.putfield 31), none, none, some (.aload_n 0), some (.iconst 0), some (.putfield 35), none, none, some (.aload_n 0), some (.aconst_null), some (.putfield 38), none, none, some (.return_)]]
set_option maxRecDepth 100000 in
theorem ck_135 : jw_chk prog_8_method_1_code cd_135 = true := by decide +kernel
def cd_136 : List (List (Option Instr)) := [[some (.aload_n 0), some (.dup), some (.getfield 63), none, none, some (.iconst 1), some (.iadd), some (.putfield 63), none, none, some (.aload_n 0), some (.aload_n 1), some (.aload_n 0), some (.getfield 9), none, none],
  [some (.aload_n 0), some (.getfield 48), none, none, some (.invokevirtual 131), none, none, some (.iconst 1), some (.ireturn)]]
set_option maxRecDepth 100000 in
theorem ck_136 : jw_chk prog_35_method_25_code cd_136 = true := by decide +kernel
def cd_137 : List (List (Option Instr)) := [[some (.iload_n 3), some (.aload_n 2), some (.arraylength), some (.if_icmp .ne 8), none, none, some (.aload_n 0), some (.invokevirtual 129), none, none, some (.astore_n 2), some (.aload_n 2), some (.iload_n 3), some (.aload_n 1), some (.aastore), some (.aload_n 0)],
  [some (.iload_n 3), some (.iconst 1), some (.iadd), some (.putfield 48), none, none, some (.return_)]]
set_option maxRecDepth 100000 in
theorem ck_137 : jw_chk prog_35_method_24_code cd_137 = true := by decide +kernel
def cd_138 : List (List (Option Instr)) := [[some (.aload_n 0), some (.aload_n 0), some (.getfield 48), none, none, some (.iconst 1), some (.iadd), some (.invokevirtual 69), none, none, some (.areturn)]]
set_option maxRecDepth 100000 in
theorem ck_138 : jw_chk prog_35_method_7_code cd_138 = true := by decide +kernel
def cd_139 : List (List (Option Instr)) := [[some (.aload_n 0), some (.getfield 9), none, none, some (.arraylength), some (.istore_n 2), some (.iload_n 2), some (.ifCond .gt 13), none, none, some (.aload_n 0), some (.getfield 9), none, none, some (.getstatic 39), none],
  [none, some (.if_acmp .eq 28), none, none, some (.iload_n 2), some (.iload_n 1), some (.iload_n 2), some (.isub), some (.iload_n 2), some (.iconst 1), some (.ishr), some (.invokestatic 73), none, none, some (.istore_n 3), some (.aload_n 0)],
  [some (.aload_n 0), some (.getfield 9), none, none, some (.iload_n 3), some (.invokestatic 66), none, none, some (.dup_x1), some (.putfield 9), none, none, some (.areturn), some (.aload_n 0), some (.bipush 10), none],
  [some (.iload_n 1), some (.invokestatic 79), none, none, some (.anewarray 7), none, none, some (.dup_x1), some (.putfield 9), none, none, some (.areturn)]]
set_option maxRecDepth 100000 in
theorem ck_139 : jw_chk prog_35_method_6_code cd_139 = true := by decide +kernel
def cd_140 : List (List (Option Instr)) := [[some (.aload_n 0), some (.iload_n 1), some (.aload_n 0), some (.invokevirtual 86), none, none, some (.invokestatic 300), none, none, some (.areturn)]]
set_option maxRecDepth 100000 in
theorem ck_140 : jw_chk prog_36_method_119_code cd_140 = true := by decide +kernel
def cd_141 : List (List (Option Instr)) := [[some (.aload_n 2), some (.ldc 110), none, some (.if_acmp .ne 10), none, none, some (.iload_n 1), some (.anewarray 2), none, none, some (.goto 14), none, none, some (.aload_n 2), some (.invokevirtual 90), none],
  [none, some (.iload_n 1), some (.invokestatic 95), none, none, some (.checkcast 110), none, none, some (.astore_n 3), some (.aload_n 0), some (.iconst 0), some (.aload_n 3), some (.iconst 0), some (.aload_n 0), some (.arraylength), some (.iload_n 1)],
  [some (.invokestatic 304), none, none, some (.invokestatic 150), none, none, some (.aload_n 3), some (.areturn)]]
set_option maxRecDepth 100000 in
theorem ck_141 : jw_chk prog_36_method_120_code cd_141 = true := by decide +kernel
def cd_142 : List (List (Option Instr)) := [[some (.aload_n 0), some (.aload_n 0), some (.getfield 9), none, none, some (.getfield 74), none, none, some (.invokevirtual 85), none, none, some (.aload_n 0), some (.getfield 9), none, none, some (.bipush 91)],
  [none, some (.invokevirtual 56), none, none, some (.aload_n 0), some (.getfield 9), none, none, some (.invokevirtual 45), none, none, some (.bipush 93), none, some (.if_icmp .ne 18), none, none],
  [some (.aload_n 1), some (.getfield 88), none, none, some (.iconst 5), some (.invokestatic 109), none, none, some (.invokevirtual 30), none, none, some (.pop), some (.goto 69), none, none, some (.aload_n 0)],
  [some (.getfield 9), none, none, some (.bipush 42), none, some (.invokevirtual 36), none, none, some (.ifCond .eq 18), none, none, some (.aload_n 1), some (.getfield 88), none, none, some (.iconst 2)],
  [some (.invokestatic 109), none, none, some (.invokevirtual 30), none, none, some (.pop), some (.goto 42), none, none, some (.aload_n 0), some (.getfield 9), none, none, some (.bipush 63), none],
  [some (.invokevirtual 36), none, none, some (.ifCond .eq 18), none, none, some (.aload_n 1), some (.getfield 88), none, none, some (.aload_n 0), some (.invokevirtual 113), none, none, some (.invokevirtual 30), none],
  [none, some (.pop), some (.goto 15), none, none, some (.aload_n 1), some (.getfield 88), none, none, some (.aload_n 0), some (.invokevirtual 117), none, none, some (.invokevirtual 30), none, none],
  [some (.pop), some (.aload_n 0), some (.getfield 9), none, none, some (.bipush 93), none, some (.invokevirtual 56), none, none, some (.return_)]]
set_option maxRecDepth 100000 in
theorem ck_142 : jw_chk prog_5_method_8_code cd_142 = true := by decide +kernel
def cd_143 : List (List (Option Instr)) := [[some (.new 10), none, none, some (.dup), some (.iload_n 0), some (.invokespecial 41), none, none, some (.areturn)]]
set_option maxRecDepth 100000 in
theorem ck_143 : jw_chk prog_8_method_2_code cd_143 = true := by decide +kernel
def cd_144 : List (List (Option Instr)) := [[some (.aload_n 0), some (.invokevirtual 139), none, none, some (.astore_n 1), some (.aload_n 0), some (.invokevirtual 143), none, none, some (.istore_n 2), some (.aload_n 1), some (.iload_n 2), some (.iload_n 2), some (.ifCond .ne 7), none, none],
  [some (.aconst_null), some (.goto 7), none, none, some (.aload_n 0), some (.invokevirtual 139), none, none, some (.invokestatic 146), none, none, some (.areturn)]]
set_option maxRecDepth 100000 in
theorem ck_144 : jw_chk prog_5_method_11_code cd_144 = true := by decide +kernel
def cd_145 : List (List (Option Instr)) := [[some (.aload_n 0), some (.getfield 9), none, none, some (.invokevirtual 45), none, none, some (.invokestatic 127), none, none, some (.ifCond .eq 21), none, none, some (.new 150), none, none],
  [some (.dup), some (.aload_n 0), some (.getfield 9), none, none, some (.invokevirtual 120), none, none, some (.invokestatic 152), none, none, some (.invokespecial 158), none, none, some (.areturn), some (.aload_n 0)],
  [some (.getfield 9), none, none, some (.bipush 39), none, some (.invokevirtual 36), none, none, some (.ifCond .eq 21), none, none, some (.new 150), none, none, some (.dup), some (.aload_n 0)],
  [some (.getfield 9), none, none, some (.invokevirtual 161), none, none, some (.invokestatic 164), none, none, some (.invokespecial 158), none, none, some (.areturn), some (.new 150), none, none],
  [some (.dup), some (.aconst_null), some (.invokespecial 158), none, none, some (.astore_n 1), some (.aload_n 0), some (.getfield 9), none, none, some (.bipush 64), none, some (.invokevirtual 36), none, none, some (.ifCond .ne 17)],
  [none, none, some (.aload_n 1), some (.aload_n 0), some (.getfield 9), none, none, some (.invokevirtual 77), none, none, some (.invokestatic 164), none, none, some (.invokevirtual 168), none, none],
  [some (.iconst 0), some (.istore_n 2), some (.iload_n 2), some (.iconst 3), some (.if_icmp .gt 56), none, none, some (.aload_n 0), some (.getfield 9), none, none, some (.bipush 46), none, some (.invokevirtual 36), none, none],
  [some (.ifCond .eq 44), none, none, some (.aload_n 1), some (.invokevirtual 170), none, none, some (.ifCond .eq 17), none, none, some (.aload_n 0), some (.getfield 9), none, none, some (.aload_n 0), some (.getfield 9)],
  [none, none, some (.getfield 74), none, none, some (.invokevirtual 70), none, none, some (.aload_n 1), some (.aload_n 0), some (.getfield 9), none, none, some (.invokevirtual 77), none, none],
  [some (.invokestatic 164), none, none, some (.invokevirtual 168), none, none, some (.iinc 2 1), none, none, some (.goto (-55)), none, none, some (.aload_n 1), some (.areturn)]]
set_option maxRecDepth 100000 in
theorem ck_145 : jw_chk prog_5_method_13_code cd_145 = true := by decide +kernel
def cd_146 : List (List (Option Instr)) := [[some (.aload_n 0), some (.invokespecial 3), none, none, some (.aload_n 0), some (.aload_n 1), some (.putfield 9), none, none, some (.aload_n 0), some (.aload_n 1), some (.ifnonnull 7), none, none, some (.iconst 3), some (.goto 4)],
  [none, none, some (.iconst 0), some (.anewarray 15), none, none, some (.putfield 17), none, none, some (.aload_n 0), some (.iconst 0), some (.putfield 21), none, none, some (.return_)]]
set_option maxRecDepth 100000 in
theorem ck_146 : jw_chk prog_6_method_1_code cd_146 = true := by decide +kernel
def cd_147 : List (List (Option Instr)) := [[some (.aload_n 0), some (.getfield 21), none, none, some (.aload_n 0), some (.getfield 17), none, none, some (.arraylength), some (.if_icmp .ge 23), none, none, some (.aload_n 0), some (.getfield 17), none, none],
  [some (.aload_n 0), some (.getfield 21), none, none, some (.aload_n 1), some (.aastore), some (.aload_n 0), some (.dup), some (.getfield 21), none, none, some (.iconst 1), some (.iadd), some (.putfield 21), none, none],
  [some (.return_)]]
set_option maxRecDepth 100000 in
theorem ck_147 : jw_chk prog_6_method_3_code cd_147 = true := by decide +kernel
def cd_148 : List (List (Option Instr)) := [[some (.aload_n 0), some (.getfield 21), none, none, some (.aload_n 0), some (.getfield 17), none, none, some (.arraylength), some (.if_icmp .lt 7), none, none, some (.iconst 1), some (.goto 4), none, none],
  [some (.iconst 0), some (.ireturn)]]
set_option maxRecDepth 100000 in
theorem ck_148 : jw_chk prog_6_method_2_code cd_148 = true := by decide +kernel
def cd_149 : List (List (Option Instr)) := [[some (.aload_n 0), some (.getfield 9), none, none, some (.bipush 61), none, some (.invokevirtual 36), none, none, some (.ifCond .eq 14), none, none, some (.aload_n 0), some (.getfield 9), none, none],
  [some (.bipush 61), none, some (.invokevirtual 56), none, none, some (.iconst 1), some (.ireturn), some (.aload_n 0), some (.getfield 9), none, none, some (.bipush 33), none, some (.invokevirtual 36), none, none],
  [some (.ifCond .eq 14), none, none, some (.aload_n 0), some (.getfield 9), none, none, some (.bipush 61), none, some (.invokevirtual 56), none, none, some (.iconst 2), some (.ireturn), some (.aload_n 0), some (.getfield 9)],
  [none, none, some (.bipush 60), none, some (.invokevirtual 36), none, none, some (.ifCond .eq 21), none, none, some (.aload_n 0), some (.getfield 9), none, none, some (.bipush 61), none],
  [some (.invokevirtual 36), none, none, some (.ifCond .eq 7), none, none, some (.iconst 4), some (.goto 4), none, none, some (.iconst 3), some (.ireturn), some (.aload_n 0), some (.getfield 9), none, none],
  [some (.bipush 62), none, some (.invokevirtual 36), none, none, some (.ifCond .eq 22), none, none, some (.aload_n 0), some (.getfield 9), none, none, some (.bipush 61), none, some (.invokevirtual 36), none],
  [none, some (.ifCond .eq 8), none, none, some (.bipush 6), none, some (.goto 4), none, none, some (.iconst 5), some (.ireturn), some (.iconst 0), some (.ireturn)]]
set_option maxRecDepth 100000 in
theorem ck_149 : jw_chk prog_5_method_12_code cd_149 = true := by decide +kernel
def cd_150 : List (List (Option Instr)) := [[some (.new 10), none, none, some (.dup), some (.iconst 4), some (.invokespecial 41), none, none, some (.astore_n 3), some (.aload_n 3), some (.aload_n 0), some (.putfield 31), none, none, some (.aload_n 3), some (.iload_n 1)],
  [some (.putfield 35), none, none, some (.aload_n 3), some (.aload_n 2), some (.putfield 38), none, none, some (.aload_n 3), some (.areturn)]]
set_option maxRecDepth 100000 in
theorem ck_150 : jw_chk prog_8_method_6_code cd_150 = true := by decide +kernel
def cd_151 : List (List (Option Instr)) := [[some (.aload_n 0), some (.getfield 9), none, none, some (.invokevirtual 45), none, none, some (.bipush 58), none, some (.if_icmp .eq 7), none, none, some (.iconst 1), some (.goto 4), none, none],
  [some (.iconst 0), some (.istore_n 1), some (.iload_n 1), some (.ifCond .eq 13), none, none, some (.aload_n 0), some (.getfield 9), none, none, some (.invokevirtual 120), none, none, some (.goto 4), none, none],
  [some (.iconst 0), some (.istore_n 2), some (.aload_n 0), some (.getfield 9), none, none, some (.bipush 58), none, some (.invokevirtual 36), none, none, some (.ifCond .ne 8), none, none, some (.iload_n 2), some (.invokestatic 124)],
  [none, none, some (.areturn), some (.aload_n 0), some (.getfield 9), none, none, some (.invokevirtual 45), none, none, some (.invokestatic 127), none, none, some (.istore_n 3), some (.iload_n 3), some (.ifCond .eq 13)],
  [none, none, some (.aload_n 0), some (.getfield 9), none, none, some (.invokevirtual 120), none, none, some (.goto 4), none, none, some (.iconst 0), some (.istore 4), none, some (.iconst 1)],
  [some (.istore 5), none, some (.aload_n 0), some (.getfield 9), none, none, some (.bipush 58), none, some (.invokevirtual 36), none, none, some (.ifCond .eq 22), none, none, some (.aload_n 0), some (.getfield 9)],
  [none, none, some (.invokevirtual 45), none, none, some (.invokestatic 127), none, none, some (.ifCond .eq 9), none, none, some (.aload_n 0), some (.invokevirtual 130), none, none, some (.istore 5)],
  [none, some (.iload 5), none, some (.ifCond .le 7), none, none, some (.iconst 0), some (.goto 5), none, none, some (.ldc 133), none, some (.istore 6), none, some (.iload 5), none],
  [some (.ifCond .le 8), none, none, some (.ldc 133), none, some (.goto 5), none, none, some (.ldc 134), none, some (.istore 7), none, some (.iload_n 1), some (.ifCond .eq 7), none, none],
  [some (.iload_n 2), some (.goto 5), none, none, some (.iload 6), none, some (.iload_n 3), some (.ifCond .eq 8), none, none, some (.iload 4), none, some (.goto 5), none, none, some (.iload 7)],
  [none, some (.iload 5), none, some (.invokestatic 135), none, none, some (.areturn)]]
set_option maxRecDepth 100000 in
theorem ck_151 : jw_chk prog_5_method_9_code cd_151 = true := by decide +kernel
def cd_152 : List (List (Option Instr)) := [[some (.new 10), none, none, some (.dup), some (.iconst 1), some (.invokespecial 41), none, none, some (.astore_n 1), some (.aload_n 1), some (.iload_n 0), some (.putfield 21), none, none, some (.aload_n 1), some (.areturn)]]
set_option maxRecDepth 100000 in
theorem ck_152 : jw_chk prog_8_method_4_code cd_152 = true := by decide +kernel
def cd_153 : List (List (Option Instr)) := [[some (.aload_n 0), some (.getfield 9), none, none, some (.getfield 74), none, none, some (.istore_n 1), some (.aload_n 0), some (.getfield 9), none, none, some (.invokevirtual 120), none, none, some (.istore_n 2)],
  [some (.iload_n 2), some (.ifCond .ne 11), none, none, some (.aload_n 0), some (.getfield 9), none, none, some (.iload_n 1), some (.invokevirtual 70), none, none, some (.iload_n 2), some (.ireturn)]]
set_option maxRecDepth 100000 in
theorem ck_153 : jw_chk prog_5_method_10_code cd_153 = true := by decide +kernel
def cd_154 : List (List (Option Instr)) := [[some (.new 10), none, none, some (.dup), some (.iconst 2), some (.invokespecial 41), none, none, some (.astore_n 3), some (.aload_n 3), some (.iload_n 0), some (.putfield 21), none, none, some (.aload_n 3), some (.iload_n 1)],
  [some (.putfield 25), none, none, some (.aload_n 3), some (.iload_n 2), some (.putfield 28), none, none, some (.aload_n 3), some (.areturn)]]
set_option maxRecDepth 100000 in
theorem ck_154 : jw_chk prog_8_method_5_code cd_154 = true := by decide +kernel
def cd_155 : List (List (Option Instr)) := [[some (.aload_n 0), some (.aload_n 0), some (.getfield 9), none, none, some (.getfield 74), none, none, some (.invokevirtual 85), none, none, some (.aload_n 0), some (.getfield 9), none, none, some (.bipush 46)],
  [none, some (.invokevirtual 56), none, none, some (.aload_n 0), some (.getfield 9), none, none, some (.bipush 42), none, some (.invokevirtual 36), none, none, some (.ifCond .eq 18), none, none],
  [some (.aload_n 1), some (.getfield 88), none, none, some (.iconst 3), some (.invokestatic 109), none, none, some (.invokevirtual 30), none, none, some (.pop), some (.goto 21), none, none, some (.aload_n 1)],
  [some (.getfield 88), none, none, some (.aload_n 0), some (.getfield 9), none, none, some (.invokevirtual 77), none, none, some (.invokestatic 90), none, none, some (.invokevirtual 30), none, none],
  [some (.pop), some (.return_)]]
set_option maxRecDepth 100000 in
theorem ck_155 : jw_chk prog_5_method_7_code cd_155 = true := by decide +kernel
def cd_156 : List (List (Option Instr)) := [[some (.aload_n 2), some (.iconst 0), some (.aload_n 0), some (.iload_n 1), some (.invokevirtual 21), none, none, some (.i2l), some (.lastore), some (.goto 6), none, none, some (.astore_n 3), some (.iconst 1), some (.ireturn), some (.iconst 0)],
  [some (.ireturn)]]
set_option maxRecDepth 100000 in
theorem ck_156 : jw_chk method_5_code cd_156 = true := by decide +kernel
def cd_157 : List (List (Option Instr)) := [[some (.iload_n 1), some (.ifCond .lt 11), none, none, some (.iload_n 1), some (.aload_n 0), some (.getfield 53), none, none, some (.if_icmp .lt 11), none, none, some (.new 75), none, none, some (.dup)],
  [some (.invokespecial 77), none, none, some (.athrow), some (.aload_n 0), some (.aload_n 0), some (.getfield 43), none, none, some (.aload_n 0), some (.getfield 49), none, none, some (.iload_n 1), some (.aaload), some (.aload_n 0)],
  [some (.getfield 57), none, none, some (.invokevirtual 107), none, none, some (.putfield 61), none, none, some (.aload_n 0), some (.getfield 67), none, none, some (.iconst 0), some (.invokevirtual 111), none],
  [none, some (.aload_n 0), some (.getfield 61), none, none, some (.aload_n 0), some (.getfield 67), none, none, some (.iconst 0), some (.invokevirtual 71), none, none, some (.aload_n 0), some (.getfield 43), none],
  [none, some (.getfield 115), none, none, some (.ireturn)]]
set_option maxRecDepth 100000 in
theorem ck_157 : jw_chk prog_1_method_5_code cd_157 = true := by decide +kernel
def cd_158 : List (List (Option Instr)) := [[some (.aload_n 0), some (.iconst 0), some (.putfield 24), none, none, some (.aload_n 2), some (.astore_n 3), some (.iconst 0), some (.istore 4), none, some (.iload 4), none, some (.aload_n 1), some (.getfield 28), none, none],
  [some (.invokevirtual 34), none, none, some (.if_icmp .ge 95), none, none, some (.aload_n 1), some (.getfield 28), none, none, some (.iload 4), none, some (.invokevirtual 40), none, none, some (.checkcast 44)],
  [none, none, some (.astore 5), none, some (.aload 5), none, some (.getfield 46), none, none, some (.ifnonnull 14), none, none, some (.aload_n 0), some (.aload 5), none, some (.aload_n 3)],
  [some (.invokevirtual 50), none, none, some (.astore_n 3), some (.goto 56), none, none, some (.aload_n 0), some (.aload_n 0), some (.getfield 20), none, none, some (.aload 5), none, some (.getfield 46), none],
  [none, some (.aload_n 3), some (.aload 5), none, some (.getfield 54), none, none, some (.invokevirtual 58), none, none, some (.putfield 24), none, none, some (.aload_n 0), some (.getfield 24), none],
  [none, some (.ifCond .eq 8), none, none, some (.aload_n 0), some (.getfield 9), none, none, some (.areturn), some (.aload_n 0), some (.getfield 20), none, none, some (.aload 5), none, some (.getfield 46)],
  [none, none, some (.aload_n 3), some (.aload 5), none, some (.getfield 54), none, none, some (.invokevirtual 61), none, none, some (.astore_n 3), some (.iinc 4 1), none, none, some (.goto (-101))],
  [none, none, some (.aload_n 3), some (.areturn)]]
set_option maxRecDepth 100000 in
theorem ck_158 : jw_chk prog_3_method_2_code cd_158 = true := by decide +kernel
def cd_159 : List (List (Option Instr)) := [[some (.aload_n 0), some (.getfield 48), none, none, some (.ireturn)]]
set_option maxRecDepth 100000 in
theorem ck_159 : jw_chk prog_35_method_8_code cd_159 = true := by decide +kernel
def cd_160 : List (List (Option Instr)) := [[some (.iload_n 1), some (.aload_n 0), some (.getfield 48), none, none, some (.invokestatic 118), none, none, some (.pop), some (.aload_n 0), some (.iload_n 1), some (.invokevirtual 123), none, none, some (.areturn)]]
set_option maxRecDepth 100000 in
theorem ck_160 : jw_chk prog_35_method_20_code cd_160 = true := by decide +kernel
def cd_161 : List (List (Option Instr)) := [[some (.iload_n 0), some (.iload_n 1), some (.aconst_null), some (.invokestatic 105), none, none, some (.ireturn)]]
set_option maxRecDepth 100000 in
theorem ck_161 : jw_chk prog_39_method_17_code cd_161 = true := by decide +kernel
def cd_162 : List (List (Option Instr)) := [[some (.aload_n 0), some (.getfield 9), none, none, some (.iload_n 1), some (.aaload), some (.areturn)]]
set_option maxRecDepth 100000 in
theorem ck_162 : jw_chk prog_35_method_18_code cd_162 = true := by decide +kernel
def cd_163 : List (List (Option Instr)) := [[some (.aload_n 2), some (.astore_n 3), some (.iconst 0), some (.istore 4), none, some (.aload_n 1), some (.getfield 65), none, none, some (.invokevirtual 34), none, none, some (.istore 5), none, some (.iconst 1), some (.istore 6)],
  [none, some (.iload 6), none, some (.iload 5), none, some (.if_icmp .gt 50), none, none, some (.iload 6), none, some (.iload 5), none, some (.if_icmp .eq 22), none, none, some (.aload_n 1)],
  [some (.getfield 65), none, none, some (.iload 6), none, some (.invokevirtual 40), none, none, some (.checkcast 68), none, none, some (.getfield 70), none, none, some (.iconst 5), some (.if_icmp .ne 18)],
  [none, none, some (.aload_n 0), some (.aload_n 1), some (.iload 4), none, some (.iload 6), none, some (.aload_n 3), some (.invokevirtual 73), none, none, some (.astore_n 3), some (.iload 6), none, some (.istore 4)],
  [none, some (.iinc 6 1), none, none, some (.goto (-51)), none, none, some (.aload_n 3), some (.areturn)]]
set_option maxRecDepth 100000 in
theorem ck_163 : jw_chk prog_3_method_3_code cd_163 = true := by decide +kernel
def cd_164 : List (List (Option Instr)) := [[some (.iload_n 2), some (.ifCond .lt 19), none, none, some (.iload_n 2), some (.iload_n 3), some (.if_icmp .ge 14), none, none, some (.iload_n 2), some (.aload_n 1), some (.getfield 65), none, none, some (.invokevirtual 34), none],
  [none, some (.if_icmp .lt 6), none, none, some (.aload 4), none, some (.areturn), some (.aload_n 1), some (.getfield 65), none, none, some (.iload_n 2), some (.invokevirtual 40), none, none, some (.checkcast 68)],
  [none, none, some (.astore 5), none, some (.aload 5), none, some (.getfield 70), none, none, some (.ifCond .ne 27), none, none, some (.aload_n 0), some (.aload_n 1), some (.iload_n 2), some (.iconst 1)],
  [some (.iadd), some (.iload_n 3), some (.aload 4), none, some (.aload 5), none, some (.getfield 77), none, none, some (.aload_n 0), some (.getfield 9), none, none, some (.invokevirtual 78), none, none],
  [some (.invokevirtual 73), none, none, some (.areturn), some (.aload 5), none, some (.getfield 70), none, none, some (.iconst 1), some (.if_icmp .ne 27), none, none, some (.aload_n 0), some (.aload_n 1), some (.iload_n 2)],
  [some (.iconst 1), some (.iadd), some (.iload_n 3), some (.aload 4), none, some (.aload 5), none, some (.getfield 84), none, none, some (.aload_n 0), some (.getfield 9), none, none, some (.invokevirtual 87), none],
  [none, some (.invokevirtual 73), none, none, some (.areturn), some (.aload 4), none, some (.getfield 91), none, none, some (.aload 5), none, some (.invokevirtual 92), none, none, some (.if_icmp .eq 8)],
  [none, none, some (.aload_n 0), some (.getfield 9), none, none, some (.areturn), some (.aload 5), none, some (.getfield 70), none, none, some (.iconst 5), some (.if_icmp .ne 12), none, none],
  [some (.aload_n 0), some (.aload 4), none, some (.invokevirtual 95), none, none, some (.goto 5), none, none, some (.aload 4), none, some (.astore 6), none, some (.aload 6), none, some (.getfield 99)],
  [none, none, some (.invokestatic 101), none, none, some (.astore 7), none, some (.aload 5), none, some (.aload 5), none, some (.getfield 84), none, none, some (.aload 6), none],
  [some (.getfield 99), none, none, some (.invokevirtual 105), none, none, some (.istore 8), none, some (.aload 5), none, some (.aload 5), none, some (.getfield 109), none, none, some (.aload 6)],
  [none, some (.getfield 99), none, none, some (.invokevirtual 105), none, none, some (.istore 9), none, some (.iconst 0), some (.istore 10), none, some (.iload 10), none, some (.aload 6), none],
  [some (.getfield 99), none, none, some (.if_icmp .ge 90), none, none, some (.aload 5), none, some (.getfield 112), none, none, some (.ifCond .le 13), none, none, some (.iload 8), none],
  [some (.iload 9), none, some (.if_icmp .ge 75), none, none, some (.goto 10), none, none, some (.iload 8), none, some (.iload 9), none, some (.if_icmp .le 65), none, none, some (.aload 6)],
  [none, some (.getfield 115), none, none, some (.iload 8), none, some (.aaload), some (.astore 11), none, some (.aload 5), none, some (.getfield 70), none, none, some (.iconst 4), some (.if_icmp .ne 14)],
  [none, none, some (.aload_n 0), some (.aload 5), none, some (.aload 11), none, some (.invokevirtual 119), none, none, some (.ifCond .eq 19), none, none, some (.aload 7), none, some (.aload_n 0)],
  [some (.aload_n 1), some (.iload_n 2), some (.iconst 1), some (.iadd), some (.iload_n 3), some (.aload 11), none, some (.invokevirtual 73), none, none, some (.invokevirtual 123), none, none, some (.iload 8), none, some (.aload 5)],
  [none, some (.getfield 112), none, none, some (.iadd), some (.istore 8), none, some (.iinc 10 1), none, none, some (.goto (-94)), none, none, some (.aload 7), none, some (.areturn)]]
set_option maxRecDepth 100000 in
theorem ck_164 : jw_chk prog_3_method_4_code cd_164 = true := by decide +kernel
def cd_165 : List (List (Option Instr)) := [[some (.iconst 0), some (.istore_n 3), some (.iload_n 3), some (.aload_n 0), some (.getfield 29), none, none, some (.if_icmp .ge 41), none, none, some (.iload_n 3), some (.aload_n 0), some (.getfield 22), none, none, some (.arraylength)],
  [some (.if_icmp .ge 32), none, none, some (.aload_n 0), some (.getfield 22), none, none, some (.iload_n 3), some (.aaload), some (.getfield 18), none, none, some (.aload_n 1), some (.invokevirtual 45), none, none],
  [some (.ifCond .eq 10), none, none, some (.aload_n 0), some (.getfield 26), none, none, some (.iload_n 3), some (.aaload), some (.areturn), some (.iinc 3 1), none, none, some (.goto (-43)), none, none],
  [some (.aload_n 2), some (.areturn)]]
set_option maxRecDepth 100000 in
theorem ck_165 : jw_chk prog_10_method_11_code cd_165 = true := by decide +kernel
def cd_166 : List (List (Option Instr)) := [[some (.iload_n 1), some (.ifCond .ge 12), none, none, some (.iload_n 1), some (.aload_n 0), some (.getfield 29), none, none, some (.iadd), some (.goto 4), none, none, some (.iload_n 1), some (.istore_n 3), some (.aload_n 0)],
  [some (.getfield 9), none, none, some (.iconst 5), some (.if_icmp .ne 24), none, none, some (.iload_n 3), some (.ifCond .lt 20), none, none, some (.iload_n 3), some (.aload_n 0), some (.getfield 29), none, none],
  [some (.if_icmp .ge 12), none, none, some (.aload_n 0), some (.getfield 26), none, none, some (.iload_n 3), some (.aaload), some (.goto 4), none, none, some (.aload_n 2), some (.areturn)]]
set_option maxRecDepth 100000 in
theorem ck_166 : jw_chk prog_10_method_12_code cd_166 = true := by decide +kernel
def cd_167 : List (List (Option Instr)) := [[some (.aload_n 0), some (.getfield 9), none, none, some (.iconst 3), some (.if_icmp .ne 8), none, none, some (.bipush 6), none, some (.goto 4), none, none, some (.iconst 5), some (.ireturn)]]
set_option maxRecDepth 100000 in
theorem ck_167 : jw_chk prog_8_method_7_code cd_167 = true := by decide +kernel
def cd_168 : List (List (Option Instr)) := [[some (.aload_n 1), some (.getfield 99), none, none, some (.invokestatic 101), none, none, some (.astore_n 2), some (.iconst 0), some (.istore_n 3), some (.iload_n 3), some (.aload_n 1), some (.getfield 99), none, none, some (.if_icmp .ge 72)],
  [none, none, some (.aload_n 1), some (.getfield 115), none, none, some (.iload_n 3), some (.aaload), some (.astore 4), none, some (.aload 4), none, some (.getfield 91), none, none, some (.iconst 5)],
  [some (.if_icmp .eq 9), none, none, some (.aload_n 2), some (.aload 4), none, some (.invokevirtual 126), none, none, some (.iconst 0), some (.istore 5), none, some (.iload 5), none, some (.aload 4), none],
  [some (.getfield 99), none, none, some (.if_icmp .ge 30), none, none, some (.aload 4), none, some (.getfield 91), none, none, some (.iconst 5), some (.if_icmp .ne 21), none, none, some (.aload_n 2)],
  [some (.aload 4), none, some (.getfield 115), none, none, some (.iload 5), none, some (.aaload), some (.invokevirtual 126), none, none, some (.iinc 5 1), none, none, some (.goto (-34)), none],
  [none, some (.iinc 3 1), none, none, some (.goto (-74)), none, none, some (.aload_n 2), some (.areturn)]]
set_option maxRecDepth 100000 in
theorem ck_168 : jw_chk prog_3_method_5_code cd_168 = true := by decide +kernel
def cd_169 : List (List (Option Instr)) := [[some (.iload_n 1), some (.ifCond .ge 9), none, none, some (.iload_n 1), some (.iload_n 2), some (.iadd), some (.goto 4), none, none, some (.iload_n 1), some (.istore_n 3), some (.aload_n 0), some (.getfield 28), none, none],
  [some (.ifCond .le 7), none, none, some (.iconst 0), some (.goto 4), none, none, some (.iconst (-1)), some (.istore 4), none, some (.aload_n 0), some (.getfield 28), none, none, some (.ifCond .le 7), none],
  [none, some (.iload_n 2), some (.goto 6), none, none, some (.iload_n 2), some (.iconst 1), some (.isub), some (.istore 5), none, some (.iload 4), none, some (.iload 5), none, some (.iload_n 3), some (.invokestatic 44)],
  [none, none, some (.invokestatic 50), none, none, some (.ireturn)]]
set_option maxRecDepth 100000 in
theorem ck_169 : jw_chk prog_8_method_8_code cd_169 = true := by decide +kernel
def cd_170 : List (List (Option Instr)) := [[some (.aload_n 0), some (.aload_n 1), some (.getfield 129), none, none, some (.aload_n 2), some (.invokevirtual 133), none, none, some (.astore_n 3), some (.aload_n 1), some (.getfield 137), none, none, some (.ifCond .ne 8), none],
  [none, some (.aload_n 3), some (.invokevirtual 140), none, none, some (.ireturn), some (.aload_n 0), some (.aload_n 1), some (.getfield 144), none, none, some (.aload_n 2), some (.invokevirtual 133), none, none, some (.astore 4)],
  [none, some (.aload_n 1), some (.getfield 137), none, none, some (.iconst 1), some (.if_icmp .eq 11), none, none, some (.aload_n 1), some (.getfield 137), none, none, some (.iconst 2), some (.if_icmp .ne 32), none],
  [none, some (.aload_n 3), some (.aload 4), none, some (.iconst 0), some (.invokevirtual 147), none, none, some (.aload_n 1), some (.getfield 137), none, none, some (.iconst 1), some (.if_icmp .ne 7), none, none],
  [some (.iconst 1), some (.goto 4), none, none, some (.iconst 0), some (.if_icmp .ne 7), none, none, some (.iconst 1), some (.goto 4), none, none, some (.iconst 0), some (.ireturn), some (.aload_n 3), some (.getfield 91)],
  [none, none, some (.iconst 3), some (.if_icmp .ne 12), none, none, some (.aload 4), none, some (.getfield 91), none, none, some (.iconst 3), some (.if_icmp .eq 5), none, none, some (.iconst 0)],
  [some (.ireturn), some (.aload_n 1), some (.getfield 137), none, none, some (.tableswitch 81 3 5 #[27, 45, 63]), none, none, none, none, none, none, none, none, none, none],
  [none, none, none, none, none, none, none, none, none, none, none, none, none, none, none, none],
  [some (.aload_n 3), some (.getfield 151), none, none, some (.aload 4), none, some (.getfield 151), none, none, some (.if_icmp .ge 7), none, none, some (.iconst 1), some (.goto 4), none, none],
  [some (.iconst 0), some (.ireturn), some (.aload_n 3), some (.getfield 151), none, none, some (.aload 4), none, some (.getfield 151), none, none, some (.if_icmp .gt 7), none, none, some (.iconst 1), some (.goto 4)],
  [none, none, some (.iconst 0), some (.ireturn), some (.aload_n 3), some (.getfield 151), none, none, some (.aload 4), none, some (.getfield 151), none, none, some (.if_icmp .le 7), none, none],
  [some (.iconst 1), some (.goto 4), none, none, some (.iconst 0), some (.ireturn), some (.aload_n 3), some (.getfield 151), none, none, some (.aload 4), none, some (.getfield 151), none, none, some (.if_icmp .lt 7)],
  [none, none, some (.iconst 1), some (.goto 4), none, none, some (.iconst 0), some (.ireturn)]]
set_option maxRecDepth 100000 in
theorem ck_170 : jw_chk prog_3_method_6_code cd_170 = true := by decide +kernel
