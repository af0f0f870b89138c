/-! instructions of the methods, as decoded (printed by program: gen2.py) -/
def cd_0 : List (List (Option Instr)) := [[some (.aload_n 0), some (.invokespecial 1), none, none, some (.aload_n 0), some (.new 7), none, none, some (.dup), some (.invokespecial 9), none, none, some (.putfield 10), none, none, some (.aload_n 0)],
  [some (.new 16), none, none, some (.dup), some (.aload_n 0), some (.getfield 10), none, none, some (.invokespecial 18), none, none, some (.putfield 21), none, none, some (.aload_n 0), some (.new 25)],
  [none, none, some (.dup), some (.aload_n 0), some (.getfield 10), none, none, some (.invokespecial 27), none, none, some (.putfield 28), none, none, some (.iconst 0), some (.invokestatic 32), none],
  [none, some (.astore_n 1), some (.aload_n 0), some (.new 38), none, none, some (.dup), some (.aload_n 1), some (.invokespecial 40), none, none, some (.putfield 43), none, none, some (.aload_n 0), some (.bipush 12)],
  [none, some (.anewarray 47), none, none, some (.putfield 49), none, none, some (.aload_n 0), some (.iconst 0), some (.putfield 53), none, none, some (.aload_n 0), some (.aload_n 1), some (.putfield 57), none],
  [none, some (.aload_n 0), some (.aload_n 1), some (.putfield 61), none, none, some (.aload_n 0), some (.new 64), none, none, some (.dup), some (.invokespecial 66), none, none, some (.putfield 67), none],
  [none, some (.aload_n 1), some (.aload_n 0), some (.getfield 67), none, none, some (.iconst 0), some (.invokevirtual 71), none, none, some (.return_)]]
set_option maxRecDepth 100000 in
theorem ck_0 : jw_chk prog_1_method_1_code cd_0 = true := by decide +kernel
def cd_1 : List (List (Option Instr)) := [[some (.return_)]]
set_option maxRecDepth 100000 in
theorem ck_1 : jw_chk object_method_1_code cd_1 = true := by decide +kernel
def cd_2 : List (List (Option Instr)) := [[some (.aload_n 0), some (.invokespecial 3), none, none, some (.aload_n 0), some (.sipush 160), none, none, some (.newarray .char), none, some (.putfield 9), none, none, some (.aload_n 0), some (.iconst 0), some (.putfield 15)],
  [none, none, some (.aload_n 0), some (.iconst 0), some (.putfield 19), none, none, some (.aload_n 0), some (.iconst (-1)), some (.putfield 22), none, none, some (.aload_n 0), some (.new 25), none, none],
  [some (.dup), some (.invokespecial 27), none, none, some (.putfield 28), none, none, some (.return_)]]
set_option maxRecDepth 100000 in
theorem ck_2 : jw_chk prog_9_method_1_code cd_2 = true := by decide +kernel
def cd_3 : List (List (Option Instr)) := [[some (.aload_n 0), some (.bipush 16), none, some (.invokespecial 1), none, none, some (.return_)]]
set_option maxRecDepth 100000 in
theorem ck_3 : jw_chk prog_28_method_1_code cd_3 = true := by decide +kernel
def cd_4 : List (List (Option Instr)) := [[some (.aload_n 0), some (.invokespecial 3), none, none, some (.getstatic 18), none, none, some (.ifCond .eq 18), none, none, some (.aload_n 0), some (.iload_n 1), some (.newarray .byte), none, some (.putfield 15), none],
  [none, some (.aload_n 0), some (.iconst 0), some (.putfield 22), none, none, some (.goto 16), none, none, some (.aload_n 0), some (.iload_n 1), some (.invokestatic 26), none, none, some (.putfield 15), none],
  [none, some (.aload_n 0), some (.iconst 1), some (.putfield 22), none, none, some (.return_)]]
set_option maxRecDepth 100000 in
theorem ck_4 : jw_chk prog_17_method_2_code cd_4 = true := by decide +kernel
def cd_5 : List (List (Option Instr)) := [[some (.iload_n 0), some (.invokestatic 11), none, none, some (.newarray .byte), none, some (.areturn)]]
set_option maxRecDepth 100000 in
theorem ck_5 : jw_chk prog_30_method_2_code cd_5 = true := by decide +kernel
def cd_6 : List (List (Option Instr)) := [[some (.iload_n 0), some (.ifCond .ge 11), none, none, some (.new 17), none, none, some (.dup), some (.invokespecial 19), none, none, some (.athrow), some (.iload_n 0), some (.ldc 20), none, some (.if_icmp .lt 40)],
  [none, none, some (.new 21), none, none, some (.dup), some (.new 23), none, none, some (.dup), some (.invokespecial 25), none, none, some (.ldc 26), none, some (.invokevirtual 28)],
  [none, none, some (.iload_n 0), some (.invokevirtual 32), none, none, some (.ldc 35), none, some (.invokevirtual 28), none, none, some (.ldc 20), none, some (.invokevirtual 32), none, none],
  [some (.invokevirtual 37), none, none, some (.invokespecial 41), none, none, some (.athrow), some (.iload_n 0), some (.iconst 1), some (.ishl), some (.ireturn)]]
set_option maxRecDepth 100000 in
theorem ck_6 : jw_chk prog_30_method_3_code cd_6 = true := by decide +kernel
def cd_7 : List (List (Option Instr)) := [[some (.aload_n 0), some (.invokespecial 3), none, none, some (.aload_n 0), some (.aload_n 1), some (.putfield 9), none, none, some (.return_)]]
set_option maxRecDepth 100000 in
theorem ck_7 : jw_chk prog_11_method_1_code cd_7 = true := by decide +kernel
def cd_8 : List (List (Option Instr)) := [[some (.aload_n 0), some (.invokespecial 3), none, none, some (.aload_n 0), some (.aload_n 1), some (.putfield 9), none, none, some (.aload_n 0), some (.iconst 0), some (.putfield 15), none, none, some (.return_)]]
set_option maxRecDepth 100000 in
theorem ck_8 : jw_chk prog_5_method_1_code cd_8 = true := by decide +kernel
def cd_9 : List (List (Option Instr)) := [[some (.new 10), none, none, some (.dup), some (.iload_n 0), some (.iconst 0), some (.ldc 32), none, some (.iconst 0), some (.invokespecial 34), none, none, some (.areturn)]]
set_option maxRecDepth 100000 in
theorem ck_9 : jw_chk prog_10_method_2_code cd_9 = true := by decide +kernel
def cd_10 : List (List (Option Instr)) := [[some (.aload_n 0), some (.invokespecial 3), none, none, some (.aload_n 0), some (.iload_n 1), some (.putfield 9), none, none, some (.aload_n 0), some (.iload_n 2), some (.putfield 15), none, none, some (.aload_n 0), some (.aload_n 3)],
  [some (.putfield 18), none, none, some (.aload_n 0), some (.iload_n 1), some (.bipush 6), none, some (.if_icmp .ne 8), none, none, some (.iload 4), none, some (.goto 4), none, none, some (.iconst 0)],
  [some (.anewarray 10), none, none, some (.putfield 22), none, none, some (.aload_n 0), some (.iload 4), none, some (.anewarray 10), none, none, some (.putfield 26), none, none, some (.aload_n 0)],
  [some (.iconst 0), some (.putfield 29), none, none, some (.return_)]]
set_option maxRecDepth 100000 in
theorem ck_10 : jw_chk prog_10_method_1_code cd_10 = true := by decide +kernel
def cd_11 : List (List (Option Instr)) := [[some (.aload_n 0), some (.invokespecial 3), none, none, some (.aload_n 0), some (.aload_n 1), some (.putfield 9), none, none, some (.aload_n 0), some (.new 15), none, none, some (.dup), some (.aload_n 1), some (.invokespecial 17)],
  [none, none, some (.putfield 20), none, none, some (.aload_n 0), some (.iconst 0), some (.putfield 24), none, none, some (.return_)]]
set_option maxRecDepth 100000 in
theorem ck_11 : jw_chk prog_3_method_1_code cd_11 = true := by decide +kernel
def cd_12 : List (List (Option Instr)) := [[some (.aload_n 0), some (.invokespecial 3), none, none, some (.aload_n 0), some (.aload_n 1), some (.putfield 9), none, none, some (.return_)]]
set_option maxRecDepth 100000 in
theorem ck_12 : jw_chk prog_13_method_1_code cd_12 = true := by decide +kernel
def cd_13 : List (List (Option Instr)) := [[some (.aload_n 0), some (.getfield 9), none, none, some (.tableswitch 144 1 6 #[40, 50, 60, 72, 98, 121]), none, none, none, none, none, none, none, none, none, none, none],
  [none, none, none, none, none, none, none, none, none, none, none, none, none, none, none, none],
  [none, none, none, none, none, none, none, none, none, none, none, none, some (.aload_n 1), some (.bipush 102), none, some (.invokevirtual 95)],
  [none, none, some (.pop), some (.goto 104), none, none, some (.aload_n 1), some (.bipush 116), none, some (.invokevirtual 95), none, none, some (.pop), some (.goto 94), none, none],
  [some (.aload_n 1), some (.aload_n 0), some (.getfield 15), none, none, some (.invokevirtual 101), none, none, some (.pop), some (.goto 82), none, none, some (.aload_n 1), some (.bipush 39), none, some (.invokevirtual 95)],
  [none, none, some (.pop), some (.aload_n 1), some (.aload_n 0), some (.getfield 18), none, none, some (.invokevirtual 104), none, none, some (.pop), some (.aload_n 1), some (.bipush 39), none, some (.invokevirtual 95)],
  [none, none, some (.pop), some (.goto 56), none, none, some (.aload_n 1), some (.bipush 91), none, some (.invokevirtual 95), none, none, some (.pop), some (.aload_n 0), some (.aload_n 1), some (.iload_n 2)],
  [some (.invokevirtual 107), none, none, some (.aload_n 1), some (.bipush 93), none, some (.invokevirtual 95), none, none, some (.pop), some (.goto 33), none, none, some (.aload_n 1), some (.bipush 123), none],
  [some (.invokevirtual 95), none, none, some (.pop), some (.aload_n 0), some (.aload_n 1), some (.iload_n 2), some (.invokevirtual 107), none, none, some (.aload_n 1), some (.bipush 125), none, some (.invokevirtual 95), none, none],
  [some (.pop), some (.goto 10), none, none, some (.aload_n 1), some (.bipush 110), none, some (.invokevirtual 95), none, none, some (.pop), some (.return_)]]
set_option maxRecDepth 100000 in
theorem ck_13 : jw_chk prog_10_method_18_code cd_13 = true := by decide +kernel
def cd_14 : List (List (Option Instr)) := [[some (.aload_n 0), some (.iload_n 1), some (.invokespecial 50), none, none, some (.pop), some (.aload_n 0), some (.areturn)]]
set_option maxRecDepth 100000 in
theorem ck_14 : jw_chk prog_28_method_14_code cd_14 = true := by decide +kernel
def cd_15 : List (List (Option Instr)) := [[some (.aload_n 0), some (.aload_n 0), some (.getfield 79), none, none, some (.iconst 1), some (.iadd), some (.invokevirtual 100), none, none, some (.aload_n 0), some (.invokevirtual 83), none, none, some (.ifCond .eq 31), none],
  [none, some (.iload_n 1), some (.invokestatic 191), none, none, some (.ifCond .eq 24), none, none, some (.aload_n 0), some (.getfield 15), none, none, some (.aload_n 0), some (.dup), some (.getfield 79), none],
  [none, some (.dup_x1), some (.iconst 1), some (.iadd), some (.putfield 79), none, none, some (.iload_n 1), some (.i2b), some (.bastore), some (.goto 33), none, none, some (.aload_n 0), some (.invokevirtual 83), none],
  [none, some (.ifCond .eq 7), none, none, some (.aload_n 0), some (.invokevirtual 195), none, none, some (.aload_n 0), some (.getfield 15), none, none, some (.aload_n 0), some (.dup), some (.getfield 79), none],
  [none, some (.dup_x1), some (.iconst 1), some (.iadd), some (.putfield 79), none, none, some (.iload_n 1), some (.invokestatic 197), none, none, some (.aload_n 0), some (.areturn)]]
set_option maxRecDepth 100000 in
theorem ck_15 : jw_chk prog_17_method_31_code cd_15 = true := by decide +kernel
def cd_16 : List (List (Option Instr)) := [[some (.aload_n 0), some (.getfield 15), none, none, some (.arraylength), some (.aload_n 0), some (.getfield 22), none, none, some (.ishr), some (.istore_n 2), some (.iload_n 1), some (.iload_n 2), some (.isub), some (.ifCond .le 24), none],
  [none, some (.aload_n 0), some (.aload_n 0), some (.getfield 15), none, none, some (.aload_n 0), some (.iload_n 1), some (.invokevirtual 104), none, none, some (.aload_n 0), some (.getfield 22), none, none, some (.ishl)],
  [some (.invokestatic 108), none, none, some (.putfield 15), none, none, some (.return_)]]
set_option maxRecDepth 100000 in
theorem ck_16 : jw_chk prog_17_method_9_code cd_16 = true := by decide +kernel
def cd_17 : List (List (Option Instr)) := [[some (.aload_n 0), some (.getfield 15), none, none, some (.arraylength), some (.istore_n 2), some (.iload_n 1), some (.aload_n 0), some (.getfield 22), none, none, some (.ishl), some (.istore_n 3), some (.iload_n 3), some (.iload_n 2), some (.isub)],
  [some (.istore 4), none, some (.iload_n 2), some (.iload 4), none, some (.iload_n 2), some (.iconst 2), some (.aload_n 0), some (.getfield 22), none, none, some (.ishl), some (.iadd), some (.invokestatic 114), none, none],
  [some (.istore 5), none, some (.iload 5), none, some (.ldc 39), none, some (.if_icmp .ne 13), none, none, some (.new 120), none, none, some (.dup), some (.ldc 122), none, some (.invokespecial 124)],
  [none, none, some (.athrow), some (.iload 5), none, some (.aload_n 0), some (.getfield 22), none, none, some (.ishr), some (.ireturn)]]
set_option maxRecDepth 100000 in
theorem ck_17 : jw_chk prog_17_method_10_code cd_17 = true := by decide +kernel
def cd_18 : List (List (Option Instr)) := [[some (.iload_n 0), some (.iload_n 1), some (.iload_n 2), some (.invokestatic 194), none, none, some (.iadd), some (.istore_n 3), some (.iconst 0), some (.iload_n 3), some (.if_icmp .ge 11), none, none, some (.iload_n 3), some (.ldc 200), none],
  [some (.if_icmp .gt 5), none, none, some (.iload_n 3), some (.ireturn), some (.iload_n 0), some (.iload_n 1), some (.invokestatic 201), none, none, some (.ireturn)]]
set_option maxRecDepth 100000 in
theorem ck_18 : jw_chk prog_42_method_27_code cd_18 = true := by decide +kernel
def cd_19 : List (List (Option Instr)) := [[some (.iload_n 0), some (.iload_n 1), some (.if_icmp .lt 7), none, none, some (.iload_n 0), some (.goto 4), none, none, some (.iload_n 1), some (.ireturn)]]
set_option maxRecDepth 100000 in
theorem ck_19 : jw_chk prog_25_method_65_code cd_19 = true := by decide +kernel
def cd_20 : List (List (Option Instr)) := [[some (.iload_n 0), some (.iload_n 1), some (.iadd), some (.istore_n 2), some (.iload_n 2), some (.ifCond .ge 44), none, none, some (.new 204), none, none, some (.dup), some (.new 89), none, none, some (.dup)],
  [some (.invokespecial 91), none, none, some (.ldc 206), none, some (.invokevirtual 94), none, none, some (.iload_n 0), some (.invokevirtual 98), none, none, some (.ldc 208), none, some (.invokevirtual 94), none],
  [none, some (.iload_n 1), some (.invokevirtual 98), none, none, some (.ldc 210), none, some (.invokevirtual 94), none, none, some (.invokevirtual 101), none, none, some (.invokespecial 212), none, none],
  [some (.athrow), some (.iload_n 2), some (.ldc 200), none, some (.if_icmp .gt 6), none, none, some (.ldc 200), none, some (.ireturn), some (.iload_n 2), some (.ireturn)]]
set_option maxRecDepth 100000 in
theorem ck_20 : jw_chk prog_42_method_28_code cd_20 = true := by decide +kernel
def cd_21 : List (List (Option Instr)) := [[some (.iload_n 1), some (.aload_n 0), some (.arraylength), some (.if_icmp .ne 11), none, none, some (.aload_n 0), some (.invokevirtual 310), none, none, some (.checkcast 311), none, none, some (.areturn), some (.iload_n 1), some (.newarray .byte)],
  [none, some (.astore_n 2), some (.aload_n 0), some (.iconst 0), some (.aload_n 2), some (.iconst 0), some (.aload_n 0), some (.arraylength), some (.iload_n 1), some (.invokestatic 304), none, none, some (.invokestatic 150), none, none, some (.aload_n 2)],
  [some (.areturn)]]
set_option maxRecDepth 100000 in
theorem ck_21 : jw_chk prog_36_method_121_code cd_21 = true := by decide +kernel
def cd_22 : List (List (Option Instr)) := [[some (.iload_n 0), some (.iload_n 1), some (.if_icmp .gt 7), none, none, some (.iload_n 0), some (.goto 4), none, none, some (.iload_n 1), some (.ireturn)]]
set_option maxRecDepth 100000 in
theorem ck_22 : jw_chk prog_25_method_69_code cd_22 = true := by decide +kernel
def cd_23 : List (List (Option Instr)) := [[some (.getstatic 18), none, none, some (.ifCond .eq 14), none, none, some (.aload_n 0), some (.getfield 22), none, none, some (.ifCond .ne 7), none, none, some (.iconst 1), some (.goto 4), none],
  [none, some (.iconst 0), some (.ireturn)]]
set_option maxRecDepth 100000 in
theorem ck_23 : jw_chk prog_17_method_68_code cd_23 = true := by decide +kernel
def cd_24 : List (List (Option Instr)) := [[some (.iload_n 0), some (.sipush 255), none, none, some (.if_icmp .gt 7), none, none, some (.iconst 1), some (.goto 4), none, none, some (.iconst 0), some (.ireturn)]]
set_option maxRecDepth 100000 in
theorem ck_24 : jw_chk prog_29_method_3_code cd_24 = true := by decide +kernel
def cd_25 : List (List (Option Instr)) := [[some (.aload_n 0), some (.invokevirtual 83), none, none, some (.ifCond .ne 4), none, none, some (.return_), some (.aload_n 0), some (.getfield 15), none, none, some (.arraylength), some (.invokestatic 26), none, none],
  [some (.astore_n 1), some (.aload_n 0), some (.getfield 15), none, none, some (.iconst 0), some (.aload_n 1), some (.iconst 0), some (.aload_n 0), some (.getfield 79), none, none, some (.invokestatic 125), none, none, some (.aload_n 0)],
  [some (.aload_n 1), some (.putfield 15), none, none, some (.aload_n 0), some (.iconst 1), some (.putfield 22), none, none, some (.return_)]]
set_option maxRecDepth 100000 in
theorem ck_25 : jw_chk prog_17_method_11_code cd_25 = true := by decide +kernel
def cd_26 : List (List (Option Instr)) := [[some (.aload_n 0), some (.iload_n 1), some (.aload_n 2), some (.iload_n 3), some (.iload 4), none, some (.invokestatic 240), none, none, some (.return_)]]
set_option maxRecDepth 100000 in
theorem ck_26 : jw_chk prog_29_method_50_code cd_26 = true := by decide +kernel
def cd_27 : List (List (Option Instr)) := [[some (.iload_n 3), some (.iload 4), none, some (.aload_n 2), some (.invokestatic 173), none, none, some (.iconst 0), some (.istore 5), none, some (.iload 5), none, some (.iload 4), none, some (.if_icmp .ge 27), none],
  [none, some (.aload_n 2), some (.iload_n 3), some (.iinc 3 1), none, none, some (.aload_n 0), some (.iload_n 1), some (.iinc 1 1), none, none, some (.baload), some (.sipush 255), none, none, some (.iand)],
  [some (.invokestatic 111), none, none, some (.iinc 5 1), none, none, some (.goto (-28)), none, none, some (.return_)]]
set_option maxRecDepth 100000 in
theorem ck_27 : jw_chk prog_30_method_86_code cd_27 = true := by decide +kernel
def cd_28 : List (List (Option Instr)) := [[some (.iload_n 0), some (.iload_n 1), some (.aload_n 2), some (.invokestatic 48), none, none, some (.invokestatic 419), none, none, some (.pop), some (.return_)]]
set_option maxRecDepth 100000 in
theorem ck_28 : jw_chk prog_30_method_94_code cd_28 = true := by decide +kernel
def cd_29 : List (List (Option Instr)) := [[some (.aload_n 0), some (.arraylength), some (.iconst 1), some (.ishr), some (.ireturn)]]
set_option maxRecDepth 100000 in
theorem ck_29 : jw_chk prog_30_method_6_code cd_29 = true := by decide +kernel
def cd_30 : List (List (Option Instr)) := [[some (.iload_n 0), some (.iload_n 1), some (.iload_n 2), some (.getstatic 1053), none, none, some (.invokestatic 1065), none, none, some (.ireturn)]]
set_option maxRecDepth 100000 in
theorem ck_30 : jw_chk prog_27_method_157_code cd_30 = true := by decide +kernel
def cd_31 : List (List (Option Instr)) := [[some (.iload_n 2), some (.iload_n 0), some (.ior), some (.iload_n 1), some (.ior), some (.ifCond .lt 10), none, none, some (.iload_n 1), some (.iload_n 2), some (.iload_n 0), some (.isub), some (.if_icmp .le 11), none, none, some (.aload_n 3)],
  [some (.iload_n 0), some (.iload_n 1), some (.iload_n 2), some (.invokestatic 103), none, none, some (.athrow), some (.iload_n 0), some (.ireturn)]]
set_option maxRecDepth 100000 in
theorem ck_31 : jw_chk prog_43_method_13_code cd_31 = true := by decide +kernel
def cd_32 : List (List (Option Instr)) := [[some (.getstatic 44), none, none, some (.ifCond .ne 25), none, none, some (.iload_n 1), some (.ifCond .lt 11), none, none, some (.iload_n 1), some (.aload_n 0), some (.invokestatic 48), none, none, some (.if_icmp .lt 13)],
  [none, none, some (.new 52), none, none, some (.dup), some (.ldc 54), none, some (.invokespecial 56), none, none, some (.athrow), some (.iload_n 1), some (.iconst 1), some (.ishl), some (.istore_n 1)],
  [some (.aload_n 0), some (.iload_n 1), some (.iinc 1 1), none, none, some (.iload_n 2), some (.getstatic 59), none, none, some (.ishr), some (.i2b), some (.bastore), some (.aload_n 0), some (.iload_n 1), some (.iload_n 2), some (.getstatic 63)],
  [none, none, some (.ishr), some (.i2b), some (.bastore), some (.return_)]]
set_option maxRecDepth 100000 in
theorem ck_32 : jw_chk prog_30_method_4_code cd_32 = true := by decide +kernel
def cd_33 : List (List (Option Instr)) := [[some (.iload_n 1), some (.aload_n 0), some (.invokestatic 67), none, none, some (.aload_n 0), some (.iload_n 1), some (.iload_n 2), some (.invokestatic 111), none, none, some (.return_)]]
set_option maxRecDepth 100000 in
theorem ck_33 : jw_chk prog_30_method_71_code cd_33 = true := by decide +kernel
def cd_34 : List (List (Option Instr)) := [[some (.iload_n 0), some (.aload_n 1), some (.invokestatic 48), none, none, some (.invokestatic 414), none, none, some (.return_)]]
set_option maxRecDepth 100000 in
theorem ck_34 : jw_chk prog_30_method_91_code cd_34 = true := by decide +kernel
def cd_35 : List (List (Option Instr)) := [[some (.iload_n 0), some (.iload_n 1), some (.getstatic 1053), none, none, some (.invokestatic 1059), none, none, some (.pop), some (.return_)]]
set_option maxRecDepth 100000 in
theorem ck_35 : jw_chk prog_27_method_155_code cd_35 = true := by decide +kernel
def cd_36 : List (List (Option Instr)) := [[some (.iload_n 0), some (.ifCond .lt 8), none, none, some (.iload_n 0), some (.iload_n 1), some (.if_icmp .lt 10), none, none, some (.aload_n 2), some (.iload_n 0), some (.iload_n 1), some (.invokestatic 95), none, none, some (.athrow)],
  [some (.iload_n 0), some (.ireturn)]]
set_option maxRecDepth 100000 in
theorem ck_36 : jw_chk prog_43_method_11_code cd_36 = true := by decide +kernel
def cd_37 : List (List (Option Instr)) := [[some (.aload_n 0), some (.iload_n 1), some (.invokespecial 53), none, none, some (.pop), some (.aload_n 0), some (.areturn)]]
set_option maxRecDepth 100000 in
theorem ck_37 : jw_chk prog_28_method_15_code cd_37 = true := by decide +kernel
def cd_38 : List (List (Option Instr)) := [[some (.aload_n 0), some (.getfield 79), none, none, some (.istore_n 2), some (.iload_n 2), some (.iload_n 1), some (.invokestatic 245), none, none, some (.iadd), some (.istore_n 3), some (.aload_n 0), some (.iload_n 3), some (.invokevirtual 100), none],
  [none, some (.aload_n 0), some (.invokevirtual 83), none, none, some (.ifCond .eq 16), none, none, some (.iload_n 1), some (.iload_n 3), some (.aload_n 0), some (.getfield 15), none, none, some (.invokestatic 248), none],
  [none, some (.pop), some (.goto 14), none, none, some (.iload_n 1), some (.iload_n 2), some (.iload_n 3), some (.aload_n 0), some (.getfield 15), none, none, some (.invokestatic 251), none, none, some (.pop)],
  [some (.aload_n 0), some (.iload_n 3), some (.putfield 79), none, none, some (.aload_n 0), some (.areturn)]]
set_option maxRecDepth 100000 in
theorem ck_38 : jw_chk prog_17_method_32_code cd_38 = true := by decide +kernel
def cd_39 : List (List (Option Instr)) := [[some (.iconst 1), some (.istore_n 1), some (.iload_n 0), some (.ifCond .lt 8), none, none, some (.iconst 0), some (.istore_n 1), some (.iload_n 0), some (.ineg), some (.istore_n 0), some (.bipush (-10)), none, some (.istore_n 2), some (.iconst 1), some (.istore_n 3)],
  [some (.iload_n 3), some (.bipush 10), none, some (.if_icmp .ge 23), none, none, some (.iload_n 0), some (.iload_n 2), some (.if_icmp .le 7), none, none, some (.iload_n 3), some (.iload_n 1), some (.iadd), some (.ireturn), some (.bipush 10)],
  [none, some (.iload_n 2), some (.imul), some (.istore_n 2), some (.iinc 3 1), none, none, some (.goto (-23)), none, none, some (.bipush 10), none, some (.iload_n 1), some (.iadd), some (.ireturn)]]
set_option maxRecDepth 100000 in
theorem ck_39 : jw_chk prog_23_method_13_code cd_39 = true := by decide +kernel
def cd_40 : List (List (Option Instr)) := [[some (.iload_n 1), some (.istore 5), none, some (.iload_n 0), some (.ifCond .ge 7), none, none, some (.iconst 1), some (.goto 4), none, none, some (.iconst 0), some (.istore 6), none, some (.iload 6), none],
  [some (.ifCond .ne 6), none, none, some (.iload_n 0), some (.ineg), some (.istore_n 0), some (.iload_n 0), some (.bipush (-100)), none, some (.if_icmp .gt 47), none, none, some (.iload_n 0), some (.bipush 100), none, some (.idiv)],
  [some (.istore_n 3), some (.iload_n 3), some (.bipush 100), none, some (.imul), some (.iload_n 0), some (.isub), some (.istore 4), none, some (.iload_n 3), some (.istore_n 0), some (.aload_n 2), some (.iinc 5 (-1)), none, none, some (.iload 5)],
  [none, some (.getstatic 83), none, none, some (.iload 4), none, some (.baload), some (.bastore), some (.aload_n 2), some (.iinc 5 (-1)), none, none, some (.iload 5), none, some (.getstatic 87), none],
  [none, some (.iload 4), none, some (.baload), some (.bastore), some (.goto (-47)), none, none, some (.aload_n 2), some (.iinc 5 (-1)), none, none, some (.iload 5), none, some (.getstatic 83), none],
  [none, some (.iload_n 0), some (.ineg), some (.baload), some (.bastore), some (.iload_n 0), some (.bipush (-9)), none, some (.if_icmp .ge 16), none, none, some (.aload_n 2), some (.iinc 5 (-1)), none, none, some (.iload 5)],
  [none, some (.getstatic 87), none, none, some (.iload_n 0), some (.ineg), some (.baload), some (.bastore), some (.iload 6), none, some (.ifCond .eq 12), none, none, some (.aload_n 2), some (.iinc 5 (-1)), none],
  [none, some (.iload 5), none, some (.bipush 45), none, some (.bastore), some (.iload 5), none, some (.ireturn)]]
set_option maxRecDepth 100000 in
theorem ck_40 : jw_chk prog_23_method_12_code cd_40 = true := by decide +kernel
def cd_41 : List (List (Option Instr)) := [[some (.iload_n 1), some (.iload_n 2), some (.aload_n 3), some (.invokestatic 96), none, none, some (.iload_n 0), some (.iload_n 2), some (.aload_n 3), some (.invokestatic 393), none, none, some (.istore 4), none, some (.getstatic 44), none],
  [none, some (.ifCond .ne 17), none, none, some (.iload_n 1), some (.iload 4), none, some (.if_icmp .eq 11), none, none, some (.new 52), none, none, some (.dup), some (.invokespecial 66), none],
  [none, some (.athrow), some (.iload 4), none, some (.ireturn)]]
set_option maxRecDepth 100000 in
theorem ck_41 : jw_chk prog_30_method_77_code cd_41 = true := by decide +kernel
def cd_42 : List (List (Option Instr)) := [[some (.iload_n 0), some (.iload_n 1), some (.aload_n 2), some (.invokestatic 48), none, none, some (.invokestatic 241), none, none, some (.return_)]]
set_option maxRecDepth 100000 in
theorem ck_42 : jw_chk prog_30_method_93_code cd_42 = true := by decide +kernel
def cd_43 : List (List (Option Instr)) := [[some (.iload_n 0), some (.iload_n 1), some (.iload_n 2), some (.getstatic 1053), none, none, some (.invokestatic 1062), none, none, some (.pop), some (.return_)]]
set_option maxRecDepth 100000 in
theorem ck_43 : jw_chk prog_27_method_158_code cd_43 = true := by decide +kernel
def cd_44 : List (List (Option Instr)) := [[some (.iload_n 0), some (.ifCond .lt 13), none, none, some (.iload_n 0), some (.iload_n 1), some (.if_icmp .gt 8), none, none, some (.iload_n 1), some (.iload_n 2), some (.if_icmp .le 11), none, none, some (.aload_n 3), some (.iload_n 0)],
  [some (.iload_n 1), some (.iload_n 2), some (.invokestatic 99), none, none, some (.athrow), some (.iload_n 0), some (.ireturn)]]
set_option maxRecDepth 100000 in
theorem ck_44 : jw_chk prog_43_method_12_code cd_44 = true := by decide +kernel
def cd_45 : List (List (Option Instr)) := [[some (.iload_n 1), some (.istore 5), none, some (.iload_n 0), some (.ifCond .ge 7), none, none, some (.iconst 1), some (.goto 4), none, none, some (.iconst 0), some (.istore 6), none, some (.iload 6), none],
  [some (.ifCond .ne 6), none, none, some (.iload_n 0), some (.ineg), some (.istore_n 0), some (.iload_n 0), some (.bipush (-100)), none, some (.if_icmp .gt 51), none, none, some (.iload_n 0), some (.bipush 100), none, some (.idiv)],
  [some (.istore_n 3), some (.iload_n 3), some (.bipush 100), none, some (.imul), some (.iload_n 0), some (.isub), some (.istore 4), none, some (.iload_n 3), some (.istore_n 0), some (.aload_n 2), some (.iinc 5 (-1)), none, none, some (.iload 5)],
  [none, some (.getstatic 403), none, none, some (.iload 4), none, some (.baload), some (.invokestatic 111), none, none, some (.aload_n 2), some (.iinc 5 (-1)), none, none, some (.iload 5), none],
  [some (.getstatic 407), none, none, some (.iload 4), none, some (.baload), some (.invokestatic 111), none, none, some (.goto (-51)), none, none, some (.aload_n 2), some (.iinc 5 (-1)), none, none],
  [some (.iload 5), none, some (.getstatic 403), none, none, some (.iload_n 0), some (.ineg), some (.baload), some (.invokestatic 111), none, none, some (.iload_n 0), some (.bipush (-9)), none, some (.if_icmp .ge 18), none],
  [none, some (.aload_n 2), some (.iinc 5 (-1)), none, none, some (.iload 5), none, some (.getstatic 407), none, none, some (.iload_n 0), some (.ineg), some (.baload), some (.invokestatic 111), none, none],
  [some (.iload 6), none, some (.ifCond .eq 14), none, none, some (.aload_n 2), some (.iinc 5 (-1)), none, none, some (.iload 5), none, some (.bipush 45), none, some (.invokestatic 111), none, none],
  [some (.iload 5), none, some (.ireturn)]]
set_option maxRecDepth 100000 in
theorem ck_45 : jw_chk prog_30_method_89_code cd_45 = true := by decide +kernel
def cd_46 : List (List (Option Instr)) := [[some (.aload_n 0), some (.aload_n 1), some (.invokespecial 29), none, none, some (.pop), some (.aload_n 0), some (.areturn)]]
set_option maxRecDepth 100000 in
theorem ck_46 : jw_chk prog_28_method_7_code cd_46 = true := by decide +kernel
def cd_47 : List (List (Option Instr)) := [[some (.aload_n 1), some (.ifnonnull 8), none, none, some (.aload_n 0), some (.invokevirtual 204), none, none, some (.areturn), some (.aload_n 1), some (.invokevirtual 32), none, none, some (.istore_n 2), some (.aload_n 0), some (.aload_n 0)],
  [some (.getfield 79), none, none, some (.iload_n 2), some (.iadd), some (.invokevirtual 100), none, none, some (.aload_n 0), some (.aload_n 0), some (.getfield 79), none, none, some (.aload_n 1), some (.invokevirtual 208), none],
  [none, some (.aload_n 0), some (.dup), some (.getfield 79), none, none, some (.iload_n 2), some (.iadd), some (.putfield 79), none, none, some (.aload_n 0), some (.areturn)]]
set_option maxRecDepth 100000 in
theorem ck_47 : jw_chk prog_17_method_22_code cd_47 = true := by decide +kernel
def cd_48 : List (List (Option Instr)) := [[some (.aload_n 0), some (.aload_n 0), some (.getfield 79), none, none, some (.iconst 4), some (.iadd), some (.invokevirtual 100), none, none, some (.aload_n 0), some (.getfield 79), none, none, some (.istore_n 1), some (.aload_n 0)],
  [some (.getfield 15), none, none, some (.astore_n 2), some (.aload_n 0), some (.invokevirtual 83), none, none, some (.ifCond .eq 38), none, none, some (.aload_n 2), some (.iload_n 1), some (.iinc 1 1), none, none],
  [some (.bipush 110), none, some (.bastore), some (.aload_n 2), some (.iload_n 1), some (.iinc 1 1), none, none, some (.bipush 117), none, some (.bastore), some (.aload_n 2), some (.iload_n 1), some (.iinc 1 1), none, none],
  [some (.bipush 108), none, some (.bastore), some (.aload_n 2), some (.iload_n 1), some (.iinc 1 1), none, none, some (.bipush 108), none, some (.bastore), some (.goto 17), none, none, some (.aload_n 2), some (.iload_n 1)],
  [some (.bipush 110), none, some (.bipush 117), none, some (.bipush 108), none, some (.bipush 108), none, some (.invokestatic 226), none, none, some (.istore_n 1), some (.aload_n 0), some (.iload_n 1), some (.putfield 79), none],
  [none, some (.aload_n 0), some (.areturn)]]
set_option maxRecDepth 100000 in
theorem ck_48 : jw_chk prog_17_method_26_code cd_48 = true := by decide +kernel
def cd_49 : List (List (Option Instr)) := [[some (.iload_n 1), some (.iconst 4), some (.iadd), some (.istore 6), none, some (.iload_n 1), some (.iload 6), none, some (.aload_n 0), some (.invokestatic 96), none, none, some (.aload_n 0), some (.iload_n 1), some (.iinc 1 1), none],
  [none, some (.iload_n 2), some (.invokestatic 111), none, none, some (.aload_n 0), some (.iload_n 1), some (.iinc 1 1), none, none, some (.iload_n 3), some (.invokestatic 111), none, none, some (.aload_n 0), some (.iload_n 1)],
  [some (.iinc 1 1), none, none, some (.iload 4), none, some (.invokestatic 111), none, none, some (.aload_n 0), some (.iload_n 1), some (.iinc 1 1), none, none, some (.iload 5), none, some (.invokestatic 111)],
  [none, none, some (.getstatic 44), none, none, some (.ifCond .ne 17), none, none, some (.iload_n 1), some (.iload 6), none, some (.if_icmp .eq 11), none, none, some (.new 52), none],
  [none, some (.dup), some (.invokespecial 66), none, none, some (.athrow), some (.iload 6), none, some (.ireturn)]]
set_option maxRecDepth 100000 in
theorem ck_49 : jw_chk prog_30_method_81_code cd_49 = true := by decide +kernel
def cd_50 : List (List (Option Instr)) := [[some (.aload_n 0), some (.getfield 9), none, none, some (.arraylength), some (.aload_n 0), some (.invokevirtual 335), none, none, some (.ishr), some (.ireturn)]]
set_option maxRecDepth 100000 in
theorem ck_50 : jw_chk prog_27_method_54_code cd_50 = true := by decide +kernel
def cd_51 : List (List (Option Instr)) := [[some (.getstatic 38), none, none, some (.ifCond .eq 10), none, none, some (.aload_n 0), some (.getfield 15), none, none, some (.goto 4), none, none, some (.iconst 1), some (.ireturn)]]
set_option maxRecDepth 100000 in
theorem ck_51 : jw_chk prog_27_method_152_code cd_51 = true := by decide +kernel
def cd_52 : List (List (Option Instr)) := [[some (.aload_n 0), some (.aload_n 2), some (.invokevirtual 397), none, none, some (.aload_n 2), some (.aload_n 0), some (.getfield 15), none, none, some (.iload_n 1), some (.aload_n 0), some (.getfield 22), none, none, some (.invokevirtual 399)],
  [none, none, some (.return_)]]
set_option maxRecDepth 100000 in
theorem ck_52 : jw_chk prog_17_method_73_code cd_52 = true := by decide +kernel
def cd_53 : List (List (Option Instr)) := [[some (.getstatic 18), none, none, some (.ifCond .eq 18), none, none, some (.aload_n 0), some (.getfield 22), none, none, some (.aload_n 1), some (.invokevirtual 40), none, none, some (.if_icmp .eq 7), none],
  [none, some (.aload_n 0), some (.invokevirtual 195), none, none, some (.return_)]]
set_option maxRecDepth 100000 in
theorem ck_53 : jw_chk prog_17_method_71_code cd_53 = true := by decide +kernel
def cd_54 : List (List (Option Instr)) := [[some (.aload_n 0), some (.invokevirtual 335), none, none, some (.iload_n 3), some (.if_icmp .ne 23), none, none, some (.aload_n 0), some (.getfield 9), none, none, some (.iconst 0), some (.aload_n 1), some (.iload_n 2), some (.iload_n 3)],
  [some (.ishl), some (.aload_n 0), some (.getfield 9), none, none, some (.arraylength), some (.invokestatic 212), none, none, some (.goto 18), none, none, some (.aload_n 0), some (.getfield 9), none, none],
  [some (.iconst 0), some (.aload_n 1), some (.iload_n 2), some (.aload_n 0), some (.getfield 9), none, none, some (.arraylength), some (.invokestatic 106), none, none, some (.return_)]]
set_option maxRecDepth 100000 in
theorem ck_54 : jw_chk prog_27_method_147_code cd_54 = true := by decide +kernel
def cd_55 : List (List (Option Instr)) := [[some (.iconst 0), some (.istore_n 3), some (.iload_n 3), some (.aload_n 0), some (.getfield 29), none, none, some (.if_icmp .ge 69), none, none, some (.iload_n 2), some (.bipush 8), none, some (.if_icmp .ge 63), none, none],
  [some (.iload_n 3), some (.ifCond .le 10), none, none, some (.aload_n 1), some (.bipush 44), none, some (.invokevirtual 95), none, none, some (.pop), some (.aload_n 0), some (.getfield 9), none, none, some (.bipush 6)],
  [none, some (.if_icmp .ne 24), none, none, some (.aload_n 1), some (.aload_n 0), some (.getfield 22), none, none, some (.iload_n 3), some (.aaload), some (.getfield 18), none, none, some (.invokevirtual 104), none],
  [none, some (.pop), some (.aload_n 1), some (.bipush 58), none, some (.invokevirtual 95), none, none, some (.pop), some (.aload_n 0), some (.getfield 26), none, none, some (.iload_n 3), some (.aaload), some (.aload_n 1)],
  [some (.iload_n 2), some (.iconst 1), some (.iadd), some (.invokevirtual 111), none, none, some (.iinc 3 1), none, none, some (.goto (-71)), none, none, some (.return_)]]
set_option maxRecDepth 100000 in
theorem ck_55 : jw_chk prog_10_method_19_code cd_55 = true := by decide +kernel
def cd_56 : List (List (Option Instr)) := [[some (.aload_n 0), some (.getfield 21), none, none, some (.iconst 0), some (.invokevirtual 92), none, none, some (.astore_n 1), some (.aload_n 0), some (.getfield 10), none, none, some (.invokevirtual 95), none, none],
  [some (.istore_n 2), some (.iload_n 2), some (.iconst (-1)), some (.if_icmp .eq 7), none, none, some (.iconst (-1)), some (.iload_n 2), some (.isub), some (.ireturn), some (.aload_n 0), some (.aload_n 1), some (.putfield 57), none, none, some (.aload_n 1)],
  [some (.iconst 0), some (.invokevirtual 99), none, none, some (.ireturn)]]
set_option maxRecDepth 100000 in
theorem ck_56 : jw_chk prog_1_method_3_code cd_56 = true := by decide +kernel
def cd_57 : List (List (Option Instr)) := [[some (.aload_n 0), some (.getfield 9), none, none, some (.invokevirtual 15), none, none, some (.istore_n 2), some (.iload_n 2), some (.invokestatic 21), none, none, some (.ifCond .eq 14), none, none, some (.aload_n 0)],
  [some (.getfield 9), none, none, some (.invokevirtual 25), none, none, some (.invokestatic 29), none, none, some (.areturn), some (.aload_n 0), some (.getfield 9), none, none, some (.bipush 39), none],
  [some (.invokevirtual 35), none, none, some (.ifCond .eq 14), none, none, some (.aload_n 0), some (.getfield 9), none, none, some (.invokevirtual 38), none, none, some (.invokestatic 42), none, none],
  [some (.areturn), some (.iload_n 1), some (.iconst 3), some (.if_icmp .gt 21), none, none, some (.aload_n 0), some (.getfield 9), none, none, some (.bipush 91), none, some (.invokevirtual 35), none, none, some (.ifCond .eq 9)],
  [none, none, some (.aload_n 0), some (.iload_n 1), some (.invokevirtual 46), none, none, some (.areturn), some (.iload_n 1), some (.iconst 3), some (.if_icmp .gt 21), none, none, some (.aload_n 0), some (.getfield 9), none],
  [none, some (.bipush 123), none, some (.invokevirtual 35), none, none, some (.ifCond .eq 9), none, none, some (.aload_n 0), some (.iload_n 1), some (.invokevirtual 49), none, none, some (.areturn), some (.aload_n 0)],
  [some (.invokevirtual 52), none, none, some (.areturn)]]
set_option maxRecDepth 100000 in
theorem ck_57 : jw_chk prog_11_method_2_code cd_57 = true := by decide +kernel
def cd_58 : List (List (Option Instr)) := [[some (.aload_n 0), some (.getfield 22), none, none, some (.iconst (-1)), some (.if_icmp .ne 26), none, none, some (.aload_n 0), some (.getfield 19), none, none, some (.aload_n 0), some (.getfield 15), none, none],
  [some (.if_icmp .ge 15), none, none, some (.aload_n 0), some (.getfield 9), none, none, some (.aload_n 0), some (.getfield 19), none, none, some (.caload), some (.goto 4), none, none, some (.iconst 0)],
  [some (.ireturn)]]
set_option maxRecDepth 100000 in
theorem ck_58 : jw_chk prog_9_method_5_code cd_58 = true := by decide +kernel
