/-! instructions of the methods, as decoded (printed by program: gen2.py) -/
def cd_262 : List (List (Option Instr)) := [[some (.aload_n 0), some (.getfield 283), none, none, some (.iconst 1), some (.if_icmp .le 161), none, none, some (.aload_n 0), some (.dup), some (.getfield 283), none, none, some (.iconst 1), some (.isub), some (.putfield 283)],
  [none, none, some (.aload_n 0), some (.getfield 98), none, none, some (.aload_n 0), some (.getfield 283), none, none, some (.iaload), some (.istore_n 1), some (.aload_n 0), some (.getfield 98), none, none],
  [some (.aload_n 0), some (.getfield 283), none, none, some (.iconst 1), some (.isub), some (.iaload), some (.istore_n 2), some (.iload_n 2), some (.iload_n 1), some (.if_icmp .ge 116), none, none, some (.aload_n 0), some (.getfield 95), none],
  [none, some (.iload_n 2), some (.iaload), some (.iconst 2), some (.if_icmp .ne 13), none, none, some (.aload_n 0), some (.getfield 89), none, none, some (.iload_n 2), some (.iconst (-1)), some (.iastore), some (.goto 83), none],
  [none, some (.aload_n 0), some (.iconst 4), some (.iconst 5), some (.iconst 0), some (.lconst 0), some (.invokevirtual 110), none, none, some (.istore_n 3), some (.iconst (-1)), some (.istore 4), none, some (.iload_n 1), some (.istore 5), none],
  [some (.iload 5), none, some (.aload_n 0), some (.getfield 264), none, none, some (.if_icmp .ge 52), none, none, some (.aload_n 0), some (.getfield 92), none, none, some (.iload 5), none, some (.iaload)],
  [some (.iload_n 2), some (.if_icmp .ne 35), none, none, some (.aload_n 0), some (.aload_n 0), some (.getfield 89), none, none, some (.iload 5), none, some (.iaload), some (.invokevirtual 270), none, none, some (.ifCond .ne 21)],
  [none, none, some (.aload_n 0), some (.iconst 4), some (.iload_n 3), some (.iload 4), none, some (.aload_n 0), some (.getfield 89), none, none, some (.iload 5), none, some (.iaload), some (.lconst 0), some (.invokevirtual 128)],
  [none, none, some (.istore 4), none, some (.iinc 5 1), none, none, some (.goto (-55)), none, none, some (.aload_n 0), some (.getfield 89), none, none, some (.iload_n 2), some (.iload_n 3)],
  [some (.iastore), some (.aload_n 0), some (.getfield 95), none, none, some (.iload_n 2), some (.iconst 0), some (.iastore), some (.iinc 2 1), none, none, some (.goto (-115)), none, none, some (.aload_n 0), some (.iload_n 1)],
  [some (.putfield 264), none, none, some (.goto (-163)), none, none, some (.return_)]]
set_option maxRecDepth 100000 in
theorem ck_262 : jw_chk prog_15_method_51_code cd_262 = true := by decide +kernel
def cd_263 : List (List (Option Instr)) := [[some (.iload_n 1), some (.iconst (-1)), some (.if_icmp .eq 12), none, none, some (.aload_n 0), some (.getfield 13), none, none, some (.iload_n 1), some (.iaload), some (.ifCond .ne 7), none, none, some (.iconst 1), some (.goto 4)],
  [none, none, some (.iconst 0), some (.ireturn)]]
set_option maxRecDepth 100000 in
theorem ck_263 : jw_chk prog_15_method_46_code cd_263 = true := by decide +kernel
def cd_264 : List (List (Option Instr)) := [[some (.aload_n 0), some (.iconst 4), some (.iconst 5), some (.iconst 0), some (.lconst 0), some (.invokevirtual 110), none, none, some (.istore_n 1), some (.iconst (-1)), some (.istore_n 2), some (.iconst 0), some (.istore_n 3), some (.iload_n 3), some (.aload_n 0), some (.getfield 264)],
  [none, none, some (.if_icmp .ge 37), none, none, some (.aload_n 0), some (.aload_n 0), some (.getfield 89), none, none, some (.iload_n 3), some (.iaload), some (.invokevirtual 270), none, none, some (.ifCond .ne 18)],
  [none, none, some (.aload_n 0), some (.iconst 4), some (.iload_n 1), some (.iload_n 2), some (.aload_n 0), some (.getfield 89), none, none, some (.iload_n 3), some (.iaload), some (.lconst 0), some (.invokevirtual 128), none, none],
  [some (.istore_n 2), some (.iinc 3 1), none, none, some (.goto (-39)), none, none, some (.iload_n 1), some (.ireturn)]]
set_option maxRecDepth 100000 in
theorem ck_264 : jw_chk prog_15_method_52_code cd_264 = true := by decide +kernel
def cd_265 : List (List (Option Instr)) := [[some (.aload_n 0), some (.iconst 0), some (.putfield 264), none, none, some (.aload_n 0), some (.iconst 1), some (.putfield 283), none, none, some (.aload_n 0), some (.getfield 98), none, none, some (.iconst 0), some (.iconst 0)],
  [some (.iastore), some (.aload_n 0), some (.getfield 23), none, none, some (.iload_n 1), some (.iaload), some (.istore_n 2), some (.iload_n 2), some (.iconst (-1)), some (.if_icmp .eq 88), none, none, some (.aload_n 0), some (.getfield 29), none],
  [none, some (.iload_n 2), some (.iaload), some (.istore_n 3), some (.aload_n 0), some (.getfield 13), none, none, some (.iload_n 3), some (.iaload), some (.iconst 5), some (.if_icmp .eq 9), none, none, some (.aload_n 0), some (.iload_n 3)],
  [some (.iconst 0), some (.invokevirtual 280), none, none, some (.aload_n 0), some (.getfield 13), none, none, some (.iload_n 3), some (.iaload), some (.iconst 5), some (.if_icmp .ne 12), none, none, some (.aload_n 0), some (.getfield 23)],
  [none, none, some (.iload_n 3), some (.iaload), some (.goto 4), none, none, some (.iconst (-1)), some (.istore 4), none, some (.iload 4), none, some (.iconst (-1)), some (.if_icmp .eq 27), none, none],
  [some (.aload_n 0), some (.aload_n 0), some (.getfield 29), none, none, some (.iload 4), none, some (.iaload), some (.iconst 0), some (.invokevirtual 280), none, none, some (.aload_n 0), some (.getfield 35), none, none],
  [some (.iload 4), none, some (.iaload), some (.istore 4), none, some (.goto (-27)), none, none, some (.aload_n 0), some (.getfield 35), none, none, some (.iload_n 2), some (.iaload), some (.istore_n 2), some (.goto (-87))],
  [none, none, some (.return_)]]
set_option maxRecDepth 100000 in
theorem ck_265 : jw_chk prog_15_method_53_code cd_265 = true := by decide +kernel
def cd_266 : List (List (Option Instr)) := [[some (.aload_n 0), some (.getfield 98), none, none, some (.aload_n 0), some (.getfield 283), none, none, some (.iconst 1), some (.isub), some (.iaload), some (.istore_n 3), some (.iload_n 3), some (.aload_n 0), some (.getfield 264), none],
  [none, some (.if_icmp .ge 141), none, none, some (.aload_n 0), some (.getfield 89), none, none, some (.iload_n 3), some (.iaload), some (.istore 4), none, some (.iload 4), none, some (.iconst (-1)), some (.if_icmp .eq 33)],
  [none, none, some (.aload_n 0), some (.getfield 47), none, none, some (.iload_n 1), some (.iaload), some (.ifCond .ne 24), none, none, some (.aload_n 0), some (.getfield 89), none, none, some (.iload_n 3)],
  [some (.aload_n 0), some (.iload 4), none, some (.aload_n 0), some (.getfield 50), none, none, some (.iload_n 1), some (.laload), some (.invokevirtual 132), none, none, some (.iastore), some (.goto 91), none, none],
  [some (.iload 4), none, some (.iconst (-1)), some (.if_icmp .eq 85), none, none, some (.aload_n 0), some (.getfield 59), none, none, some (.iconst 3), some (.iload_n 2), some (.imul), some (.iaload), some (.istore 5), none],
  [some (.aload_n 0), some (.getfield 13), none, none, some (.iload 4), none, some (.iaload), some (.iconst 5), some (.if_icmp .eq 7), none, none, some (.iconst (-1)), some (.goto 23), none, none, some (.iload 5)],
  [none, some (.ifCond .ge 16), none, none, some (.iload 5), none, some (.aload_n 0), some (.getfield 26), none, none, some (.iload 4), none, some (.iaload), some (.iadd), some (.goto 5), none],
  [none, some (.iload 5), none, some (.istore 6), none, some (.aload_n 0), some (.getfield 89), none, none, some (.iload_n 3), some (.iload 6), none, some (.ifCond .lt 15), none, none, some (.iload 6)],
  [none, some (.aload_n 0), some (.getfield 26), none, none, some (.iload 4), none, some (.iaload), some (.if_icmp .lt 7), none, none, some (.iconst (-1)), some (.goto 11), none, none, some (.aload_n 0)],
  [some (.iload 4), none, some (.iload 6), none, some (.invokevirtual 277), none, none, some (.iastore), some (.iinc 3 1), none, none, some (.goto (-143)), none, none, some (.return_)]]
set_option maxRecDepth 100000 in
theorem ck_266 : jw_chk prog_15_method_50_code cd_266 = true := by decide +kernel
def cd_267 : List (List (Option Instr)) := [[some (.aload_n 0), some (.getfield 23), none, none, some (.iload_n 1), some (.iaload), some (.istore_n 3), some (.iconst 0), some (.istore 4), none, some (.iload 4), none, some (.iload_n 2), some (.if_icmp .ge 16), none, none],
  [some (.aload_n 0), some (.getfield 35), none, none, some (.iload_n 3), some (.iaload), some (.istore_n 3), some (.iinc 4 1), none, none, some (.goto (-16)), none, none, some (.aload_n 0), some (.getfield 29), none],
  [none, some (.iload_n 3), some (.iaload), some (.ireturn)]]
set_option maxRecDepth 100000 in
theorem ck_267 : jw_chk prog_15_method_9_code cd_267 = true := by decide +kernel
def cd_268 : List (List (Option Instr)) := [[some (.aload_n 0), some (.getfield 98), none, none, some (.aload_n 0), some (.getfield 283), none, none, some (.iconst 1), some (.isub), some (.iaload), some (.istore_n 3), some (.aload_n 0), some (.getfield 264), none, none],
  [some (.istore 4), none, some (.aload_n 0), some (.getfield 98), none, none, some (.aload_n 0), some (.getfield 283), none, none, some (.aload_n 0), some (.getfield 264), none, none, some (.iastore), some (.aload_n 0)],
  [some (.dup), some (.getfield 283), none, none, some (.iconst 1), some (.iadd), some (.putfield 283), none, none, some (.iload_n 3), some (.istore 5), none, some (.iload 5), none, some (.iload 4), none],
  [some (.if_icmp .ge 162), none, none, some (.aload_n 0), some (.getfield 89), none, none, some (.iload 5), none, some (.iaload), some (.istore 6), none, some (.iload 6), none, some (.iconst (-1)), some (.if_icmp .eq 28)],
  [none, none, some (.aload_n 0), some (.getfield 13), none, none, some (.iload 6), none, some (.iaload), some (.iload_n 1), some (.iconst 3), some (.if_icmp .ne 8), none, none, some (.bipush 6), none],
  [some (.goto 4), none, none, some (.iconst 5), some (.if_icmp .ne 7), none, none, some (.iconst 1), some (.goto 4), none, none, some (.iconst 0), some (.istore 7), none, some (.aload_n 0), some (.getfield 95)],
  [none, none, some (.iload 5), none, some (.iload 7), none, some (.ifCond .eq 7), none, none, some (.iconst 1), some (.goto 4), none, none, some (.iconst 2), some (.iastore), some (.iload 7)],
  [none, some (.ifCond .eq 17), none, none, some (.iload_n 1), some (.iconst 5), some (.if_icmp .ne 12), none, none, some (.aload_n 0), some (.iload_n 2), some (.iload 6), none, some (.iload 5), none, some (.invokevirtual 286)],
  [none, none, some (.iload 7), none, some (.ifCond .eq 18), none, none, some (.iload_n 1), some (.iconst 5), some (.if_icmp .eq 13), none, none, some (.aload_n 0), some (.getfield 23), none, none],
  [some (.iload 6), none, some (.iaload), some (.goto 4), none, none, some (.iconst (-1)), some (.istore 8), none, some (.iload 8), none, some (.iconst (-1)), some (.if_icmp .eq 48), none, none, some (.iload_n 1)],
  [some (.iconst 4), some (.if_icmp .ne 18), none, none, some (.aload_n 0), some (.iload_n 2), some (.aload_n 0), some (.getfield 29), none, none, some (.iload 8), none, some (.iaload), some (.invokevirtual 290), none, none],
  [some (.ifCond .eq 16), none, none, some (.aload_n 0), some (.aload_n 0), some (.getfield 29), none, none, some (.iload 8), none, some (.iaload), some (.iload 5), none, some (.invokevirtual 280), none, none],
  [some (.aload_n 0), some (.getfield 35), none, none, some (.iload 8), none, some (.iaload), some (.istore 8), none, some (.goto (-48)), none, none, some (.iinc 5 1), none, none, some (.goto (-163))],
  [none, none, some (.return_)]]
set_option maxRecDepth 100000 in
theorem ck_268 : jw_chk prog_15_method_49_code cd_268 = true := by decide +kernel
def cd_269 : List (List (Option Instr)) := [[some (.aload_n 0), some (.getfield 26), none, none, some (.iload_n 2), some (.iaload), some (.istore 4), none, some (.aload_n 0), some (.getfield 56), none, none, some (.iload_n 1), some (.iaload), some (.iconst 4), some (.iand)],
  [some (.ifCond .le 16), none, none, some (.aload_n 0), some (.getfield 59), none, none, some (.iconst 3), some (.iload_n 1), some (.imul), some (.iconst 2), some (.iadd), some (.iaload), some (.goto 4), none, none],
  [some (.iconst 1), some (.istore 5), none, some (.iload 5), none, some (.ifCond .le 7), none, none, some (.iconst 0), some (.goto 4), none, none, some (.iconst (-1)), some (.istore 6), none, some (.iload 5)],
  [none, some (.ifCond .le 8), none, none, some (.iload 4), none, some (.goto 7), none, none, some (.iload 4), none, some (.iconst 1), some (.isub), some (.istore 7), none, some (.aload_n 0)],
  [some (.getfield 56), none, none, some (.iload_n 1), some (.iaload), some (.iconst 1), some (.iand), some (.ifCond .le 14), none, none, some (.aload_n 0), some (.getfield 59), none, none, some (.iconst 3), some (.iload_n 1)],
  [some (.imul), some (.iaload), some (.goto 15), none, none, some (.iload 5), none, some (.ifCond .le 8), none, none, some (.iload 6), none, some (.goto 5), none, none, some (.iload 7)],
  [none, some (.istore 8), none, some (.aload_n 0), some (.getfield 56), none, none, some (.iload_n 1), some (.iaload), some (.iconst 2), some (.iand), some (.ifCond .le 16), none, none, some (.aload_n 0), some (.getfield 59)],
  [none, none, some (.iconst 3), some (.iload_n 1), some (.imul), some (.iconst 1), some (.iadd), some (.iaload), some (.goto 15), none, none, some (.iload 5), none, some (.ifCond .le 8), none, none],
  [some (.iload 7), none, some (.goto 5), none, none, some (.iload 6), none, some (.istore 9), none, some (.aload_n 0), some (.getfield 56), none, none, some (.iload_n 1), some (.iaload), some (.iconst 1)],
  [some (.iand), some (.ifCond .le 16), none, none, some (.iload 8), none, some (.ifCond .ge 11), none, none, some (.iload 8), none, some (.iload 4), none, some (.iadd), some (.goto 5), none],
  [none, some (.iload 8), none, some (.istore 8), none, some (.aload_n 0), some (.getfield 56), none, none, some (.iload_n 1), some (.iaload), some (.iconst 2), some (.iand), some (.ifCond .le 16), none, none],
  [some (.iload 9), none, some (.ifCond .ge 11), none, none, some (.iload 9), none, some (.iload 4), none, some (.iadd), some (.goto 5), none, none, some (.iload 9), none, some (.istore 9)],
  [none, some (.iload 8), none, some (.iload 6), none, some (.if_icmp .ge 8), none, none, some (.iload 6), none, some (.goto 17), none, none, some (.iload 8), none, some (.iload 7)],
  [none, some (.if_icmp .le 8), none, none, some (.iload 7), none, some (.goto 5), none, none, some (.iload 8), none, some (.istore 8), none, some (.iload 9), none, some (.iload 6)],
  [none, some (.if_icmp .ge 8), none, none, some (.iload 6), none, some (.goto 17), none, none, some (.iload 9), none, some (.iload 7), none, some (.if_icmp .le 8), none, none],
  [some (.iload 7), none, some (.goto 5), none, none, some (.iload 9), none, some (.istore 9), none, some (.iload 8), none, some (.istore 10), none, some (.iload 5), none, some (.ifCond .le 13)],
  [none, none, some (.iload 10), none, some (.iload 9), none, some (.if_icmp .ge 35), none, none, some (.goto 10), none, none, some (.iload 10), none, some (.iload 9), none],
  [some (.if_icmp .le 25), none, none, some (.aload_n 0), some (.aload_n 0), some (.iload_n 2), some (.iload 10), none, some (.invokevirtual 277), none, none, some (.iload_n 3), some (.invokevirtual 280), none, none, some (.iload 10)],
  [none, some (.iload 5), none, some (.iadd), some (.istore 10), none, some (.goto (-41)), none, none, some (.return_)]]
set_option maxRecDepth 100000 in
theorem ck_269 : jw_chk prog_15_method_48_code cd_269 = true := by decide +kernel
def cd_270 : List (List (Option Instr)) := [[some (.aload_n 0), some (.getfield 38), none, none, some (.iconst 4), some (.iaload), some (.istore_n 3), some (.aload_n 0), some (.iconst 2), some (.iload_n 1), some (.imul), some (.iload_n 2), some (.invokevirtual 267), none, none, some (.istore 4)],
  [none, some (.aload_n 0), some (.getfield 65), none, none, some (.iconst 2), some (.iload_n 1), some (.imul), some (.iconst 1), some (.iadd), some (.iaload), some (.ifCond .ne 80), none, none, some (.aload_n 0), some (.iload 4)],
  [none, some (.invokevirtual 270), none, none, some (.ifCond .ne 65), none, none, some (.aload_n 0), some (.getfield 13), none, none, some (.iload 4), none, some (.iaload), some (.iconst 1), some (.if_icmp .eq 54)],
  [none, none, some (.aload_n 0), some (.getfield 13), none, none, some (.iload 4), none, some (.iaload), some (.iconst 4), some (.if_icmp .lt 39), none, none, some (.aload_n 0), some (.getfield 13), none],
  [none, some (.iload 4), none, some (.iaload), some (.iconst 4), some (.if_icmp .ne 18), none, none, some (.aload_n 0), some (.getfield 19), none, none, some (.iload 4), none, some (.laload), some (.lconst 0)],
  [some (.lcmp), some (.ifCond .eq 20), none, none, some (.goto 13), none, none, some (.aload_n 0), some (.getfield 26), none, none, some (.iload 4), none, some (.iaload), some (.ifCond .le 7), none],
  [none, some (.iconst 1), some (.goto 4), none, none, some (.iconst 0), some (.istore 5), none, some (.goto 257), none, none, some (.aload_n 0), some (.iconst 2), some (.iload_n 1), some (.imul), some (.iconst 1)],
  [some (.iadd), some (.iload_n 2), some (.invokevirtual 267), none, none, some (.istore 6), none, some (.aload_n 0), some (.iload 4), none, some (.invokevirtual 270), none, none, some (.ifCond .ne 12), none, none],
  [some (.aload_n 0), some (.iload 6), none, some (.invokevirtual 270), none, none, some (.ifCond .eq 29), none, none, some (.aload_n 0), some (.iload 4), none, some (.invokevirtual 270), none, none, some (.ifCond .eq 16)],
  [none, none, some (.aload_n 0), some (.iload 6), none, some (.invokevirtual 270), none, none, some (.ifCond .eq 7), none, none, some (.iconst 1), some (.goto 15), none, none, some (.iconst 0)],
  [some (.goto 11), none, none, some (.aload_n 0), some (.iload 4), none, some (.iload 6), none, some (.invokevirtual 273), none, none, some (.istore 7), none, some (.aload_n 0), some (.iload 4), none],
  [some (.invokevirtual 270), none, none, some (.ifCond .ne 38), none, none, some (.aload_n 0), some (.iload 6), none, some (.invokevirtual 270), none, none, some (.ifCond .ne 29), none, none, some (.aload_n 0)],
  [some (.getfield 13), none, none, some (.iload 4), none, some (.iaload), some (.iconst 3), some (.if_icmp .ne 18), none, none, some (.aload_n 0), some (.getfield 13), none, none, some (.iload 6), none],
  [some (.iaload), some (.iconst 3), some (.if_icmp .ne 7), none, none, some (.iconst 1), some (.goto 4), none, none, some (.iconst 0), some (.istore 8), none, some (.iload 8), none, some (.ifCond .eq 13), none],
  [none, some (.aload_n 0), some (.getfield 16), none, none, some (.iload 4), none, some (.iaload), some (.goto 4), none, none, some (.iconst 0), some (.istore 9), none, some (.iload 8), none],
  [some (.ifCond .eq 13), none, none, some (.aload_n 0), some (.getfield 16), none, none, some (.iload 6), none, some (.iaload), some (.goto 4), none, none, some (.iconst 0), some (.istore 10), none],
  [some (.aload_n 0), some (.getfield 62), none, none, some (.iload_n 1), some (.iaload), some (.istore 11), none, some (.iload 11), none, some (.iconst 1), some (.if_icmp .ne 8), none, none, some (.iload 7), none],
  [some (.goto 87), none, none, some (.iload 11), none, some (.iconst 2), some (.if_icmp .ne 16), none, none, some (.iload 7), none, some (.ifCond .ne 7), none, none, some (.iconst 1), some (.goto 72)],
  [none, none, some (.iconst 0), some (.goto 68), none, none, some (.iload 8), none, some (.ifCond .eq 62), none, none, some (.iload 11), none, some (.iconst 3), some (.if_icmp .ne 13), none],
  [none, some (.iload 9), none, some (.iload 10), none, some (.if_icmp .gt 49), none, none, some (.goto 42), none, none, some (.iload 11), none, some (.iconst 4), some (.if_icmp .ne 13), none],
  [none, some (.iload 9), none, some (.iload 10), none, some (.if_icmp .lt 33), none, none, some (.goto 26), none, none, some (.iload 11), none, some (.iconst 5), some (.if_icmp .ne 13), none],
  [none, some (.iload 9), none, some (.iload 10), none, some (.if_icmp .ge 17), none, none, some (.goto 10), none, none, some (.iload 9), none, some (.iload 10), none, some (.if_icmp .le 7)],
  [none, none, some (.iconst 1), some (.goto 4), none, none, some (.iconst 0), some (.istore 5), none, some (.aload_n 0), some (.getfield 38), none, none, some (.iconst 4), some (.iload_n 3), some (.iastore)],
  [some (.iload 5), none, some (.ireturn)]]
set_option maxRecDepth 100000 in
theorem ck_270 : jw_chk prog_15_method_47_code cd_270 = true := by decide +kernel
def cd_271 : List (List (Option Instr)) := [[some (.aload_n 0), some (.getfield 65), none, none, some (.iload_n 1), some (.iaload), some (.iconst 2), some (.if_icmp .ne 17), none, none, some (.aload_n 0), some (.iconst 4), some (.iconst 3), some (.aload_n 0), some (.getfield 74), none],
  [none, some (.iload_n 1), some (.iaload), some (.lconst 0), some (.invokevirtual 110), none, none, some (.ireturn), some (.aload_n 0), some (.getfield 65), none, none, some (.iload_n 1), some (.iaload), some (.iconst 3), some (.if_icmp .ne 17)],
  [none, none, some (.aload_n 0), some (.iconst 4), some (.iconst 4), some (.iconst 0), some (.aload_n 0), some (.getfield 77), none, none, some (.iload_n 1), some (.laload), some (.invokevirtual 110), none, none, some (.ireturn)],
  [some (.iload_n 2), some (.istore_n 3), some (.iconst 0), some (.istore 4), none, some (.iload 4), none, some (.aload_n 0), some (.getfield 68), none, none, some (.iload_n 1), some (.iaload), some (.if_icmp .ge 31), none, none],
  [some (.iload_n 3), some (.iconst (-1)), some (.if_icmp .eq 26), none, none, some (.aload_n 0), some (.iload_n 3), some (.aload_n 0), some (.getfield 71), none, none, some (.iconst 3), some (.iload_n 1), some (.imul), some (.iload 4), none],
  [some (.iadd), some (.laload), some (.invokevirtual 132), none, none, some (.istore_n 3), some (.iinc 4 1), none, none, some (.goto (-36)), none, none, some (.iload_n 3), some (.ireturn)]]
set_option maxRecDepth 100000 in
theorem ck_271 : jw_chk prog_15_method_45_code cd_271 = true := by decide +kernel
def cd_272 : List (List (Option Instr)) := [[some (.aload_n 0), some (.getfield 101), none, none, some (.iconst 0), some (.iload_n 1), some (.iastore), some (.aload_n 0), some (.getfield 104), none, none, some (.iconst 0), some (.iload_n 2), some (.iastore), some (.iconst 1), some (.istore_n 3)],
  [some (.iconst 0), some (.istore 4), none, some (.iload 4), none, some (.iload_n 3), some (.if_icmp .ge 234), none, none, some (.aload_n 0), some (.getfield 101), none, none, some (.iload 4), none, some (.iaload)],
  [some (.istore 5), none, some (.aload_n 0), some (.getfield 104), none, none, some (.iload 4), none, some (.iaload), some (.istore 6), none, some (.aload_n 0), some (.getfield 13), none, none, some (.iload 5)],
  [none, some (.iaload), some (.aload_n 0), some (.getfield 13), none, none, some (.iload 6), none, some (.iaload), some (.if_icmp .ne 77), none, none, some (.aload_n 0), some (.getfield 26), none, none],
  [some (.iload 5), none, some (.iaload), some (.aload_n 0), some (.getfield 26), none, none, some (.iload 6), none, some (.iaload), some (.if_icmp .ne 60), none, none, some (.aload_n 0), some (.getfield 13), none],
  [none, some (.iload 5), none, some (.iaload), some (.iconst 3), some (.if_icmp .ne 20), none, none, some (.aload_n 0), some (.getfield 16), none, none, some (.iload 5), none, some (.iaload), some (.aload_n 0)],
  [some (.getfield 16), none, none, some (.iload 6), none, some (.iaload), some (.if_icmp .ne 32), none, none, some (.aload_n 0), some (.getfield 13), none, none, some (.iload 5), none, some (.iaload)],
  [some (.iconst 4), some (.if_icmp .ne 23), none, none, some (.aload_n 0), some (.getfield 19), none, none, some (.iload 5), none, some (.laload), some (.aload_n 0), some (.getfield 19), none, none, some (.iload 6)],
  [none, some (.laload), some (.lcmp), some (.ifCond .eq 5), none, none, some (.iconst 0), some (.ireturn), some (.aload_n 0), some (.getfield 23), none, none, some (.iload 6), none, some (.iaload), some (.istore 7)],
  [none, some (.aload_n 0), some (.getfield 23), none, none, some (.iload 5), none, some (.iaload), some (.istore 8), none, some (.iload 8), none, some (.iconst (-1)), some (.if_icmp .eq 93), none, none],
  [some (.aload_n 0), some (.getfield 13), none, none, some (.iload 5), none, some (.iaload), some (.bipush 6), none, some (.if_icmp .ne 19), none, none, some (.aload_n 0), some (.iload 6), none, some (.aload_n 0)],
  [some (.getfield 32), none, none, some (.iload 8), none, some (.laload), some (.invokevirtual 132), none, none, some (.goto 10), none, none, some (.aload_n 0), some (.getfield 29), none, none],
  [some (.iload 7), none, some (.iaload), some (.istore 9), none, some (.iload 9), none, some (.iconst (-1)), some (.if_icmp .ne 5), none, none, some (.iconst 0), some (.ireturn), some (.aload_n 0), some (.getfield 101), none],
  [none, some (.iload_n 3), some (.aload_n 0), some (.getfield 29), none, none, some (.iload 8), none, some (.iaload), some (.iastore), some (.aload_n 0), some (.getfield 104), none, none, some (.iload_n 3), some (.iload 9)],
  [none, some (.iastore), some (.iinc 3 1), none, none, some (.aload_n 0), some (.getfield 35), none, none, some (.iload 7), none, some (.iaload), some (.istore 7), none, some (.aload_n 0), some (.getfield 35)],
  [none, none, some (.iload 8), none, some (.iaload), some (.istore 8), none, some (.goto (-93)), none, none, some (.iinc 4 1), none, none, some (.goto (-234)), none, none],
  [some (.iconst 1), some (.ireturn)]]
set_option maxRecDepth 100000 in
theorem ck_272 : jw_chk prog_15_method_10_code cd_272 = true := by decide +kernel
def cd_273 : List (List (Option Instr)) := [[some (.aload_n 0), some (.iconst 0), some (.putfield 121), none, none, some (.aload_n 0), some (.aload_n 0), some (.aload_n 0), some (.getfield 118), none, none, some (.iconst 0), some (.invokevirtual 211), none, none, some (.putfield 114)],
  [none, none, some (.aload_n 0), some (.getfield 13), none, none, some (.aload_n 0), some (.getfield 114), none, none, some (.iaload), some (.ireturn)]]
set_option maxRecDepth 100000 in
theorem ck_273 : jw_chk prog_15_method_67_code cd_273 = true := by decide +kernel
def cd_274 : List (List (Option Instr)) := [[some (.aload_n 0), some (.iconst 0), some (.putfield 121), none, none, some (.iload_n 1), some (.tableswitch 121 0 3 #[30, 40, 103, 112]), none, none, none, none, none, none, none, none, none],
  [none, none, none, none, none, none, none, none, none, none, none, none, none, none, none, none],
  [none, none, none, none, some (.aload_n 0), some (.getfield 13), none, none, some (.aload_n 0), some (.getfield 118), none, none, some (.iaload), some (.ireturn), some (.aload_n 0), some (.getfield 13)],
  [none, none, some (.aload_n 0), some (.getfield 118), none, none, some (.iaload), some (.iconst 3), some (.if_icmp .ne 15), none, none, some (.aload_n 0), some (.getfield 16), none, none, some (.aload_n 0)],
  [some (.getfield 118), none, none, some (.iaload), some (.goto 40), none, none, some (.aload_n 0), some (.getfield 13), none, none, some (.aload_n 0), some (.getfield 118), none, none, some (.iaload)],
  [some (.iconst 4), some (.if_icmp .ne 18), none, none, some (.aload_n 0), some (.getfield 19), none, none, some (.aload_n 0), some (.getfield 118), none, none, some (.laload), some (.invokestatic 314), none, none],
  [some (.goto 12), none, none, some (.aload_n 0), some (.getfield 26), none, none, some (.aload_n 0), some (.getfield 118), none, none, some (.iaload), some (.ireturn), some (.aload_n 0), some (.invokevirtual 373), none],
  [none, some (.aload_n 0), some (.getfield 353), none, none, some (.ireturn), some (.aload_n 0), some (.aload_n 0), some (.getfield 118), none, none, some (.invokevirtual 215), none, none, some (.ireturn), some (.iconst (-1))],
  [some (.ireturn)]]
set_option maxRecDepth 100000 in
theorem ck_274 : jw_chk prog_15_method_73_code cd_274 = true := by decide +kernel
def cd_275 : List (List (Option Instr)) := [[some (.aload_n 0), some (.iconst 0), some (.putfield 353), none, none, some (.iconst 0), some (.istore_n 1), some (.aload_n 0), some (.aload_n 0), some (.getfield 118), none, none, some (.invokevirtual 370), none, none, some (.aload_n 0)],
  [some (.getfield 101), none, none, some (.iconst 0), some (.aload_n 0), some (.getfield 118), none, none, some (.iastore), some (.aload_n 0), some (.getfield 104), none, none, some (.iconst 0), some (.aload_n 0), some (.getfield 23)],
  [none, none, some (.aload_n 0), some (.getfield 118), none, none, some (.iaload), some (.iastore), some (.aload_n 0), some (.getfield 13), none, none, some (.aload_n 0), some (.getfield 118), none, none],
  [some (.iaload), some (.iconst 5), some (.if_icmp .lt 7), none, none, some (.iconst 1), some (.goto 4), none, none, some (.iconst 0), some (.istore_n 2), some (.iload_n 2), some (.ifCond .eq 183), none, none, some (.aload_n 0)],
  [some (.getfield 101), none, none, some (.iload_n 1), some (.iaload), some (.istore_n 3), some (.aload_n 0), some (.getfield 104), none, none, some (.iload_n 1), some (.iaload), some (.istore 4), none, some (.iload 4), none],
  [some (.iconst (-1)), some (.if_icmp .ne 40), none, none, some (.aload_n 0), some (.aload_n 0), some (.getfield 13), none, none, some (.iload_n 3), some (.iaload), some (.iconst 5), some (.if_icmp .ne 8), none, none, some (.bipush 93)],
  [none, some (.goto 5), none, none, some (.bipush 125), none, some (.invokevirtual 356), none, none, some (.iinc 1 (-1)), none, none, some (.iload_n 1), some (.ifCond .lt 7), none, none],
  [some (.iconst 1), some (.goto 4), none, none, some (.iconst 0), some (.istore_n 2), some (.goto 122), none, none, some (.iload 4), none, some (.aload_n 0), some (.getfield 23), none, none, some (.iload_n 3)],
  [some (.iaload), some (.if_icmp .eq 9), none, none, some (.aload_n 0), some (.bipush 44), none, some (.invokevirtual 356), none, none, some (.aload_n 0), some (.getfield 13), none, none, some (.iload_n 3), some (.iaload)],
  [some (.bipush 6), none, some (.if_icmp .ne 20), none, none, some (.aload_n 0), some (.aload_n 0), some (.getfield 32), none, none, some (.iload 4), none, some (.laload), some (.invokevirtual 366), none, none],
  [some (.aload_n 0), some (.bipush 58), none, some (.invokevirtual 356), none, none, some (.aload_n 0), some (.getfield 104), none, none, some (.iload_n 1), some (.aload_n 0), some (.getfield 35), none, none, some (.iload 4)],
  [none, some (.iaload), some (.iastore), some (.aload_n 0), some (.aload_n 0), some (.getfield 29), none, none, some (.iload 4), none, some (.iaload), some (.invokevirtual 370), none, none, some (.aload_n 0), some (.getfield 13)],
  [none, none, some (.aload_n 0), some (.getfield 29), none, none, some (.iload 4), none, some (.iaload), some (.iaload), some (.iconst 5), some (.if_icmp .lt 37), none, none, some (.iinc 1 1), none],
  [none, some (.aload_n 0), some (.getfield 101), none, none, some (.iload_n 1), some (.aload_n 0), some (.getfield 29), none, none, some (.iload 4), none, some (.iaload), some (.iastore), some (.aload_n 0), some (.getfield 104)],
  [none, none, some (.iload_n 1), some (.aload_n 0), some (.getfield 23), none, none, some (.aload_n 0), some (.getfield 29), none, none, some (.iload 4), none, some (.iaload), some (.iaload), some (.iastore)],
  [some (.goto (-181)), none, none, some (.return_)]]
set_option maxRecDepth 100000 in
theorem ck_275 : jw_chk prog_15_method_72_code cd_275 = true := by decide +kernel
