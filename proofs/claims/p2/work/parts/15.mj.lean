/-! CODE AS LISTS: of the JDK. -/
def kJ9_max_7cf53 : List (Nat × Instr) := [(0, .iload_n 0), (1, .iload_n 1), (2, .if_icmp .lt 7), (5, .iload_n 0), (6, .goto 4), (9, .iload_n 1), (10, .ireturn)]
theorem oJ9_max_7cf53 : gq_chk cJ9_max_7cf53 kJ9_max_7cf53 = true := by decide +kernel
def kJ9_min_7cf53 : List (Nat × Instr) := [(0, .iload_n 0), (1, .iload_n 1), (2, .if_icmp .gt 7), (5, .iload_n 0), (6, .goto 4), (9, .iload_n 1), (10, .ireturn)]
theorem oJ9_min_7cf53 : gq_chk cJ9_min_7cf53 kJ9_min_7cf53 = true := by decide +kernel
def kJ9_min_f86c9 : List (Nat × Instr) := [(0, .lload_n 0), (1, .lload_n 2), (2, .lcmp), (3, .ifCond .gt 7), (6, .lload_n 0), (7, .goto 4), (10, .lload_n 2), (11, .lreturn)]
theorem oJ9_min_f86c9 : gq_chk cJ9_min_f86c9 kJ9_min_f86c9 = true := by decide +kernel
def kJ7_fill_53178 : List (Nat × Instr) := [(0, .iconst 0), (1, .istore_n 2), (2, .aload_n 0), (3, .arraylength), (4, .istore_n 3), (5, .iload_n 2), (6, .iload_n 3), (7, .if_icmp .ge 13), (10, .aload_n 0), (11, .iload_n 2), (12, .iload_n 1), (13, .iastore), (14, .iinc 2 1), (17, .goto (-12)), (20, .return_)]
theorem oJ7_fill_53178 : gq_chk cJ7_fill_53178 kJ7_fill_53178 = true := by decide +kernel
def kJ7_copyOf_9075b : List (Nat × Instr) := [(0, .iload_n 1), (1, .aload_n 0), (2, .arraylength), (3, .if_icmp .ne 11), (6, .aload_n 0), (7, .invokevirtual 310), (10, .checkcast 311), (13, .areturn), (14, .iload_n 1), (15, .newarray .byte), (17, .astore_n 2), (18, .aload_n 0), (19, .iconst 0), (20, .aload_n 2), (21, .iconst 0), (22, .aload_n 0), (23, .arraylength), (24, .iload_n 1), (25, .invokestatic 304), (28, .invokestatic 150), (31, .aload_n 2), (32, .areturn)]
theorem oJ7_copyOf_9075b : gq_chk cJ7_copyOf_9075b kJ7_copyOf_9075b = true := by decide +kernel
