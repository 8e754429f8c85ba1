/-! CODE AS LISTS: the reference. -/
def gq_c (l : List (Nat × Instr)) (pc : Nat) : Option Instr := match l with
  | [] => none
  | q :: t => cond (Nat.beq q.1 pc) (some q.2) (gq_c t pc)
def gq_chk (cc : ByteArray) : List (Nat × Instr) → Bool
  | [] => true
  | q :: t => (match decode cc q.1 with
    | .ok (j, len) => decide (j = q.2) && (gx_sw j || gx_len j == len)
    | _ => false) && gq_chk cc t
theorem gq_ok {cc : ByteArray} : ∀ {l : List (Nat × Instr)}, gq_chk cc l = true → ∀ pc i, gq_c l pc = some i → gx_dec cc pc i
  | [], _, _, _, h => by cases h
  | q :: t, hc, pc, i, h => by
    unfold gq_chk at hc
    rw [Bool.and_eq_true] at hc
    unfold gq_c at h
    cases hb : Nat.beq q.1 pc with
    | true =>
      rw [hb] at h
      cases h
      have e : q.1 = pc := Nat.eq_of_beq_eq_true hb
      subst e
      have h1 := hc.1
      split at h1
      · rename_i j len hd
        rw [Bool.and_eq_true, decide_eq_true_eq, Bool.or_eq_true, beq_iff_eq] at h1
        obtain ⟨rfl, h2⟩ := h1
        exact ⟨len, hd, h2⟩
      · cases h1
    | false =>
      rw [hb] at h
      exact gq_ok hc.2 pc i h
def kX13_bad : List (Nat × Instr) := [(0, .aload_n 0), (1, .iconst 1), (2, .putfield 3), (5, .iconst 0), (6, .ireturn)]
theorem oX13_bad : gq_chk cX13_bad kX13_bad = true := by decide +kernel
def kX13_feed : List (Nat × Instr) := [(0, .aload_n 0), (1, .iconst 0), (2, .putfield 3), (5, .aload_n 0), (6, .getfield 576), (9, .bipush 20), (11, .iadd), (12, .sipush 1000), (15, .if_icmp .le 8), (18, .aload_n 0), (19, .invokevirtual 579), (22, .ireturn), (23, .aload_n 0), (24, .iload_n 1), (25, .invokevirtual 583), (28, .aload_n 0), (29, .iload_n 2), (30, .invokevirtual 583), (33, .aload_n 0), (34, .iload_n 3), (35, .invokevirtual 583), (38, .aload_n 0), (39, .iload 4), (41, .invokevirtual 583), (44, .aload_n 0), (45, .iload 5), (47, .invokevirtual 583), (50, .aload_n 0), (51, .getfield 576), (54, .ireturn)]
theorem oX13_feed : gq_chk cX13_feed kX13_feed = true := by decide +kernel
def kX13_four : List (Nat × Instr) := [(0, .bipush 24), (2, .istore_n 2), (3, .iload_n 2), (4, .ifCond .lt 29), (7, .aload_n 0), (8, .getfield 188), (11, .aload_n 0), (12, .dup), (13, .getfield 576), (16, .dup_x1), (17, .iconst 1), (18, .iadd), (19, .putfield 576), (22, .iload_n 1), (23, .iload_n 2), (24, .iushr), (25, .i2b), (26, .bastore), (27, .iinc 2 (-8)), (30, .goto (-27)), (33, .return_)]
theorem oX13_four : gq_chk cX13_four kX13_four = true := by decide +kernel
def kX13_end : List (Nat × Instr) := [(0, .aload_n 0), (1, .iconst 0), (2, .putfield 3), (5, .iload_n 1), (6, .ifCond .lt 11), (9, .iload_n 1), (10, .aload_n 0), (11, .getfield 576), (14, .if_icmp .le 8), (17, .aload_n 0), (18, .invokevirtual 579), (21, .ireturn), (22, .aload_n 0), (23, .iload_n 1), (24, .putfield 576), (27, .iload_n 1), (28, .ireturn)]
theorem oX13_end : gq_chk cX13_end kX13_end = true := by decide +kernel
def kX13_reads : List (Nat × Instr) := [(0, .aload_n 0), (1, .aload_n 0), (2, .getfield 576), (5, .putfield 586), (8, .iconst 0), (9, .istore_n 1), (10, .iload_n 1), (11, .aload_n 0), (12, .getfield 576), (15, .if_icmp .ge 21), (18, .aload_n 0), (19, .getfield 191), (22, .iload_n 1), (23, .aload_n 0), (24, .getfield 188), (27, .iload_n 1), (28, .baload), (29, .bastore), (30, .iinc 1 1), (33, .goto (-23)), (36, .aload_n 0), (37, .iconst 0), (38, .putfield 576), (41, .return_)]
theorem oX13_reads : gq_chk cX13_reads kX13_reads = true := by decide +kernel
def kX13_out : List (Nat × Instr) := [(0, .aload_n 0), (1, .iconst 0), (2, .putfield 3), (5, .iload_n 1), (6, .ifCond .lt 11), (9, .iload_n 1), (10, .aload_n 0), (11, .getfield 589), (14, .if_icmp .lt 7), (17, .iconst (-1)), (18, .goto 13), (21, .aload_n 0), (22, .getfield 194), (25, .iload_n 1), (26, .baload), (27, .sipush 255), (30, .iand), (31, .ireturn)]
theorem oX13_out : gq_chk cX13_out kX13_out = true := by decide +kernel
def kX13_outs : List (Nat × Instr) := [(0, .aload_n 0), (1, .getfield 589), (4, .sipush 1000), (7, .if_icmp .ge 21), (10, .aload_n 0), (11, .getfield 194), (14, .aload_n 0), (15, .dup), (16, .getfield 589), (19, .dup_x1), (20, .iconst 1), (21, .iadd), (22, .putfield 589), (25, .iload_n 1), (26, .i2b), (27, .bastore), (28, .return_)]
theorem oX13_outs : gq_chk cX13_outs kX13_outs = true := by decide +kernel
def kX13_low : List (Nat × Instr) := [(0, .iload_n 1), (1, .aload_n 0), (2, .getfield 586), (5, .if_icmp .ge 29), (8, .aload_n 0), (9, .getfield 191), (12, .iload_n 1), (13, .baload), (14, .bipush 97), (16, .if_icmp .lt 18), (19, .aload_n 0), (20, .getfield 191), (23, .iload_n 1), (24, .baload), (25, .bipush 122), (27, .if_icmp .gt 7), (30, .iconst 1), (31, .goto 4), (34, .iconst 0), (35, .ireturn)]
theorem oX13_low : gq_chk cX13_low kX13_low = true := by decide +kernel
def kX13_dig : List (Nat × Instr) := [(0, .iload_n 1), (1, .aload_n 0), (2, .getfield 586), (5, .if_icmp .ge 29), (8, .aload_n 0), (9, .getfield 191), (12, .iload_n 1), (13, .baload), (14, .bipush 48), (16, .if_icmp .lt 18), (19, .aload_n 0), (20, .getfield 191), (23, .iload_n 1), (24, .baload), (25, .bipush 57), (27, .if_icmp .gt 7), (30, .iconst 1), (31, .goto 4), (34, .iconst 0), (35, .ireturn)]
theorem oX13_dig : gq_chk cX13_dig kX13_dig = true := by decide +kernel
def kX13_next : List (Nat × Instr) := [(0, .aload_n 0), (1, .getfield 597), (4, .istore_n 1), (5, .iload_n 1), (6, .aload_n 0), (7, .getfield 586), (10, .if_icmp .ge 20), (13, .aload_n 0), (14, .getfield 191), (17, .iload_n 1), (18, .baload), (19, .bipush 32), (21, .if_icmp .ne 9), (24, .iinc 1 1), (27, .goto (-22)), (30, .aload_n 0), (31, .iload_n 1), (32, .putfield 600), (35, .aload_n 0), (36, .iconst 0), (37, .putfield 603), (40, .aload_n 0), (41, .lconst 0), (42, .putfield 606), (45, .iload_n 1), (46, .aload_n 0), (47, .getfield 586), (50, .if_icmp .ne 11), (53, .aload_n 0), (54, .iconst 0), (55, .putfield 609), (58, .goto 251), (61, .aload_n 0), (62, .iload_n 1), (63, .invokevirtual 612), (66, .ifCond .eq 84), (69, .aload_n 0), (70, .iconst 1), (71, .putfield 609), (74, .iload_n 1), (75, .aload_n 0), (76, .getfield 600), (79, .bipush 8), (81, .iadd), (82, .if_icmp .ge 44), (85, .aload_n 0), (86, .iload_n 1), (87, .invokevirtual 612), (90, .ifCond .ne 11), (93, .aload_n 0), (94, .iload_n 1), (95, .invokevirtual 616), (98, .ifCond .eq 28), (101, .aload_n 0), (102, .aload_n 0), (103, .getfield 606), (106, .bipush 8), (108, .lshl), (109, .aload_n 0), (110, .getfield 191), (113, .iload_n 1), (114, .baload), (115, .i2l), (116, .lor), (117, .putfield 606), (120, .iinc 1 1), (123, .goto (-49)), (126, .aload_n 0), (127, .dup), (128, .getfield 606), (131, .bipush 8), (133, .bipush 8), (135, .iload_n 1), (136, .isub), (137, .aload_n 0), (138, .getfield 600), (141, .iadd), (142, .imul), (143, .lshl), (144, .putfield 606), (147, .goto 162), (150, .aload_n 0), (151, .iload_n 1), (152, .invokevirtual 616), (155, .ifCond .eq 54), (158, .aload_n 0), (159, .iconst 2), (160, .putfield 609), (163, .iload_n 1), (164, .aload_n 0), (165, .getfield 600), (168, .bipush 6), (170, .iadd), (171, .if_icmp .ge 138), (174, .aload_n 0), (175, .iload_n 1), (176, .invokevirtual 616), (179, .ifCond .eq 130), (182, .aload_n 0), (183, .bipush 10), (185, .aload_n 0), (186, .getfield 603), (189, .imul), (190, .aload_n 0), (191, .getfield 191), (194, .iload_n 1), (195, .baload), (196, .iadd), (197, .bipush 48), (199, .isub), (200, .putfield 603), (203, .iinc 1 1), (206, .goto (-43)), (209, .aload_n 0), (210, .getfield 191), (213, .iload_n 1), (214, .baload), (215, .bipush 39), (217, .if_icmp .ne 65), (220, .iinc 1 1), (223, .iload_n 1), (224, .aload_n 0), (225, .getfield 600), (228, .bipush 13), (230, .iadd), (231, .if_icmp .ge 17), (234, .aload_n 0), (235, .iload_n 1), (236, .invokevirtual 612), (239, .ifCond .eq 9), (242, .iinc 1 1), (245, .goto (-22)), (248, .aload_n 0), (249, .iload_n 1), (250, .aload_n 0), (251, .getfield 586), (254, .if_icmp .ge 18), (257, .aload_n 0), (258, .getfield 191), (261, .iload_n 1), (262, .baload), (263, .bipush 39), (265, .if_icmp .ne 7), (268, .iconst 3), (269, .goto 4), (272, .iconst 5), (273, .putfield 609), (276, .iinc 1 1), (279, .goto 30), (282, .aload_n 0), (283, .ldc_w 619), (286, .aload_n 0), (287, .getfield 191), (290, .iload_n 1), (291, .baload), (292, .invokevirtual 621), (295, .ifCond .lt 7), (298, .iconst 4), (299, .goto 4), (302, .iconst 5), (303, .putfield 609), (306, .iinc 1 1), (309, .aload_n 0), (310, .iload_n 1), (311, .putfield 597), (314, .return_)]
theorem oX13_next : gq_chk cX13_next kX13_next = true := by decide +kernel
def kX13_sign : List (Nat × Instr) := [(0, .aload_n 0), (1, .getfield 609), (4, .iconst 4), (5, .if_icmp .ne 20), (8, .aload_n 0), (9, .getfield 191), (12, .aload_n 0), (13, .getfield 600), (16, .baload), (17, .iload_n 1), (18, .if_icmp .ne 7), (21, .iconst 1), (22, .goto 4), (25, .iconst 0), (26, .ireturn)]
theorem oX13_sign : gq_chk cX13_sign kX13_sign = true := by decide +kernel
def kX13_is : List (Nat × Instr) := [(0, .aload_n 0), (1, .getfield 609), (4, .iconst 1), (5, .if_icmp .ne 16), (8, .aload_n 0), (9, .getfield 606), (12, .lload_n 1), (13, .lcmp), (14, .ifCond .ne 7), (17, .iconst 1), (18, .goto 4), (21, .iconst 0), (22, .ireturn)]
theorem oX13_is : gq_chk cX13_is kX13_is = true := by decide +kernel
def kX13_size : List (Nat × Instr) := [(0, .aload_n 0), (1, .getfield 597), (4, .aload_n 0), (5, .getfield 600), (8, .isub), (9, .iconst 2), (10, .isub), (11, .ireturn)]
theorem oX13_size : gq_chk cX13_size kX13_size = true := by decide +kernel
def kX13_find : List (Nat × Instr) := [(0, .iconst 0), (1, .istore 5), (3, .iload 5), (5, .iload_n 2), (6, .if_icmp .ge 23), (9, .aload_n 0), (10, .iload_n 1), (11, .iload 5), (13, .iadd), (14, .laload), (15, .lload_n 3), (16, .lcmp), (17, .ifCond .ne 6), (20, .iload 5), (22, .ireturn), (23, .iinc 5 1), (26, .goto (-23)), (29, .iconst (-1)), (30, .ireturn)]
theorem oX13_find : gq_chk cX13_find kX13_find = true := by decide +kernel
def kX13_no : List (Nat × Instr) := [(0, .aload_n 0), (1, .iload_n 1), (2, .putfield 639), (5, .aload_n 0), (6, .iload_n 2), (7, .putfield 642), (10, .iconst 0), (11, .ireturn)]
theorem oX13_no : gq_chk cX13_no kX13_no = true := by decide +kernel
def kX13_no_ : List (Nat × Instr) := [(0, .aload_n 0), (1, .iload_n 1), (2, .aload_n 0), (3, .getfield 609), (6, .ifCond .ne 10), (9, .aload_n 0), (10, .getfield 586), (13, .goto 7), (16, .aload_n 0), (17, .getfield 600), (20, .invokevirtual 645), (23, .ireturn)]
theorem oX13_no_ : gq_chk cX13_no_ kX13_no_ = true := by decide +kernel
def kX13_need : List (Nat × Instr) := [(0, .aload_n 0), (1, .iload_n 1), (2, .invokevirtual 649), (5, .ifCond .ne 9), (8, .aload_n 0), (9, .iconst 1), (10, .invokevirtual 653), (13, .ireturn), (14, .aload_n 0), (15, .invokevirtual 655), (18, .iconst 1), (19, .ireturn)]
theorem oX13_need : gq_chk cX13_need kX13_need = true := by decide +kernel
