/-! TABLES of the methods, for the abstract machine. (by gen/tab.py) -/
def am_lk : List (Nat × am_R) → Nat → am_R
  | [], _ => (.nop, 0, 0, 0)
  | (k, w) :: r, pc => cond (Nat.beq k pc) w (am_lk r pc)
def am_lc : List (Nat × List (Nat × am_R)) → Nat → am_R
  | [], _ => (.nop, 0, 0, 0)
  | (hi, l) :: r, pc => cond (Nat.blt pc hi) (am_lk l pc) (am_lc r pc)
def am_l0_0 : List (Nat × am_R) := [(0, (.aload_n 0, 1, 0, 0)), (1, (.invokespecial 3, 4, 0, 2)), (4, (.aload_n 0, 5, 0, 0)), (5, (.bipush 72, 7, 72, 0)), (7, (.newarray .int, 9, 0, 0)), (9, (.putfield 9, 12, 0, 0)), (12, (.return_, 13, 0, 0))]
def am_t0 : Nat → am_R := fun pc => am_lc [(13, am_l0_0)] pc
def am_l1_0 : List (Nat × am_R) := [(0, (.iconst 0, 1, 0, 0)), (1, (.istore_n 1, 2, 1, 0)), (2, (.iload_n 1, 3, 1, 0)), (3, (.aload_n 0, 4, 0, 0)), (4, (.getfield 9, 7, 0, 0)), (7, (.arraylength, 8, 0, 0)), (8, (.if_icmp .ge 17, 11, 25, 0)), (11, (.aload_n 0, 12, 0, 0)), (12, (.getfield 9, 15, 0, 0)), (15, (.iload_n 1, 16, 1, 0)), (16, (.ldc 15, 18, 65535, 0)), (18, (.iastore, 19, 0, 0)), (19, (.iinc 1 1, 22, 1, 1)), (22, (.goto (-20), 25, 2, 0)), (25, (.return_, 26, 0, 0))]
def am_t1 : Nat → am_R := fun pc => am_lc [(26, am_l1_0)] pc
def am_l2_0 : List (Nat × am_R) := [(0, (.iload_n 1, 1, 1, 0)), (1, (.iload_n 2, 2, 2, 0)), (2, (.iload_n 3, 3, 3, 0)), (3, (.invokestatic 16, 6, 85, 1)), (6, (.ifCond .eq 25, 9, 31, 0)), (9, (.aload_n 0, 10, 0, 0)), (10, (.getfield 9, 13, 0, 0)), (13, (.iload_n 3, 14, 3, 0)), (14, (.bipush 12, 16, 12, 0)), (16, (.imul, 17, 0, 0)), (17, (.iload_n 2, 18, 2, 0)), (18, (.iadd, 19, 0, 0)), (19, (.iaload, 20, 0, 0)), (20, (.iconst 1, 21, 1, 0)), (21, (.iload_n 1, 22, 1, 0)), (22, (.ishl, 23, 0, 0)), (23, (.iand, 24, 0, 0)), (24, (.ifCond .eq 7, 27, 31, 0)), (27, (.iconst 1, 28, 1, 0)), (28, (.goto 4, 31, 32, 0)), (31, (.iconst 0, 32, 0, 0)), (32, (.ireturn, 33, 0, 0))]
def am_t2 : Nat → am_R := fun pc => am_lc [(33, am_l2_0)] pc
def am_l3_0 : List (Nat × am_R) := [(0, (.iload_n 1, 1, 1, 0)), (1, (.iload_n 2, 2, 2, 0)), (2, (.iload_n 3, 3, 3, 0)), (3, (.invokestatic 16, 6, 85, 1)), (6, (.ifCond .ne 4, 9, 10, 0)), (9, (.return_, 10, 0, 0)), (10, (.iload_n 3, 11, 3, 0)), (11, (.bipush 12, 13, 12, 0)), (13, (.imul, 14, 0, 0)), (14, (.iload_n 2, 15, 2, 0)), (15, (.iadd, 16, 0, 0)), (16, (.istore 5, 18, 5, 0)), (18, (.aload_n 0, 19, 0, 0)), (19, (.getfield 9, 22, 0, 0)), (22, (.iload 5, 24, 5, 0)), (24, (.iload 4, 26, 4, 0)), (26, (.ifCond .eq 17, 29, 43, 0)), (29, (.aload_n 0, 30, 0, 0)), (30, (.getfield 9, 33, 0, 0)), (33, (.iload 5, 35, 5, 0)), (35, (.iaload, 36, 0, 0)), (36, (.iconst 1, 37, 1, 0)), (37, (.iload_n 1, 38, 1, 0)), (38, (.ishl, 39, 0, 0))]
def am_l3_1 : List (Nat × am_R) := [(39, (.ior, 40, 0, 0)), (40, (.goto 16, 43, 56, 0)), (43, (.aload_n 0, 44, 0, 0)), (44, (.getfield 9, 47, 0, 0)), (47, (.iload 5, 49, 5, 0)), (49, (.iaload, 50, 0, 0)), (50, (.iconst 1, 51, 1, 0)), (51, (.iload_n 1, 52, 1, 0)), (52, (.ishl, 53, 0, 0)), (53, (.iconst (-1), 54, 4294967295, 0)), (54, (.ixor, 55, 0, 0)), (55, (.iand, 56, 0, 0)), (56, (.iastore, 57, 0, 0)), (57, (.return_, 58, 0, 0))]
def am_t3 : Nat → am_R := fun pc => am_lc [(39, am_l3_0), (58, am_l3_1)] pc
def am_l4_0 : List (Nat × am_R) := [(0, (.iconst 0, 1, 0, 0)), (1, (.istore_n 1, 2, 1, 0)), (2, (.iconst 0, 3, 0, 0)), (3, (.istore_n 2, 4, 2, 0)), (4, (.iload_n 2, 5, 2, 0)), (5, (.aload_n 0, 6, 0, 0)), (6, (.getfield 9, 9, 0, 0)), (9, (.arraylength, 10, 0, 0)), (10, (.if_icmp .ge 21, 13, 31, 0)), (13, (.iload_n 1, 14, 1, 0)), (14, (.aload_n 0, 15, 0, 0)), (15, (.getfield 9, 18, 0, 0)), (18, (.iload_n 2, 19, 2, 0)), (19, (.iaload, 20, 0, 0)), (20, (.invokestatic 20, 23, 157, 0)), (23, (.iadd, 24, 0, 0)), (24, (.istore_n 1, 25, 1, 0)), (25, (.iinc 2 1, 28, 2, 1)), (28, (.goto (-24), 31, 4, 0)), (31, (.iload_n 1, 32, 1, 0)), (32, (.ireturn, 33, 0, 0))]
def am_t4 : Nat → am_R := fun pc => am_lc [(33, am_l4_0)] pc
def am_l5_0 : List (Nat × am_R) := [(0, (.lconst 0, 1, 0, 0)), (1, (.lstore_n 1, 2, 1, 0)), (2, (.iconst 0, 3, 0, 0)), (3, (.istore_n 3, 4, 3, 0)), (4, (.iload_n 3, 5, 3, 0)), (5, (.aload_n 0, 6, 0, 0)), (6, (.getfield 9, 9, 0, 0)), (9, (.arraylength, 10, 0, 0)), (10, (.if_icmp .ge 59, 13, 69, 0)), (13, (.iconst 0, 14, 0, 0)), (14, (.istore 4, 16, 4, 0)), (16, (.iload 4, 18, 4, 0)), (18, (.bipush 16, 20, 16, 0)), (20, (.if_icmp .ge 43, 23, 63, 0)), (23, (.aload_n 0, 24, 0, 0)), (24, (.getfield 9, 27, 0, 0)), (27, (.iload_n 3, 28, 3, 0)), (28, (.iaload, 29, 0, 0)), (29, (.iconst 1, 30, 1, 0)), (30, (.iload 4, 32, 4, 0)), (32, (.ishl, 33, 0, 0)), (33, (.iand, 34, 0, 0)), (34, (.ifCond .eq 23, 37, 57, 0)), (37, (.iload 4, 39, 4, 0))]
def am_l5_1 : List (Nat × am_R) := [(39, (.bipush 16, 41, 16, 0)), (41, (.iload_n 3, 42, 3, 0)), (42, (.imul, 43, 0, 0)), (43, (.iadd, 44, 0, 0)), (44, (.iconst 1, 45, 1, 0)), (45, (.iadd, 46, 0, 0)), (46, (.i2l, 47, 0, 0)), (47, (.lstore 5, 49, 5, 0)), (49, (.lload_n 1, 50, 1, 0)), (50, (.lload 5, 52, 5, 0)), (52, (.lload 5, 54, 5, 0)), (54, (.lmul, 55, 0, 0)), (55, (.ladd, 56, 0, 0)), (56, (.lstore_n 1, 57, 1, 0)), (57, (.iinc 4 1, 60, 4, 1)), (60, (.goto (-44), 63, 16, 0)), (63, (.iinc 3 1, 66, 3, 1)), (66, (.goto (-62), 69, 4, 0)), (69, (.lload_n 1, 70, 1, 0)), (70, (.lreturn, 71, 0, 0))]
def am_t5 : Nat → am_R := fun pc => am_lc [(38, am_l5_0), (71, am_l5_1)] pc
def am_l6_0 : List (Nat × am_R) := [(0, (.aload_n 0, 1, 0, 0)), (1, (.aload_n 1, 2, 1, 0)), (2, (.invokevirtual 26, 5, 7, 0)), (5, (.ifCond .eq 15, 8, 20, 0)), (8, (.aload_n 1, 9, 1, 0)), (9, (.aload_n 0, 10, 0, 0)), (10, (.invokevirtual 26, 13, 7, 0)), (13, (.ifCond .eq 7, 16, 20, 0)), (16, (.iconst 1, 17, 1, 0)), (17, (.goto 4, 20, 21, 0)), (20, (.iconst 0, 21, 0, 0)), (21, (.ireturn, 22, 0, 0))]
def am_t6 : Nat → am_R := fun pc => am_lc [(22, am_l6_0)] pc
def am_l7_0 : List (Nat × am_R) := [(0, (.iconst 0, 1, 0, 0)), (1, (.istore_n 2, 2, 2, 0)), (2, (.iload_n 2, 3, 2, 0)), (3, (.aload_n 0, 4, 0, 0)), (4, (.getfield 9, 7, 0, 0)), (7, (.arraylength, 8, 0, 0)), (8, (.if_icmp .ge 29, 11, 37, 0)), (11, (.aload_n 1, 12, 1, 0)), (12, (.getfield 9, 15, 0, 0)), (15, (.iload_n 2, 16, 2, 0)), (16, (.iaload, 17, 0, 0)), (17, (.aload_n 0, 18, 0, 0)), (18, (.getfield 9, 21, 0, 0)), (21, (.iload_n 2, 22, 2, 0)), (22, (.iaload, 23, 0, 0)), (23, (.iconst (-1), 24, 4294967295, 0)), (24, (.ixor, 25, 0, 0)), (25, (.iand, 26, 0, 0)), (26, (.ifCond .eq 5, 29, 31, 0)), (29, (.iconst 0, 30, 0, 0)), (30, (.ireturn, 31, 0, 0)), (31, (.iinc 2 1, 34, 2, 1)), (34, (.goto (-32), 37, 2, 0)), (37, (.iconst 1, 38, 1, 0))]
def am_l7_1 : List (Nat × am_R) := [(38, (.ireturn, 39, 0, 0))]
def am_t7 : Nat → am_R := fun pc => am_lc [(38, am_l7_0), (39, am_l7_1)] pc
def am_l8_0 : List (Nat × am_R) := [(0, (.aload_n 1, 1, 1, 0)), (1, (.invokevirtual 30, 4, 66, 6)), (4, (.istore_n 2, 5, 2, 0)), (5, (.aload_n 1, 6, 1, 0)), (6, (.invokevirtual 36, 9, 64, 6)), (9, (.istore_n 3, 10, 3, 0)), (10, (.iload_n 3, 11, 3, 0)), (11, (.bipush 6, 13, 6, 0)), (13, (.if_icmp .ge 60, 16, 73, 0)), (16, (.aload_n 1, 17, 1, 0)), (17, (.iload_n 3, 18, 3, 0)), (18, (.invokevirtual 39, 21, 67, 6)), (21, (.istore 4, 23, 4, 0)), (23, (.aload_n 1, 24, 1, 0)), (24, (.invokevirtual 42, 27, 65, 6)), (27, (.istore 5, 29, 5, 0)), (29, (.iload 5, 31, 5, 0)), (31, (.iload_n 2, 32, 2, 0)), (32, (.if_icmp .gt 35, 35, 67, 0)), (35, (.aload_n 0, 36, 0, 0)), (36, (.getfield 9, 39, 0, 0)), (39, (.iload_n 3, 40, 3, 0)), (40, (.bipush 12, 42, 12, 0)), (42, (.imul, 43, 0, 0))]
def am_l8_1 : List (Nat × am_R) := [(43, (.iload 5, 45, 5, 0)), (45, (.iadd, 46, 0, 0)), (46, (.iaload, 47, 0, 0)), (47, (.aload_n 1, 48, 1, 0)), (48, (.iload 5, 50, 5, 0)), (50, (.iload 4, 52, 4, 0)), (52, (.invokevirtual 45, 55, 68, 6)), (55, (.iand, 56, 0, 0)), (56, (.ifCond .eq 5, 59, 61, 0)), (59, (.iconst 1, 60, 1, 0)), (60, (.ireturn, 61, 0, 0)), (61, (.iinc 5 1, 64, 5, 1)), (64, (.goto (-35), 67, 29, 0)), (67, (.iinc 3 1, 70, 3, 1)), (70, (.goto (-60), 73, 10, 0)), (73, (.iconst 0, 74, 0, 0)), (74, (.ireturn, 75, 0, 0))]
def am_t8 : Nat → am_R := fun pc => am_lc [(43, am_l8_0), (75, am_l8_1)] pc
def am_l9_0 : List (Nat × am_R) := [(0, (.iconst 0, 1, 0, 0)), (1, (.istore_n 2, 2, 2, 0)), (2, (.aload_n 1, 3, 1, 0)), (3, (.invokevirtual 30, 6, 66, 6)), (6, (.istore_n 3, 7, 3, 0)), (7, (.aload_n 1, 8, 1, 0)), (8, (.invokevirtual 36, 11, 64, 6)), (11, (.istore 4, 13, 4, 0)), (13, (.iload 4, 15, 4, 0)), (15, (.bipush 6, 17, 6, 0)), (17, (.if_icmp .ge 83, 20, 100, 0)), (20, (.aload_n 1, 21, 1, 0)), (21, (.iload 4, 23, 4, 0)), (23, (.invokevirtual 39, 26, 67, 6)), (26, (.istore 5, 28, 5, 0)), (28, (.aload_n 1, 29, 1, 0)), (29, (.invokevirtual 42, 32, 65, 6)), (32, (.istore 6, 34, 6, 0)), (34, (.iload 6, 36, 6, 0)), (36, (.iload_n 3, 37, 3, 0)), (37, (.if_icmp .gt 57, 40, 94, 0)), (40, (.iload 4, 42, 4, 0)), (42, (.bipush 12, 44, 12, 0)), (44, (.imul, 45, 0, 0))]
def am_l9_1 : List (Nat × am_R) := [(45, (.iload 6, 47, 6, 0)), (47, (.iadd, 48, 0, 0)), (48, (.istore 7, 50, 7, 0)), (50, (.aload_n 0, 51, 0, 0)), (51, (.getfield 9, 54, 0, 0)), (54, (.iload 7, 56, 7, 0)), (56, (.iaload, 57, 0, 0)), (57, (.aload_n 1, 58, 1, 0)), (58, (.iload 6, 60, 6, 0)), (60, (.iload 5, 62, 5, 0)), (62, (.invokevirtual 45, 65, 68, 6)), (65, (.iand, 66, 0, 0)), (66, (.istore 8, 68, 8, 0)), (68, (.iload_n 2, 69, 2, 0)), (69, (.iload 8, 71, 8, 0)), (71, (.invokestatic 20, 74, 157, 0)), (74, (.iadd, 75, 0, 0)), (75, (.istore_n 2, 76, 2, 0)), (76, (.aload_n 0, 77, 0, 0)), (77, (.getfield 9, 80, 0, 0)), (80, (.iload 7, 82, 7, 0)), (82, (.dup2, 83, 0, 0)), (83, (.iaload, 84, 0, 0)), (84, (.iload 8, 86, 8, 0))]
def am_l9_2 : List (Nat × am_R) := [(86, (.isub, 87, 0, 0)), (87, (.iastore, 88, 0, 0)), (88, (.iinc 6 1, 91, 6, 1)), (91, (.goto (-57), 94, 34, 0)), (94, (.iinc 4 1, 97, 4, 1)), (97, (.goto (-84), 100, 13, 0)), (100, (.iload_n 2, 101, 2, 0)), (101, (.ireturn, 102, 0, 0))]
def am_t9 : Nat → am_R := fun pc => am_lc [(45, am_l9_0), (85, am_l9_1), (102, am_l9_2)] pc
def am_l10_0 : List (Nat × am_R) := [(0, (.aload_n 0, 1, 0, 0)), (1, (.invokespecial 3, 4, 0, 2)), (4, (.aload_n 0, 5, 0, 0)), (5, (.new 9, 8, 0, 1)), (8, (.dup, 9, 0, 0)), (9, (.invokespecial 11, 12, 0, 1)), (12, (.putfield 12, 15, 1, 1)), (15, (.aload_n 0, 16, 0, 0)), (16, (.bipush 12, 18, 12, 0)), (18, (.newarray .int, 20, 0, 0)), (20, (.putfield 18, 23, 1, 2)), (23, (.aload_n 0, 24, 0, 0)), (24, (.bipush 8, 26, 8, 0)), (26, (.newarray .int, 28, 0, 0)), (28, (.putfield 22, 31, 1, 3)), (31, (.aload_n 0, 32, 0, 0)), (32, (.iconst 3, 33, 3, 0)), (33, (.newarray .int, 35, 0, 0)), (35, (.putfield 25, 38, 1, 4)), (38, (.aload_n 0, 39, 0, 0)), (39, (.bipush 64, 41, 64, 0)), (41, (.newarray .int, 43, 0, 0)), (43, (.putfield 28, 46, 1, 5)), (46, (.aload_n 0, 47, 0, 0))]
def am_l10_1 : List (Nat × am_R) := [(47, (.new 31, 50, 3, 4)), (50, (.dup, 51, 0, 0)), (51, (.invokespecial 33, 54, 41, 1)), (54, (.putfield 34, 57, 1, 6)), (57, (.aload_n 0, 58, 0, 0)), (58, (.new 38, 61, 6, 5)), (61, (.dup, 62, 0, 0)), (62, (.invokespecial 40, 65, 61, 1)), (65, (.putfield 41, 68, 1, 7)), (68, (.aload_n 0, 69, 0, 0)), (69, (.aload_n 1, 70, 1, 0)), (70, (.putfield 45, 73, 1, 0)), (73, (.aload_n 0, 74, 0, 0)), (74, (.invokevirtual 49, 77, 11, 1)), (77, (.return_, 78, 0, 0))]
def am_t10 : Nat → am_R := fun pc => am_lc [(47, am_l10_0), (78, am_l10_1)] pc
def am_l11_0 : List (Nat × am_R) := [(0, (.aload_n 0, 1, 0, 0)), (1, (.getfield 12, 4, 1, 1)), (4, (.invokevirtual 52, 7, 1, 0)), (7, (.iconst 0, 8, 0, 0)), (8, (.istore_n 1, 9, 1, 0)), (9, (.iload_n 1, 10, 1, 0)), (10, (.bipush 12, 12, 12, 0)), (12, (.if_icmp .ge 16, 15, 28, 0)), (15, (.aload_n 0, 16, 0, 0)), (16, (.getfield 18, 19, 1, 2)), (19, (.iload_n 1, 20, 1, 0)), (20, (.iconst 0, 21, 0, 0)), (21, (.iastore, 22, 0, 0)), (22, (.iinc 1 1, 25, 1, 1)), (25, (.goto (-16), 28, 9, 0)), (28, (.iconst 0, 29, 0, 0)), (29, (.istore_n 1, 30, 1, 0)), (30, (.iload_n 1, 31, 1, 0)), (31, (.bipush 8, 33, 8, 0)), (33, (.if_icmp .ge 16, 36, 49, 0)), (36, (.aload_n 0, 37, 0, 0)), (37, (.getfield 22, 40, 1, 3)), (40, (.iload_n 1, 41, 1, 0)), (41, (.iconst 0, 42, 0, 0))]
def am_l11_1 : List (Nat × am_R) := [(42, (.iastore, 43, 0, 0)), (43, (.iinc 1 1, 46, 1, 1)), (46, (.goto (-16), 49, 30, 0)), (49, (.aload_n 0, 50, 0, 0)), (50, (.getfield 25, 53, 1, 4)), (53, (.iconst 0, 54, 0, 0)), (54, (.iconst 0, 55, 0, 0)), (55, (.iastore, 56, 0, 0)), (56, (.aload_n 0, 57, 0, 0)), (57, (.getfield 25, 60, 1, 4)), (60, (.iconst 1, 61, 1, 0)), (61, (.iconst 0, 62, 0, 0)), (62, (.iastore, 63, 0, 0)), (63, (.aload_n 0, 64, 0, 0)), (64, (.getfield 25, 67, 1, 4)), (67, (.iconst 2, 68, 2, 0)), (68, (.bipush 9, 70, 9, 0)), (70, (.iastore, 71, 0, 0)), (71, (.aload_n 0, 72, 0, 0)), (72, (.iconst 0, 73, 0, 0)), (73, (.putfield 55, 76, 1, 8)), (76, (.aload_n 0, 77, 0, 0)), (77, (.iconst 0, 78, 0, 0)), (78, (.putfield 59, 81, 1, 9))]
def am_l11_2 : List (Nat × am_R) := [(81, (.aload_n 0, 82, 0, 0)), (82, (.iconst (-1), 83, 4294967295, 0)), (83, (.putfield 62, 86, 1, 10)), (86, (.aload_n 0, 87, 0, 0)), (87, (.fconst 0, 88, 0, 0)), (88, (.putfield 65, 91, 1, 11)), (91, (.aload_n 0, 92, 0, 0)), (92, (.bipush 10, 94, 10, 0)), (94, (.putfield 69, 97, 1, 12)), (97, (.aload_n 0, 98, 0, 0)), (98, (.iconst 0, 99, 0, 0)), (99, (.putfield 72, 102, 1, 13)), (102, (.aload_n 0, 103, 0, 0)), (103, (.iconst 0, 104, 0, 0)), (104, (.putfield 75, 107, 1, 14)), (107, (.aload_n 0, 108, 0, 0)), (108, (.iconst 0, 109, 0, 0)), (109, (.putfield 79, 112, 1, 15)), (112, (.aload_n 0, 113, 0, 0)), (113, (.iconst 0, 114, 0, 0)), (114, (.putfield 82, 117, 1, 16)), (117, (.return_, 118, 0, 0))]
def am_t11 : Nat → am_R := fun pc => am_lc [(42, am_l11_0), (79, am_l11_1), (118, am_l11_2)] pc
def am_l12_0 : List (Nat × am_R) := [(0, (.aload_n 0, 1, 0, 0)), (1, (.getfield 55, 4, 1, 8)), (4, (.aload_n 0, 5, 0, 0)), (5, (.getfield 45, 8, 1, 0)), (8, (.getfield 85, 11, 2, 3)), (11, (.getfield 91, 14, 4, 5)), (14, (.if_icmp .lt 7, 17, 21, 0)), (17, (.iconst 1, 18, 1, 0)), (18, (.goto 4, 21, 22, 0)), (21, (.iconst 0, 22, 0, 0)), (22, (.ireturn, 23, 0, 0))]
def am_t12 : Nat → am_R := fun pc => am_lc [(23, am_l12_0)] pc
def am_l13_0 : List (Nat × am_R) := [(0, (.aload_n 0, 1, 0, 0)), (1, (.getfield 82, 4, 1, 16)), (4, (.bipush 113, 6, 113, 0)), (6, (.if_icmp .ne 7, 9, 13, 0)), (9, (.iconst 1, 10, 1, 0)), (10, (.goto 4, 13, 14, 0)), (13, (.iconst 0, 14, 0, 0)), (14, (.ireturn, 15, 0, 0))]
def am_t13 : Nat → am_R := fun pc => am_lc [(15, am_l13_0)] pc
def am_l14_0 : List (Nat × am_R) := [(0, (.iconst 0, 1, 0, 0)), (1, (.istore_n 1, 2, 1, 0)), (2, (.iconst 0, 3, 0, 0)), (3, (.istore_n 2, 4, 2, 0)), (4, (.iload_n 2, 5, 2, 0)), (5, (.bipush 12, 7, 12, 0)), (7, (.if_icmp .ge 18, 10, 25, 0)), (10, (.iload_n 1, 11, 1, 0)), (11, (.aload_n 0, 12, 0, 0)), (12, (.getfield 18, 15, 1, 2)), (15, (.iload_n 2, 16, 2, 0)), (16, (.iaload, 17, 0, 0)), (17, (.iadd, 18, 0, 0)), (18, (.istore_n 1, 19, 1, 0)), (19, (.iinc 2 1, 22, 2, 1)), (22, (.goto (-18), 25, 4, 0)), (25, (.iload_n 1, 26, 1, 0)), (26, (.ireturn, 27, 0, 0))]
def am_t14 : Nat → am_R := fun pc => am_lc [(27, am_l14_0)] pc
def am_l15_0 : List (Nat × am_R) := [(0, (.aload_n 0, 1, 0, 0)), (1, (.invokevirtual 49, 4, 11, 1)), (4, (.iconst 0, 5, 0, 0)), (5, (.istore_n 2, 6, 2, 0)), (6, (.iload_n 2, 7, 2, 0)), (7, (.iload_n 1, 8, 1, 0)), (8, (.if_icmp .ge 14, 11, 22, 0)), (11, (.aload_n 0, 12, 0, 0)), (12, (.invokevirtual 96, 15, 16, 1)), (15, (.pop, 16, 0, 0)), (16, (.iinc 2 1, 19, 2, 1)), (19, (.goto (-13), 22, 6, 0)), (22, (.return_, 23, 0, 0))]
def am_t15 : Nat → am_R := fun pc => am_lc [(23, am_l15_0)] pc
def am_l16_0 : List (Nat × am_R) := [(0, (.aload_n 0, 1, 0, 0)), (1, (.getfield 45, 4, 1, 0)), (4, (.getfield 85, 7, 2, 3)), (7, (.astore_n 1, 8, 1, 0)), (8, (.aload_n 1, 9, 1, 0)), (9, (.aload_n 0, 10, 0, 0)), (10, (.getfield 55, 13, 1, 8)), (13, (.invokevirtual 100, 16, 54, 4)), (16, (.ifCond .ne 6, 19, 22, 0)), (19, (.bipush 45, 21, 45, 0)), (21, (.ireturn, 22, 0, 0)), (22, (.aload_n 0, 23, 0, 0)), (23, (.aload_n 1, 24, 1, 0)), (24, (.getfield 104, 27, 4, 0)), (27, (.aload_n 0, 28, 0, 0)), (28, (.getfield 55, 31, 1, 8)), (31, (.iaload, 32, 0, 0)), (32, (.putfield 82, 35, 1, 16)), (35, (.aload_n 0, 36, 0, 0)), (36, (.aload_n 0, 37, 0, 0)), (37, (.aload_n 1, 38, 1, 0)), (38, (.getfield 107, 41, 4, 1)), (41, (.aload_n 0, 42, 0, 0)), (42, (.getfield 55, 45, 1, 8))]
def am_l16_1 : List (Nat × am_R) := [(45, (.iaload, 46, 0, 0)), (46, (.invokevirtual 110, 49, 17, 1)), (49, (.putfield 114, 52, 1, 17)), (52, (.aload_n 0, 53, 0, 0)), (53, (.aload_n 0, 54, 0, 0)), (54, (.aload_n 1, 55, 1, 0)), (55, (.getfield 117, 58, 4, 2)), (58, (.aload_n 0, 59, 0, 0)), (59, (.getfield 55, 62, 1, 8)), (62, (.iaload, 63, 0, 0)), (63, (.invokevirtual 110, 66, 17, 1)), (66, (.putfield 120, 69, 1, 18)), (69, (.aload_n 0, 70, 0, 0)), (70, (.aload_n 0, 71, 0, 0)), (71, (.aload_n 1, 72, 1, 0)), (72, (.getfield 123, 75, 4, 3)), (75, (.aload_n 0, 76, 0, 0)), (76, (.getfield 55, 79, 1, 8)), (79, (.iaload, 80, 0, 0)), (80, (.invokevirtual 110, 83, 17, 1)), (83, (.putfield 126, 86, 1, 19)), (86, (.aload_n 0, 87, 0, 0)), (87, (.invokevirtual 129, 90, 18, 1)), (90, (.ifCond .eq 10, 93, 100, 0))]
def am_l16_2 : List (Nat × am_R) := [(93, (.aload_n 0, 94, 0, 0)), (94, (.invokevirtual 133, 97, 19, 1)), (97, (.goto 5, 100, 102, 0)), (100, (.bipush 110, 102, 110, 0)), (102, (.istore_n 2, 103, 2, 0)), (103, (.iload_n 2, 104, 2, 0)), (104, (.bipush 45, 106, 45, 0)), (106, (.if_icmp .ne 16, 109, 122, 0)), (109, (.aload_n 0, 110, 0, 0)), (110, (.invokevirtual 136, 113, 24, 1)), (113, (.aload_n 0, 114, 0, 0)), (114, (.invokevirtual 139, 117, 30, 1)), (117, (.aload_n 0, 118, 0, 0)), (118, (.invokevirtual 142, 121, 20, 1)), (121, (.istore_n 2, 122, 2, 0)), (122, (.iload_n 2, 123, 2, 0)), (123, (.bipush 45, 125, 45, 0)), (125, (.if_icmp .ne 21, 128, 146, 0)), (128, (.aload_n 0, 129, 0, 0)), (129, (.invokevirtual 145, 132, 34, 1)), (132, (.aload_n 0, 133, 0, 0)), (133, (.invokevirtual 148, 136, 33, 1)), (136, (.aload_n 0, 137, 0, 0)), (137, (.dup, 138, 0, 0))]
def am_l16_3 : List (Nat × am_R) := [(138, (.getfield 59, 141, 1, 9)), (141, (.iconst 1, 142, 1, 0)), (142, (.iadd, 143, 0, 0)), (143, (.putfield 59, 146, 1, 9)), (146, (.iload_n 2, 147, 2, 0)), (147, (.ireturn, 148, 0, 0))]
def am_t16 : Nat → am_R := fun pc => am_lc [(43, am_l16_0), (91, am_l16_1), (138, am_l16_2), (148, am_l16_3)] pc
def am_l17_0 : List (Nat × am_R) := [(0, (.iload_n 1, 1, 1, 0)), (1, (.bipush 100, 3, 100, 0)), (3, (.isub, 4, 0, 0)), (4, (.istore_n 2, 5, 2, 0)), (5, (.iload_n 2, 6, 2, 0)), (6, (.iconst 0, 7, 0, 0)), (7, (.bipush 7, 9, 7, 0)), (9, (.invokestatic 151, 12, 84, 1)), (12, (.ifCond .eq 12, 15, 24, 0)), (15, (.aload_n 0, 16, 0, 0)), (16, (.getfield 22, 19, 1, 3)), (19, (.iload_n 2, 20, 2, 0)), (20, (.iaload, 21, 0, 0)), (21, (.goto 4, 24, 25, 0)), (24, (.iload_n 1, 25, 1, 0)), (25, (.ireturn, 26, 0, 0))]
def am_t17 : Nat → am_R := fun pc => am_lc [(26, am_l17_0)] pc
def am_l18_0 : List (Nat × am_R) := [(0, (.aload_n 0, 1, 0, 0)), (1, (.getfield 82, 4, 1, 16)), (4, (.tableswitch 245 100 120 #[100, 245, 202, 245, 245, 245, 245, 245, 245, 192, 245, 213, 121, 245, 234, 192, 148, 245, 223, 245, 223], 104, 0, 0)), (104, (.aload_n 0, 105, 0, 0)), (105, (.getfield 114, 108, 1, 17)), (108, (.ifCond .lt 15, 111, 123, 0)), (111, (.aload_n 0, 112, 0, 0)), (112, (.getfield 120, 115, 1, 18)), (115, (.iconst 1, 116, 1, 0)), (116, (.if_icmp .lt 7, 119, 123, 0)), (119, (.iconst 1, 120, 1, 0)), (120, (.goto 4, 123, 124, 0)), (123, (.iconst 0, 124, 0, 0)), (124, (.ireturn, 125, 0, 0)), (125, (.aload_n 0, 126, 0, 0)), (126, (.getfield 114, 129, 1, 17)), (129, (.ifCond .lt 21, 132, 150, 0)), (132, (.aload_n 0, 133, 0, 0)), (133, (.getfield 120, 136, 1, 18)), (136, (.ifCond .lt 14, 139, 150, 0)), (139, (.aload_n 0, 140, 0, 0)), (140, (.getfield 126, 143, 1, 19)), (143, (.ifCond .lt 7, 146, 150, 0)), (146, (.iconst 1, 147, 1, 0))]
def am_l18_1 : List (Nat × am_R) := [(147, (.goto 4, 150, 151, 0)), (150, (.iconst 0, 151, 0, 0)), (151, (.ireturn, 152, 0, 0)), (152, (.aload_n 0, 153, 0, 0)), (153, (.getfield 114, 156, 1, 17)), (156, (.aload_n 0, 157, 0, 0)), (157, (.getfield 120, 160, 1, 18)), (160, (.invokestatic 155, 163, 87, 1)), (163, (.ifCond .eq 31, 166, 194, 0)), (166, (.aload_n 0, 167, 0, 0)), (167, (.getfield 45, 170, 1, 0)), (170, (.getfield 159, 173, 2, 0)), (173, (.aload_n 0, 174, 0, 0)), (174, (.getfield 114, 177, 1, 17)), (177, (.aload_n 0, 178, 0, 0)), (178, (.getfield 120, 181, 1, 18)), (181, (.invokestatic 163, 184, 88, 1)), (184, (.invokevirtual 167, 187, 58, 5)), (187, (.ifCond .eq 7, 190, 194, 0)), (190, (.iconst 1, 191, 1, 0)), (191, (.goto 4, 194, 195, 0)), (194, (.iconst 0, 195, 0, 0)), (195, (.ireturn, 196, 0, 0)), (196, (.aload_n 0, 197, 0, 0))]
def am_l18_2 : List (Nat × am_R) := [(197, (.getfield 114, 200, 1, 17)), (200, (.iconst 0, 201, 0, 0)), (201, (.iconst 1, 202, 1, 0)), (202, (.invokestatic 151, 205, 84, 1)), (205, (.ireturn, 206, 0, 0)), (206, (.aload_n 0, 207, 0, 0)), (207, (.getfield 114, 210, 1, 17)), (210, (.iconst 1, 211, 1, 0)), (211, (.bipush 50, 213, 50, 0)), (213, (.invokestatic 151, 216, 84, 1)), (216, (.ireturn, 217, 0, 0)), (217, (.aload_n 0, 218, 0, 0)), (218, (.getfield 114, 221, 1, 17)), (221, (.iconst 0, 222, 0, 0)), (222, (.iconst 3, 223, 3, 0)), (223, (.invokestatic 151, 226, 84, 1)), (226, (.ireturn, 227, 0, 0)), (227, (.aload_n 0, 228, 0, 0)), (228, (.getfield 114, 231, 1, 17)), (231, (.iconst 0, 232, 0, 0)), (232, (.bipush 7, 234, 7, 0)), (234, (.invokestatic 151, 237, 84, 1)), (237, (.ireturn, 238, 0, 0)), (238, (.aload_n 0, 239, 0, 0))]
def am_l18_3 : List (Nat × am_R) := [(239, (.getfield 114, 242, 1, 17)), (242, (.iconst 0, 243, 0, 0)), (243, (.bipush 9, 245, 9, 0)), (245, (.invokestatic 151, 248, 84, 1)), (248, (.ireturn, 249, 0, 0)), (249, (.iconst 1, 250, 1, 0)), (250, (.ireturn, 251, 0, 0))]
def am_t18 : Nat → am_R := fun pc => am_lc [(147, am_l18_0), (197, am_l18_1), (239, am_l18_2), (251, am_l18_3)] pc
def am_l19_0 : List (Nat × am_R) := [(0, (.aload_n 0, 1, 0, 0)), (1, (.getfield 82, 4, 1, 16)), (4, (.bipush 116, 6, 116, 0)), (6, (.if_icmp .ne 29, 9, 35, 0)), (9, (.aload_n 0, 10, 0, 0)), (10, (.getfield 79, 13, 1, 15)), (13, (.ifCond .eq 6, 16, 19, 0)), (16, (.bipush 116, 18, 116, 0)), (18, (.ireturn, 19, 0, 0)), (19, (.aload_n 0, 20, 0, 0)), (20, (.invokevirtual 172, 23, 23, 1)), (23, (.iconst (-1), 24, 4294967295, 0)), (24, (.if_icmp .ne 8, 27, 32, 0)), (27, (.bipush 119, 29, 119, 0)), (29, (.goto 5, 32, 34, 0)), (32, (.bipush 45, 34, 45, 0)), (34, (.ireturn, 35, 0, 0)), (35, (.aload_n 0, 36, 0, 0)), (36, (.invokevirtual 176, 39, 21, 1)), (39, (.ifCond .eq 25, 42, 64, 0)), (42, (.aload_n 0, 43, 0, 0)), (43, (.getfield 62, 46, 1, 10)), (46, (.iconst (-1), 47, 4294967295, 0)), (47, (.if_icmp .eq 17, 50, 64, 0))]
def am_l19_1 : List (Nat × am_R) := [(50, (.aload_n 0, 51, 0, 0)), (51, (.aload_n 0, 52, 0, 0)), (52, (.getfield 62, 55, 1, 10)), (55, (.invokevirtual 179, 58, 22, 1)), (58, (.ifCond .eq 6, 61, 64, 0)), (61, (.bipush 119, 63, 119, 0)), (63, (.ireturn, 64, 0, 0)), (64, (.aload_n 0, 65, 0, 0)), (65, (.invokevirtual 176, 68, 21, 1)), (68, (.ifCond .ne 12, 71, 80, 0)), (71, (.aload_n 0, 72, 0, 0)), (72, (.getfield 82, 75, 1, 16)), (75, (.bipush 120, 77, 120, 0)), (77, (.if_icmp .ne 15, 80, 92, 0)), (80, (.aload_n 0, 81, 0, 0)), (81, (.getfield 62, 84, 1, 10)), (84, (.iconst (-1), 85, 4294967295, 0)), (85, (.if_icmp .ne 7, 88, 92, 0)), (88, (.iconst 1, 89, 1, 0)), (89, (.goto 4, 92, 93, 0)), (92, (.iconst 0, 93, 0, 0)), (93, (.istore_n 1, 94, 1, 0)), (94, (.iload_n 1, 95, 1, 0)), (95, (.ifCond .ne 17, 98, 112, 0))]
def am_l19_2 : List (Nat × am_R) := [(98, (.aload_n 0, 99, 0, 0)), (99, (.invokevirtual 176, 102, 21, 1)), (102, (.ifCond .eq 15, 105, 117, 0)), (105, (.aload_n 0, 106, 0, 0)), (106, (.getfield 79, 109, 1, 15)), (109, (.ifCond .ne 8, 112, 117, 0)), (112, (.bipush 115, 114, 115, 0)), (114, (.goto 5, 117, 119, 0)), (117, (.bipush 45, 119, 45, 0)), (119, (.ireturn, 120, 0, 0))]
def am_t19 : Nat → am_R := fun pc => am_lc [(48, am_l19_0), (96, am_l19_1), (120, am_l19_2)] pc
def am_l20_0 : List (Nat × am_R) := [(0, (.aload_n 0, 1, 0, 0)), (1, (.getfield 34, 4, 1, 6)), (4, (.invokevirtual 182, 7, 48, 3)), (7, (.ifCond .eq 6, 10, 13, 0)), (10, (.bipush 108, 12, 108, 0)), (12, (.ireturn, 13, 0, 0)), (13, (.aload_n 0, 14, 0, 0)), (14, (.aload_n 0, 15, 0, 0)), (15, (.getfield 45, 18, 1, 0)), (18, (.getfield 185, 21, 2, 1)), (21, (.invokevirtual 188, 24, 29, 1)), (24, (.ifCond .ne 23, 27, 47, 0)), (27, (.aload_n 0, 28, 0, 0)), (28, (.getfield 82, 31, 1, 16)), (31, (.bipush 103, 33, 103, 0)), (33, (.if_icmp .ne 17, 36, 50, 0)), (36, (.aload_n 0, 37, 0, 0)), (37, (.aload_n 0, 38, 0, 0)), (38, (.getfield 12, 41, 1, 1)), (41, (.invokevirtual 188, 44, 29, 1)), (44, (.ifCond .eq 6, 47, 50, 0)), (47, (.bipush 99, 49, 99, 0)), (49, (.ireturn, 50, 0, 0)), (50, (.aload_n 0, 51, 0, 0))]
def am_l20_1 : List (Nat × am_R) := [(51, (.getfield 82, 54, 1, 16)), (54, (.bipush 120, 56, 120, 0)), (56, (.if_icmp .ne 15, 59, 71, 0)), (59, (.aload_n 0, 60, 0, 0)), (60, (.invokevirtual 192, 63, 32, 1)), (63, (.ifCond .eq 8, 66, 71, 0)), (66, (.bipush 120, 68, 120, 0)), (68, (.goto 5, 71, 73, 0)), (71, (.bipush 45, 73, 45, 0)), (73, (.ireturn, 74, 0, 0))]
def am_t20 : Nat → am_R := fun pc => am_lc [(51, am_l20_0), (74, am_l20_1)] pc
def am_l21_0 : List (Nat × am_R) := [(0, (.aload_n 0, 1, 0, 0)), (1, (.getfield 82, 4, 1, 16)), (4, (.bipush 108, 6, 108, 0)), (6, (.if_icmp .eq 21, 9, 27, 0)), (9, (.aload_n 0, 10, 0, 0)), (10, (.getfield 82, 13, 1, 16)), (13, (.bipush 100, 15, 100, 0)), (15, (.if_icmp .eq 12, 18, 27, 0)), (18, (.aload_n 0, 19, 0, 0)), (19, (.getfield 82, 22, 1, 16)), (22, (.bipush 112, 24, 112, 0)), (24, (.if_icmp .ne 7, 27, 31, 0)), (27, (.iconst 1, 28, 1, 0)), (28, (.goto 4, 31, 32, 0)), (31, (.iconst 0, 32, 0, 0)), (32, (.ireturn, 33, 0, 0))]
def am_t21 : Nat → am_R := fun pc => am_lc [(33, am_l21_0)] pc
def am_l22_0 : List (Nat × am_R) := [(0, (.iload_n 1, 1, 1, 0)), (1, (.iconst 0, 2, 0, 0)), (2, (.bipush 11, 4, 11, 0)), (4, (.invokestatic 151, 7, 84, 1)), (7, (.ifCond .eq 28, 10, 35, 0)), (10, (.aload_n 0, 11, 0, 0)), (11, (.getfield 18, 14, 1, 2)), (14, (.iload_n 1, 15, 1, 0)), (15, (.iaload, 16, 0, 0)), (16, (.aload_n 0, 17, 0, 0)), (17, (.getfield 45, 20, 1, 0)), (20, (.getfield 159, 23, 2, 0)), (23, (.getfield 195, 26, 5, 2)), (26, (.iload_n 1, 27, 1, 0)), (27, (.iaload, 28, 0, 0)), (28, (.if_icmp .lt 7, 31, 35, 0)), (31, (.iconst 1, 32, 1, 0)), (32, (.goto 4, 35, 36, 0)), (35, (.iconst 0, 36, 0, 0)), (36, (.ireturn, 37, 0, 0))]
def am_t22 : Nat → am_R := fun pc => am_lc [(37, am_l22_0)] pc
def am_l23_0 : List (Nat × am_R) := [(0, (.aload_n 0, 1, 0, 0)), (1, (.getfield 114, 4, 1, 17)), (4, (.aload_n 0, 5, 0, 0)), (5, (.getfield 120, 8, 1, 18)), (8, (.invokestatic 163, 11, 88, 1)), (11, (.istore_n 1, 12, 1, 0)), (12, (.aload_n 0, 13, 0, 0)), (13, (.getfield 120, 16, 1, 18)), (16, (.istore_n 2, 17, 2, 0)), (17, (.iload_n 2, 18, 2, 0)), (18, (.iconst 4, 19, 4, 0)), (19, (.if_icmp .ge 43, 22, 62, 0)), (22, (.aload_n 0, 23, 0, 0)), (23, (.getfield 114, 26, 1, 17)), (26, (.iload_n 2, 27, 2, 0)), (27, (.invokestatic 163, 30, 88, 1)), (30, (.istore_n 3, 31, 3, 0)), (31, (.aload_n 0, 32, 0, 0)), (32, (.getfield 45, 35, 1, 0)), (35, (.getfield 159, 38, 2, 0)), (38, (.iload_n 1, 39, 1, 0)), (39, (.iload_n 3, 40, 3, 0)), (40, (.invokevirtual 198, 43, 60, 5)), (43, (.ifCond .eq 13, 46, 56, 0))]
def am_l23_1 : List (Nat × am_R) := [(46, (.aload_n 0, 47, 0, 0)), (47, (.iload_n 3, 48, 3, 0)), (48, (.invokevirtual 179, 51, 22, 1)), (51, (.ifCond .ne 5, 54, 56, 0)), (54, (.iload_n 3, 55, 3, 0)), (55, (.ireturn, 56, 0, 0)), (56, (.iinc 2 1, 59, 2, 1)), (59, (.goto (-42), 62, 17, 0)), (62, (.iconst (-1), 63, 4294967295, 0)), (63, (.ireturn, 64, 0, 0))]
def am_t23 : Nat → am_R := fun pc => am_lc [(44, am_l23_0), (64, am_l23_1)] pc
def am_l24_0 : List (Nat × am_R) := [(0, (.aload_n 0, 1, 0, 0)), (1, (.getfield 34, 4, 1, 6)), (4, (.invokevirtual 201, 7, 42, 3)), (7, (.aload_n 0, 8, 0, 0)), (8, (.getfield 34, 11, 1, 6)), (11, (.aload_n 0, 12, 0, 0)), (12, (.getfield 25, 15, 1, 4)), (15, (.iconst 0, 16, 0, 0)), (16, (.iaload, 17, 0, 0)), (17, (.aload_n 0, 18, 0, 0)), (18, (.getfield 25, 21, 1, 4)), (21, (.iconst 1, 22, 1, 0)), (22, (.iaload, 23, 0, 0)), (23, (.aload_n 0, 24, 0, 0)), (24, (.getfield 25, 27, 1, 4)), (27, (.iconst 2, 28, 2, 0)), (28, (.iaload, 29, 0, 0)), (29, (.invokevirtual 204, 32, 44, 3)), (32, (.aload_n 0, 33, 0, 0)), (33, (.getfield 82, 36, 1, 16)), (36, (.bipush 103, 38, 103, 0)), (38, (.if_icmp .eq 12, 41, 50, 0)), (41, (.aload_n 0, 42, 0, 0)), (42, (.getfield 82, 45, 1, 16))]
def am_l24_1 : List (Nat × am_R) := [(45, (.bipush 108, 47, 108, 0)), (47, (.if_icmp .ne 10, 50, 57, 0)), (50, (.aload_n 0, 51, 0, 0)), (51, (.invokevirtual 208, 54, 25, 1)), (54, (.goto 32, 57, 86, 0)), (57, (.aload_n 0, 58, 0, 0)), (58, (.getfield 82, 61, 1, 16)), (61, (.bipush 100, 63, 100, 0)), (63, (.if_icmp .ne 10, 66, 73, 0)), (66, (.aload_n 0, 67, 0, 0)), (67, (.invokevirtual 211, 70, 26, 1)), (70, (.goto 16, 73, 86, 0)), (73, (.aload_n 0, 74, 0, 0)), (74, (.getfield 82, 77, 1, 16)), (77, (.bipush 112, 79, 112, 0)), (79, (.if_icmp .ne 7, 82, 86, 0)), (82, (.aload_n 0, 83, 0, 0)), (83, (.invokevirtual 214, 86, 27, 1)), (86, (.return_, 87, 0, 0))]
def am_t24 : Nat → am_R := fun pc => am_lc [(43, am_l24_0), (87, am_l24_1)] pc
def am_l25_0 : List (Nat × am_R) := [(0, (.aload_n 0, 1, 0, 0)), (1, (.getfield 75, 4, 1, 14)), (4, (.ifCond .eq 10, 7, 14, 0)), (7, (.aload_n 0, 8, 0, 0)), (8, (.getfield 25, 11, 1, 4)), (11, (.goto 10, 14, 21, 0)), (14, (.aload_n 0, 15, 0, 0)), (15, (.getfield 45, 18, 1, 0)), (18, (.getfield 217, 21, 2, 2)), (21, (.astore_n 1, 22, 1, 0)), (22, (.aload_n 0, 23, 0, 0)), (23, (.getfield 75, 26, 1, 14)), (26, (.ifCond .eq 7, 29, 33, 0)), (29, (.iconst 0, 30, 0, 0)), (30, (.goto 9, 33, 39, 0)), (33, (.aload_n 0, 34, 0, 0)), (34, (.getfield 72, 37, 1, 13)), (37, (.iconst 3, 38, 3, 0)), (38, (.imul, 39, 0, 0)), (39, (.istore_n 2, 40, 2, 0)), (40, (.iload_n 2, 41, 2, 0)), (41, (.iconst 0, 42, 0, 0)), (42, (.aload_n 1, 43, 1, 0)), (43, (.arraylength, 44, 0, 0))]
def am_l25_1 : List (Nat × am_R) := [(44, (.iconst 3, 45, 3, 0)), (45, (.isub, 46, 0, 0)), (46, (.invokestatic 151, 49, 84, 1)), (49, (.ifCond .ne 4, 52, 53, 0)), (52, (.return_, 53, 0, 0)), (53, (.aload_n 1, 54, 1, 0)), (54, (.iload_n 2, 55, 2, 0)), (55, (.iaload, 56, 0, 0)), (56, (.aload_n 0, 57, 0, 0)), (57, (.getfield 114, 60, 1, 17)), (60, (.iadd, 61, 0, 0)), (61, (.istore_n 3, 62, 3, 0)), (62, (.aload_n 1, 63, 1, 0)), (63, (.iload_n 2, 64, 2, 0)), (64, (.iconst 1, 65, 1, 0)), (65, (.iadd, 66, 0, 0)), (66, (.iaload, 67, 0, 0)), (67, (.aload_n 0, 68, 0, 0)), (68, (.getfield 120, 71, 1, 18)), (71, (.iadd, 72, 0, 0)), (72, (.istore 4, 74, 4, 0)), (74, (.aload_n 1, 75, 1, 0)), (75, (.iload_n 2, 76, 2, 0)), (76, (.iconst 2, 77, 2, 0))]
def am_l25_2 : List (Nat × am_R) := [(77, (.iadd, 78, 0, 0)), (78, (.iaload, 79, 0, 0)), (79, (.aload_n 0, 80, 0, 0)), (80, (.getfield 126, 83, 1, 19)), (83, (.iadd, 84, 0, 0)), (84, (.istore 5, 86, 5, 0)), (86, (.aload_n 0, 87, 0, 0)), (87, (.getfield 34, 90, 1, 6)), (90, (.aload_n 0, 91, 0, 0)), (91, (.getfield 25, 94, 1, 4)), (94, (.iconst 0, 95, 0, 0)), (95, (.iaload, 96, 0, 0)), (96, (.aload_n 0, 97, 0, 0)), (97, (.getfield 25, 100, 1, 4)), (100, (.iconst 1, 101, 1, 0)), (101, (.iaload, 102, 0, 0)), (102, (.aload_n 0, 103, 0, 0)), (103, (.getfield 25, 106, 1, 4)), (106, (.iconst 2, 107, 2, 0)), (107, (.iaload, 108, 0, 0)), (108, (.iload_n 3, 109, 3, 0)), (109, (.iload 4, 111, 4, 0)), (111, (.iload 5, 113, 5, 0)), (113, (.invokevirtual 220, 116, 43, 3))]
def am_l25_3 : List (Nat × am_R) := [(116, (.aload_n 0, 117, 0, 0)), (117, (.getfield 34, 120, 1, 6)), (120, (.iload_n 3, 121, 3, 0)), (121, (.iload 4, 123, 4, 0)), (123, (.iload 5, 125, 5, 0)), (125, (.invokevirtual 204, 128, 44, 3)), (128, (.return_, 129, 0, 0))]
def am_t25 : Nat → am_R := fun pc => am_lc [(44, am_l25_0), (77, am_l25_1), (114, am_l25_2), (129, am_l25_3)] pc
def am_l26_0 : List (Nat × am_R) := [(0, (.iconst 1, 1, 1, 0)), (1, (.istore_n 1, 2, 1, 0)), (2, (.iload_n 1, 3, 1, 0)), (3, (.aload_n 0, 4, 0, 0)), (4, (.getfield 114, 7, 1, 17)), (7, (.if_icmp .ge 32, 10, 39, 0)), (10, (.iload_n 1, 11, 1, 0)), (11, (.aload_n 0, 12, 0, 0)), (12, (.getfield 120, 15, 1, 18)), (15, (.imul, 16, 0, 0)), (16, (.aload_n 0, 17, 0, 0)), (17, (.getfield 114, 20, 1, 17)), (20, (.if_icmp .ge 19, 23, 39, 0)), (23, (.aload_n 0, 24, 0, 0)), (24, (.iload_n 1, 25, 1, 0)), (25, (.aload_n 0, 26, 0, 0)), (26, (.getfield 120, 29, 1, 18)), (29, (.imul, 30, 0, 0)), (30, (.invokevirtual 224, 33, 28, 1)), (33, (.iinc 1 1, 36, 1, 1)), (36, (.goto (-34), 39, 2, 0)), (39, (.aload_n 0, 40, 0, 0)), (40, (.aload_n 0, 41, 0, 0)), (41, (.getfield 114, 44, 1, 17))]
def am_l26_1 : List (Nat × am_R) := [(44, (.invokevirtual 224, 47, 28, 1)), (47, (.return_, 48, 0, 0))]
def am_t26 : Nat → am_R := fun pc => am_lc [(42, am_l26_0), (48, am_l26_1)] pc
def am_l27_0 : List (Nat × am_R) := [(0, (.aload_n 0, 1, 0, 0)), (1, (.aload_n 0, 2, 0, 0)), (2, (.getfield 126, 5, 1, 19)), (5, (.invokevirtual 224, 8, 28, 1)), (8, (.aload_n 0, 9, 0, 0)), (9, (.getfield 25, 12, 1, 4)), (12, (.iconst 0, 13, 0, 0)), (13, (.iaload, 14, 0, 0)), (14, (.istore_n 1, 15, 1, 0)), (15, (.aload_n 0, 16, 0, 0)), (16, (.getfield 25, 19, 1, 4)), (19, (.iconst 0, 20, 0, 0)), (20, (.iaload, 21, 0, 0)), (21, (.aload_n 0, 22, 0, 0)), (22, (.getfield 114, 25, 1, 17)), (25, (.iadd, 26, 0, 0)), (26, (.istore_n 2, 27, 2, 0)), (27, (.aload_n 0, 28, 0, 0)), (28, (.getfield 25, 31, 1, 4)), (31, (.iconst 1, 32, 1, 0)), (32, (.iaload, 33, 0, 0)), (33, (.istore_n 3, 34, 3, 0)), (34, (.aload_n 0, 35, 0, 0)), (35, (.getfield 25, 38, 1, 4))]
def am_l27_1 : List (Nat × am_R) := [(38, (.iconst 2, 39, 2, 0)), (39, (.iaload, 40, 0, 0)), (40, (.aload_n 0, 41, 0, 0)), (41, (.getfield 126, 44, 1, 19)), (44, (.isub, 45, 0, 0)), (45, (.istore 4, 47, 4, 0)), (47, (.aload_n 0, 48, 0, 0)), (48, (.getfield 34, 51, 1, 6)), (51, (.iload_n 1, 52, 1, 0)), (52, (.iload_n 3, 53, 3, 0)), (53, (.iload 4, 55, 4, 0)), (55, (.iload_n 2, 56, 2, 0)), (56, (.iload_n 3, 57, 3, 0)), (57, (.iload 4, 59, 4, 0)), (59, (.invokevirtual 220, 62, 43, 3)), (62, (.iload_n 2, 63, 2, 0)), (63, (.istore 5, 65, 5, 0)), (65, (.iconst 0, 66, 0, 0)), (66, (.istore 6, 68, 6, 0)), (68, (.iload 6, 70, 6, 0)), (70, (.aload_n 0, 71, 0, 0)), (71, (.getfield 120, 74, 1, 18)), (74, (.if_icmp .ge 65, 77, 139, 0)), (77, (.aload_n 0, 78, 0, 0))]
def am_l27_2 : List (Nat × am_R) := [(78, (.getfield 34, 81, 1, 6)), (81, (.iload 5, 83, 5, 0)), (83, (.iload_n 3, 84, 3, 0)), (84, (.iload 4, 86, 4, 0)), (86, (.iload 5, 88, 5, 0)), (88, (.iload_n 3, 89, 3, 0)), (89, (.iconst 1, 90, 1, 0)), (90, (.iadd, 91, 0, 0)), (91, (.iload 4, 93, 4, 0)), (93, (.invokevirtual 220, 96, 43, 3)), (96, (.iinc 3 1, 99, 3, 1)), (99, (.iload 5, 101, 5, 0)), (101, (.iload_n 1, 102, 1, 0)), (102, (.if_icmp .ne 7, 105, 109, 0)), (105, (.iload_n 2, 106, 2, 0)), (106, (.goto 4, 109, 110, 0)), (109, (.iload_n 1, 110, 1, 0)), (110, (.istore 7, 112, 7, 0)), (112, (.aload_n 0, 113, 0, 0)), (113, (.getfield 34, 116, 1, 6)), (116, (.iload 5, 118, 5, 0)), (118, (.iload_n 3, 119, 3, 0)), (119, (.iload 4, 121, 4, 0)), (121, (.iload 7, 123, 7, 0))]
def am_l27_3 : List (Nat × am_R) := [(123, (.iload_n 3, 124, 3, 0)), (124, (.iload 4, 126, 4, 0)), (126, (.invokevirtual 220, 129, 43, 3)), (129, (.iload 7, 131, 7, 0)), (131, (.istore 5, 133, 5, 0)), (133, (.iinc 6 1, 136, 6, 1)), (136, (.goto (-68), 139, 68, 0)), (139, (.aload_n 0, 140, 0, 0)), (140, (.getfield 34, 143, 1, 6)), (143, (.iload 5, 145, 5, 0)), (145, (.iload_n 3, 146, 3, 0)), (146, (.aload_n 0, 147, 0, 0)), (147, (.getfield 25, 150, 1, 4)), (150, (.iconst 2, 151, 2, 0)), (151, (.iaload, 152, 0, 0)), (152, (.invokevirtual 204, 155, 44, 3)), (155, (.return_, 156, 0, 0))]
def am_t27 : Nat → am_R := fun pc => am_lc [(36, am_l27_0), (78, am_l27_1), (122, am_l27_2), (156, am_l27_3)] pc
def am_l28_0 : List (Nat × am_R) := [(0, (.aload_n 0, 1, 0, 0)), (1, (.getfield 34, 4, 1, 6)), (4, (.aload_n 0, 5, 0, 0)), (5, (.getfield 25, 8, 1, 4)), (8, (.iconst 0, 9, 0, 0)), (9, (.iaload, 10, 0, 0)), (10, (.aload_n 0, 11, 0, 0)), (11, (.getfield 25, 14, 1, 4)), (14, (.iconst 1, 15, 1, 0)), (15, (.iaload, 16, 0, 0)), (16, (.aload_n 0, 17, 0, 0)), (17, (.getfield 25, 20, 1, 4)), (20, (.iconst 2, 21, 2, 0)), (21, (.iaload, 22, 0, 0)), (22, (.aload_n 0, 23, 0, 0)), (23, (.getfield 25, 26, 1, 4)), (26, (.iconst 0, 27, 0, 0)), (27, (.iaload, 28, 0, 0)), (28, (.aload_n 0, 29, 0, 0)), (29, (.getfield 25, 32, 1, 4)), (32, (.iconst 1, 33, 1, 0)), (33, (.iaload, 34, 0, 0)), (34, (.aload_n 0, 35, 0, 0)), (35, (.getfield 25, 38, 1, 4))]
def am_l28_1 : List (Nat × am_R) := [(38, (.iconst 2, 39, 2, 0)), (39, (.iaload, 40, 0, 0)), (40, (.iload_n 1, 41, 1, 0)), (41, (.isub, 42, 0, 0)), (42, (.invokevirtual 220, 45, 43, 3)), (45, (.return_, 46, 0, 0))]
def am_t28 : Nat → am_R := fun pc => am_lc [(36, am_l28_0), (46, am_l28_1)] pc
def am_l29_0 : List (Nat × am_R) := [(0, (.aload_n 0, 1, 0, 0)), (1, (.getfield 62, 4, 1, 10)), (4, (.iconst (-1), 5, 4294967295, 0)), (5, (.if_icmp .ne 5, 8, 10, 0)), (8, (.iconst 0, 9, 0, 0)), (9, (.ireturn, 10, 0, 0)), (10, (.iconst 0, 11, 0, 0)), (11, (.istore_n 2, 12, 2, 0)), (12, (.iload_n 2, 13, 2, 0)), (13, (.aload_n 0, 14, 0, 0)), (14, (.getfield 34, 17, 1, 6)), (17, (.getfield 228, 20, 3, 3)), (20, (.if_icmp .ge 54, 23, 74, 0)), (23, (.aload_n 0, 24, 0, 0)), (24, (.getfield 34, 27, 1, 6)), (27, (.iload_n 2, 28, 2, 0)), (28, (.invokevirtual 231, 31, 46, 3)), (31, (.istore_n 3, 32, 3, 0)), (32, (.iconst 1, 33, 1, 0)), (33, (.istore 4, 35, 4, 0)), (35, (.iload 4, 37, 4, 0)), (37, (.iload_n 3, 38, 3, 0)), (38, (.if_icmp .gt 30, 41, 68, 0)), (41, (.aload_n 0, 42, 0, 0))]
def am_l29_1 : List (Nat × am_R) := [(42, (.iload_n 2, 43, 2, 0)), (43, (.iload 4, 45, 4, 0)), (45, (.iload_n 3, 46, 3, 0)), (46, (.invokevirtual 234, 49, 31, 1)), (49, (.aload_n 1, 50, 1, 0)), (50, (.aload_n 0, 51, 0, 0)), (51, (.getfield 41, 54, 1, 7)), (54, (.invokevirtual 237, 57, 8, 0)), (57, (.ifCond .eq 5, 60, 62, 0)), (60, (.iconst 1, 61, 1, 0)), (61, (.ireturn, 62, 0, 0)), (62, (.iinc 4 1, 65, 4, 1)), (65, (.goto (-30), 68, 35, 0)), (68, (.iinc 2 1, 71, 2, 1)), (71, (.goto (-59), 74, 12, 0)), (74, (.iconst 0, 75, 0, 0)), (75, (.ireturn, 76, 0, 0))]
def am_t29 : Nat → am_R := fun pc => am_lc [(42, am_l29_0), (76, am_l29_1)] pc
def am_l30_0 : List (Nat × am_R) := [(0, (.aload_n 0, 1, 0, 0)), (1, (.getfield 62, 4, 1, 10)), (4, (.iconst 0, 5, 0, 0)), (5, (.bipush 11, 7, 11, 0)), (7, (.invokestatic 151, 10, 84, 1)), (10, (.ifCond .eq 40, 13, 50, 0)), (13, (.aload_n 0, 14, 0, 0)), (14, (.getfield 41, 17, 1, 7)), (17, (.aload_n 0, 18, 0, 0)), (18, (.getfield 45, 21, 1, 0)), (21, (.getfield 159, 24, 2, 0)), (24, (.getfield 241, 27, 5, 0)), (27, (.aload_n 0, 28, 0, 0)), (28, (.getfield 62, 31, 1, 10)), (31, (.caload, 32, 0, 0)), (32, (.aload_n 0, 33, 0, 0)), (33, (.getfield 45, 36, 1, 0)), (36, (.getfield 159, 39, 2, 0)), (39, (.getfield 245, 42, 5, 1)), (42, (.aload_n 0, 43, 0, 0)), (43, (.getfield 62, 46, 1, 10)), (46, (.iaload, 47, 0, 0)), (47, (.invokevirtual 248, 50, 62, 6)), (50, (.return_, 51, 0, 0))]
def am_t30 : Nat → am_R := fun pc => am_lc [(51, am_l30_0)] pc
def am_l31_0 : List (Nat × am_R) := [(0, (.aload_n 0, 1, 0, 0)), (1, (.getfield 41, 4, 1, 7)), (4, (.aload_n 0, 5, 0, 0)), (5, (.getfield 34, 8, 1, 6)), (8, (.iload_n 1, 9, 1, 0)), (9, (.iconst 0, 10, 0, 0)), (10, (.iload_n 2, 11, 2, 0)), (11, (.iload_n 3, 12, 3, 0)), (12, (.invokevirtual 252, 15, 47, 3)), (15, (.aload_n 0, 16, 0, 0)), (16, (.getfield 34, 19, 1, 6)), (19, (.iload_n 1, 20, 1, 0)), (20, (.iconst 1, 21, 1, 0)), (21, (.iload_n 2, 22, 2, 0)), (22, (.iload_n 3, 23, 3, 0)), (23, (.invokevirtual 252, 26, 47, 3)), (26, (.aload_n 0, 27, 0, 0)), (27, (.getfield 34, 30, 1, 6)), (30, (.iload_n 1, 31, 1, 0)), (31, (.iconst 2, 32, 2, 0)), (32, (.iload_n 2, 33, 2, 0)), (33, (.iload_n 3, 34, 3, 0)), (34, (.invokevirtual 252, 37, 47, 3)), (37, (.invokevirtual 256, 40, 63, 6))]
def am_l31_1 : List (Nat × am_R) := [(40, (.return_, 41, 0, 0))]
def am_t31 : Nat → am_R := fun pc => am_lc [(38, am_l31_0), (41, am_l31_1)] pc
def am_l32_0 : List (Nat × am_R) := [(0, (.aload_n 0, 1, 0, 0)), (1, (.getfield 41, 4, 1, 7)), (4, (.aload_n 0, 5, 0, 0)), (5, (.getfield 25, 8, 1, 4)), (8, (.iconst 0, 9, 0, 0)), (9, (.iaload, 10, 0, 0)), (10, (.aload_n 0, 11, 0, 0)), (11, (.getfield 25, 14, 1, 4)), (14, (.iconst 1, 15, 1, 0)), (15, (.iaload, 16, 0, 0)), (16, (.aload_n 0, 17, 0, 0)), (17, (.getfield 25, 20, 1, 4)), (20, (.iconst 2, 21, 2, 0)), (21, (.iaload, 22, 0, 0)), (22, (.invokevirtual 256, 25, 63, 6)), (25, (.aload_n 0, 26, 0, 0)), (26, (.getfield 12, 29, 1, 1)), (29, (.aload_n 0, 30, 0, 0)), (30, (.getfield 41, 33, 1, 7)), (33, (.invokevirtual 237, 36, 8, 0)), (36, (.ireturn, 37, 0, 0))]
def am_t32 : Nat → am_R := fun pc => am_lc [(37, am_l32_0)] pc
def am_l33_0 : List (Nat × am_R) := [(0, (.aload_n 0, 1, 0, 0)), (1, (.getfield 55, 4, 1, 8)), (4, (.iconst 1, 5, 1, 0)), (5, (.iadd, 6, 0, 0)), (6, (.istore_n 1, 7, 1, 0)), (7, (.aload_n 0, 8, 0, 0)), (8, (.getfield 82, 11, 1, 16)), (11, (.tableswitch 217 101 120 #[209, 124, 217, 217, 201, 217, 217, 217, 135, 217, 155, 217, 217, 201, 104, 93, 217, 166, 217, 186], 104, 0, 0)), (104, (.aload_n 0, 105, 0, 0)), (105, (.aload_n 0, 106, 0, 0)), (106, (.invokevirtual 172, 109, 23, 1)), (109, (.putfield 62, 112, 1, 10)), (112, (.goto 116, 115, 228, 0)), (115, (.aload_n 0, 116, 0, 0)), (116, (.aload_n 0, 117, 0, 0)), (117, (.getfield 114, 120, 1, 17)), (120, (.iconst 1, 121, 1, 0)), (121, (.if_icmp .ne 7, 124, 128, 0)), (124, (.iconst 1, 125, 1, 0)), (125, (.goto 4, 128, 129, 0)), (128, (.iconst 0, 129, 0, 0)), (129, (.putfield 79, 132, 1, 15)), (132, (.goto 96, 135, 228, 0)), (135, (.aload_n 0, 136, 0, 0))]
def am_l33_1 : List (Nat × am_R) := [(136, (.aload_n 0, 137, 0, 0)), (137, (.getfield 114, 140, 1, 17)), (140, (.putfield 69, 143, 1, 12)), (143, (.goto 85, 146, 228, 0)), (146, (.aload_n 0, 147, 0, 0)), (147, (.aload_n 0, 148, 0, 0)), (148, (.getfield 114, 151, 1, 17)), (151, (.iconst 1, 152, 1, 0)), (152, (.if_icmp .ne 7, 155, 159, 0)), (155, (.iconst 1, 156, 1, 0)), (156, (.goto 4, 159, 160, 0)), (159, (.iconst 0, 160, 0, 0)), (160, (.putfield 75, 163, 1, 14)), (163, (.goto 65, 166, 228, 0)), (166, (.aload_n 0, 167, 0, 0)), (167, (.aload_n 0, 168, 0, 0)), (168, (.getfield 114, 171, 1, 17)), (171, (.putfield 72, 174, 1, 13)), (174, (.goto 54, 177, 228, 0)), (177, (.aload_n 0, 178, 0, 0)), (178, (.aload_n 0, 179, 0, 0)), (179, (.getfield 114, 182, 1, 17)), (182, (.aload_n 0, 183, 0, 0)), (183, (.getfield 120, 186, 1, 18))]
def am_l33_2 : List (Nat × am_R) := [(186, (.aload_n 0, 187, 0, 0)), (187, (.getfield 126, 190, 1, 19)), (190, (.iadd, 191, 0, 0)), (191, (.invokevirtual 259, 194, 36, 1)), (194, (.goto 34, 197, 228, 0)), (197, (.aload_n 0, 198, 0, 0)), (198, (.aload_n 0, 199, 0, 0)), (199, (.getfield 114, 202, 1, 17)), (202, (.aload_n 0, 203, 0, 0)), (203, (.invokevirtual 263, 206, 37, 1)), (206, (.invokevirtual 259, 209, 36, 1)), (209, (.goto 19, 212, 228, 0)), (212, (.aload_n 0, 213, 0, 0)), (213, (.invokevirtual 266, 216, 38, 1)), (216, (.istore_n 1, 217, 1, 0)), (217, (.goto 11, 220, 228, 0)), (220, (.aload_n 0, 221, 0, 0)), (221, (.invokevirtual 269, 224, 39, 1)), (224, (.istore_n 1, 225, 1, 0)), (225, (.goto 3, 228, 228, 0)), (228, (.aload_n 0, 229, 0, 0)), (229, (.iload_n 1, 230, 1, 0)), (230, (.putfield 55, 233, 1, 8)), (233, (.return_, 234, 0, 0))]
def am_t33 : Nat → am_R := fun pc => am_lc [(136, am_l33_0), (184, am_l33_1), (234, am_l33_2)] pc
def am_l34_0 : List (Nat × am_R) := [(0, (.fconst 1, 1, 0, 0)), (1, (.aload_n 0, 2, 0, 0)), (2, (.getfield 82, 5, 1, 16)), (5, (.bipush 103, 7, 103, 0)), (7, (.if_icmp .ne 8, 10, 15, 0)), (10, (.bipush 100, 12, 100, 0)), (12, (.goto 7, 15, 19, 0)), (15, (.aload_n 0, 16, 0, 0)), (16, (.getfield 69, 19, 1, 12)), (19, (.i2f, 20, 0, 0)), (20, (.fdiv, 21, 0, 0)), (21, (.fstore_n 1, 22, 1, 0)), (22, (.iconst 0, 23, 0, 0)), (23, (.istore_n 2, 24, 2, 0)), (24, (.iload_n 2, 25, 2, 0)), (25, (.aload_n 0, 26, 0, 0)), (26, (.getfield 34, 29, 1, 6)), (29, (.getfield 228, 32, 3, 3)), (32, (.if_icmp .ge 44, 35, 76, 0)), (35, (.aload_n 0, 36, 0, 0)), (36, (.getfield 34, 39, 1, 6)), (39, (.iload_n 2, 40, 2, 0)), (40, (.invokevirtual 231, 43, 46, 3)), (43, (.istore_n 3, 44, 3, 0))]
def am_l34_1 : List (Nat × am_R) := [(44, (.aload_n 0, 45, 0, 0)), (45, (.invokevirtual 176, 48, 21, 1)), (48, (.ifCond .eq 9, 51, 57, 0)), (51, (.aload_n 0, 52, 0, 0)), (52, (.iload_n 2, 53, 2, 0)), (53, (.iload_n 3, 54, 3, 0)), (54, (.invokevirtual 272, 57, 35, 1)), (57, (.aload_n 0, 58, 0, 0)), (58, (.aload_n 0, 59, 0, 0)), (59, (.getfield 65, 62, 1, 11)), (62, (.iload_n 3, 63, 3, 0)), (63, (.i2f, 64, 0, 0)), (64, (.fload_n 1, 65, 1, 0)), (65, (.fmul, 66, 0, 0)), (66, (.fadd, 67, 0, 0)), (67, (.putfield 65, 70, 1, 11)), (70, (.iinc 2 1, 73, 2, 1)), (73, (.goto (-49), 76, 24, 0)), (76, (.iconst 0, 77, 0, 0)), (77, (.istore_n 2, 78, 2, 0)), (78, (.iload_n 2, 79, 2, 0)), (79, (.iconst 3, 80, 3, 0)), (80, (.if_icmp .ge 23, 83, 103, 0)), (83, (.aload_n 0, 84, 0, 0))]
def am_l34_2 : List (Nat × am_R) := [(84, (.getfield 25, 87, 1, 4)), (87, (.iload_n 2, 88, 2, 0)), (88, (.aload_n 0, 89, 0, 0)), (89, (.getfield 34, 92, 1, 6)), (92, (.iload_n 2, 93, 2, 0)), (93, (.invokevirtual 275, 96, 45, 3)), (96, (.iastore, 97, 0, 0)), (97, (.iinc 2 1, 100, 2, 1)), (100, (.goto (-22), 103, 78, 0)), (103, (.return_, 104, 0, 0))]
def am_t34 : Nat → am_R := fun pc => am_lc [(44, am_l34_0), (84, am_l34_1), (104, am_l34_2)] pc
def am_l35_0 : List (Nat × am_R) := [(0, (.aload_n 0, 1, 0, 0)), (1, (.getfield 62, 4, 1, 10)), (4, (.iconst 0, 5, 0, 0)), (5, (.bipush 11, 7, 11, 0)), (7, (.invokestatic 151, 10, 84, 1)), (10, (.ifCond .ne 4, 13, 14, 0)), (13, (.return_, 14, 0, 0)), (14, (.iconst 1, 15, 1, 0)), (15, (.istore_n 3, 16, 3, 0)), (16, (.iload_n 3, 17, 3, 0)), (17, (.iload_n 2, 18, 2, 0)), (18, (.if_icmp .gt 39, 21, 57, 0)), (21, (.aload_n 0, 22, 0, 0)), (22, (.iload_n 1, 23, 1, 0)), (23, (.iload_n 3, 24, 3, 0)), (24, (.iload_n 2, 25, 2, 0)), (25, (.invokevirtual 234, 28, 31, 1)), (28, (.aload_n 0, 29, 0, 0)), (29, (.getfield 18, 32, 1, 2)), (32, (.aload_n 0, 33, 0, 0)), (33, (.getfield 62, 36, 1, 10)), (36, (.dup2, 37, 0, 0)), (37, (.iaload, 38, 0, 0)), (38, (.aload_n 0, 39, 0, 0))]
def am_l35_1 : List (Nat × am_R) := [(39, (.getfield 12, 42, 1, 1)), (42, (.aload_n 0, 43, 0, 0)), (43, (.getfield 41, 46, 1, 7)), (46, (.invokevirtual 278, 49, 9, 0)), (49, (.iadd, 50, 0, 0)), (50, (.iastore, 51, 0, 0)), (51, (.iinc 3 1, 54, 3, 1)), (54, (.goto (-38), 57, 16, 0)), (57, (.return_, 58, 0, 0))]
def am_t35 : Nat → am_R := fun pc => am_lc [(39, am_l35_0), (58, am_l35_1)] pc
def am_l36_0 : List (Nat × am_R) := [(0, (.iload_n 1, 1, 1, 0)), (1, (.iconst 0, 2, 0, 0)), (2, (.bipush 7, 4, 7, 0)), (4, (.invokestatic 151, 7, 84, 1)), (7, (.ifCond .eq 20, 10, 27, 0)), (10, (.aload_n 0, 11, 0, 0)), (11, (.getfield 22, 14, 1, 3)), (14, (.iload_n 1, 15, 1, 0)), (15, (.bipush (-50), 17, 4294967246, 0)), (17, (.bipush 50, 19, 50, 0)), (19, (.iload_n 2, 20, 2, 0)), (20, (.invokestatic 282, 23, 160, 0)), (23, (.invokestatic 287, 26, 159, 0)), (26, (.iastore, 27, 0, 0)), (27, (.return_, 28, 0, 0))]
def am_t36 : Nat → am_R := fun pc => am_lc [(28, am_l36_0)] pc
def am_l37_0 : List (Nat × am_R) := [(0, (.aload_n 0, 1, 0, 0)), (1, (.getfield 25, 4, 1, 4)), (4, (.iconst 2, 5, 2, 0)), (5, (.iaload, 6, 0, 0)), (6, (.istore_n 1, 7, 1, 0)), (7, (.iload_n 1, 8, 1, 0)), (8, (.ifCond .le 47, 11, 55, 0)), (11, (.aload_n 0, 12, 0, 0)), (12, (.getfield 41, 15, 1, 7)), (15, (.aload_n 0, 16, 0, 0)), (16, (.getfield 25, 19, 1, 4)), (19, (.iconst 0, 20, 0, 0)), (20, (.iaload, 21, 0, 0)), (21, (.aload_n 0, 22, 0, 0)), (22, (.getfield 25, 25, 1, 4)), (25, (.iconst 1, 26, 1, 0)), (26, (.iaload, 27, 0, 0)), (27, (.iload_n 1, 28, 1, 0)), (28, (.iconst 1, 29, 1, 0)), (29, (.isub, 30, 0, 0)), (30, (.invokevirtual 256, 33, 63, 6)), (33, (.aload_n 0, 34, 0, 0)), (34, (.getfield 12, 37, 1, 1)), (37, (.aload_n 0, 38, 0, 0))]
def am_l37_1 : List (Nat × am_R) := [(38, (.getfield 41, 41, 1, 7)), (41, (.invokevirtual 237, 44, 8, 0)), (44, (.ifCond .eq 5, 47, 49, 0)), (47, (.iload_n 1, 48, 1, 0)), (48, (.ireturn, 49, 0, 0)), (49, (.iinc 1 (-1), 52, 1, 4294967295)), (52, (.goto (-45), 55, 7, 0)), (55, (.iconst 0, 56, 0, 0)), (56, (.ireturn, 57, 0, 0))]
def am_t37 : Nat → am_R := fun pc => am_lc [(38, am_l37_0), (57, am_l37_1)] pc
def am_l38_0 : List (Nat × am_R) := [(0, (.aload_n 0, 1, 0, 0)), (1, (.getfield 82, 4, 1, 16)), (4, (.bipush 114, 6, 114, 0)), (6, (.if_icmp .ne 18, 9, 24, 0)), (9, (.aload_n 0, 10, 0, 0)), (10, (.getfield 114, 13, 1, 17)), (13, (.ifCond .le 7, 16, 20, 0)), (16, (.iconst 1, 17, 1, 0)), (17, (.goto 23, 20, 40, 0)), (20, (.iconst 0, 21, 0, 0)), (21, (.goto 19, 24, 40, 0)), (24, (.aload_n 0, 25, 0, 0)), (25, (.getfield 114, 28, 1, 17)), (28, (.aload_n 0, 29, 0, 0)), (29, (.getfield 120, 32, 1, 18)), (32, (.if_icmp .le 7, 35, 39, 0)), (35, (.iconst 1, 36, 1, 0)), (36, (.goto 4, 39, 40, 0)), (39, (.iconst 0, 40, 0, 0)), (40, (.istore_n 1, 41, 1, 0)), (41, (.iload_n 1, 42, 1, 0)), (42, (.ifCond .ne 20, 45, 62, 0)), (45, (.aload_n 0, 46, 0, 0)), (46, (.getfield 45, 49, 1, 0))]
def am_l38_1 : List (Nat × am_R) := [(49, (.getfield 85, 52, 2, 3)), (52, (.aload_n 0, 53, 0, 0)), (53, (.getfield 55, 56, 1, 8)), (56, (.invokevirtual 290, 59, 161, 4)), (59, (.iconst 1, 60, 1, 0)), (60, (.iadd, 61, 0, 0)), (61, (.ireturn, 62, 0, 0)), (62, (.aload_n 0, 63, 0, 0)), (63, (.getfield 45, 66, 1, 0)), (66, (.getfield 85, 69, 2, 3)), (69, (.aload_n 0, 70, 0, 0)), (70, (.getfield 55, 73, 1, 8)), (73, (.invokevirtual 100, 76, 54, 4)), (76, (.ifCond .eq 16, 79, 92, 0)), (79, (.aload_n 0, 80, 0, 0)), (80, (.getfield 28, 83, 1, 5)), (83, (.aload_n 0, 84, 0, 0)), (84, (.getfield 55, 87, 1, 8)), (87, (.aload_n 0, 88, 0, 0)), (88, (.getfield 114, 91, 1, 17)), (91, (.iastore, 92, 0, 0)), (92, (.aload_n 0, 93, 0, 0)), (93, (.getfield 55, 96, 1, 8)), (96, (.iconst 1, 97, 1, 0))]
def am_l38_2 : List (Nat × am_R) := [(97, (.iadd, 98, 0, 0)), (98, (.ireturn, 99, 0, 0))]
def am_t38 : Nat → am_R := fun pc => am_lc [(47, am_l38_0), (97, am_l38_1), (99, am_l38_2)] pc
def am_l39_0 : List (Nat × am_R) := [(0, (.aload_n 0, 1, 0, 0)), (1, (.getfield 45, 4, 1, 0)), (4, (.getfield 85, 7, 2, 3)), (7, (.aload_n 0, 8, 0, 0)), (8, (.getfield 55, 11, 1, 8)), (11, (.invokevirtual 290, 14, 161, 4)), (14, (.istore_n 1, 15, 1, 0)), (15, (.aload_n 0, 16, 0, 0)), (16, (.getfield 45, 19, 1, 0)), (19, (.getfield 85, 22, 2, 3)), (22, (.iload_n 1, 23, 1, 0)), (23, (.invokevirtual 100, 26, 54, 4)), (26, (.ifCond .eq 20, 29, 46, 0)), (29, (.aload_n 0, 30, 0, 0)), (30, (.getfield 45, 33, 1, 0)), (33, (.getfield 85, 36, 2, 3)), (36, (.getfield 104, 39, 4, 0)), (39, (.iload_n 1, 40, 1, 0)), (40, (.iaload, 41, 0, 0)), (41, (.bipush 114, 43, 114, 0)), (43, (.if_icmp .eq 10, 46, 53, 0)), (46, (.aload_n 0, 47, 0, 0)), (47, (.getfield 55, 50, 1, 8)), (50, (.iconst 1, 51, 1, 0))]
def am_l39_1 : List (Nat × am_R) := [(51, (.iadd, 52, 0, 0)), (52, (.ireturn, 53, 0, 0)), (53, (.aload_n 0, 54, 0, 0)), (54, (.getfield 28, 57, 1, 5)), (57, (.iload_n 1, 58, 1, 0)), (58, (.dup2, 59, 0, 0)), (59, (.iaload, 60, 0, 0)), (60, (.iconst 1, 61, 1, 0)), (61, (.isub, 62, 0, 0)), (62, (.iastore, 63, 0, 0)), (63, (.aload_n 0, 64, 0, 0)), (64, (.getfield 28, 67, 1, 5)), (67, (.iload_n 1, 68, 1, 0)), (68, (.iaload, 69, 0, 0)), (69, (.ifCond .le 9, 72, 78, 0)), (72, (.iload_n 1, 73, 1, 0)), (73, (.iconst 1, 74, 1, 0)), (74, (.iadd, 75, 0, 0)), (75, (.goto 9, 78, 84, 0)), (78, (.aload_n 0, 79, 0, 0)), (79, (.getfield 55, 82, 1, 8)), (82, (.iconst 1, 83, 1, 0)), (83, (.iadd, 84, 0, 0)), (84, (.ireturn, 85, 0, 0))]
def am_t39 : Nat → am_R := fun pc => am_lc [(51, am_l39_0), (85, am_l39_1)] pc
def am_l40_0 : List (Nat × am_R) := [(0, (.aload_n 0, 1, 0, 0)), (1, (.invokespecial 3, 4, 0, 2)), (4, (.aload_n 0, 5, 0, 0)), (5, (.new 9, 8, 5, 3)), (8, (.dup, 9, 0, 0)), (9, (.invokespecial 11, 12, 56, 1)), (12, (.putfield 12, 15, 2, 0)), (15, (.aload_n 0, 16, 0, 0)), (16, (.new 18, 19, 0, 1)), (19, (.dup, 20, 0, 0)), (20, (.invokespecial 20, 23, 0, 1)), (23, (.putfield 21, 26, 2, 1)), (26, (.aload_n 0, 27, 0, 0)), (27, (.bipush 12, 29, 12, 0)), (29, (.newarray .int, 31, 0, 0)), (31, (.putfield 25, 34, 2, 2)), (34, (.aload_n 0, 35, 0, 0)), (35, (.new 29, 38, 4, 6)), (38, (.dup, 39, 0, 0)), (39, (.invokespecial 31, 42, 49, 1)), (42, (.putfield 32, 45, 2, 3)), (45, (.return_, 46, 0, 0))]
def am_t40 : Nat → am_R := fun pc => am_lc [(46, am_l40_0)] pc
def am_l41_0 : List (Nat × am_R) := [(0, (.aload_n 0, 1, 0, 0)), (1, (.invokespecial 3, 4, 0, 2)), (4, (.aload_n 0, 5, 0, 0)), (5, (.sipush 306, 8, 306, 0)), (8, (.newarray .int, 10, 0, 0)), (10, (.putfield 9, 13, 3, 0)), (13, (.aload_n 0, 14, 0, 0)), (14, (.sipush 306, 17, 306, 0)), (17, (.newarray .int, 19, 0, 0)), (19, (.putfield 15, 22, 3, 1)), (22, (.aload_n 0, 23, 0, 0)), (23, (.iconst 3, 24, 3, 0)), (24, (.newarray .int, 26, 0, 0)), (26, (.putfield 18, 29, 3, 2)), (29, (.return_, 30, 0, 0))]
def am_t41 : Nat → am_R := fun pc => am_lc [(30, am_l41_0)] pc
def am_l42_0 : List (Nat × am_R) := [(0, (.aload_n 0, 1, 0, 0)), (1, (.iconst 0, 2, 0, 0)), (2, (.putfield 21, 5, 3, 3)), (5, (.return_, 6, 0, 0))]
def am_t42 : Nat → am_R := fun pc => am_lc [(6, am_l42_0)] pc
def am_l43_0 : List (Nat × am_R) := [(0, (.aload_n 0, 1, 0, 0)), (1, (.getfield 21, 4, 3, 3)), (4, (.bipush 102, 6, 102, 0)), (6, (.if_icmp .lt 4, 9, 10, 0)), (9, (.return_, 10, 0, 0)), (10, (.aload_n 0, 11, 0, 0)), (11, (.getfield 21, 14, 3, 3)), (14, (.iconst 3, 15, 3, 0)), (15, (.imul, 16, 0, 0)), (16, (.istore 7, 18, 7, 0)), (18, (.aload_n 0, 19, 0, 0)), (19, (.getfield 9, 22, 3, 0)), (22, (.iload 7, 24, 7, 0)), (24, (.iload_n 1, 25, 1, 0)), (25, (.iastore, 26, 0, 0)), (26, (.aload_n 0, 27, 0, 0)), (27, (.getfield 9, 30, 3, 0)), (30, (.iload 7, 32, 7, 0)), (32, (.iconst 1, 33, 1, 0)), (33, (.iadd, 34, 0, 0)), (34, (.iload_n 2, 35, 2, 0)), (35, (.iastore, 36, 0, 0)), (36, (.aload_n 0, 37, 0, 0)), (37, (.getfield 9, 40, 3, 0))]
def am_l43_1 : List (Nat × am_R) := [(40, (.iload 7, 42, 7, 0)), (42, (.iconst 2, 43, 2, 0)), (43, (.iadd, 44, 0, 0)), (44, (.iload_n 3, 45, 3, 0)), (45, (.iastore, 46, 0, 0)), (46, (.aload_n 0, 47, 0, 0)), (47, (.getfield 15, 50, 3, 1)), (50, (.iload 7, 52, 7, 0)), (52, (.iload 4, 54, 4, 0)), (54, (.iload_n 1, 55, 1, 0)), (55, (.isub, 56, 0, 0)), (56, (.iastore, 57, 0, 0)), (57, (.aload_n 0, 58, 0, 0)), (58, (.getfield 15, 61, 3, 1)), (61, (.iload 7, 63, 7, 0)), (63, (.iconst 1, 64, 1, 0)), (64, (.iadd, 65, 0, 0)), (65, (.iload 5, 67, 5, 0)), (67, (.iload_n 2, 68, 2, 0)), (68, (.isub, 69, 0, 0)), (69, (.iastore, 70, 0, 0)), (70, (.aload_n 0, 71, 0, 0)), (71, (.getfield 15, 74, 3, 1)), (74, (.iload 7, 76, 7, 0))]
def am_l43_2 : List (Nat × am_R) := [(76, (.iconst 2, 77, 2, 0)), (77, (.iadd, 78, 0, 0)), (78, (.iload 6, 80, 6, 0)), (80, (.iload_n 3, 81, 3, 0)), (81, (.isub, 82, 0, 0)), (82, (.iastore, 83, 0, 0)), (83, (.aload_n 0, 84, 0, 0)), (84, (.dup, 85, 0, 0)), (85, (.getfield 21, 88, 3, 3)), (88, (.iconst 1, 89, 1, 0)), (89, (.iadd, 90, 0, 0)), (90, (.putfield 21, 93, 3, 3)), (93, (.return_, 94, 0, 0))]
def am_t43 : Nat → am_R := fun pc => am_lc [(38, am_l43_0), (75, am_l43_1), (94, am_l43_2)] pc
def am_l44_0 : List (Nat × am_R) := [(0, (.aload_n 0, 1, 0, 0)), (1, (.getfield 18, 4, 3, 2)), (4, (.iconst 0, 5, 0, 0)), (5, (.iload_n 1, 6, 1, 0)), (6, (.iastore, 7, 0, 0)), (7, (.aload_n 0, 8, 0, 0)), (8, (.getfield 18, 11, 3, 2)), (11, (.iconst 1, 12, 1, 0)), (12, (.iload_n 2, 13, 2, 0)), (13, (.iastore, 14, 0, 0)), (14, (.aload_n 0, 15, 0, 0)), (15, (.getfield 18, 18, 3, 2)), (18, (.iconst 2, 19, 2, 0)), (19, (.iload_n 3, 20, 3, 0)), (20, (.iastore, 21, 0, 0)), (21, (.return_, 22, 0, 0))]
def am_t44 : Nat → am_R := fun pc => am_lc [(22, am_l44_0)] pc
def am_l45_0 : List (Nat × am_R) := [(0, (.iload_n 1, 1, 1, 0)), (1, (.iconst 0, 2, 0, 0)), (2, (.iconst 2, 3, 2, 0)), (3, (.invokestatic 25, 6, 84, 1)), (6, (.ifCond .eq 12, 9, 18, 0)), (9, (.aload_n 0, 10, 0, 0)), (10, (.getfield 18, 13, 3, 2)), (13, (.iload_n 1, 14, 1, 0)), (14, (.iaload, 15, 0, 0)), (15, (.goto 4, 18, 19, 0)), (18, (.iconst 0, 19, 0, 0)), (19, (.ireturn, 20, 0, 0))]
def am_t45 : Nat → am_R := fun pc => am_lc [(20, am_l45_0)] pc
def am_l46_0 : List (Nat × am_R) := [(0, (.iconst 0, 1, 0, 0)), (1, (.istore_n 2, 2, 2, 0)), (2, (.iconst 0, 3, 0, 0)), (3, (.istore_n 3, 4, 3, 0)), (4, (.iload_n 3, 5, 3, 0)), (5, (.iconst 3, 6, 3, 0)), (6, (.if_icmp .ge 47, 9, 53, 0)), (9, (.iload_n 1, 10, 1, 0)), (10, (.iconst 3, 11, 3, 0)), (11, (.imul, 12, 0, 0)), (12, (.iload_n 3, 13, 3, 0)), (13, (.iadd, 14, 0, 0)), (14, (.istore 4, 16, 4, 0)), (16, (.iload 4, 18, 4, 0)), (18, (.iconst 0, 19, 0, 0)), (19, (.aload_n 0, 20, 0, 0)), (20, (.getfield 15, 23, 3, 1)), (23, (.arraylength, 24, 0, 0)), (24, (.iconst 1, 25, 1, 0)), (25, (.isub, 26, 0, 0)), (26, (.invokestatic 25, 29, 84, 1)), (29, (.ifCond .eq 18, 32, 47, 0)), (32, (.iload_n 2, 33, 2, 0)), (33, (.aload_n 0, 34, 0, 0))]
def am_l46_1 : List (Nat × am_R) := [(34, (.getfield 15, 37, 3, 1)), (37, (.iload 4, 39, 4, 0)), (39, (.iaload, 40, 0, 0)), (40, (.invokestatic 29, 43, 158, 0)), (43, (.invokestatic 35, 46, 159, 0)), (46, (.istore_n 2, 47, 2, 0)), (47, (.iinc 3 1, 50, 3, 1)), (50, (.goto (-46), 53, 4, 0)), (53, (.iload_n 2, 54, 2, 0)), (54, (.ireturn, 55, 0, 0))]
def am_t46 : Nat → am_R := fun pc => am_lc [(34, am_l46_0), (55, am_l46_1)] pc
def am_l47_0 : List (Nat × am_R) := [(0, (.iload_n 1, 1, 1, 0)), (1, (.iconst 3, 2, 3, 0)), (2, (.imul, 3, 0, 0)), (3, (.iload_n 2, 4, 2, 0)), (4, (.iadd, 5, 0, 0)), (5, (.istore 5, 7, 5, 0)), (7, (.iload 4, 9, 4, 0)), (9, (.ifCond .eq 18, 12, 27, 0)), (12, (.iload 5, 14, 5, 0)), (14, (.ifCond .lt 13, 17, 27, 0)), (17, (.iload 5, 19, 5, 0)), (19, (.aload_n 0, 20, 0, 0)), (20, (.getfield 9, 23, 3, 0)), (23, (.arraylength, 24, 0, 0)), (24, (.if_icmp .lt 5, 27, 29, 0)), (27, (.iconst 0, 28, 0, 0)), (28, (.ireturn, 29, 0, 0)), (29, (.aload_n 0, 30, 0, 0)), (30, (.getfield 9, 33, 3, 0)), (33, (.iload 5, 35, 5, 0)), (35, (.iaload, 36, 0, 0)), (36, (.aload_n 0, 37, 0, 0)), (37, (.getfield 15, 40, 3, 1)), (40, (.iload 5, 42, 5, 0))]
def am_l47_1 : List (Nat × am_R) := [(42, (.iaload, 43, 0, 0)), (43, (.iload_n 3, 44, 3, 0)), (44, (.imul, 45, 0, 0)), (45, (.iload 4, 47, 4, 0)), (47, (.idiv, 48, 0, 0)), (48, (.iadd, 49, 0, 0)), (49, (.ireturn, 50, 0, 0))]
def am_t47 : Nat → am_R := fun pc => am_lc [(41, am_l47_0), (50, am_l47_1)] pc
def am_l48_0 : List (Nat × am_R) := [(0, (.iconst 0, 1, 0, 0)), (1, (.istore_n 1, 2, 1, 0)), (2, (.iload_n 1, 3, 1, 0)), (3, (.aload_n 0, 4, 0, 0)), (4, (.getfield 21, 7, 3, 3)), (7, (.iconst 3, 8, 3, 0)), (8, (.imul, 9, 0, 0)), (9, (.if_icmp .ge 64, 12, 73, 0)), (12, (.aload_n 0, 13, 0, 0)), (13, (.getfield 9, 16, 3, 0)), (16, (.iload_n 1, 17, 1, 0)), (17, (.iaload, 18, 0, 0)), (18, (.aload_n 0, 19, 0, 0)), (19, (.getfield 15, 22, 3, 1)), (22, (.iload_n 1, 23, 1, 0)), (23, (.iaload, 24, 0, 0)), (24, (.iadd, 25, 0, 0)), (25, (.aload_n 0, 26, 0, 0)), (26, (.getfield 9, 29, 3, 0)), (29, (.iload_n 1, 30, 1, 0)), (30, (.iconst 1, 31, 1, 0)), (31, (.iadd, 32, 0, 0)), (32, (.iaload, 33, 0, 0)), (33, (.aload_n 0, 34, 0, 0))]
def am_l48_1 : List (Nat × am_R) := [(34, (.getfield 15, 37, 3, 1)), (37, (.iload_n 1, 38, 1, 0)), (38, (.iconst 1, 39, 1, 0)), (39, (.iadd, 40, 0, 0)), (40, (.iaload, 41, 0, 0)), (41, (.iadd, 42, 0, 0)), (42, (.aload_n 0, 43, 0, 0)), (43, (.getfield 9, 46, 3, 0)), (46, (.iload_n 1, 47, 1, 0)), (47, (.iconst 2, 48, 2, 0)), (48, (.iadd, 49, 0, 0)), (49, (.iaload, 50, 0, 0)), (50, (.aload_n 0, 51, 0, 0)), (51, (.getfield 15, 54, 3, 1)), (54, (.iload_n 1, 55, 1, 0)), (55, (.iconst 2, 56, 2, 0)), (56, (.iadd, 57, 0, 0)), (57, (.iaload, 58, 0, 0)), (58, (.iadd, 59, 0, 0)), (59, (.invokestatic 39, 62, 86, 1)), (62, (.ifCond .ne 5, 65, 67, 0)), (65, (.iconst 1, 66, 1, 0)), (66, (.ireturn, 67, 0, 0)), (67, (.iinc 1 3, 70, 1, 3))]
def am_l48_2 : List (Nat × am_R) := [(70, (.goto (-68), 73, 2, 0)), (73, (.iconst 0, 74, 0, 0)), (74, (.ireturn, 75, 0, 0))]
def am_t48 : Nat → am_R := fun pc => am_lc [(34, am_l48_0), (68, am_l48_1), (75, am_l48_2)] pc
def am_l49_0 : List (Nat × am_R) := [(0, (.aload_n 0, 1, 0, 0)), (1, (.invokespecial 3, 4, 0, 2)), (4, (.aload_n 0, 5, 0, 0)), (5, (.bipush 64, 7, 64, 0)), (7, (.newarray .int, 9, 0, 0)), (9, (.putfield 9, 12, 4, 0)), (12, (.aload_n 0, 13, 0, 0)), (13, (.bipush 64, 15, 64, 0)), (15, (.newarray .int, 17, 0, 0)), (17, (.putfield 15, 20, 4, 1)), (20, (.aload_n 0, 21, 0, 0)), (21, (.bipush 64, 23, 64, 0)), (23, (.newarray .int, 25, 0, 0)), (25, (.putfield 18, 28, 4, 2)), (28, (.aload_n 0, 29, 0, 0)), (29, (.bipush 64, 31, 64, 0)), (31, (.newarray .int, 33, 0, 0)), (33, (.putfield 21, 36, 4, 3)), (36, (.aload_n 0, 37, 0, 0)), (37, (.bipush 64, 39, 64, 0)), (39, (.newarray .int, 41, 0, 0)), (41, (.putfield 24, 44, 4, 4)), (44, (.return_, 45, 0, 0))]
def am_t49 : Nat → am_R := fun pc => am_lc [(45, am_l49_0)] pc
def am_l50_0 : List (Nat × am_R) := [(0, (.aload_n 0, 1, 0, 0)), (1, (.getfield 27, 4, 4, 5)), (4, (.bipush 64, 6, 64, 0)), (6, (.if_icmp .lt 4, 9, 10, 0)), (9, (.return_, 10, 0, 0)), (10, (.aload_n 0, 11, 0, 0)), (11, (.getfield 9, 14, 4, 0)), (14, (.aload_n 0, 15, 0, 0)), (15, (.getfield 27, 18, 4, 5)), (18, (.iload_n 1, 19, 1, 0)), (19, (.iastore, 20, 0, 0)), (20, (.aload_n 0, 21, 0, 0)), (21, (.getfield 15, 24, 4, 1)), (24, (.aload_n 0, 25, 0, 0)), (25, (.getfield 27, 28, 4, 5)), (28, (.iload_n 2, 29, 2, 0)), (29, (.iastore, 30, 0, 0)), (30, (.aload_n 0, 31, 0, 0)), (31, (.getfield 18, 34, 4, 2)), (34, (.aload_n 0, 35, 0, 0)), (35, (.getfield 27, 38, 4, 5)), (38, (.iload_n 3, 39, 3, 0)), (39, (.iastore, 40, 0, 0)), (40, (.aload_n 0, 41, 0, 0))]
def am_l50_1 : List (Nat × am_R) := [(41, (.getfield 21, 44, 4, 3)), (44, (.aload_n 0, 45, 0, 0)), (45, (.getfield 27, 48, 4, 5)), (48, (.iload 4, 50, 4, 0)), (50, (.iastore, 51, 0, 0)), (51, (.aload_n 0, 52, 0, 0)), (52, (.getfield 24, 55, 4, 4)), (55, (.aload_n 0, 56, 0, 0)), (56, (.getfield 27, 59, 4, 5)), (59, (.iconst (-1), 60, 4294967295, 0)), (60, (.iastore, 61, 0, 0)), (61, (.iload_n 1, 62, 1, 0)), (62, (.bipush 101, 64, 101, 0)), (64, (.if_icmp .ne 7, 67, 71, 0)), (67, (.aload_n 0, 68, 0, 0)), (68, (.invokevirtual 31, 71, 51, 4)), (71, (.aload_n 0, 72, 0, 0)), (72, (.dup, 73, 0, 0)), (73, (.getfield 27, 76, 4, 5)), (76, (.iconst 1, 77, 1, 0)), (77, (.iadd, 78, 0, 0)), (78, (.putfield 27, 81, 4, 5)), (81, (.return_, 82, 0, 0))]
def am_t50 : Nat → am_R := fun pc => am_lc [(41, am_l50_0), (82, am_l50_1)] pc
def am_l51_0 : List (Nat × am_R) := [(0, (.aload_n 0, 1, 0, 0)), (1, (.getfield 27, 4, 4, 5)), (4, (.iconst 1, 5, 1, 0)), (5, (.isub, 6, 0, 0)), (6, (.istore_n 1, 7, 1, 0)), (7, (.iload_n 1, 8, 1, 0)), (8, (.ifCond .lt 48, 11, 56, 0)), (11, (.aload_n 0, 12, 0, 0)), (12, (.iload_n 1, 13, 1, 0)), (13, (.invokevirtual 34, 16, 55, 4)), (16, (.ifCond .eq 34, 19, 50, 0)), (19, (.aload_n 0, 20, 0, 0)), (20, (.getfield 24, 23, 4, 4)), (23, (.iload_n 1, 24, 1, 0)), (24, (.iaload, 25, 0, 0)), (25, (.iconst (-1), 26, 4294967295, 0)), (26, (.if_icmp .ne 24, 29, 50, 0)), (29, (.aload_n 0, 30, 0, 0)), (30, (.getfield 24, 33, 4, 4)), (33, (.iload_n 1, 34, 1, 0)), (34, (.aload_n 0, 35, 0, 0)), (35, (.getfield 27, 38, 4, 5)), (38, (.iastore, 39, 0, 0)), (39, (.aload_n 0, 40, 0, 0))]
def am_l51_1 : List (Nat × am_R) := [(40, (.getfield 24, 43, 4, 4)), (43, (.aload_n 0, 44, 0, 0)), (44, (.getfield 27, 47, 4, 5)), (47, (.iload_n 1, 48, 1, 0)), (48, (.iastore, 49, 0, 0)), (49, (.return_, 50, 0, 0)), (50, (.iinc 1 (-1), 53, 1, 4294967295)), (53, (.goto (-46), 56, 7, 0)), (56, (.return_, 57, 0, 0))]
def am_t51 : Nat → am_R := fun pc => am_lc [(40, am_l51_0), (57, am_l51_1)] pc
def am_l52_0 : List (Nat × am_R) := [(0, (.aload_n 0, 1, 0, 0)), (1, (.getfield 27, 4, 4, 5)), (4, (.ifCond .gt 4, 7, 8, 0)), (7, (.return_, 8, 0, 0)), (8, (.aload_n 0, 9, 0, 0)), (9, (.dup, 10, 0, 0)), (10, (.getfield 27, 13, 4, 5)), (13, (.iconst 1, 14, 1, 0)), (14, (.isub, 15, 0, 0)), (15, (.putfield 27, 18, 4, 5)), (18, (.aload_n 0, 19, 0, 0)), (19, (.getfield 24, 22, 4, 4)), (22, (.aload_n 0, 23, 0, 0)), (23, (.getfield 27, 26, 4, 5)), (26, (.iaload, 27, 0, 0)), (27, (.istore_n 1, 28, 1, 0)), (28, (.aload_n 0, 29, 0, 0)), (29, (.iload_n 1, 30, 1, 0)), (30, (.invokevirtual 38, 33, 54, 4)), (33, (.ifCond .eq 10, 36, 43, 0)), (36, (.aload_n 0, 37, 0, 0)), (37, (.getfield 24, 40, 4, 4)), (40, (.iload_n 1, 41, 1, 0)), (41, (.iconst (-1), 42, 4294967295, 0))]
def am_l52_1 : List (Nat × am_R) := [(42, (.iastore, 43, 0, 0)), (43, (.return_, 44, 0, 0))]
def am_t52 : Nat → am_R := fun pc => am_lc [(42, am_l52_0), (44, am_l52_1)] pc
def am_l53_0 : List (Nat × am_R) := [(0, (.iconst 0, 1, 0, 0)), (1, (.istore_n 1, 2, 1, 0)), (2, (.iconst 0, 3, 0, 0)), (3, (.istore_n 2, 4, 2, 0)), (4, (.iload_n 2, 5, 2, 0)), (5, (.aload_n 0, 6, 0, 0)), (6, (.getfield 27, 9, 4, 5)), (9, (.if_icmp .ge 73, 12, 82, 0)), (12, (.aload_n 0, 13, 0, 0)), (13, (.iload_n 2, 14, 2, 0)), (14, (.invokevirtual 34, 17, 55, 4)), (17, (.istore_n 3, 18, 3, 0)), (18, (.iload_n 3, 19, 3, 0)), (19, (.ifCond .ne 14, 22, 33, 0)), (22, (.aload_n 0, 23, 0, 0)), (23, (.getfield 9, 26, 4, 0)), (26, (.iload_n 2, 27, 2, 0)), (27, (.iaload, 28, 0, 0)), (28, (.bipush 101, 30, 101, 0)), (30, (.if_icmp .ne 15, 33, 45, 0)), (33, (.aload_n 0, 34, 0, 0)), (34, (.getfield 24, 37, 4, 4)), (37, (.iload_n 2, 38, 2, 0)), (38, (.iaload, 39, 0, 0))]
def am_l53_1 : List (Nat × am_R) := [(39, (.iconst (-1), 40, 4294967295, 0)), (40, (.if_icmp .ne 5, 43, 45, 0)), (43, (.iconst 0, 44, 0, 0)), (44, (.ireturn, 45, 0, 0)), (45, (.iload_n 3, 46, 3, 0)), (46, (.ifCond .eq 9, 49, 55, 0)), (49, (.iinc 1 1, 52, 1, 1)), (52, (.goto 17, 55, 69, 0)), (55, (.aload_n 0, 56, 0, 0)), (56, (.getfield 9, 59, 4, 0)), (59, (.iload_n 2, 60, 2, 0)), (60, (.iaload, 61, 0, 0)), (61, (.bipush 101, 63, 101, 0)), (63, (.if_icmp .ne 6, 66, 69, 0)), (66, (.iinc 1 (-1), 69, 1, 4294967295)), (69, (.iload_n 1, 70, 1, 0)), (70, (.iconst 3, 71, 3, 0)), (71, (.if_icmp .le 5, 74, 76, 0)), (74, (.iconst 0, 75, 0, 0)), (75, (.ireturn, 76, 0, 0)), (76, (.iinc 2 1, 79, 2, 1)), (79, (.goto (-75), 82, 4, 0)), (82, (.iconst 1, 83, 1, 0)), (83, (.ireturn, 84, 0, 0))]
def am_t53 : Nat → am_R := fun pc => am_lc [(39, am_l53_0), (84, am_l53_1)] pc
def am_l54_0 : List (Nat × am_R) := [(0, (.iload_n 1, 1, 1, 0)), (1, (.iconst 0, 2, 0, 0)), (2, (.aload_n 0, 3, 0, 0)), (3, (.getfield 27, 6, 4, 5)), (6, (.iconst 1, 7, 1, 0)), (7, (.isub, 8, 0, 0)), (8, (.invokestatic 41, 11, 84, 1)), (11, (.ireturn, 12, 0, 0))]
def am_t54 : Nat → am_R := fun pc => am_lc [(12, am_l54_0)] pc
def am_l55_0 : List (Nat × am_R) := [(0, (.aload_n 0, 1, 0, 0)), (1, (.iload_n 1, 2, 1, 0)), (2, (.invokevirtual 38, 5, 54, 4)), (5, (.ifCond .eq 29, 8, 34, 0)), (8, (.aload_n 0, 9, 0, 0)), (9, (.getfield 9, 12, 4, 0)), (12, (.iload_n 1, 13, 1, 0)), (13, (.iaload, 14, 0, 0)), (14, (.bipush 114, 16, 114, 0)), (16, (.if_icmp .eq 14, 19, 30, 0)), (19, (.aload_n 0, 20, 0, 0)), (20, (.getfield 9, 23, 4, 0)), (23, (.iload_n 1, 24, 1, 0)), (24, (.iaload, 25, 0, 0)), (25, (.bipush 105, 27, 105, 0)), (27, (.if_icmp .ne 7, 30, 34, 0)), (30, (.iconst 1, 31, 1, 0)), (31, (.goto 4, 34, 35, 0)), (34, (.iconst 0, 35, 0, 0)), (35, (.ireturn, 36, 0, 0))]
def am_t55 : Nat → am_R := fun pc => am_lc [(36, am_l55_0)] pc
def am_l56_0 : List (Nat × am_R) := [(0, (.aload_n 0, 1, 0, 0)), (1, (.invokespecial 3, 4, 0, 2)), (4, (.aload_n 0, 5, 0, 0)), (5, (.bipush 12, 7, 12, 0)), (7, (.newarray .char, 9, 1, 0)), (9, (.putfield 9, 12, 5, 0)), (12, (.aload_n 0, 13, 0, 0)), (13, (.bipush 12, 15, 12, 0)), (15, (.newarray .int, 17, 0, 0)), (17, (.putfield 15, 20, 5, 1)), (20, (.aload_n 0, 21, 0, 0)), (21, (.bipush 12, 23, 12, 0)), (23, (.newarray .int, 25, 0, 0)), (25, (.putfield 19, 28, 5, 2)), (28, (.return_, 29, 0, 0))]
def am_t56 : Nat → am_R := fun pc => am_lc [(29, am_l56_0)] pc
def am_l57_0 : List (Nat × am_R) := [(0, (.iload_n 1, 1, 1, 0)), (1, (.iconst 0, 2, 0, 0)), (2, (.bipush 11, 4, 11, 0)), (4, (.invokestatic 22, 7, 84, 1)), (7, (.ifCond .eq 25, 10, 32, 0)), (10, (.aload_n 0, 11, 0, 0)), (11, (.getfield 9, 14, 5, 0)), (14, (.iload_n 1, 15, 1, 0)), (15, (.iload_n 2, 16, 2, 0)), (16, (.castore, 17, 0, 0)), (17, (.aload_n 0, 18, 0, 0)), (18, (.getfield 15, 21, 5, 1)), (21, (.iload_n 1, 22, 1, 0)), (22, (.iload_n 3, 23, 3, 0)), (23, (.iastore, 24, 0, 0)), (24, (.aload_n 0, 25, 0, 0)), (25, (.getfield 19, 28, 5, 2)), (28, (.iload_n 1, 29, 1, 0)), (29, (.iload 4, 31, 4, 0)), (31, (.iastore, 32, 0, 0)), (32, (.return_, 33, 0, 0))]
def am_t57 : Nat → am_R := fun pc => am_lc [(33, am_l57_0)] pc
def am_l58_0 : List (Nat × am_R) := [(0, (.iload_n 1, 1, 1, 0)), (1, (.iconst 0, 2, 0, 0)), (2, (.bipush 11, 4, 11, 0)), (4, (.invokestatic 22, 7, 84, 1)), (7, (.ifCond .eq 16, 10, 23, 0)), (10, (.aload_n 0, 11, 0, 0)), (11, (.getfield 9, 14, 5, 0)), (14, (.iload_n 1, 15, 1, 0)), (15, (.caload, 16, 0, 0)), (16, (.ifCond .eq 7, 19, 23, 0)), (19, (.iconst 1, 20, 1, 0)), (20, (.goto 4, 23, 24, 0)), (23, (.iconst 0, 24, 0, 0)), (24, (.ireturn, 25, 0, 0))]
def am_t58 : Nat → am_R := fun pc => am_lc [(25, am_l58_0)] pc
def am_l59_0 : List (Nat × am_R) := [(0, (.iconst 0, 1, 0, 0)), (1, (.istore_n 3, 2, 3, 0)), (2, (.iconst 0, 3, 0, 0)), (3, (.istore 4, 5, 4, 0)), (5, (.iload 4, 7, 4, 0)), (7, (.iload_n 2, 8, 2, 0)), (8, (.if_icmp .ge 23, 11, 31, 0)), (11, (.aload_n 0, 12, 0, 0)), (12, (.iload_n 1, 13, 1, 0)), (13, (.iload 4, 15, 4, 0)), (15, (.iadd, 16, 0, 0)), (16, (.invokevirtual 26, 19, 58, 5)), (19, (.ifCond .eq 6, 22, 25, 0)), (22, (.iinc 3 1, 25, 3, 1)), (25, (.iinc 4 1, 28, 4, 1)), (28, (.goto (-23), 31, 5, 0)), (31, (.iload_n 3, 32, 3, 0)), (32, (.ireturn, 33, 0, 0))]
def am_t59 : Nat → am_R := fun pc => am_lc [(33, am_l59_0)] pc
def am_l60_0 : List (Nat × am_R) := [(0, (.iload_n 1, 1, 1, 0)), (1, (.iconst 0, 2, 0, 0)), (2, (.bipush 11, 4, 11, 0)), (4, (.invokestatic 22, 7, 84, 1)), (7, (.ifCond .eq 47, 10, 54, 0)), (10, (.iload_n 2, 11, 2, 0)), (11, (.iconst 0, 12, 0, 0)), (12, (.bipush 11, 14, 11, 0)), (14, (.invokestatic 22, 17, 84, 1)), (17, (.ifCond .eq 37, 20, 54, 0)), (20, (.aload_n 0, 21, 0, 0)), (21, (.getfield 9, 24, 5, 0)), (24, (.iload_n 1, 25, 1, 0)), (25, (.caload, 26, 0, 0)), (26, (.aload_n 0, 27, 0, 0)), (27, (.getfield 9, 30, 5, 0)), (30, (.iload_n 2, 31, 2, 0)), (31, (.caload, 32, 0, 0)), (32, (.if_icmp .ne 22, 35, 54, 0)), (35, (.aload_n 0, 36, 0, 0)), (36, (.getfield 15, 39, 5, 1)), (39, (.iload_n 1, 40, 1, 0)), (40, (.iaload, 41, 0, 0)), (41, (.aload_n 0, 42, 0, 0))]
def am_l60_1 : List (Nat × am_R) := [(42, (.getfield 15, 45, 5, 1)), (45, (.iload_n 2, 46, 2, 0)), (46, (.iaload, 47, 0, 0)), (47, (.if_icmp .ne 7, 50, 54, 0)), (50, (.iconst 1, 51, 1, 0)), (51, (.goto 4, 54, 55, 0)), (54, (.iconst 0, 55, 0, 0)), (55, (.ireturn, 56, 0, 0))]
def am_t60 : Nat → am_R := fun pc => am_lc [(42, am_l60_0), (56, am_l60_1)] pc
def am_l61_0 : List (Nat × am_R) := [(0, (.aload_n 0, 1, 0, 0)), (1, (.invokespecial 3, 4, 0, 2)), (4, (.return_, 5, 0, 0))]
def am_t61 : Nat → am_R := fun pc => am_lc [(5, am_l61_0)] pc
def am_l62_0 : List (Nat × am_R) := [(0, (.aload_n 0, 1, 0, 0)), (1, (.iload_n 1, 2, 1, 0)), (2, (.putfield 9, 5, 6, 0)), (5, (.aload_n 0, 6, 0, 0)), (6, (.iload_n 2, 7, 2, 0)), (7, (.putfield 15, 10, 6, 1)), (10, (.return_, 11, 0, 0))]
def am_t62 : Nat → am_R := fun pc => am_lc [(11, am_l62_0)] pc
def am_l63_0 : List (Nat × am_R) := [(0, (.aload_n 0, 1, 0, 0)), (1, (.iload_n 1, 2, 1, 0)), (2, (.putfield 18, 5, 6, 2)), (5, (.aload_n 0, 6, 0, 0)), (6, (.iload_n 2, 7, 2, 0)), (7, (.putfield 21, 10, 6, 3)), (10, (.aload_n 0, 11, 0, 0)), (11, (.iload_n 3, 12, 3, 0)), (12, (.putfield 24, 15, 6, 4)), (15, (.return_, 16, 0, 0))]
def am_t63 : Nat → am_R := fun pc => am_lc [(16, am_l63_0)] pc
def am_l64_0 : List (Nat × am_R) := [(0, (.aload_n 0, 1, 0, 0)), (1, (.getfield 24, 4, 6, 4)), (4, (.ifCond .ge 7, 7, 11, 0)), (7, (.iconst 0, 8, 0, 0)), (8, (.goto 7, 11, 15, 0)), (11, (.aload_n 0, 12, 0, 0)), (12, (.getfield 24, 15, 6, 4)), (15, (.ireturn, 16, 0, 0))]
def am_t64 : Nat → am_R := fun pc => am_lc [(16, am_l64_0)] pc
def am_l65_0 : List (Nat × am_R) := [(0, (.aload_n 0, 1, 0, 0)), (1, (.getfield 21, 4, 6, 3)), (4, (.aload_n 0, 5, 0, 0)), (5, (.getfield 15, 8, 6, 1)), (8, (.isub, 9, 0, 0)), (9, (.ifCond .ge 7, 12, 16, 0)), (12, (.iconst 0, 13, 0, 0)), (13, (.goto 12, 16, 25, 0)), (16, (.aload_n 0, 17, 0, 0)), (17, (.getfield 21, 20, 6, 3)), (20, (.aload_n 0, 21, 0, 0)), (21, (.getfield 15, 24, 6, 1)), (24, (.isub, 25, 0, 0)), (25, (.ireturn, 26, 0, 0))]
def am_t65 : Nat → am_R := fun pc => am_lc [(26, am_l65_0)] pc
def am_l66_0 : List (Nat × am_R) := [(0, (.aload_n 0, 1, 0, 0)), (1, (.getfield 21, 4, 6, 3)), (4, (.aload_n 0, 5, 0, 0)), (5, (.getfield 15, 8, 6, 1)), (8, (.iadd, 9, 0, 0)), (9, (.bipush 12, 11, 12, 0)), (11, (.if_icmp .lt 8, 14, 19, 0)), (14, (.bipush 11, 16, 11, 0)), (16, (.goto 12, 19, 28, 0)), (19, (.aload_n 0, 20, 0, 0)), (20, (.getfield 21, 23, 6, 3)), (23, (.aload_n 0, 24, 0, 0)), (24, (.getfield 15, 27, 6, 1)), (27, (.iadd, 28, 0, 0)), (28, (.ireturn, 29, 0, 0))]
def am_t66 : Nat → am_R := fun pc => am_lc [(29, am_l66_0)] pc
def am_l67_0 : List (Nat × am_R) := [(0, (.aload_n 0, 1, 0, 0)), (1, (.getfield 9, 4, 6, 0)), (4, (.bipush 101, 6, 101, 0)), (6, (.if_icmp .ne 13, 9, 19, 0)), (9, (.aload_n 0, 10, 0, 0)), (10, (.getfield 15, 13, 6, 1)), (13, (.aload_n 0, 14, 0, 0)), (14, (.getfield 15, 17, 6, 1)), (17, (.imul, 18, 0, 0)), (18, (.ireturn, 19, 0, 0)), (19, (.iload_n 1, 20, 1, 0)), (20, (.aload_n 0, 21, 0, 0)), (21, (.getfield 24, 24, 6, 4)), (24, (.isub, 25, 0, 0)), (25, (.aload_n 0, 26, 0, 0)), (26, (.getfield 15, 29, 6, 1)), (29, (.if_icmp .ge 12, 32, 41, 0)), (32, (.iload_n 1, 33, 1, 0)), (33, (.aload_n 0, 34, 0, 0)), (34, (.getfield 24, 37, 6, 4)), (37, (.isub, 38, 0, 0)), (38, (.goto 7, 41, 45, 0)), (41, (.aload_n 0, 42, 0, 0)), (42, (.getfield 15, 45, 6, 1))]
def am_l67_1 : List (Nat × am_R) := [(45, (.istore_n 2, 46, 2, 0)), (46, (.aload_n 0, 47, 0, 0)), (47, (.getfield 9, 50, 6, 0)), (50, (.bipush 118, 52, 118, 0)), (52, (.if_icmp .ne 7, 55, 59, 0)), (55, (.iload_n 2, 56, 2, 0)), (56, (.iload_n 2, 57, 2, 0)), (57, (.imul, 58, 0, 0)), (58, (.ireturn, 59, 0, 0)), (59, (.aload_n 0, 60, 0, 0)), (60, (.getfield 15, 63, 6, 1)), (63, (.aload_n 0, 64, 0, 0)), (64, (.getfield 15, 67, 6, 1)), (67, (.imul, 68, 0, 0)), (68, (.aload_n 0, 69, 0, 0)), (69, (.getfield 15, 72, 6, 1)), (72, (.iload_n 2, 73, 2, 0)), (73, (.isub, 74, 0, 0)), (74, (.aload_n 0, 75, 0, 0)), (75, (.getfield 15, 78, 6, 1)), (78, (.iload_n 2, 79, 2, 0)), (79, (.isub, 80, 0, 0)), (80, (.imul, 81, 0, 0)), (81, (.isub, 82, 0, 0))]
def am_l67_2 : List (Nat × am_R) := [(82, (.ireturn, 83, 0, 0))]
def am_t67 : Nat → am_R := fun pc => am_lc [(43, am_l67_0), (82, am_l67_1), (83, am_l67_2)] pc
def am_l68_0 : List (Nat × am_R) := [(0, (.iload_n 2, 1, 2, 0)), (1, (.iload_n 1, 2, 1, 0)), (2, (.aload_n 0, 3, 0, 0)), (3, (.getfield 21, 6, 6, 3)), (6, (.isub, 7, 0, 0)), (7, (.iload_n 1, 8, 1, 0)), (8, (.aload_n 0, 9, 0, 0)), (9, (.getfield 21, 12, 6, 3)), (12, (.isub, 13, 0, 0)), (13, (.imul, 14, 0, 0)), (14, (.isub, 15, 0, 0)), (15, (.istore_n 3, 16, 3, 0)), (16, (.iload_n 3, 17, 3, 0)), (17, (.ifCond .lt 11, 20, 28, 0)), (20, (.iload_n 3, 21, 3, 0)), (21, (.getstatic 27, 24, 0, 0)), (24, (.arraylength, 25, 0, 0)), (25, (.if_icmp .lt 5, 28, 30, 0)), (28, (.iconst 0, 29, 0, 0)), (29, (.ireturn, 30, 0, 0)), (30, (.aload_n 0, 31, 0, 0)), (31, (.getfield 18, 34, 6, 2)), (34, (.getstatic 27, 37, 0, 0)), (37, (.iload_n 3, 38, 3, 0))]
def am_l68_1 : List (Nat × am_R) := [(38, (.iaload, 39, 0, 0)), (39, (.isub, 40, 0, 0)), (40, (.ifCond .ge 7, 43, 47, 0)), (43, (.iconst 0, 44, 0, 0)), (44, (.goto 13, 47, 57, 0)), (47, (.aload_n 0, 48, 0, 0)), (48, (.getfield 18, 51, 6, 2)), (51, (.getstatic 27, 54, 0, 0)), (54, (.iload_n 3, 55, 3, 0)), (55, (.iaload, 56, 0, 0)), (56, (.isub, 57, 0, 0)), (57, (.istore 4, 59, 4, 0)), (59, (.aload_n 0, 60, 0, 0)), (60, (.getfield 18, 63, 6, 2)), (63, (.getstatic 27, 66, 0, 0)), (66, (.iload_n 3, 67, 3, 0)), (67, (.iaload, 68, 0, 0)), (68, (.iadd, 69, 0, 0)), (69, (.bipush 16, 71, 16, 0)), (71, (.if_icmp .lt 8, 74, 79, 0)), (74, (.bipush 15, 76, 15, 0)), (76, (.goto 13, 79, 89, 0)), (79, (.aload_n 0, 80, 0, 0)), (80, (.getfield 18, 83, 6, 2))]
def am_l68_2 : List (Nat × am_R) := [(83, (.getstatic 27, 86, 0, 0)), (86, (.iload_n 3, 87, 3, 0)), (87, (.iaload, 88, 0, 0)), (88, (.iadd, 89, 0, 0)), (89, (.istore 5, 91, 5, 0)), (91, (.iconst 1, 92, 1, 0)), (92, (.iload 5, 94, 5, 0)), (94, (.iconst 1, 95, 1, 0)), (95, (.iadd, 96, 0, 0)), (96, (.ishl, 97, 0, 0)), (97, (.iconst 1, 98, 1, 0)), (98, (.iload 4, 100, 4, 0)), (100, (.ishl, 101, 0, 0)), (101, (.isub, 102, 0, 0)), (102, (.ireturn, 103, 0, 0))]
def am_t68 : Nat → am_R := fun pc => am_lc [(38, am_l68_0), (81, am_l68_1), (103, am_l68_2)] pc
def am_l69_0 : List (Nat × am_R) := [(0, (.aload_n 0, 1, 0, 0)), (1, (.invokespecial 3, 4, 0, 2)), (4, (.aload_n 0, 5, 0, 0)), (5, (.new 9, 8, 2, 4)), (8, (.dup, 9, 0, 0)), (9, (.invokespecial 11, 12, 40, 1)), (12, (.putfield 12, 15, 7, 0)), (15, (.aload_n 0, 16, 0, 0)), (16, (.new 16, 19, 1, 20)), (19, (.dup, 20, 0, 0)), (20, (.aload_n 0, 21, 0, 0)), (21, (.getfield 12, 24, 7, 0)), (24, (.invokespecial 18, 27, 10, 0)), (27, (.putfield 21, 30, 7, 1)), (30, (.aload_n 0, 31, 0, 0)), (31, (.new 16, 34, 1, 20)), (34, (.dup, 35, 0, 0)), (35, (.aload_n 0, 36, 0, 0)), (36, (.getfield 12, 39, 7, 0)), (39, (.invokespecial 18, 42, 10, 0)), (42, (.putfield 25, 45, 7, 2)), (45, (.aload_n 0, 46, 0, 0)), (46, (.bipush 45, 48, 45, 0)), (48, (.putfield 28, 51, 7, 3))]
def am_l69_1 : List (Nat × am_R) := [(51, (.return_, 52, 0, 0))]
def am_t69 : Nat → am_R := fun pc => am_lc [(49, am_l69_0), (52, am_l69_1)] pc
def am_l70_0 : List (Nat × am_R) := [(0, (.aload_n 0, 1, 0, 0)), (1, (.getfield 12, 4, 7, 0)), (4, (.getfield 122, 7, 2, 3)), (7, (.invokevirtual 146, 10, 53, 4)), (10, (.ireturn, 11, 0, 0))]
def am_t70 : Nat → am_R := fun pc => am_lc [(11, am_l70_0)] pc
def am_l71_0 : List (Nat × am_R) := [(0, (.aload_n 0, 1, 0, 0)), (1, (.getfield 21, 4, 7, 1)), (4, (.getfield 164, 7, 1, 9)), (7, (.istore_n 1, 8, 1, 0)), (8, (.aload_n 0, 9, 0, 0)), (9, (.invokevirtual 81, 12, 83, 7)), (12, (.iload_n 1, 13, 1, 0)), (13, (.ireturn, 14, 0, 0))]
def am_t71 : Nat → am_R := fun pc => am_lc [(14, am_l71_0)] pc
def am_l72_0 : List (Nat × am_R) := [(0, (.aload_n 0, 1, 0, 0)), (1, (.getfield 28, 4, 7, 3)), (4, (.ireturn, 5, 0, 0))]
def am_t72 : Nat → am_R := fun pc => am_lc [(5, am_l72_0)] pc
def am_l73_0 : List (Nat × am_R) := [(0, (.aload_n 0, 1, 0, 0)), (1, (.getfield 21, 4, 7, 1)), (4, (.invokevirtual 154, 7, 12, 1)), (7, (.ireturn, 8, 0, 0))]
def am_t73 : Nat → am_R := fun pc => am_lc [(8, am_l73_0)] pc
def am_l74_0 : List (Nat × am_R) := [(0, (.aload_n 0, 1, 0, 0)), (1, (.getfield 21, 4, 7, 1)), (4, (.getfield 167, 7, 1, 8)), (7, (.ireturn, 8, 0, 0))]
def am_t74 : Nat → am_R := fun pc => am_lc [(8, am_l74_0)] pc
def am_l75_0 : List (Nat × am_R) := [(0, (.aload_n 0, 1, 0, 0)), (1, (.getfield 21, 4, 7, 1)), (4, (.getfield 164, 7, 1, 9)), (7, (.ireturn, 8, 0, 0))]
def am_t75 : Nat → am_R := fun pc => am_lc [(8, am_l75_0)] pc
def am_l76_0 : List (Nat × am_R) := [(0, (.aload_n 0, 1, 0, 0)), (1, (.getfield 21, 4, 7, 1)), (4, (.getfield 180, 7, 1, 10)), (7, (.ireturn, 8, 0, 0))]
def am_t76 : Nat → am_R := fun pc => am_lc [(8, am_l76_0)] pc
def am_l77_0 : List (Nat × am_R) := [(0, (.aload_n 0, 1, 0, 0)), (1, (.getfield 21, 4, 7, 1)), (4, (.getfield 194, 7, 1, 1)), (7, (.invokevirtual 201, 10, 4, 0)), (10, (.ireturn, 11, 0, 0))]
def am_t77 : Nat → am_R := fun pc => am_lc [(11, am_l77_0)] pc
def am_l78_0 : List (Nat × am_R) := [(0, (.aload_n 0, 1, 0, 0)), (1, (.getfield 21, 4, 7, 1)), (4, (.getfield 194, 7, 1, 1)), (7, (.invokevirtual 204, 10, 5, 0)), (10, (.lreturn, 11, 0, 0))]
def am_t78 : Nat → am_R := fun pc => am_lc [(11, am_l78_0)] pc
def am_l79_0 : List (Nat × am_R) := [(0, (.aload_n 0, 1, 0, 0)), (1, (.getfield 21, 4, 7, 1)), (4, (.getfield 208, 7, 1, 11)), (7, (.freturn, 8, 0, 0))]
def am_t79 : Nat → am_R := fun pc => am_lc [(8, am_l79_0)] pc
def am_l80_0 : List (Nat × am_R) := [(0, (.aload_n 0, 1, 0, 0)), (1, (.getfield 21, 4, 7, 1)), (4, (.getfield 208, 7, 1, 11)), (7, (.invokestatic 212, 10, 94, 0)), (10, (.ireturn, 11, 0, 0))]
def am_t80 : Nat → am_R := fun pc => am_lc [(11, am_l80_0)] pc
def am_l81_0 : List (Nat × am_R) := [(0, (.aload_n 0, 1, 0, 0)), (1, (.getfield 21, 4, 7, 1)), (4, (.getfield 194, 7, 1, 1)), (7, (.invokevirtual 201, 10, 4, 0)), (10, (.istore_n 1, 11, 1, 0)), (11, (.sipush 1152, 14, 1152, 0)), (14, (.iload_n 1, 15, 1, 0)), (15, (.isub, 16, 0, 0)), (16, (.istore_n 2, 17, 2, 0)), (17, (.iload_n 2, 18, 2, 0)), (18, (.i2f, 19, 0, 0)), (19, (.ldc 224, 21, 1150287872, 1)), (21, (.fdiv, 22, 0, 0)), (22, (.fstore_n 3, 23, 3, 0)), (23, (.iload_n 1, 24, 1, 0)), (24, (.iload_n 2, 25, 2, 0)), (25, (.isub, 26, 0, 0)), (26, (.ifCond .ge 8, 29, 34, 0)), (29, (.fload_n 3, 30, 3, 0)), (30, (.fneg, 31, 0, 0)), (31, (.goto 4, 34, 35, 0)), (34, (.fload_n 3, 35, 3, 0)), (35, (.freturn, 36, 0, 0))]
def am_t81 : Nat → am_R := fun pc => am_lc [(36, am_l81_0)] pc
def am_l82_0 : List (Nat × am_R) := [(0, (.aload_n 0, 1, 0, 0)), (1, (.getfield 25, 4, 7, 2)), (4, (.aload_n 0, 5, 0, 0)), (5, (.getfield 21, 8, 7, 1)), (8, (.getfield 164, 11, 1, 9)), (11, (.invokevirtual 197, 14, 15, 1)), (14, (.aload_n 0, 15, 0, 0)), (15, (.getfield 21, 18, 7, 1)), (18, (.getfield 194, 21, 1, 1)), (21, (.aload_n 0, 22, 0, 0)), (22, (.getfield 25, 25, 7, 2)), (25, (.getfield 194, 28, 1, 1)), (28, (.invokevirtual 225, 31, 6, 0)), (31, (.ifCond .eq 69, 34, 100, 0)), (34, (.aload_n 0, 35, 0, 0)), (35, (.getfield 21, 38, 7, 1)), (38, (.getfield 208, 41, 1, 11)), (41, (.aload_n 0, 42, 0, 0)), (42, (.getfield 25, 45, 7, 2)), (45, (.getfield 208, 48, 1, 11)), (48, (.fcmp .l, 49, 0, 0)), (49, (.ifCond .ne 51, 52, 100, 0)), (52, (.aload_n 0, 53, 0, 0)), (53, (.getfield 21, 56, 7, 1))]
def am_l82_1 : List (Nat × am_R) := [(56, (.invokevirtual 221, 59, 14, 1)), (59, (.sipush 1152, 62, 1152, 0)), (62, (.aload_n 0, 63, 0, 0)), (63, (.getfield 21, 66, 7, 1)), (66, (.getfield 194, 69, 1, 1)), (69, (.invokevirtual 201, 72, 4, 0)), (72, (.isub, 73, 0, 0)), (73, (.if_icmp .ne 27, 76, 100, 0)), (76, (.aload_n 0, 77, 0, 0)), (77, (.getfield 21, 80, 7, 1)), (80, (.getfield 194, 83, 1, 1)), (83, (.aload_n 0, 84, 0, 0)), (84, (.getfield 12, 87, 7, 0)), (87, (.getfield 91, 90, 2, 1)), (90, (.invokevirtual 229, 93, 7, 0)), (93, (.ifCond .eq 7, 96, 100, 0)), (96, (.iconst 1, 97, 1, 0)), (97, (.goto 4, 100, 101, 0)), (100, (.iconst 0, 101, 0, 0)), (101, (.ireturn, 102, 0, 0))]
def am_t82 : Nat → am_R := fun pc => am_lc [(54, am_l82_0), (102, am_l82_1)] pc
def am_l83_0 : List (Nat × am_R) := [(0, (.aload_n 0, 1, 0, 0)), (1, (.getfield 21, 4, 7, 1)), (4, (.invokevirtual 232, 7, 11, 1)), (7, (.aload_n 0, 8, 0, 0)), (8, (.bipush 45, 10, 45, 0)), (10, (.putfield 28, 13, 7, 3)), (13, (.return_, 14, 0, 0))]
def am_t83 : Nat → am_R := fun pc => am_lc [(14, am_l83_0)] pc
def am_l84_0 : List (Nat × am_R) := [(0, (.iload_n 0, 1, 0, 0)), (1, (.iload_n 1, 2, 1, 0)), (2, (.if_icmp .lt 12, 5, 14, 0)), (5, (.iload_n 0, 6, 0, 0)), (6, (.iload_n 2, 7, 2, 0)), (7, (.if_icmp .gt 7, 10, 14, 0)), (10, (.iconst 1, 11, 1, 0)), (11, (.goto 4, 14, 15, 0)), (14, (.iconst 0, 15, 0, 0)), (15, (.ireturn, 16, 0, 0))]
def am_t84 : Nat → am_R := fun pc => am_lc [(16, am_l84_0)] pc
def am_l85_0 : List (Nat × am_R) := [(0, (.iload_n 0, 1, 0, 0)), (1, (.iconst 0, 2, 0, 0)), (2, (.bipush 15, 4, 15, 0)), (4, (.invokestatic 52, 7, 84, 0)), (7, (.ifCond .eq 26, 10, 33, 0)), (10, (.iload_n 1, 11, 1, 0)), (11, (.iconst 0, 12, 0, 0)), (12, (.bipush 11, 14, 11, 0)), (14, (.invokestatic 52, 17, 84, 0)), (17, (.ifCond .eq 16, 20, 33, 0)), (20, (.iload_n 2, 21, 2, 0)), (21, (.iconst 0, 22, 0, 0)), (22, (.iconst 5, 23, 5, 0)), (23, (.invokestatic 52, 26, 84, 0)), (26, (.ifCond .eq 7, 29, 33, 0)), (29, (.iconst 1, 30, 1, 0)), (30, (.goto 4, 33, 34, 0)), (33, (.iconst 0, 34, 0, 0)), (34, (.ireturn, 35, 0, 0))]
def am_t85 : Nat → am_R := fun pc => am_lc [(35, am_l85_0)] pc
def am_l86_0 : List (Nat × am_R) := [(0, (.iload_n 0, 1, 0, 0)), (1, (.iconst 0, 2, 0, 0)), (2, (.bipush 15, 4, 15, 0)), (4, (.invokestatic 52, 7, 84, 0)), (7, (.ifCond .eq 27, 10, 34, 0)), (10, (.iload_n 1, 11, 1, 0)), (11, (.iconst 0, 12, 0, 0)), (12, (.bipush 11, 14, 11, 0)), (14, (.invokestatic 52, 17, 84, 0)), (17, (.ifCond .eq 17, 20, 34, 0)), (20, (.iload_n 2, 21, 2, 0)), (21, (.iconst 0, 22, 0, 0)), (22, (.bipush 9, 24, 9, 0)), (24, (.invokestatic 52, 27, 84, 0)), (27, (.ifCond .eq 7, 30, 34, 0)), (30, (.iconst 1, 31, 1, 0)), (31, (.goto 4, 34, 35, 0)), (34, (.iconst 0, 35, 0, 0)), (35, (.ireturn, 36, 0, 0))]
def am_t86 : Nat → am_R := fun pc => am_lc [(36, am_l86_0)] pc
def am_l87_0 : List (Nat × am_R) := [(0, (.iload_n 0, 1, 0, 0)), (1, (.iconst 0, 2, 0, 0)), (2, (.iconst 2, 3, 2, 0)), (3, (.invokestatic 52, 6, 84, 0)), (6, (.ifCond .eq 16, 9, 22, 0)), (9, (.iload_n 1, 10, 1, 0)), (10, (.iconst 0, 11, 0, 0)), (11, (.iconst 3, 12, 3, 0)), (12, (.invokestatic 52, 15, 84, 0)), (15, (.ifCond .eq 7, 18, 22, 0)), (18, (.iconst 1, 19, 1, 0)), (19, (.goto 4, 22, 23, 0)), (22, (.iconst 0, 23, 0, 0)), (23, (.ireturn, 24, 0, 0))]
def am_t87 : Nat → am_R := fun pc => am_lc [(24, am_l87_0)] pc
def am_l88_0 : List (Nat × am_R) := [(0, (.iconst 4, 1, 4, 0)), (1, (.iload_n 0, 2, 0, 0)), (2, (.imul, 3, 0, 0)), (3, (.iload_n 1, 4, 1, 0)), (4, (.iadd, 5, 0, 0)), (5, (.ireturn, 6, 0, 0))]
def am_t88 : Nat → am_R := fun pc => am_lc [(6, am_l88_0)] pc
def am_l89_0 : List (Nat × am_R) := [(0, (.iload_n 0, 1, 0, 0)), (1, (.bipush 101, 3, 101, 0)), (3, (.if_icmp .eq 15, 6, 18, 0)), (6, (.iload_n 0, 7, 0, 0)), (7, (.bipush 98, 9, 98, 0)), (9, (.if_icmp .eq 9, 12, 18, 0)), (12, (.iload_n 0, 13, 0, 0)), (13, (.bipush 118, 15, 118, 0)), (15, (.if_icmp .ne 7, 18, 22, 0)), (18, (.iconst 1, 19, 1, 0)), (19, (.goto 4, 22, 23, 0)), (22, (.iconst 0, 23, 0, 0)), (23, (.ireturn, 24, 0, 0))]
def am_t89 : Nat → am_R := fun pc => am_lc [(24, am_l89_0)] pc
def am_l90_0 : List (Nat × am_R) := [(0, (.iload_n 0, 1, 0, 0)), (1, (.ifCond .ne 15, 4, 16, 0)), (4, (.iload_n 1, 5, 1, 0)), (5, (.bipush 101, 7, 101, 0)), (7, (.if_icmp .ne 7, 10, 14, 0)), (10, (.iconst 1, 11, 1, 0)), (11, (.goto 4, 14, 15, 0)), (14, (.iconst 0, 15, 0, 0)), (15, (.ireturn, 16, 0, 0)), (16, (.iload_n 0, 17, 0, 0)), (17, (.iconst 1, 18, 1, 0)), (18, (.if_icmp .ne 9, 21, 27, 0)), (21, (.iload_n 1, 22, 1, 0)), (22, (.bipush 98, 24, 98, 0)), (24, (.if_icmp .ne 7, 27, 31, 0)), (27, (.iconst 1, 28, 1, 0)), (28, (.goto 4, 31, 32, 0)), (31, (.iconst 0, 32, 0, 0)), (32, (.ireturn, 33, 0, 0))]
def am_t90 : Nat → am_R := fun pc => am_lc [(33, am_l90_0)] pc
def am_l91_0 : List (Nat × am_R) := [(0, (.iload_n 0, 1, 0, 0)), (1, (.bipush (-15), 3, 4294967281, 0)), (3, (.bipush 15, 5, 15, 0)), (5, (.invokestatic 52, 8, 84, 0)), (8, (.ireturn, 9, 0, 0))]
def am_t91 : Nat → am_R := fun pc => am_lc [(9, am_l91_0)] pc
def am_l92_0 : List (Nat × am_R) := [(0, (.iconst 0, 1, 0, 0)), (1, (.istore_n 1, 2, 1, 0)), (2, (.iload_n 1, 3, 1, 0)), (3, (.getstatic 240, 6, 1, 0)), (6, (.arraylength, 7, 0, 0)), (7, (.if_icmp .ge 20, 10, 27, 0)), (10, (.getstatic 240, 13, 1, 0)), (13, (.iload_n 1, 14, 1, 0)), (14, (.caload, 15, 0, 0)), (15, (.iload_n 0, 16, 0, 0)), (16, (.if_icmp .ne 5, 19, 21, 0)), (19, (.iconst 1, 20, 1, 0)), (20, (.ireturn, 21, 0, 0)), (21, (.iinc 1 1, 24, 1, 1)), (24, (.goto (-22), 27, 2, 0)), (27, (.iconst 0, 28, 0, 0)), (28, (.ireturn, 29, 0, 0))]
def am_t92 : Nat → am_R := fun pc => am_lc [(29, am_l92_0)] pc
def am_l93_0 : List (Nat × am_R) := [(0, (.iload_n 0, 1, 0, 0)), (1, (.bipush (-50), 3, 4294967246, 0)), (3, (.bipush 50, 5, 50, 0)), (5, (.invokestatic 52, 8, 84, 0)), (8, (.ifCond .ne 14, 11, 22, 0)), (11, (.iload_n 0, 12, 0, 0)), (12, (.bipush 100, 14, 100, 0)), (14, (.bipush 107, 16, 107, 0)), (16, (.invokestatic 52, 19, 84, 0)), (19, (.ifCond .eq 7, 22, 26, 0)), (22, (.iconst 1, 23, 1, 0)), (23, (.goto 4, 26, 27, 0)), (26, (.iconst 0, 27, 0, 0)), (27, (.ireturn, 28, 0, 0))]
def am_t93 : Nat → am_R := fun pc => am_lc [(28, am_l93_0)] pc
def am_l94_0 : List (Nat × am_R) := [(0, (.fload_n 0, 1, 0, 0)), (1, (.fconst 0, 2, 0, 0)), (2, (.fcmp .g, 3, 0, 0)), (3, (.ifCond .gt 5, 6, 8, 0)), (6, (.iconst 0, 7, 0, 0)), (7, (.ireturn, 8, 0, 0)), (8, (.fload_n 0, 9, 0, 0)), (9, (.fstore_n 1, 10, 1, 0)), (10, (.bipush 127, 12, 127, 0)), (12, (.istore_n 2, 13, 2, 0)), (13, (.iconst 0, 14, 0, 0)), (14, (.istore_n 3, 15, 3, 0)), (15, (.iload_n 3, 16, 3, 0)), (16, (.bipush 127, 18, 127, 0)), (18, (.if_icmp .ge 22, 21, 40, 0)), (21, (.fload_n 1, 22, 1, 0)), (22, (.fconst 2, 23, 0, 0)), (23, (.fcmp .l, 24, 0, 0)), (24, (.ifCond .lt 16, 27, 40, 0)), (27, (.fload_n 1, 28, 1, 0)), (28, (.fconst 2, 29, 0, 0)), (29, (.fdiv, 30, 0, 0)), (30, (.fstore_n 1, 31, 1, 0)), (31, (.iinc 2 1, 34, 2, 1))]
def am_l94_1 : List (Nat × am_R) := [(34, (.iinc 3 1, 37, 3, 1)), (37, (.goto (-22), 40, 15, 0)), (40, (.iconst 0, 41, 0, 0)), (41, (.istore_n 3, 42, 3, 0)), (42, (.iload_n 3, 43, 3, 0)), (43, (.bipush 126, 45, 126, 0)), (45, (.if_icmp .ge 22, 48, 67, 0)), (48, (.fload_n 1, 49, 1, 0)), (49, (.fconst 1, 50, 0, 0)), (50, (.fcmp .g, 51, 0, 0)), (51, (.ifCond .ge 16, 54, 67, 0)), (54, (.fload_n 1, 55, 1, 0)), (55, (.fconst 2, 56, 0, 0)), (56, (.fmul, 57, 0, 0)), (57, (.fstore_n 1, 58, 1, 0)), (58, (.iinc 2 (-1), 61, 2, 4294967295)), (61, (.iinc 3 1, 64, 3, 1)), (64, (.goto (-22), 67, 42, 0)), (67, (.iload_n 2, 68, 2, 0)), (68, (.bipush 23, 70, 23, 0)), (70, (.ishl, 71, 0, 0)), (71, (.fload_n 1, 72, 1, 0)), (72, (.fconst 1, 73, 0, 0)), (73, (.fsub, 74, 0, 0))]
def am_l94_2 : List (Nat × am_R) := [(74, (.ldc 244, 76, 1258291200, 1)), (76, (.fmul, 77, 0, 0)), (77, (.f2i, 78, 0, 0)), (78, (.iadd, 79, 0, 0)), (79, (.ireturn, 80, 0, 0))]
def am_t94 : Nat → am_R := fun pc => am_lc [(32, am_l94_0), (74, am_l94_1), (80, am_l94_2)] pc
def am_l95_0 : List (Nat × am_R) := [(0, (.aload_n 0, 1, 0, 0)), (1, (.invokespecial 1, 4, 0, 2)), (4, (.aload_n 0, 5, 0, 0)), (5, (.bipush 12, 7, 12, 0)), (7, (.newarray .char, 9, 1, 0)), (9, (.putfield 7, 12, 8, 0)), (12, (.aload_n 0, 13, 0, 0)), (13, (.bipush 64, 15, 64, 0)), (15, (.newarray .char, 17, 1, 0)), (17, (.putfield 13, 20, 8, 1)), (20, (.aload_n 0, 21, 0, 0)), (21, (.bipush 12, 23, 12, 0)), (23, (.newarray .int, 25, 0, 0)), (25, (.putfield 16, 28, 8, 2)), (28, (.aload_n 0, 29, 0, 0)), (29, (.bipush 12, 31, 12, 0)), (31, (.newarray .int, 33, 0, 0)), (33, (.putfield 20, 36, 8, 3)), (36, (.aload_n 0, 37, 0, 0)), (37, (.bipush 12, 39, 12, 0)), (39, (.newarray .int, 41, 0, 0)), (41, (.putfield 23, 44, 8, 4)), (44, (.aload_n 0, 45, 0, 0)), (45, (.bipush 64, 47, 64, 0))]
def am_l95_1 : List (Nat × am_R) := [(47, (.newarray .int, 49, 0, 0)), (49, (.putfield 26, 52, 8, 5)), (52, (.aload_n 0, 53, 0, 0)), (53, (.bipush 64, 55, 64, 0)), (55, (.newarray .int, 57, 0, 0)), (57, (.putfield 29, 60, 8, 6)), (60, (.aload_n 0, 61, 0, 0)), (61, (.bipush 64, 63, 64, 0)), (63, (.newarray .int, 65, 0, 0)), (65, (.putfield 32, 68, 8, 7)), (68, (.aload_n 0, 69, 0, 0)), (69, (.bipush 64, 71, 64, 0)), (71, (.newarray .int, 73, 0, 0)), (73, (.putfield 35, 76, 8, 8)), (76, (.aload_n 0, 77, 0, 0)), (77, (.bipush 8, 79, 8, 0)), (79, (.newarray .int, 81, 0, 0)), (81, (.putfield 38, 84, 8, 9)), (84, (.aload_n 0, 85, 0, 0)), (85, (.bipush 12, 87, 12, 0)), (87, (.newarray .int, 89, 0, 0)), (89, (.putfield 41, 92, 8, 10)), (92, (.aload_n 0, 93, 0, 0)), (93, (.iconst 3, 94, 3, 0))]
def am_l95_2 : List (Nat × am_R) := [(94, (.newarray .int, 96, 0, 0)), (96, (.putfield 44, 99, 8, 11)), (99, (.aload_n 0, 100, 0, 0)), (100, (.iconst 3, 101, 3, 0)), (101, (.newarray .int, 103, 0, 0)), (103, (.putfield 47, 106, 8, 12)), (106, (.aload_n 0, 107, 0, 0)), (107, (.sipush 1152, 110, 1152, 0)), (110, (.newarray .boolean, 112, 2, 0)), (112, (.putfield 50, 115, 8, 13)), (115, (.aload_n 0, 116, 0, 0)), (116, (.sipush 1152, 119, 1152, 0)), (119, (.newarray .boolean, 121, 2, 0)), (121, (.putfield 54, 124, 8, 14)), (124, (.aload_n 0, 125, 0, 0)), (125, (.iconst 0, 126, 0, 0)), (126, (.putfield 57, 129, 8, 15)), (129, (.aload_n 0, 130, 0, 0)), (130, (.iconst 0, 131, 0, 0)), (131, (.putfield 61, 134, 8, 16)), (134, (.aload_n 0, 135, 0, 0)), (135, (.iconst 0, 136, 0, 0)), (136, (.putfield 64, 139, 8, 17)), (139, (.aload_n 0, 140, 0, 0))]
def am_l95_3 : List (Nat × am_R) := [(140, (.iconst 0, 141, 0, 0)), (141, (.putfield 67, 144, 8, 18)), (144, (.aload_n 0, 145, 0, 0)), (145, (.iconst (-1), 146, 4294967295, 0)), (146, (.putfield 70, 149, 8, 19)), (149, (.aload_n 0, 150, 0, 0)), (150, (.bipush 10, 152, 10, 0)), (152, (.putfield 73, 155, 8, 20)), (155, (.aload_n 0, 156, 0, 0)), (156, (.iconst 0, 157, 0, 0)), (157, (.putfield 76, 160, 8, 21)), (160, (.aload_n 0, 161, 0, 0)), (161, (.iconst 0, 162, 0, 0)), (162, (.putfield 79, 165, 8, 22)), (165, (.aload_n 0, 166, 0, 0)), (166, (.iconst 0, 167, 0, 0)), (167, (.putfield 83, 170, 8, 23)), (170, (.aload_n 0, 171, 0, 0)), (171, (.fconst 0, 172, 0, 0)), (172, (.putfield 86, 175, 8, 24)), (175, (.aload_n 0, 176, 0, 0)), (176, (.bipush 45, 178, 45, 0)), (178, (.putfield 90, 181, 8, 25)), (181, (.aload_n 0, 182, 0, 0))]
def am_l95_4 : List (Nat × am_R) := [(182, (.bipush 32, 184, 32, 0)), (184, (.putfield 94, 187, 8, 26)), (187, (.iconst 0, 188, 0, 0)), (188, (.istore_n 1, 189, 1, 0)), (189, (.iload_n 1, 190, 1, 0)), (190, (.bipush 12, 192, 12, 0)), (192, (.if_icmp .ge 17, 195, 209, 0)), (195, (.aload_n 0, 196, 0, 0)), (196, (.getfield 7, 199, 8, 0)), (199, (.iload_n 1, 200, 1, 0)), (200, (.bipush 45, 202, 45, 0)), (202, (.castore, 203, 0, 0)), (203, (.iinc 1 1, 206, 1, 1)), (206, (.goto (-17), 209, 189, 0)), (209, (.aload_n 0, 210, 0, 0)), (210, (.invokevirtual 97, 213, 100, 8)), (213, (.return_, 214, 0, 0))]
def am_t95 : Nat → am_R := fun pc => am_lc [(46, am_l95_0), (94, am_l95_1), (140, am_l95_2), (182, am_l95_3), (214, am_l95_4)] pc
def am_l96_0 : List (Nat × am_R) := [(0, (.aload_n 0, 1, 0, 0)), (1, (.getfield 57, 4, 8, 15)), (4, (.ireturn, 5, 0, 0))]
def am_t96 : Nat → am_R := fun pc => am_lc [(5, am_l96_0)] pc
def am_l97_0 : List (Nat × am_R) := [(0, (.iload_n 0, 1, 0, 0)), (1, (.iload_n 1, 2, 1, 0)), (2, (.if_icmp .lt 12, 5, 14, 0)), (5, (.iload_n 0, 6, 0, 0)), (6, (.iload_n 2, 7, 2, 0)), (7, (.if_icmp .gt 7, 10, 14, 0)), (10, (.iconst 1, 11, 1, 0)), (11, (.goto 4, 14, 15, 0)), (14, (.iconst 0, 15, 0, 0)), (15, (.ireturn, 16, 0, 0))]
def am_t97 : Nat → am_R := fun pc => am_lc [(16, am_l97_0)] pc
def am_l98_0 : List (Nat × am_R) := [(0, (.aload_n 0, 1, 0, 0)), (1, (.iconst 0, 2, 0, 0)), (2, (.putfield 57, 5, 8, 15)), (5, (.iload_n 1, 6, 1, 0)), (6, (.ireturn, 7, 0, 0))]
def am_t98 : Nat → am_R := fun pc => am_lc [(7, am_l98_0)] pc
def am_l99_0 : List (Nat × am_R) := [(0, (.aload_n 0, 1, 0, 0)), (1, (.iload_n 1, 2, 1, 0)), (2, (.ifCond .eq 7, 5, 9, 0)), (5, (.iconst 0, 6, 0, 0)), (6, (.goto 4, 9, 10, 0)), (9, (.iconst 1, 10, 1, 0)), (10, (.putfield 57, 13, 8, 15)), (13, (.aload_n 0, 14, 0, 0)), (14, (.getfield 57, 17, 8, 15)), (17, (.ireturn, 18, 0, 0))]
def am_t99 : Nat → am_R := fun pc => am_lc [(18, am_l99_0)] pc
def am_l100_0 : List (Nat × am_R) := [(0, (.iconst 0, 1, 0, 0)), (1, (.istore_n 1, 2, 1, 0)), (2, (.iload_n 1, 3, 1, 0)), (3, (.sipush 1152, 6, 1152, 0)), (6, (.if_icmp .ge 16, 9, 22, 0)), (9, (.aload_n 0, 10, 0, 0)), (10, (.getfield 54, 13, 8, 14)), (13, (.iload_n 1, 14, 1, 0)), (14, (.iconst 0, 15, 0, 0)), (15, (.bastore, 16, 0, 0)), (16, (.iinc 1 1, 19, 1, 1)), (19, (.goto (-17), 22, 2, 0)), (22, (.iconst 0, 23, 0, 0)), (23, (.istore_n 1, 24, 1, 0)), (24, (.iload_n 1, 25, 1, 0)), (25, (.bipush 12, 27, 12, 0)), (27, (.if_icmp .ge 16, 30, 43, 0)), (30, (.aload_n 0, 31, 0, 0)), (31, (.getfield 23, 34, 8, 4)), (34, (.iload_n 1, 35, 1, 0)), (35, (.iconst 0, 36, 0, 0)), (36, (.iastore, 37, 0, 0)), (37, (.iinc 1 1, 40, 1, 1)), (40, (.goto (-16), 43, 24, 0))]
def am_l100_1 : List (Nat × am_R) := [(43, (.iconst 0, 44, 0, 0)), (44, (.istore_n 1, 45, 1, 0)), (45, (.iload_n 1, 46, 1, 0)), (46, (.bipush 8, 48, 8, 0)), (48, (.if_icmp .ge 16, 51, 64, 0)), (51, (.aload_n 0, 52, 0, 0)), (52, (.getfield 38, 55, 8, 9)), (55, (.iload_n 1, 56, 1, 0)), (56, (.iconst 0, 57, 0, 0)), (57, (.iastore, 58, 0, 0)), (58, (.iinc 1 1, 61, 1, 1)), (61, (.goto (-16), 64, 45, 0)), (64, (.aload_n 0, 65, 0, 0)), (65, (.getfield 44, 68, 8, 11)), (68, (.iconst 0, 69, 0, 0)), (69, (.iconst 0, 70, 0, 0)), (70, (.iastore, 71, 0, 0)), (71, (.aload_n 0, 72, 0, 0)), (72, (.getfield 44, 75, 8, 11)), (75, (.iconst 1, 76, 1, 0)), (76, (.iconst 0, 77, 0, 0)), (77, (.iastore, 78, 0, 0)), (78, (.aload_n 0, 79, 0, 0)), (79, (.getfield 44, 82, 8, 11))]
def am_l100_2 : List (Nat × am_R) := [(82, (.iconst 2, 83, 2, 0)), (83, (.bipush 9, 85, 9, 0)), (85, (.iastore, 86, 0, 0)), (86, (.aload_n 0, 87, 0, 0)), (87, (.iconst 0, 88, 0, 0)), (88, (.putfield 64, 91, 8, 17)), (91, (.aload_n 0, 92, 0, 0)), (92, (.iconst 0, 93, 0, 0)), (93, (.putfield 67, 96, 8, 18)), (96, (.aload_n 0, 97, 0, 0)), (97, (.iconst (-1), 98, 4294967295, 0)), (98, (.putfield 70, 101, 8, 19)), (101, (.aload_n 0, 102, 0, 0)), (102, (.bipush 10, 104, 10, 0)), (104, (.putfield 73, 107, 8, 20)), (107, (.aload_n 0, 108, 0, 0)), (108, (.iconst 0, 109, 0, 0)), (109, (.putfield 76, 112, 8, 21)), (112, (.aload_n 0, 113, 0, 0)), (113, (.iconst 0, 114, 0, 0)), (114, (.putfield 79, 117, 8, 22)), (117, (.aload_n 0, 118, 0, 0)), (118, (.iconst 0, 119, 0, 0)), (119, (.putfield 83, 122, 8, 23))]
def am_l100_3 : List (Nat × am_R) := [(122, (.aload_n 0, 123, 0, 0)), (123, (.fconst 0, 124, 0, 0)), (124, (.putfield 86, 127, 8, 24)), (127, (.aload_n 0, 128, 0, 0)), (128, (.bipush 45, 130, 45, 0)), (130, (.putfield 90, 133, 8, 25)), (133, (.return_, 134, 0, 0))]
def am_t100 : Nat → am_R := fun pc => am_lc [(41, am_l100_0), (80, am_l100_1), (120, am_l100_2), (134, am_l100_3)] pc
def am_l101_0 : List (Nat × am_R) := [(0, (.iload_n 0, 1, 0, 0)), (1, (.iconst 0, 2, 0, 0)), (2, (.iconst 2, 3, 2, 0)), (3, (.invokestatic 100, 6, 97, 0)), (6, (.ifCond .eq 16, 9, 22, 0)), (9, (.iload_n 1, 10, 1, 0)), (10, (.iconst 0, 11, 0, 0)), (11, (.iconst 3, 12, 3, 0)), (12, (.invokestatic 100, 15, 97, 0)), (15, (.ifCond .eq 7, 18, 22, 0)), (18, (.iconst 1, 19, 1, 0)), (19, (.goto 4, 22, 23, 0)), (22, (.iconst 0, 23, 0, 0)), (23, (.ireturn, 24, 0, 0))]
def am_t101 : Nat → am_R := fun pc => am_lc [(24, am_l101_0)] pc
def am_l102_0 : List (Nat × am_R) := [(0, (.iload_n 3, 1, 3, 0)), (1, (.bipush 101, 3, 101, 0)), (3, (.if_icmp .eq 15, 6, 18, 0)), (6, (.iload_n 3, 7, 3, 0)), (7, (.bipush 98, 9, 98, 0)), (9, (.if_icmp .eq 9, 12, 18, 0)), (12, (.iload_n 3, 13, 3, 0)), (13, (.bipush 118, 15, 118, 0)), (15, (.if_icmp .ne 7, 18, 22, 0)), (18, (.iconst 1, 19, 1, 0)), (19, (.goto 4, 22, 23, 0)), (22, (.iconst 0, 23, 0, 0)), (23, (.istore 6, 25, 6, 0)), (25, (.iload_n 1, 26, 1, 0)), (26, (.iconst 2, 27, 2, 0)), (27, (.if_icmp .eq 18, 30, 45, 0)), (30, (.iload_n 3, 31, 3, 0)), (31, (.iload_n 1, 32, 1, 0)), (32, (.ifCond .ne 8, 35, 40, 0)), (35, (.bipush 101, 37, 101, 0)), (37, (.goto 5, 40, 42, 0)), (40, (.bipush 98, 42, 98, 0)), (42, (.if_icmp .ne 7, 45, 49, 0)), (45, (.iconst 1, 46, 1, 0))]
def am_l102_1 : List (Nat × am_R) := [(46, (.goto 4, 49, 50, 0)), (49, (.iconst 0, 50, 0, 0)), (50, (.istore 7, 52, 7, 0)), (52, (.aload_n 0, 53, 0, 0)), (53, (.iload_n 1, 54, 1, 0)), (54, (.iload_n 2, 55, 2, 0)), (55, (.invokestatic 104, 58, 101, 0)), (58, (.ifCond .ne 7, 61, 65, 0)), (61, (.iconst 1, 62, 1, 0)), (62, (.goto 44, 65, 106, 0)), (65, (.iload 6, 67, 6, 0)), (67, (.ifCond .eq 25, 70, 92, 0)), (70, (.iload 4, 72, 4, 0)), (72, (.iconst 0, 73, 0, 0)), (73, (.iconst 3, 74, 3, 0)), (74, (.invokestatic 100, 77, 97, 0)), (77, (.ifCond .eq 15, 80, 92, 0)), (80, (.iload 5, 82, 5, 0)), (82, (.iconst 1, 83, 1, 0)), (83, (.sipush 999, 86, 999, 0)), (86, (.invokestatic 100, 89, 97, 0)), (89, (.ifCond .ne 7, 92, 96, 0)), (92, (.iconst 2, 93, 2, 0)), (93, (.goto 13, 96, 106, 0))]
def am_l102_2 : List (Nat × am_R) := [(96, (.iload 7, 98, 7, 0)), (98, (.ifCond .ne 7, 101, 105, 0)), (101, (.iconst 3, 102, 3, 0)), (102, (.goto 4, 105, 106, 0)), (105, (.iconst 0, 106, 0, 0)), (106, (.putfield 57, 109, 8, 15)), (109, (.aload_n 0, 110, 0, 0)), (110, (.getfield 57, 113, 8, 15)), (113, (.ifCond .le 5, 116, 118, 0)), (116, (.iconst 0, 117, 0, 0)), (117, (.ireturn, 118, 0, 0)), (118, (.iconst 4, 119, 4, 0)), (119, (.iload_n 1, 120, 1, 0)), (120, (.imul, 121, 0, 0)), (121, (.iload_n 2, 122, 2, 0)), (122, (.iadd, 123, 0, 0)), (123, (.istore 8, 125, 8, 0)), (125, (.aload_n 0, 126, 0, 0)), (126, (.getfield 7, 129, 8, 0)), (129, (.iload 8, 131, 8, 0)), (131, (.iload_n 3, 132, 3, 0)), (132, (.castore, 133, 0, 0)), (133, (.aload_n 0, 134, 0, 0)), (134, (.getfield 16, 137, 8, 2))]
def am_l102_3 : List (Nat × am_R) := [(137, (.iload 8, 139, 8, 0)), (139, (.iload 4, 141, 4, 0)), (141, (.iastore, 142, 0, 0)), (142, (.aload_n 0, 143, 0, 0)), (143, (.getfield 20, 146, 8, 3)), (146, (.iload 8, 148, 8, 0)), (148, (.iload 5, 150, 5, 0)), (150, (.iastore, 151, 0, 0)), (151, (.aload_n 0, 152, 0, 0)), (152, (.invokevirtual 97, 155, 100, 8)), (155, (.iconst 0, 156, 0, 0)), (156, (.istore 9, 158, 9, 0)), (158, (.iconst 4, 159, 4, 0)), (159, (.iload_n 1, 160, 1, 0)), (160, (.imul, 161, 0, 0)), (161, (.istore 10, 163, 10, 0)), (163, (.iload 10, 165, 10, 0)), (165, (.iconst 4, 166, 4, 0)), (166, (.iload_n 1, 167, 1, 0)), (167, (.imul, 168, 0, 0)), (168, (.iconst 4, 169, 4, 0)), (169, (.iadd, 170, 0, 0)), (170, (.if_icmp .ge 31, 173, 201, 0)), (173, (.iload 9, 175, 9, 0))]
def am_l102_4 : List (Nat × am_R) := [(175, (.aload_n 0, 176, 0, 0)), (176, (.getfield 7, 179, 8, 0)), (179, (.iload 10, 181, 10, 0)), (181, (.caload, 182, 0, 0)), (182, (.bipush 45, 184, 45, 0)), (184, (.if_icmp .ne 7, 187, 191, 0)), (187, (.iconst 0, 188, 0, 0)), (188, (.goto 4, 191, 192, 0)), (191, (.iconst 1, 192, 1, 0)), (192, (.iadd, 193, 0, 0)), (193, (.istore 9, 195, 9, 0)), (195, (.iinc 10 1, 198, 10, 1)), (198, (.goto (-35), 201, 163, 0)), (201, (.iload 9, 203, 9, 0)), (203, (.ireturn, 204, 0, 0))]
def am_t102 : Nat → am_R := fun pc => am_lc [(46, am_l102_0), (94, am_l102_1), (135, am_l102_2), (174, am_l102_3), (204, am_l102_4)] pc
def am_l103_0 : List (Nat × am_R) := [(0, (.iload_n 0, 1, 0, 0)), (1, (.iconst 0, 2, 0, 0)), (2, (.bipush 15, 4, 15, 0)), (4, (.invokestatic 100, 7, 97, 0)), (7, (.ifCond .eq 26, 10, 33, 0)), (10, (.iload_n 1, 11, 1, 0)), (11, (.iconst 0, 12, 0, 0)), (12, (.bipush 11, 14, 11, 0)), (14, (.invokestatic 100, 17, 97, 0)), (17, (.ifCond .eq 16, 20, 33, 0)), (20, (.iload_n 2, 21, 2, 0)), (21, (.iconst 0, 22, 0, 0)), (22, (.iconst 5, 23, 5, 0)), (23, (.invokestatic 100, 26, 97, 0)), (26, (.ifCond .eq 7, 29, 33, 0)), (29, (.iconst 1, 30, 1, 0)), (30, (.goto 4, 33, 34, 0)), (33, (.iconst 0, 34, 0, 0)), (34, (.ireturn, 35, 0, 0))]
def am_t103 : Nat → am_R := fun pc => am_lc [(35, am_l103_0)] pc
def am_l104_0 : List (Nat × am_R) := [(0, (.iload_n 0, 1, 0, 0)), (1, (.bipush 16, 3, 16, 0)), (3, (.iload_n 1, 4, 1, 0)), (4, (.imul, 5, 0, 0)), (5, (.iadd, 6, 0, 0)), (6, (.sipush 192, 9, 192, 0)), (9, (.iload_n 2, 10, 2, 0)), (10, (.imul, 11, 0, 0)), (11, (.iadd, 12, 0, 0)), (12, (.ireturn, 13, 0, 0))]
def am_t104 : Nat → am_R := fun pc => am_lc [(13, am_l104_0)] pc
def am_l105_0 : List (Nat × am_R) := [(0, (.aload_n 0, 1, 0, 0)), (1, (.iload_n 1, 2, 1, 0)), (2, (.iload_n 2, 3, 2, 0)), (3, (.iload_n 3, 4, 3, 0)), (4, (.invokestatic 108, 7, 103, 0)), (7, (.invokevirtual 111, 10, 99, 8)), (10, (.ifCond .le 5, 13, 15, 0)), (13, (.iconst 0, 14, 0, 0)), (14, (.ireturn, 15, 0, 0)), (15, (.aload_n 0, 16, 0, 0)), (16, (.getfield 50, 19, 8, 13)), (19, (.iload_n 1, 20, 1, 0)), (20, (.iload_n 2, 21, 2, 0)), (21, (.iload_n 3, 22, 3, 0)), (22, (.invokestatic 115, 25, 104, 0)), (25, (.baload, 26, 0, 0)), (26, (.istore 5, 28, 5, 0)), (28, (.aload_n 0, 29, 0, 0)), (29, (.getfield 50, 32, 8, 13)), (32, (.iload_n 1, 33, 1, 0)), (33, (.iload_n 2, 34, 2, 0)), (34, (.iload_n 3, 35, 3, 0)), (35, (.invokestatic 115, 38, 104, 0)), (38, (.iload 4, 40, 4, 0))]
def am_l105_1 : List (Nat × am_R) := [(40, (.bastore, 41, 0, 0)), (41, (.aload_n 0, 42, 0, 0)), (42, (.invokevirtual 97, 45, 100, 8)), (45, (.iload 5, 47, 5, 0)), (47, (.ireturn, 48, 0, 0))]
def am_t105 : Nat → am_R := fun pc => am_lc [(39, am_l105_0), (48, am_l105_1)] pc
def am_l106_0 : List (Nat × am_R) := [(0, (.aload_n 0, 1, 0, 0)), (1, (.iload_n 1, 2, 1, 0)), (2, (.iconst 0, 3, 0, 0)), (3, (.iconst 3, 4, 3, 0)), (4, (.invokestatic 100, 7, 97, 0)), (7, (.ifCond .eq 41, 10, 48, 0)), (10, (.iload_n 2, 11, 2, 0)), (11, (.bipush (-15), 13, 4294967281, 0)), (13, (.bipush 15, 15, 15, 0)), (15, (.invokestatic 100, 18, 97, 0)), (18, (.ifCond .eq 30, 21, 48, 0)), (21, (.iload_n 3, 22, 3, 0)), (22, (.bipush (-15), 24, 4294967281, 0)), (24, (.bipush 15, 26, 15, 0)), (26, (.invokestatic 100, 29, 97, 0)), (29, (.ifCond .eq 19, 32, 48, 0)), (32, (.iload 4, 34, 4, 0)), (34, (.bipush (-15), 36, 4294967281, 0)), (36, (.bipush 15, 38, 15, 0)), (38, (.invokestatic 100, 41, 97, 0)), (41, (.ifCond .eq 7, 44, 48, 0)), (44, (.iconst 1, 45, 1, 0)), (45, (.goto 4, 48, 49, 0)), (48, (.iconst 0, 49, 0, 0))]
def am_l106_1 : List (Nat × am_R) := [(49, (.invokevirtual 111, 52, 99, 8)), (52, (.ifCond .le 5, 55, 57, 0)), (55, (.iconst 0, 56, 0, 0)), (56, (.ireturn, 57, 0, 0)), (57, (.aload_n 0, 58, 0, 0)), (58, (.getfield 41, 61, 8, 10)), (61, (.iconst 3, 62, 3, 0)), (62, (.iload_n 1, 63, 1, 0)), (63, (.imul, 64, 0, 0)), (64, (.iaload, 65, 0, 0)), (65, (.istore 5, 67, 5, 0)), (67, (.aload_n 0, 68, 0, 0)), (68, (.getfield 41, 71, 8, 10)), (71, (.iconst 3, 72, 3, 0)), (72, (.iload_n 1, 73, 1, 0)), (73, (.imul, 74, 0, 0)), (74, (.iload_n 2, 75, 2, 0)), (75, (.iastore, 76, 0, 0)), (76, (.aload_n 0, 77, 0, 0)), (77, (.getfield 41, 80, 8, 10)), (80, (.iconst 3, 81, 3, 0)), (81, (.iload_n 1, 82, 1, 0)), (82, (.imul, 83, 0, 0)), (83, (.iconst 1, 84, 1, 0))]
def am_l106_2 : List (Nat × am_R) := [(84, (.iadd, 85, 0, 0)), (85, (.iload_n 3, 86, 3, 0)), (86, (.iastore, 87, 0, 0)), (87, (.aload_n 0, 88, 0, 0)), (88, (.getfield 41, 91, 8, 10)), (91, (.iconst 3, 92, 3, 0)), (92, (.iload_n 1, 93, 1, 0)), (93, (.imul, 94, 0, 0)), (94, (.iconst 2, 95, 2, 0)), (95, (.iadd, 96, 0, 0)), (96, (.iload 4, 98, 4, 0)), (98, (.iastore, 99, 0, 0)), (99, (.aload_n 0, 100, 0, 0)), (100, (.invokevirtual 97, 103, 100, 8)), (103, (.iload 5, 105, 5, 0)), (105, (.ireturn, 106, 0, 0))]
def am_t106 : Nat → am_R := fun pc => am_lc [(49, am_l106_0), (84, am_l106_1), (106, am_l106_2)] pc
def am_l107_0 : List (Nat × am_R) := [(0, (.iload_n 0, 1, 0, 0)), (1, (.bipush (-50), 3, 4294967246, 0)), (3, (.bipush 50, 5, 50, 0)), (5, (.invokestatic 100, 8, 97, 0)), (8, (.ifCond .ne 14, 11, 22, 0)), (11, (.iload_n 0, 12, 0, 0)), (12, (.bipush 100, 14, 100, 0)), (14, (.bipush 107, 16, 107, 0)), (16, (.invokestatic 100, 19, 97, 0)), (19, (.ifCond .eq 7, 22, 26, 0)), (22, (.iconst 1, 23, 1, 0)), (23, (.goto 4, 26, 27, 0)), (26, (.iconst 0, 27, 0, 0)), (27, (.ireturn, 28, 0, 0))]
def am_t107 : Nat → am_R := fun pc => am_lc [(28, am_l107_0)] pc
def am_l108_0 : List (Nat × am_R) := [(0, (.iload_n 0, 1, 0, 0)), (1, (.bipush 103, 3, 103, 0)), (3, (.if_icmp .eq 27, 6, 30, 0)), (6, (.iload_n 0, 7, 0, 0)), (7, (.bipush 108, 9, 108, 0)), (9, (.if_icmp .eq 21, 12, 30, 0)), (12, (.iload_n 0, 13, 0, 0)), (13, (.bipush 100, 15, 100, 0)), (15, (.if_icmp .eq 15, 18, 30, 0)), (18, (.iload_n 0, 19, 0, 0)), (19, (.bipush 112, 21, 112, 0)), (21, (.if_icmp .eq 9, 24, 30, 0)), (24, (.iload_n 0, 25, 0, 0)), (25, (.bipush 116, 27, 116, 0)), (27, (.if_icmp .ne 5, 30, 32, 0)), (30, (.iconst 1, 31, 1, 0)), (31, (.ireturn, 32, 0, 0)), (32, (.iload_n 0, 33, 0, 0)), (33, (.bipush 115, 35, 115, 0)), (35, (.if_icmp .eq 27, 38, 62, 0)), (38, (.iload_n 0, 39, 0, 0)), (39, (.bipush 102, 41, 102, 0)), (41, (.if_icmp .eq 21, 44, 62, 0)), (44, (.iload_n 0, 45, 0, 0))]
def am_l108_1 : List (Nat × am_R) := [(45, (.bipush 109, 47, 109, 0)), (47, (.if_icmp .eq 15, 50, 62, 0)), (50, (.iload_n 0, 51, 0, 0)), (51, (.bipush 111, 53, 111, 0)), (53, (.if_icmp .eq 9, 56, 62, 0)), (56, (.iload_n 0, 57, 0, 0)), (57, (.bipush 118, 59, 118, 0)), (59, (.if_icmp .ne 5, 62, 64, 0)), (62, (.iconst 1, 63, 1, 0)), (63, (.ireturn, 64, 0, 0)), (64, (.iload_n 0, 65, 0, 0)), (65, (.bipush 120, 67, 120, 0)), (67, (.if_icmp .eq 27, 70, 94, 0)), (70, (.iload_n 0, 71, 0, 0)), (71, (.bipush 114, 73, 114, 0)), (73, (.if_icmp .eq 21, 76, 94, 0)), (76, (.iload_n 0, 77, 0, 0)), (77, (.bipush 105, 79, 105, 0)), (79, (.if_icmp .eq 15, 82, 94, 0)), (82, (.iload_n 0, 83, 0, 0)), (83, (.bipush 101, 85, 101, 0)), (85, (.if_icmp .eq 9, 88, 94, 0)), (88, (.iload_n 0, 89, 0, 0)), (89, (.bipush 113, 91, 113, 0))]
def am_l108_2 : List (Nat × am_R) := [(91, (.if_icmp .ne 7, 94, 98, 0)), (94, (.iconst 1, 95, 1, 0)), (95, (.goto 4, 98, 99, 0)), (98, (.iconst 0, 99, 0, 0)), (99, (.ireturn, 100, 0, 0))]
def am_t108 : Nat → am_R := fun pc => am_lc [(45, am_l108_0), (90, am_l108_1), (100, am_l108_2)] pc
def am_l109_0 : List (Nat × am_R) := [(0, (.aload_n 0, 1, 0, 0)), (1, (.iload_n 1, 2, 1, 0)), (2, (.invokestatic 119, 5, 108, 0)), (5, (.ifCond .eq 25, 8, 30, 0)), (8, (.iload_n 2, 9, 2, 0)), (9, (.invokestatic 123, 12, 107, 0)), (12, (.ifCond .eq 18, 15, 30, 0)), (15, (.iload_n 3, 16, 3, 0)), (16, (.invokestatic 123, 19, 107, 0)), (19, (.ifCond .eq 11, 22, 30, 0)), (22, (.iload 4, 24, 4, 0)), (24, (.invokestatic 123, 27, 107, 0)), (27, (.ifCond .ne 7, 30, 34, 0)), (30, (.iconst 1, 31, 1, 0)), (31, (.goto 17, 34, 48, 0)), (34, (.aload_n 0, 35, 0, 0)), (35, (.getfield 61, 38, 8, 16)), (38, (.bipush 64, 40, 64, 0)), (40, (.if_icmp .ne 7, 43, 47, 0)), (43, (.iconst 2, 44, 2, 0)), (44, (.goto 4, 47, 48, 0)), (47, (.iconst 0, 48, 0, 0)), (48, (.putfield 57, 51, 8, 15)), (51, (.aload_n 0, 52, 0, 0))]
def am_l109_1 : List (Nat × am_R) := [(52, (.getfield 57, 55, 8, 15)), (55, (.ifCond .le 5, 58, 60, 0)), (58, (.iconst 0, 59, 0, 0)), (59, (.ireturn, 60, 0, 0)), (60, (.aload_n 0, 61, 0, 0)), (61, (.getfield 13, 64, 8, 1)), (64, (.aload_n 0, 65, 0, 0)), (65, (.getfield 61, 68, 8, 16)), (68, (.iload_n 1, 69, 1, 0)), (69, (.castore, 70, 0, 0)), (70, (.aload_n 0, 71, 0, 0)), (71, (.getfield 26, 74, 8, 5)), (74, (.aload_n 0, 75, 0, 0)), (75, (.getfield 61, 78, 8, 16)), (78, (.iload_n 2, 79, 2, 0)), (79, (.iastore, 80, 0, 0)), (80, (.aload_n 0, 81, 0, 0)), (81, (.getfield 29, 84, 8, 6)), (84, (.aload_n 0, 85, 0, 0)), (85, (.getfield 61, 88, 8, 16)), (88, (.iload_n 3, 89, 3, 0)), (89, (.iastore, 90, 0, 0)), (90, (.aload_n 0, 91, 0, 0)), (91, (.getfield 32, 94, 8, 7))]
def am_l109_2 : List (Nat × am_R) := [(94, (.aload_n 0, 95, 0, 0)), (95, (.getfield 61, 98, 8, 16)), (98, (.iload 4, 100, 4, 0)), (100, (.iastore, 101, 0, 0)), (101, (.aload_n 0, 102, 0, 0)), (102, (.dup, 103, 0, 0)), (103, (.getfield 61, 106, 8, 16)), (106, (.iconst 1, 107, 1, 0)), (107, (.iadd, 108, 0, 0)), (108, (.putfield 61, 111, 8, 16)), (111, (.aload_n 0, 112, 0, 0)), (112, (.invokevirtual 97, 115, 100, 8)), (115, (.aload_n 0, 116, 0, 0)), (116, (.getfield 61, 119, 8, 16)), (119, (.iconst 1, 120, 1, 0)), (120, (.isub, 121, 0, 0)), (121, (.ireturn, 122, 0, 0))]
def am_t109 : Nat → am_R := fun pc => am_lc [(52, am_l109_0), (92, am_l109_1), (122, am_l109_2)] pc
def am_l110_0 : List (Nat × am_R) := [(0, (.aload_n 0, 1, 0, 0)), (1, (.aload_n 0, 2, 0, 0)), (2, (.getfield 61, 5, 8, 16)), (5, (.ifCond .le 7, 8, 12, 0)), (8, (.iconst 1, 9, 1, 0)), (9, (.goto 4, 12, 13, 0)), (12, (.iconst 0, 13, 0, 0)), (13, (.invokevirtual 111, 16, 99, 8)), (16, (.ifCond .le 5, 19, 21, 0)), (19, (.iconst 0, 20, 0, 0)), (20, (.ireturn, 21, 0, 0)), (21, (.aload_n 0, 22, 0, 0)), (22, (.dup, 23, 0, 0)), (23, (.getfield 61, 26, 8, 16)), (26, (.iconst 1, 27, 1, 0)), (27, (.isub, 28, 0, 0)), (28, (.putfield 61, 31, 8, 16)), (31, (.aload_n 0, 32, 0, 0)), (32, (.invokevirtual 97, 35, 100, 8)), (35, (.aload_n 0, 36, 0, 0)), (36, (.getfield 61, 39, 8, 16)), (39, (.ireturn, 40, 0, 0))]
def am_t110 : Nat → am_R := fun pc => am_lc [(40, am_l110_0)] pc
def am_l111_0 : List (Nat × am_R) := [(0, (.aload_n 0, 1, 0, 0)), (1, (.getfield 13, 4, 8, 1)), (4, (.iload_n 1, 5, 1, 0)), (5, (.caload, 6, 0, 0)), (6, (.bipush 114, 8, 114, 0)), (8, (.if_icmp .eq 14, 11, 22, 0)), (11, (.aload_n 0, 12, 0, 0)), (12, (.getfield 13, 15, 8, 1)), (15, (.iload_n 1, 16, 1, 0)), (16, (.caload, 17, 0, 0)), (17, (.bipush 105, 19, 105, 0)), (19, (.if_icmp .ne 7, 22, 26, 0)), (22, (.iconst 1, 23, 1, 0)), (23, (.goto 4, 26, 27, 0)), (26, (.iconst 0, 27, 0, 0)), (27, (.ireturn, 28, 0, 0))]
def am_t111 : Nat → am_R := fun pc => am_lc [(28, am_l111_0)] pc
def am_l112_0 : List (Nat × am_R) := [(0, (.iconst 0, 1, 0, 0)), (1, (.istore_n 1, 2, 1, 0)), (2, (.iconst 0, 3, 0, 0)), (3, (.istore_n 2, 4, 2, 0)), (4, (.iload_n 2, 5, 2, 0)), (5, (.aload_n 0, 6, 0, 0)), (6, (.getfield 61, 9, 8, 16)), (9, (.if_icmp .ge 45, 12, 54, 0)), (12, (.aload_n 0, 13, 0, 0)), (13, (.iload_n 2, 14, 2, 0)), (14, (.invokevirtual 127, 17, 111, 8)), (17, (.ifCond .eq 6, 20, 23, 0)), (20, (.iinc 1 1, 23, 1, 1)), (23, (.aload_n 0, 24, 0, 0)), (24, (.getfield 13, 27, 8, 1)), (27, (.iload_n 2, 28, 2, 0)), (28, (.caload, 29, 0, 0)), (29, (.bipush 101, 31, 101, 0)), (31, (.if_icmp .ne 6, 34, 37, 0)), (34, (.iinc 1 (-1), 37, 1, 4294967295)), (37, (.iload_n 1, 38, 1, 0)), (38, (.ifCond .lt 8, 41, 46, 0)), (41, (.iload_n 1, 42, 1, 0)), (42, (.iconst 3, 43, 3, 0))]
def am_l112_1 : List (Nat × am_R) := [(43, (.if_icmp .le 5, 46, 48, 0)), (46, (.iconst 0, 47, 0, 0)), (47, (.ireturn, 48, 0, 0)), (48, (.iinc 2 1, 51, 2, 1)), (51, (.goto (-47), 54, 4, 0)), (54, (.iload_n 1, 55, 1, 0)), (55, (.ifCond .ne 7, 58, 62, 0)), (58, (.iconst 1, 59, 1, 0)), (59, (.goto 4, 62, 63, 0)), (62, (.iconst 0, 63, 0, 0)), (63, (.ireturn, 64, 0, 0))]
def am_t112 : Nat → am_R := fun pc => am_lc [(43, am_l112_0), (64, am_l112_1)] pc
def am_l113_0 : List (Nat × am_R) := [(0, (.aload_n 0, 1, 0, 0)), (1, (.iconst 0, 2, 0, 0)), (2, (.putfield 57, 5, 8, 15)), (5, (.aload_n 0, 6, 0, 0)), (6, (.invokevirtual 130, 9, 112, 8)), (9, (.ireturn, 10, 0, 0))]
def am_t113 : Nat → am_R := fun pc => am_lc [(10, am_l113_0)] pc
def am_l114_0 : List (Nat × am_R) := [(0, (.iconst 1, 1, 1, 0)), (1, (.istore_n 2, 2, 2, 0)), (2, (.iload_n 1, 3, 1, 0)), (3, (.istore_n 3, 4, 3, 0)), (4, (.iload_n 2, 5, 2, 0)), (5, (.ifCond .le 40, 8, 45, 0)), (8, (.iinc 3 1, 11, 3, 1)), (11, (.iload_n 2, 12, 2, 0)), (12, (.aload_n 0, 13, 0, 0)), (13, (.iload_n 3, 14, 3, 0)), (14, (.invokevirtual 127, 17, 111, 8)), (17, (.ifCond .eq 7, 20, 24, 0)), (20, (.iconst 1, 21, 1, 0)), (21, (.goto 19, 24, 40, 0)), (24, (.aload_n 0, 25, 0, 0)), (25, (.getfield 13, 28, 8, 1)), (28, (.iload_n 3, 29, 3, 0)), (29, (.caload, 30, 0, 0)), (30, (.bipush 101, 32, 101, 0)), (32, (.if_icmp .ne 7, 35, 39, 0)), (35, (.iconst (-1), 36, 4294967295, 0)), (36, (.goto 4, 39, 40, 0)), (39, (.iconst 0, 40, 0, 0)), (40, (.iadd, 41, 0, 0))]
def am_l114_1 : List (Nat × am_R) := [(41, (.istore_n 2, 42, 2, 0)), (42, (.goto (-38), 45, 4, 0)), (45, (.iload_n 3, 46, 3, 0)), (46, (.ireturn, 47, 0, 0))]
def am_t114 : Nat → am_R := fun pc => am_lc [(41, am_l114_0), (47, am_l114_1)] pc
def am_l115_0 : List (Nat × am_R) := [(0, (.iconst 1, 1, 1, 0)), (1, (.istore_n 2, 2, 2, 0)), (2, (.iload_n 1, 3, 1, 0)), (3, (.istore_n 3, 4, 3, 0)), (4, (.iload_n 2, 5, 2, 0)), (5, (.ifCond .le 40, 8, 45, 0)), (8, (.iinc 3 (-1), 11, 3, 4294967295)), (11, (.iload_n 2, 12, 2, 0)), (12, (.aload_n 0, 13, 0, 0)), (13, (.getfield 13, 16, 8, 1)), (16, (.iload_n 3, 17, 3, 0)), (17, (.caload, 18, 0, 0)), (18, (.bipush 101, 20, 101, 0)), (20, (.if_icmp .ne 7, 23, 27, 0)), (23, (.iconst 1, 24, 1, 0)), (24, (.goto 16, 27, 40, 0)), (27, (.aload_n 0, 28, 0, 0)), (28, (.iload_n 3, 29, 3, 0)), (29, (.invokevirtual 127, 32, 111, 8)), (32, (.ifCond .eq 7, 35, 39, 0)), (35, (.iconst (-1), 36, 4294967295, 0)), (36, (.goto 4, 39, 40, 0)), (39, (.iconst 0, 40, 0, 0)), (40, (.iadd, 41, 0, 0))]
def am_l115_1 : List (Nat × am_R) := [(41, (.istore_n 2, 42, 2, 0)), (42, (.goto (-38), 45, 4, 0)), (45, (.iload_n 3, 46, 3, 0)), (46, (.ireturn, 47, 0, 0))]
def am_t115 : Nat → am_R := fun pc => am_lc [(41, am_l115_0), (47, am_l115_1)] pc
def am_l116_0 : List (Nat × am_R) := [(0, (.iload_n 1, 1, 1, 0)), (1, (.iload_n 1, 2, 1, 0)), (2, (.imul, 3, 0, 0)), (3, (.iload_n 2, 4, 2, 0)), (4, (.iload_n 2, 5, 2, 0)), (5, (.imul, 6, 0, 0)), (6, (.iadd, 7, 0, 0)), (7, (.istore 4, 9, 4, 0)), (9, (.aload_n 0, 10, 0, 0)), (10, (.getfield 16, 13, 8, 2)), (13, (.aload_n 0, 14, 0, 0)), (14, (.getfield 70, 17, 8, 19)), (17, (.iaload, 18, 0, 0)), (18, (.istore 5, 20, 5, 0)), (20, (.iload_n 3, 21, 3, 0)), (21, (.ifCond .ge 5, 24, 26, 0)), (24, (.iconst 0, 25, 0, 0)), (25, (.ireturn, 26, 0, 0)), (26, (.aload_n 0, 27, 0, 0)), (27, (.getfield 7, 30, 8, 0)), (30, (.aload_n 0, 31, 0, 0)), (31, (.getfield 70, 34, 8, 19)), (34, (.caload, 35, 0, 0)), (35, (.bipush 101, 37, 101, 0))]
def am_l116_1 : List (Nat × am_R) := [(37, (.if_icmp .ne 19, 40, 56, 0)), (40, (.iload 4, 42, 4, 0)), (42, (.iload 5, 44, 5, 0)), (44, (.iload 5, 46, 5, 0)), (46, (.imul, 47, 0, 0)), (47, (.if_icmp .gt 7, 50, 54, 0)), (50, (.iconst 1, 51, 1, 0)), (51, (.goto 4, 54, 55, 0)), (54, (.iconst 0, 55, 0, 0)), (55, (.ireturn, 56, 0, 0)), (56, (.iload_n 3, 57, 3, 0)), (57, (.iload 5, 59, 5, 0)), (59, (.if_icmp .ge 7, 62, 66, 0)), (62, (.iload_n 3, 63, 3, 0)), (63, (.goto 5, 66, 68, 0)), (66, (.iload 5, 68, 5, 0)), (68, (.istore 6, 70, 6, 0)), (70, (.aload_n 0, 71, 0, 0)), (71, (.getfield 7, 74, 8, 0)), (74, (.aload_n 0, 75, 0, 0)), (75, (.getfield 70, 78, 8, 19)), (78, (.caload, 79, 0, 0)), (79, (.bipush 98, 81, 98, 0)), (81, (.if_icmp .ne 33, 84, 114, 0))]
def am_l116_2 : List (Nat × am_R) := [(84, (.iload 4, 86, 4, 0)), (86, (.iload 5, 88, 5, 0)), (88, (.iload 6, 90, 6, 0)), (90, (.isub, 91, 0, 0)), (91, (.iload 5, 93, 5, 0)), (93, (.iload 6, 95, 6, 0)), (95, (.isub, 96, 0, 0)), (96, (.imul, 97, 0, 0)), (97, (.iadd, 98, 0, 0)), (98, (.iload 5, 100, 5, 0)), (100, (.iload 5, 102, 5, 0)), (102, (.imul, 103, 0, 0)), (103, (.if_icmp .gt 7, 106, 110, 0)), (106, (.iconst 1, 107, 1, 0)), (107, (.goto 22, 110, 129, 0)), (110, (.iconst 0, 111, 0, 0)), (111, (.goto 18, 114, 129, 0)), (114, (.iload 4, 116, 4, 0)), (116, (.iload 6, 118, 6, 0)), (118, (.iload 6, 120, 6, 0)), (120, (.imul, 121, 0, 0)), (121, (.if_icmp .gt 7, 124, 128, 0)), (124, (.iconst 1, 125, 1, 0)), (125, (.goto 4, 128, 129, 0))]
def am_l116_3 : List (Nat × am_R) := [(128, (.iconst 0, 129, 0, 0)), (129, (.ireturn, 130, 0, 0))]
def am_t116 : Nat → am_R := fun pc => am_lc [(36, am_l116_0), (82, am_l116_1), (126, am_l116_2), (130, am_l116_3)] pc
def am_l117_0 : List (Nat × am_R) := [(0, (.iconst 0, 1, 0, 0)), (1, (.istore 6, 3, 6, 0)), (3, (.iconst 0, 4, 0, 0)), (4, (.istore 7, 6, 7, 0)), (6, (.iload 7, 8, 7, 0)), (8, (.sipush 1152, 11, 1152, 0)), (11, (.if_icmp .ge 100, 14, 111, 0)), (14, (.aload_n 0, 15, 0, 0)), (15, (.getfield 70, 18, 8, 19)), (18, (.ifCond .lt 93, 21, 111, 0)), (21, (.iload 4, 23, 4, 0)), (23, (.ifCond .eq 13, 26, 36, 0)), (26, (.aload_n 0, 27, 0, 0)), (27, (.getfield 54, 30, 8, 14)), (30, (.iload 7, 32, 7, 0)), (32, (.baload, 33, 0, 0)), (33, (.ifCond .eq 18, 36, 51, 0)), (36, (.iload 5, 38, 5, 0)), (38, (.ifCond .eq 17, 41, 55, 0)), (41, (.aload_n 0, 42, 0, 0)), (42, (.getfield 50, 45, 8, 13)), (45, (.iload 7, 47, 7, 0)), (47, (.baload, 48, 0, 0)), (48, (.ifCond .eq 7, 51, 55, 0))]
def am_l117_1 : List (Nat × am_R) := [(51, (.iconst 1, 52, 1, 0)), (52, (.goto 4, 55, 56, 0)), (55, (.iconst 0, 56, 0, 0)), (56, (.istore 8, 58, 8, 0)), (58, (.iload 6, 60, 6, 0)), (60, (.iload 8, 62, 8, 0)), (62, (.ifCond .eq 39, 65, 101, 0)), (65, (.aload_n 0, 66, 0, 0)), (66, (.iload 7, 68, 7, 0)), (68, (.bipush 16, 70, 16, 0)), (70, (.irem, 71, 0, 0)), (71, (.iload_n 1, 72, 1, 0)), (72, (.isub, 73, 0, 0)), (73, (.iload 7, 75, 7, 0)), (75, (.bipush 16, 77, 16, 0)), (77, (.idiv, 78, 0, 0)), (78, (.bipush 12, 80, 12, 0)), (80, (.irem, 81, 0, 0)), (81, (.iload_n 2, 82, 2, 0)), (82, (.isub, 83, 0, 0)), (83, (.iload 7, 85, 7, 0)), (85, (.sipush 192, 88, 192, 0)), (88, (.idiv, 89, 0, 0)), (89, (.iload_n 3, 90, 3, 0))]
def am_l117_2 : List (Nat × am_R) := [(90, (.isub, 91, 0, 0)), (91, (.invokevirtual 134, 94, 116, 8)), (94, (.ifCond .eq 7, 97, 101, 0)), (97, (.iconst 1, 98, 1, 0)), (98, (.goto 4, 101, 102, 0)), (101, (.iconst 0, 102, 0, 0)), (102, (.iadd, 103, 0, 0)), (103, (.istore 6, 105, 6, 0)), (105, (.iinc 7 1, 108, 7, 1)), (108, (.goto (-102), 111, 6, 0)), (111, (.iload 6, 113, 6, 0)), (113, (.ireturn, 114, 0, 0))]
def am_t117 : Nat → am_R := fun pc => am_lc [(49, am_l117_0), (90, am_l117_1), (114, am_l117_2)] pc
def am_l118_0 : List (Nat × am_R) := [(0, (.iconst 0, 1, 0, 0)), (1, (.istore 4, 3, 4, 0)), (3, (.iload 4, 5, 4, 0)), (5, (.sipush 1152, 8, 1152, 0)), (8, (.if_icmp .ge 75, 11, 83, 0)), (11, (.aload_n 0, 12, 0, 0)), (12, (.getfield 54, 15, 8, 14)), (15, (.iload 4, 17, 4, 0)), (17, (.baload, 18, 0, 0)), (18, (.ifCond .ne 59, 21, 77, 0)), (21, (.aload_n 0, 22, 0, 0)), (22, (.iload 4, 24, 4, 0)), (24, (.bipush 16, 26, 16, 0)), (26, (.irem, 27, 0, 0)), (27, (.iload_n 1, 28, 1, 0)), (28, (.isub, 29, 0, 0)), (29, (.iload 4, 31, 4, 0)), (31, (.bipush 16, 33, 16, 0)), (33, (.idiv, 34, 0, 0)), (34, (.bipush 12, 36, 12, 0)), (36, (.irem, 37, 0, 0)), (37, (.iload_n 2, 38, 2, 0)), (38, (.isub, 39, 0, 0)), (39, (.iload 4, 41, 4, 0))]
def am_l118_1 : List (Nat × am_R) := [(41, (.sipush 192, 44, 192, 0)), (44, (.idiv, 45, 0, 0)), (45, (.iload_n 3, 46, 3, 0)), (46, (.isub, 47, 0, 0)), (47, (.invokevirtual 134, 50, 116, 8)), (50, (.ifCond .ne 6, 53, 56, 0)), (53, (.goto 24, 56, 77, 0)), (56, (.aload_n 0, 57, 0, 0)), (57, (.getfield 54, 60, 8, 14)), (60, (.iload 4, 62, 4, 0)), (62, (.iconst 1, 63, 1, 0)), (63, (.bastore, 64, 0, 0)), (64, (.aload_n 0, 65, 0, 0)), (65, (.getfield 23, 68, 8, 4)), (68, (.aload_n 0, 69, 0, 0)), (69, (.getfield 70, 72, 8, 19)), (72, (.dup2, 73, 0, 0)), (73, (.iaload, 74, 0, 0)), (74, (.iconst 1, 75, 1, 0)), (75, (.iadd, 76, 0, 0)), (76, (.iastore, 77, 0, 0)), (77, (.iinc 4 1, 80, 4, 1)), (80, (.goto (-77), 83, 3, 0)), (83, (.return_, 84, 0, 0))]
def am_t118 : Nat → am_R := fun pc => am_lc [(40, am_l118_0), (84, am_l118_1)] pc
def am_l119_0 : List (Nat × am_R) := [(0, (.iload_n 0, 1, 0, 0)), (1, (.ifCond .ge 8, 4, 9, 0)), (4, (.iload_n 0, 5, 0, 0)), (5, (.ineg, 6, 0, 0)), (6, (.goto 4, 9, 10, 0)), (9, (.iload_n 0, 10, 0, 0)), (10, (.ireturn, 11, 0, 0))]
def am_t119 : Nat → am_R := fun pc => am_lc [(11, am_l119_0)] pc
def am_l120_0 : List (Nat × am_R) := [(0, (.iload_n 0, 1, 0, 0)), (1, (.iload_n 1, 2, 1, 0)), (2, (.if_icmp .le 7, 5, 9, 0)), (5, (.iload_n 0, 6, 0, 0)), (6, (.goto 4, 9, 10, 0)), (9, (.iload_n 1, 10, 1, 0)), (10, (.ireturn, 11, 0, 0))]
def am_t120 : Nat → am_R := fun pc => am_lc [(11, am_l120_0)] pc
def am_l121_0 : List (Nat × am_R) := [(0, (.iload 4, 2, 4, 0)), (2, (.invokestatic 137, 5, 119, 0)), (5, (.iload 5, 7, 5, 0)), (7, (.invokestatic 137, 10, 119, 0)), (10, (.iload 6, 12, 6, 0)), (12, (.invokestatic 137, 15, 119, 0)), (15, (.invokestatic 141, 18, 120, 0)), (18, (.invokestatic 141, 21, 120, 0)), (21, (.istore 8, 23, 8, 0)), (23, (.iconst 1, 24, 1, 0)), (24, (.istore 9, 26, 9, 0)), (26, (.iload 9, 28, 9, 0)), (28, (.iload 8, 30, 8, 0)), (30, (.if_icmp .gt 148, 33, 178, 0)), (33, (.iload_n 1, 34, 1, 0)), (34, (.iload 4, 36, 4, 0)), (36, (.iload 9, 38, 9, 0)), (38, (.imul, 39, 0, 0)), (39, (.iload 8, 41, 8, 0)), (41, (.idiv, 42, 0, 0)), (42, (.iadd, 43, 0, 0)), (43, (.istore 10, 45, 10, 0)), (45, (.iload_n 2, 46, 2, 0)), (46, (.iload 5, 48, 5, 0))]
def am_l121_1 : List (Nat × am_R) := [(48, (.iload 9, 50, 9, 0)), (50, (.imul, 51, 0, 0)), (51, (.iload 8, 53, 8, 0)), (53, (.idiv, 54, 0, 0)), (54, (.iadd, 55, 0, 0)), (55, (.istore 11, 57, 11, 0)), (57, (.iload_n 3, 58, 3, 0)), (58, (.iload 6, 60, 6, 0)), (60, (.iload 9, 62, 9, 0)), (62, (.imul, 63, 0, 0)), (63, (.iload 8, 65, 8, 0)), (65, (.idiv, 66, 0, 0)), (66, (.iadd, 67, 0, 0)), (67, (.istore 12, 69, 12, 0)), (69, (.aload_n 0, 70, 0, 0)), (70, (.getfield 94, 73, 8, 26)), (73, (.bipush 108, 75, 108, 0)), (75, (.if_icmp .ne 38, 78, 113, 0)), (78, (.iload 10, 80, 10, 0)), (80, (.iconst 0, 81, 0, 0)), (81, (.bipush 15, 83, 15, 0)), (83, (.invokestatic 100, 86, 97, 0)), (86, (.ifCond .eq 25, 89, 111, 0)), (89, (.iload 11, 91, 11, 0))]
def am_l121_2 : List (Nat × am_R) := [(91, (.iconst 0, 92, 0, 0)), (92, (.bipush 11, 94, 11, 0)), (94, (.invokestatic 100, 97, 97, 0)), (97, (.ifCond .eq 14, 100, 111, 0)), (100, (.iload 12, 102, 12, 0)), (102, (.iconst 0, 103, 0, 0)), (103, (.bipush 9, 105, 9, 0)), (105, (.invokestatic 100, 108, 97, 0)), (108, (.ifCond .ne 5, 111, 113, 0)), (111, (.iconst 0, 112, 0, 0)), (112, (.ireturn, 113, 0, 0)), (113, (.aload_n 0, 114, 0, 0)), (114, (.getfield 94, 117, 8, 26)), (117, (.bipush 99, 119, 99, 0)), (119, (.if_icmp .ne 29, 122, 148, 0)), (122, (.aload_n 0, 123, 0, 0)), (123, (.iload 10, 125, 10, 0)), (125, (.iload 11, 127, 11, 0)), (127, (.iload 12, 129, 12, 0)), (129, (.iload 7, 131, 7, 0)), (131, (.ifCond .ne 7, 134, 138, 0)), (134, (.iconst 1, 135, 1, 0)), (135, (.goto 4, 138, 139, 0)), (138, (.iconst 0, 139, 0, 0))]
def am_l121_3 : List (Nat × am_R) := [(139, (.iconst 1, 140, 1, 0)), (140, (.invokevirtual 145, 143, 117, 8)), (143, (.ifCond .le 5, 146, 148, 0)), (146, (.iconst 0, 147, 0, 0)), (147, (.ireturn, 148, 0, 0)), (148, (.aload_n 0, 149, 0, 0)), (149, (.getfield 94, 152, 8, 26)), (152, (.bipush 100, 154, 100, 0)), (154, (.if_icmp .ne 18, 157, 172, 0)), (157, (.iload 7, 159, 7, 0)), (159, (.ifCond .eq 13, 162, 172, 0)), (162, (.aload_n 0, 163, 0, 0)), (163, (.iload 10, 165, 10, 0)), (165, (.iload 11, 167, 11, 0)), (167, (.iload 12, 169, 12, 0)), (169, (.invokevirtual 149, 172, 118, 8)), (172, (.iinc 9 1, 175, 9, 1)), (175, (.goto (-149), 178, 26, 0)), (178, (.aload_n 0, 179, 0, 0)), (179, (.getfield 94, 182, 8, 26)), (182, (.bipush 100, 184, 100, 0)), (184, (.if_icmp .ne 33, 187, 217, 0)), (187, (.aload_n 0, 188, 0, 0)), (188, (.dup, 189, 0, 0))]
def am_l121_4 : List (Nat × am_R) := [(189, (.getfield 86, 192, 8, 24)), (192, (.iload 8, 194, 8, 0)), (194, (.i2f, 195, 0, 0)), (195, (.fconst 1, 196, 0, 0)), (196, (.iload 7, 198, 7, 0)), (198, (.ifCond .eq 11, 201, 209, 0)), (201, (.aload_n 0, 202, 0, 0)), (202, (.getfield 73, 205, 8, 20)), (205, (.i2f, 206, 0, 0)), (206, (.goto 5, 209, 211, 0)), (209, (.ldc 153, 211, 1120403456, 1)), (211, (.fdiv, 212, 0, 0)), (212, (.fmul, 213, 0, 0)), (213, (.fadd, 214, 0, 0)), (214, (.putfield 86, 217, 8, 24)), (217, (.aload_n 0, 218, 0, 0)), (218, (.getfield 47, 221, 8, 12)), (221, (.iconst 0, 222, 0, 0)), (222, (.iload_n 1, 223, 1, 0)), (223, (.iload 4, 225, 4, 0)), (225, (.iadd, 226, 0, 0)), (226, (.iastore, 227, 0, 0)), (227, (.aload_n 0, 228, 0, 0)), (228, (.getfield 47, 231, 8, 12))]
def am_l121_5 : List (Nat × am_R) := [(231, (.iconst 1, 232, 1, 0)), (232, (.iload_n 2, 233, 2, 0)), (233, (.iload 5, 235, 5, 0)), (235, (.iadd, 236, 0, 0)), (236, (.iastore, 237, 0, 0)), (237, (.aload_n 0, 238, 0, 0)), (238, (.getfield 47, 241, 8, 12)), (241, (.iconst 2, 242, 2, 0)), (242, (.iload_n 3, 243, 3, 0)), (243, (.iload 6, 245, 6, 0)), (245, (.iadd, 246, 0, 0)), (246, (.iastore, 247, 0, 0)), (247, (.iconst 1, 248, 1, 0)), (248, (.ireturn, 249, 0, 0))]
def am_t121 : Nat → am_R := fun pc => am_lc [(47, am_l121_0), (90, am_l121_1), (139, am_l121_2), (189, am_l121_3), (229, am_l121_4), (249, am_l121_5)] pc
def am_l122_0 : List (Nat × am_R) := [(0, (.iload_n 2, 1, 2, 0)), (1, (.istore_n 3, 2, 3, 0)), (2, (.iload_n 3, 3, 3, 0)), (3, (.iload_n 1, 4, 1, 0)), (4, (.if_icmp .ge 42, 7, 46, 0)), (7, (.aload_n 0, 8, 0, 0)), (8, (.aload_n 0, 9, 0, 0)), (9, (.getfield 44, 12, 8, 11)), (12, (.iconst 0, 13, 0, 0)), (13, (.iaload, 14, 0, 0)), (14, (.aload_n 0, 15, 0, 0)), (15, (.getfield 44, 18, 8, 11)), (18, (.iconst 1, 19, 1, 0)), (19, (.iaload, 20, 0, 0)), (20, (.aload_n 0, 21, 0, 0)), (21, (.getfield 44, 24, 8, 11)), (24, (.iconst 2, 25, 2, 0)), (25, (.iaload, 26, 0, 0)), (26, (.iconst 0, 27, 0, 0)), (27, (.iconst 0, 28, 0, 0)), (28, (.iload_n 3, 29, 3, 0)), (29, (.ineg, 30, 0, 0)), (30, (.iconst 1, 31, 1, 0)), (31, (.invokevirtual 154, 34, 121, 8))]
def am_l122_1 : List (Nat × am_R) := [(34, (.ifCond .ne 5, 37, 39, 0)), (37, (.iconst 0, 38, 0, 0)), (38, (.ireturn, 39, 0, 0)), (39, (.iload_n 3, 40, 3, 0)), (40, (.iload_n 2, 41, 2, 0)), (41, (.iadd, 42, 0, 0)), (42, (.istore_n 3, 43, 3, 0)), (43, (.goto (-41), 46, 2, 0)), (46, (.aload_n 0, 47, 0, 0)), (47, (.aload_n 0, 48, 0, 0)), (48, (.getfield 44, 51, 8, 11)), (51, (.iconst 0, 52, 0, 0)), (52, (.iaload, 53, 0, 0)), (53, (.aload_n 0, 54, 0, 0)), (54, (.getfield 44, 57, 8, 11)), (57, (.iconst 1, 58, 1, 0)), (58, (.iaload, 59, 0, 0)), (59, (.aload_n 0, 60, 0, 0)), (60, (.getfield 44, 63, 8, 11)), (63, (.iconst 2, 64, 2, 0)), (64, (.iaload, 65, 0, 0)), (65, (.iconst 0, 66, 0, 0)), (66, (.iconst 0, 67, 0, 0)), (67, (.iload_n 1, 68, 1, 0))]
def am_l122_2 : List (Nat × am_R) := [(68, (.ineg, 69, 0, 0)), (69, (.iconst 1, 70, 1, 0)), (70, (.invokevirtual 154, 73, 121, 8)), (73, (.ifCond .ne 5, 76, 78, 0)), (76, (.iconst 0, 77, 0, 0)), (77, (.ireturn, 78, 0, 0)), (78, (.aload_n 0, 79, 0, 0)), (79, (.getfield 47, 82, 8, 12)), (82, (.iconst 2, 83, 2, 0)), (83, (.aload_n 0, 84, 0, 0)), (84, (.getfield 44, 87, 8, 11)), (87, (.iconst 2, 88, 2, 0)), (88, (.iaload, 89, 0, 0)), (89, (.iastore, 90, 0, 0)), (90, (.iconst 1, 91, 1, 0)), (91, (.ireturn, 92, 0, 0))]
def am_t122 : Nat → am_R := fun pc => am_lc [(32, am_l122_0), (68, am_l122_1), (92, am_l122_2)] pc
def am_l123_0 : List (Nat × am_R) := [(0, (.aload_n 0, 1, 0, 0)), (1, (.aload_n 0, 2, 0, 0)), (2, (.getfield 44, 5, 8, 11)), (5, (.iconst 0, 6, 0, 0)), (6, (.iaload, 7, 0, 0)), (7, (.aload_n 0, 8, 0, 0)), (8, (.getfield 44, 11, 8, 11)), (11, (.iconst 1, 12, 1, 0)), (12, (.iaload, 13, 0, 0)), (13, (.aload_n 0, 14, 0, 0)), (14, (.getfield 44, 17, 8, 11)), (17, (.iconst 2, 18, 2, 0)), (18, (.iaload, 19, 0, 0)), (19, (.iconst 0, 20, 0, 0)), (20, (.iconst 0, 21, 0, 0)), (21, (.iload_n 3, 22, 3, 0)), (22, (.ineg, 23, 0, 0)), (23, (.iconst 1, 24, 1, 0)), (24, (.invokevirtual 154, 27, 121, 8)), (27, (.ifCond .ne 5, 30, 32, 0)), (30, (.iconst 0, 31, 0, 0)), (31, (.ireturn, 32, 0, 0)), (32, (.aload_n 0, 33, 0, 0)), (33, (.getfield 47, 36, 8, 12))]
def am_l123_1 : List (Nat × am_R) := [(36, (.iconst 2, 37, 2, 0)), (37, (.iaload, 38, 0, 0)), (38, (.istore 4, 40, 4, 0)), (40, (.aload_n 0, 41, 0, 0)), (41, (.aload_n 0, 42, 0, 0)), (42, (.getfield 47, 45, 8, 12)), (45, (.iconst 0, 46, 0, 0)), (46, (.iaload, 47, 0, 0)), (47, (.aload_n 0, 48, 0, 0)), (48, (.getfield 47, 51, 8, 12)), (51, (.iconst 1, 52, 1, 0)), (52, (.iaload, 53, 0, 0)), (53, (.iload 4, 55, 4, 0)), (55, (.iload_n 1, 56, 1, 0)), (56, (.iconst 0, 57, 0, 0)), (57, (.iconst 0, 58, 0, 0)), (58, (.iconst 1, 59, 1, 0)), (59, (.invokevirtual 154, 62, 121, 8)), (62, (.ifCond .ne 5, 65, 67, 0)), (65, (.iconst 0, 66, 0, 0)), (66, (.ireturn, 67, 0, 0)), (67, (.iconst 0, 68, 0, 0)), (68, (.istore 5, 70, 5, 0)), (70, (.iload 5, 72, 5, 0))]
def am_l123_2 : List (Nat × am_R) := [(72, (.iload_n 2, 73, 2, 0)), (73, (.if_icmp .ge 75, 76, 148, 0)), (76, (.aload_n 0, 77, 0, 0)), (77, (.aload_n 0, 78, 0, 0)), (78, (.getfield 47, 81, 8, 12)), (81, (.iconst 0, 82, 0, 0)), (82, (.iaload, 83, 0, 0)), (83, (.aload_n 0, 84, 0, 0)), (84, (.getfield 47, 87, 8, 12)), (87, (.iconst 1, 88, 1, 0)), (88, (.iaload, 89, 0, 0)), (89, (.iload 4, 91, 4, 0)), (91, (.iconst 0, 92, 0, 0)), (92, (.iconst 1, 93, 1, 0)), (93, (.iconst 0, 94, 0, 0)), (94, (.iconst 1, 95, 1, 0)), (95, (.invokevirtual 154, 98, 121, 8)), (98, (.ifCond .ne 5, 101, 103, 0)), (101, (.iconst 0, 102, 0, 0)), (102, (.ireturn, 103, 0, 0)), (103, (.aload_n 0, 104, 0, 0)), (104, (.aload_n 0, 105, 0, 0)), (105, (.getfield 47, 108, 8, 12)), (108, (.iconst 0, 109, 0, 0))]
def am_l123_3 : List (Nat × am_R) := [(109, (.iaload, 110, 0, 0)), (110, (.aload_n 0, 111, 0, 0)), (111, (.getfield 47, 114, 8, 12)), (114, (.iconst 1, 115, 1, 0)), (115, (.iaload, 116, 0, 0)), (116, (.iload 4, 118, 4, 0)), (118, (.iload 5, 120, 5, 0)), (120, (.iconst 2, 121, 2, 0)), (121, (.irem, 122, 0, 0)), (122, (.ifCond .ne 8, 125, 130, 0)), (125, (.iload_n 1, 126, 1, 0)), (126, (.ineg, 127, 0, 0)), (127, (.goto 4, 130, 131, 0)), (130, (.iload_n 1, 131, 1, 0)), (131, (.iconst 0, 132, 0, 0)), (132, (.iconst 0, 133, 0, 0)), (133, (.iconst 1, 134, 1, 0)), (134, (.invokevirtual 154, 137, 121, 8)), (137, (.ifCond .ne 5, 140, 142, 0)), (140, (.iconst 0, 141, 0, 0)), (141, (.ireturn, 142, 0, 0)), (142, (.iinc 5 1, 145, 5, 1)), (145, (.goto (-75), 148, 70, 0)), (148, (.aload_n 0, 149, 0, 0))]
def am_l123_4 : List (Nat × am_R) := [(149, (.getfield 47, 152, 8, 12)), (152, (.iconst 2, 153, 2, 0)), (153, (.aload_n 0, 154, 0, 0)), (154, (.getfield 44, 157, 8, 11)), (157, (.iconst 2, 158, 2, 0)), (158, (.iaload, 159, 0, 0)), (159, (.iastore, 160, 0, 0)), (160, (.iconst 1, 161, 1, 0)), (161, (.ireturn, 162, 0, 0))]
def am_t123 : Nat → am_R := fun pc => am_lc [(34, am_l123_0), (71, am_l123_1), (109, am_l123_2), (149, am_l123_3), (162, am_l123_4)] pc
def am_l124_0 : List (Nat × am_R) := [(0, (.iload_n 1, 1, 1, 0)), (1, (.bipush 100, 3, 100, 0)), (3, (.if_icmp .ne 10, 6, 13, 0)), (6, (.aload_n 0, 7, 0, 0)), (7, (.iload_n 2, 8, 2, 0)), (8, (.iload_n 3, 9, 3, 0)), (9, (.invokevirtual 158, 12, 122, 8)), (12, (.ireturn, 13, 0, 0)), (13, (.iload_n 1, 14, 1, 0)), (14, (.bipush 112, 16, 112, 0)), (16, (.if_icmp .ne 12, 19, 28, 0)), (19, (.aload_n 0, 20, 0, 0)), (20, (.iload_n 2, 21, 2, 0)), (21, (.iload_n 3, 22, 3, 0)), (22, (.iload 4, 24, 4, 0)), (24, (.invokevirtual 161, 27, 123, 8)), (27, (.ireturn, 28, 0, 0)), (28, (.aload_n 0, 29, 0, 0)), (29, (.getfield 79, 32, 8, 22)), (32, (.ifCond .eq 7, 35, 39, 0)), (35, (.iload_n 2, 36, 2, 0)), (36, (.goto 23, 39, 59, 0)), (39, (.iload_n 2, 40, 2, 0)), (40, (.aload_n 0, 41, 0, 0))]
def am_l124_1 : List (Nat × am_R) := [(41, (.getfield 41, 44, 8, 10)), (44, (.iconst 3, 45, 3, 0)), (45, (.aload_n 0, 46, 0, 0)), (46, (.getfield 76, 49, 8, 21)), (49, (.imul, 50, 0, 0)), (50, (.iaload, 51, 0, 0)), (51, (.iadd, 52, 0, 0)), (52, (.aload_n 0, 53, 0, 0)), (53, (.getfield 44, 56, 8, 11)), (56, (.iconst 0, 57, 0, 0)), (57, (.iaload, 58, 0, 0)), (58, (.isub, 59, 0, 0)), (59, (.istore 5, 61, 5, 0)), (61, (.aload_n 0, 62, 0, 0)), (62, (.getfield 79, 65, 8, 22)), (65, (.ifCond .eq 7, 68, 72, 0)), (68, (.iload_n 3, 69, 3, 0)), (69, (.goto 25, 72, 94, 0)), (72, (.iload_n 3, 73, 3, 0)), (73, (.aload_n 0, 74, 0, 0)), (74, (.getfield 41, 77, 8, 10)), (77, (.iconst 3, 78, 3, 0)), (78, (.aload_n 0, 79, 0, 0)), (79, (.getfield 76, 82, 8, 21))]
def am_l124_2 : List (Nat × am_R) := [(82, (.imul, 83, 0, 0)), (83, (.iconst 1, 84, 1, 0)), (84, (.iadd, 85, 0, 0)), (85, (.iaload, 86, 0, 0)), (86, (.iadd, 87, 0, 0)), (87, (.aload_n 0, 88, 0, 0)), (88, (.getfield 44, 91, 8, 11)), (91, (.iconst 1, 92, 1, 0)), (92, (.iaload, 93, 0, 0)), (93, (.isub, 94, 0, 0)), (94, (.istore 6, 96, 6, 0)), (96, (.aload_n 0, 97, 0, 0)), (97, (.getfield 79, 100, 8, 22)), (100, (.ifCond .eq 8, 103, 108, 0)), (103, (.iload 4, 105, 4, 0)), (105, (.goto 26, 108, 131, 0)), (108, (.iload 4, 110, 4, 0)), (110, (.aload_n 0, 111, 0, 0)), (111, (.getfield 41, 114, 8, 10)), (114, (.iconst 3, 115, 3, 0)), (115, (.aload_n 0, 116, 0, 0)), (116, (.getfield 76, 119, 8, 21)), (119, (.imul, 120, 0, 0)), (120, (.iconst 2, 121, 2, 0))]
def am_l124_3 : List (Nat × am_R) := [(121, (.iadd, 122, 0, 0)), (122, (.iaload, 123, 0, 0)), (123, (.iadd, 124, 0, 0)), (124, (.aload_n 0, 125, 0, 0)), (125, (.getfield 44, 128, 8, 11)), (128, (.iconst 2, 129, 2, 0)), (129, (.iaload, 130, 0, 0)), (130, (.isub, 131, 0, 0)), (131, (.istore 7, 133, 7, 0)), (133, (.aload_n 0, 134, 0, 0)), (134, (.aload_n 0, 135, 0, 0)), (135, (.getfield 44, 138, 8, 11)), (138, (.iconst 0, 139, 0, 0)), (139, (.iaload, 140, 0, 0)), (140, (.aload_n 0, 141, 0, 0)), (141, (.getfield 44, 144, 8, 11)), (144, (.iconst 1, 145, 1, 0)), (145, (.iaload, 146, 0, 0)), (146, (.aload_n 0, 147, 0, 0)), (147, (.getfield 44, 150, 8, 11)), (150, (.iconst 2, 151, 2, 0)), (151, (.iaload, 152, 0, 0)), (152, (.iload 5, 154, 5, 0)), (154, (.iload 6, 156, 6, 0))]
def am_l124_4 : List (Nat × am_R) := [(156, (.iload 7, 158, 7, 0)), (158, (.iload_n 1, 159, 1, 0)), (159, (.bipush 108, 161, 108, 0)), (161, (.if_icmp .ne 7, 164, 168, 0)), (164, (.iconst 1, 165, 1, 0)), (165, (.goto 4, 168, 169, 0)), (168, (.iconst 0, 169, 0, 0)), (169, (.invokevirtual 154, 172, 121, 8)), (172, (.ireturn, 173, 0, 0))]
def am_t124 : Nat → am_R := fun pc => am_lc [(41, am_l124_0), (80, am_l124_1), (121, am_l124_2), (155, am_l124_3), (173, am_l124_4)] pc
def am_l125_0 : List (Nat × am_R) := [(0, (.aload_n 0, 1, 0, 0)), (1, (.getfield 23, 4, 8, 4)), (4, (.iload_n 1, 5, 1, 0)), (5, (.iaload, 6, 0, 0)), (6, (.aload_n 0, 7, 0, 0)), (7, (.getfield 20, 10, 8, 3)), (10, (.iload_n 1, 11, 1, 0)), (11, (.iaload, 12, 0, 0)), (12, (.if_icmp .lt 7, 15, 19, 0)), (15, (.iconst 1, 16, 1, 0)), (16, (.goto 4, 19, 20, 0)), (19, (.iconst 0, 20, 0, 0)), (20, (.ireturn, 21, 0, 0))]
def am_t125 : Nat → am_R := fun pc => am_lc [(21, am_l125_0)] pc
def am_l126_0 : List (Nat × am_R) := [(0, (.iload_n 1, 1, 1, 0)), (1, (.bipush 100, 3, 100, 0)), (3, (.if_icmp .ne 12, 6, 15, 0)), (6, (.iload_n 2, 7, 2, 0)), (7, (.ifCond .lt 27, 10, 34, 0)), (10, (.iload_n 3, 11, 3, 0)), (11, (.iconst 1, 12, 1, 0)), (12, (.if_icmp .lt 22, 15, 34, 0)), (15, (.iload_n 1, 16, 1, 0)), (16, (.bipush 112, 18, 112, 0)), (18, (.if_icmp .ne 19, 21, 37, 0)), (21, (.iload_n 2, 22, 2, 0)), (22, (.ifCond .lt 12, 25, 34, 0)), (25, (.iload_n 3, 26, 3, 0)), (26, (.ifCond .lt 8, 29, 34, 0)), (29, (.iload 4, 31, 4, 0)), (31, (.ifCond .ge 6, 34, 37, 0)), (34, (.bipush 110, 36, 110, 0)), (36, (.ireturn, 37, 0, 0)), (37, (.iload_n 1, 38, 1, 0)), (38, (.bipush 103, 40, 103, 0)), (40, (.if_icmp .eq 24, 43, 64, 0)), (43, (.aload_n 0, 44, 0, 0)), (44, (.getfield 70, 47, 8, 19))]
def am_l126_1 : List (Nat × am_R) := [(47, (.ifCond .lt 17, 50, 64, 0)), (50, (.aload_n 0, 51, 0, 0)), (51, (.aload_n 0, 52, 0, 0)), (52, (.getfield 70, 55, 8, 19)), (55, (.invokevirtual 164, 58, 125, 8)), (58, (.ifCond .eq 6, 61, 64, 0)), (61, (.bipush 119, 63, 119, 0)), (63, (.ireturn, 64, 0, 0)), (64, (.iload_n 1, 65, 1, 0)), (65, (.bipush 103, 67, 103, 0)), (67, (.if_icmp .eq 20, 70, 87, 0)), (70, (.aload_n 0, 71, 0, 0)), (71, (.getfield 70, 74, 8, 19)), (74, (.ifCond .lt 10, 77, 84, 0)), (77, (.aload_n 0, 78, 0, 0)), (78, (.getfield 83, 81, 8, 23)), (81, (.ifCond .ne 6, 84, 87, 0)), (84, (.bipush 115, 86, 115, 0)), (86, (.ireturn, 87, 0, 0)), (87, (.aload_n 0, 88, 0, 0)), (88, (.bipush 108, 90, 108, 0)), (90, (.putfield 94, 93, 8, 26)), (93, (.aload_n 0, 94, 0, 0)), (94, (.iload_n 1, 95, 1, 0))]
def am_l126_2 : List (Nat × am_R) := [(95, (.iload_n 2, 96, 2, 0)), (96, (.iload_n 3, 97, 3, 0)), (97, (.iload 4, 99, 4, 0)), (99, (.invokevirtual 167, 102, 124, 8)), (102, (.ifCond .ne 6, 105, 108, 0)), (105, (.bipush 108, 107, 108, 0)), (107, (.ireturn, 108, 0, 0)), (108, (.aload_n 0, 109, 0, 0)), (109, (.bipush 99, 111, 99, 0)), (111, (.putfield 94, 114, 8, 26)), (114, (.aload_n 0, 115, 0, 0)), (115, (.iload_n 1, 116, 1, 0)), (116, (.iload_n 2, 117, 2, 0)), (117, (.iload_n 3, 118, 3, 0)), (118, (.iload 4, 120, 4, 0)), (120, (.invokevirtual 167, 123, 124, 8)), (123, (.ifCond .ne 6, 126, 129, 0)), (126, (.bipush 99, 128, 99, 0)), (128, (.ireturn, 129, 0, 0)), (129, (.aload_n 0, 130, 0, 0)), (130, (.bipush 100, 132, 100, 0)), (132, (.putfield 94, 135, 8, 26)), (135, (.aload_n 0, 136, 0, 0)), (136, (.iload_n 1, 137, 1, 0))]
def am_l126_3 : List (Nat × am_R) := [(137, (.iload_n 2, 138, 2, 0)), (138, (.iload_n 3, 139, 3, 0)), (139, (.iload 4, 141, 4, 0)), (141, (.invokevirtual 167, 144, 124, 8)), (144, (.ifCond .eq 32, 147, 176, 0)), (147, (.iconst 0, 148, 0, 0)), (148, (.istore 5, 150, 5, 0)), (150, (.iload 5, 152, 5, 0)), (152, (.iconst 3, 153, 3, 0)), (153, (.if_icmp .ge 23, 156, 176, 0)), (156, (.aload_n 0, 157, 0, 0)), (157, (.getfield 44, 160, 8, 11)), (160, (.iload 5, 162, 5, 0)), (162, (.aload_n 0, 163, 0, 0)), (163, (.getfield 47, 166, 8, 12)), (166, (.iload 5, 168, 5, 0)), (168, (.iaload, 169, 0, 0)), (169, (.iastore, 170, 0, 0)), (170, (.iinc 5 1, 173, 5, 1)), (173, (.goto (-23), 176, 150, 0)), (176, (.bipush 45, 178, 45, 0)), (178, (.ireturn, 179, 0, 0))]
def am_t126 : Nat → am_R := fun pc => am_lc [(45, am_l126_0), (95, am_l126_1), (137, am_l126_2), (179, am_l126_3)] pc
def am_l127_0 : List (Nat × am_R) := [(0, (.iload_n 1, 1, 1, 0)), (1, (.iload_n 2, 2, 2, 0)), (2, (.invokestatic 104, 5, 101, 0)), (5, (.ifCond .eq 18, 8, 23, 0)), (8, (.aload_n 0, 9, 0, 0)), (9, (.getfield 7, 12, 8, 0)), (12, (.iconst 4, 13, 4, 0)), (13, (.iload_n 1, 14, 1, 0)), (14, (.imul, 15, 0, 0)), (15, (.iload_n 2, 16, 2, 0)), (16, (.iadd, 17, 0, 0)), (17, (.caload, 18, 0, 0)), (18, (.bipush 45, 20, 45, 0)), (20, (.if_icmp .ne 6, 23, 26, 0)), (23, (.bipush 110, 25, 110, 0)), (25, (.ireturn, 26, 0, 0)), (26, (.aload_n 0, 27, 0, 0)), (27, (.getfield 83, 30, 8, 23)), (30, (.ifCond .eq 6, 33, 36, 0)), (33, (.bipush 116, 35, 116, 0)), (35, (.ireturn, 36, 0, 0)), (36, (.iconst 4, 37, 4, 0)), (37, (.iload_n 1, 38, 1, 0)), (38, (.imul, 39, 0, 0))]
def am_l127_1 : List (Nat × am_R) := [(39, (.iload_n 2, 40, 2, 0)), (40, (.iadd, 41, 0, 0)), (41, (.istore_n 3, 42, 3, 0)), (42, (.iload_n 3, 43, 3, 0)), (43, (.istore 4, 45, 4, 0)), (45, (.iload 4, 47, 4, 0)), (47, (.iconst 4, 48, 4, 0)), (48, (.iload_n 1, 49, 1, 0)), (49, (.imul, 50, 0, 0)), (50, (.iconst 4, 51, 4, 0)), (51, (.iadd, 52, 0, 0)), (52, (.if_icmp .ge 50, 55, 102, 0)), (55, (.aload_n 0, 56, 0, 0)), (56, (.getfield 7, 59, 8, 0)), (59, (.iload 4, 61, 4, 0)), (61, (.caload, 62, 0, 0)), (62, (.aload_n 0, 63, 0, 0)), (63, (.getfield 7, 66, 8, 0)), (66, (.iload_n 3, 67, 3, 0)), (67, (.caload, 68, 0, 0)), (68, (.if_icmp .ne 28, 71, 96, 0)), (71, (.aload_n 0, 72, 0, 0)), (72, (.getfield 16, 75, 8, 2)), (75, (.iload 4, 77, 4, 0))]
def am_l127_2 : List (Nat × am_R) := [(77, (.iaload, 78, 0, 0)), (78, (.aload_n 0, 79, 0, 0)), (79, (.getfield 16, 82, 8, 2)), (82, (.iload_n 3, 83, 3, 0)), (83, (.iaload, 84, 0, 0)), (84, (.if_icmp .ne 12, 87, 96, 0)), (87, (.aload_n 0, 88, 0, 0)), (88, (.iload 4, 90, 4, 0)), (90, (.invokevirtual 164, 93, 125, 8)), (93, (.ifCond .eq 9, 96, 102, 0)), (96, (.iinc 4 1, 99, 4, 1)), (99, (.goto (-54), 102, 45, 0)), (102, (.iload 4, 104, 4, 0)), (104, (.iconst 4, 105, 4, 0)), (105, (.iload_n 1, 106, 1, 0)), (106, (.imul, 107, 0, 0)), (107, (.iconst 4, 108, 4, 0)), (108, (.iadd, 109, 0, 0)), (109, (.if_icmp .ne 6, 112, 115, 0)), (112, (.bipush 119, 114, 119, 0)), (114, (.ireturn, 115, 0, 0)), (115, (.aload_n 0, 116, 0, 0)), (116, (.iload 4, 118, 4, 0)), (118, (.putfield 70, 121, 8, 19))]
def am_l127_3 : List (Nat × am_R) := [(121, (.bipush 45, 123, 45, 0)), (123, (.ireturn, 124, 0, 0))]
def am_t127 : Nat → am_R := fun pc => am_lc [(39, am_l127_0), (76, am_l127_1), (119, am_l127_2), (124, am_l127_3)] pc
def am_l128_0 : List (Nat × am_R) := [(0, (.iload_n 1, 1, 1, 0)), (1, (.iconst 0, 2, 0, 0)), (2, (.bipush 7, 4, 7, 0)), (4, (.invokestatic 100, 7, 97, 0)), (7, (.ifCond .ne 6, 10, 13, 0)), (10, (.bipush 110, 12, 110, 0)), (12, (.ireturn, 13, 0, 0)), (13, (.aload_n 0, 14, 0, 0)), (14, (.getfield 70, 17, 8, 19)), (17, (.ifCond .ge 6, 20, 23, 0)), (20, (.bipush 115, 22, 115, 0)), (22, (.ireturn, 23, 0, 0)), (23, (.aload_n 0, 24, 0, 0)), (24, (.getfield 44, 27, 8, 11)), (27, (.iconst 2, 28, 2, 0)), (28, (.iaload, 29, 0, 0)), (29, (.istore_n 2, 30, 2, 0)), (30, (.aload_n 0, 31, 0, 0)), (31, (.aload_n 0, 32, 0, 0)), (32, (.getfield 44, 35, 8, 11)), (35, (.iconst 0, 36, 0, 0)), (36, (.iaload, 37, 0, 0)), (37, (.aload_n 0, 38, 0, 0)), (38, (.getfield 44, 41, 8, 11))]
def am_l128_1 : List (Nat × am_R) := [(41, (.iconst 1, 42, 1, 0)), (42, (.iaload, 43, 0, 0)), (43, (.iload_n 2, 44, 2, 0)), (44, (.iconst 1, 45, 1, 0)), (45, (.iconst 0, 46, 0, 0)), (46, (.invokevirtual 145, 49, 117, 8)), (49, (.ifCond .le 6, 52, 55, 0)), (52, (.bipush 120, 54, 120, 0)), (54, (.ireturn, 55, 0, 0)), (55, (.iload_n 2, 56, 2, 0)), (56, (.ifCond .le 33, 59, 89, 0)), (59, (.aload_n 0, 60, 0, 0)), (60, (.aload_n 0, 61, 0, 0)), (61, (.getfield 44, 64, 8, 11)), (64, (.iconst 0, 65, 0, 0)), (65, (.iaload, 66, 0, 0)), (66, (.aload_n 0, 67, 0, 0)), (67, (.getfield 44, 70, 8, 11)), (70, (.iconst 1, 71, 1, 0)), (71, (.iaload, 72, 0, 0)), (72, (.iload_n 2, 73, 2, 0)), (73, (.iconst 1, 74, 1, 0)), (74, (.isub, 75, 0, 0)), (75, (.iconst 1, 76, 1, 0))]
def am_l128_2 : List (Nat × am_R) := [(76, (.iconst 0, 77, 0, 0)), (77, (.invokevirtual 145, 80, 117, 8)), (80, (.ifCond .ne 9, 83, 89, 0)), (83, (.iinc 2 (-1), 86, 2, 4294967295)), (86, (.goto (-31), 89, 55, 0)), (89, (.aload_n 0, 90, 0, 0)), (90, (.getfield 38, 93, 8, 9)), (93, (.iload_n 1, 94, 1, 0)), (94, (.iload_n 2, 95, 2, 0)), (95, (.iastore, 96, 0, 0)), (96, (.bipush 45, 98, 45, 0)), (98, (.ireturn, 99, 0, 0))]
def am_t128 : Nat → am_R := fun pc => am_lc [(39, am_l128_0), (76, am_l128_1), (99, am_l128_2)] pc
def am_l129_0 : List (Nat × am_R) := [(0, (.iload_n 1, 1, 1, 0)), (1, (.bipush 102, 3, 102, 0)), (3, (.if_icmp .ne 8, 6, 11, 0)), (6, (.bipush 50, 8, 50, 0)), (8, (.goto 25, 11, 33, 0)), (11, (.iload_n 1, 12, 1, 0)), (12, (.bipush 111, 14, 111, 0)), (14, (.if_icmp .ne 7, 17, 21, 0)), (17, (.iconst 3, 18, 3, 0)), (18, (.goto 15, 21, 33, 0)), (21, (.iload_n 1, 22, 1, 0)), (22, (.bipush 118, 24, 118, 0)), (24, (.if_icmp .ne 8, 27, 32, 0)), (27, (.bipush 7, 29, 7, 0)), (29, (.goto 4, 32, 33, 0)), (32, (.iconst 1, 33, 1, 0)), (33, (.istore 5, 35, 5, 0)), (35, (.iload_n 2, 36, 2, 0)), (36, (.iload_n 1, 37, 1, 0)), (37, (.bipush 102, 39, 102, 0)), (39, (.if_icmp .ne 7, 42, 46, 0)), (42, (.iconst 1, 43, 1, 0)), (43, (.goto 4, 46, 47, 0)), (46, (.iconst 0, 47, 0, 0))]
def am_l129_1 : List (Nat × am_R) := [(47, (.iload 5, 49, 5, 0)), (49, (.invokestatic 100, 52, 97, 0)), (52, (.ifCond .ne 6, 55, 58, 0)), (55, (.bipush 110, 57, 110, 0)), (57, (.ireturn, 58, 0, 0)), (58, (.iload_n 1, 59, 1, 0)), (59, (.bipush 115, 61, 115, 0)), (61, (.if_icmp .ne 17, 64, 78, 0)), (64, (.aload_n 0, 65, 0, 0)), (65, (.iload_n 2, 66, 2, 0)), (66, (.iconst 1, 67, 1, 0)), (67, (.if_icmp .ne 7, 70, 74, 0)), (70, (.iconst 1, 71, 1, 0)), (71, (.goto 4, 74, 75, 0)), (74, (.iconst 0, 75, 0, 0)), (75, (.putfield 83, 78, 8, 23)), (78, (.iload_n 1, 79, 1, 0)), (79, (.bipush 102, 81, 102, 0)), (81, (.if_icmp .ne 8, 84, 89, 0)), (84, (.aload_n 0, 85, 0, 0)), (85, (.iload_n 2, 86, 2, 0)), (86, (.putfield 73, 89, 8, 20)), (89, (.iload_n 1, 90, 1, 0)), (90, (.bipush 109, 92, 109, 0))]
def am_l129_2 : List (Nat × am_R) := [(92, (.if_icmp .ne 17, 95, 109, 0)), (95, (.aload_n 0, 96, 0, 0)), (96, (.iload_n 2, 97, 2, 0)), (97, (.iconst 1, 98, 1, 0)), (98, (.if_icmp .ne 7, 101, 105, 0)), (101, (.iconst 1, 102, 1, 0)), (102, (.goto 4, 105, 106, 0)), (105, (.iconst 0, 106, 0, 0)), (106, (.putfield 79, 109, 8, 22)), (109, (.iload_n 1, 110, 1, 0)), (110, (.bipush 111, 112, 111, 0)), (112, (.if_icmp .ne 8, 115, 120, 0)), (115, (.aload_n 0, 116, 0, 0)), (116, (.iload_n 2, 117, 2, 0)), (117, (.putfield 76, 120, 8, 21)), (120, (.iload_n 1, 121, 1, 0)), (121, (.bipush 118, 123, 118, 0)), (123, (.if_icmp .ne 32, 126, 155, 0)), (126, (.aload_n 0, 127, 0, 0)), (127, (.getfield 38, 130, 8, 9)), (130, (.iload_n 2, 131, 2, 0)), (131, (.bipush (-50), 133, 4294967246, 0)), (133, (.iload_n 3, 134, 3, 0)), (134, (.iload 4, 136, 4, 0))]
def am_l129_3 : List (Nat × am_R) := [(136, (.iadd, 137, 0, 0)), (137, (.bipush 50, 139, 50, 0)), (139, (.if_icmp .ge 10, 142, 149, 0)), (142, (.iload_n 3, 143, 3, 0)), (143, (.iload 4, 145, 4, 0)), (145, (.iadd, 146, 0, 0)), (146, (.goto 5, 149, 151, 0)), (149, (.bipush 50, 151, 50, 0)), (151, (.invokestatic 141, 154, 120, 0)), (154, (.iastore, 155, 0, 0)), (155, (.bipush 45, 157, 45, 0)), (157, (.ireturn, 158, 0, 0))]
def am_t129 : Nat → am_R := fun pc => am_lc [(47, am_l129_0), (91, am_l129_1), (135, am_l129_2), (158, am_l129_3)] pc
def am_l130_0 : List (Nat × am_R) := [(0, (.iload_n 1, 1, 1, 0)), (1, (.bipush 114, 3, 114, 0)), (3, (.if_icmp .ne 16, 6, 19, 0)), (6, (.iload_n 2, 7, 2, 0)), (7, (.iconst 0, 8, 0, 0)), (8, (.bipush 9, 10, 9, 0)), (10, (.invokestatic 100, 13, 97, 0)), (13, (.ifCond .ne 6, 16, 19, 0)), (16, (.bipush 110, 18, 110, 0)), (18, (.ireturn, 19, 0, 0)), (19, (.iload_n 1, 20, 1, 0)), (20, (.bipush 114, 22, 114, 0)), (22, (.if_icmp .ne 15, 25, 37, 0)), (25, (.iload_n 2, 26, 2, 0)), (26, (.ifCond .le 7, 29, 33, 0)), (29, (.iconst 1, 30, 1, 0)), (30, (.goto 17, 33, 47, 0)), (33, (.iconst 0, 34, 0, 0)), (34, (.goto 13, 37, 47, 0)), (37, (.iload_n 2, 38, 2, 0)), (38, (.iload_n 3, 39, 3, 0)), (39, (.if_icmp .le 7, 42, 46, 0)), (42, (.iconst 1, 43, 1, 0)), (43, (.goto 4, 46, 47, 0))]
def am_l130_1 : List (Nat × am_R) := [(46, (.iconst 0, 47, 0, 0)), (47, (.istore 4, 49, 4, 0)), (49, (.aload_n 0, 50, 0, 0)), (50, (.getfield 35, 53, 8, 8)), (53, (.aload_n 0, 54, 0, 0)), (54, (.getfield 64, 57, 8, 17)), (57, (.iload_n 2, 58, 2, 0)), (58, (.iastore, 59, 0, 0)), (59, (.aload_n 0, 60, 0, 0)), (60, (.iload 4, 62, 4, 0)), (62, (.ifCond .eq 10, 65, 72, 0)), (65, (.aload_n 0, 66, 0, 0)), (66, (.getfield 64, 69, 8, 17)), (69, (.goto 11, 72, 80, 0)), (72, (.aload_n 0, 73, 0, 0)), (73, (.aload_n 0, 74, 0, 0)), (74, (.getfield 64, 77, 8, 17)), (77, (.invokevirtual 171, 80, 114, 8)), (80, (.putfield 64, 83, 8, 17)), (83, (.bipush 45, 85, 45, 0)), (85, (.ireturn, 86, 0, 0))]
def am_t130 : Nat → am_R := fun pc => am_lc [(44, am_l130_0), (86, am_l130_1)] pc
def am_l131_0 : List (Nat × am_R) := [(0, (.aload_n 0, 1, 0, 0)), (1, (.aload_n 0, 2, 0, 0)), (2, (.getfield 64, 5, 8, 17)), (5, (.invokevirtual 174, 8, 115, 8)), (8, (.istore_n 1, 9, 1, 0)), (9, (.aload_n 0, 10, 0, 0)), (10, (.getfield 13, 13, 8, 1)), (13, (.iload_n 1, 14, 1, 0)), (14, (.caload, 15, 0, 0)), (15, (.bipush 105, 17, 105, 0)), (17, (.if_icmp .ne 4, 20, 21, 0)), (20, (.return_, 21, 0, 0)), (21, (.aload_n 0, 22, 0, 0)), (22, (.getfield 35, 25, 8, 8)), (25, (.iload_n 1, 26, 1, 0)), (26, (.dup2, 27, 0, 0)), (27, (.iaload, 28, 0, 0)), (28, (.iconst 1, 29, 1, 0)), (29, (.isub, 30, 0, 0)), (30, (.iastore, 31, 0, 0)), (31, (.aload_n 0, 32, 0, 0)), (32, (.getfield 35, 35, 8, 8)), (35, (.iload_n 1, 36, 1, 0)), (36, (.iaload, 37, 0, 0))]
def am_l131_1 : List (Nat × am_R) := [(37, (.ifCond .le 8, 40, 45, 0)), (40, (.aload_n 0, 41, 0, 0)), (41, (.iload_n 1, 42, 1, 0)), (42, (.putfield 64, 45, 8, 17)), (45, (.return_, 46, 0, 0))]
def am_t131 : Nat → am_R := fun pc => am_lc [(37, am_l131_0), (46, am_l131_1)] pc
def am_l132_0 : List (Nat × am_R) := [(0, (.iload_n 1, 1, 1, 0)), (1, (.bipush 100, 3, 100, 0)), (3, (.if_icmp .lt 15, 6, 18, 0)), (6, (.aload_n 0, 7, 0, 0)), (7, (.getfield 38, 10, 8, 9)), (10, (.iload_n 1, 11, 1, 0)), (11, (.bipush 100, 13, 100, 0)), (13, (.isub, 14, 0, 0)), (14, (.iaload, 15, 0, 0)), (15, (.goto 4, 18, 19, 0)), (18, (.iload_n 1, 19, 1, 0)), (19, (.ireturn, 20, 0, 0))]
def am_t132 : Nat → am_R := fun pc => am_lc [(20, am_l132_0)] pc
def am_l133_0 : List (Nat × am_R) := [(0, (.aload_n 0, 1, 0, 0)), (1, (.getfield 13, 4, 8, 1)), (4, (.aload_n 0, 5, 0, 0)), (5, (.getfield 64, 8, 8, 17)), (8, (.caload, 9, 0, 0)), (9, (.istore_n 1, 10, 1, 0)), (10, (.aload_n 0, 11, 0, 0)), (11, (.aload_n 0, 12, 0, 0)), (12, (.getfield 26, 15, 8, 5)), (15, (.aload_n 0, 16, 0, 0)), (16, (.getfield 64, 19, 8, 17)), (19, (.iaload, 20, 0, 0)), (20, (.invokevirtual 177, 23, 132, 8)), (23, (.istore_n 2, 24, 2, 0)), (24, (.aload_n 0, 25, 0, 0)), (25, (.aload_n 0, 26, 0, 0)), (26, (.getfield 29, 29, 8, 6)), (29, (.aload_n 0, 30, 0, 0)), (30, (.getfield 64, 33, 8, 17)), (33, (.iaload, 34, 0, 0)), (34, (.invokevirtual 177, 37, 132, 8)), (37, (.istore_n 3, 38, 3, 0)), (38, (.aload_n 0, 39, 0, 0)), (39, (.aload_n 0, 40, 0, 0))]
def am_l133_1 : List (Nat × am_R) := [(40, (.getfield 32, 43, 8, 7)), (43, (.aload_n 0, 44, 0, 0)), (44, (.getfield 64, 47, 8, 17)), (47, (.iaload, 48, 0, 0)), (48, (.invokevirtual 177, 51, 132, 8)), (51, (.istore 4, 53, 4, 0)), (53, (.iload_n 1, 54, 1, 0)), (54, (.bipush 103, 56, 103, 0)), (56, (.if_icmp .eq 21, 59, 77, 0)), (59, (.iload_n 1, 60, 1, 0)), (60, (.bipush 108, 62, 108, 0)), (62, (.if_icmp .eq 15, 65, 77, 0)), (65, (.iload_n 1, 66, 1, 0)), (66, (.bipush 100, 68, 100, 0)), (68, (.if_icmp .eq 9, 71, 77, 0)), (71, (.iload_n 1, 72, 1, 0)), (72, (.bipush 112, 74, 112, 0)), (74, (.if_icmp .ne 13, 77, 87, 0)), (77, (.aload_n 0, 78, 0, 0)), (78, (.iload_n 1, 79, 1, 0)), (79, (.iload_n 2, 80, 2, 0)), (80, (.iload_n 3, 81, 3, 0)), (81, (.iload 4, 83, 4, 0)), (83, (.invokevirtual 180, 86, 126, 8))]
def am_l133_2 : List (Nat × am_R) := [(86, (.ireturn, 87, 0, 0)), (87, (.iload_n 1, 88, 1, 0)), (88, (.bipush 116, 90, 116, 0)), (90, (.if_icmp .ne 10, 93, 100, 0)), (93, (.aload_n 0, 94, 0, 0)), (94, (.iload_n 2, 95, 2, 0)), (95, (.iload_n 3, 96, 3, 0)), (96, (.invokevirtual 184, 99, 127, 8)), (99, (.ireturn, 100, 0, 0)), (100, (.iload_n 1, 101, 1, 0)), (101, (.bipush 120, 103, 120, 0)), (103, (.if_icmp .ne 9, 106, 112, 0)), (106, (.aload_n 0, 107, 0, 0)), (107, (.iload_n 2, 108, 2, 0)), (108, (.invokevirtual 188, 111, 128, 8)), (111, (.ireturn, 112, 0, 0)), (112, (.iload_n 1, 113, 1, 0)), (113, (.bipush 114, 115, 114, 0)), (115, (.if_icmp .eq 9, 118, 124, 0)), (118, (.iload_n 1, 119, 1, 0)), (119, (.bipush 105, 121, 105, 0)), (121, (.if_icmp .ne 11, 124, 132, 0)), (124, (.aload_n 0, 125, 0, 0)), (125, (.iload_n 1, 126, 1, 0))]
def am_l133_3 : List (Nat × am_R) := [(126, (.iload_n 2, 127, 2, 0)), (127, (.iload_n 3, 128, 3, 0)), (128, (.invokevirtual 192, 131, 130, 8)), (131, (.ireturn, 132, 0, 0)), (132, (.iload_n 1, 133, 1, 0)), (133, (.bipush 113, 135, 113, 0)), (135, (.if_icmp .ne 6, 138, 141, 0)), (138, (.bipush 45, 140, 45, 0)), (140, (.ireturn, 141, 0, 0)), (141, (.iload_n 1, 142, 1, 0)), (142, (.bipush 101, 144, 101, 0)), (144, (.if_icmp .eq 13, 147, 157, 0)), (147, (.aload_n 0, 148, 0, 0)), (148, (.iload_n 1, 149, 1, 0)), (149, (.iload_n 2, 150, 2, 0)), (150, (.iload_n 3, 151, 3, 0)), (151, (.iload 4, 153, 4, 0)), (153, (.invokevirtual 196, 156, 129, 8)), (156, (.ireturn, 157, 0, 0)), (157, (.aload_n 0, 158, 0, 0)), (158, (.invokevirtual 199, 161, 131, 8)), (161, (.bipush 45, 163, 45, 0)), (163, (.ireturn, 164, 0, 0))]
def am_t133 : Nat → am_R := fun pc => am_lc [(40, am_l133_0), (84, am_l133_1), (126, am_l133_2), (164, am_l133_3)] pc
def am_l134_0 : List (Nat × am_R) := [(0, (.aload_n 0, 1, 0, 0)), (1, (.iload_n 1, 2, 1, 0)), (2, (.iconst 1, 3, 1, 0)), (3, (.bipush 100, 5, 100, 0)), (5, (.invokestatic 100, 8, 97, 0)), (8, (.ifCond .ne 7, 11, 15, 0)), (11, (.iconst 1, 12, 1, 0)), (12, (.goto 15, 15, 27, 0)), (15, (.aload_n 0, 16, 0, 0)), (16, (.invokevirtual 130, 19, 112, 8)), (19, (.ifCond .ne 7, 22, 26, 0)), (22, (.iconst 2, 23, 2, 0)), (23, (.goto 4, 26, 27, 0)), (26, (.iconst 0, 27, 0, 0)), (27, (.putfield 57, 30, 8, 15)), (30, (.aload_n 0, 31, 0, 0)), (31, (.getfield 57, 34, 8, 15)), (34, (.ifCond .le 5, 37, 39, 0)), (37, (.iconst 0, 38, 0, 0)), (38, (.ireturn, 39, 0, 0)), (39, (.aload_n 0, 40, 0, 0)), (40, (.bipush 45, 42, 45, 0)), (42, (.putfield 90, 45, 8, 25)), (45, (.iconst 0, 46, 0, 0))]
def am_l134_1 : List (Nat × am_R) := [(46, (.istore_n 2, 47, 2, 0)), (47, (.iconst 0, 48, 0, 0)), (48, (.istore_n 3, 49, 3, 0)), (49, (.iload_n 2, 50, 2, 0)), (50, (.iload_n 1, 51, 1, 0)), (51, (.if_icmp .ge 93, 54, 144, 0)), (54, (.aload_n 0, 55, 0, 0)), (55, (.getfield 64, 58, 8, 17)), (58, (.aload_n 0, 59, 0, 0)), (59, (.getfield 61, 62, 8, 16)), (62, (.if_icmp .ge 82, 65, 144, 0)), (65, (.aload_n 0, 66, 0, 0)), (66, (.getfield 90, 69, 8, 25)), (69, (.bipush 45, 71, 45, 0)), (71, (.if_icmp .ne 73, 74, 144, 0)), (74, (.iload_n 3, 75, 3, 0)), (75, (.ifCond .ne 69, 78, 144, 0)), (78, (.aload_n 0, 79, 0, 0)), (79, (.getfield 13, 82, 8, 1)), (82, (.aload_n 0, 83, 0, 0)), (83, (.getfield 64, 86, 8, 17)), (86, (.caload, 87, 0, 0)), (87, (.bipush 113, 89, 113, 0)), (89, (.if_icmp .ne 7, 92, 96, 0))]
def am_l134_2 : List (Nat × am_R) := [(92, (.iconst 1, 93, 1, 0)), (93, (.goto 4, 96, 97, 0)), (96, (.iconst 0, 97, 0, 0)), (97, (.istore_n 3, 98, 3, 0)), (98, (.aload_n 0, 99, 0, 0)), (99, (.aload_n 0, 100, 0, 0)), (100, (.invokevirtual 202, 103, 133, 8)), (103, (.putfield 90, 106, 8, 25)), (106, (.aload_n 0, 107, 0, 0)), (107, (.getfield 90, 110, 8, 25)), (110, (.bipush 45, 112, 45, 0)), (112, (.if_icmp .eq 6, 115, 118, 0)), (115, (.goto (-66), 118, 49, 0)), (118, (.aload_n 0, 119, 0, 0)), (119, (.dup, 120, 0, 0)), (120, (.getfield 64, 123, 8, 17)), (123, (.iconst 1, 124, 1, 0)), (124, (.iadd, 125, 0, 0)), (125, (.putfield 64, 128, 8, 17)), (128, (.aload_n 0, 129, 0, 0)), (129, (.dup, 130, 0, 0)), (130, (.getfield 67, 133, 8, 18)), (133, (.iconst 1, 134, 1, 0)), (134, (.iadd, 135, 0, 0))]
def am_l134_3 : List (Nat × am_R) := [(135, (.putfield 67, 138, 8, 18)), (138, (.iinc 2 1, 141, 2, 1)), (141, (.goto (-92), 144, 49, 0)), (144, (.iload_n 2, 145, 2, 0)), (145, (.ireturn, 146, 0, 0))]
def am_t134 : Nat → am_R := fun pc => am_lc [(46, am_l134_0), (90, am_l134_1), (135, am_l134_2), (146, am_l134_3)] pc
def am_l135_0 : List (Nat × am_R) := [(0, (.aload_n 0, 1, 0, 0)), (1, (.getfield 67, 4, 8, 18)), (4, (.istore_n 1, 5, 1, 0)), (5, (.aload_n 0, 6, 0, 0)), (6, (.invokevirtual 97, 9, 100, 8)), (9, (.aload_n 0, 10, 0, 0)), (10, (.iload_n 1, 11, 1, 0)), (11, (.invokevirtual 206, 14, 98, 8)), (14, (.ireturn, 15, 0, 0))]
def am_t135 : Nat → am_R := fun pc => am_lc [(15, am_l135_0)] pc
def am_l136_0 : List (Nat × am_R) := [(0, (.aload_n 0, 1, 0, 0)), (1, (.iconst 0, 2, 0, 0)), (2, (.putfield 57, 5, 8, 15)), (5, (.aload_n 0, 6, 0, 0)), (6, (.getfield 90, 9, 8, 25)), (9, (.ireturn, 10, 0, 0))]
def am_t136 : Nat → am_R := fun pc => am_lc [(10, am_l136_0)] pc
def am_l137_0 : List (Nat × am_R) := [(0, (.aload_n 0, 1, 0, 0)), (1, (.iconst 0, 2, 0, 0)), (2, (.putfield 57, 5, 8, 15)), (5, (.aload_n 0, 6, 0, 0)), (6, (.getfield 64, 9, 8, 17)), (9, (.aload_n 0, 10, 0, 0)), (10, (.getfield 61, 13, 8, 16)), (13, (.if_icmp .ne 7, 16, 20, 0)), (16, (.iconst 1, 17, 1, 0)), (17, (.goto 4, 20, 21, 0)), (20, (.iconst 0, 21, 0, 0)), (21, (.ireturn, 22, 0, 0))]
def am_t137 : Nat → am_R := fun pc => am_lc [(22, am_l137_0)] pc
def am_l138_0 : List (Nat × am_R) := [(0, (.aload_n 0, 1, 0, 0)), (1, (.aload_n 0, 2, 0, 0)), (2, (.getfield 64, 5, 8, 17)), (5, (.invokevirtual 206, 8, 98, 8)), (8, (.ireturn, 9, 0, 0))]
def am_t138 : Nat → am_R := fun pc => am_lc [(9, am_l138_0)] pc
def am_l139_0 : List (Nat × am_R) := [(0, (.aload_n 0, 1, 0, 0)), (1, (.aload_n 0, 2, 0, 0)), (2, (.getfield 67, 5, 8, 18)), (5, (.invokevirtual 206, 8, 98, 8)), (8, (.ireturn, 9, 0, 0))]
def am_t139 : Nat → am_R := fun pc => am_lc [(9, am_l139_0)] pc
def am_l140_0 : List (Nat × am_R) := [(0, (.aload_n 0, 1, 0, 0)), (1, (.iload_n 1, 2, 1, 0)), (2, (.iconst 0, 3, 0, 0)), (3, (.bipush 7, 5, 7, 0)), (5, (.invokestatic 100, 8, 97, 0)), (8, (.invokevirtual 111, 11, 99, 8)), (11, (.ifCond .le 7, 14, 18, 0)), (14, (.iconst 0, 15, 0, 0)), (15, (.goto 9, 18, 24, 0)), (18, (.aload_n 0, 19, 0, 0)), (19, (.getfield 38, 22, 8, 9)), (22, (.iload_n 1, 23, 1, 0)), (23, (.iaload, 24, 0, 0)), (24, (.ireturn, 25, 0, 0))]
def am_t140 : Nat → am_R := fun pc => am_lc [(25, am_l140_0)] pc
def am_l141_0 : List (Nat × am_R) := [(0, (.aload_n 0, 1, 0, 0)), (1, (.iload_n 1, 2, 1, 0)), (2, (.iconst 0, 3, 0, 0)), (3, (.iconst 2, 4, 2, 0)), (4, (.invokestatic 100, 7, 97, 0)), (7, (.invokevirtual 111, 10, 99, 8)), (10, (.ifCond .le 7, 13, 17, 0)), (13, (.iconst 0, 14, 0, 0)), (14, (.goto 9, 17, 23, 0)), (17, (.aload_n 0, 18, 0, 0)), (18, (.getfield 44, 21, 8, 11)), (21, (.iload_n 1, 22, 1, 0)), (22, (.iaload, 23, 0, 0)), (23, (.ireturn, 24, 0, 0))]
def am_t141 : Nat → am_R := fun pc => am_lc [(24, am_l141_0)] pc
def am_l142_0 : List (Nat × am_R) := [(0, (.aload_n 0, 1, 0, 0)), (1, (.aload_n 0, 2, 0, 0)), (2, (.getfield 70, 5, 8, 19)), (5, (.invokevirtual 206, 8, 98, 8)), (8, (.ireturn, 9, 0, 0))]
def am_t142 : Nat → am_R := fun pc => am_lc [(9, am_l142_0)] pc
def am_l143_0 : List (Nat × am_R) := [(0, (.aload_n 0, 1, 0, 0)), (1, (.iload_n 1, 2, 1, 0)), (2, (.iload_n 2, 3, 2, 0)), (3, (.invokestatic 104, 6, 101, 0)), (6, (.ifCond .ne 7, 9, 13, 0)), (9, (.iconst 1, 10, 1, 0)), (10, (.goto 23, 13, 33, 0)), (13, (.aload_n 0, 14, 0, 0)), (14, (.getfield 7, 17, 8, 0)), (17, (.iconst 4, 18, 4, 0)), (18, (.iload_n 1, 19, 1, 0)), (19, (.imul, 20, 0, 0)), (20, (.iload_n 2, 21, 2, 0)), (21, (.iadd, 22, 0, 0)), (22, (.caload, 23, 0, 0)), (23, (.bipush 45, 25, 45, 0)), (25, (.if_icmp .ne 7, 28, 32, 0)), (28, (.iconst 2, 29, 2, 0)), (29, (.goto 4, 32, 33, 0)), (32, (.iconst 0, 33, 0, 0)), (33, (.putfield 57, 36, 8, 15)), (36, (.aload_n 0, 37, 0, 0)), (37, (.getfield 57, 40, 8, 15)), (40, (.ifCond .le 7, 43, 47, 0))]
def am_l143_1 : List (Nat × am_R) := [(43, (.iconst 0, 44, 0, 0)), (44, (.goto 13, 47, 57, 0)), (47, (.aload_n 0, 48, 0, 0)), (48, (.getfield 23, 51, 8, 4)), (51, (.iconst 4, 52, 4, 0)), (52, (.iload_n 1, 53, 1, 0)), (53, (.imul, 54, 0, 0)), (54, (.iload_n 2, 55, 2, 0)), (55, (.iadd, 56, 0, 0)), (56, (.iaload, 57, 0, 0)), (57, (.ireturn, 58, 0, 0))]
def am_t143 : Nat → am_R := fun pc => am_lc [(41, am_l143_0), (58, am_l143_1)] pc
def am_l144_0 : List (Nat × am_R) := [(0, (.aload_n 0, 1, 0, 0)), (1, (.iload_n 1, 2, 1, 0)), (2, (.iload_n 2, 3, 2, 0)), (3, (.iload_n 3, 4, 3, 0)), (4, (.invokestatic 108, 7, 103, 0)), (7, (.invokevirtual 111, 10, 99, 8)), (10, (.ifCond .ne 21, 13, 31, 0)), (13, (.aload_n 0, 14, 0, 0)), (14, (.getfield 54, 17, 8, 14)), (17, (.iload_n 1, 18, 1, 0)), (18, (.iload_n 2, 19, 2, 0)), (19, (.iload_n 3, 20, 3, 0)), (20, (.invokestatic 115, 23, 104, 0)), (23, (.baload, 24, 0, 0)), (24, (.ifCond .ne 7, 27, 31, 0)), (27, (.iconst 1, 28, 1, 0)), (28, (.goto 4, 31, 32, 0)), (31, (.iconst 0, 32, 0, 0)), (32, (.ireturn, 33, 0, 0))]
def am_t144 : Nat → am_R := fun pc => am_lc [(33, am_l144_0)] pc
def am_l145_0 : List (Nat × am_R) := [(0, (.aload_n 0, 1, 0, 0)), (1, (.iload_n 1, 2, 1, 0)), (2, (.iload_n 2, 3, 2, 0)), (3, (.iload_n 3, 4, 3, 0)), (4, (.invokevirtual 209, 7, 144, 8)), (7, (.ireturn, 8, 0, 0))]
def am_t145 : Nat → am_R := fun pc => am_lc [(8, am_l145_0)] pc
def am_l146_0 : List (Nat × am_R) := [(0, (.iconst 0, 1, 0, 0)), (1, (.istore_n 1, 2, 1, 0)), (2, (.iconst 0, 3, 0, 0)), (3, (.istore_n 2, 4, 2, 0)), (4, (.iload_n 2, 5, 2, 0)), (5, (.sipush 1152, 8, 1152, 0)), (8, (.if_icmp .ge 26, 11, 34, 0)), (11, (.iload_n 1, 12, 1, 0)), (12, (.aload_n 0, 13, 0, 0)), (13, (.getfield 54, 16, 8, 14)), (16, (.iload_n 2, 17, 2, 0)), (17, (.baload, 18, 0, 0)), (18, (.ifCond .eq 7, 21, 25, 0)), (21, (.iconst 0, 22, 0, 0)), (22, (.goto 4, 25, 26, 0)), (25, (.iconst 1, 26, 1, 0)), (26, (.iadd, 27, 0, 0)), (27, (.istore_n 1, 28, 1, 0)), (28, (.iinc 2 1, 31, 2, 1)), (31, (.goto (-27), 34, 4, 0)), (34, (.iload_n 1, 35, 1, 0)), (35, (.ireturn, 36, 0, 0))]
def am_t146 : Nat → am_R := fun pc => am_lc [(36, am_l146_0)] pc
def am_l147_0 : List (Nat × am_R) := [(0, (.aload_n 0, 1, 0, 0)), (1, (.aload_n 0, 2, 0, 0)), (2, (.invokevirtual 212, 5, 146, 8)), (5, (.invokevirtual 206, 8, 98, 8)), (8, (.ireturn, 9, 0, 0))]
def am_t147 : Nat → am_R := fun pc => am_lc [(9, am_l147_0)] pc
def am_l148_0 : List (Nat × am_R) := [(0, (.aload_n 0, 1, 0, 0)), (1, (.iload_n 1, 2, 1, 0)), (2, (.iload_n 2, 3, 2, 0)), (3, (.iconst 0, 4, 0, 0)), (4, (.invokestatic 108, 7, 103, 0)), (7, (.invokevirtual 111, 10, 99, 8)), (10, (.ifCond .le 5, 13, 15, 0)), (13, (.iconst 0, 14, 0, 0)), (14, (.ireturn, 15, 0, 0)), (15, (.bipush 6, 17, 6, 0)), (17, (.istore_n 3, 18, 3, 0)), (18, (.iload_n 3, 19, 3, 0)), (19, (.ifCond .le 25, 22, 44, 0)), (22, (.aload_n 0, 23, 0, 0)), (23, (.getfield 54, 26, 8, 14)), (26, (.iload_n 1, 27, 1, 0)), (27, (.iload_n 2, 28, 2, 0)), (28, (.iload_n 3, 29, 3, 0)), (29, (.iconst 1, 30, 1, 0)), (30, (.isub, 31, 0, 0)), (31, (.invokestatic 115, 34, 104, 0)), (34, (.baload, 35, 0, 0)), (35, (.ifCond .eq 9, 38, 44, 0)), (38, (.iinc 3 (-1), 41, 3, 4294967295))]
def am_l148_1 : List (Nat × am_R) := [(41, (.goto (-23), 44, 18, 0)), (44, (.iload_n 3, 45, 3, 0)), (45, (.ireturn, 46, 0, 0))]
def am_t148 : Nat → am_R := fun pc => am_lc [(39, am_l148_0), (46, am_l148_1)] pc
def am_l149_0 : List (Nat × am_R) := [(0, (.lconst 0, 1, 0, 0)), (1, (.lstore_n 1, 2, 1, 0)), (2, (.iconst 0, 3, 0, 0)), (3, (.istore_n 3, 4, 3, 0)), (4, (.iload_n 3, 5, 3, 0)), (5, (.sipush 1152, 8, 1152, 0)), (8, (.if_icmp .ge 34, 11, 42, 0)), (11, (.lload_n 1, 12, 1, 0)), (12, (.aload_n 0, 13, 0, 0)), (13, (.getfield 54, 16, 8, 14)), (16, (.iload_n 3, 17, 3, 0)), (17, (.baload, 18, 0, 0)), (18, (.ifCond .eq 7, 21, 25, 0)), (21, (.lconst 0, 22, 0, 0)), (22, (.goto 12, 25, 34, 0)), (25, (.iload_n 3, 26, 3, 0)), (26, (.i2l, 27, 0, 0)), (27, (.lconst 1, 28, 1, 0)), (28, (.ladd, 29, 0, 0)), (29, (.iload_n 3, 30, 3, 0)), (30, (.i2l, 31, 0, 0)), (31, (.lconst 1, 32, 1, 0)), (32, (.ladd, 33, 0, 0)), (33, (.lmul, 34, 0, 0))]
def am_l149_1 : List (Nat × am_R) := [(34, (.ladd, 35, 0, 0)), (35, (.lstore_n 1, 36, 1, 0)), (36, (.iinc 3 1, 39, 3, 1)), (39, (.goto (-35), 42, 4, 0)), (42, (.aload_n 0, 43, 0, 0)), (43, (.iconst 0, 44, 0, 0)), (44, (.putfield 57, 47, 8, 15)), (47, (.lload_n 1, 48, 1, 0)), (48, (.lreturn, 49, 0, 0))]
def am_t149 : Nat → am_R := fun pc => am_lc [(34, am_l149_0), (49, am_l149_1)] pc
def am_l150_0 : List (Nat × am_R) := [(0, (.aload_n 0, 1, 0, 0)), (1, (.iconst 0, 2, 0, 0)), (2, (.putfield 57, 5, 8, 15)), (5, (.aload_n 0, 6, 0, 0)), (6, (.getfield 86, 9, 8, 24)), (9, (.freturn, 10, 0, 0))]
def am_t150 : Nat → am_R := fun pc => am_lc [(10, am_l150_0)] pc
def am_l151_0 : List (Nat × am_R) := [(0, (.aload_n 0, 1, 0, 0)), (1, (.aload_n 0, 2, 0, 0)), (2, (.getfield 86, 5, 8, 24)), (5, (.invokestatic 216, 8, 156, 0)), (8, (.invokevirtual 206, 11, 98, 8)), (11, (.ireturn, 12, 0, 0))]
def am_t151 : Nat → am_R := fun pc => am_lc [(12, am_l151_0)] pc
def am_l152_0 : List (Nat × am_R) := [(0, (.iconst 0, 1, 0, 0)), (1, (.istore_n 1, 2, 1, 0)), (2, (.iconst 0, 3, 0, 0)), (3, (.istore_n 2, 4, 2, 0)), (4, (.iconst 0, 5, 0, 0)), (5, (.istore_n 3, 6, 3, 0)), (6, (.iload_n 3, 7, 3, 0)), (7, (.bipush 12, 9, 12, 0)), (9, (.if_icmp .ge 37, 12, 46, 0)), (12, (.iload_n 1, 13, 1, 0)), (13, (.aload_n 0, 14, 0, 0)), (14, (.getfield 7, 17, 8, 0)), (17, (.iload_n 3, 18, 3, 0)), (18, (.caload, 19, 0, 0)), (19, (.bipush 45, 21, 45, 0)), (21, (.if_icmp .ne 7, 24, 28, 0)), (24, (.iconst 0, 25, 0, 0)), (25, (.goto 4, 28, 29, 0)), (28, (.iconst 1, 29, 1, 0)), (29, (.iadd, 30, 0, 0)), (30, (.istore_n 1, 31, 1, 0)), (31, (.iload_n 2, 32, 2, 0)), (32, (.aload_n 0, 33, 0, 0)), (33, (.getfield 23, 36, 8, 4))]
def am_l152_1 : List (Nat × am_R) := [(36, (.iload_n 3, 37, 3, 0)), (37, (.iaload, 38, 0, 0)), (38, (.iadd, 39, 0, 0)), (39, (.istore_n 2, 40, 2, 0)), (40, (.iinc 3 1, 43, 3, 1)), (43, (.goto (-37), 46, 6, 0)), (46, (.aload_n 0, 47, 0, 0)), (47, (.iload_n 1, 48, 1, 0)), (48, (.ifCond .le 7, 51, 55, 0)), (51, (.iconst 1, 52, 1, 0)), (52, (.goto 4, 55, 56, 0)), (55, (.iconst 0, 56, 0, 0)), (56, (.invokevirtual 111, 59, 99, 8)), (59, (.ifCond .le 7, 62, 66, 0)), (62, (.dconst 0, 63, 0, 0)), (63, (.goto 8, 66, 71, 0)), (66, (.iload_n 2, 67, 2, 0)), (67, (.i2d, 68, 0, 0)), (68, (.iload_n 1, 69, 1, 0)), (69, (.i2d, 70, 0, 0)), (70, (.ddiv, 71, 0, 0)), (71, (.dreturn, 72, 0, 0))]
def am_t152 : Nat → am_R := fun pc => am_lc [(34, am_l152_0), (72, am_l152_1)] pc
def am_l153_0 : List (Nat × am_R) := [(0, (.aload_n 0, 1, 0, 0)), (1, (.iconst 0, 2, 0, 0)), (2, (.putfield 57, 5, 8, 15)), (5, (.sipush 1152, 8, 1152, 0)), (8, (.aload_n 0, 9, 0, 0)), (9, (.invokevirtual 212, 12, 146, 8)), (12, (.isub, 13, 0, 0)), (13, (.istore_n 1, 14, 1, 0)), (14, (.iload_n 1, 15, 1, 0)), (15, (.i2f, 16, 0, 0)), (16, (.ldc 222, 18, 1150287872, 1)), (18, (.fdiv, 19, 0, 0)), (19, (.fstore_n 2, 20, 2, 0)), (20, (.aload_n 0, 21, 0, 0)), (21, (.invokevirtual 212, 24, 146, 8)), (24, (.iload_n 1, 25, 1, 0)), (25, (.if_icmp .ge 8, 28, 33, 0)), (28, (.fload_n 2, 29, 2, 0)), (29, (.fneg, 30, 0, 0)), (30, (.goto 4, 33, 34, 0)), (33, (.fload_n 2, 34, 2, 0)), (34, (.freturn, 35, 0, 0))]
def am_t153 : Nat → am_R := fun pc => am_lc [(35, am_l153_0)] pc
def am_l154_0 : List (Nat × am_R) := [(0, (.aload_n 0, 1, 0, 0)), (1, (.iconst 0, 2, 0, 0)), (2, (.putfield 57, 5, 8, 15)), (5, (.iconst 1, 6, 1, 0)), (6, (.ireturn, 7, 0, 0))]
def am_t154 : Nat → am_R := fun pc => am_lc [(7, am_l154_0)] pc
def am_l155_0 : List (Nat × am_R) := [(0, (.fload_n 0, 1, 0, 0)), (1, (.fload_n 0, 2, 0, 0)), (2, (.fcmp .l, 3, 0, 0)), (3, (.ifCond .eq 7, 6, 10, 0)), (6, (.iconst 1, 7, 1, 0)), (7, (.goto 4, 10, 11, 0)), (10, (.iconst 0, 11, 0, 0)), (11, (.ireturn, 12, 0, 0))]
def am_t155 : Nat → am_R := fun pc => am_lc [(12, am_l155_0)] pc
def am_l156_0 : List (Nat × am_R) := [(0, (.fload_n 0, 1, 0, 0)), (1, (.invokestatic 59, 4, 155, 0)), (4, (.ifCond .ne 8, 7, 12, 0)), (7, (.fload_n 0, 8, 0, 0)), (8, (.invokestatic 74, 11, 0, 2)), (11, (.ireturn, 12, 0, 0)), (12, (.ldc 77, 14, 2143289344, 0)), (14, (.ireturn, 15, 0, 0))]
def am_t156 : Nat → am_R := fun pc => am_lc [(15, am_l156_0)] pc
def am_l157_0 : List (Nat × am_R) := [(0, (.iload_n 0, 1, 0, 0)), (1, (.iload_n 0, 2, 0, 0)), (2, (.iconst 1, 3, 1, 0)), (3, (.iushr, 4, 0, 0)), (4, (.ldc_w 265, 7, 1431655765, 0)), (7, (.iand, 8, 0, 0)), (8, (.isub, 9, 0, 0)), (9, (.istore_n 0, 10, 0, 0)), (10, (.iload_n 0, 11, 0, 0)), (11, (.ldc_w 266, 14, 858993459, 0)), (14, (.iand, 15, 0, 0)), (15, (.iload_n 0, 16, 0, 0)), (16, (.iconst 2, 17, 2, 0)), (17, (.iushr, 18, 0, 0)), (18, (.ldc_w 266, 21, 858993459, 0)), (21, (.iand, 22, 0, 0)), (22, (.iadd, 23, 0, 0)), (23, (.istore_n 0, 24, 0, 0)), (24, (.iload_n 0, 25, 0, 0)), (25, (.iload_n 0, 26, 0, 0)), (26, (.iconst 4, 27, 4, 0)), (27, (.iushr, 28, 0, 0)), (28, (.iadd, 29, 0, 0)), (29, (.ldc_w 267, 32, 252645135, 0))]
def am_l157_1 : List (Nat × am_R) := [(32, (.iand, 33, 0, 0)), (33, (.istore_n 0, 34, 0, 0)), (34, (.iload_n 0, 35, 0, 0)), (35, (.iload_n 0, 36, 0, 0)), (36, (.bipush 8, 38, 8, 0)), (38, (.iushr, 39, 0, 0)), (39, (.iadd, 40, 0, 0)), (40, (.istore_n 0, 41, 0, 0)), (41, (.iload_n 0, 42, 0, 0)), (42, (.iload_n 0, 43, 0, 0)), (43, (.bipush 16, 45, 16, 0)), (45, (.iushr, 46, 0, 0)), (46, (.iadd, 47, 0, 0)), (47, (.istore_n 0, 48, 0, 0)), (48, (.iload_n 0, 49, 0, 0)), (49, (.bipush 63, 51, 63, 0)), (51, (.iand, 52, 0, 0)), (52, (.ireturn, 53, 0, 0))]
def am_t157 : Nat → am_R := fun pc => am_lc [(30, am_l157_0), (53, am_l157_1)] pc
def am_l158_0 : List (Nat × am_R) := [(0, (.iload_n 0, 1, 0, 0)), (1, (.ifCond .ge 8, 4, 9, 0)), (4, (.iload_n 0, 5, 0, 0)), (5, (.ineg, 6, 0, 0)), (6, (.goto 4, 9, 10, 0)), (9, (.iload_n 0, 10, 0, 0)), (10, (.ireturn, 11, 0, 0))]
def am_t158 : Nat → am_R := fun pc => am_lc [(11, am_l158_0)] pc
def am_l159_0 : List (Nat × am_R) := [(0, (.iload_n 0, 1, 0, 0)), (1, (.iload_n 1, 2, 1, 0)), (2, (.if_icmp .lt 7, 5, 9, 0)), (5, (.iload_n 0, 6, 0, 0)), (6, (.goto 4, 9, 10, 0)), (9, (.iload_n 1, 10, 1, 0)), (10, (.ireturn, 11, 0, 0))]
def am_t159 : Nat → am_R := fun pc => am_lc [(11, am_l159_0)] pc
def am_l160_0 : List (Nat × am_R) := [(0, (.iload_n 0, 1, 0, 0)), (1, (.iload_n 1, 2, 1, 0)), (2, (.if_icmp .gt 7, 5, 9, 0)), (5, (.iload_n 0, 6, 0, 0)), (6, (.goto 4, 9, 10, 0)), (9, (.iload_n 1, 10, 1, 0)), (10, (.ireturn, 11, 0, 0))]
def am_t160 : Nat → am_R := fun pc => am_lc [(11, am_l160_0)] pc
def am_l161_0 : List (Nat × am_R) := [(0, (.aload_n 0, 1, 0, 0)), (1, (.iload_n 1, 2, 1, 0)), (2, (.invokevirtual 38, 5, 54, 4)), (5, (.ifCond .eq 12, 8, 17, 0)), (8, (.aload_n 0, 9, 0, 0)), (9, (.getfield 24, 12, 4, 4)), (12, (.iload_n 1, 13, 1, 0)), (13, (.iaload, 14, 0, 0)), (14, (.goto 4, 17, 18, 0)), (17, (.iconst (-1), 18, 4294967295, 0)), (18, (.ireturn, 19, 0, 0))]
def am_t161 : Nat → am_R := fun pc => am_lc [(19, am_l161_0)] pc
def am_m0 : am_M := (yX0_init, cX0_init, 1, none, am_t0, 1, 1, 72)
def am_m1 : am_M := (yX0_fillAll, cX0_fillAll, 2, none, am_t1, 1, 0, 0)
def am_m2 : am_M := (yX0_holds, cX0_holds, 4, some .boolean, am_t2, 4, 0, 0)
def am_m3 : am_M := (yX0_mark, cX0_mark, 6, none, am_t3, 5, 0, 0)
def am_m4 : am_M := (yX0_size, cX0_size, 3, some .int, am_t4, 1, 0, 0)
def am_m5 : am_M := (yX0_sumOfSquares, cX0_sumOfSquares, 7, some .long, am_t5, 1, 0, 0)
def am_m6 : am_M := (yX0_isSameAs, cX0_isSameAs, 2, some .boolean, am_t6, 2, 0, 0)
def am_m7 : am_M := (yX0_holdsAllOf, cX0_holdsAllOf, 3, some .boolean, am_t7, 2, 0, 0)
def am_m8 : am_M := (yX0_meets, cX0_meets, 6, some .boolean, am_t8, 2, 0, 0)
def am_m9 : am_M := (yX0_takeAway, cX0_takeAway, 9, some .int, am_t9, 2, 0, 0)
def am_m10 : am_M := (yX1_init, cX1_init, 2, none, am_t10, 2, 11, 784)
def am_m11 : am_M := (yX1_begin, cX1_begin, 2, none, am_t11, 1, 0, 0)
def am_m12 : am_M := (yX1_isBehindLast, cX1_isBehindLast, 1, some .boolean, am_t12, 1, 0, 0)
def am_m13 : am_M := (yX1_isAtStop, cX1_isAtStop, 1, some .boolean, am_t13, 1, 0, 0)
def am_m14 : am_M := (yX1_sumOfUses, cX1_sumOfUses, 3, some .int, am_t14, 1, 0, 0)
def am_m15 : am_M := (yX1_carryOutFromNothing, cX1_carryOutFromNothing, 3, none, am_t15, 2, 0, 0)
def am_m16 : am_M := (yX1_carryOutNext, cX1_carryOutNext, 3, some .char, am_t16, 1, 0, 0)
def am_m17 : am_M := (yX1_valueOf, cX1_valueOf, 3, some .int, am_t17, 2, 0, 0)
def am_m18 : am_M := (yX1_areTermsTold, cX1_areTermsTold, 1, some .boolean, am_t18, 1, 0, 0)
def am_m19 : am_M := (yX1_findToolAlarm, cX1_findToolAlarm, 2, some .char, am_t19, 1, 0, 0)
def am_m20 : am_M := (yX1_findCellAlarm, cX1_findCellAlarm, 1, some .char, am_t20, 1, 0, 0)
def am_m21 : am_M := (yX1_isCut, cX1_isCut, 1, some .boolean, am_t21, 1, 0, 0)
def am_m22 : am_M := (yX1_isWorn, cX1_isWorn, 2, some .boolean, am_t22, 2, 0, 0)
def am_m23 : am_M := (yX1_slotToTake, cX1_slotToTake, 4, some .int, am_t23, 1, 0, 0)
def am_m24 : am_M := (yX1_planPath, cX1_planPath, 1, none, am_t24, 1, 0, 0)
def am_m25 : am_M := (yX1_planSingleMove, cX1_planSingleMove, 6, none, am_t25, 1, 0, 0)
def am_m26 : am_M := (yX1_planDrilling, cX1_planDrilling, 2, none, am_t26, 1, 0, 0)
def am_m27 : am_M := (yX1_planPocket, cX1_planPocket, 8, none, am_t27, 1, 0, 0)
def am_m28 : am_M := (yX1_addCutDown, cX1_addCutDown, 2, none, am_t28, 2, 0, 0)
def am_m29 : am_M := (yX1_pathMeets, cX1_pathMeets, 5, some .boolean, am_t29, 2, 0, 0)
def am_m30 : am_M := (yX1_aimCutter, cX1_aimCutter, 1, none, am_t30, 1, 0, 0)
def am_m31 : am_M := (yX1_moveReach, cX1_moveReach, 4, none, am_t31, 4, 0, 0)
def am_m32 : am_M := (yX1_meetsStockAtPlace, cX1_meetsStockAtPlace, 1, some .boolean, am_t32, 1, 0, 0)
def am_m33 : am_M := (yX1_takeEffect, cX1_takeEffect, 2, none, am_t33, 1, 0, 0)
def am_m34 : am_M := (yX1_carryOutMoves, cX1_carryOutMoves, 4, none, am_t34, 1, 0, 0)
def am_m35 : am_M := (yX1_cutLeg, cX1_cutLeg, 4, none, am_t35, 3, 0, 0)
def am_m36 : am_M := (yX1_setVariable, cX1_setVariable, 3, none, am_t36, 3, 0, 0)
def am_m37 : am_M := (yX1_leastFreeLevel, cX1_leastFreeLevel, 2, some .int, am_t37, 1, 0, 0)
def am_m38 : am_M := (yX1_followingOpening, cX1_followingOpening, 2, some .int, am_t38, 1, 0, 0)
def am_m39 : am_M := (yX1_followingClosing, cX1_followingClosing, 2, some .int, am_t39, 1, 0, 0)
def am_m40 : am_M := (yX2_init, cX2_init, 1, none, am_t40, 1, 13, 450)
def am_m41 : am_M := (yX3_init, cX3_init, 1, none, am_t41, 1, 3, 615)
def am_m42 : am_M := (yX3_clear, cX3_clear, 1, none, am_t42, 1, 0, 0)
def am_m43 : am_M := (yX3_addLeg, cX3_addLeg, 8, none, am_t43, 7, 0, 0)
def am_m44 : am_M := (yX3_endAt, cX3_endAt, 4, none, am_t44, 4, 0, 0)
def am_m45 : am_M := (yX3_endAlong, cX3_endAlong, 2, some .int, am_t45, 2, 0, 0)
def am_m46 : am_M := (yX3_stepsOf, cX3_stepsOf, 5, some .int, am_t46, 2, 0, 0)
def am_m47 : am_M := (yX3_behindStep, cX3_behindStep, 6, some .int, am_t47, 5, 0, 0)
def am_m48 : am_M := (yX3_leavesSpace, cX3_leavesSpace, 2, some .boolean, am_t48, 1, 0, 0)
def am_m49 : am_M := (yX4_init, cX4_init, 1, none, am_t49, 1, 5, 320)
def am_m50 : am_M := (yX4_append, cX4_append, 5, none, am_t50, 5, 0, 0)
def am_m51 : am_M := (yX4_closeLastOpened, cX4_closeLastOpened, 2, none, am_t51, 1, 0, 0)
def am_m52 : am_M := (yX4_removeLast, cX4_removeLast, 2, none, am_t52, 1, 0, 0)
def am_m53 : am_M := (yX4_isWhole, cX4_isWhole, 4, some .boolean, am_t53, 1, 0, 0)
def am_m54 : am_M := (yX4_isBlock, cX4_isBlock, 2, some .boolean, am_t54, 2, 0, 0)
def am_m55 : am_M := (yX4_isOpening, cX4_isOpening, 2, some .boolean, am_t55, 2, 0, 0)
def am_m56 : am_M := (yX5_init, cX5_init, 1, none, am_t56, 1, 3, 36)
def am_m57 : am_M := (yX5_fill, cX5_fill, 5, none, am_t57, 5, 0, 0)
def am_m58 : am_M := (yX5_isFilled, cX5_isFilled, 2, some .boolean, am_t58, 2, 0, 0)
def am_m59 : am_M := (yX5_countFrom, cX5_countFrom, 5, some .int, am_t59, 3, 0, 0)
def am_m60 : am_M := (yX5_areAlike, cX5_areAlike, 3, some .boolean, am_t60, 3, 0, 0)
def am_m61 : am_M := (yX6_init, cX6_init, 1, none, am_t61, 1, 0, 0)
def am_m62 : am_M := (yX6_useCutter, cX6_useCutter, 3, none, am_t62, 3, 0, 0)
def am_m63 : am_M := (yX6_moveTo, cX6_moveTo, 4, none, am_t63, 4, 0, 0)
def am_m64 : am_M := (yX6_firstLayer, cX6_firstLayer, 1, some .int, am_t64, 1, 0, 0)
def am_m65 : am_M := (yX6_firstLine, cX6_firstLine, 1, some .int, am_t65, 1, 0, 0)
def am_m66 : am_M := (yX6_lastLine, cX6_lastLine, 1, some .int, am_t66, 1, 0, 0)
def am_m67 : am_M := (yX6_greatestSquare, cX6_greatestSquare, 3, some .int, am_t67, 2, 0, 0)
def am_m68 : am_M := (yX6_rowBits, cX6_rowBits, 6, some .int, am_t68, 3, 0, 0)
def am_m69 : am_M := (yX7_init, cX7_init, 1, none, am_t69, 1, 38, 2062)
def am_m70 : am_M := (yX7_isClosed, cX7_isClosed, 1, some .boolean, am_t70, 1, 0, 0)
def am_m71 : am_M := (yX7_reset, cX7_reset, 2, some .int, am_t71, 1, 0, 0)
def am_m72 : am_M := (yX7_alarm, cX7_alarm, 1, some .char, am_t72, 1, 0, 0)
def am_m73 : am_M := (yX7_isOver, cX7_isOver, 1, some .boolean, am_t73, 1, 0, 0)
def am_m74 : am_M := (yX7_next, cX7_next, 1, some .int, am_t74, 1, 0, 0)
def am_m75 : am_M := (yX7_done, cX7_done, 1, some .int, am_t75, 1, 0, 0)
def am_m76 : am_M := (yX7_cutter, cX7_cutter, 1, some .int, am_t76, 1, 0, 0)
def am_m77 : am_M := (yX7_stock, cX7_stock, 1, some .int, am_t77, 1, 0, 0)
def am_m78 : am_M := (yX7_checksum, cX7_checksum, 1, some .long, am_t78, 1, 0, 0)
def am_m79 : am_M := (yX7_time, cX7_time, 1, some .float, am_t79, 1, 0, 0)
def am_m80 : am_M := (yX7_timeBits, cX7_timeBits, 1, some .int, am_t80, 1, 0, 0)
def am_m81 : am_M := (yX7_taken, cX7_taken, 4, some .float, am_t81, 1, 0, 0)
def am_m82 : am_M := (yX7_isSound, cX7_isSound, 1, some .boolean, am_t82, 1, 0, 0)
def am_m83 : am_M := (yX7_beginAnew, cX7_beginAnew, 1, none, am_t83, 1, 0, 0)
def am_m84 : am_M := (yX7_isWithin, cX7_isWithin, 3, some .boolean, am_t84, 3, 0, 0)
def am_m85 : am_M := (yX7_isCell, cX7_isCell, 3, some .boolean, am_t85, 3, 0, 0)
def am_m86 : am_M := (yX7_isPlace, cX7_isPlace, 3, some .boolean, am_t86, 3, 0, 0)
def am_m87 : am_M := (yX7_isSlot, cX7_isSlot, 2, some .boolean, am_t87, 2, 0, 0)
def am_m88 : am_M := (yX7_slotOf, cX7_slotOf, 2, some .int, am_t88, 2, 0, 0)
def am_m89 : am_M := (yX7_isShape, cX7_isShape, 1, some .boolean, am_t89, 1, 0, 0)
def am_m90 : am_M := (yX7_takesShape, cX7_takesShape, 2, some .boolean, am_t90, 2, 0, 0)
def am_m91 : am_M := (yX7_isOffsetNumber, cX7_isOffsetNumber, 1, some .boolean, am_t91, 1, 0, 0)
def am_m92 : am_M := (yX7_isKind, cX7_isKind, 2, some .boolean, am_t92, 1, 0, 0)
def am_m93 : am_M := (yX7_isTerm, cX7_isTerm, 1, some .boolean, am_t93, 1, 0, 0)
def am_m94 : am_M := (yX7_bitsOf, cX7_bitsOf, 4, some .int, am_t94, 1, 0, 0)
def am_m95 : am_M := (yX8_init, cX8_init, 2, none, am_t95, 1, 15, 2698)
def am_m96 : am_M := (yX8_thrown, cX8_thrown, 1, some .int, am_t96, 1, 0, 0)
def am_m97 : am_M := (yX8_in, cX8_in, 3, some .boolean, am_t97, 3, 0, 0)
def am_m98 : am_M := (yX8_plain, cX8_plain, 2, some .int, am_t98, 2, 0, 0)
def am_m99 : am_M := (yX8_checked, cX8_checked, 2, some .int, am_t99, 2, 0, 0)
def am_m100 : am_M := (yX8_begins, cX8_begins, 2, none, am_t100, 1, 0, 0)
def am_m101 : am_M := (yX8_isPlace, cX8_isPlace, 2, some .boolean, am_t101, 2, 0, 0)
def am_m102 : am_M := (yX8_putCutter, cX8_putCutter, 11, some .int, am_t102, 6, 0, 0)
def am_m103 : am_M := (yX8_isCell, cX8_isCell, 3, some .boolean, am_t103, 3, 0, 0)
def am_m104 : am_M := (yX8_cell, cX8_cell, 3, some .int, am_t104, 3, 0, 0)
def am_m105 : am_M := (yX8_setFixture, cX8_setFixture, 6, some .boolean, am_t105, 5, 0, 0)
def am_m106 : am_M := (yX8_setOffset, cX8_setOffset, 6, some .int, am_t106, 5, 0, 0)
def am_m107 : am_M := (yX8_isTerm, cX8_isTerm, 1, some .boolean, am_t107, 1, 0, 0)
def am_m108 : am_M := (yX8_isKind, cX8_isKind, 1, some .boolean, am_t108, 1, 0, 0)
def am_m109 : am_M := (yX8_addBlock, cX8_addBlock, 5, some .int, am_t109, 5, 0, 0)
def am_m110 : am_M := (yX8_dropBlock, cX8_dropBlock, 1, some .int, am_t110, 1, 0, 0)
def am_m111 : am_M := (yX8_opens, cX8_opens, 2, some .boolean, am_t111, 2, 0, 0)
def am_m112 : am_M := (yX8_isWhole, cX8_isWhole, 3, some .boolean, am_t112, 1, 0, 0)
def am_m113 : am_M := (yX8_isClosed, cX8_isClosed, 1, some .boolean, am_t113, 1, 0, 0)
def am_m114 : am_M := (yX8_closing, cX8_closing, 4, some .int, am_t114, 2, 0, 0)
def am_m115 : am_M := (yX8_opening, cX8_opening, 4, some .int, am_t115, 2, 0, 0)
def am_m116 : am_M := (yX8_reaches, cX8_reaches, 7, some .boolean, am_t116, 4, 0, 0)
def am_m117 : am_M := (yX8_met, cX8_met, 9, some .int, am_t117, 6, 0, 0)
def am_m118 : am_M := (yX8_takes, cX8_takes, 5, none, am_t118, 4, 0, 0)
def am_m119 : am_M := (yX8_abs, cX8_abs, 1, some .int, am_t119, 1, 0, 0)
def am_m120 : am_M := (yX8_greater, cX8_greater, 2, some .int, am_t120, 2, 0, 0)
def am_m121 : am_M := (yX8_goes, cX8_goes, 13, some .boolean, am_t121, 8, 0, 0)
def am_m122 : am_M := (yX8_deepens, cX8_deepens, 4, some .boolean, am_t122, 3, 0, 0)
def am_m123 : am_M := (yX8_clears, cX8_clears, 6, some .boolean, am_t123, 4, 0, 0)
def am_m124 : am_M := (yX8_moves, cX8_moves, 8, some .boolean, am_t124, 5, 0, 0)
def am_m125 : am_M := (yX8_isWorn, cX8_isWorn, 2, some .boolean, am_t125, 2, 0, 0)
def am_m126 : am_M := (yX8_movesByBlock, cX8_movesByBlock, 6, some .char, am_t126, 5, 0, 0)
def am_m127 : am_M := (yX8_changes, cX8_changes, 5, some .char, am_t127, 3, 0, 0)
def am_m128 : am_M := (yX8_probes, cX8_probes, 3, some .char, am_t128, 2, 0, 0)
def am_m129 : am_M := (yX8_sets, cX8_sets, 6, some .char, am_t129, 5, 0, 0)
def am_m130 : am_M := (yX8_branches, cX8_branches, 5, some .char, am_t130, 4, 0, 0)
def am_m131 : am_M := (yX8_closes, cX8_closes, 2, none, am_t131, 1, 0, 0)
def am_m132 : am_M := (yX8_value, cX8_value, 2, some .int, am_t132, 2, 0, 0)
def am_m133 : am_M := (yX8_carries, cX8_carries, 5, some .char, am_t133, 1, 0, 0)
def am_m134 : am_M := (yX8_run, cX8_run, 4, some .int, am_t134, 2, 0, 0)
def am_m135 : am_M := (yX8_reset, cX8_reset, 2, some .int, am_t135, 1, 0, 0)
def am_m136 : am_M := (yX8_alarm, cX8_alarm, 1, some .char, am_t136, 1, 0, 0)
def am_m137 : am_M := (yX8_isOver, cX8_isOver, 1, some .boolean, am_t137, 1, 0, 0)
def am_m138 : am_M := (yX8_next, cX8_next, 1, some .int, am_t138, 1, 0, 0)
def am_m139 : am_M := (yX8_done, cX8_done, 1, some .int, am_t139, 1, 0, 0)
def am_m140 : am_M := (yX8_variable, cX8_variable, 2, some .int, am_t140, 2, 0, 0)
def am_m141 : am_M := (yX8_at, cX8_at, 2, some .int, am_t141, 2, 0, 0)
def am_m142 : am_M := (yX8_cutter, cX8_cutter, 1, some .int, am_t142, 1, 0, 0)
def am_m143 : am_M := (yX8_used, cX8_used, 3, some .int, am_t143, 3, 0, 0)
def am_m144 : am_M := (yX8_has, cX8_has, 4, some .boolean, am_t144, 4, 0, 0)
def am_m145 : am_M := (yX8_hasAnew, cX8_hasAnew, 4, some .boolean, am_t145, 4, 0, 0)
def am_m146 : am_M := (yX8_manyLeft, cX8_manyLeft, 3, some .int, am_t146, 1, 0, 0)
def am_m147 : am_M := (yX8_stock, cX8_stock, 1, some .int, am_t147, 1, 0, 0)
def am_m148 : am_M := (yX8_height, cX8_height, 4, some .int, am_t148, 3, 0, 0)
def am_m149 : am_M := (yX8_checksum, cX8_checksum, 4, some .long, am_t149, 1, 0, 0)
def am_m150 : am_M := (yX8_time, cX8_time, 1, some .float, am_t150, 1, 0, 0)
def am_m151 : am_M := (yX8_timeBits, cX8_timeBits, 1, some .int, am_t151, 1, 0, 0)
def am_m152 : am_M := (yX8_meanUse, cX8_meanUse, 4, some .double, am_t152, 1, 0, 0)
def am_m153 : am_M := (yX8_taken, cX8_taken, 3, some .float, am_t153, 1, 0, 0)
def am_m154 : am_M := (yX8_isSound, cX8_isSound, 1, some .boolean, am_t154, 1, 0, 0)
def am_m155 : am_M := (yJxf58ca_isNaN_12338, cJxf58ca_isNaN_12338, 1, some .boolean, am_t155, 1, 0, 0)
def am_m156 : am_M := (yJxf58ca_floatToIntBits_5c35a, cJxf58ca_floatToIntBits_5c35a, 1, some .int, am_t156, 1, 0, 0)
def am_m157 : am_M := (yJ6_bitCount_0f7a4, cJ6_bitCount_0f7a4, 1, some .int, am_t157, 1, 0, 0)
def am_m158 : am_M := (yJ9_abs_0f7a4, cJ9_abs_0f7a4, 1, some .int, am_t158, 1, 0, 0)
def am_m159 : am_M := (yJ9_max_7cf53, cJ9_max_7cf53, 2, some .int, am_t159, 2, 0, 0)
def am_m160 : am_M := (yJ9_min_7cf53, cJ9_min_7cf53, 2, some .int, am_t160, 2, 0, 0)
def am_m161 : am_M := (yX4_partnerOf, cX4_partnerOf, 2, some .int, am_t161, 2, 0, 0)
def am_g0 : List am_M := [am_m0, am_m1, am_m2, am_m3, am_m4, am_m5, am_m6, am_m7, am_m8, am_m9, am_m10, am_m11]
def am_g1 : List am_M := [am_m12, am_m13, am_m14, am_m15, am_m16, am_m17, am_m18, am_m19, am_m20, am_m21, am_m22, am_m23]
def am_g2 : List am_M := [am_m24, am_m25, am_m26, am_m27, am_m28, am_m29, am_m30, am_m31, am_m32, am_m33, am_m34, am_m35]
def am_g3 : List am_M := [am_m36, am_m37, am_m38, am_m39, am_m40, am_m41, am_m42, am_m43, am_m44, am_m45, am_m46, am_m47]
def am_g4 : List am_M := [am_m48, am_m49, am_m50, am_m51, am_m52, am_m53, am_m54, am_m55, am_m56, am_m57, am_m58, am_m59]
def am_g5 : List am_M := [am_m60, am_m61, am_m62, am_m63, am_m64, am_m65, am_m66, am_m67, am_m68, am_m69, am_m70, am_m71]
def am_g6 : List am_M := [am_m72, am_m73, am_m74, am_m75, am_m76, am_m77, am_m78, am_m79, am_m80, am_m81, am_m82, am_m83]
def am_g7 : List am_M := [am_m84, am_m85, am_m86, am_m87, am_m88, am_m89, am_m90, am_m91, am_m92, am_m93, am_m94, am_m95]
def am_g8 : List am_M := [am_m96, am_m97, am_m98, am_m99, am_m100, am_m101, am_m102, am_m103, am_m104, am_m105, am_m106, am_m107]
def am_g9 : List am_M := [am_m108, am_m109, am_m110, am_m111, am_m112, am_m113, am_m114, am_m115, am_m116, am_m117, am_m118, am_m119]
def am_g10 : List am_M := [am_m120, am_m121, am_m122, am_m123, am_m124, am_m125, am_m126, am_m127, am_m128, am_m129, am_m130, am_m131]
def am_g11 : List am_M := [am_m132, am_m133, am_m134, am_m135, am_m136, am_m137, am_m138, am_m139, am_m140, am_m141, am_m142, am_m143]
def am_g12 : List am_M := [am_m144, am_m145, am_m146, am_m147, am_m148, am_m149, am_m150, am_m151, am_m152, am_m153, am_m154, am_m155]
def am_g13 : List am_M := [am_m156, am_m157, am_m158, am_m159, am_m160, am_m161]
def am_gk : List (List am_M) → Nat → am_M
  | [], _ => am_m0
  | l :: r, k => cond (Nat.blt k 12) ((am_nth l k).getD am_m0) (am_gk r (k - 12))
def am_G (k : Nat) : am_M := am_gk [am_g0, am_g1, am_g2, am_g3, am_g4, am_g5, am_g6, am_g7, am_g8, am_g9, am_g10, am_g11, am_g12, am_g13] k
abbrev am_nM : Nat := 162
def am_cl9 : List vw_C := [(RX0, TX0, 1), (RX1, TX1, 20), (RX2, TX2, 4), (RX3, TX3, 4), (RX4, TX4, 6), (RX5, TX5, 3), (RX6, TX6, 5), (RX7, TX7, 4), (RX8, TX8, 27)]
def am_ft : Nat → Nat → FieldType
  | 0 => tyX0
  | 1 => tyX1
  | 2 => tyX2
  | 3 => tyX3
  | 4 => tyX4
  | 5 => tyX5
  | 6 => tyX6
  | 7 => tyX7
  | _ => tyX8
def am_df : Nat → List Value
  | 0 => [.null]
  | 1 => [.null, .null, .null, .null, .null, .null, .null, .null, .int 0, .int 0, .int 0, .float 0, .int 0, .int 0, .int 0, .int 0, .int 0, .int 0, .int 0, .int 0]
  | 2 => [.null, .null, .null, .null]
  | 3 => [.null, .null, .null, .int 0]
  | 4 => [.null, .null, .null, .null, .null, .int 0]
  | 5 => [.null, .null, .null]
  | 6 => [.int 0, .int 0, .int 0, .int 0, .int 0]
  | 7 => [.null, .null, .null, .int 0]
  | _ => [.null, .null, .null, .null, .null, .null, .null, .null, .null, .null, .null, .null, .null, .null, .null, .int 0, .int 0, .int 0, .int 0, .int 0, .int 0, .int 0, .int 0, .int 0, .float 0, .int 0, .int 0]
def am_roots (j : Nat) : Int32 := ([0, 1, 1, 1, 2, 2, 2, 2, 2, 3] : List Int32).getD j 0
def am_kinds (j : Nat) : Int32 := ([103, 108, 100, 112, 116, 115, 102, 109, 111, 118, 120, 114, 105, 101, 113] : List Int32).getD j 0
def am_ro : am_H := [.inl (0, (10, .inl am_roots)), .inl (1, (15, .inl am_kinds))]
def am_sts : List (String × String × String) := [("ToolrestMill", "ROOTS", "[I"), ("ToolrestMill", "KINDS", "[C")]
abbrev am_Run : Nat → am_C := am_Ex am_G am_ro am_ft am_df
theorem t0_0 : (am_G 0).2.2.2.2.1 0 = (.aload_n 0, 1, 0, 0) := rfl
theorem t0_1 : (am_G 0).2.2.2.2.1 1 = (.invokespecial 3, 4, 0, 2) := rfl
theorem t0_4 : (am_G 0).2.2.2.2.1 4 = (.aload_n 0, 5, 0, 0) := rfl
theorem t0_5 : (am_G 0).2.2.2.2.1 5 = (.bipush 72, 7, 72, 0) := rfl
theorem t0_7 : (am_G 0).2.2.2.2.1 7 = (.newarray .int, 9, 0, 0) := rfl
theorem t0_9 : (am_G 0).2.2.2.2.1 9 = (.putfield 9, 12, 0, 0) := rfl
theorem t0_12 : (am_G 0).2.2.2.2.1 12 = (.return_, 13, 0, 0) := rfl
theorem t1_0 : (am_G 1).2.2.2.2.1 0 = (.iconst 0, 1, 0, 0) := rfl
theorem t1_1 : (am_G 1).2.2.2.2.1 1 = (.istore_n 1, 2, 1, 0) := rfl
theorem t1_2 : (am_G 1).2.2.2.2.1 2 = (.iload_n 1, 3, 1, 0) := rfl
theorem t1_3 : (am_G 1).2.2.2.2.1 3 = (.aload_n 0, 4, 0, 0) := rfl
theorem t1_4 : (am_G 1).2.2.2.2.1 4 = (.getfield 9, 7, 0, 0) := rfl
theorem t1_7 : (am_G 1).2.2.2.2.1 7 = (.arraylength, 8, 0, 0) := rfl
theorem t1_8 : (am_G 1).2.2.2.2.1 8 = (.if_icmp .ge 17, 11, 25, 0) := rfl
theorem t1_11 : (am_G 1).2.2.2.2.1 11 = (.aload_n 0, 12, 0, 0) := rfl
theorem t1_12 : (am_G 1).2.2.2.2.1 12 = (.getfield 9, 15, 0, 0) := rfl
theorem t1_15 : (am_G 1).2.2.2.2.1 15 = (.iload_n 1, 16, 1, 0) := rfl
theorem t1_16 : (am_G 1).2.2.2.2.1 16 = (.ldc 15, 18, 65535, 0) := rfl
theorem t1_18 : (am_G 1).2.2.2.2.1 18 = (.iastore, 19, 0, 0) := rfl
theorem t1_19 : (am_G 1).2.2.2.2.1 19 = (.iinc 1 1, 22, 1, 1) := rfl
theorem t1_22 : (am_G 1).2.2.2.2.1 22 = (.goto (-20), 25, 2, 0) := rfl
theorem t1_25 : (am_G 1).2.2.2.2.1 25 = (.return_, 26, 0, 0) := rfl
theorem t2_0 : (am_G 2).2.2.2.2.1 0 = (.iload_n 1, 1, 1, 0) := rfl
theorem t2_1 : (am_G 2).2.2.2.2.1 1 = (.iload_n 2, 2, 2, 0) := rfl
theorem t2_2 : (am_G 2).2.2.2.2.1 2 = (.iload_n 3, 3, 3, 0) := rfl
theorem t2_3 : (am_G 2).2.2.2.2.1 3 = (.invokestatic 16, 6, 85, 1) := rfl
theorem t2_6 : (am_G 2).2.2.2.2.1 6 = (.ifCond .eq 25, 9, 31, 0) := rfl
theorem t2_9 : (am_G 2).2.2.2.2.1 9 = (.aload_n 0, 10, 0, 0) := rfl
theorem t2_10 : (am_G 2).2.2.2.2.1 10 = (.getfield 9, 13, 0, 0) := rfl
theorem t2_13 : (am_G 2).2.2.2.2.1 13 = (.iload_n 3, 14, 3, 0) := rfl
theorem t2_14 : (am_G 2).2.2.2.2.1 14 = (.bipush 12, 16, 12, 0) := rfl
theorem t2_16 : (am_G 2).2.2.2.2.1 16 = (.imul, 17, 0, 0) := rfl
theorem t2_17 : (am_G 2).2.2.2.2.1 17 = (.iload_n 2, 18, 2, 0) := rfl
theorem t2_18 : (am_G 2).2.2.2.2.1 18 = (.iadd, 19, 0, 0) := rfl
theorem t2_19 : (am_G 2).2.2.2.2.1 19 = (.iaload, 20, 0, 0) := rfl
theorem t2_20 : (am_G 2).2.2.2.2.1 20 = (.iconst 1, 21, 1, 0) := rfl
theorem t2_21 : (am_G 2).2.2.2.2.1 21 = (.iload_n 1, 22, 1, 0) := rfl
theorem t2_22 : (am_G 2).2.2.2.2.1 22 = (.ishl, 23, 0, 0) := rfl
theorem t2_23 : (am_G 2).2.2.2.2.1 23 = (.iand, 24, 0, 0) := rfl
theorem t2_24 : (am_G 2).2.2.2.2.1 24 = (.ifCond .eq 7, 27, 31, 0) := rfl
theorem t2_27 : (am_G 2).2.2.2.2.1 27 = (.iconst 1, 28, 1, 0) := rfl
theorem t2_28 : (am_G 2).2.2.2.2.1 28 = (.goto 4, 31, 32, 0) := rfl
theorem t2_31 : (am_G 2).2.2.2.2.1 31 = (.iconst 0, 32, 0, 0) := rfl
theorem t2_32 : (am_G 2).2.2.2.2.1 32 = (.ireturn, 33, 0, 0) := rfl
theorem t3_0 : (am_G 3).2.2.2.2.1 0 = (.iload_n 1, 1, 1, 0) := rfl
theorem t3_1 : (am_G 3).2.2.2.2.1 1 = (.iload_n 2, 2, 2, 0) := rfl
theorem t3_2 : (am_G 3).2.2.2.2.1 2 = (.iload_n 3, 3, 3, 0) := rfl
theorem t3_3 : (am_G 3).2.2.2.2.1 3 = (.invokestatic 16, 6, 85, 1) := rfl
theorem t3_6 : (am_G 3).2.2.2.2.1 6 = (.ifCond .ne 4, 9, 10, 0) := rfl
theorem t3_9 : (am_G 3).2.2.2.2.1 9 = (.return_, 10, 0, 0) := rfl
theorem t3_10 : (am_G 3).2.2.2.2.1 10 = (.iload_n 3, 11, 3, 0) := rfl
theorem t3_11 : (am_G 3).2.2.2.2.1 11 = (.bipush 12, 13, 12, 0) := rfl
theorem t3_13 : (am_G 3).2.2.2.2.1 13 = (.imul, 14, 0, 0) := rfl
theorem t3_14 : (am_G 3).2.2.2.2.1 14 = (.iload_n 2, 15, 2, 0) := rfl
theorem t3_15 : (am_G 3).2.2.2.2.1 15 = (.iadd, 16, 0, 0) := rfl
theorem t3_16 : (am_G 3).2.2.2.2.1 16 = (.istore 5, 18, 5, 0) := rfl
theorem t3_18 : (am_G 3).2.2.2.2.1 18 = (.aload_n 0, 19, 0, 0) := rfl
theorem t3_19 : (am_G 3).2.2.2.2.1 19 = (.getfield 9, 22, 0, 0) := rfl
theorem t3_22 : (am_G 3).2.2.2.2.1 22 = (.iload 5, 24, 5, 0) := rfl
theorem t3_24 : (am_G 3).2.2.2.2.1 24 = (.iload 4, 26, 4, 0) := rfl
theorem t3_26 : (am_G 3).2.2.2.2.1 26 = (.ifCond .eq 17, 29, 43, 0) := rfl
theorem t3_29 : (am_G 3).2.2.2.2.1 29 = (.aload_n 0, 30, 0, 0) := rfl
theorem t3_30 : (am_G 3).2.2.2.2.1 30 = (.getfield 9, 33, 0, 0) := rfl
theorem t3_33 : (am_G 3).2.2.2.2.1 33 = (.iload 5, 35, 5, 0) := rfl
theorem t3_35 : (am_G 3).2.2.2.2.1 35 = (.iaload, 36, 0, 0) := rfl
theorem t3_36 : (am_G 3).2.2.2.2.1 36 = (.iconst 1, 37, 1, 0) := rfl
theorem t3_37 : (am_G 3).2.2.2.2.1 37 = (.iload_n 1, 38, 1, 0) := rfl
theorem t3_38 : (am_G 3).2.2.2.2.1 38 = (.ishl, 39, 0, 0) := rfl
theorem t3_39 : (am_G 3).2.2.2.2.1 39 = (.ior, 40, 0, 0) := rfl
theorem t3_40 : (am_G 3).2.2.2.2.1 40 = (.goto 16, 43, 56, 0) := rfl
theorem t3_43 : (am_G 3).2.2.2.2.1 43 = (.aload_n 0, 44, 0, 0) := rfl
theorem t3_44 : (am_G 3).2.2.2.2.1 44 = (.getfield 9, 47, 0, 0) := rfl
theorem t3_47 : (am_G 3).2.2.2.2.1 47 = (.iload 5, 49, 5, 0) := rfl
theorem t3_49 : (am_G 3).2.2.2.2.1 49 = (.iaload, 50, 0, 0) := rfl
theorem t3_50 : (am_G 3).2.2.2.2.1 50 = (.iconst 1, 51, 1, 0) := rfl
theorem t3_51 : (am_G 3).2.2.2.2.1 51 = (.iload_n 1, 52, 1, 0) := rfl
theorem t3_52 : (am_G 3).2.2.2.2.1 52 = (.ishl, 53, 0, 0) := rfl
theorem t3_53 : (am_G 3).2.2.2.2.1 53 = (.iconst (-1), 54, 4294967295, 0) := rfl
theorem t3_54 : (am_G 3).2.2.2.2.1 54 = (.ixor, 55, 0, 0) := rfl
theorem t3_55 : (am_G 3).2.2.2.2.1 55 = (.iand, 56, 0, 0) := rfl
theorem t3_56 : (am_G 3).2.2.2.2.1 56 = (.iastore, 57, 0, 0) := rfl
theorem t3_57 : (am_G 3).2.2.2.2.1 57 = (.return_, 58, 0, 0) := rfl
theorem t4_0 : (am_G 4).2.2.2.2.1 0 = (.iconst 0, 1, 0, 0) := rfl
theorem t4_1 : (am_G 4).2.2.2.2.1 1 = (.istore_n 1, 2, 1, 0) := rfl
theorem t4_2 : (am_G 4).2.2.2.2.1 2 = (.iconst 0, 3, 0, 0) := rfl
theorem t4_3 : (am_G 4).2.2.2.2.1 3 = (.istore_n 2, 4, 2, 0) := rfl
theorem t4_4 : (am_G 4).2.2.2.2.1 4 = (.iload_n 2, 5, 2, 0) := rfl
theorem t4_5 : (am_G 4).2.2.2.2.1 5 = (.aload_n 0, 6, 0, 0) := rfl
theorem t4_6 : (am_G 4).2.2.2.2.1 6 = (.getfield 9, 9, 0, 0) := rfl
theorem t4_9 : (am_G 4).2.2.2.2.1 9 = (.arraylength, 10, 0, 0) := rfl
theorem t4_10 : (am_G 4).2.2.2.2.1 10 = (.if_icmp .ge 21, 13, 31, 0) := rfl
theorem t4_13 : (am_G 4).2.2.2.2.1 13 = (.iload_n 1, 14, 1, 0) := rfl
theorem t4_14 : (am_G 4).2.2.2.2.1 14 = (.aload_n 0, 15, 0, 0) := rfl
theorem t4_15 : (am_G 4).2.2.2.2.1 15 = (.getfield 9, 18, 0, 0) := rfl
theorem t4_18 : (am_G 4).2.2.2.2.1 18 = (.iload_n 2, 19, 2, 0) := rfl
theorem t4_19 : (am_G 4).2.2.2.2.1 19 = (.iaload, 20, 0, 0) := rfl
theorem t4_20 : (am_G 4).2.2.2.2.1 20 = (.invokestatic 20, 23, 157, 0) := rfl
theorem t4_23 : (am_G 4).2.2.2.2.1 23 = (.iadd, 24, 0, 0) := rfl
theorem t4_24 : (am_G 4).2.2.2.2.1 24 = (.istore_n 1, 25, 1, 0) := rfl
theorem t4_25 : (am_G 4).2.2.2.2.1 25 = (.iinc 2 1, 28, 2, 1) := rfl
theorem t4_28 : (am_G 4).2.2.2.2.1 28 = (.goto (-24), 31, 4, 0) := rfl
theorem t4_31 : (am_G 4).2.2.2.2.1 31 = (.iload_n 1, 32, 1, 0) := rfl
theorem t4_32 : (am_G 4).2.2.2.2.1 32 = (.ireturn, 33, 0, 0) := rfl
theorem t5_0 : (am_G 5).2.2.2.2.1 0 = (.lconst 0, 1, 0, 0) := rfl
theorem t5_1 : (am_G 5).2.2.2.2.1 1 = (.lstore_n 1, 2, 1, 0) := rfl
theorem t5_2 : (am_G 5).2.2.2.2.1 2 = (.iconst 0, 3, 0, 0) := rfl
theorem t5_3 : (am_G 5).2.2.2.2.1 3 = (.istore_n 3, 4, 3, 0) := rfl
theorem t5_4 : (am_G 5).2.2.2.2.1 4 = (.iload_n 3, 5, 3, 0) := rfl
theorem t5_5 : (am_G 5).2.2.2.2.1 5 = (.aload_n 0, 6, 0, 0) := rfl
theorem t5_6 : (am_G 5).2.2.2.2.1 6 = (.getfield 9, 9, 0, 0) := rfl
theorem t5_9 : (am_G 5).2.2.2.2.1 9 = (.arraylength, 10, 0, 0) := rfl
theorem t5_10 : (am_G 5).2.2.2.2.1 10 = (.if_icmp .ge 59, 13, 69, 0) := rfl
theorem t5_13 : (am_G 5).2.2.2.2.1 13 = (.iconst 0, 14, 0, 0) := rfl
theorem t5_14 : (am_G 5).2.2.2.2.1 14 = (.istore 4, 16, 4, 0) := rfl
theorem t5_16 : (am_G 5).2.2.2.2.1 16 = (.iload 4, 18, 4, 0) := rfl
theorem t5_18 : (am_G 5).2.2.2.2.1 18 = (.bipush 16, 20, 16, 0) := rfl
theorem t5_20 : (am_G 5).2.2.2.2.1 20 = (.if_icmp .ge 43, 23, 63, 0) := rfl
theorem t5_23 : (am_G 5).2.2.2.2.1 23 = (.aload_n 0, 24, 0, 0) := rfl
theorem t5_24 : (am_G 5).2.2.2.2.1 24 = (.getfield 9, 27, 0, 0) := rfl
theorem t5_27 : (am_G 5).2.2.2.2.1 27 = (.iload_n 3, 28, 3, 0) := rfl
theorem t5_28 : (am_G 5).2.2.2.2.1 28 = (.iaload, 29, 0, 0) := rfl
theorem t5_29 : (am_G 5).2.2.2.2.1 29 = (.iconst 1, 30, 1, 0) := rfl
theorem t5_30 : (am_G 5).2.2.2.2.1 30 = (.iload 4, 32, 4, 0) := rfl
theorem t5_32 : (am_G 5).2.2.2.2.1 32 = (.ishl, 33, 0, 0) := rfl
theorem t5_33 : (am_G 5).2.2.2.2.1 33 = (.iand, 34, 0, 0) := rfl
theorem t5_34 : (am_G 5).2.2.2.2.1 34 = (.ifCond .eq 23, 37, 57, 0) := rfl
theorem t5_37 : (am_G 5).2.2.2.2.1 37 = (.iload 4, 39, 4, 0) := rfl
theorem t5_39 : (am_G 5).2.2.2.2.1 39 = (.bipush 16, 41, 16, 0) := rfl
theorem t5_41 : (am_G 5).2.2.2.2.1 41 = (.iload_n 3, 42, 3, 0) := rfl
theorem t5_42 : (am_G 5).2.2.2.2.1 42 = (.imul, 43, 0, 0) := rfl
theorem t5_43 : (am_G 5).2.2.2.2.1 43 = (.iadd, 44, 0, 0) := rfl
theorem t5_44 : (am_G 5).2.2.2.2.1 44 = (.iconst 1, 45, 1, 0) := rfl
theorem t5_45 : (am_G 5).2.2.2.2.1 45 = (.iadd, 46, 0, 0) := rfl
theorem t5_46 : (am_G 5).2.2.2.2.1 46 = (.i2l, 47, 0, 0) := rfl
theorem t5_47 : (am_G 5).2.2.2.2.1 47 = (.lstore 5, 49, 5, 0) := rfl
theorem t5_49 : (am_G 5).2.2.2.2.1 49 = (.lload_n 1, 50, 1, 0) := rfl
theorem t5_50 : (am_G 5).2.2.2.2.1 50 = (.lload 5, 52, 5, 0) := rfl
theorem t5_52 : (am_G 5).2.2.2.2.1 52 = (.lload 5, 54, 5, 0) := rfl
theorem t5_54 : (am_G 5).2.2.2.2.1 54 = (.lmul, 55, 0, 0) := rfl
theorem t5_55 : (am_G 5).2.2.2.2.1 55 = (.ladd, 56, 0, 0) := rfl
theorem t5_56 : (am_G 5).2.2.2.2.1 56 = (.lstore_n 1, 57, 1, 0) := rfl
theorem t5_57 : (am_G 5).2.2.2.2.1 57 = (.iinc 4 1, 60, 4, 1) := rfl
theorem t5_60 : (am_G 5).2.2.2.2.1 60 = (.goto (-44), 63, 16, 0) := rfl
theorem t5_63 : (am_G 5).2.2.2.2.1 63 = (.iinc 3 1, 66, 3, 1) := rfl
theorem t5_66 : (am_G 5).2.2.2.2.1 66 = (.goto (-62), 69, 4, 0) := rfl
theorem t5_69 : (am_G 5).2.2.2.2.1 69 = (.lload_n 1, 70, 1, 0) := rfl
theorem t5_70 : (am_G 5).2.2.2.2.1 70 = (.lreturn, 71, 0, 0) := rfl
theorem t6_0 : (am_G 6).2.2.2.2.1 0 = (.aload_n 0, 1, 0, 0) := rfl
theorem t6_1 : (am_G 6).2.2.2.2.1 1 = (.aload_n 1, 2, 1, 0) := rfl
theorem t6_2 : (am_G 6).2.2.2.2.1 2 = (.invokevirtual 26, 5, 7, 0) := rfl
theorem t6_5 : (am_G 6).2.2.2.2.1 5 = (.ifCond .eq 15, 8, 20, 0) := rfl
theorem t6_8 : (am_G 6).2.2.2.2.1 8 = (.aload_n 1, 9, 1, 0) := rfl
theorem t6_9 : (am_G 6).2.2.2.2.1 9 = (.aload_n 0, 10, 0, 0) := rfl
theorem t6_10 : (am_G 6).2.2.2.2.1 10 = (.invokevirtual 26, 13, 7, 0) := rfl
theorem t6_13 : (am_G 6).2.2.2.2.1 13 = (.ifCond .eq 7, 16, 20, 0) := rfl
theorem t6_16 : (am_G 6).2.2.2.2.1 16 = (.iconst 1, 17, 1, 0) := rfl
theorem t6_17 : (am_G 6).2.2.2.2.1 17 = (.goto 4, 20, 21, 0) := rfl
theorem t6_20 : (am_G 6).2.2.2.2.1 20 = (.iconst 0, 21, 0, 0) := rfl
theorem t6_21 : (am_G 6).2.2.2.2.1 21 = (.ireturn, 22, 0, 0) := rfl
theorem t7_0 : (am_G 7).2.2.2.2.1 0 = (.iconst 0, 1, 0, 0) := rfl
theorem t7_1 : (am_G 7).2.2.2.2.1 1 = (.istore_n 2, 2, 2, 0) := rfl
theorem t7_2 : (am_G 7).2.2.2.2.1 2 = (.iload_n 2, 3, 2, 0) := rfl
theorem t7_3 : (am_G 7).2.2.2.2.1 3 = (.aload_n 0, 4, 0, 0) := rfl
theorem t7_4 : (am_G 7).2.2.2.2.1 4 = (.getfield 9, 7, 0, 0) := rfl
theorem t7_7 : (am_G 7).2.2.2.2.1 7 = (.arraylength, 8, 0, 0) := rfl
theorem t7_8 : (am_G 7).2.2.2.2.1 8 = (.if_icmp .ge 29, 11, 37, 0) := rfl
theorem t7_11 : (am_G 7).2.2.2.2.1 11 = (.aload_n 1, 12, 1, 0) := rfl
theorem t7_12 : (am_G 7).2.2.2.2.1 12 = (.getfield 9, 15, 0, 0) := rfl
theorem t7_15 : (am_G 7).2.2.2.2.1 15 = (.iload_n 2, 16, 2, 0) := rfl
theorem t7_16 : (am_G 7).2.2.2.2.1 16 = (.iaload, 17, 0, 0) := rfl
theorem t7_17 : (am_G 7).2.2.2.2.1 17 = (.aload_n 0, 18, 0, 0) := rfl
theorem t7_18 : (am_G 7).2.2.2.2.1 18 = (.getfield 9, 21, 0, 0) := rfl
theorem t7_21 : (am_G 7).2.2.2.2.1 21 = (.iload_n 2, 22, 2, 0) := rfl
theorem t7_22 : (am_G 7).2.2.2.2.1 22 = (.iaload, 23, 0, 0) := rfl
theorem t7_23 : (am_G 7).2.2.2.2.1 23 = (.iconst (-1), 24, 4294967295, 0) := rfl
theorem t7_24 : (am_G 7).2.2.2.2.1 24 = (.ixor, 25, 0, 0) := rfl
theorem t7_25 : (am_G 7).2.2.2.2.1 25 = (.iand, 26, 0, 0) := rfl
theorem t7_26 : (am_G 7).2.2.2.2.1 26 = (.ifCond .eq 5, 29, 31, 0) := rfl
theorem t7_29 : (am_G 7).2.2.2.2.1 29 = (.iconst 0, 30, 0, 0) := rfl
theorem t7_30 : (am_G 7).2.2.2.2.1 30 = (.ireturn, 31, 0, 0) := rfl
theorem t7_31 : (am_G 7).2.2.2.2.1 31 = (.iinc 2 1, 34, 2, 1) := rfl
theorem t7_34 : (am_G 7).2.2.2.2.1 34 = (.goto (-32), 37, 2, 0) := rfl
theorem t7_37 : (am_G 7).2.2.2.2.1 37 = (.iconst 1, 38, 1, 0) := rfl
theorem t7_38 : (am_G 7).2.2.2.2.1 38 = (.ireturn, 39, 0, 0) := rfl
theorem t8_0 : (am_G 8).2.2.2.2.1 0 = (.aload_n 1, 1, 1, 0) := rfl
theorem t8_1 : (am_G 8).2.2.2.2.1 1 = (.invokevirtual 30, 4, 66, 6) := rfl
theorem t8_4 : (am_G 8).2.2.2.2.1 4 = (.istore_n 2, 5, 2, 0) := rfl
theorem t8_5 : (am_G 8).2.2.2.2.1 5 = (.aload_n 1, 6, 1, 0) := rfl
theorem t8_6 : (am_G 8).2.2.2.2.1 6 = (.invokevirtual 36, 9, 64, 6) := rfl
theorem t8_9 : (am_G 8).2.2.2.2.1 9 = (.istore_n 3, 10, 3, 0) := rfl
theorem t8_10 : (am_G 8).2.2.2.2.1 10 = (.iload_n 3, 11, 3, 0) := rfl
theorem t8_11 : (am_G 8).2.2.2.2.1 11 = (.bipush 6, 13, 6, 0) := rfl
theorem t8_13 : (am_G 8).2.2.2.2.1 13 = (.if_icmp .ge 60, 16, 73, 0) := rfl
theorem t8_16 : (am_G 8).2.2.2.2.1 16 = (.aload_n 1, 17, 1, 0) := rfl
theorem t8_17 : (am_G 8).2.2.2.2.1 17 = (.iload_n 3, 18, 3, 0) := rfl
theorem t8_18 : (am_G 8).2.2.2.2.1 18 = (.invokevirtual 39, 21, 67, 6) := rfl
theorem t8_21 : (am_G 8).2.2.2.2.1 21 = (.istore 4, 23, 4, 0) := rfl
theorem t8_23 : (am_G 8).2.2.2.2.1 23 = (.aload_n 1, 24, 1, 0) := rfl
theorem t8_24 : (am_G 8).2.2.2.2.1 24 = (.invokevirtual 42, 27, 65, 6) := rfl
theorem t8_27 : (am_G 8).2.2.2.2.1 27 = (.istore 5, 29, 5, 0) := rfl
theorem t8_29 : (am_G 8).2.2.2.2.1 29 = (.iload 5, 31, 5, 0) := rfl
theorem t8_31 : (am_G 8).2.2.2.2.1 31 = (.iload_n 2, 32, 2, 0) := rfl
theorem t8_32 : (am_G 8).2.2.2.2.1 32 = (.if_icmp .gt 35, 35, 67, 0) := rfl
theorem t8_35 : (am_G 8).2.2.2.2.1 35 = (.aload_n 0, 36, 0, 0) := rfl
theorem t8_36 : (am_G 8).2.2.2.2.1 36 = (.getfield 9, 39, 0, 0) := rfl
theorem t8_39 : (am_G 8).2.2.2.2.1 39 = (.iload_n 3, 40, 3, 0) := rfl
theorem t8_40 : (am_G 8).2.2.2.2.1 40 = (.bipush 12, 42, 12, 0) := rfl
theorem t8_42 : (am_G 8).2.2.2.2.1 42 = (.imul, 43, 0, 0) := rfl
theorem t8_43 : (am_G 8).2.2.2.2.1 43 = (.iload 5, 45, 5, 0) := rfl
theorem t8_45 : (am_G 8).2.2.2.2.1 45 = (.iadd, 46, 0, 0) := rfl
theorem t8_46 : (am_G 8).2.2.2.2.1 46 = (.iaload, 47, 0, 0) := rfl
theorem t8_47 : (am_G 8).2.2.2.2.1 47 = (.aload_n 1, 48, 1, 0) := rfl
theorem t8_48 : (am_G 8).2.2.2.2.1 48 = (.iload 5, 50, 5, 0) := rfl
theorem t8_50 : (am_G 8).2.2.2.2.1 50 = (.iload 4, 52, 4, 0) := rfl
theorem t8_52 : (am_G 8).2.2.2.2.1 52 = (.invokevirtual 45, 55, 68, 6) := rfl
theorem t8_55 : (am_G 8).2.2.2.2.1 55 = (.iand, 56, 0, 0) := rfl
theorem t8_56 : (am_G 8).2.2.2.2.1 56 = (.ifCond .eq 5, 59, 61, 0) := rfl
theorem t8_59 : (am_G 8).2.2.2.2.1 59 = (.iconst 1, 60, 1, 0) := rfl
theorem t8_60 : (am_G 8).2.2.2.2.1 60 = (.ireturn, 61, 0, 0) := rfl
theorem t8_61 : (am_G 8).2.2.2.2.1 61 = (.iinc 5 1, 64, 5, 1) := rfl
theorem t8_64 : (am_G 8).2.2.2.2.1 64 = (.goto (-35), 67, 29, 0) := rfl
theorem t8_67 : (am_G 8).2.2.2.2.1 67 = (.iinc 3 1, 70, 3, 1) := rfl
theorem t8_70 : (am_G 8).2.2.2.2.1 70 = (.goto (-60), 73, 10, 0) := rfl
theorem t8_73 : (am_G 8).2.2.2.2.1 73 = (.iconst 0, 74, 0, 0) := rfl
theorem t8_74 : (am_G 8).2.2.2.2.1 74 = (.ireturn, 75, 0, 0) := rfl
theorem t9_0 : (am_G 9).2.2.2.2.1 0 = (.iconst 0, 1, 0, 0) := rfl
theorem t9_1 : (am_G 9).2.2.2.2.1 1 = (.istore_n 2, 2, 2, 0) := rfl
theorem t9_2 : (am_G 9).2.2.2.2.1 2 = (.aload_n 1, 3, 1, 0) := rfl
theorem t9_3 : (am_G 9).2.2.2.2.1 3 = (.invokevirtual 30, 6, 66, 6) := rfl
theorem t9_6 : (am_G 9).2.2.2.2.1 6 = (.istore_n 3, 7, 3, 0) := rfl
theorem t9_7 : (am_G 9).2.2.2.2.1 7 = (.aload_n 1, 8, 1, 0) := rfl
theorem t9_8 : (am_G 9).2.2.2.2.1 8 = (.invokevirtual 36, 11, 64, 6) := rfl
theorem t9_11 : (am_G 9).2.2.2.2.1 11 = (.istore 4, 13, 4, 0) := rfl
theorem t9_13 : (am_G 9).2.2.2.2.1 13 = (.iload 4, 15, 4, 0) := rfl
theorem t9_15 : (am_G 9).2.2.2.2.1 15 = (.bipush 6, 17, 6, 0) := rfl
theorem t9_17 : (am_G 9).2.2.2.2.1 17 = (.if_icmp .ge 83, 20, 100, 0) := rfl
theorem t9_20 : (am_G 9).2.2.2.2.1 20 = (.aload_n 1, 21, 1, 0) := rfl
theorem t9_21 : (am_G 9).2.2.2.2.1 21 = (.iload 4, 23, 4, 0) := rfl
theorem t9_23 : (am_G 9).2.2.2.2.1 23 = (.invokevirtual 39, 26, 67, 6) := rfl
theorem t9_26 : (am_G 9).2.2.2.2.1 26 = (.istore 5, 28, 5, 0) := rfl
theorem t9_28 : (am_G 9).2.2.2.2.1 28 = (.aload_n 1, 29, 1, 0) := rfl
theorem t9_29 : (am_G 9).2.2.2.2.1 29 = (.invokevirtual 42, 32, 65, 6) := rfl
theorem t9_32 : (am_G 9).2.2.2.2.1 32 = (.istore 6, 34, 6, 0) := rfl
theorem t9_34 : (am_G 9).2.2.2.2.1 34 = (.iload 6, 36, 6, 0) := rfl
theorem t9_36 : (am_G 9).2.2.2.2.1 36 = (.iload_n 3, 37, 3, 0) := rfl
theorem t9_37 : (am_G 9).2.2.2.2.1 37 = (.if_icmp .gt 57, 40, 94, 0) := rfl
theorem t9_40 : (am_G 9).2.2.2.2.1 40 = (.iload 4, 42, 4, 0) := rfl
theorem t9_42 : (am_G 9).2.2.2.2.1 42 = (.bipush 12, 44, 12, 0) := rfl
theorem t9_44 : (am_G 9).2.2.2.2.1 44 = (.imul, 45, 0, 0) := rfl
theorem t9_45 : (am_G 9).2.2.2.2.1 45 = (.iload 6, 47, 6, 0) := rfl
theorem t9_47 : (am_G 9).2.2.2.2.1 47 = (.iadd, 48, 0, 0) := rfl
theorem t9_48 : (am_G 9).2.2.2.2.1 48 = (.istore 7, 50, 7, 0) := rfl
theorem t9_50 : (am_G 9).2.2.2.2.1 50 = (.aload_n 0, 51, 0, 0) := rfl
theorem t9_51 : (am_G 9).2.2.2.2.1 51 = (.getfield 9, 54, 0, 0) := rfl
theorem t9_54 : (am_G 9).2.2.2.2.1 54 = (.iload 7, 56, 7, 0) := rfl
theorem t9_56 : (am_G 9).2.2.2.2.1 56 = (.iaload, 57, 0, 0) := rfl
theorem t9_57 : (am_G 9).2.2.2.2.1 57 = (.aload_n 1, 58, 1, 0) := rfl
theorem t9_58 : (am_G 9).2.2.2.2.1 58 = (.iload 6, 60, 6, 0) := rfl
theorem t9_60 : (am_G 9).2.2.2.2.1 60 = (.iload 5, 62, 5, 0) := rfl
theorem t9_62 : (am_G 9).2.2.2.2.1 62 = (.invokevirtual 45, 65, 68, 6) := rfl
theorem t9_65 : (am_G 9).2.2.2.2.1 65 = (.iand, 66, 0, 0) := rfl
theorem t9_66 : (am_G 9).2.2.2.2.1 66 = (.istore 8, 68, 8, 0) := rfl
theorem t9_68 : (am_G 9).2.2.2.2.1 68 = (.iload_n 2, 69, 2, 0) := rfl
theorem t9_69 : (am_G 9).2.2.2.2.1 69 = (.iload 8, 71, 8, 0) := rfl
theorem t9_71 : (am_G 9).2.2.2.2.1 71 = (.invokestatic 20, 74, 157, 0) := rfl
theorem t9_74 : (am_G 9).2.2.2.2.1 74 = (.iadd, 75, 0, 0) := rfl
theorem t9_75 : (am_G 9).2.2.2.2.1 75 = (.istore_n 2, 76, 2, 0) := rfl
theorem t9_76 : (am_G 9).2.2.2.2.1 76 = (.aload_n 0, 77, 0, 0) := rfl
theorem t9_77 : (am_G 9).2.2.2.2.1 77 = (.getfield 9, 80, 0, 0) := rfl
theorem t9_80 : (am_G 9).2.2.2.2.1 80 = (.iload 7, 82, 7, 0) := rfl
theorem t9_82 : (am_G 9).2.2.2.2.1 82 = (.dup2, 83, 0, 0) := rfl
theorem t9_83 : (am_G 9).2.2.2.2.1 83 = (.iaload, 84, 0, 0) := rfl
theorem t9_84 : (am_G 9).2.2.2.2.1 84 = (.iload 8, 86, 8, 0) := rfl
theorem t9_86 : (am_G 9).2.2.2.2.1 86 = (.isub, 87, 0, 0) := rfl
theorem t9_87 : (am_G 9).2.2.2.2.1 87 = (.iastore, 88, 0, 0) := rfl
theorem t9_88 : (am_G 9).2.2.2.2.1 88 = (.iinc 6 1, 91, 6, 1) := rfl
theorem t9_91 : (am_G 9).2.2.2.2.1 91 = (.goto (-57), 94, 34, 0) := rfl
theorem t9_94 : (am_G 9).2.2.2.2.1 94 = (.iinc 4 1, 97, 4, 1) := rfl
theorem t9_97 : (am_G 9).2.2.2.2.1 97 = (.goto (-84), 100, 13, 0) := rfl
theorem t9_100 : (am_G 9).2.2.2.2.1 100 = (.iload_n 2, 101, 2, 0) := rfl
theorem t9_101 : (am_G 9).2.2.2.2.1 101 = (.ireturn, 102, 0, 0) := rfl
theorem t10_0 : (am_G 10).2.2.2.2.1 0 = (.aload_n 0, 1, 0, 0) := rfl
theorem t10_1 : (am_G 10).2.2.2.2.1 1 = (.invokespecial 3, 4, 0, 2) := rfl
theorem t10_4 : (am_G 10).2.2.2.2.1 4 = (.aload_n 0, 5, 0, 0) := rfl
theorem t10_5 : (am_G 10).2.2.2.2.1 5 = (.new 9, 8, 0, 1) := rfl
theorem t10_8 : (am_G 10).2.2.2.2.1 8 = (.dup, 9, 0, 0) := rfl
theorem t10_9 : (am_G 10).2.2.2.2.1 9 = (.invokespecial 11, 12, 0, 1) := rfl
theorem t10_12 : (am_G 10).2.2.2.2.1 12 = (.putfield 12, 15, 1, 1) := rfl
theorem t10_15 : (am_G 10).2.2.2.2.1 15 = (.aload_n 0, 16, 0, 0) := rfl
theorem t10_16 : (am_G 10).2.2.2.2.1 16 = (.bipush 12, 18, 12, 0) := rfl
theorem t10_18 : (am_G 10).2.2.2.2.1 18 = (.newarray .int, 20, 0, 0) := rfl
theorem t10_20 : (am_G 10).2.2.2.2.1 20 = (.putfield 18, 23, 1, 2) := rfl
theorem t10_23 : (am_G 10).2.2.2.2.1 23 = (.aload_n 0, 24, 0, 0) := rfl
theorem t10_24 : (am_G 10).2.2.2.2.1 24 = (.bipush 8, 26, 8, 0) := rfl
theorem t10_26 : (am_G 10).2.2.2.2.1 26 = (.newarray .int, 28, 0, 0) := rfl
theorem t10_28 : (am_G 10).2.2.2.2.1 28 = (.putfield 22, 31, 1, 3) := rfl
theorem t10_31 : (am_G 10).2.2.2.2.1 31 = (.aload_n 0, 32, 0, 0) := rfl
theorem t10_32 : (am_G 10).2.2.2.2.1 32 = (.iconst 3, 33, 3, 0) := rfl
theorem t10_33 : (am_G 10).2.2.2.2.1 33 = (.newarray .int, 35, 0, 0) := rfl
theorem t10_35 : (am_G 10).2.2.2.2.1 35 = (.putfield 25, 38, 1, 4) := rfl
theorem t10_38 : (am_G 10).2.2.2.2.1 38 = (.aload_n 0, 39, 0, 0) := rfl
theorem t10_39 : (am_G 10).2.2.2.2.1 39 = (.bipush 64, 41, 64, 0) := rfl
theorem t10_41 : (am_G 10).2.2.2.2.1 41 = (.newarray .int, 43, 0, 0) := rfl
theorem t10_43 : (am_G 10).2.2.2.2.1 43 = (.putfield 28, 46, 1, 5) := rfl
theorem t10_46 : (am_G 10).2.2.2.2.1 46 = (.aload_n 0, 47, 0, 0) := rfl
theorem t10_47 : (am_G 10).2.2.2.2.1 47 = (.new 31, 50, 3, 4) := rfl
theorem t10_50 : (am_G 10).2.2.2.2.1 50 = (.dup, 51, 0, 0) := rfl
theorem t10_51 : (am_G 10).2.2.2.2.1 51 = (.invokespecial 33, 54, 41, 1) := rfl
theorem t10_54 : (am_G 10).2.2.2.2.1 54 = (.putfield 34, 57, 1, 6) := rfl
theorem t10_57 : (am_G 10).2.2.2.2.1 57 = (.aload_n 0, 58, 0, 0) := rfl
theorem t10_58 : (am_G 10).2.2.2.2.1 58 = (.new 38, 61, 6, 5) := rfl
theorem t10_61 : (am_G 10).2.2.2.2.1 61 = (.dup, 62, 0, 0) := rfl
theorem t10_62 : (am_G 10).2.2.2.2.1 62 = (.invokespecial 40, 65, 61, 1) := rfl
theorem t10_65 : (am_G 10).2.2.2.2.1 65 = (.putfield 41, 68, 1, 7) := rfl
theorem t10_68 : (am_G 10).2.2.2.2.1 68 = (.aload_n 0, 69, 0, 0) := rfl
theorem t10_69 : (am_G 10).2.2.2.2.1 69 = (.aload_n 1, 70, 1, 0) := rfl
theorem t10_70 : (am_G 10).2.2.2.2.1 70 = (.putfield 45, 73, 1, 0) := rfl
theorem t10_73 : (am_G 10).2.2.2.2.1 73 = (.aload_n 0, 74, 0, 0) := rfl
theorem t10_74 : (am_G 10).2.2.2.2.1 74 = (.invokevirtual 49, 77, 11, 1) := rfl
theorem t10_77 : (am_G 10).2.2.2.2.1 77 = (.return_, 78, 0, 0) := rfl
theorem t11_0 : (am_G 11).2.2.2.2.1 0 = (.aload_n 0, 1, 0, 0) := rfl
theorem t11_1 : (am_G 11).2.2.2.2.1 1 = (.getfield 12, 4, 1, 1) := rfl
theorem t11_4 : (am_G 11).2.2.2.2.1 4 = (.invokevirtual 52, 7, 1, 0) := rfl
theorem t11_7 : (am_G 11).2.2.2.2.1 7 = (.iconst 0, 8, 0, 0) := rfl
theorem t11_8 : (am_G 11).2.2.2.2.1 8 = (.istore_n 1, 9, 1, 0) := rfl
theorem t11_9 : (am_G 11).2.2.2.2.1 9 = (.iload_n 1, 10, 1, 0) := rfl
theorem t11_10 : (am_G 11).2.2.2.2.1 10 = (.bipush 12, 12, 12, 0) := rfl
theorem t11_12 : (am_G 11).2.2.2.2.1 12 = (.if_icmp .ge 16, 15, 28, 0) := rfl
theorem t11_15 : (am_G 11).2.2.2.2.1 15 = (.aload_n 0, 16, 0, 0) := rfl
theorem t11_16 : (am_G 11).2.2.2.2.1 16 = (.getfield 18, 19, 1, 2) := rfl
theorem t11_19 : (am_G 11).2.2.2.2.1 19 = (.iload_n 1, 20, 1, 0) := rfl
theorem t11_20 : (am_G 11).2.2.2.2.1 20 = (.iconst 0, 21, 0, 0) := rfl
theorem t11_21 : (am_G 11).2.2.2.2.1 21 = (.iastore, 22, 0, 0) := rfl
theorem t11_22 : (am_G 11).2.2.2.2.1 22 = (.iinc 1 1, 25, 1, 1) := rfl
theorem t11_25 : (am_G 11).2.2.2.2.1 25 = (.goto (-16), 28, 9, 0) := rfl
theorem t11_28 : (am_G 11).2.2.2.2.1 28 = (.iconst 0, 29, 0, 0) := rfl
theorem t11_29 : (am_G 11).2.2.2.2.1 29 = (.istore_n 1, 30, 1, 0) := rfl
theorem t11_30 : (am_G 11).2.2.2.2.1 30 = (.iload_n 1, 31, 1, 0) := rfl
theorem t11_31 : (am_G 11).2.2.2.2.1 31 = (.bipush 8, 33, 8, 0) := rfl
theorem t11_33 : (am_G 11).2.2.2.2.1 33 = (.if_icmp .ge 16, 36, 49, 0) := rfl
theorem t11_36 : (am_G 11).2.2.2.2.1 36 = (.aload_n 0, 37, 0, 0) := rfl
theorem t11_37 : (am_G 11).2.2.2.2.1 37 = (.getfield 22, 40, 1, 3) := rfl
theorem t11_40 : (am_G 11).2.2.2.2.1 40 = (.iload_n 1, 41, 1, 0) := rfl
theorem t11_41 : (am_G 11).2.2.2.2.1 41 = (.iconst 0, 42, 0, 0) := rfl
theorem t11_42 : (am_G 11).2.2.2.2.1 42 = (.iastore, 43, 0, 0) := rfl
theorem t11_43 : (am_G 11).2.2.2.2.1 43 = (.iinc 1 1, 46, 1, 1) := rfl
theorem t11_46 : (am_G 11).2.2.2.2.1 46 = (.goto (-16), 49, 30, 0) := rfl
theorem t11_49 : (am_G 11).2.2.2.2.1 49 = (.aload_n 0, 50, 0, 0) := rfl
theorem t11_50 : (am_G 11).2.2.2.2.1 50 = (.getfield 25, 53, 1, 4) := rfl
theorem t11_53 : (am_G 11).2.2.2.2.1 53 = (.iconst 0, 54, 0, 0) := rfl
theorem t11_54 : (am_G 11).2.2.2.2.1 54 = (.iconst 0, 55, 0, 0) := rfl
theorem t11_55 : (am_G 11).2.2.2.2.1 55 = (.iastore, 56, 0, 0) := rfl
theorem t11_56 : (am_G 11).2.2.2.2.1 56 = (.aload_n 0, 57, 0, 0) := rfl
theorem t11_57 : (am_G 11).2.2.2.2.1 57 = (.getfield 25, 60, 1, 4) := rfl
theorem t11_60 : (am_G 11).2.2.2.2.1 60 = (.iconst 1, 61, 1, 0) := rfl
theorem t11_61 : (am_G 11).2.2.2.2.1 61 = (.iconst 0, 62, 0, 0) := rfl
theorem t11_62 : (am_G 11).2.2.2.2.1 62 = (.iastore, 63, 0, 0) := rfl
theorem t11_63 : (am_G 11).2.2.2.2.1 63 = (.aload_n 0, 64, 0, 0) := rfl
theorem t11_64 : (am_G 11).2.2.2.2.1 64 = (.getfield 25, 67, 1, 4) := rfl
theorem t11_67 : (am_G 11).2.2.2.2.1 67 = (.iconst 2, 68, 2, 0) := rfl
theorem t11_68 : (am_G 11).2.2.2.2.1 68 = (.bipush 9, 70, 9, 0) := rfl
theorem t11_70 : (am_G 11).2.2.2.2.1 70 = (.iastore, 71, 0, 0) := rfl
theorem t11_71 : (am_G 11).2.2.2.2.1 71 = (.aload_n 0, 72, 0, 0) := rfl
theorem t11_72 : (am_G 11).2.2.2.2.1 72 = (.iconst 0, 73, 0, 0) := rfl
theorem t11_73 : (am_G 11).2.2.2.2.1 73 = (.putfield 55, 76, 1, 8) := rfl
theorem t11_76 : (am_G 11).2.2.2.2.1 76 = (.aload_n 0, 77, 0, 0) := rfl
theorem t11_77 : (am_G 11).2.2.2.2.1 77 = (.iconst 0, 78, 0, 0) := rfl
theorem t11_78 : (am_G 11).2.2.2.2.1 78 = (.putfield 59, 81, 1, 9) := rfl
theorem t11_81 : (am_G 11).2.2.2.2.1 81 = (.aload_n 0, 82, 0, 0) := rfl
theorem t11_82 : (am_G 11).2.2.2.2.1 82 = (.iconst (-1), 83, 4294967295, 0) := rfl
theorem t11_83 : (am_G 11).2.2.2.2.1 83 = (.putfield 62, 86, 1, 10) := rfl
theorem t11_86 : (am_G 11).2.2.2.2.1 86 = (.aload_n 0, 87, 0, 0) := rfl
theorem t11_87 : (am_G 11).2.2.2.2.1 87 = (.fconst 0, 88, 0, 0) := rfl
theorem t11_88 : (am_G 11).2.2.2.2.1 88 = (.putfield 65, 91, 1, 11) := rfl
theorem t11_91 : (am_G 11).2.2.2.2.1 91 = (.aload_n 0, 92, 0, 0) := rfl
theorem t11_92 : (am_G 11).2.2.2.2.1 92 = (.bipush 10, 94, 10, 0) := rfl
theorem t11_94 : (am_G 11).2.2.2.2.1 94 = (.putfield 69, 97, 1, 12) := rfl
theorem t11_97 : (am_G 11).2.2.2.2.1 97 = (.aload_n 0, 98, 0, 0) := rfl
theorem t11_98 : (am_G 11).2.2.2.2.1 98 = (.iconst 0, 99, 0, 0) := rfl
theorem t11_99 : (am_G 11).2.2.2.2.1 99 = (.putfield 72, 102, 1, 13) := rfl
theorem t11_102 : (am_G 11).2.2.2.2.1 102 = (.aload_n 0, 103, 0, 0) := rfl
theorem t11_103 : (am_G 11).2.2.2.2.1 103 = (.iconst 0, 104, 0, 0) := rfl
theorem t11_104 : (am_G 11).2.2.2.2.1 104 = (.putfield 75, 107, 1, 14) := rfl
theorem t11_107 : (am_G 11).2.2.2.2.1 107 = (.aload_n 0, 108, 0, 0) := rfl
theorem t11_108 : (am_G 11).2.2.2.2.1 108 = (.iconst 0, 109, 0, 0) := rfl
theorem t11_109 : (am_G 11).2.2.2.2.1 109 = (.putfield 79, 112, 1, 15) := rfl
theorem t11_112 : (am_G 11).2.2.2.2.1 112 = (.aload_n 0, 113, 0, 0) := rfl
theorem t11_113 : (am_G 11).2.2.2.2.1 113 = (.iconst 0, 114, 0, 0) := rfl
theorem t11_114 : (am_G 11).2.2.2.2.1 114 = (.putfield 82, 117, 1, 16) := rfl
theorem t11_117 : (am_G 11).2.2.2.2.1 117 = (.return_, 118, 0, 0) := rfl
theorem t12_0 : (am_G 12).2.2.2.2.1 0 = (.aload_n 0, 1, 0, 0) := rfl
theorem t12_1 : (am_G 12).2.2.2.2.1 1 = (.getfield 55, 4, 1, 8) := rfl
theorem t12_4 : (am_G 12).2.2.2.2.1 4 = (.aload_n 0, 5, 0, 0) := rfl
theorem t12_5 : (am_G 12).2.2.2.2.1 5 = (.getfield 45, 8, 1, 0) := rfl
theorem t12_8 : (am_G 12).2.2.2.2.1 8 = (.getfield 85, 11, 2, 3) := rfl
theorem t12_11 : (am_G 12).2.2.2.2.1 11 = (.getfield 91, 14, 4, 5) := rfl
theorem t12_14 : (am_G 12).2.2.2.2.1 14 = (.if_icmp .lt 7, 17, 21, 0) := rfl
theorem t12_17 : (am_G 12).2.2.2.2.1 17 = (.iconst 1, 18, 1, 0) := rfl
theorem t12_18 : (am_G 12).2.2.2.2.1 18 = (.goto 4, 21, 22, 0) := rfl
theorem t12_21 : (am_G 12).2.2.2.2.1 21 = (.iconst 0, 22, 0, 0) := rfl
theorem t12_22 : (am_G 12).2.2.2.2.1 22 = (.ireturn, 23, 0, 0) := rfl
theorem t13_0 : (am_G 13).2.2.2.2.1 0 = (.aload_n 0, 1, 0, 0) := rfl
theorem t13_1 : (am_G 13).2.2.2.2.1 1 = (.getfield 82, 4, 1, 16) := rfl
theorem t13_4 : (am_G 13).2.2.2.2.1 4 = (.bipush 113, 6, 113, 0) := rfl
theorem t13_6 : (am_G 13).2.2.2.2.1 6 = (.if_icmp .ne 7, 9, 13, 0) := rfl
theorem t13_9 : (am_G 13).2.2.2.2.1 9 = (.iconst 1, 10, 1, 0) := rfl
theorem t13_10 : (am_G 13).2.2.2.2.1 10 = (.goto 4, 13, 14, 0) := rfl
theorem t13_13 : (am_G 13).2.2.2.2.1 13 = (.iconst 0, 14, 0, 0) := rfl
theorem t13_14 : (am_G 13).2.2.2.2.1 14 = (.ireturn, 15, 0, 0) := rfl
theorem t14_0 : (am_G 14).2.2.2.2.1 0 = (.iconst 0, 1, 0, 0) := rfl
theorem t14_1 : (am_G 14).2.2.2.2.1 1 = (.istore_n 1, 2, 1, 0) := rfl
theorem t14_2 : (am_G 14).2.2.2.2.1 2 = (.iconst 0, 3, 0, 0) := rfl
theorem t14_3 : (am_G 14).2.2.2.2.1 3 = (.istore_n 2, 4, 2, 0) := rfl
theorem t14_4 : (am_G 14).2.2.2.2.1 4 = (.iload_n 2, 5, 2, 0) := rfl
theorem t14_5 : (am_G 14).2.2.2.2.1 5 = (.bipush 12, 7, 12, 0) := rfl
theorem t14_7 : (am_G 14).2.2.2.2.1 7 = (.if_icmp .ge 18, 10, 25, 0) := rfl
theorem t14_10 : (am_G 14).2.2.2.2.1 10 = (.iload_n 1, 11, 1, 0) := rfl
theorem t14_11 : (am_G 14).2.2.2.2.1 11 = (.aload_n 0, 12, 0, 0) := rfl
theorem t14_12 : (am_G 14).2.2.2.2.1 12 = (.getfield 18, 15, 1, 2) := rfl
theorem t14_15 : (am_G 14).2.2.2.2.1 15 = (.iload_n 2, 16, 2, 0) := rfl
theorem t14_16 : (am_G 14).2.2.2.2.1 16 = (.iaload, 17, 0, 0) := rfl
theorem t14_17 : (am_G 14).2.2.2.2.1 17 = (.iadd, 18, 0, 0) := rfl
theorem t14_18 : (am_G 14).2.2.2.2.1 18 = (.istore_n 1, 19, 1, 0) := rfl
theorem t14_19 : (am_G 14).2.2.2.2.1 19 = (.iinc 2 1, 22, 2, 1) := rfl
theorem t14_22 : (am_G 14).2.2.2.2.1 22 = (.goto (-18), 25, 4, 0) := rfl
theorem t14_25 : (am_G 14).2.2.2.2.1 25 = (.iload_n 1, 26, 1, 0) := rfl
theorem t14_26 : (am_G 14).2.2.2.2.1 26 = (.ireturn, 27, 0, 0) := rfl
theorem t15_0 : (am_G 15).2.2.2.2.1 0 = (.aload_n 0, 1, 0, 0) := rfl
theorem t15_1 : (am_G 15).2.2.2.2.1 1 = (.invokevirtual 49, 4, 11, 1) := rfl
theorem t15_4 : (am_G 15).2.2.2.2.1 4 = (.iconst 0, 5, 0, 0) := rfl
theorem t15_5 : (am_G 15).2.2.2.2.1 5 = (.istore_n 2, 6, 2, 0) := rfl
theorem t15_6 : (am_G 15).2.2.2.2.1 6 = (.iload_n 2, 7, 2, 0) := rfl
theorem t15_7 : (am_G 15).2.2.2.2.1 7 = (.iload_n 1, 8, 1, 0) := rfl
theorem t15_8 : (am_G 15).2.2.2.2.1 8 = (.if_icmp .ge 14, 11, 22, 0) := rfl
theorem t15_11 : (am_G 15).2.2.2.2.1 11 = (.aload_n 0, 12, 0, 0) := rfl
theorem t15_12 : (am_G 15).2.2.2.2.1 12 = (.invokevirtual 96, 15, 16, 1) := rfl
theorem t15_15 : (am_G 15).2.2.2.2.1 15 = (.pop, 16, 0, 0) := rfl
theorem t15_16 : (am_G 15).2.2.2.2.1 16 = (.iinc 2 1, 19, 2, 1) := rfl
theorem t15_19 : (am_G 15).2.2.2.2.1 19 = (.goto (-13), 22, 6, 0) := rfl
theorem t15_22 : (am_G 15).2.2.2.2.1 22 = (.return_, 23, 0, 0) := rfl
theorem t16_0 : (am_G 16).2.2.2.2.1 0 = (.aload_n 0, 1, 0, 0) := rfl
theorem t16_1 : (am_G 16).2.2.2.2.1 1 = (.getfield 45, 4, 1, 0) := rfl
theorem t16_4 : (am_G 16).2.2.2.2.1 4 = (.getfield 85, 7, 2, 3) := rfl
theorem t16_7 : (am_G 16).2.2.2.2.1 7 = (.astore_n 1, 8, 1, 0) := rfl
theorem t16_8 : (am_G 16).2.2.2.2.1 8 = (.aload_n 1, 9, 1, 0) := rfl
theorem t16_9 : (am_G 16).2.2.2.2.1 9 = (.aload_n 0, 10, 0, 0) := rfl
theorem t16_10 : (am_G 16).2.2.2.2.1 10 = (.getfield 55, 13, 1, 8) := rfl
theorem t16_13 : (am_G 16).2.2.2.2.1 13 = (.invokevirtual 100, 16, 54, 4) := rfl
theorem t16_16 : (am_G 16).2.2.2.2.1 16 = (.ifCond .ne 6, 19, 22, 0) := rfl
theorem t16_19 : (am_G 16).2.2.2.2.1 19 = (.bipush 45, 21, 45, 0) := rfl
theorem t16_21 : (am_G 16).2.2.2.2.1 21 = (.ireturn, 22, 0, 0) := rfl
theorem t16_22 : (am_G 16).2.2.2.2.1 22 = (.aload_n 0, 23, 0, 0) := rfl
theorem t16_23 : (am_G 16).2.2.2.2.1 23 = (.aload_n 1, 24, 1, 0) := rfl
theorem t16_24 : (am_G 16).2.2.2.2.1 24 = (.getfield 104, 27, 4, 0) := rfl
theorem t16_27 : (am_G 16).2.2.2.2.1 27 = (.aload_n 0, 28, 0, 0) := rfl
theorem t16_28 : (am_G 16).2.2.2.2.1 28 = (.getfield 55, 31, 1, 8) := rfl
theorem t16_31 : (am_G 16).2.2.2.2.1 31 = (.iaload, 32, 0, 0) := rfl
theorem t16_32 : (am_G 16).2.2.2.2.1 32 = (.putfield 82, 35, 1, 16) := rfl
theorem t16_35 : (am_G 16).2.2.2.2.1 35 = (.aload_n 0, 36, 0, 0) := rfl
theorem t16_36 : (am_G 16).2.2.2.2.1 36 = (.aload_n 0, 37, 0, 0) := rfl
theorem t16_37 : (am_G 16).2.2.2.2.1 37 = (.aload_n 1, 38, 1, 0) := rfl
theorem t16_38 : (am_G 16).2.2.2.2.1 38 = (.getfield 107, 41, 4, 1) := rfl
theorem t16_41 : (am_G 16).2.2.2.2.1 41 = (.aload_n 0, 42, 0, 0) := rfl
theorem t16_42 : (am_G 16).2.2.2.2.1 42 = (.getfield 55, 45, 1, 8) := rfl
theorem t16_45 : (am_G 16).2.2.2.2.1 45 = (.iaload, 46, 0, 0) := rfl
theorem t16_46 : (am_G 16).2.2.2.2.1 46 = (.invokevirtual 110, 49, 17, 1) := rfl
theorem t16_49 : (am_G 16).2.2.2.2.1 49 = (.putfield 114, 52, 1, 17) := rfl
theorem t16_52 : (am_G 16).2.2.2.2.1 52 = (.aload_n 0, 53, 0, 0) := rfl
theorem t16_53 : (am_G 16).2.2.2.2.1 53 = (.aload_n 0, 54, 0, 0) := rfl
theorem t16_54 : (am_G 16).2.2.2.2.1 54 = (.aload_n 1, 55, 1, 0) := rfl
theorem t16_55 : (am_G 16).2.2.2.2.1 55 = (.getfield 117, 58, 4, 2) := rfl
theorem t16_58 : (am_G 16).2.2.2.2.1 58 = (.aload_n 0, 59, 0, 0) := rfl
theorem t16_59 : (am_G 16).2.2.2.2.1 59 = (.getfield 55, 62, 1, 8) := rfl
theorem t16_62 : (am_G 16).2.2.2.2.1 62 = (.iaload, 63, 0, 0) := rfl
theorem t16_63 : (am_G 16).2.2.2.2.1 63 = (.invokevirtual 110, 66, 17, 1) := rfl
theorem t16_66 : (am_G 16).2.2.2.2.1 66 = (.putfield 120, 69, 1, 18) := rfl
theorem t16_69 : (am_G 16).2.2.2.2.1 69 = (.aload_n 0, 70, 0, 0) := rfl
theorem t16_70 : (am_G 16).2.2.2.2.1 70 = (.aload_n 0, 71, 0, 0) := rfl
theorem t16_71 : (am_G 16).2.2.2.2.1 71 = (.aload_n 1, 72, 1, 0) := rfl
theorem t16_72 : (am_G 16).2.2.2.2.1 72 = (.getfield 123, 75, 4, 3) := rfl
theorem t16_75 : (am_G 16).2.2.2.2.1 75 = (.aload_n 0, 76, 0, 0) := rfl
theorem t16_76 : (am_G 16).2.2.2.2.1 76 = (.getfield 55, 79, 1, 8) := rfl
theorem t16_79 : (am_G 16).2.2.2.2.1 79 = (.iaload, 80, 0, 0) := rfl
theorem t16_80 : (am_G 16).2.2.2.2.1 80 = (.invokevirtual 110, 83, 17, 1) := rfl
theorem t16_83 : (am_G 16).2.2.2.2.1 83 = (.putfield 126, 86, 1, 19) := rfl
theorem t16_86 : (am_G 16).2.2.2.2.1 86 = (.aload_n 0, 87, 0, 0) := rfl
theorem t16_87 : (am_G 16).2.2.2.2.1 87 = (.invokevirtual 129, 90, 18, 1) := rfl
theorem t16_90 : (am_G 16).2.2.2.2.1 90 = (.ifCond .eq 10, 93, 100, 0) := rfl
theorem t16_93 : (am_G 16).2.2.2.2.1 93 = (.aload_n 0, 94, 0, 0) := rfl
theorem t16_94 : (am_G 16).2.2.2.2.1 94 = (.invokevirtual 133, 97, 19, 1) := rfl
theorem t16_97 : (am_G 16).2.2.2.2.1 97 = (.goto 5, 100, 102, 0) := rfl
theorem t16_100 : (am_G 16).2.2.2.2.1 100 = (.bipush 110, 102, 110, 0) := rfl
theorem t16_102 : (am_G 16).2.2.2.2.1 102 = (.istore_n 2, 103, 2, 0) := rfl
theorem t16_103 : (am_G 16).2.2.2.2.1 103 = (.iload_n 2, 104, 2, 0) := rfl
theorem t16_104 : (am_G 16).2.2.2.2.1 104 = (.bipush 45, 106, 45, 0) := rfl
theorem t16_106 : (am_G 16).2.2.2.2.1 106 = (.if_icmp .ne 16, 109, 122, 0) := rfl
theorem t16_109 : (am_G 16).2.2.2.2.1 109 = (.aload_n 0, 110, 0, 0) := rfl
theorem t16_110 : (am_G 16).2.2.2.2.1 110 = (.invokevirtual 136, 113, 24, 1) := rfl
theorem t16_113 : (am_G 16).2.2.2.2.1 113 = (.aload_n 0, 114, 0, 0) := rfl
theorem t16_114 : (am_G 16).2.2.2.2.1 114 = (.invokevirtual 139, 117, 30, 1) := rfl
theorem t16_117 : (am_G 16).2.2.2.2.1 117 = (.aload_n 0, 118, 0, 0) := rfl
theorem t16_118 : (am_G 16).2.2.2.2.1 118 = (.invokevirtual 142, 121, 20, 1) := rfl
theorem t16_121 : (am_G 16).2.2.2.2.1 121 = (.istore_n 2, 122, 2, 0) := rfl
theorem t16_122 : (am_G 16).2.2.2.2.1 122 = (.iload_n 2, 123, 2, 0) := rfl
theorem t16_123 : (am_G 16).2.2.2.2.1 123 = (.bipush 45, 125, 45, 0) := rfl
theorem t16_125 : (am_G 16).2.2.2.2.1 125 = (.if_icmp .ne 21, 128, 146, 0) := rfl
theorem t16_128 : (am_G 16).2.2.2.2.1 128 = (.aload_n 0, 129, 0, 0) := rfl
theorem t16_129 : (am_G 16).2.2.2.2.1 129 = (.invokevirtual 145, 132, 34, 1) := rfl
theorem t16_132 : (am_G 16).2.2.2.2.1 132 = (.aload_n 0, 133, 0, 0) := rfl
theorem t16_133 : (am_G 16).2.2.2.2.1 133 = (.invokevirtual 148, 136, 33, 1) := rfl
theorem t16_136 : (am_G 16).2.2.2.2.1 136 = (.aload_n 0, 137, 0, 0) := rfl
theorem t16_137 : (am_G 16).2.2.2.2.1 137 = (.dup, 138, 0, 0) := rfl
theorem t16_138 : (am_G 16).2.2.2.2.1 138 = (.getfield 59, 141, 1, 9) := rfl
theorem t16_141 : (am_G 16).2.2.2.2.1 141 = (.iconst 1, 142, 1, 0) := rfl
theorem t16_142 : (am_G 16).2.2.2.2.1 142 = (.iadd, 143, 0, 0) := rfl
theorem t16_143 : (am_G 16).2.2.2.2.1 143 = (.putfield 59, 146, 1, 9) := rfl
theorem t16_146 : (am_G 16).2.2.2.2.1 146 = (.iload_n 2, 147, 2, 0) := rfl
theorem t16_147 : (am_G 16).2.2.2.2.1 147 = (.ireturn, 148, 0, 0) := rfl
theorem t17_0 : (am_G 17).2.2.2.2.1 0 = (.iload_n 1, 1, 1, 0) := rfl
theorem t17_1 : (am_G 17).2.2.2.2.1 1 = (.bipush 100, 3, 100, 0) := rfl
theorem t17_3 : (am_G 17).2.2.2.2.1 3 = (.isub, 4, 0, 0) := rfl
theorem t17_4 : (am_G 17).2.2.2.2.1 4 = (.istore_n 2, 5, 2, 0) := rfl
theorem t17_5 : (am_G 17).2.2.2.2.1 5 = (.iload_n 2, 6, 2, 0) := rfl
theorem t17_6 : (am_G 17).2.2.2.2.1 6 = (.iconst 0, 7, 0, 0) := rfl
theorem t17_7 : (am_G 17).2.2.2.2.1 7 = (.bipush 7, 9, 7, 0) := rfl
theorem t17_9 : (am_G 17).2.2.2.2.1 9 = (.invokestatic 151, 12, 84, 1) := rfl
theorem t17_12 : (am_G 17).2.2.2.2.1 12 = (.ifCond .eq 12, 15, 24, 0) := rfl
theorem t17_15 : (am_G 17).2.2.2.2.1 15 = (.aload_n 0, 16, 0, 0) := rfl
theorem t17_16 : (am_G 17).2.2.2.2.1 16 = (.getfield 22, 19, 1, 3) := rfl
theorem t17_19 : (am_G 17).2.2.2.2.1 19 = (.iload_n 2, 20, 2, 0) := rfl
theorem t17_20 : (am_G 17).2.2.2.2.1 20 = (.iaload, 21, 0, 0) := rfl
theorem t17_21 : (am_G 17).2.2.2.2.1 21 = (.goto 4, 24, 25, 0) := rfl
theorem t17_24 : (am_G 17).2.2.2.2.1 24 = (.iload_n 1, 25, 1, 0) := rfl
theorem t17_25 : (am_G 17).2.2.2.2.1 25 = (.ireturn, 26, 0, 0) := rfl
theorem t18_0 : (am_G 18).2.2.2.2.1 0 = (.aload_n 0, 1, 0, 0) := rfl
theorem t18_1 : (am_G 18).2.2.2.2.1 1 = (.getfield 82, 4, 1, 16) := rfl
theorem t18_4 : (am_G 18).2.2.2.2.1 4 = (.tableswitch 245 100 120 #[100, 245, 202, 245, 245, 245, 245, 245, 245, 192, 245, 213, 121, 245, 234, 192, 148, 245, 223, 245, 223], 104, 0, 0) := rfl
theorem t18_104 : (am_G 18).2.2.2.2.1 104 = (.aload_n 0, 105, 0, 0) := rfl
theorem t18_105 : (am_G 18).2.2.2.2.1 105 = (.getfield 114, 108, 1, 17) := rfl
theorem t18_108 : (am_G 18).2.2.2.2.1 108 = (.ifCond .lt 15, 111, 123, 0) := rfl
theorem t18_111 : (am_G 18).2.2.2.2.1 111 = (.aload_n 0, 112, 0, 0) := rfl
theorem t18_112 : (am_G 18).2.2.2.2.1 112 = (.getfield 120, 115, 1, 18) := rfl
theorem t18_115 : (am_G 18).2.2.2.2.1 115 = (.iconst 1, 116, 1, 0) := rfl
theorem t18_116 : (am_G 18).2.2.2.2.1 116 = (.if_icmp .lt 7, 119, 123, 0) := rfl
theorem t18_119 : (am_G 18).2.2.2.2.1 119 = (.iconst 1, 120, 1, 0) := rfl
theorem t18_120 : (am_G 18).2.2.2.2.1 120 = (.goto 4, 123, 124, 0) := rfl
theorem t18_123 : (am_G 18).2.2.2.2.1 123 = (.iconst 0, 124, 0, 0) := rfl
theorem t18_124 : (am_G 18).2.2.2.2.1 124 = (.ireturn, 125, 0, 0) := rfl
theorem t18_125 : (am_G 18).2.2.2.2.1 125 = (.aload_n 0, 126, 0, 0) := rfl
theorem t18_126 : (am_G 18).2.2.2.2.1 126 = (.getfield 114, 129, 1, 17) := rfl
theorem t18_129 : (am_G 18).2.2.2.2.1 129 = (.ifCond .lt 21, 132, 150, 0) := rfl
theorem t18_132 : (am_G 18).2.2.2.2.1 132 = (.aload_n 0, 133, 0, 0) := rfl
theorem t18_133 : (am_G 18).2.2.2.2.1 133 = (.getfield 120, 136, 1, 18) := rfl
theorem t18_136 : (am_G 18).2.2.2.2.1 136 = (.ifCond .lt 14, 139, 150, 0) := rfl
theorem t18_139 : (am_G 18).2.2.2.2.1 139 = (.aload_n 0, 140, 0, 0) := rfl
theorem t18_140 : (am_G 18).2.2.2.2.1 140 = (.getfield 126, 143, 1, 19) := rfl
theorem t18_143 : (am_G 18).2.2.2.2.1 143 = (.ifCond .lt 7, 146, 150, 0) := rfl
theorem t18_146 : (am_G 18).2.2.2.2.1 146 = (.iconst 1, 147, 1, 0) := rfl
theorem t18_147 : (am_G 18).2.2.2.2.1 147 = (.goto 4, 150, 151, 0) := rfl
theorem t18_150 : (am_G 18).2.2.2.2.1 150 = (.iconst 0, 151, 0, 0) := rfl
theorem t18_151 : (am_G 18).2.2.2.2.1 151 = (.ireturn, 152, 0, 0) := rfl
theorem t18_152 : (am_G 18).2.2.2.2.1 152 = (.aload_n 0, 153, 0, 0) := rfl
theorem t18_153 : (am_G 18).2.2.2.2.1 153 = (.getfield 114, 156, 1, 17) := rfl
theorem t18_156 : (am_G 18).2.2.2.2.1 156 = (.aload_n 0, 157, 0, 0) := rfl
theorem t18_157 : (am_G 18).2.2.2.2.1 157 = (.getfield 120, 160, 1, 18) := rfl
theorem t18_160 : (am_G 18).2.2.2.2.1 160 = (.invokestatic 155, 163, 87, 1) := rfl
theorem t18_163 : (am_G 18).2.2.2.2.1 163 = (.ifCond .eq 31, 166, 194, 0) := rfl
theorem t18_166 : (am_G 18).2.2.2.2.1 166 = (.aload_n 0, 167, 0, 0) := rfl
theorem t18_167 : (am_G 18).2.2.2.2.1 167 = (.getfield 45, 170, 1, 0) := rfl
theorem t18_170 : (am_G 18).2.2.2.2.1 170 = (.getfield 159, 173, 2, 0) := rfl
theorem t18_173 : (am_G 18).2.2.2.2.1 173 = (.aload_n 0, 174, 0, 0) := rfl
theorem t18_174 : (am_G 18).2.2.2.2.1 174 = (.getfield 114, 177, 1, 17) := rfl
theorem t18_177 : (am_G 18).2.2.2.2.1 177 = (.aload_n 0, 178, 0, 0) := rfl
theorem t18_178 : (am_G 18).2.2.2.2.1 178 = (.getfield 120, 181, 1, 18) := rfl
theorem t18_181 : (am_G 18).2.2.2.2.1 181 = (.invokestatic 163, 184, 88, 1) := rfl
theorem t18_184 : (am_G 18).2.2.2.2.1 184 = (.invokevirtual 167, 187, 58, 5) := rfl
theorem t18_187 : (am_G 18).2.2.2.2.1 187 = (.ifCond .eq 7, 190, 194, 0) := rfl
theorem t18_190 : (am_G 18).2.2.2.2.1 190 = (.iconst 1, 191, 1, 0) := rfl
theorem t18_191 : (am_G 18).2.2.2.2.1 191 = (.goto 4, 194, 195, 0) := rfl
theorem t18_194 : (am_G 18).2.2.2.2.1 194 = (.iconst 0, 195, 0, 0) := rfl
theorem t18_195 : (am_G 18).2.2.2.2.1 195 = (.ireturn, 196, 0, 0) := rfl
theorem t18_196 : (am_G 18).2.2.2.2.1 196 = (.aload_n 0, 197, 0, 0) := rfl
theorem t18_197 : (am_G 18).2.2.2.2.1 197 = (.getfield 114, 200, 1, 17) := rfl
theorem t18_200 : (am_G 18).2.2.2.2.1 200 = (.iconst 0, 201, 0, 0) := rfl
theorem t18_201 : (am_G 18).2.2.2.2.1 201 = (.iconst 1, 202, 1, 0) := rfl
theorem t18_202 : (am_G 18).2.2.2.2.1 202 = (.invokestatic 151, 205, 84, 1) := rfl
theorem t18_205 : (am_G 18).2.2.2.2.1 205 = (.ireturn, 206, 0, 0) := rfl
theorem t18_206 : (am_G 18).2.2.2.2.1 206 = (.aload_n 0, 207, 0, 0) := rfl
theorem t18_207 : (am_G 18).2.2.2.2.1 207 = (.getfield 114, 210, 1, 17) := rfl
theorem t18_210 : (am_G 18).2.2.2.2.1 210 = (.iconst 1, 211, 1, 0) := rfl
theorem t18_211 : (am_G 18).2.2.2.2.1 211 = (.bipush 50, 213, 50, 0) := rfl
theorem t18_213 : (am_G 18).2.2.2.2.1 213 = (.invokestatic 151, 216, 84, 1) := rfl
theorem t18_216 : (am_G 18).2.2.2.2.1 216 = (.ireturn, 217, 0, 0) := rfl
theorem t18_217 : (am_G 18).2.2.2.2.1 217 = (.aload_n 0, 218, 0, 0) := rfl
theorem t18_218 : (am_G 18).2.2.2.2.1 218 = (.getfield 114, 221, 1, 17) := rfl
theorem t18_221 : (am_G 18).2.2.2.2.1 221 = (.iconst 0, 222, 0, 0) := rfl
theorem t18_222 : (am_G 18).2.2.2.2.1 222 = (.iconst 3, 223, 3, 0) := rfl
theorem t18_223 : (am_G 18).2.2.2.2.1 223 = (.invokestatic 151, 226, 84, 1) := rfl
theorem t18_226 : (am_G 18).2.2.2.2.1 226 = (.ireturn, 227, 0, 0) := rfl
theorem t18_227 : (am_G 18).2.2.2.2.1 227 = (.aload_n 0, 228, 0, 0) := rfl
theorem t18_228 : (am_G 18).2.2.2.2.1 228 = (.getfield 114, 231, 1, 17) := rfl
theorem t18_231 : (am_G 18).2.2.2.2.1 231 = (.iconst 0, 232, 0, 0) := rfl
theorem t18_232 : (am_G 18).2.2.2.2.1 232 = (.bipush 7, 234, 7, 0) := rfl
theorem t18_234 : (am_G 18).2.2.2.2.1 234 = (.invokestatic 151, 237, 84, 1) := rfl
theorem t18_237 : (am_G 18).2.2.2.2.1 237 = (.ireturn, 238, 0, 0) := rfl
theorem t18_238 : (am_G 18).2.2.2.2.1 238 = (.aload_n 0, 239, 0, 0) := rfl
theorem t18_239 : (am_G 18).2.2.2.2.1 239 = (.getfield 114, 242, 1, 17) := rfl
theorem t18_242 : (am_G 18).2.2.2.2.1 242 = (.iconst 0, 243, 0, 0) := rfl
theorem t18_243 : (am_G 18).2.2.2.2.1 243 = (.bipush 9, 245, 9, 0) := rfl
theorem t18_245 : (am_G 18).2.2.2.2.1 245 = (.invokestatic 151, 248, 84, 1) := rfl
theorem t18_248 : (am_G 18).2.2.2.2.1 248 = (.ireturn, 249, 0, 0) := rfl
theorem t18_249 : (am_G 18).2.2.2.2.1 249 = (.iconst 1, 250, 1, 0) := rfl
theorem t18_250 : (am_G 18).2.2.2.2.1 250 = (.ireturn, 251, 0, 0) := rfl
theorem t19_0 : (am_G 19).2.2.2.2.1 0 = (.aload_n 0, 1, 0, 0) := rfl
theorem t19_1 : (am_G 19).2.2.2.2.1 1 = (.getfield 82, 4, 1, 16) := rfl
theorem t19_4 : (am_G 19).2.2.2.2.1 4 = (.bipush 116, 6, 116, 0) := rfl
theorem t19_6 : (am_G 19).2.2.2.2.1 6 = (.if_icmp .ne 29, 9, 35, 0) := rfl
theorem t19_9 : (am_G 19).2.2.2.2.1 9 = (.aload_n 0, 10, 0, 0) := rfl
theorem t19_10 : (am_G 19).2.2.2.2.1 10 = (.getfield 79, 13, 1, 15) := rfl
theorem t19_13 : (am_G 19).2.2.2.2.1 13 = (.ifCond .eq 6, 16, 19, 0) := rfl
theorem t19_16 : (am_G 19).2.2.2.2.1 16 = (.bipush 116, 18, 116, 0) := rfl
theorem t19_18 : (am_G 19).2.2.2.2.1 18 = (.ireturn, 19, 0, 0) := rfl
theorem t19_19 : (am_G 19).2.2.2.2.1 19 = (.aload_n 0, 20, 0, 0) := rfl
theorem t19_20 : (am_G 19).2.2.2.2.1 20 = (.invokevirtual 172, 23, 23, 1) := rfl
theorem t19_23 : (am_G 19).2.2.2.2.1 23 = (.iconst (-1), 24, 4294967295, 0) := rfl
theorem t19_24 : (am_G 19).2.2.2.2.1 24 = (.if_icmp .ne 8, 27, 32, 0) := rfl
theorem t19_27 : (am_G 19).2.2.2.2.1 27 = (.bipush 119, 29, 119, 0) := rfl
theorem t19_29 : (am_G 19).2.2.2.2.1 29 = (.goto 5, 32, 34, 0) := rfl
theorem t19_32 : (am_G 19).2.2.2.2.1 32 = (.bipush 45, 34, 45, 0) := rfl
theorem t19_34 : (am_G 19).2.2.2.2.1 34 = (.ireturn, 35, 0, 0) := rfl
theorem t19_35 : (am_G 19).2.2.2.2.1 35 = (.aload_n 0, 36, 0, 0) := rfl
theorem t19_36 : (am_G 19).2.2.2.2.1 36 = (.invokevirtual 176, 39, 21, 1) := rfl
theorem t19_39 : (am_G 19).2.2.2.2.1 39 = (.ifCond .eq 25, 42, 64, 0) := rfl
theorem t19_42 : (am_G 19).2.2.2.2.1 42 = (.aload_n 0, 43, 0, 0) := rfl
theorem t19_43 : (am_G 19).2.2.2.2.1 43 = (.getfield 62, 46, 1, 10) := rfl
theorem t19_46 : (am_G 19).2.2.2.2.1 46 = (.iconst (-1), 47, 4294967295, 0) := rfl
theorem t19_47 : (am_G 19).2.2.2.2.1 47 = (.if_icmp .eq 17, 50, 64, 0) := rfl
theorem t19_50 : (am_G 19).2.2.2.2.1 50 = (.aload_n 0, 51, 0, 0) := rfl
theorem t19_51 : (am_G 19).2.2.2.2.1 51 = (.aload_n 0, 52, 0, 0) := rfl
theorem t19_52 : (am_G 19).2.2.2.2.1 52 = (.getfield 62, 55, 1, 10) := rfl
theorem t19_55 : (am_G 19).2.2.2.2.1 55 = (.invokevirtual 179, 58, 22, 1) := rfl
theorem t19_58 : (am_G 19).2.2.2.2.1 58 = (.ifCond .eq 6, 61, 64, 0) := rfl
theorem t19_61 : (am_G 19).2.2.2.2.1 61 = (.bipush 119, 63, 119, 0) := rfl
theorem t19_63 : (am_G 19).2.2.2.2.1 63 = (.ireturn, 64, 0, 0) := rfl
theorem t19_64 : (am_G 19).2.2.2.2.1 64 = (.aload_n 0, 65, 0, 0) := rfl
theorem t19_65 : (am_G 19).2.2.2.2.1 65 = (.invokevirtual 176, 68, 21, 1) := rfl
theorem t19_68 : (am_G 19).2.2.2.2.1 68 = (.ifCond .ne 12, 71, 80, 0) := rfl
theorem t19_71 : (am_G 19).2.2.2.2.1 71 = (.aload_n 0, 72, 0, 0) := rfl
theorem t19_72 : (am_G 19).2.2.2.2.1 72 = (.getfield 82, 75, 1, 16) := rfl
theorem t19_75 : (am_G 19).2.2.2.2.1 75 = (.bipush 120, 77, 120, 0) := rfl
theorem t19_77 : (am_G 19).2.2.2.2.1 77 = (.if_icmp .ne 15, 80, 92, 0) := rfl
theorem t19_80 : (am_G 19).2.2.2.2.1 80 = (.aload_n 0, 81, 0, 0) := rfl
theorem t19_81 : (am_G 19).2.2.2.2.1 81 = (.getfield 62, 84, 1, 10) := rfl
theorem t19_84 : (am_G 19).2.2.2.2.1 84 = (.iconst (-1), 85, 4294967295, 0) := rfl
theorem t19_85 : (am_G 19).2.2.2.2.1 85 = (.if_icmp .ne 7, 88, 92, 0) := rfl
theorem t19_88 : (am_G 19).2.2.2.2.1 88 = (.iconst 1, 89, 1, 0) := rfl
theorem t19_89 : (am_G 19).2.2.2.2.1 89 = (.goto 4, 92, 93, 0) := rfl
theorem t19_92 : (am_G 19).2.2.2.2.1 92 = (.iconst 0, 93, 0, 0) := rfl
theorem t19_93 : (am_G 19).2.2.2.2.1 93 = (.istore_n 1, 94, 1, 0) := rfl
theorem t19_94 : (am_G 19).2.2.2.2.1 94 = (.iload_n 1, 95, 1, 0) := rfl
theorem t19_95 : (am_G 19).2.2.2.2.1 95 = (.ifCond .ne 17, 98, 112, 0) := rfl
theorem t19_98 : (am_G 19).2.2.2.2.1 98 = (.aload_n 0, 99, 0, 0) := rfl
theorem t19_99 : (am_G 19).2.2.2.2.1 99 = (.invokevirtual 176, 102, 21, 1) := rfl
theorem t19_102 : (am_G 19).2.2.2.2.1 102 = (.ifCond .eq 15, 105, 117, 0) := rfl
theorem t19_105 : (am_G 19).2.2.2.2.1 105 = (.aload_n 0, 106, 0, 0) := rfl
theorem t19_106 : (am_G 19).2.2.2.2.1 106 = (.getfield 79, 109, 1, 15) := rfl
theorem t19_109 : (am_G 19).2.2.2.2.1 109 = (.ifCond .ne 8, 112, 117, 0) := rfl
theorem t19_112 : (am_G 19).2.2.2.2.1 112 = (.bipush 115, 114, 115, 0) := rfl
theorem t19_114 : (am_G 19).2.2.2.2.1 114 = (.goto 5, 117, 119, 0) := rfl
theorem t19_117 : (am_G 19).2.2.2.2.1 117 = (.bipush 45, 119, 45, 0) := rfl
theorem t19_119 : (am_G 19).2.2.2.2.1 119 = (.ireturn, 120, 0, 0) := rfl
theorem t20_0 : (am_G 20).2.2.2.2.1 0 = (.aload_n 0, 1, 0, 0) := rfl
theorem t20_1 : (am_G 20).2.2.2.2.1 1 = (.getfield 34, 4, 1, 6) := rfl
theorem t20_4 : (am_G 20).2.2.2.2.1 4 = (.invokevirtual 182, 7, 48, 3) := rfl
theorem t20_7 : (am_G 20).2.2.2.2.1 7 = (.ifCond .eq 6, 10, 13, 0) := rfl
theorem t20_10 : (am_G 20).2.2.2.2.1 10 = (.bipush 108, 12, 108, 0) := rfl
theorem t20_12 : (am_G 20).2.2.2.2.1 12 = (.ireturn, 13, 0, 0) := rfl
theorem t20_13 : (am_G 20).2.2.2.2.1 13 = (.aload_n 0, 14, 0, 0) := rfl
theorem t20_14 : (am_G 20).2.2.2.2.1 14 = (.aload_n 0, 15, 0, 0) := rfl
theorem t20_15 : (am_G 20).2.2.2.2.1 15 = (.getfield 45, 18, 1, 0) := rfl
theorem t20_18 : (am_G 20).2.2.2.2.1 18 = (.getfield 185, 21, 2, 1) := rfl
theorem t20_21 : (am_G 20).2.2.2.2.1 21 = (.invokevirtual 188, 24, 29, 1) := rfl
theorem t20_24 : (am_G 20).2.2.2.2.1 24 = (.ifCond .ne 23, 27, 47, 0) := rfl
theorem t20_27 : (am_G 20).2.2.2.2.1 27 = (.aload_n 0, 28, 0, 0) := rfl
theorem t20_28 : (am_G 20).2.2.2.2.1 28 = (.getfield 82, 31, 1, 16) := rfl
theorem t20_31 : (am_G 20).2.2.2.2.1 31 = (.bipush 103, 33, 103, 0) := rfl
theorem t20_33 : (am_G 20).2.2.2.2.1 33 = (.if_icmp .ne 17, 36, 50, 0) := rfl
theorem t20_36 : (am_G 20).2.2.2.2.1 36 = (.aload_n 0, 37, 0, 0) := rfl
theorem t20_37 : (am_G 20).2.2.2.2.1 37 = (.aload_n 0, 38, 0, 0) := rfl
theorem t20_38 : (am_G 20).2.2.2.2.1 38 = (.getfield 12, 41, 1, 1) := rfl
theorem t20_41 : (am_G 20).2.2.2.2.1 41 = (.invokevirtual 188, 44, 29, 1) := rfl
theorem t20_44 : (am_G 20).2.2.2.2.1 44 = (.ifCond .eq 6, 47, 50, 0) := rfl
theorem t20_47 : (am_G 20).2.2.2.2.1 47 = (.bipush 99, 49, 99, 0) := rfl
theorem t20_49 : (am_G 20).2.2.2.2.1 49 = (.ireturn, 50, 0, 0) := rfl
theorem t20_50 : (am_G 20).2.2.2.2.1 50 = (.aload_n 0, 51, 0, 0) := rfl
theorem t20_51 : (am_G 20).2.2.2.2.1 51 = (.getfield 82, 54, 1, 16) := rfl
theorem t20_54 : (am_G 20).2.2.2.2.1 54 = (.bipush 120, 56, 120, 0) := rfl
theorem t20_56 : (am_G 20).2.2.2.2.1 56 = (.if_icmp .ne 15, 59, 71, 0) := rfl
theorem t20_59 : (am_G 20).2.2.2.2.1 59 = (.aload_n 0, 60, 0, 0) := rfl
theorem t20_60 : (am_G 20).2.2.2.2.1 60 = (.invokevirtual 192, 63, 32, 1) := rfl
theorem t20_63 : (am_G 20).2.2.2.2.1 63 = (.ifCond .eq 8, 66, 71, 0) := rfl
theorem t20_66 : (am_G 20).2.2.2.2.1 66 = (.bipush 120, 68, 120, 0) := rfl
theorem t20_68 : (am_G 20).2.2.2.2.1 68 = (.goto 5, 71, 73, 0) := rfl
theorem t20_71 : (am_G 20).2.2.2.2.1 71 = (.bipush 45, 73, 45, 0) := rfl
theorem t20_73 : (am_G 20).2.2.2.2.1 73 = (.ireturn, 74, 0, 0) := rfl
theorem t21_0 : (am_G 21).2.2.2.2.1 0 = (.aload_n 0, 1, 0, 0) := rfl
theorem t21_1 : (am_G 21).2.2.2.2.1 1 = (.getfield 82, 4, 1, 16) := rfl
theorem t21_4 : (am_G 21).2.2.2.2.1 4 = (.bipush 108, 6, 108, 0) := rfl
theorem t21_6 : (am_G 21).2.2.2.2.1 6 = (.if_icmp .eq 21, 9, 27, 0) := rfl
theorem t21_9 : (am_G 21).2.2.2.2.1 9 = (.aload_n 0, 10, 0, 0) := rfl
theorem t21_10 : (am_G 21).2.2.2.2.1 10 = (.getfield 82, 13, 1, 16) := rfl
theorem t21_13 : (am_G 21).2.2.2.2.1 13 = (.bipush 100, 15, 100, 0) := rfl
theorem t21_15 : (am_G 21).2.2.2.2.1 15 = (.if_icmp .eq 12, 18, 27, 0) := rfl
theorem t21_18 : (am_G 21).2.2.2.2.1 18 = (.aload_n 0, 19, 0, 0) := rfl
theorem t21_19 : (am_G 21).2.2.2.2.1 19 = (.getfield 82, 22, 1, 16) := rfl
theorem t21_22 : (am_G 21).2.2.2.2.1 22 = (.bipush 112, 24, 112, 0) := rfl
theorem t21_24 : (am_G 21).2.2.2.2.1 24 = (.if_icmp .ne 7, 27, 31, 0) := rfl
theorem t21_27 : (am_G 21).2.2.2.2.1 27 = (.iconst 1, 28, 1, 0) := rfl
theorem t21_28 : (am_G 21).2.2.2.2.1 28 = (.goto 4, 31, 32, 0) := rfl
theorem t21_31 : (am_G 21).2.2.2.2.1 31 = (.iconst 0, 32, 0, 0) := rfl
theorem t21_32 : (am_G 21).2.2.2.2.1 32 = (.ireturn, 33, 0, 0) := rfl
theorem t22_0 : (am_G 22).2.2.2.2.1 0 = (.iload_n 1, 1, 1, 0) := rfl
theorem t22_1 : (am_G 22).2.2.2.2.1 1 = (.iconst 0, 2, 0, 0) := rfl
theorem t22_2 : (am_G 22).2.2.2.2.1 2 = (.bipush 11, 4, 11, 0) := rfl
theorem t22_4 : (am_G 22).2.2.2.2.1 4 = (.invokestatic 151, 7, 84, 1) := rfl
theorem t22_7 : (am_G 22).2.2.2.2.1 7 = (.ifCond .eq 28, 10, 35, 0) := rfl
theorem t22_10 : (am_G 22).2.2.2.2.1 10 = (.aload_n 0, 11, 0, 0) := rfl
theorem t22_11 : (am_G 22).2.2.2.2.1 11 = (.getfield 18, 14, 1, 2) := rfl
theorem t22_14 : (am_G 22).2.2.2.2.1 14 = (.iload_n 1, 15, 1, 0) := rfl
theorem t22_15 : (am_G 22).2.2.2.2.1 15 = (.iaload, 16, 0, 0) := rfl
theorem t22_16 : (am_G 22).2.2.2.2.1 16 = (.aload_n 0, 17, 0, 0) := rfl
theorem t22_17 : (am_G 22).2.2.2.2.1 17 = (.getfield 45, 20, 1, 0) := rfl
theorem t22_20 : (am_G 22).2.2.2.2.1 20 = (.getfield 159, 23, 2, 0) := rfl
theorem t22_23 : (am_G 22).2.2.2.2.1 23 = (.getfield 195, 26, 5, 2) := rfl
theorem t22_26 : (am_G 22).2.2.2.2.1 26 = (.iload_n 1, 27, 1, 0) := rfl
theorem t22_27 : (am_G 22).2.2.2.2.1 27 = (.iaload, 28, 0, 0) := rfl
theorem t22_28 : (am_G 22).2.2.2.2.1 28 = (.if_icmp .lt 7, 31, 35, 0) := rfl
theorem t22_31 : (am_G 22).2.2.2.2.1 31 = (.iconst 1, 32, 1, 0) := rfl
theorem t22_32 : (am_G 22).2.2.2.2.1 32 = (.goto 4, 35, 36, 0) := rfl
theorem t22_35 : (am_G 22).2.2.2.2.1 35 = (.iconst 0, 36, 0, 0) := rfl
theorem t22_36 : (am_G 22).2.2.2.2.1 36 = (.ireturn, 37, 0, 0) := rfl
theorem t23_0 : (am_G 23).2.2.2.2.1 0 = (.aload_n 0, 1, 0, 0) := rfl
theorem t23_1 : (am_G 23).2.2.2.2.1 1 = (.getfield 114, 4, 1, 17) := rfl
theorem t23_4 : (am_G 23).2.2.2.2.1 4 = (.aload_n 0, 5, 0, 0) := rfl
theorem t23_5 : (am_G 23).2.2.2.2.1 5 = (.getfield 120, 8, 1, 18) := rfl
theorem t23_8 : (am_G 23).2.2.2.2.1 8 = (.invokestatic 163, 11, 88, 1) := rfl
theorem t23_11 : (am_G 23).2.2.2.2.1 11 = (.istore_n 1, 12, 1, 0) := rfl
theorem t23_12 : (am_G 23).2.2.2.2.1 12 = (.aload_n 0, 13, 0, 0) := rfl
theorem t23_13 : (am_G 23).2.2.2.2.1 13 = (.getfield 120, 16, 1, 18) := rfl
theorem t23_16 : (am_G 23).2.2.2.2.1 16 = (.istore_n 2, 17, 2, 0) := rfl
theorem t23_17 : (am_G 23).2.2.2.2.1 17 = (.iload_n 2, 18, 2, 0) := rfl
theorem t23_18 : (am_G 23).2.2.2.2.1 18 = (.iconst 4, 19, 4, 0) := rfl
theorem t23_19 : (am_G 23).2.2.2.2.1 19 = (.if_icmp .ge 43, 22, 62, 0) := rfl
theorem t23_22 : (am_G 23).2.2.2.2.1 22 = (.aload_n 0, 23, 0, 0) := rfl
theorem t23_23 : (am_G 23).2.2.2.2.1 23 = (.getfield 114, 26, 1, 17) := rfl
theorem t23_26 : (am_G 23).2.2.2.2.1 26 = (.iload_n 2, 27, 2, 0) := rfl
theorem t23_27 : (am_G 23).2.2.2.2.1 27 = (.invokestatic 163, 30, 88, 1) := rfl
theorem t23_30 : (am_G 23).2.2.2.2.1 30 = (.istore_n 3, 31, 3, 0) := rfl
theorem t23_31 : (am_G 23).2.2.2.2.1 31 = (.aload_n 0, 32, 0, 0) := rfl
theorem t23_32 : (am_G 23).2.2.2.2.1 32 = (.getfield 45, 35, 1, 0) := rfl
theorem t23_35 : (am_G 23).2.2.2.2.1 35 = (.getfield 159, 38, 2, 0) := rfl
theorem t23_38 : (am_G 23).2.2.2.2.1 38 = (.iload_n 1, 39, 1, 0) := rfl
theorem t23_39 : (am_G 23).2.2.2.2.1 39 = (.iload_n 3, 40, 3, 0) := rfl
theorem t23_40 : (am_G 23).2.2.2.2.1 40 = (.invokevirtual 198, 43, 60, 5) := rfl
theorem t23_43 : (am_G 23).2.2.2.2.1 43 = (.ifCond .eq 13, 46, 56, 0) := rfl
theorem t23_46 : (am_G 23).2.2.2.2.1 46 = (.aload_n 0, 47, 0, 0) := rfl
theorem t23_47 : (am_G 23).2.2.2.2.1 47 = (.iload_n 3, 48, 3, 0) := rfl
theorem t23_48 : (am_G 23).2.2.2.2.1 48 = (.invokevirtual 179, 51, 22, 1) := rfl
theorem t23_51 : (am_G 23).2.2.2.2.1 51 = (.ifCond .ne 5, 54, 56, 0) := rfl
theorem t23_54 : (am_G 23).2.2.2.2.1 54 = (.iload_n 3, 55, 3, 0) := rfl
theorem t23_55 : (am_G 23).2.2.2.2.1 55 = (.ireturn, 56, 0, 0) := rfl
theorem t23_56 : (am_G 23).2.2.2.2.1 56 = (.iinc 2 1, 59, 2, 1) := rfl
theorem t23_59 : (am_G 23).2.2.2.2.1 59 = (.goto (-42), 62, 17, 0) := rfl
theorem t23_62 : (am_G 23).2.2.2.2.1 62 = (.iconst (-1), 63, 4294967295, 0) := rfl
theorem t23_63 : (am_G 23).2.2.2.2.1 63 = (.ireturn, 64, 0, 0) := rfl
theorem t24_0 : (am_G 24).2.2.2.2.1 0 = (.aload_n 0, 1, 0, 0) := rfl
theorem t24_1 : (am_G 24).2.2.2.2.1 1 = (.getfield 34, 4, 1, 6) := rfl
theorem t24_4 : (am_G 24).2.2.2.2.1 4 = (.invokevirtual 201, 7, 42, 3) := rfl
theorem t24_7 : (am_G 24).2.2.2.2.1 7 = (.aload_n 0, 8, 0, 0) := rfl
theorem t24_8 : (am_G 24).2.2.2.2.1 8 = (.getfield 34, 11, 1, 6) := rfl
theorem t24_11 : (am_G 24).2.2.2.2.1 11 = (.aload_n 0, 12, 0, 0) := rfl
theorem t24_12 : (am_G 24).2.2.2.2.1 12 = (.getfield 25, 15, 1, 4) := rfl
theorem t24_15 : (am_G 24).2.2.2.2.1 15 = (.iconst 0, 16, 0, 0) := rfl
theorem t24_16 : (am_G 24).2.2.2.2.1 16 = (.iaload, 17, 0, 0) := rfl
theorem t24_17 : (am_G 24).2.2.2.2.1 17 = (.aload_n 0, 18, 0, 0) := rfl
theorem t24_18 : (am_G 24).2.2.2.2.1 18 = (.getfield 25, 21, 1, 4) := rfl
theorem t24_21 : (am_G 24).2.2.2.2.1 21 = (.iconst 1, 22, 1, 0) := rfl
theorem t24_22 : (am_G 24).2.2.2.2.1 22 = (.iaload, 23, 0, 0) := rfl
theorem t24_23 : (am_G 24).2.2.2.2.1 23 = (.aload_n 0, 24, 0, 0) := rfl
theorem t24_24 : (am_G 24).2.2.2.2.1 24 = (.getfield 25, 27, 1, 4) := rfl
theorem t24_27 : (am_G 24).2.2.2.2.1 27 = (.iconst 2, 28, 2, 0) := rfl
theorem t24_28 : (am_G 24).2.2.2.2.1 28 = (.iaload, 29, 0, 0) := rfl
theorem t24_29 : (am_G 24).2.2.2.2.1 29 = (.invokevirtual 204, 32, 44, 3) := rfl
theorem t24_32 : (am_G 24).2.2.2.2.1 32 = (.aload_n 0, 33, 0, 0) := rfl
theorem t24_33 : (am_G 24).2.2.2.2.1 33 = (.getfield 82, 36, 1, 16) := rfl
theorem t24_36 : (am_G 24).2.2.2.2.1 36 = (.bipush 103, 38, 103, 0) := rfl
theorem t24_38 : (am_G 24).2.2.2.2.1 38 = (.if_icmp .eq 12, 41, 50, 0) := rfl
theorem t24_41 : (am_G 24).2.2.2.2.1 41 = (.aload_n 0, 42, 0, 0) := rfl
theorem t24_42 : (am_G 24).2.2.2.2.1 42 = (.getfield 82, 45, 1, 16) := rfl
theorem t24_45 : (am_G 24).2.2.2.2.1 45 = (.bipush 108, 47, 108, 0) := rfl
theorem t24_47 : (am_G 24).2.2.2.2.1 47 = (.if_icmp .ne 10, 50, 57, 0) := rfl
theorem t24_50 : (am_G 24).2.2.2.2.1 50 = (.aload_n 0, 51, 0, 0) := rfl
theorem t24_51 : (am_G 24).2.2.2.2.1 51 = (.invokevirtual 208, 54, 25, 1) := rfl
theorem t24_54 : (am_G 24).2.2.2.2.1 54 = (.goto 32, 57, 86, 0) := rfl
theorem t24_57 : (am_G 24).2.2.2.2.1 57 = (.aload_n 0, 58, 0, 0) := rfl
theorem t24_58 : (am_G 24).2.2.2.2.1 58 = (.getfield 82, 61, 1, 16) := rfl
theorem t24_61 : (am_G 24).2.2.2.2.1 61 = (.bipush 100, 63, 100, 0) := rfl
theorem t24_63 : (am_G 24).2.2.2.2.1 63 = (.if_icmp .ne 10, 66, 73, 0) := rfl
theorem t24_66 : (am_G 24).2.2.2.2.1 66 = (.aload_n 0, 67, 0, 0) := rfl
theorem t24_67 : (am_G 24).2.2.2.2.1 67 = (.invokevirtual 211, 70, 26, 1) := rfl
theorem t24_70 : (am_G 24).2.2.2.2.1 70 = (.goto 16, 73, 86, 0) := rfl
theorem t24_73 : (am_G 24).2.2.2.2.1 73 = (.aload_n 0, 74, 0, 0) := rfl
theorem t24_74 : (am_G 24).2.2.2.2.1 74 = (.getfield 82, 77, 1, 16) := rfl
theorem t24_77 : (am_G 24).2.2.2.2.1 77 = (.bipush 112, 79, 112, 0) := rfl
theorem t24_79 : (am_G 24).2.2.2.2.1 79 = (.if_icmp .ne 7, 82, 86, 0) := rfl
theorem t24_82 : (am_G 24).2.2.2.2.1 82 = (.aload_n 0, 83, 0, 0) := rfl
theorem t24_83 : (am_G 24).2.2.2.2.1 83 = (.invokevirtual 214, 86, 27, 1) := rfl
theorem t24_86 : (am_G 24).2.2.2.2.1 86 = (.return_, 87, 0, 0) := rfl
theorem t25_0 : (am_G 25).2.2.2.2.1 0 = (.aload_n 0, 1, 0, 0) := rfl
theorem t25_1 : (am_G 25).2.2.2.2.1 1 = (.getfield 75, 4, 1, 14) := rfl
theorem t25_4 : (am_G 25).2.2.2.2.1 4 = (.ifCond .eq 10, 7, 14, 0) := rfl
theorem t25_7 : (am_G 25).2.2.2.2.1 7 = (.aload_n 0, 8, 0, 0) := rfl
theorem t25_8 : (am_G 25).2.2.2.2.1 8 = (.getfield 25, 11, 1, 4) := rfl
theorem t25_11 : (am_G 25).2.2.2.2.1 11 = (.goto 10, 14, 21, 0) := rfl
theorem t25_14 : (am_G 25).2.2.2.2.1 14 = (.aload_n 0, 15, 0, 0) := rfl
theorem t25_15 : (am_G 25).2.2.2.2.1 15 = (.getfield 45, 18, 1, 0) := rfl
theorem t25_18 : (am_G 25).2.2.2.2.1 18 = (.getfield 217, 21, 2, 2) := rfl
theorem t25_21 : (am_G 25).2.2.2.2.1 21 = (.astore_n 1, 22, 1, 0) := rfl
theorem t25_22 : (am_G 25).2.2.2.2.1 22 = (.aload_n 0, 23, 0, 0) := rfl
theorem t25_23 : (am_G 25).2.2.2.2.1 23 = (.getfield 75, 26, 1, 14) := rfl
theorem t25_26 : (am_G 25).2.2.2.2.1 26 = (.ifCond .eq 7, 29, 33, 0) := rfl
theorem t25_29 : (am_G 25).2.2.2.2.1 29 = (.iconst 0, 30, 0, 0) := rfl
theorem t25_30 : (am_G 25).2.2.2.2.1 30 = (.goto 9, 33, 39, 0) := rfl
theorem t25_33 : (am_G 25).2.2.2.2.1 33 = (.aload_n 0, 34, 0, 0) := rfl
theorem t25_34 : (am_G 25).2.2.2.2.1 34 = (.getfield 72, 37, 1, 13) := rfl
theorem t25_37 : (am_G 25).2.2.2.2.1 37 = (.iconst 3, 38, 3, 0) := rfl
theorem t25_38 : (am_G 25).2.2.2.2.1 38 = (.imul, 39, 0, 0) := rfl
theorem t25_39 : (am_G 25).2.2.2.2.1 39 = (.istore_n 2, 40, 2, 0) := rfl
theorem t25_40 : (am_G 25).2.2.2.2.1 40 = (.iload_n 2, 41, 2, 0) := rfl
theorem t25_41 : (am_G 25).2.2.2.2.1 41 = (.iconst 0, 42, 0, 0) := rfl
theorem t25_42 : (am_G 25).2.2.2.2.1 42 = (.aload_n 1, 43, 1, 0) := rfl
theorem t25_43 : (am_G 25).2.2.2.2.1 43 = (.arraylength, 44, 0, 0) := rfl
theorem t25_44 : (am_G 25).2.2.2.2.1 44 = (.iconst 3, 45, 3, 0) := rfl
theorem t25_45 : (am_G 25).2.2.2.2.1 45 = (.isub, 46, 0, 0) := rfl
theorem t25_46 : (am_G 25).2.2.2.2.1 46 = (.invokestatic 151, 49, 84, 1) := rfl
theorem t25_49 : (am_G 25).2.2.2.2.1 49 = (.ifCond .ne 4, 52, 53, 0) := rfl
theorem t25_52 : (am_G 25).2.2.2.2.1 52 = (.return_, 53, 0, 0) := rfl
theorem t25_53 : (am_G 25).2.2.2.2.1 53 = (.aload_n 1, 54, 1, 0) := rfl
theorem t25_54 : (am_G 25).2.2.2.2.1 54 = (.iload_n 2, 55, 2, 0) := rfl
theorem t25_55 : (am_G 25).2.2.2.2.1 55 = (.iaload, 56, 0, 0) := rfl
theorem t25_56 : (am_G 25).2.2.2.2.1 56 = (.aload_n 0, 57, 0, 0) := rfl
theorem t25_57 : (am_G 25).2.2.2.2.1 57 = (.getfield 114, 60, 1, 17) := rfl
theorem t25_60 : (am_G 25).2.2.2.2.1 60 = (.iadd, 61, 0, 0) := rfl
theorem t25_61 : (am_G 25).2.2.2.2.1 61 = (.istore_n 3, 62, 3, 0) := rfl
theorem t25_62 : (am_G 25).2.2.2.2.1 62 = (.aload_n 1, 63, 1, 0) := rfl
theorem t25_63 : (am_G 25).2.2.2.2.1 63 = (.iload_n 2, 64, 2, 0) := rfl
theorem t25_64 : (am_G 25).2.2.2.2.1 64 = (.iconst 1, 65, 1, 0) := rfl
theorem t25_65 : (am_G 25).2.2.2.2.1 65 = (.iadd, 66, 0, 0) := rfl
theorem t25_66 : (am_G 25).2.2.2.2.1 66 = (.iaload, 67, 0, 0) := rfl
theorem t25_67 : (am_G 25).2.2.2.2.1 67 = (.aload_n 0, 68, 0, 0) := rfl
theorem t25_68 : (am_G 25).2.2.2.2.1 68 = (.getfield 120, 71, 1, 18) := rfl
theorem t25_71 : (am_G 25).2.2.2.2.1 71 = (.iadd, 72, 0, 0) := rfl
theorem t25_72 : (am_G 25).2.2.2.2.1 72 = (.istore 4, 74, 4, 0) := rfl
theorem t25_74 : (am_G 25).2.2.2.2.1 74 = (.aload_n 1, 75, 1, 0) := rfl
theorem t25_75 : (am_G 25).2.2.2.2.1 75 = (.iload_n 2, 76, 2, 0) := rfl
theorem t25_76 : (am_G 25).2.2.2.2.1 76 = (.iconst 2, 77, 2, 0) := rfl
theorem t25_77 : (am_G 25).2.2.2.2.1 77 = (.iadd, 78, 0, 0) := rfl
theorem t25_78 : (am_G 25).2.2.2.2.1 78 = (.iaload, 79, 0, 0) := rfl
theorem t25_79 : (am_G 25).2.2.2.2.1 79 = (.aload_n 0, 80, 0, 0) := rfl
theorem t25_80 : (am_G 25).2.2.2.2.1 80 = (.getfield 126, 83, 1, 19) := rfl
theorem t25_83 : (am_G 25).2.2.2.2.1 83 = (.iadd, 84, 0, 0) := rfl
theorem t25_84 : (am_G 25).2.2.2.2.1 84 = (.istore 5, 86, 5, 0) := rfl
theorem t25_86 : (am_G 25).2.2.2.2.1 86 = (.aload_n 0, 87, 0, 0) := rfl
theorem t25_87 : (am_G 25).2.2.2.2.1 87 = (.getfield 34, 90, 1, 6) := rfl
theorem t25_90 : (am_G 25).2.2.2.2.1 90 = (.aload_n 0, 91, 0, 0) := rfl
theorem t25_91 : (am_G 25).2.2.2.2.1 91 = (.getfield 25, 94, 1, 4) := rfl
theorem t25_94 : (am_G 25).2.2.2.2.1 94 = (.iconst 0, 95, 0, 0) := rfl
theorem t25_95 : (am_G 25).2.2.2.2.1 95 = (.iaload, 96, 0, 0) := rfl
theorem t25_96 : (am_G 25).2.2.2.2.1 96 = (.aload_n 0, 97, 0, 0) := rfl
theorem t25_97 : (am_G 25).2.2.2.2.1 97 = (.getfield 25, 100, 1, 4) := rfl
theorem t25_100 : (am_G 25).2.2.2.2.1 100 = (.iconst 1, 101, 1, 0) := rfl
theorem t25_101 : (am_G 25).2.2.2.2.1 101 = (.iaload, 102, 0, 0) := rfl
theorem t25_102 : (am_G 25).2.2.2.2.1 102 = (.aload_n 0, 103, 0, 0) := rfl
theorem t25_103 : (am_G 25).2.2.2.2.1 103 = (.getfield 25, 106, 1, 4) := rfl
theorem t25_106 : (am_G 25).2.2.2.2.1 106 = (.iconst 2, 107, 2, 0) := rfl
theorem t25_107 : (am_G 25).2.2.2.2.1 107 = (.iaload, 108, 0, 0) := rfl
theorem t25_108 : (am_G 25).2.2.2.2.1 108 = (.iload_n 3, 109, 3, 0) := rfl
theorem t25_109 : (am_G 25).2.2.2.2.1 109 = (.iload 4, 111, 4, 0) := rfl
theorem t25_111 : (am_G 25).2.2.2.2.1 111 = (.iload 5, 113, 5, 0) := rfl
theorem t25_113 : (am_G 25).2.2.2.2.1 113 = (.invokevirtual 220, 116, 43, 3) := rfl
theorem t25_116 : (am_G 25).2.2.2.2.1 116 = (.aload_n 0, 117, 0, 0) := rfl
theorem t25_117 : (am_G 25).2.2.2.2.1 117 = (.getfield 34, 120, 1, 6) := rfl
theorem t25_120 : (am_G 25).2.2.2.2.1 120 = (.iload_n 3, 121, 3, 0) := rfl
theorem t25_121 : (am_G 25).2.2.2.2.1 121 = (.iload 4, 123, 4, 0) := rfl
theorem t25_123 : (am_G 25).2.2.2.2.1 123 = (.iload 5, 125, 5, 0) := rfl
theorem t25_125 : (am_G 25).2.2.2.2.1 125 = (.invokevirtual 204, 128, 44, 3) := rfl
theorem t25_128 : (am_G 25).2.2.2.2.1 128 = (.return_, 129, 0, 0) := rfl
theorem t26_0 : (am_G 26).2.2.2.2.1 0 = (.iconst 1, 1, 1, 0) := rfl
theorem t26_1 : (am_G 26).2.2.2.2.1 1 = (.istore_n 1, 2, 1, 0) := rfl
theorem t26_2 : (am_G 26).2.2.2.2.1 2 = (.iload_n 1, 3, 1, 0) := rfl
theorem t26_3 : (am_G 26).2.2.2.2.1 3 = (.aload_n 0, 4, 0, 0) := rfl
theorem t26_4 : (am_G 26).2.2.2.2.1 4 = (.getfield 114, 7, 1, 17) := rfl
theorem t26_7 : (am_G 26).2.2.2.2.1 7 = (.if_icmp .ge 32, 10, 39, 0) := rfl
theorem t26_10 : (am_G 26).2.2.2.2.1 10 = (.iload_n 1, 11, 1, 0) := rfl
theorem t26_11 : (am_G 26).2.2.2.2.1 11 = (.aload_n 0, 12, 0, 0) := rfl
theorem t26_12 : (am_G 26).2.2.2.2.1 12 = (.getfield 120, 15, 1, 18) := rfl
theorem t26_15 : (am_G 26).2.2.2.2.1 15 = (.imul, 16, 0, 0) := rfl
theorem t26_16 : (am_G 26).2.2.2.2.1 16 = (.aload_n 0, 17, 0, 0) := rfl
theorem t26_17 : (am_G 26).2.2.2.2.1 17 = (.getfield 114, 20, 1, 17) := rfl
theorem t26_20 : (am_G 26).2.2.2.2.1 20 = (.if_icmp .ge 19, 23, 39, 0) := rfl
theorem t26_23 : (am_G 26).2.2.2.2.1 23 = (.aload_n 0, 24, 0, 0) := rfl
theorem t26_24 : (am_G 26).2.2.2.2.1 24 = (.iload_n 1, 25, 1, 0) := rfl
theorem t26_25 : (am_G 26).2.2.2.2.1 25 = (.aload_n 0, 26, 0, 0) := rfl
theorem t26_26 : (am_G 26).2.2.2.2.1 26 = (.getfield 120, 29, 1, 18) := rfl
theorem t26_29 : (am_G 26).2.2.2.2.1 29 = (.imul, 30, 0, 0) := rfl
theorem t26_30 : (am_G 26).2.2.2.2.1 30 = (.invokevirtual 224, 33, 28, 1) := rfl
theorem t26_33 : (am_G 26).2.2.2.2.1 33 = (.iinc 1 1, 36, 1, 1) := rfl
theorem t26_36 : (am_G 26).2.2.2.2.1 36 = (.goto (-34), 39, 2, 0) := rfl
theorem t26_39 : (am_G 26).2.2.2.2.1 39 = (.aload_n 0, 40, 0, 0) := rfl
theorem t26_40 : (am_G 26).2.2.2.2.1 40 = (.aload_n 0, 41, 0, 0) := rfl
theorem t26_41 : (am_G 26).2.2.2.2.1 41 = (.getfield 114, 44, 1, 17) := rfl
theorem t26_44 : (am_G 26).2.2.2.2.1 44 = (.invokevirtual 224, 47, 28, 1) := rfl
theorem t26_47 : (am_G 26).2.2.2.2.1 47 = (.return_, 48, 0, 0) := rfl
theorem t27_0 : (am_G 27).2.2.2.2.1 0 = (.aload_n 0, 1, 0, 0) := rfl
theorem t27_1 : (am_G 27).2.2.2.2.1 1 = (.aload_n 0, 2, 0, 0) := rfl
theorem t27_2 : (am_G 27).2.2.2.2.1 2 = (.getfield 126, 5, 1, 19) := rfl
theorem t27_5 : (am_G 27).2.2.2.2.1 5 = (.invokevirtual 224, 8, 28, 1) := rfl
theorem t27_8 : (am_G 27).2.2.2.2.1 8 = (.aload_n 0, 9, 0, 0) := rfl
theorem t27_9 : (am_G 27).2.2.2.2.1 9 = (.getfield 25, 12, 1, 4) := rfl
theorem t27_12 : (am_G 27).2.2.2.2.1 12 = (.iconst 0, 13, 0, 0) := rfl
theorem t27_13 : (am_G 27).2.2.2.2.1 13 = (.iaload, 14, 0, 0) := rfl
theorem t27_14 : (am_G 27).2.2.2.2.1 14 = (.istore_n 1, 15, 1, 0) := rfl
theorem t27_15 : (am_G 27).2.2.2.2.1 15 = (.aload_n 0, 16, 0, 0) := rfl
theorem t27_16 : (am_G 27).2.2.2.2.1 16 = (.getfield 25, 19, 1, 4) := rfl
theorem t27_19 : (am_G 27).2.2.2.2.1 19 = (.iconst 0, 20, 0, 0) := rfl
theorem t27_20 : (am_G 27).2.2.2.2.1 20 = (.iaload, 21, 0, 0) := rfl
theorem t27_21 : (am_G 27).2.2.2.2.1 21 = (.aload_n 0, 22, 0, 0) := rfl
theorem t27_22 : (am_G 27).2.2.2.2.1 22 = (.getfield 114, 25, 1, 17) := rfl
theorem t27_25 : (am_G 27).2.2.2.2.1 25 = (.iadd, 26, 0, 0) := rfl
theorem t27_26 : (am_G 27).2.2.2.2.1 26 = (.istore_n 2, 27, 2, 0) := rfl
theorem t27_27 : (am_G 27).2.2.2.2.1 27 = (.aload_n 0, 28, 0, 0) := rfl
theorem t27_28 : (am_G 27).2.2.2.2.1 28 = (.getfield 25, 31, 1, 4) := rfl
theorem t27_31 : (am_G 27).2.2.2.2.1 31 = (.iconst 1, 32, 1, 0) := rfl
theorem t27_32 : (am_G 27).2.2.2.2.1 32 = (.iaload, 33, 0, 0) := rfl
theorem t27_33 : (am_G 27).2.2.2.2.1 33 = (.istore_n 3, 34, 3, 0) := rfl
theorem t27_34 : (am_G 27).2.2.2.2.1 34 = (.aload_n 0, 35, 0, 0) := rfl
theorem t27_35 : (am_G 27).2.2.2.2.1 35 = (.getfield 25, 38, 1, 4) := rfl
theorem t27_38 : (am_G 27).2.2.2.2.1 38 = (.iconst 2, 39, 2, 0) := rfl
theorem t27_39 : (am_G 27).2.2.2.2.1 39 = (.iaload, 40, 0, 0) := rfl
theorem t27_40 : (am_G 27).2.2.2.2.1 40 = (.aload_n 0, 41, 0, 0) := rfl
theorem t27_41 : (am_G 27).2.2.2.2.1 41 = (.getfield 126, 44, 1, 19) := rfl
theorem t27_44 : (am_G 27).2.2.2.2.1 44 = (.isub, 45, 0, 0) := rfl
theorem t27_45 : (am_G 27).2.2.2.2.1 45 = (.istore 4, 47, 4, 0) := rfl
theorem t27_47 : (am_G 27).2.2.2.2.1 47 = (.aload_n 0, 48, 0, 0) := rfl
theorem t27_48 : (am_G 27).2.2.2.2.1 48 = (.getfield 34, 51, 1, 6) := rfl
theorem t27_51 : (am_G 27).2.2.2.2.1 51 = (.iload_n 1, 52, 1, 0) := rfl
theorem t27_52 : (am_G 27).2.2.2.2.1 52 = (.iload_n 3, 53, 3, 0) := rfl
theorem t27_53 : (am_G 27).2.2.2.2.1 53 = (.iload 4, 55, 4, 0) := rfl
theorem t27_55 : (am_G 27).2.2.2.2.1 55 = (.iload_n 2, 56, 2, 0) := rfl
theorem t27_56 : (am_G 27).2.2.2.2.1 56 = (.iload_n 3, 57, 3, 0) := rfl
theorem t27_57 : (am_G 27).2.2.2.2.1 57 = (.iload 4, 59, 4, 0) := rfl
theorem t27_59 : (am_G 27).2.2.2.2.1 59 = (.invokevirtual 220, 62, 43, 3) := rfl
theorem t27_62 : (am_G 27).2.2.2.2.1 62 = (.iload_n 2, 63, 2, 0) := rfl
theorem t27_63 : (am_G 27).2.2.2.2.1 63 = (.istore 5, 65, 5, 0) := rfl
theorem t27_65 : (am_G 27).2.2.2.2.1 65 = (.iconst 0, 66, 0, 0) := rfl
theorem t27_66 : (am_G 27).2.2.2.2.1 66 = (.istore 6, 68, 6, 0) := rfl
theorem t27_68 : (am_G 27).2.2.2.2.1 68 = (.iload 6, 70, 6, 0) := rfl
theorem t27_70 : (am_G 27).2.2.2.2.1 70 = (.aload_n 0, 71, 0, 0) := rfl
theorem t27_71 : (am_G 27).2.2.2.2.1 71 = (.getfield 120, 74, 1, 18) := rfl
theorem t27_74 : (am_G 27).2.2.2.2.1 74 = (.if_icmp .ge 65, 77, 139, 0) := rfl
theorem t27_77 : (am_G 27).2.2.2.2.1 77 = (.aload_n 0, 78, 0, 0) := rfl
theorem t27_78 : (am_G 27).2.2.2.2.1 78 = (.getfield 34, 81, 1, 6) := rfl
theorem t27_81 : (am_G 27).2.2.2.2.1 81 = (.iload 5, 83, 5, 0) := rfl
theorem t27_83 : (am_G 27).2.2.2.2.1 83 = (.iload_n 3, 84, 3, 0) := rfl
theorem t27_84 : (am_G 27).2.2.2.2.1 84 = (.iload 4, 86, 4, 0) := rfl
theorem t27_86 : (am_G 27).2.2.2.2.1 86 = (.iload 5, 88, 5, 0) := rfl
theorem t27_88 : (am_G 27).2.2.2.2.1 88 = (.iload_n 3, 89, 3, 0) := rfl
theorem t27_89 : (am_G 27).2.2.2.2.1 89 = (.iconst 1, 90, 1, 0) := rfl
theorem t27_90 : (am_G 27).2.2.2.2.1 90 = (.iadd, 91, 0, 0) := rfl
theorem t27_91 : (am_G 27).2.2.2.2.1 91 = (.iload 4, 93, 4, 0) := rfl
theorem t27_93 : (am_G 27).2.2.2.2.1 93 = (.invokevirtual 220, 96, 43, 3) := rfl
theorem t27_96 : (am_G 27).2.2.2.2.1 96 = (.iinc 3 1, 99, 3, 1) := rfl
theorem t27_99 : (am_G 27).2.2.2.2.1 99 = (.iload 5, 101, 5, 0) := rfl
theorem t27_101 : (am_G 27).2.2.2.2.1 101 = (.iload_n 1, 102, 1, 0) := rfl
theorem t27_102 : (am_G 27).2.2.2.2.1 102 = (.if_icmp .ne 7, 105, 109, 0) := rfl
theorem t27_105 : (am_G 27).2.2.2.2.1 105 = (.iload_n 2, 106, 2, 0) := rfl
theorem t27_106 : (am_G 27).2.2.2.2.1 106 = (.goto 4, 109, 110, 0) := rfl
theorem t27_109 : (am_G 27).2.2.2.2.1 109 = (.iload_n 1, 110, 1, 0) := rfl
theorem t27_110 : (am_G 27).2.2.2.2.1 110 = (.istore 7, 112, 7, 0) := rfl
theorem t27_112 : (am_G 27).2.2.2.2.1 112 = (.aload_n 0, 113, 0, 0) := rfl
theorem t27_113 : (am_G 27).2.2.2.2.1 113 = (.getfield 34, 116, 1, 6) := rfl
theorem t27_116 : (am_G 27).2.2.2.2.1 116 = (.iload 5, 118, 5, 0) := rfl
theorem t27_118 : (am_G 27).2.2.2.2.1 118 = (.iload_n 3, 119, 3, 0) := rfl
theorem t27_119 : (am_G 27).2.2.2.2.1 119 = (.iload 4, 121, 4, 0) := rfl
theorem t27_121 : (am_G 27).2.2.2.2.1 121 = (.iload 7, 123, 7, 0) := rfl
theorem t27_123 : (am_G 27).2.2.2.2.1 123 = (.iload_n 3, 124, 3, 0) := rfl
theorem t27_124 : (am_G 27).2.2.2.2.1 124 = (.iload 4, 126, 4, 0) := rfl
theorem t27_126 : (am_G 27).2.2.2.2.1 126 = (.invokevirtual 220, 129, 43, 3) := rfl
theorem t27_129 : (am_G 27).2.2.2.2.1 129 = (.iload 7, 131, 7, 0) := rfl
theorem t27_131 : (am_G 27).2.2.2.2.1 131 = (.istore 5, 133, 5, 0) := rfl
theorem t27_133 : (am_G 27).2.2.2.2.1 133 = (.iinc 6 1, 136, 6, 1) := rfl
theorem t27_136 : (am_G 27).2.2.2.2.1 136 = (.goto (-68), 139, 68, 0) := rfl
theorem t27_139 : (am_G 27).2.2.2.2.1 139 = (.aload_n 0, 140, 0, 0) := rfl
theorem t27_140 : (am_G 27).2.2.2.2.1 140 = (.getfield 34, 143, 1, 6) := rfl
theorem t27_143 : (am_G 27).2.2.2.2.1 143 = (.iload 5, 145, 5, 0) := rfl
theorem t27_145 : (am_G 27).2.2.2.2.1 145 = (.iload_n 3, 146, 3, 0) := rfl
theorem t27_146 : (am_G 27).2.2.2.2.1 146 = (.aload_n 0, 147, 0, 0) := rfl
theorem t27_147 : (am_G 27).2.2.2.2.1 147 = (.getfield 25, 150, 1, 4) := rfl
theorem t27_150 : (am_G 27).2.2.2.2.1 150 = (.iconst 2, 151, 2, 0) := rfl
theorem t27_151 : (am_G 27).2.2.2.2.1 151 = (.iaload, 152, 0, 0) := rfl
theorem t27_152 : (am_G 27).2.2.2.2.1 152 = (.invokevirtual 204, 155, 44, 3) := rfl
theorem t27_155 : (am_G 27).2.2.2.2.1 155 = (.return_, 156, 0, 0) := rfl
theorem t28_0 : (am_G 28).2.2.2.2.1 0 = (.aload_n 0, 1, 0, 0) := rfl
theorem t28_1 : (am_G 28).2.2.2.2.1 1 = (.getfield 34, 4, 1, 6) := rfl
theorem t28_4 : (am_G 28).2.2.2.2.1 4 = (.aload_n 0, 5, 0, 0) := rfl
theorem t28_5 : (am_G 28).2.2.2.2.1 5 = (.getfield 25, 8, 1, 4) := rfl
theorem t28_8 : (am_G 28).2.2.2.2.1 8 = (.iconst 0, 9, 0, 0) := rfl
theorem t28_9 : (am_G 28).2.2.2.2.1 9 = (.iaload, 10, 0, 0) := rfl
theorem t28_10 : (am_G 28).2.2.2.2.1 10 = (.aload_n 0, 11, 0, 0) := rfl
theorem t28_11 : (am_G 28).2.2.2.2.1 11 = (.getfield 25, 14, 1, 4) := rfl
theorem t28_14 : (am_G 28).2.2.2.2.1 14 = (.iconst 1, 15, 1, 0) := rfl
theorem t28_15 : (am_G 28).2.2.2.2.1 15 = (.iaload, 16, 0, 0) := rfl
theorem t28_16 : (am_G 28).2.2.2.2.1 16 = (.aload_n 0, 17, 0, 0) := rfl
theorem t28_17 : (am_G 28).2.2.2.2.1 17 = (.getfield 25, 20, 1, 4) := rfl
theorem t28_20 : (am_G 28).2.2.2.2.1 20 = (.iconst 2, 21, 2, 0) := rfl
theorem t28_21 : (am_G 28).2.2.2.2.1 21 = (.iaload, 22, 0, 0) := rfl
theorem t28_22 : (am_G 28).2.2.2.2.1 22 = (.aload_n 0, 23, 0, 0) := rfl
theorem t28_23 : (am_G 28).2.2.2.2.1 23 = (.getfield 25, 26, 1, 4) := rfl
theorem t28_26 : (am_G 28).2.2.2.2.1 26 = (.iconst 0, 27, 0, 0) := rfl
theorem t28_27 : (am_G 28).2.2.2.2.1 27 = (.iaload, 28, 0, 0) := rfl
theorem t28_28 : (am_G 28).2.2.2.2.1 28 = (.aload_n 0, 29, 0, 0) := rfl
theorem t28_29 : (am_G 28).2.2.2.2.1 29 = (.getfield 25, 32, 1, 4) := rfl
theorem t28_32 : (am_G 28).2.2.2.2.1 32 = (.iconst 1, 33, 1, 0) := rfl
theorem t28_33 : (am_G 28).2.2.2.2.1 33 = (.iaload, 34, 0, 0) := rfl
theorem t28_34 : (am_G 28).2.2.2.2.1 34 = (.aload_n 0, 35, 0, 0) := rfl
theorem t28_35 : (am_G 28).2.2.2.2.1 35 = (.getfield 25, 38, 1, 4) := rfl
theorem t28_38 : (am_G 28).2.2.2.2.1 38 = (.iconst 2, 39, 2, 0) := rfl
theorem t28_39 : (am_G 28).2.2.2.2.1 39 = (.iaload, 40, 0, 0) := rfl
theorem t28_40 : (am_G 28).2.2.2.2.1 40 = (.iload_n 1, 41, 1, 0) := rfl
theorem t28_41 : (am_G 28).2.2.2.2.1 41 = (.isub, 42, 0, 0) := rfl
theorem t28_42 : (am_G 28).2.2.2.2.1 42 = (.invokevirtual 220, 45, 43, 3) := rfl
theorem t28_45 : (am_G 28).2.2.2.2.1 45 = (.return_, 46, 0, 0) := rfl
theorem t29_0 : (am_G 29).2.2.2.2.1 0 = (.aload_n 0, 1, 0, 0) := rfl
theorem t29_1 : (am_G 29).2.2.2.2.1 1 = (.getfield 62, 4, 1, 10) := rfl
theorem t29_4 : (am_G 29).2.2.2.2.1 4 = (.iconst (-1), 5, 4294967295, 0) := rfl
theorem t29_5 : (am_G 29).2.2.2.2.1 5 = (.if_icmp .ne 5, 8, 10, 0) := rfl
theorem t29_8 : (am_G 29).2.2.2.2.1 8 = (.iconst 0, 9, 0, 0) := rfl
theorem t29_9 : (am_G 29).2.2.2.2.1 9 = (.ireturn, 10, 0, 0) := rfl
theorem t29_10 : (am_G 29).2.2.2.2.1 10 = (.iconst 0, 11, 0, 0) := rfl
theorem t29_11 : (am_G 29).2.2.2.2.1 11 = (.istore_n 2, 12, 2, 0) := rfl
theorem t29_12 : (am_G 29).2.2.2.2.1 12 = (.iload_n 2, 13, 2, 0) := rfl
theorem t29_13 : (am_G 29).2.2.2.2.1 13 = (.aload_n 0, 14, 0, 0) := rfl
theorem t29_14 : (am_G 29).2.2.2.2.1 14 = (.getfield 34, 17, 1, 6) := rfl
theorem t29_17 : (am_G 29).2.2.2.2.1 17 = (.getfield 228, 20, 3, 3) := rfl
theorem t29_20 : (am_G 29).2.2.2.2.1 20 = (.if_icmp .ge 54, 23, 74, 0) := rfl
theorem t29_23 : (am_G 29).2.2.2.2.1 23 = (.aload_n 0, 24, 0, 0) := rfl
theorem t29_24 : (am_G 29).2.2.2.2.1 24 = (.getfield 34, 27, 1, 6) := rfl
theorem t29_27 : (am_G 29).2.2.2.2.1 27 = (.iload_n 2, 28, 2, 0) := rfl
theorem t29_28 : (am_G 29).2.2.2.2.1 28 = (.invokevirtual 231, 31, 46, 3) := rfl
theorem t29_31 : (am_G 29).2.2.2.2.1 31 = (.istore_n 3, 32, 3, 0) := rfl
theorem t29_32 : (am_G 29).2.2.2.2.1 32 = (.iconst 1, 33, 1, 0) := rfl
theorem t29_33 : (am_G 29).2.2.2.2.1 33 = (.istore 4, 35, 4, 0) := rfl
theorem t29_35 : (am_G 29).2.2.2.2.1 35 = (.iload 4, 37, 4, 0) := rfl
theorem t29_37 : (am_G 29).2.2.2.2.1 37 = (.iload_n 3, 38, 3, 0) := rfl
theorem t29_38 : (am_G 29).2.2.2.2.1 38 = (.if_icmp .gt 30, 41, 68, 0) := rfl
theorem t29_41 : (am_G 29).2.2.2.2.1 41 = (.aload_n 0, 42, 0, 0) := rfl
theorem t29_42 : (am_G 29).2.2.2.2.1 42 = (.iload_n 2, 43, 2, 0) := rfl
theorem t29_43 : (am_G 29).2.2.2.2.1 43 = (.iload 4, 45, 4, 0) := rfl
theorem t29_45 : (am_G 29).2.2.2.2.1 45 = (.iload_n 3, 46, 3, 0) := rfl
theorem t29_46 : (am_G 29).2.2.2.2.1 46 = (.invokevirtual 234, 49, 31, 1) := rfl
theorem t29_49 : (am_G 29).2.2.2.2.1 49 = (.aload_n 1, 50, 1, 0) := rfl
theorem t29_50 : (am_G 29).2.2.2.2.1 50 = (.aload_n 0, 51, 0, 0) := rfl
theorem t29_51 : (am_G 29).2.2.2.2.1 51 = (.getfield 41, 54, 1, 7) := rfl
theorem t29_54 : (am_G 29).2.2.2.2.1 54 = (.invokevirtual 237, 57, 8, 0) := rfl
theorem t29_57 : (am_G 29).2.2.2.2.1 57 = (.ifCond .eq 5, 60, 62, 0) := rfl
theorem t29_60 : (am_G 29).2.2.2.2.1 60 = (.iconst 1, 61, 1, 0) := rfl
theorem t29_61 : (am_G 29).2.2.2.2.1 61 = (.ireturn, 62, 0, 0) := rfl
theorem t29_62 : (am_G 29).2.2.2.2.1 62 = (.iinc 4 1, 65, 4, 1) := rfl
theorem t29_65 : (am_G 29).2.2.2.2.1 65 = (.goto (-30), 68, 35, 0) := rfl
theorem t29_68 : (am_G 29).2.2.2.2.1 68 = (.iinc 2 1, 71, 2, 1) := rfl
theorem t29_71 : (am_G 29).2.2.2.2.1 71 = (.goto (-59), 74, 12, 0) := rfl
theorem t29_74 : (am_G 29).2.2.2.2.1 74 = (.iconst 0, 75, 0, 0) := rfl
theorem t29_75 : (am_G 29).2.2.2.2.1 75 = (.ireturn, 76, 0, 0) := rfl
theorem t30_0 : (am_G 30).2.2.2.2.1 0 = (.aload_n 0, 1, 0, 0) := rfl
theorem t30_1 : (am_G 30).2.2.2.2.1 1 = (.getfield 62, 4, 1, 10) := rfl
theorem t30_4 : (am_G 30).2.2.2.2.1 4 = (.iconst 0, 5, 0, 0) := rfl
theorem t30_5 : (am_G 30).2.2.2.2.1 5 = (.bipush 11, 7, 11, 0) := rfl
theorem t30_7 : (am_G 30).2.2.2.2.1 7 = (.invokestatic 151, 10, 84, 1) := rfl
theorem t30_10 : (am_G 30).2.2.2.2.1 10 = (.ifCond .eq 40, 13, 50, 0) := rfl
theorem t30_13 : (am_G 30).2.2.2.2.1 13 = (.aload_n 0, 14, 0, 0) := rfl
theorem t30_14 : (am_G 30).2.2.2.2.1 14 = (.getfield 41, 17, 1, 7) := rfl
theorem t30_17 : (am_G 30).2.2.2.2.1 17 = (.aload_n 0, 18, 0, 0) := rfl
theorem t30_18 : (am_G 30).2.2.2.2.1 18 = (.getfield 45, 21, 1, 0) := rfl
theorem t30_21 : (am_G 30).2.2.2.2.1 21 = (.getfield 159, 24, 2, 0) := rfl
theorem t30_24 : (am_G 30).2.2.2.2.1 24 = (.getfield 241, 27, 5, 0) := rfl
theorem t30_27 : (am_G 30).2.2.2.2.1 27 = (.aload_n 0, 28, 0, 0) := rfl
theorem t30_28 : (am_G 30).2.2.2.2.1 28 = (.getfield 62, 31, 1, 10) := rfl
theorem t30_31 : (am_G 30).2.2.2.2.1 31 = (.caload, 32, 0, 0) := rfl
theorem t30_32 : (am_G 30).2.2.2.2.1 32 = (.aload_n 0, 33, 0, 0) := rfl
theorem t30_33 : (am_G 30).2.2.2.2.1 33 = (.getfield 45, 36, 1, 0) := rfl
theorem t30_36 : (am_G 30).2.2.2.2.1 36 = (.getfield 159, 39, 2, 0) := rfl
theorem t30_39 : (am_G 30).2.2.2.2.1 39 = (.getfield 245, 42, 5, 1) := rfl
theorem t30_42 : (am_G 30).2.2.2.2.1 42 = (.aload_n 0, 43, 0, 0) := rfl
theorem t30_43 : (am_G 30).2.2.2.2.1 43 = (.getfield 62, 46, 1, 10) := rfl
theorem t30_46 : (am_G 30).2.2.2.2.1 46 = (.iaload, 47, 0, 0) := rfl
theorem t30_47 : (am_G 30).2.2.2.2.1 47 = (.invokevirtual 248, 50, 62, 6) := rfl
theorem t30_50 : (am_G 30).2.2.2.2.1 50 = (.return_, 51, 0, 0) := rfl
theorem t31_0 : (am_G 31).2.2.2.2.1 0 = (.aload_n 0, 1, 0, 0) := rfl
theorem t31_1 : (am_G 31).2.2.2.2.1 1 = (.getfield 41, 4, 1, 7) := rfl
theorem t31_4 : (am_G 31).2.2.2.2.1 4 = (.aload_n 0, 5, 0, 0) := rfl
theorem t31_5 : (am_G 31).2.2.2.2.1 5 = (.getfield 34, 8, 1, 6) := rfl
theorem t31_8 : (am_G 31).2.2.2.2.1 8 = (.iload_n 1, 9, 1, 0) := rfl
theorem t31_9 : (am_G 31).2.2.2.2.1 9 = (.iconst 0, 10, 0, 0) := rfl
theorem t31_10 : (am_G 31).2.2.2.2.1 10 = (.iload_n 2, 11, 2, 0) := rfl
theorem t31_11 : (am_G 31).2.2.2.2.1 11 = (.iload_n 3, 12, 3, 0) := rfl
theorem t31_12 : (am_G 31).2.2.2.2.1 12 = (.invokevirtual 252, 15, 47, 3) := rfl
theorem t31_15 : (am_G 31).2.2.2.2.1 15 = (.aload_n 0, 16, 0, 0) := rfl
theorem t31_16 : (am_G 31).2.2.2.2.1 16 = (.getfield 34, 19, 1, 6) := rfl
theorem t31_19 : (am_G 31).2.2.2.2.1 19 = (.iload_n 1, 20, 1, 0) := rfl
theorem t31_20 : (am_G 31).2.2.2.2.1 20 = (.iconst 1, 21, 1, 0) := rfl
theorem t31_21 : (am_G 31).2.2.2.2.1 21 = (.iload_n 2, 22, 2, 0) := rfl
theorem t31_22 : (am_G 31).2.2.2.2.1 22 = (.iload_n 3, 23, 3, 0) := rfl
theorem t31_23 : (am_G 31).2.2.2.2.1 23 = (.invokevirtual 252, 26, 47, 3) := rfl
theorem t31_26 : (am_G 31).2.2.2.2.1 26 = (.aload_n 0, 27, 0, 0) := rfl
theorem t31_27 : (am_G 31).2.2.2.2.1 27 = (.getfield 34, 30, 1, 6) := rfl
theorem t31_30 : (am_G 31).2.2.2.2.1 30 = (.iload_n 1, 31, 1, 0) := rfl
theorem t31_31 : (am_G 31).2.2.2.2.1 31 = (.iconst 2, 32, 2, 0) := rfl
theorem t31_32 : (am_G 31).2.2.2.2.1 32 = (.iload_n 2, 33, 2, 0) := rfl
theorem t31_33 : (am_G 31).2.2.2.2.1 33 = (.iload_n 3, 34, 3, 0) := rfl
theorem t31_34 : (am_G 31).2.2.2.2.1 34 = (.invokevirtual 252, 37, 47, 3) := rfl
theorem t31_37 : (am_G 31).2.2.2.2.1 37 = (.invokevirtual 256, 40, 63, 6) := rfl
theorem t31_40 : (am_G 31).2.2.2.2.1 40 = (.return_, 41, 0, 0) := rfl
theorem t32_0 : (am_G 32).2.2.2.2.1 0 = (.aload_n 0, 1, 0, 0) := rfl
theorem t32_1 : (am_G 32).2.2.2.2.1 1 = (.getfield 41, 4, 1, 7) := rfl
theorem t32_4 : (am_G 32).2.2.2.2.1 4 = (.aload_n 0, 5, 0, 0) := rfl
theorem t32_5 : (am_G 32).2.2.2.2.1 5 = (.getfield 25, 8, 1, 4) := rfl
theorem t32_8 : (am_G 32).2.2.2.2.1 8 = (.iconst 0, 9, 0, 0) := rfl
theorem t32_9 : (am_G 32).2.2.2.2.1 9 = (.iaload, 10, 0, 0) := rfl
theorem t32_10 : (am_G 32).2.2.2.2.1 10 = (.aload_n 0, 11, 0, 0) := rfl
theorem t32_11 : (am_G 32).2.2.2.2.1 11 = (.getfield 25, 14, 1, 4) := rfl
theorem t32_14 : (am_G 32).2.2.2.2.1 14 = (.iconst 1, 15, 1, 0) := rfl
theorem t32_15 : (am_G 32).2.2.2.2.1 15 = (.iaload, 16, 0, 0) := rfl
theorem t32_16 : (am_G 32).2.2.2.2.1 16 = (.aload_n 0, 17, 0, 0) := rfl
theorem t32_17 : (am_G 32).2.2.2.2.1 17 = (.getfield 25, 20, 1, 4) := rfl
theorem t32_20 : (am_G 32).2.2.2.2.1 20 = (.iconst 2, 21, 2, 0) := rfl
theorem t32_21 : (am_G 32).2.2.2.2.1 21 = (.iaload, 22, 0, 0) := rfl
theorem t32_22 : (am_G 32).2.2.2.2.1 22 = (.invokevirtual 256, 25, 63, 6) := rfl
theorem t32_25 : (am_G 32).2.2.2.2.1 25 = (.aload_n 0, 26, 0, 0) := rfl
theorem t32_26 : (am_G 32).2.2.2.2.1 26 = (.getfield 12, 29, 1, 1) := rfl
theorem t32_29 : (am_G 32).2.2.2.2.1 29 = (.aload_n 0, 30, 0, 0) := rfl
theorem t32_30 : (am_G 32).2.2.2.2.1 30 = (.getfield 41, 33, 1, 7) := rfl
theorem t32_33 : (am_G 32).2.2.2.2.1 33 = (.invokevirtual 237, 36, 8, 0) := rfl
theorem t32_36 : (am_G 32).2.2.2.2.1 36 = (.ireturn, 37, 0, 0) := rfl
theorem t33_0 : (am_G 33).2.2.2.2.1 0 = (.aload_n 0, 1, 0, 0) := rfl
theorem t33_1 : (am_G 33).2.2.2.2.1 1 = (.getfield 55, 4, 1, 8) := rfl
theorem t33_4 : (am_G 33).2.2.2.2.1 4 = (.iconst 1, 5, 1, 0) := rfl
theorem t33_5 : (am_G 33).2.2.2.2.1 5 = (.iadd, 6, 0, 0) := rfl
theorem t33_6 : (am_G 33).2.2.2.2.1 6 = (.istore_n 1, 7, 1, 0) := rfl
theorem t33_7 : (am_G 33).2.2.2.2.1 7 = (.aload_n 0, 8, 0, 0) := rfl
theorem t33_8 : (am_G 33).2.2.2.2.1 8 = (.getfield 82, 11, 1, 16) := rfl
theorem t33_11 : (am_G 33).2.2.2.2.1 11 = (.tableswitch 217 101 120 #[209, 124, 217, 217, 201, 217, 217, 217, 135, 217, 155, 217, 217, 201, 104, 93, 217, 166, 217, 186], 104, 0, 0) := rfl
theorem t33_104 : (am_G 33).2.2.2.2.1 104 = (.aload_n 0, 105, 0, 0) := rfl
theorem t33_105 : (am_G 33).2.2.2.2.1 105 = (.aload_n 0, 106, 0, 0) := rfl
theorem t33_106 : (am_G 33).2.2.2.2.1 106 = (.invokevirtual 172, 109, 23, 1) := rfl
theorem t33_109 : (am_G 33).2.2.2.2.1 109 = (.putfield 62, 112, 1, 10) := rfl
theorem t33_112 : (am_G 33).2.2.2.2.1 112 = (.goto 116, 115, 228, 0) := rfl
theorem t33_115 : (am_G 33).2.2.2.2.1 115 = (.aload_n 0, 116, 0, 0) := rfl
theorem t33_116 : (am_G 33).2.2.2.2.1 116 = (.aload_n 0, 117, 0, 0) := rfl
theorem t33_117 : (am_G 33).2.2.2.2.1 117 = (.getfield 114, 120, 1, 17) := rfl
theorem t33_120 : (am_G 33).2.2.2.2.1 120 = (.iconst 1, 121, 1, 0) := rfl
theorem t33_121 : (am_G 33).2.2.2.2.1 121 = (.if_icmp .ne 7, 124, 128, 0) := rfl
theorem t33_124 : (am_G 33).2.2.2.2.1 124 = (.iconst 1, 125, 1, 0) := rfl
theorem t33_125 : (am_G 33).2.2.2.2.1 125 = (.goto 4, 128, 129, 0) := rfl
theorem t33_128 : (am_G 33).2.2.2.2.1 128 = (.iconst 0, 129, 0, 0) := rfl
theorem t33_129 : (am_G 33).2.2.2.2.1 129 = (.putfield 79, 132, 1, 15) := rfl
theorem t33_132 : (am_G 33).2.2.2.2.1 132 = (.goto 96, 135, 228, 0) := rfl
theorem t33_135 : (am_G 33).2.2.2.2.1 135 = (.aload_n 0, 136, 0, 0) := rfl
theorem t33_136 : (am_G 33).2.2.2.2.1 136 = (.aload_n 0, 137, 0, 0) := rfl
theorem t33_137 : (am_G 33).2.2.2.2.1 137 = (.getfield 114, 140, 1, 17) := rfl
theorem t33_140 : (am_G 33).2.2.2.2.1 140 = (.putfield 69, 143, 1, 12) := rfl
theorem t33_143 : (am_G 33).2.2.2.2.1 143 = (.goto 85, 146, 228, 0) := rfl
theorem t33_146 : (am_G 33).2.2.2.2.1 146 = (.aload_n 0, 147, 0, 0) := rfl
theorem t33_147 : (am_G 33).2.2.2.2.1 147 = (.aload_n 0, 148, 0, 0) := rfl
theorem t33_148 : (am_G 33).2.2.2.2.1 148 = (.getfield 114, 151, 1, 17) := rfl
theorem t33_151 : (am_G 33).2.2.2.2.1 151 = (.iconst 1, 152, 1, 0) := rfl
theorem t33_152 : (am_G 33).2.2.2.2.1 152 = (.if_icmp .ne 7, 155, 159, 0) := rfl
theorem t33_155 : (am_G 33).2.2.2.2.1 155 = (.iconst 1, 156, 1, 0) := rfl
theorem t33_156 : (am_G 33).2.2.2.2.1 156 = (.goto 4, 159, 160, 0) := rfl
theorem t33_159 : (am_G 33).2.2.2.2.1 159 = (.iconst 0, 160, 0, 0) := rfl
theorem t33_160 : (am_G 33).2.2.2.2.1 160 = (.putfield 75, 163, 1, 14) := rfl
theorem t33_163 : (am_G 33).2.2.2.2.1 163 = (.goto 65, 166, 228, 0) := rfl
theorem t33_166 : (am_G 33).2.2.2.2.1 166 = (.aload_n 0, 167, 0, 0) := rfl
theorem t33_167 : (am_G 33).2.2.2.2.1 167 = (.aload_n 0, 168, 0, 0) := rfl
theorem t33_168 : (am_G 33).2.2.2.2.1 168 = (.getfield 114, 171, 1, 17) := rfl
theorem t33_171 : (am_G 33).2.2.2.2.1 171 = (.putfield 72, 174, 1, 13) := rfl
theorem t33_174 : (am_G 33).2.2.2.2.1 174 = (.goto 54, 177, 228, 0) := rfl
theorem t33_177 : (am_G 33).2.2.2.2.1 177 = (.aload_n 0, 178, 0, 0) := rfl
theorem t33_178 : (am_G 33).2.2.2.2.1 178 = (.aload_n 0, 179, 0, 0) := rfl
theorem t33_179 : (am_G 33).2.2.2.2.1 179 = (.getfield 114, 182, 1, 17) := rfl
theorem t33_182 : (am_G 33).2.2.2.2.1 182 = (.aload_n 0, 183, 0, 0) := rfl
theorem t33_183 : (am_G 33).2.2.2.2.1 183 = (.getfield 120, 186, 1, 18) := rfl
theorem t33_186 : (am_G 33).2.2.2.2.1 186 = (.aload_n 0, 187, 0, 0) := rfl
theorem t33_187 : (am_G 33).2.2.2.2.1 187 = (.getfield 126, 190, 1, 19) := rfl
theorem t33_190 : (am_G 33).2.2.2.2.1 190 = (.iadd, 191, 0, 0) := rfl
theorem t33_191 : (am_G 33).2.2.2.2.1 191 = (.invokevirtual 259, 194, 36, 1) := rfl
theorem t33_194 : (am_G 33).2.2.2.2.1 194 = (.goto 34, 197, 228, 0) := rfl
theorem t33_197 : (am_G 33).2.2.2.2.1 197 = (.aload_n 0, 198, 0, 0) := rfl
theorem t33_198 : (am_G 33).2.2.2.2.1 198 = (.aload_n 0, 199, 0, 0) := rfl
theorem t33_199 : (am_G 33).2.2.2.2.1 199 = (.getfield 114, 202, 1, 17) := rfl
theorem t33_202 : (am_G 33).2.2.2.2.1 202 = (.aload_n 0, 203, 0, 0) := rfl
theorem t33_203 : (am_G 33).2.2.2.2.1 203 = (.invokevirtual 263, 206, 37, 1) := rfl
theorem t33_206 : (am_G 33).2.2.2.2.1 206 = (.invokevirtual 259, 209, 36, 1) := rfl
theorem t33_209 : (am_G 33).2.2.2.2.1 209 = (.goto 19, 212, 228, 0) := rfl
theorem t33_212 : (am_G 33).2.2.2.2.1 212 = (.aload_n 0, 213, 0, 0) := rfl
theorem t33_213 : (am_G 33).2.2.2.2.1 213 = (.invokevirtual 266, 216, 38, 1) := rfl
theorem t33_216 : (am_G 33).2.2.2.2.1 216 = (.istore_n 1, 217, 1, 0) := rfl
theorem t33_217 : (am_G 33).2.2.2.2.1 217 = (.goto 11, 220, 228, 0) := rfl
theorem t33_220 : (am_G 33).2.2.2.2.1 220 = (.aload_n 0, 221, 0, 0) := rfl
theorem t33_221 : (am_G 33).2.2.2.2.1 221 = (.invokevirtual 269, 224, 39, 1) := rfl
theorem t33_224 : (am_G 33).2.2.2.2.1 224 = (.istore_n 1, 225, 1, 0) := rfl
theorem t33_225 : (am_G 33).2.2.2.2.1 225 = (.goto 3, 228, 228, 0) := rfl
theorem t33_228 : (am_G 33).2.2.2.2.1 228 = (.aload_n 0, 229, 0, 0) := rfl
theorem t33_229 : (am_G 33).2.2.2.2.1 229 = (.iload_n 1, 230, 1, 0) := rfl
theorem t33_230 : (am_G 33).2.2.2.2.1 230 = (.putfield 55, 233, 1, 8) := rfl
theorem t33_233 : (am_G 33).2.2.2.2.1 233 = (.return_, 234, 0, 0) := rfl
theorem t34_0 : (am_G 34).2.2.2.2.1 0 = (.fconst 1, 1, 0, 0) := rfl
theorem t34_1 : (am_G 34).2.2.2.2.1 1 = (.aload_n 0, 2, 0, 0) := rfl
theorem t34_2 : (am_G 34).2.2.2.2.1 2 = (.getfield 82, 5, 1, 16) := rfl
theorem t34_5 : (am_G 34).2.2.2.2.1 5 = (.bipush 103, 7, 103, 0) := rfl
theorem t34_7 : (am_G 34).2.2.2.2.1 7 = (.if_icmp .ne 8, 10, 15, 0) := rfl
theorem t34_10 : (am_G 34).2.2.2.2.1 10 = (.bipush 100, 12, 100, 0) := rfl
theorem t34_12 : (am_G 34).2.2.2.2.1 12 = (.goto 7, 15, 19, 0) := rfl
theorem t34_15 : (am_G 34).2.2.2.2.1 15 = (.aload_n 0, 16, 0, 0) := rfl
theorem t34_16 : (am_G 34).2.2.2.2.1 16 = (.getfield 69, 19, 1, 12) := rfl
theorem t34_19 : (am_G 34).2.2.2.2.1 19 = (.i2f, 20, 0, 0) := rfl
theorem t34_20 : (am_G 34).2.2.2.2.1 20 = (.fdiv, 21, 0, 0) := rfl
theorem t34_21 : (am_G 34).2.2.2.2.1 21 = (.fstore_n 1, 22, 1, 0) := rfl
theorem t34_22 : (am_G 34).2.2.2.2.1 22 = (.iconst 0, 23, 0, 0) := rfl
theorem t34_23 : (am_G 34).2.2.2.2.1 23 = (.istore_n 2, 24, 2, 0) := rfl
theorem t34_24 : (am_G 34).2.2.2.2.1 24 = (.iload_n 2, 25, 2, 0) := rfl
theorem t34_25 : (am_G 34).2.2.2.2.1 25 = (.aload_n 0, 26, 0, 0) := rfl
theorem t34_26 : (am_G 34).2.2.2.2.1 26 = (.getfield 34, 29, 1, 6) := rfl
theorem t34_29 : (am_G 34).2.2.2.2.1 29 = (.getfield 228, 32, 3, 3) := rfl
theorem t34_32 : (am_G 34).2.2.2.2.1 32 = (.if_icmp .ge 44, 35, 76, 0) := rfl
theorem t34_35 : (am_G 34).2.2.2.2.1 35 = (.aload_n 0, 36, 0, 0) := rfl
theorem t34_36 : (am_G 34).2.2.2.2.1 36 = (.getfield 34, 39, 1, 6) := rfl
theorem t34_39 : (am_G 34).2.2.2.2.1 39 = (.iload_n 2, 40, 2, 0) := rfl
theorem t34_40 : (am_G 34).2.2.2.2.1 40 = (.invokevirtual 231, 43, 46, 3) := rfl
theorem t34_43 : (am_G 34).2.2.2.2.1 43 = (.istore_n 3, 44, 3, 0) := rfl
theorem t34_44 : (am_G 34).2.2.2.2.1 44 = (.aload_n 0, 45, 0, 0) := rfl
theorem t34_45 : (am_G 34).2.2.2.2.1 45 = (.invokevirtual 176, 48, 21, 1) := rfl
theorem t34_48 : (am_G 34).2.2.2.2.1 48 = (.ifCond .eq 9, 51, 57, 0) := rfl
theorem t34_51 : (am_G 34).2.2.2.2.1 51 = (.aload_n 0, 52, 0, 0) := rfl
theorem t34_52 : (am_G 34).2.2.2.2.1 52 = (.iload_n 2, 53, 2, 0) := rfl
theorem t34_53 : (am_G 34).2.2.2.2.1 53 = (.iload_n 3, 54, 3, 0) := rfl
theorem t34_54 : (am_G 34).2.2.2.2.1 54 = (.invokevirtual 272, 57, 35, 1) := rfl
theorem t34_57 : (am_G 34).2.2.2.2.1 57 = (.aload_n 0, 58, 0, 0) := rfl
theorem t34_58 : (am_G 34).2.2.2.2.1 58 = (.aload_n 0, 59, 0, 0) := rfl
theorem t34_59 : (am_G 34).2.2.2.2.1 59 = (.getfield 65, 62, 1, 11) := rfl
theorem t34_62 : (am_G 34).2.2.2.2.1 62 = (.iload_n 3, 63, 3, 0) := rfl
theorem t34_63 : (am_G 34).2.2.2.2.1 63 = (.i2f, 64, 0, 0) := rfl
theorem t34_64 : (am_G 34).2.2.2.2.1 64 = (.fload_n 1, 65, 1, 0) := rfl
theorem t34_65 : (am_G 34).2.2.2.2.1 65 = (.fmul, 66, 0, 0) := rfl
theorem t34_66 : (am_G 34).2.2.2.2.1 66 = (.fadd, 67, 0, 0) := rfl
theorem t34_67 : (am_G 34).2.2.2.2.1 67 = (.putfield 65, 70, 1, 11) := rfl
theorem t34_70 : (am_G 34).2.2.2.2.1 70 = (.iinc 2 1, 73, 2, 1) := rfl
theorem t34_73 : (am_G 34).2.2.2.2.1 73 = (.goto (-49), 76, 24, 0) := rfl
theorem t34_76 : (am_G 34).2.2.2.2.1 76 = (.iconst 0, 77, 0, 0) := rfl
theorem t34_77 : (am_G 34).2.2.2.2.1 77 = (.istore_n 2, 78, 2, 0) := rfl
theorem t34_78 : (am_G 34).2.2.2.2.1 78 = (.iload_n 2, 79, 2, 0) := rfl
theorem t34_79 : (am_G 34).2.2.2.2.1 79 = (.iconst 3, 80, 3, 0) := rfl
theorem t34_80 : (am_G 34).2.2.2.2.1 80 = (.if_icmp .ge 23, 83, 103, 0) := rfl
theorem t34_83 : (am_G 34).2.2.2.2.1 83 = (.aload_n 0, 84, 0, 0) := rfl
theorem t34_84 : (am_G 34).2.2.2.2.1 84 = (.getfield 25, 87, 1, 4) := rfl
theorem t34_87 : (am_G 34).2.2.2.2.1 87 = (.iload_n 2, 88, 2, 0) := rfl
theorem t34_88 : (am_G 34).2.2.2.2.1 88 = (.aload_n 0, 89, 0, 0) := rfl
theorem t34_89 : (am_G 34).2.2.2.2.1 89 = (.getfield 34, 92, 1, 6) := rfl
theorem t34_92 : (am_G 34).2.2.2.2.1 92 = (.iload_n 2, 93, 2, 0) := rfl
theorem t34_93 : (am_G 34).2.2.2.2.1 93 = (.invokevirtual 275, 96, 45, 3) := rfl
theorem t34_96 : (am_G 34).2.2.2.2.1 96 = (.iastore, 97, 0, 0) := rfl
theorem t34_97 : (am_G 34).2.2.2.2.1 97 = (.iinc 2 1, 100, 2, 1) := rfl
theorem t34_100 : (am_G 34).2.2.2.2.1 100 = (.goto (-22), 103, 78, 0) := rfl
theorem t34_103 : (am_G 34).2.2.2.2.1 103 = (.return_, 104, 0, 0) := rfl
theorem t35_0 : (am_G 35).2.2.2.2.1 0 = (.aload_n 0, 1, 0, 0) := rfl
theorem t35_1 : (am_G 35).2.2.2.2.1 1 = (.getfield 62, 4, 1, 10) := rfl
theorem t35_4 : (am_G 35).2.2.2.2.1 4 = (.iconst 0, 5, 0, 0) := rfl
theorem t35_5 : (am_G 35).2.2.2.2.1 5 = (.bipush 11, 7, 11, 0) := rfl
theorem t35_7 : (am_G 35).2.2.2.2.1 7 = (.invokestatic 151, 10, 84, 1) := rfl
theorem t35_10 : (am_G 35).2.2.2.2.1 10 = (.ifCond .ne 4, 13, 14, 0) := rfl
theorem t35_13 : (am_G 35).2.2.2.2.1 13 = (.return_, 14, 0, 0) := rfl
theorem t35_14 : (am_G 35).2.2.2.2.1 14 = (.iconst 1, 15, 1, 0) := rfl
theorem t35_15 : (am_G 35).2.2.2.2.1 15 = (.istore_n 3, 16, 3, 0) := rfl
theorem t35_16 : (am_G 35).2.2.2.2.1 16 = (.iload_n 3, 17, 3, 0) := rfl
theorem t35_17 : (am_G 35).2.2.2.2.1 17 = (.iload_n 2, 18, 2, 0) := rfl
theorem t35_18 : (am_G 35).2.2.2.2.1 18 = (.if_icmp .gt 39, 21, 57, 0) := rfl
theorem t35_21 : (am_G 35).2.2.2.2.1 21 = (.aload_n 0, 22, 0, 0) := rfl
theorem t35_22 : (am_G 35).2.2.2.2.1 22 = (.iload_n 1, 23, 1, 0) := rfl
theorem t35_23 : (am_G 35).2.2.2.2.1 23 = (.iload_n 3, 24, 3, 0) := rfl
theorem t35_24 : (am_G 35).2.2.2.2.1 24 = (.iload_n 2, 25, 2, 0) := rfl
theorem t35_25 : (am_G 35).2.2.2.2.1 25 = (.invokevirtual 234, 28, 31, 1) := rfl
theorem t35_28 : (am_G 35).2.2.2.2.1 28 = (.aload_n 0, 29, 0, 0) := rfl
theorem t35_29 : (am_G 35).2.2.2.2.1 29 = (.getfield 18, 32, 1, 2) := rfl
theorem t35_32 : (am_G 35).2.2.2.2.1 32 = (.aload_n 0, 33, 0, 0) := rfl
theorem t35_33 : (am_G 35).2.2.2.2.1 33 = (.getfield 62, 36, 1, 10) := rfl
theorem t35_36 : (am_G 35).2.2.2.2.1 36 = (.dup2, 37, 0, 0) := rfl
theorem t35_37 : (am_G 35).2.2.2.2.1 37 = (.iaload, 38, 0, 0) := rfl
theorem t35_38 : (am_G 35).2.2.2.2.1 38 = (.aload_n 0, 39, 0, 0) := rfl
theorem t35_39 : (am_G 35).2.2.2.2.1 39 = (.getfield 12, 42, 1, 1) := rfl
theorem t35_42 : (am_G 35).2.2.2.2.1 42 = (.aload_n 0, 43, 0, 0) := rfl
theorem t35_43 : (am_G 35).2.2.2.2.1 43 = (.getfield 41, 46, 1, 7) := rfl
theorem t35_46 : (am_G 35).2.2.2.2.1 46 = (.invokevirtual 278, 49, 9, 0) := rfl
theorem t35_49 : (am_G 35).2.2.2.2.1 49 = (.iadd, 50, 0, 0) := rfl
theorem t35_50 : (am_G 35).2.2.2.2.1 50 = (.iastore, 51, 0, 0) := rfl
theorem t35_51 : (am_G 35).2.2.2.2.1 51 = (.iinc 3 1, 54, 3, 1) := rfl
theorem t35_54 : (am_G 35).2.2.2.2.1 54 = (.goto (-38), 57, 16, 0) := rfl
theorem t35_57 : (am_G 35).2.2.2.2.1 57 = (.return_, 58, 0, 0) := rfl
theorem t36_0 : (am_G 36).2.2.2.2.1 0 = (.iload_n 1, 1, 1, 0) := rfl
theorem t36_1 : (am_G 36).2.2.2.2.1 1 = (.iconst 0, 2, 0, 0) := rfl
theorem t36_2 : (am_G 36).2.2.2.2.1 2 = (.bipush 7, 4, 7, 0) := rfl
theorem t36_4 : (am_G 36).2.2.2.2.1 4 = (.invokestatic 151, 7, 84, 1) := rfl
theorem t36_7 : (am_G 36).2.2.2.2.1 7 = (.ifCond .eq 20, 10, 27, 0) := rfl
theorem t36_10 : (am_G 36).2.2.2.2.1 10 = (.aload_n 0, 11, 0, 0) := rfl
theorem t36_11 : (am_G 36).2.2.2.2.1 11 = (.getfield 22, 14, 1, 3) := rfl
theorem t36_14 : (am_G 36).2.2.2.2.1 14 = (.iload_n 1, 15, 1, 0) := rfl
theorem t36_15 : (am_G 36).2.2.2.2.1 15 = (.bipush (-50), 17, 4294967246, 0) := rfl
theorem t36_17 : (am_G 36).2.2.2.2.1 17 = (.bipush 50, 19, 50, 0) := rfl
theorem t36_19 : (am_G 36).2.2.2.2.1 19 = (.iload_n 2, 20, 2, 0) := rfl
theorem t36_20 : (am_G 36).2.2.2.2.1 20 = (.invokestatic 282, 23, 160, 0) := rfl
theorem t36_23 : (am_G 36).2.2.2.2.1 23 = (.invokestatic 287, 26, 159, 0) := rfl
theorem t36_26 : (am_G 36).2.2.2.2.1 26 = (.iastore, 27, 0, 0) := rfl
theorem t36_27 : (am_G 36).2.2.2.2.1 27 = (.return_, 28, 0, 0) := rfl
theorem t37_0 : (am_G 37).2.2.2.2.1 0 = (.aload_n 0, 1, 0, 0) := rfl
theorem t37_1 : (am_G 37).2.2.2.2.1 1 = (.getfield 25, 4, 1, 4) := rfl
theorem t37_4 : (am_G 37).2.2.2.2.1 4 = (.iconst 2, 5, 2, 0) := rfl
theorem t37_5 : (am_G 37).2.2.2.2.1 5 = (.iaload, 6, 0, 0) := rfl
theorem t37_6 : (am_G 37).2.2.2.2.1 6 = (.istore_n 1, 7, 1, 0) := rfl
theorem t37_7 : (am_G 37).2.2.2.2.1 7 = (.iload_n 1, 8, 1, 0) := rfl
theorem t37_8 : (am_G 37).2.2.2.2.1 8 = (.ifCond .le 47, 11, 55, 0) := rfl
theorem t37_11 : (am_G 37).2.2.2.2.1 11 = (.aload_n 0, 12, 0, 0) := rfl
theorem t37_12 : (am_G 37).2.2.2.2.1 12 = (.getfield 41, 15, 1, 7) := rfl
theorem t37_15 : (am_G 37).2.2.2.2.1 15 = (.aload_n 0, 16, 0, 0) := rfl
theorem t37_16 : (am_G 37).2.2.2.2.1 16 = (.getfield 25, 19, 1, 4) := rfl
theorem t37_19 : (am_G 37).2.2.2.2.1 19 = (.iconst 0, 20, 0, 0) := rfl
theorem t37_20 : (am_G 37).2.2.2.2.1 20 = (.iaload, 21, 0, 0) := rfl
theorem t37_21 : (am_G 37).2.2.2.2.1 21 = (.aload_n 0, 22, 0, 0) := rfl
theorem t37_22 : (am_G 37).2.2.2.2.1 22 = (.getfield 25, 25, 1, 4) := rfl
theorem t37_25 : (am_G 37).2.2.2.2.1 25 = (.iconst 1, 26, 1, 0) := rfl
theorem t37_26 : (am_G 37).2.2.2.2.1 26 = (.iaload, 27, 0, 0) := rfl
theorem t37_27 : (am_G 37).2.2.2.2.1 27 = (.iload_n 1, 28, 1, 0) := rfl
theorem t37_28 : (am_G 37).2.2.2.2.1 28 = (.iconst 1, 29, 1, 0) := rfl
theorem t37_29 : (am_G 37).2.2.2.2.1 29 = (.isub, 30, 0, 0) := rfl
theorem t37_30 : (am_G 37).2.2.2.2.1 30 = (.invokevirtual 256, 33, 63, 6) := rfl
theorem t37_33 : (am_G 37).2.2.2.2.1 33 = (.aload_n 0, 34, 0, 0) := rfl
theorem t37_34 : (am_G 37).2.2.2.2.1 34 = (.getfield 12, 37, 1, 1) := rfl
theorem t37_37 : (am_G 37).2.2.2.2.1 37 = (.aload_n 0, 38, 0, 0) := rfl
theorem t37_38 : (am_G 37).2.2.2.2.1 38 = (.getfield 41, 41, 1, 7) := rfl
theorem t37_41 : (am_G 37).2.2.2.2.1 41 = (.invokevirtual 237, 44, 8, 0) := rfl
theorem t37_44 : (am_G 37).2.2.2.2.1 44 = (.ifCond .eq 5, 47, 49, 0) := rfl
theorem t37_47 : (am_G 37).2.2.2.2.1 47 = (.iload_n 1, 48, 1, 0) := rfl
theorem t37_48 : (am_G 37).2.2.2.2.1 48 = (.ireturn, 49, 0, 0) := rfl
theorem t37_49 : (am_G 37).2.2.2.2.1 49 = (.iinc 1 (-1), 52, 1, 4294967295) := rfl
theorem t37_52 : (am_G 37).2.2.2.2.1 52 = (.goto (-45), 55, 7, 0) := rfl
theorem t37_55 : (am_G 37).2.2.2.2.1 55 = (.iconst 0, 56, 0, 0) := rfl
theorem t37_56 : (am_G 37).2.2.2.2.1 56 = (.ireturn, 57, 0, 0) := rfl
theorem t38_0 : (am_G 38).2.2.2.2.1 0 = (.aload_n 0, 1, 0, 0) := rfl
theorem t38_1 : (am_G 38).2.2.2.2.1 1 = (.getfield 82, 4, 1, 16) := rfl
theorem t38_4 : (am_G 38).2.2.2.2.1 4 = (.bipush 114, 6, 114, 0) := rfl
theorem t38_6 : (am_G 38).2.2.2.2.1 6 = (.if_icmp .ne 18, 9, 24, 0) := rfl
theorem t38_9 : (am_G 38).2.2.2.2.1 9 = (.aload_n 0, 10, 0, 0) := rfl
theorem t38_10 : (am_G 38).2.2.2.2.1 10 = (.getfield 114, 13, 1, 17) := rfl
theorem t38_13 : (am_G 38).2.2.2.2.1 13 = (.ifCond .le 7, 16, 20, 0) := rfl
theorem t38_16 : (am_G 38).2.2.2.2.1 16 = (.iconst 1, 17, 1, 0) := rfl
theorem t38_17 : (am_G 38).2.2.2.2.1 17 = (.goto 23, 20, 40, 0) := rfl
theorem t38_20 : (am_G 38).2.2.2.2.1 20 = (.iconst 0, 21, 0, 0) := rfl
theorem t38_21 : (am_G 38).2.2.2.2.1 21 = (.goto 19, 24, 40, 0) := rfl
theorem t38_24 : (am_G 38).2.2.2.2.1 24 = (.aload_n 0, 25, 0, 0) := rfl
theorem t38_25 : (am_G 38).2.2.2.2.1 25 = (.getfield 114, 28, 1, 17) := rfl
theorem t38_28 : (am_G 38).2.2.2.2.1 28 = (.aload_n 0, 29, 0, 0) := rfl
theorem t38_29 : (am_G 38).2.2.2.2.1 29 = (.getfield 120, 32, 1, 18) := rfl
theorem t38_32 : (am_G 38).2.2.2.2.1 32 = (.if_icmp .le 7, 35, 39, 0) := rfl
theorem t38_35 : (am_G 38).2.2.2.2.1 35 = (.iconst 1, 36, 1, 0) := rfl
theorem t38_36 : (am_G 38).2.2.2.2.1 36 = (.goto 4, 39, 40, 0) := rfl
theorem t38_39 : (am_G 38).2.2.2.2.1 39 = (.iconst 0, 40, 0, 0) := rfl
theorem t38_40 : (am_G 38).2.2.2.2.1 40 = (.istore_n 1, 41, 1, 0) := rfl
theorem t38_41 : (am_G 38).2.2.2.2.1 41 = (.iload_n 1, 42, 1, 0) := rfl
theorem t38_42 : (am_G 38).2.2.2.2.1 42 = (.ifCond .ne 20, 45, 62, 0) := rfl
theorem t38_45 : (am_G 38).2.2.2.2.1 45 = (.aload_n 0, 46, 0, 0) := rfl
theorem t38_46 : (am_G 38).2.2.2.2.1 46 = (.getfield 45, 49, 1, 0) := rfl
theorem t38_49 : (am_G 38).2.2.2.2.1 49 = (.getfield 85, 52, 2, 3) := rfl
theorem t38_52 : (am_G 38).2.2.2.2.1 52 = (.aload_n 0, 53, 0, 0) := rfl
theorem t38_53 : (am_G 38).2.2.2.2.1 53 = (.getfield 55, 56, 1, 8) := rfl
theorem t38_56 : (am_G 38).2.2.2.2.1 56 = (.invokevirtual 290, 59, 161, 4) := rfl
theorem t38_59 : (am_G 38).2.2.2.2.1 59 = (.iconst 1, 60, 1, 0) := rfl
theorem t38_60 : (am_G 38).2.2.2.2.1 60 = (.iadd, 61, 0, 0) := rfl
theorem t38_61 : (am_G 38).2.2.2.2.1 61 = (.ireturn, 62, 0, 0) := rfl
theorem t38_62 : (am_G 38).2.2.2.2.1 62 = (.aload_n 0, 63, 0, 0) := rfl
theorem t38_63 : (am_G 38).2.2.2.2.1 63 = (.getfield 45, 66, 1, 0) := rfl
theorem t38_66 : (am_G 38).2.2.2.2.1 66 = (.getfield 85, 69, 2, 3) := rfl
theorem t38_69 : (am_G 38).2.2.2.2.1 69 = (.aload_n 0, 70, 0, 0) := rfl
theorem t38_70 : (am_G 38).2.2.2.2.1 70 = (.getfield 55, 73, 1, 8) := rfl
theorem t38_73 : (am_G 38).2.2.2.2.1 73 = (.invokevirtual 100, 76, 54, 4) := rfl
theorem t38_76 : (am_G 38).2.2.2.2.1 76 = (.ifCond .eq 16, 79, 92, 0) := rfl
theorem t38_79 : (am_G 38).2.2.2.2.1 79 = (.aload_n 0, 80, 0, 0) := rfl
theorem t38_80 : (am_G 38).2.2.2.2.1 80 = (.getfield 28, 83, 1, 5) := rfl
theorem t38_83 : (am_G 38).2.2.2.2.1 83 = (.aload_n 0, 84, 0, 0) := rfl
theorem t38_84 : (am_G 38).2.2.2.2.1 84 = (.getfield 55, 87, 1, 8) := rfl
theorem t38_87 : (am_G 38).2.2.2.2.1 87 = (.aload_n 0, 88, 0, 0) := rfl
theorem t38_88 : (am_G 38).2.2.2.2.1 88 = (.getfield 114, 91, 1, 17) := rfl
theorem t38_91 : (am_G 38).2.2.2.2.1 91 = (.iastore, 92, 0, 0) := rfl
theorem t38_92 : (am_G 38).2.2.2.2.1 92 = (.aload_n 0, 93, 0, 0) := rfl
theorem t38_93 : (am_G 38).2.2.2.2.1 93 = (.getfield 55, 96, 1, 8) := rfl
theorem t38_96 : (am_G 38).2.2.2.2.1 96 = (.iconst 1, 97, 1, 0) := rfl
theorem t38_97 : (am_G 38).2.2.2.2.1 97 = (.iadd, 98, 0, 0) := rfl
theorem t38_98 : (am_G 38).2.2.2.2.1 98 = (.ireturn, 99, 0, 0) := rfl
theorem t39_0 : (am_G 39).2.2.2.2.1 0 = (.aload_n 0, 1, 0, 0) := rfl
theorem t39_1 : (am_G 39).2.2.2.2.1 1 = (.getfield 45, 4, 1, 0) := rfl
theorem t39_4 : (am_G 39).2.2.2.2.1 4 = (.getfield 85, 7, 2, 3) := rfl
theorem t39_7 : (am_G 39).2.2.2.2.1 7 = (.aload_n 0, 8, 0, 0) := rfl
theorem t39_8 : (am_G 39).2.2.2.2.1 8 = (.getfield 55, 11, 1, 8) := rfl
theorem t39_11 : (am_G 39).2.2.2.2.1 11 = (.invokevirtual 290, 14, 161, 4) := rfl
theorem t39_14 : (am_G 39).2.2.2.2.1 14 = (.istore_n 1, 15, 1, 0) := rfl
theorem t39_15 : (am_G 39).2.2.2.2.1 15 = (.aload_n 0, 16, 0, 0) := rfl
theorem t39_16 : (am_G 39).2.2.2.2.1 16 = (.getfield 45, 19, 1, 0) := rfl
theorem t39_19 : (am_G 39).2.2.2.2.1 19 = (.getfield 85, 22, 2, 3) := rfl
theorem t39_22 : (am_G 39).2.2.2.2.1 22 = (.iload_n 1, 23, 1, 0) := rfl
theorem t39_23 : (am_G 39).2.2.2.2.1 23 = (.invokevirtual 100, 26, 54, 4) := rfl
theorem t39_26 : (am_G 39).2.2.2.2.1 26 = (.ifCond .eq 20, 29, 46, 0) := rfl
theorem t39_29 : (am_G 39).2.2.2.2.1 29 = (.aload_n 0, 30, 0, 0) := rfl
theorem t39_30 : (am_G 39).2.2.2.2.1 30 = (.getfield 45, 33, 1, 0) := rfl
theorem t39_33 : (am_G 39).2.2.2.2.1 33 = (.getfield 85, 36, 2, 3) := rfl
theorem t39_36 : (am_G 39).2.2.2.2.1 36 = (.getfield 104, 39, 4, 0) := rfl
theorem t39_39 : (am_G 39).2.2.2.2.1 39 = (.iload_n 1, 40, 1, 0) := rfl
theorem t39_40 : (am_G 39).2.2.2.2.1 40 = (.iaload, 41, 0, 0) := rfl
theorem t39_41 : (am_G 39).2.2.2.2.1 41 = (.bipush 114, 43, 114, 0) := rfl
theorem t39_43 : (am_G 39).2.2.2.2.1 43 = (.if_icmp .eq 10, 46, 53, 0) := rfl
theorem t39_46 : (am_G 39).2.2.2.2.1 46 = (.aload_n 0, 47, 0, 0) := rfl
theorem t39_47 : (am_G 39).2.2.2.2.1 47 = (.getfield 55, 50, 1, 8) := rfl
theorem t39_50 : (am_G 39).2.2.2.2.1 50 = (.iconst 1, 51, 1, 0) := rfl
theorem t39_51 : (am_G 39).2.2.2.2.1 51 = (.iadd, 52, 0, 0) := rfl
theorem t39_52 : (am_G 39).2.2.2.2.1 52 = (.ireturn, 53, 0, 0) := rfl
theorem t39_53 : (am_G 39).2.2.2.2.1 53 = (.aload_n 0, 54, 0, 0) := rfl
theorem t39_54 : (am_G 39).2.2.2.2.1 54 = (.getfield 28, 57, 1, 5) := rfl
theorem t39_57 : (am_G 39).2.2.2.2.1 57 = (.iload_n 1, 58, 1, 0) := rfl
theorem t39_58 : (am_G 39).2.2.2.2.1 58 = (.dup2, 59, 0, 0) := rfl
theorem t39_59 : (am_G 39).2.2.2.2.1 59 = (.iaload, 60, 0, 0) := rfl
theorem t39_60 : (am_G 39).2.2.2.2.1 60 = (.iconst 1, 61, 1, 0) := rfl
theorem t39_61 : (am_G 39).2.2.2.2.1 61 = (.isub, 62, 0, 0) := rfl
theorem t39_62 : (am_G 39).2.2.2.2.1 62 = (.iastore, 63, 0, 0) := rfl
theorem t39_63 : (am_G 39).2.2.2.2.1 63 = (.aload_n 0, 64, 0, 0) := rfl
theorem t39_64 : (am_G 39).2.2.2.2.1 64 = (.getfield 28, 67, 1, 5) := rfl
theorem t39_67 : (am_G 39).2.2.2.2.1 67 = (.iload_n 1, 68, 1, 0) := rfl
theorem t39_68 : (am_G 39).2.2.2.2.1 68 = (.iaload, 69, 0, 0) := rfl
theorem t39_69 : (am_G 39).2.2.2.2.1 69 = (.ifCond .le 9, 72, 78, 0) := rfl
theorem t39_72 : (am_G 39).2.2.2.2.1 72 = (.iload_n 1, 73, 1, 0) := rfl
theorem t39_73 : (am_G 39).2.2.2.2.1 73 = (.iconst 1, 74, 1, 0) := rfl
theorem t39_74 : (am_G 39).2.2.2.2.1 74 = (.iadd, 75, 0, 0) := rfl
theorem t39_75 : (am_G 39).2.2.2.2.1 75 = (.goto 9, 78, 84, 0) := rfl
theorem t39_78 : (am_G 39).2.2.2.2.1 78 = (.aload_n 0, 79, 0, 0) := rfl
theorem t39_79 : (am_G 39).2.2.2.2.1 79 = (.getfield 55, 82, 1, 8) := rfl
theorem t39_82 : (am_G 39).2.2.2.2.1 82 = (.iconst 1, 83, 1, 0) := rfl
theorem t39_83 : (am_G 39).2.2.2.2.1 83 = (.iadd, 84, 0, 0) := rfl
theorem t39_84 : (am_G 39).2.2.2.2.1 84 = (.ireturn, 85, 0, 0) := rfl
theorem t40_0 : (am_G 40).2.2.2.2.1 0 = (.aload_n 0, 1, 0, 0) := rfl
theorem t40_1 : (am_G 40).2.2.2.2.1 1 = (.invokespecial 3, 4, 0, 2) := rfl
theorem t40_4 : (am_G 40).2.2.2.2.1 4 = (.aload_n 0, 5, 0, 0) := rfl
theorem t40_5 : (am_G 40).2.2.2.2.1 5 = (.new 9, 8, 5, 3) := rfl
theorem t40_8 : (am_G 40).2.2.2.2.1 8 = (.dup, 9, 0, 0) := rfl
theorem t40_9 : (am_G 40).2.2.2.2.1 9 = (.invokespecial 11, 12, 56, 1) := rfl
theorem t40_12 : (am_G 40).2.2.2.2.1 12 = (.putfield 12, 15, 2, 0) := rfl
theorem t40_15 : (am_G 40).2.2.2.2.1 15 = (.aload_n 0, 16, 0, 0) := rfl
theorem t40_16 : (am_G 40).2.2.2.2.1 16 = (.new 18, 19, 0, 1) := rfl
theorem t40_19 : (am_G 40).2.2.2.2.1 19 = (.dup, 20, 0, 0) := rfl
theorem t40_20 : (am_G 40).2.2.2.2.1 20 = (.invokespecial 20, 23, 0, 1) := rfl
theorem t40_23 : (am_G 40).2.2.2.2.1 23 = (.putfield 21, 26, 2, 1) := rfl
theorem t40_26 : (am_G 40).2.2.2.2.1 26 = (.aload_n 0, 27, 0, 0) := rfl
theorem t40_27 : (am_G 40).2.2.2.2.1 27 = (.bipush 12, 29, 12, 0) := rfl
theorem t40_29 : (am_G 40).2.2.2.2.1 29 = (.newarray .int, 31, 0, 0) := rfl
theorem t40_31 : (am_G 40).2.2.2.2.1 31 = (.putfield 25, 34, 2, 2) := rfl
theorem t40_34 : (am_G 40).2.2.2.2.1 34 = (.aload_n 0, 35, 0, 0) := rfl
theorem t40_35 : (am_G 40).2.2.2.2.1 35 = (.new 29, 38, 4, 6) := rfl
theorem t40_38 : (am_G 40).2.2.2.2.1 38 = (.dup, 39, 0, 0) := rfl
theorem t40_39 : (am_G 40).2.2.2.2.1 39 = (.invokespecial 31, 42, 49, 1) := rfl
theorem t40_42 : (am_G 40).2.2.2.2.1 42 = (.putfield 32, 45, 2, 3) := rfl
theorem t40_45 : (am_G 40).2.2.2.2.1 45 = (.return_, 46, 0, 0) := rfl
theorem t41_0 : (am_G 41).2.2.2.2.1 0 = (.aload_n 0, 1, 0, 0) := rfl
theorem t41_1 : (am_G 41).2.2.2.2.1 1 = (.invokespecial 3, 4, 0, 2) := rfl
theorem t41_4 : (am_G 41).2.2.2.2.1 4 = (.aload_n 0, 5, 0, 0) := rfl
theorem t41_5 : (am_G 41).2.2.2.2.1 5 = (.sipush 306, 8, 306, 0) := rfl
theorem t41_8 : (am_G 41).2.2.2.2.1 8 = (.newarray .int, 10, 0, 0) := rfl
theorem t41_10 : (am_G 41).2.2.2.2.1 10 = (.putfield 9, 13, 3, 0) := rfl
theorem t41_13 : (am_G 41).2.2.2.2.1 13 = (.aload_n 0, 14, 0, 0) := rfl
theorem t41_14 : (am_G 41).2.2.2.2.1 14 = (.sipush 306, 17, 306, 0) := rfl
theorem t41_17 : (am_G 41).2.2.2.2.1 17 = (.newarray .int, 19, 0, 0) := rfl
theorem t41_19 : (am_G 41).2.2.2.2.1 19 = (.putfield 15, 22, 3, 1) := rfl
theorem t41_22 : (am_G 41).2.2.2.2.1 22 = (.aload_n 0, 23, 0, 0) := rfl
theorem t41_23 : (am_G 41).2.2.2.2.1 23 = (.iconst 3, 24, 3, 0) := rfl
theorem t41_24 : (am_G 41).2.2.2.2.1 24 = (.newarray .int, 26, 0, 0) := rfl
theorem t41_26 : (am_G 41).2.2.2.2.1 26 = (.putfield 18, 29, 3, 2) := rfl
theorem t41_29 : (am_G 41).2.2.2.2.1 29 = (.return_, 30, 0, 0) := rfl
theorem t42_0 : (am_G 42).2.2.2.2.1 0 = (.aload_n 0, 1, 0, 0) := rfl
theorem t42_1 : (am_G 42).2.2.2.2.1 1 = (.iconst 0, 2, 0, 0) := rfl
theorem t42_2 : (am_G 42).2.2.2.2.1 2 = (.putfield 21, 5, 3, 3) := rfl
theorem t42_5 : (am_G 42).2.2.2.2.1 5 = (.return_, 6, 0, 0) := rfl
theorem t43_0 : (am_G 43).2.2.2.2.1 0 = (.aload_n 0, 1, 0, 0) := rfl
theorem t43_1 : (am_G 43).2.2.2.2.1 1 = (.getfield 21, 4, 3, 3) := rfl
theorem t43_4 : (am_G 43).2.2.2.2.1 4 = (.bipush 102, 6, 102, 0) := rfl
theorem t43_6 : (am_G 43).2.2.2.2.1 6 = (.if_icmp .lt 4, 9, 10, 0) := rfl
theorem t43_9 : (am_G 43).2.2.2.2.1 9 = (.return_, 10, 0, 0) := rfl
theorem t43_10 : (am_G 43).2.2.2.2.1 10 = (.aload_n 0, 11, 0, 0) := rfl
theorem t43_11 : (am_G 43).2.2.2.2.1 11 = (.getfield 21, 14, 3, 3) := rfl
theorem t43_14 : (am_G 43).2.2.2.2.1 14 = (.iconst 3, 15, 3, 0) := rfl
theorem t43_15 : (am_G 43).2.2.2.2.1 15 = (.imul, 16, 0, 0) := rfl
theorem t43_16 : (am_G 43).2.2.2.2.1 16 = (.istore 7, 18, 7, 0) := rfl
theorem t43_18 : (am_G 43).2.2.2.2.1 18 = (.aload_n 0, 19, 0, 0) := rfl
theorem t43_19 : (am_G 43).2.2.2.2.1 19 = (.getfield 9, 22, 3, 0) := rfl
theorem t43_22 : (am_G 43).2.2.2.2.1 22 = (.iload 7, 24, 7, 0) := rfl
theorem t43_24 : (am_G 43).2.2.2.2.1 24 = (.iload_n 1, 25, 1, 0) := rfl
theorem t43_25 : (am_G 43).2.2.2.2.1 25 = (.iastore, 26, 0, 0) := rfl
theorem t43_26 : (am_G 43).2.2.2.2.1 26 = (.aload_n 0, 27, 0, 0) := rfl
theorem t43_27 : (am_G 43).2.2.2.2.1 27 = (.getfield 9, 30, 3, 0) := rfl
theorem t43_30 : (am_G 43).2.2.2.2.1 30 = (.iload 7, 32, 7, 0) := rfl
theorem t43_32 : (am_G 43).2.2.2.2.1 32 = (.iconst 1, 33, 1, 0) := rfl
theorem t43_33 : (am_G 43).2.2.2.2.1 33 = (.iadd, 34, 0, 0) := rfl
theorem t43_34 : (am_G 43).2.2.2.2.1 34 = (.iload_n 2, 35, 2, 0) := rfl
theorem t43_35 : (am_G 43).2.2.2.2.1 35 = (.iastore, 36, 0, 0) := rfl
theorem t43_36 : (am_G 43).2.2.2.2.1 36 = (.aload_n 0, 37, 0, 0) := rfl
theorem t43_37 : (am_G 43).2.2.2.2.1 37 = (.getfield 9, 40, 3, 0) := rfl
theorem t43_40 : (am_G 43).2.2.2.2.1 40 = (.iload 7, 42, 7, 0) := rfl
theorem t43_42 : (am_G 43).2.2.2.2.1 42 = (.iconst 2, 43, 2, 0) := rfl
theorem t43_43 : (am_G 43).2.2.2.2.1 43 = (.iadd, 44, 0, 0) := rfl
theorem t43_44 : (am_G 43).2.2.2.2.1 44 = (.iload_n 3, 45, 3, 0) := rfl
theorem t43_45 : (am_G 43).2.2.2.2.1 45 = (.iastore, 46, 0, 0) := rfl
theorem t43_46 : (am_G 43).2.2.2.2.1 46 = (.aload_n 0, 47, 0, 0) := rfl
theorem t43_47 : (am_G 43).2.2.2.2.1 47 = (.getfield 15, 50, 3, 1) := rfl
theorem t43_50 : (am_G 43).2.2.2.2.1 50 = (.iload 7, 52, 7, 0) := rfl
theorem t43_52 : (am_G 43).2.2.2.2.1 52 = (.iload 4, 54, 4, 0) := rfl
theorem t43_54 : (am_G 43).2.2.2.2.1 54 = (.iload_n 1, 55, 1, 0) := rfl
theorem t43_55 : (am_G 43).2.2.2.2.1 55 = (.isub, 56, 0, 0) := rfl
theorem t43_56 : (am_G 43).2.2.2.2.1 56 = (.iastore, 57, 0, 0) := rfl
theorem t43_57 : (am_G 43).2.2.2.2.1 57 = (.aload_n 0, 58, 0, 0) := rfl
theorem t43_58 : (am_G 43).2.2.2.2.1 58 = (.getfield 15, 61, 3, 1) := rfl
theorem t43_61 : (am_G 43).2.2.2.2.1 61 = (.iload 7, 63, 7, 0) := rfl
theorem t43_63 : (am_G 43).2.2.2.2.1 63 = (.iconst 1, 64, 1, 0) := rfl
theorem t43_64 : (am_G 43).2.2.2.2.1 64 = (.iadd, 65, 0, 0) := rfl
theorem t43_65 : (am_G 43).2.2.2.2.1 65 = (.iload 5, 67, 5, 0) := rfl
theorem t43_67 : (am_G 43).2.2.2.2.1 67 = (.iload_n 2, 68, 2, 0) := rfl
theorem t43_68 : (am_G 43).2.2.2.2.1 68 = (.isub, 69, 0, 0) := rfl
theorem t43_69 : (am_G 43).2.2.2.2.1 69 = (.iastore, 70, 0, 0) := rfl
theorem t43_70 : (am_G 43).2.2.2.2.1 70 = (.aload_n 0, 71, 0, 0) := rfl
theorem t43_71 : (am_G 43).2.2.2.2.1 71 = (.getfield 15, 74, 3, 1) := rfl
theorem t43_74 : (am_G 43).2.2.2.2.1 74 = (.iload 7, 76, 7, 0) := rfl
theorem t43_76 : (am_G 43).2.2.2.2.1 76 = (.iconst 2, 77, 2, 0) := rfl
theorem t43_77 : (am_G 43).2.2.2.2.1 77 = (.iadd, 78, 0, 0) := rfl
theorem t43_78 : (am_G 43).2.2.2.2.1 78 = (.iload 6, 80, 6, 0) := rfl
theorem t43_80 : (am_G 43).2.2.2.2.1 80 = (.iload_n 3, 81, 3, 0) := rfl
theorem t43_81 : (am_G 43).2.2.2.2.1 81 = (.isub, 82, 0, 0) := rfl
theorem t43_82 : (am_G 43).2.2.2.2.1 82 = (.iastore, 83, 0, 0) := rfl
theorem t43_83 : (am_G 43).2.2.2.2.1 83 = (.aload_n 0, 84, 0, 0) := rfl
theorem t43_84 : (am_G 43).2.2.2.2.1 84 = (.dup, 85, 0, 0) := rfl
theorem t43_85 : (am_G 43).2.2.2.2.1 85 = (.getfield 21, 88, 3, 3) := rfl
theorem t43_88 : (am_G 43).2.2.2.2.1 88 = (.iconst 1, 89, 1, 0) := rfl
theorem t43_89 : (am_G 43).2.2.2.2.1 89 = (.iadd, 90, 0, 0) := rfl
theorem t43_90 : (am_G 43).2.2.2.2.1 90 = (.putfield 21, 93, 3, 3) := rfl
theorem t43_93 : (am_G 43).2.2.2.2.1 93 = (.return_, 94, 0, 0) := rfl
theorem t44_0 : (am_G 44).2.2.2.2.1 0 = (.aload_n 0, 1, 0, 0) := rfl
theorem t44_1 : (am_G 44).2.2.2.2.1 1 = (.getfield 18, 4, 3, 2) := rfl
theorem t44_4 : (am_G 44).2.2.2.2.1 4 = (.iconst 0, 5, 0, 0) := rfl
theorem t44_5 : (am_G 44).2.2.2.2.1 5 = (.iload_n 1, 6, 1, 0) := rfl
theorem t44_6 : (am_G 44).2.2.2.2.1 6 = (.iastore, 7, 0, 0) := rfl
theorem t44_7 : (am_G 44).2.2.2.2.1 7 = (.aload_n 0, 8, 0, 0) := rfl
theorem t44_8 : (am_G 44).2.2.2.2.1 8 = (.getfield 18, 11, 3, 2) := rfl
theorem t44_11 : (am_G 44).2.2.2.2.1 11 = (.iconst 1, 12, 1, 0) := rfl
theorem t44_12 : (am_G 44).2.2.2.2.1 12 = (.iload_n 2, 13, 2, 0) := rfl
theorem t44_13 : (am_G 44).2.2.2.2.1 13 = (.iastore, 14, 0, 0) := rfl
theorem t44_14 : (am_G 44).2.2.2.2.1 14 = (.aload_n 0, 15, 0, 0) := rfl
theorem t44_15 : (am_G 44).2.2.2.2.1 15 = (.getfield 18, 18, 3, 2) := rfl
theorem t44_18 : (am_G 44).2.2.2.2.1 18 = (.iconst 2, 19, 2, 0) := rfl
theorem t44_19 : (am_G 44).2.2.2.2.1 19 = (.iload_n 3, 20, 3, 0) := rfl
theorem t44_20 : (am_G 44).2.2.2.2.1 20 = (.iastore, 21, 0, 0) := rfl
theorem t44_21 : (am_G 44).2.2.2.2.1 21 = (.return_, 22, 0, 0) := rfl
theorem t45_0 : (am_G 45).2.2.2.2.1 0 = (.iload_n 1, 1, 1, 0) := rfl
theorem t45_1 : (am_G 45).2.2.2.2.1 1 = (.iconst 0, 2, 0, 0) := rfl
theorem t45_2 : (am_G 45).2.2.2.2.1 2 = (.iconst 2, 3, 2, 0) := rfl
theorem t45_3 : (am_G 45).2.2.2.2.1 3 = (.invokestatic 25, 6, 84, 1) := rfl
theorem t45_6 : (am_G 45).2.2.2.2.1 6 = (.ifCond .eq 12, 9, 18, 0) := rfl
theorem t45_9 : (am_G 45).2.2.2.2.1 9 = (.aload_n 0, 10, 0, 0) := rfl
theorem t45_10 : (am_G 45).2.2.2.2.1 10 = (.getfield 18, 13, 3, 2) := rfl
theorem t45_13 : (am_G 45).2.2.2.2.1 13 = (.iload_n 1, 14, 1, 0) := rfl
theorem t45_14 : (am_G 45).2.2.2.2.1 14 = (.iaload, 15, 0, 0) := rfl
theorem t45_15 : (am_G 45).2.2.2.2.1 15 = (.goto 4, 18, 19, 0) := rfl
theorem t45_18 : (am_G 45).2.2.2.2.1 18 = (.iconst 0, 19, 0, 0) := rfl
theorem t45_19 : (am_G 45).2.2.2.2.1 19 = (.ireturn, 20, 0, 0) := rfl
theorem t46_0 : (am_G 46).2.2.2.2.1 0 = (.iconst 0, 1, 0, 0) := rfl
theorem t46_1 : (am_G 46).2.2.2.2.1 1 = (.istore_n 2, 2, 2, 0) := rfl
theorem t46_2 : (am_G 46).2.2.2.2.1 2 = (.iconst 0, 3, 0, 0) := rfl
theorem t46_3 : (am_G 46).2.2.2.2.1 3 = (.istore_n 3, 4, 3, 0) := rfl
theorem t46_4 : (am_G 46).2.2.2.2.1 4 = (.iload_n 3, 5, 3, 0) := rfl
theorem t46_5 : (am_G 46).2.2.2.2.1 5 = (.iconst 3, 6, 3, 0) := rfl
theorem t46_6 : (am_G 46).2.2.2.2.1 6 = (.if_icmp .ge 47, 9, 53, 0) := rfl
theorem t46_9 : (am_G 46).2.2.2.2.1 9 = (.iload_n 1, 10, 1, 0) := rfl
theorem t46_10 : (am_G 46).2.2.2.2.1 10 = (.iconst 3, 11, 3, 0) := rfl
theorem t46_11 : (am_G 46).2.2.2.2.1 11 = (.imul, 12, 0, 0) := rfl
theorem t46_12 : (am_G 46).2.2.2.2.1 12 = (.iload_n 3, 13, 3, 0) := rfl
theorem t46_13 : (am_G 46).2.2.2.2.1 13 = (.iadd, 14, 0, 0) := rfl
theorem t46_14 : (am_G 46).2.2.2.2.1 14 = (.istore 4, 16, 4, 0) := rfl
theorem t46_16 : (am_G 46).2.2.2.2.1 16 = (.iload 4, 18, 4, 0) := rfl
theorem t46_18 : (am_G 46).2.2.2.2.1 18 = (.iconst 0, 19, 0, 0) := rfl
theorem t46_19 : (am_G 46).2.2.2.2.1 19 = (.aload_n 0, 20, 0, 0) := rfl
theorem t46_20 : (am_G 46).2.2.2.2.1 20 = (.getfield 15, 23, 3, 1) := rfl
theorem t46_23 : (am_G 46).2.2.2.2.1 23 = (.arraylength, 24, 0, 0) := rfl
theorem t46_24 : (am_G 46).2.2.2.2.1 24 = (.iconst 1, 25, 1, 0) := rfl
theorem t46_25 : (am_G 46).2.2.2.2.1 25 = (.isub, 26, 0, 0) := rfl
theorem t46_26 : (am_G 46).2.2.2.2.1 26 = (.invokestatic 25, 29, 84, 1) := rfl
theorem t46_29 : (am_G 46).2.2.2.2.1 29 = (.ifCond .eq 18, 32, 47, 0) := rfl
theorem t46_32 : (am_G 46).2.2.2.2.1 32 = (.iload_n 2, 33, 2, 0) := rfl
theorem t46_33 : (am_G 46).2.2.2.2.1 33 = (.aload_n 0, 34, 0, 0) := rfl
theorem t46_34 : (am_G 46).2.2.2.2.1 34 = (.getfield 15, 37, 3, 1) := rfl
theorem t46_37 : (am_G 46).2.2.2.2.1 37 = (.iload 4, 39, 4, 0) := rfl
theorem t46_39 : (am_G 46).2.2.2.2.1 39 = (.iaload, 40, 0, 0) := rfl
theorem t46_40 : (am_G 46).2.2.2.2.1 40 = (.invokestatic 29, 43, 158, 0) := rfl
theorem t46_43 : (am_G 46).2.2.2.2.1 43 = (.invokestatic 35, 46, 159, 0) := rfl
theorem t46_46 : (am_G 46).2.2.2.2.1 46 = (.istore_n 2, 47, 2, 0) := rfl
theorem t46_47 : (am_G 46).2.2.2.2.1 47 = (.iinc 3 1, 50, 3, 1) := rfl
theorem t46_50 : (am_G 46).2.2.2.2.1 50 = (.goto (-46), 53, 4, 0) := rfl
theorem t46_53 : (am_G 46).2.2.2.2.1 53 = (.iload_n 2, 54, 2, 0) := rfl
theorem t46_54 : (am_G 46).2.2.2.2.1 54 = (.ireturn, 55, 0, 0) := rfl
theorem t47_0 : (am_G 47).2.2.2.2.1 0 = (.iload_n 1, 1, 1, 0) := rfl
theorem t47_1 : (am_G 47).2.2.2.2.1 1 = (.iconst 3, 2, 3, 0) := rfl
theorem t47_2 : (am_G 47).2.2.2.2.1 2 = (.imul, 3, 0, 0) := rfl
theorem t47_3 : (am_G 47).2.2.2.2.1 3 = (.iload_n 2, 4, 2, 0) := rfl
theorem t47_4 : (am_G 47).2.2.2.2.1 4 = (.iadd, 5, 0, 0) := rfl
theorem t47_5 : (am_G 47).2.2.2.2.1 5 = (.istore 5, 7, 5, 0) := rfl
theorem t47_7 : (am_G 47).2.2.2.2.1 7 = (.iload 4, 9, 4, 0) := rfl
theorem t47_9 : (am_G 47).2.2.2.2.1 9 = (.ifCond .eq 18, 12, 27, 0) := rfl
theorem t47_12 : (am_G 47).2.2.2.2.1 12 = (.iload 5, 14, 5, 0) := rfl
theorem t47_14 : (am_G 47).2.2.2.2.1 14 = (.ifCond .lt 13, 17, 27, 0) := rfl
theorem t47_17 : (am_G 47).2.2.2.2.1 17 = (.iload 5, 19, 5, 0) := rfl
theorem t47_19 : (am_G 47).2.2.2.2.1 19 = (.aload_n 0, 20, 0, 0) := rfl
theorem t47_20 : (am_G 47).2.2.2.2.1 20 = (.getfield 9, 23, 3, 0) := rfl
theorem t47_23 : (am_G 47).2.2.2.2.1 23 = (.arraylength, 24, 0, 0) := rfl
theorem t47_24 : (am_G 47).2.2.2.2.1 24 = (.if_icmp .lt 5, 27, 29, 0) := rfl
theorem t47_27 : (am_G 47).2.2.2.2.1 27 = (.iconst 0, 28, 0, 0) := rfl
theorem t47_28 : (am_G 47).2.2.2.2.1 28 = (.ireturn, 29, 0, 0) := rfl
theorem t47_29 : (am_G 47).2.2.2.2.1 29 = (.aload_n 0, 30, 0, 0) := rfl
theorem t47_30 : (am_G 47).2.2.2.2.1 30 = (.getfield 9, 33, 3, 0) := rfl
theorem t47_33 : (am_G 47).2.2.2.2.1 33 = (.iload 5, 35, 5, 0) := rfl
theorem t47_35 : (am_G 47).2.2.2.2.1 35 = (.iaload, 36, 0, 0) := rfl
theorem t47_36 : (am_G 47).2.2.2.2.1 36 = (.aload_n 0, 37, 0, 0) := rfl
theorem t47_37 : (am_G 47).2.2.2.2.1 37 = (.getfield 15, 40, 3, 1) := rfl
theorem t47_40 : (am_G 47).2.2.2.2.1 40 = (.iload 5, 42, 5, 0) := rfl
theorem t47_42 : (am_G 47).2.2.2.2.1 42 = (.iaload, 43, 0, 0) := rfl
theorem t47_43 : (am_G 47).2.2.2.2.1 43 = (.iload_n 3, 44, 3, 0) := rfl
theorem t47_44 : (am_G 47).2.2.2.2.1 44 = (.imul, 45, 0, 0) := rfl
theorem t47_45 : (am_G 47).2.2.2.2.1 45 = (.iload 4, 47, 4, 0) := rfl
theorem t47_47 : (am_G 47).2.2.2.2.1 47 = (.idiv, 48, 0, 0) := rfl
theorem t47_48 : (am_G 47).2.2.2.2.1 48 = (.iadd, 49, 0, 0) := rfl
theorem t47_49 : (am_G 47).2.2.2.2.1 49 = (.ireturn, 50, 0, 0) := rfl
theorem t48_0 : (am_G 48).2.2.2.2.1 0 = (.iconst 0, 1, 0, 0) := rfl
theorem t48_1 : (am_G 48).2.2.2.2.1 1 = (.istore_n 1, 2, 1, 0) := rfl
theorem t48_2 : (am_G 48).2.2.2.2.1 2 = (.iload_n 1, 3, 1, 0) := rfl
theorem t48_3 : (am_G 48).2.2.2.2.1 3 = (.aload_n 0, 4, 0, 0) := rfl
theorem t48_4 : (am_G 48).2.2.2.2.1 4 = (.getfield 21, 7, 3, 3) := rfl
theorem t48_7 : (am_G 48).2.2.2.2.1 7 = (.iconst 3, 8, 3, 0) := rfl
theorem t48_8 : (am_G 48).2.2.2.2.1 8 = (.imul, 9, 0, 0) := rfl
theorem t48_9 : (am_G 48).2.2.2.2.1 9 = (.if_icmp .ge 64, 12, 73, 0) := rfl
theorem t48_12 : (am_G 48).2.2.2.2.1 12 = (.aload_n 0, 13, 0, 0) := rfl
theorem t48_13 : (am_G 48).2.2.2.2.1 13 = (.getfield 9, 16, 3, 0) := rfl
theorem t48_16 : (am_G 48).2.2.2.2.1 16 = (.iload_n 1, 17, 1, 0) := rfl
theorem t48_17 : (am_G 48).2.2.2.2.1 17 = (.iaload, 18, 0, 0) := rfl
theorem t48_18 : (am_G 48).2.2.2.2.1 18 = (.aload_n 0, 19, 0, 0) := rfl
theorem t48_19 : (am_G 48).2.2.2.2.1 19 = (.getfield 15, 22, 3, 1) := rfl
theorem t48_22 : (am_G 48).2.2.2.2.1 22 = (.iload_n 1, 23, 1, 0) := rfl
theorem t48_23 : (am_G 48).2.2.2.2.1 23 = (.iaload, 24, 0, 0) := rfl
theorem t48_24 : (am_G 48).2.2.2.2.1 24 = (.iadd, 25, 0, 0) := rfl
theorem t48_25 : (am_G 48).2.2.2.2.1 25 = (.aload_n 0, 26, 0, 0) := rfl
theorem t48_26 : (am_G 48).2.2.2.2.1 26 = (.getfield 9, 29, 3, 0) := rfl
theorem t48_29 : (am_G 48).2.2.2.2.1 29 = (.iload_n 1, 30, 1, 0) := rfl
theorem t48_30 : (am_G 48).2.2.2.2.1 30 = (.iconst 1, 31, 1, 0) := rfl
theorem t48_31 : (am_G 48).2.2.2.2.1 31 = (.iadd, 32, 0, 0) := rfl
theorem t48_32 : (am_G 48).2.2.2.2.1 32 = (.iaload, 33, 0, 0) := rfl
theorem t48_33 : (am_G 48).2.2.2.2.1 33 = (.aload_n 0, 34, 0, 0) := rfl
theorem t48_34 : (am_G 48).2.2.2.2.1 34 = (.getfield 15, 37, 3, 1) := rfl
theorem t48_37 : (am_G 48).2.2.2.2.1 37 = (.iload_n 1, 38, 1, 0) := rfl
theorem t48_38 : (am_G 48).2.2.2.2.1 38 = (.iconst 1, 39, 1, 0) := rfl
theorem t48_39 : (am_G 48).2.2.2.2.1 39 = (.iadd, 40, 0, 0) := rfl
theorem t48_40 : (am_G 48).2.2.2.2.1 40 = (.iaload, 41, 0, 0) := rfl
theorem t48_41 : (am_G 48).2.2.2.2.1 41 = (.iadd, 42, 0, 0) := rfl
theorem t48_42 : (am_G 48).2.2.2.2.1 42 = (.aload_n 0, 43, 0, 0) := rfl
theorem t48_43 : (am_G 48).2.2.2.2.1 43 = (.getfield 9, 46, 3, 0) := rfl
theorem t48_46 : (am_G 48).2.2.2.2.1 46 = (.iload_n 1, 47, 1, 0) := rfl
theorem t48_47 : (am_G 48).2.2.2.2.1 47 = (.iconst 2, 48, 2, 0) := rfl
theorem t48_48 : (am_G 48).2.2.2.2.1 48 = (.iadd, 49, 0, 0) := rfl
theorem t48_49 : (am_G 48).2.2.2.2.1 49 = (.iaload, 50, 0, 0) := rfl
theorem t48_50 : (am_G 48).2.2.2.2.1 50 = (.aload_n 0, 51, 0, 0) := rfl
theorem t48_51 : (am_G 48).2.2.2.2.1 51 = (.getfield 15, 54, 3, 1) := rfl
theorem t48_54 : (am_G 48).2.2.2.2.1 54 = (.iload_n 1, 55, 1, 0) := rfl
theorem t48_55 : (am_G 48).2.2.2.2.1 55 = (.iconst 2, 56, 2, 0) := rfl
theorem t48_56 : (am_G 48).2.2.2.2.1 56 = (.iadd, 57, 0, 0) := rfl
theorem t48_57 : (am_G 48).2.2.2.2.1 57 = (.iaload, 58, 0, 0) := rfl
theorem t48_58 : (am_G 48).2.2.2.2.1 58 = (.iadd, 59, 0, 0) := rfl
theorem t48_59 : (am_G 48).2.2.2.2.1 59 = (.invokestatic 39, 62, 86, 1) := rfl
theorem t48_62 : (am_G 48).2.2.2.2.1 62 = (.ifCond .ne 5, 65, 67, 0) := rfl
theorem t48_65 : (am_G 48).2.2.2.2.1 65 = (.iconst 1, 66, 1, 0) := rfl
theorem t48_66 : (am_G 48).2.2.2.2.1 66 = (.ireturn, 67, 0, 0) := rfl
theorem t48_67 : (am_G 48).2.2.2.2.1 67 = (.iinc 1 3, 70, 1, 3) := rfl
theorem t48_70 : (am_G 48).2.2.2.2.1 70 = (.goto (-68), 73, 2, 0) := rfl
theorem t48_73 : (am_G 48).2.2.2.2.1 73 = (.iconst 0, 74, 0, 0) := rfl
theorem t48_74 : (am_G 48).2.2.2.2.1 74 = (.ireturn, 75, 0, 0) := rfl
theorem t49_0 : (am_G 49).2.2.2.2.1 0 = (.aload_n 0, 1, 0, 0) := rfl
theorem t49_1 : (am_G 49).2.2.2.2.1 1 = (.invokespecial 3, 4, 0, 2) := rfl
theorem t49_4 : (am_G 49).2.2.2.2.1 4 = (.aload_n 0, 5, 0, 0) := rfl
theorem t49_5 : (am_G 49).2.2.2.2.1 5 = (.bipush 64, 7, 64, 0) := rfl
theorem t49_7 : (am_G 49).2.2.2.2.1 7 = (.newarray .int, 9, 0, 0) := rfl
theorem t49_9 : (am_G 49).2.2.2.2.1 9 = (.putfield 9, 12, 4, 0) := rfl
theorem t49_12 : (am_G 49).2.2.2.2.1 12 = (.aload_n 0, 13, 0, 0) := rfl
theorem t49_13 : (am_G 49).2.2.2.2.1 13 = (.bipush 64, 15, 64, 0) := rfl
theorem t49_15 : (am_G 49).2.2.2.2.1 15 = (.newarray .int, 17, 0, 0) := rfl
theorem t49_17 : (am_G 49).2.2.2.2.1 17 = (.putfield 15, 20, 4, 1) := rfl
theorem t49_20 : (am_G 49).2.2.2.2.1 20 = (.aload_n 0, 21, 0, 0) := rfl
theorem t49_21 : (am_G 49).2.2.2.2.1 21 = (.bipush 64, 23, 64, 0) := rfl
theorem t49_23 : (am_G 49).2.2.2.2.1 23 = (.newarray .int, 25, 0, 0) := rfl
theorem t49_25 : (am_G 49).2.2.2.2.1 25 = (.putfield 18, 28, 4, 2) := rfl
theorem t49_28 : (am_G 49).2.2.2.2.1 28 = (.aload_n 0, 29, 0, 0) := rfl
theorem t49_29 : (am_G 49).2.2.2.2.1 29 = (.bipush 64, 31, 64, 0) := rfl
theorem t49_31 : (am_G 49).2.2.2.2.1 31 = (.newarray .int, 33, 0, 0) := rfl
theorem t49_33 : (am_G 49).2.2.2.2.1 33 = (.putfield 21, 36, 4, 3) := rfl
theorem t49_36 : (am_G 49).2.2.2.2.1 36 = (.aload_n 0, 37, 0, 0) := rfl
theorem t49_37 : (am_G 49).2.2.2.2.1 37 = (.bipush 64, 39, 64, 0) := rfl
theorem t49_39 : (am_G 49).2.2.2.2.1 39 = (.newarray .int, 41, 0, 0) := rfl
theorem t49_41 : (am_G 49).2.2.2.2.1 41 = (.putfield 24, 44, 4, 4) := rfl
theorem t49_44 : (am_G 49).2.2.2.2.1 44 = (.return_, 45, 0, 0) := rfl
theorem t50_0 : (am_G 50).2.2.2.2.1 0 = (.aload_n 0, 1, 0, 0) := rfl
theorem t50_1 : (am_G 50).2.2.2.2.1 1 = (.getfield 27, 4, 4, 5) := rfl
theorem t50_4 : (am_G 50).2.2.2.2.1 4 = (.bipush 64, 6, 64, 0) := rfl
theorem t50_6 : (am_G 50).2.2.2.2.1 6 = (.if_icmp .lt 4, 9, 10, 0) := rfl
theorem t50_9 : (am_G 50).2.2.2.2.1 9 = (.return_, 10, 0, 0) := rfl
theorem t50_10 : (am_G 50).2.2.2.2.1 10 = (.aload_n 0, 11, 0, 0) := rfl
theorem t50_11 : (am_G 50).2.2.2.2.1 11 = (.getfield 9, 14, 4, 0) := rfl
theorem t50_14 : (am_G 50).2.2.2.2.1 14 = (.aload_n 0, 15, 0, 0) := rfl
theorem t50_15 : (am_G 50).2.2.2.2.1 15 = (.getfield 27, 18, 4, 5) := rfl
theorem t50_18 : (am_G 50).2.2.2.2.1 18 = (.iload_n 1, 19, 1, 0) := rfl
theorem t50_19 : (am_G 50).2.2.2.2.1 19 = (.iastore, 20, 0, 0) := rfl
theorem t50_20 : (am_G 50).2.2.2.2.1 20 = (.aload_n 0, 21, 0, 0) := rfl
theorem t50_21 : (am_G 50).2.2.2.2.1 21 = (.getfield 15, 24, 4, 1) := rfl
theorem t50_24 : (am_G 50).2.2.2.2.1 24 = (.aload_n 0, 25, 0, 0) := rfl
theorem t50_25 : (am_G 50).2.2.2.2.1 25 = (.getfield 27, 28, 4, 5) := rfl
theorem t50_28 : (am_G 50).2.2.2.2.1 28 = (.iload_n 2, 29, 2, 0) := rfl
theorem t50_29 : (am_G 50).2.2.2.2.1 29 = (.iastore, 30, 0, 0) := rfl
theorem t50_30 : (am_G 50).2.2.2.2.1 30 = (.aload_n 0, 31, 0, 0) := rfl
theorem t50_31 : (am_G 50).2.2.2.2.1 31 = (.getfield 18, 34, 4, 2) := rfl
theorem t50_34 : (am_G 50).2.2.2.2.1 34 = (.aload_n 0, 35, 0, 0) := rfl
theorem t50_35 : (am_G 50).2.2.2.2.1 35 = (.getfield 27, 38, 4, 5) := rfl
theorem t50_38 : (am_G 50).2.2.2.2.1 38 = (.iload_n 3, 39, 3, 0) := rfl
theorem t50_39 : (am_G 50).2.2.2.2.1 39 = (.iastore, 40, 0, 0) := rfl
theorem t50_40 : (am_G 50).2.2.2.2.1 40 = (.aload_n 0, 41, 0, 0) := rfl
theorem t50_41 : (am_G 50).2.2.2.2.1 41 = (.getfield 21, 44, 4, 3) := rfl
theorem t50_44 : (am_G 50).2.2.2.2.1 44 = (.aload_n 0, 45, 0, 0) := rfl
theorem t50_45 : (am_G 50).2.2.2.2.1 45 = (.getfield 27, 48, 4, 5) := rfl
theorem t50_48 : (am_G 50).2.2.2.2.1 48 = (.iload 4, 50, 4, 0) := rfl
theorem t50_50 : (am_G 50).2.2.2.2.1 50 = (.iastore, 51, 0, 0) := rfl
theorem t50_51 : (am_G 50).2.2.2.2.1 51 = (.aload_n 0, 52, 0, 0) := rfl
theorem t50_52 : (am_G 50).2.2.2.2.1 52 = (.getfield 24, 55, 4, 4) := rfl
theorem t50_55 : (am_G 50).2.2.2.2.1 55 = (.aload_n 0, 56, 0, 0) := rfl
theorem t50_56 : (am_G 50).2.2.2.2.1 56 = (.getfield 27, 59, 4, 5) := rfl
theorem t50_59 : (am_G 50).2.2.2.2.1 59 = (.iconst (-1), 60, 4294967295, 0) := rfl
theorem t50_60 : (am_G 50).2.2.2.2.1 60 = (.iastore, 61, 0, 0) := rfl
theorem t50_61 : (am_G 50).2.2.2.2.1 61 = (.iload_n 1, 62, 1, 0) := rfl
theorem t50_62 : (am_G 50).2.2.2.2.1 62 = (.bipush 101, 64, 101, 0) := rfl
theorem t50_64 : (am_G 50).2.2.2.2.1 64 = (.if_icmp .ne 7, 67, 71, 0) := rfl
theorem t50_67 : (am_G 50).2.2.2.2.1 67 = (.aload_n 0, 68, 0, 0) := rfl
theorem t50_68 : (am_G 50).2.2.2.2.1 68 = (.invokevirtual 31, 71, 51, 4) := rfl
theorem t50_71 : (am_G 50).2.2.2.2.1 71 = (.aload_n 0, 72, 0, 0) := rfl
theorem t50_72 : (am_G 50).2.2.2.2.1 72 = (.dup, 73, 0, 0) := rfl
theorem t50_73 : (am_G 50).2.2.2.2.1 73 = (.getfield 27, 76, 4, 5) := rfl
theorem t50_76 : (am_G 50).2.2.2.2.1 76 = (.iconst 1, 77, 1, 0) := rfl
theorem t50_77 : (am_G 50).2.2.2.2.1 77 = (.iadd, 78, 0, 0) := rfl
theorem t50_78 : (am_G 50).2.2.2.2.1 78 = (.putfield 27, 81, 4, 5) := rfl
theorem t50_81 : (am_G 50).2.2.2.2.1 81 = (.return_, 82, 0, 0) := rfl
theorem t51_0 : (am_G 51).2.2.2.2.1 0 = (.aload_n 0, 1, 0, 0) := rfl
theorem t51_1 : (am_G 51).2.2.2.2.1 1 = (.getfield 27, 4, 4, 5) := rfl
theorem t51_4 : (am_G 51).2.2.2.2.1 4 = (.iconst 1, 5, 1, 0) := rfl
theorem t51_5 : (am_G 51).2.2.2.2.1 5 = (.isub, 6, 0, 0) := rfl
theorem t51_6 : (am_G 51).2.2.2.2.1 6 = (.istore_n 1, 7, 1, 0) := rfl
theorem t51_7 : (am_G 51).2.2.2.2.1 7 = (.iload_n 1, 8, 1, 0) := rfl
theorem t51_8 : (am_G 51).2.2.2.2.1 8 = (.ifCond .lt 48, 11, 56, 0) := rfl
theorem t51_11 : (am_G 51).2.2.2.2.1 11 = (.aload_n 0, 12, 0, 0) := rfl
theorem t51_12 : (am_G 51).2.2.2.2.1 12 = (.iload_n 1, 13, 1, 0) := rfl
theorem t51_13 : (am_G 51).2.2.2.2.1 13 = (.invokevirtual 34, 16, 55, 4) := rfl
theorem t51_16 : (am_G 51).2.2.2.2.1 16 = (.ifCond .eq 34, 19, 50, 0) := rfl
theorem t51_19 : (am_G 51).2.2.2.2.1 19 = (.aload_n 0, 20, 0, 0) := rfl
theorem t51_20 : (am_G 51).2.2.2.2.1 20 = (.getfield 24, 23, 4, 4) := rfl
theorem t51_23 : (am_G 51).2.2.2.2.1 23 = (.iload_n 1, 24, 1, 0) := rfl
theorem t51_24 : (am_G 51).2.2.2.2.1 24 = (.iaload, 25, 0, 0) := rfl
theorem t51_25 : (am_G 51).2.2.2.2.1 25 = (.iconst (-1), 26, 4294967295, 0) := rfl
theorem t51_26 : (am_G 51).2.2.2.2.1 26 = (.if_icmp .ne 24, 29, 50, 0) := rfl
theorem t51_29 : (am_G 51).2.2.2.2.1 29 = (.aload_n 0, 30, 0, 0) := rfl
theorem t51_30 : (am_G 51).2.2.2.2.1 30 = (.getfield 24, 33, 4, 4) := rfl
theorem t51_33 : (am_G 51).2.2.2.2.1 33 = (.iload_n 1, 34, 1, 0) := rfl
theorem t51_34 : (am_G 51).2.2.2.2.1 34 = (.aload_n 0, 35, 0, 0) := rfl
theorem t51_35 : (am_G 51).2.2.2.2.1 35 = (.getfield 27, 38, 4, 5) := rfl
theorem t51_38 : (am_G 51).2.2.2.2.1 38 = (.iastore, 39, 0, 0) := rfl
theorem t51_39 : (am_G 51).2.2.2.2.1 39 = (.aload_n 0, 40, 0, 0) := rfl
theorem t51_40 : (am_G 51).2.2.2.2.1 40 = (.getfield 24, 43, 4, 4) := rfl
theorem t51_43 : (am_G 51).2.2.2.2.1 43 = (.aload_n 0, 44, 0, 0) := rfl
theorem t51_44 : (am_G 51).2.2.2.2.1 44 = (.getfield 27, 47, 4, 5) := rfl
theorem t51_47 : (am_G 51).2.2.2.2.1 47 = (.iload_n 1, 48, 1, 0) := rfl
theorem t51_48 : (am_G 51).2.2.2.2.1 48 = (.iastore, 49, 0, 0) := rfl
theorem t51_49 : (am_G 51).2.2.2.2.1 49 = (.return_, 50, 0, 0) := rfl
theorem t51_50 : (am_G 51).2.2.2.2.1 50 = (.iinc 1 (-1), 53, 1, 4294967295) := rfl
theorem t51_53 : (am_G 51).2.2.2.2.1 53 = (.goto (-46), 56, 7, 0) := rfl
theorem t51_56 : (am_G 51).2.2.2.2.1 56 = (.return_, 57, 0, 0) := rfl
theorem t52_0 : (am_G 52).2.2.2.2.1 0 = (.aload_n 0, 1, 0, 0) := rfl
theorem t52_1 : (am_G 52).2.2.2.2.1 1 = (.getfield 27, 4, 4, 5) := rfl
theorem t52_4 : (am_G 52).2.2.2.2.1 4 = (.ifCond .gt 4, 7, 8, 0) := rfl
theorem t52_7 : (am_G 52).2.2.2.2.1 7 = (.return_, 8, 0, 0) := rfl
theorem t52_8 : (am_G 52).2.2.2.2.1 8 = (.aload_n 0, 9, 0, 0) := rfl
theorem t52_9 : (am_G 52).2.2.2.2.1 9 = (.dup, 10, 0, 0) := rfl
theorem t52_10 : (am_G 52).2.2.2.2.1 10 = (.getfield 27, 13, 4, 5) := rfl
theorem t52_13 : (am_G 52).2.2.2.2.1 13 = (.iconst 1, 14, 1, 0) := rfl
theorem t52_14 : (am_G 52).2.2.2.2.1 14 = (.isub, 15, 0, 0) := rfl
theorem t52_15 : (am_G 52).2.2.2.2.1 15 = (.putfield 27, 18, 4, 5) := rfl
theorem t52_18 : (am_G 52).2.2.2.2.1 18 = (.aload_n 0, 19, 0, 0) := rfl
theorem t52_19 : (am_G 52).2.2.2.2.1 19 = (.getfield 24, 22, 4, 4) := rfl
theorem t52_22 : (am_G 52).2.2.2.2.1 22 = (.aload_n 0, 23, 0, 0) := rfl
theorem t52_23 : (am_G 52).2.2.2.2.1 23 = (.getfield 27, 26, 4, 5) := rfl
theorem t52_26 : (am_G 52).2.2.2.2.1 26 = (.iaload, 27, 0, 0) := rfl
theorem t52_27 : (am_G 52).2.2.2.2.1 27 = (.istore_n 1, 28, 1, 0) := rfl
theorem t52_28 : (am_G 52).2.2.2.2.1 28 = (.aload_n 0, 29, 0, 0) := rfl
theorem t52_29 : (am_G 52).2.2.2.2.1 29 = (.iload_n 1, 30, 1, 0) := rfl
theorem t52_30 : (am_G 52).2.2.2.2.1 30 = (.invokevirtual 38, 33, 54, 4) := rfl
theorem t52_33 : (am_G 52).2.2.2.2.1 33 = (.ifCond .eq 10, 36, 43, 0) := rfl
theorem t52_36 : (am_G 52).2.2.2.2.1 36 = (.aload_n 0, 37, 0, 0) := rfl
theorem t52_37 : (am_G 52).2.2.2.2.1 37 = (.getfield 24, 40, 4, 4) := rfl
theorem t52_40 : (am_G 52).2.2.2.2.1 40 = (.iload_n 1, 41, 1, 0) := rfl
theorem t52_41 : (am_G 52).2.2.2.2.1 41 = (.iconst (-1), 42, 4294967295, 0) := rfl
theorem t52_42 : (am_G 52).2.2.2.2.1 42 = (.iastore, 43, 0, 0) := rfl
theorem t52_43 : (am_G 52).2.2.2.2.1 43 = (.return_, 44, 0, 0) := rfl
theorem t53_0 : (am_G 53).2.2.2.2.1 0 = (.iconst 0, 1, 0, 0) := rfl
theorem t53_1 : (am_G 53).2.2.2.2.1 1 = (.istore_n 1, 2, 1, 0) := rfl
theorem t53_2 : (am_G 53).2.2.2.2.1 2 = (.iconst 0, 3, 0, 0) := rfl
theorem t53_3 : (am_G 53).2.2.2.2.1 3 = (.istore_n 2, 4, 2, 0) := rfl
theorem t53_4 : (am_G 53).2.2.2.2.1 4 = (.iload_n 2, 5, 2, 0) := rfl
theorem t53_5 : (am_G 53).2.2.2.2.1 5 = (.aload_n 0, 6, 0, 0) := rfl
theorem t53_6 : (am_G 53).2.2.2.2.1 6 = (.getfield 27, 9, 4, 5) := rfl
theorem t53_9 : (am_G 53).2.2.2.2.1 9 = (.if_icmp .ge 73, 12, 82, 0) := rfl
theorem t53_12 : (am_G 53).2.2.2.2.1 12 = (.aload_n 0, 13, 0, 0) := rfl
theorem t53_13 : (am_G 53).2.2.2.2.1 13 = (.iload_n 2, 14, 2, 0) := rfl
theorem t53_14 : (am_G 53).2.2.2.2.1 14 = (.invokevirtual 34, 17, 55, 4) := rfl
theorem t53_17 : (am_G 53).2.2.2.2.1 17 = (.istore_n 3, 18, 3, 0) := rfl
theorem t53_18 : (am_G 53).2.2.2.2.1 18 = (.iload_n 3, 19, 3, 0) := rfl
theorem t53_19 : (am_G 53).2.2.2.2.1 19 = (.ifCond .ne 14, 22, 33, 0) := rfl
theorem t53_22 : (am_G 53).2.2.2.2.1 22 = (.aload_n 0, 23, 0, 0) := rfl
theorem t53_23 : (am_G 53).2.2.2.2.1 23 = (.getfield 9, 26, 4, 0) := rfl
theorem t53_26 : (am_G 53).2.2.2.2.1 26 = (.iload_n 2, 27, 2, 0) := rfl
theorem t53_27 : (am_G 53).2.2.2.2.1 27 = (.iaload, 28, 0, 0) := rfl
theorem t53_28 : (am_G 53).2.2.2.2.1 28 = (.bipush 101, 30, 101, 0) := rfl
theorem t53_30 : (am_G 53).2.2.2.2.1 30 = (.if_icmp .ne 15, 33, 45, 0) := rfl
theorem t53_33 : (am_G 53).2.2.2.2.1 33 = (.aload_n 0, 34, 0, 0) := rfl
theorem t53_34 : (am_G 53).2.2.2.2.1 34 = (.getfield 24, 37, 4, 4) := rfl
theorem t53_37 : (am_G 53).2.2.2.2.1 37 = (.iload_n 2, 38, 2, 0) := rfl
theorem t53_38 : (am_G 53).2.2.2.2.1 38 = (.iaload, 39, 0, 0) := rfl
theorem t53_39 : (am_G 53).2.2.2.2.1 39 = (.iconst (-1), 40, 4294967295, 0) := rfl
theorem t53_40 : (am_G 53).2.2.2.2.1 40 = (.if_icmp .ne 5, 43, 45, 0) := rfl
theorem t53_43 : (am_G 53).2.2.2.2.1 43 = (.iconst 0, 44, 0, 0) := rfl
theorem t53_44 : (am_G 53).2.2.2.2.1 44 = (.ireturn, 45, 0, 0) := rfl
theorem t53_45 : (am_G 53).2.2.2.2.1 45 = (.iload_n 3, 46, 3, 0) := rfl
theorem t53_46 : (am_G 53).2.2.2.2.1 46 = (.ifCond .eq 9, 49, 55, 0) := rfl
theorem t53_49 : (am_G 53).2.2.2.2.1 49 = (.iinc 1 1, 52, 1, 1) := rfl
theorem t53_52 : (am_G 53).2.2.2.2.1 52 = (.goto 17, 55, 69, 0) := rfl
theorem t53_55 : (am_G 53).2.2.2.2.1 55 = (.aload_n 0, 56, 0, 0) := rfl
theorem t53_56 : (am_G 53).2.2.2.2.1 56 = (.getfield 9, 59, 4, 0) := rfl
theorem t53_59 : (am_G 53).2.2.2.2.1 59 = (.iload_n 2, 60, 2, 0) := rfl
theorem t53_60 : (am_G 53).2.2.2.2.1 60 = (.iaload, 61, 0, 0) := rfl
theorem t53_61 : (am_G 53).2.2.2.2.1 61 = (.bipush 101, 63, 101, 0) := rfl
theorem t53_63 : (am_G 53).2.2.2.2.1 63 = (.if_icmp .ne 6, 66, 69, 0) := rfl
theorem t53_66 : (am_G 53).2.2.2.2.1 66 = (.iinc 1 (-1), 69, 1, 4294967295) := rfl
theorem t53_69 : (am_G 53).2.2.2.2.1 69 = (.iload_n 1, 70, 1, 0) := rfl
theorem t53_70 : (am_G 53).2.2.2.2.1 70 = (.iconst 3, 71, 3, 0) := rfl
theorem t53_71 : (am_G 53).2.2.2.2.1 71 = (.if_icmp .le 5, 74, 76, 0) := rfl
theorem t53_74 : (am_G 53).2.2.2.2.1 74 = (.iconst 0, 75, 0, 0) := rfl
theorem t53_75 : (am_G 53).2.2.2.2.1 75 = (.ireturn, 76, 0, 0) := rfl
theorem t53_76 : (am_G 53).2.2.2.2.1 76 = (.iinc 2 1, 79, 2, 1) := rfl
theorem t53_79 : (am_G 53).2.2.2.2.1 79 = (.goto (-75), 82, 4, 0) := rfl
theorem t53_82 : (am_G 53).2.2.2.2.1 82 = (.iconst 1, 83, 1, 0) := rfl
theorem t53_83 : (am_G 53).2.2.2.2.1 83 = (.ireturn, 84, 0, 0) := rfl
theorem t54_0 : (am_G 54).2.2.2.2.1 0 = (.iload_n 1, 1, 1, 0) := rfl
theorem t54_1 : (am_G 54).2.2.2.2.1 1 = (.iconst 0, 2, 0, 0) := rfl
theorem t54_2 : (am_G 54).2.2.2.2.1 2 = (.aload_n 0, 3, 0, 0) := rfl
theorem t54_3 : (am_G 54).2.2.2.2.1 3 = (.getfield 27, 6, 4, 5) := rfl
theorem t54_6 : (am_G 54).2.2.2.2.1 6 = (.iconst 1, 7, 1, 0) := rfl
theorem t54_7 : (am_G 54).2.2.2.2.1 7 = (.isub, 8, 0, 0) := rfl
theorem t54_8 : (am_G 54).2.2.2.2.1 8 = (.invokestatic 41, 11, 84, 1) := rfl
theorem t54_11 : (am_G 54).2.2.2.2.1 11 = (.ireturn, 12, 0, 0) := rfl
theorem t55_0 : (am_G 55).2.2.2.2.1 0 = (.aload_n 0, 1, 0, 0) := rfl
theorem t55_1 : (am_G 55).2.2.2.2.1 1 = (.iload_n 1, 2, 1, 0) := rfl
theorem t55_2 : (am_G 55).2.2.2.2.1 2 = (.invokevirtual 38, 5, 54, 4) := rfl
theorem t55_5 : (am_G 55).2.2.2.2.1 5 = (.ifCond .eq 29, 8, 34, 0) := rfl
theorem t55_8 : (am_G 55).2.2.2.2.1 8 = (.aload_n 0, 9, 0, 0) := rfl
theorem t55_9 : (am_G 55).2.2.2.2.1 9 = (.getfield 9, 12, 4, 0) := rfl
theorem t55_12 : (am_G 55).2.2.2.2.1 12 = (.iload_n 1, 13, 1, 0) := rfl
theorem t55_13 : (am_G 55).2.2.2.2.1 13 = (.iaload, 14, 0, 0) := rfl
theorem t55_14 : (am_G 55).2.2.2.2.1 14 = (.bipush 114, 16, 114, 0) := rfl
theorem t55_16 : (am_G 55).2.2.2.2.1 16 = (.if_icmp .eq 14, 19, 30, 0) := rfl
theorem t55_19 : (am_G 55).2.2.2.2.1 19 = (.aload_n 0, 20, 0, 0) := rfl
theorem t55_20 : (am_G 55).2.2.2.2.1 20 = (.getfield 9, 23, 4, 0) := rfl
theorem t55_23 : (am_G 55).2.2.2.2.1 23 = (.iload_n 1, 24, 1, 0) := rfl
theorem t55_24 : (am_G 55).2.2.2.2.1 24 = (.iaload, 25, 0, 0) := rfl
theorem t55_25 : (am_G 55).2.2.2.2.1 25 = (.bipush 105, 27, 105, 0) := rfl
theorem t55_27 : (am_G 55).2.2.2.2.1 27 = (.if_icmp .ne 7, 30, 34, 0) := rfl
theorem t55_30 : (am_G 55).2.2.2.2.1 30 = (.iconst 1, 31, 1, 0) := rfl
theorem t55_31 : (am_G 55).2.2.2.2.1 31 = (.goto 4, 34, 35, 0) := rfl
theorem t55_34 : (am_G 55).2.2.2.2.1 34 = (.iconst 0, 35, 0, 0) := rfl
theorem t55_35 : (am_G 55).2.2.2.2.1 35 = (.ireturn, 36, 0, 0) := rfl
theorem t56_0 : (am_G 56).2.2.2.2.1 0 = (.aload_n 0, 1, 0, 0) := rfl
theorem t56_1 : (am_G 56).2.2.2.2.1 1 = (.invokespecial 3, 4, 0, 2) := rfl
theorem t56_4 : (am_G 56).2.2.2.2.1 4 = (.aload_n 0, 5, 0, 0) := rfl
theorem t56_5 : (am_G 56).2.2.2.2.1 5 = (.bipush 12, 7, 12, 0) := rfl
theorem t56_7 : (am_G 56).2.2.2.2.1 7 = (.newarray .char, 9, 1, 0) := rfl
theorem t56_9 : (am_G 56).2.2.2.2.1 9 = (.putfield 9, 12, 5, 0) := rfl
theorem t56_12 : (am_G 56).2.2.2.2.1 12 = (.aload_n 0, 13, 0, 0) := rfl
theorem t56_13 : (am_G 56).2.2.2.2.1 13 = (.bipush 12, 15, 12, 0) := rfl
theorem t56_15 : (am_G 56).2.2.2.2.1 15 = (.newarray .int, 17, 0, 0) := rfl
theorem t56_17 : (am_G 56).2.2.2.2.1 17 = (.putfield 15, 20, 5, 1) := rfl
theorem t56_20 : (am_G 56).2.2.2.2.1 20 = (.aload_n 0, 21, 0, 0) := rfl
theorem t56_21 : (am_G 56).2.2.2.2.1 21 = (.bipush 12, 23, 12, 0) := rfl
theorem t56_23 : (am_G 56).2.2.2.2.1 23 = (.newarray .int, 25, 0, 0) := rfl
theorem t56_25 : (am_G 56).2.2.2.2.1 25 = (.putfield 19, 28, 5, 2) := rfl
theorem t56_28 : (am_G 56).2.2.2.2.1 28 = (.return_, 29, 0, 0) := rfl
theorem t57_0 : (am_G 57).2.2.2.2.1 0 = (.iload_n 1, 1, 1, 0) := rfl
theorem t57_1 : (am_G 57).2.2.2.2.1 1 = (.iconst 0, 2, 0, 0) := rfl
theorem t57_2 : (am_G 57).2.2.2.2.1 2 = (.bipush 11, 4, 11, 0) := rfl
theorem t57_4 : (am_G 57).2.2.2.2.1 4 = (.invokestatic 22, 7, 84, 1) := rfl
theorem t57_7 : (am_G 57).2.2.2.2.1 7 = (.ifCond .eq 25, 10, 32, 0) := rfl
theorem t57_10 : (am_G 57).2.2.2.2.1 10 = (.aload_n 0, 11, 0, 0) := rfl
theorem t57_11 : (am_G 57).2.2.2.2.1 11 = (.getfield 9, 14, 5, 0) := rfl
theorem t57_14 : (am_G 57).2.2.2.2.1 14 = (.iload_n 1, 15, 1, 0) := rfl
theorem t57_15 : (am_G 57).2.2.2.2.1 15 = (.iload_n 2, 16, 2, 0) := rfl
theorem t57_16 : (am_G 57).2.2.2.2.1 16 = (.castore, 17, 0, 0) := rfl
theorem t57_17 : (am_G 57).2.2.2.2.1 17 = (.aload_n 0, 18, 0, 0) := rfl
theorem t57_18 : (am_G 57).2.2.2.2.1 18 = (.getfield 15, 21, 5, 1) := rfl
theorem t57_21 : (am_G 57).2.2.2.2.1 21 = (.iload_n 1, 22, 1, 0) := rfl
theorem t57_22 : (am_G 57).2.2.2.2.1 22 = (.iload_n 3, 23, 3, 0) := rfl
theorem t57_23 : (am_G 57).2.2.2.2.1 23 = (.iastore, 24, 0, 0) := rfl
theorem t57_24 : (am_G 57).2.2.2.2.1 24 = (.aload_n 0, 25, 0, 0) := rfl
theorem t57_25 : (am_G 57).2.2.2.2.1 25 = (.getfield 19, 28, 5, 2) := rfl
theorem t57_28 : (am_G 57).2.2.2.2.1 28 = (.iload_n 1, 29, 1, 0) := rfl
theorem t57_29 : (am_G 57).2.2.2.2.1 29 = (.iload 4, 31, 4, 0) := rfl
theorem t57_31 : (am_G 57).2.2.2.2.1 31 = (.iastore, 32, 0, 0) := rfl
theorem t57_32 : (am_G 57).2.2.2.2.1 32 = (.return_, 33, 0, 0) := rfl
theorem t58_0 : (am_G 58).2.2.2.2.1 0 = (.iload_n 1, 1, 1, 0) := rfl
theorem t58_1 : (am_G 58).2.2.2.2.1 1 = (.iconst 0, 2, 0, 0) := rfl
theorem t58_2 : (am_G 58).2.2.2.2.1 2 = (.bipush 11, 4, 11, 0) := rfl
theorem t58_4 : (am_G 58).2.2.2.2.1 4 = (.invokestatic 22, 7, 84, 1) := rfl
theorem t58_7 : (am_G 58).2.2.2.2.1 7 = (.ifCond .eq 16, 10, 23, 0) := rfl
theorem t58_10 : (am_G 58).2.2.2.2.1 10 = (.aload_n 0, 11, 0, 0) := rfl
theorem t58_11 : (am_G 58).2.2.2.2.1 11 = (.getfield 9, 14, 5, 0) := rfl
theorem t58_14 : (am_G 58).2.2.2.2.1 14 = (.iload_n 1, 15, 1, 0) := rfl
theorem t58_15 : (am_G 58).2.2.2.2.1 15 = (.caload, 16, 0, 0) := rfl
theorem t58_16 : (am_G 58).2.2.2.2.1 16 = (.ifCond .eq 7, 19, 23, 0) := rfl
theorem t58_19 : (am_G 58).2.2.2.2.1 19 = (.iconst 1, 20, 1, 0) := rfl
theorem t58_20 : (am_G 58).2.2.2.2.1 20 = (.goto 4, 23, 24, 0) := rfl
theorem t58_23 : (am_G 58).2.2.2.2.1 23 = (.iconst 0, 24, 0, 0) := rfl
theorem t58_24 : (am_G 58).2.2.2.2.1 24 = (.ireturn, 25, 0, 0) := rfl
theorem t59_0 : (am_G 59).2.2.2.2.1 0 = (.iconst 0, 1, 0, 0) := rfl
theorem t59_1 : (am_G 59).2.2.2.2.1 1 = (.istore_n 3, 2, 3, 0) := rfl
theorem t59_2 : (am_G 59).2.2.2.2.1 2 = (.iconst 0, 3, 0, 0) := rfl
theorem t59_3 : (am_G 59).2.2.2.2.1 3 = (.istore 4, 5, 4, 0) := rfl
theorem t59_5 : (am_G 59).2.2.2.2.1 5 = (.iload 4, 7, 4, 0) := rfl
theorem t59_7 : (am_G 59).2.2.2.2.1 7 = (.iload_n 2, 8, 2, 0) := rfl
theorem t59_8 : (am_G 59).2.2.2.2.1 8 = (.if_icmp .ge 23, 11, 31, 0) := rfl
theorem t59_11 : (am_G 59).2.2.2.2.1 11 = (.aload_n 0, 12, 0, 0) := rfl
theorem t59_12 : (am_G 59).2.2.2.2.1 12 = (.iload_n 1, 13, 1, 0) := rfl
theorem t59_13 : (am_G 59).2.2.2.2.1 13 = (.iload 4, 15, 4, 0) := rfl
theorem t59_15 : (am_G 59).2.2.2.2.1 15 = (.iadd, 16, 0, 0) := rfl
theorem t59_16 : (am_G 59).2.2.2.2.1 16 = (.invokevirtual 26, 19, 58, 5) := rfl
theorem t59_19 : (am_G 59).2.2.2.2.1 19 = (.ifCond .eq 6, 22, 25, 0) := rfl
theorem t59_22 : (am_G 59).2.2.2.2.1 22 = (.iinc 3 1, 25, 3, 1) := rfl
theorem t59_25 : (am_G 59).2.2.2.2.1 25 = (.iinc 4 1, 28, 4, 1) := rfl
theorem t59_28 : (am_G 59).2.2.2.2.1 28 = (.goto (-23), 31, 5, 0) := rfl
theorem t59_31 : (am_G 59).2.2.2.2.1 31 = (.iload_n 3, 32, 3, 0) := rfl
theorem t59_32 : (am_G 59).2.2.2.2.1 32 = (.ireturn, 33, 0, 0) := rfl
theorem t60_0 : (am_G 60).2.2.2.2.1 0 = (.iload_n 1, 1, 1, 0) := rfl
theorem t60_1 : (am_G 60).2.2.2.2.1 1 = (.iconst 0, 2, 0, 0) := rfl
theorem t60_2 : (am_G 60).2.2.2.2.1 2 = (.bipush 11, 4, 11, 0) := rfl
theorem t60_4 : (am_G 60).2.2.2.2.1 4 = (.invokestatic 22, 7, 84, 1) := rfl
theorem t60_7 : (am_G 60).2.2.2.2.1 7 = (.ifCond .eq 47, 10, 54, 0) := rfl
theorem t60_10 : (am_G 60).2.2.2.2.1 10 = (.iload_n 2, 11, 2, 0) := rfl
theorem t60_11 : (am_G 60).2.2.2.2.1 11 = (.iconst 0, 12, 0, 0) := rfl
theorem t60_12 : (am_G 60).2.2.2.2.1 12 = (.bipush 11, 14, 11, 0) := rfl
theorem t60_14 : (am_G 60).2.2.2.2.1 14 = (.invokestatic 22, 17, 84, 1) := rfl
theorem t60_17 : (am_G 60).2.2.2.2.1 17 = (.ifCond .eq 37, 20, 54, 0) := rfl
theorem t60_20 : (am_G 60).2.2.2.2.1 20 = (.aload_n 0, 21, 0, 0) := rfl
theorem t60_21 : (am_G 60).2.2.2.2.1 21 = (.getfield 9, 24, 5, 0) := rfl
theorem t60_24 : (am_G 60).2.2.2.2.1 24 = (.iload_n 1, 25, 1, 0) := rfl
theorem t60_25 : (am_G 60).2.2.2.2.1 25 = (.caload, 26, 0, 0) := rfl
theorem t60_26 : (am_G 60).2.2.2.2.1 26 = (.aload_n 0, 27, 0, 0) := rfl
theorem t60_27 : (am_G 60).2.2.2.2.1 27 = (.getfield 9, 30, 5, 0) := rfl
theorem t60_30 : (am_G 60).2.2.2.2.1 30 = (.iload_n 2, 31, 2, 0) := rfl
theorem t60_31 : (am_G 60).2.2.2.2.1 31 = (.caload, 32, 0, 0) := rfl
theorem t60_32 : (am_G 60).2.2.2.2.1 32 = (.if_icmp .ne 22, 35, 54, 0) := rfl
theorem t60_35 : (am_G 60).2.2.2.2.1 35 = (.aload_n 0, 36, 0, 0) := rfl
theorem t60_36 : (am_G 60).2.2.2.2.1 36 = (.getfield 15, 39, 5, 1) := rfl
theorem t60_39 : (am_G 60).2.2.2.2.1 39 = (.iload_n 1, 40, 1, 0) := rfl
theorem t60_40 : (am_G 60).2.2.2.2.1 40 = (.iaload, 41, 0, 0) := rfl
theorem t60_41 : (am_G 60).2.2.2.2.1 41 = (.aload_n 0, 42, 0, 0) := rfl
theorem t60_42 : (am_G 60).2.2.2.2.1 42 = (.getfield 15, 45, 5, 1) := rfl
theorem t60_45 : (am_G 60).2.2.2.2.1 45 = (.iload_n 2, 46, 2, 0) := rfl
theorem t60_46 : (am_G 60).2.2.2.2.1 46 = (.iaload, 47, 0, 0) := rfl
theorem t60_47 : (am_G 60).2.2.2.2.1 47 = (.if_icmp .ne 7, 50, 54, 0) := rfl
theorem t60_50 : (am_G 60).2.2.2.2.1 50 = (.iconst 1, 51, 1, 0) := rfl
theorem t60_51 : (am_G 60).2.2.2.2.1 51 = (.goto 4, 54, 55, 0) := rfl
theorem t60_54 : (am_G 60).2.2.2.2.1 54 = (.iconst 0, 55, 0, 0) := rfl
theorem t60_55 : (am_G 60).2.2.2.2.1 55 = (.ireturn, 56, 0, 0) := rfl
theorem t61_0 : (am_G 61).2.2.2.2.1 0 = (.aload_n 0, 1, 0, 0) := rfl
theorem t61_1 : (am_G 61).2.2.2.2.1 1 = (.invokespecial 3, 4, 0, 2) := rfl
theorem t61_4 : (am_G 61).2.2.2.2.1 4 = (.return_, 5, 0, 0) := rfl
theorem t62_0 : (am_G 62).2.2.2.2.1 0 = (.aload_n 0, 1, 0, 0) := rfl
theorem t62_1 : (am_G 62).2.2.2.2.1 1 = (.iload_n 1, 2, 1, 0) := rfl
theorem t62_2 : (am_G 62).2.2.2.2.1 2 = (.putfield 9, 5, 6, 0) := rfl
theorem t62_5 : (am_G 62).2.2.2.2.1 5 = (.aload_n 0, 6, 0, 0) := rfl
theorem t62_6 : (am_G 62).2.2.2.2.1 6 = (.iload_n 2, 7, 2, 0) := rfl
theorem t62_7 : (am_G 62).2.2.2.2.1 7 = (.putfield 15, 10, 6, 1) := rfl
theorem t62_10 : (am_G 62).2.2.2.2.1 10 = (.return_, 11, 0, 0) := rfl
theorem t63_0 : (am_G 63).2.2.2.2.1 0 = (.aload_n 0, 1, 0, 0) := rfl
theorem t63_1 : (am_G 63).2.2.2.2.1 1 = (.iload_n 1, 2, 1, 0) := rfl
theorem t63_2 : (am_G 63).2.2.2.2.1 2 = (.putfield 18, 5, 6, 2) := rfl
theorem t63_5 : (am_G 63).2.2.2.2.1 5 = (.aload_n 0, 6, 0, 0) := rfl
theorem t63_6 : (am_G 63).2.2.2.2.1 6 = (.iload_n 2, 7, 2, 0) := rfl
theorem t63_7 : (am_G 63).2.2.2.2.1 7 = (.putfield 21, 10, 6, 3) := rfl
theorem t63_10 : (am_G 63).2.2.2.2.1 10 = (.aload_n 0, 11, 0, 0) := rfl
theorem t63_11 : (am_G 63).2.2.2.2.1 11 = (.iload_n 3, 12, 3, 0) := rfl
theorem t63_12 : (am_G 63).2.2.2.2.1 12 = (.putfield 24, 15, 6, 4) := rfl
theorem t63_15 : (am_G 63).2.2.2.2.1 15 = (.return_, 16, 0, 0) := rfl
theorem t64_0 : (am_G 64).2.2.2.2.1 0 = (.aload_n 0, 1, 0, 0) := rfl
theorem t64_1 : (am_G 64).2.2.2.2.1 1 = (.getfield 24, 4, 6, 4) := rfl
theorem t64_4 : (am_G 64).2.2.2.2.1 4 = (.ifCond .ge 7, 7, 11, 0) := rfl
theorem t64_7 : (am_G 64).2.2.2.2.1 7 = (.iconst 0, 8, 0, 0) := rfl
theorem t64_8 : (am_G 64).2.2.2.2.1 8 = (.goto 7, 11, 15, 0) := rfl
theorem t64_11 : (am_G 64).2.2.2.2.1 11 = (.aload_n 0, 12, 0, 0) := rfl
theorem t64_12 : (am_G 64).2.2.2.2.1 12 = (.getfield 24, 15, 6, 4) := rfl
theorem t64_15 : (am_G 64).2.2.2.2.1 15 = (.ireturn, 16, 0, 0) := rfl
theorem t65_0 : (am_G 65).2.2.2.2.1 0 = (.aload_n 0, 1, 0, 0) := rfl
theorem t65_1 : (am_G 65).2.2.2.2.1 1 = (.getfield 21, 4, 6, 3) := rfl
theorem t65_4 : (am_G 65).2.2.2.2.1 4 = (.aload_n 0, 5, 0, 0) := rfl
theorem t65_5 : (am_G 65).2.2.2.2.1 5 = (.getfield 15, 8, 6, 1) := rfl
theorem t65_8 : (am_G 65).2.2.2.2.1 8 = (.isub, 9, 0, 0) := rfl
theorem t65_9 : (am_G 65).2.2.2.2.1 9 = (.ifCond .ge 7, 12, 16, 0) := rfl
theorem t65_12 : (am_G 65).2.2.2.2.1 12 = (.iconst 0, 13, 0, 0) := rfl
theorem t65_13 : (am_G 65).2.2.2.2.1 13 = (.goto 12, 16, 25, 0) := rfl
theorem t65_16 : (am_G 65).2.2.2.2.1 16 = (.aload_n 0, 17, 0, 0) := rfl
theorem t65_17 : (am_G 65).2.2.2.2.1 17 = (.getfield 21, 20, 6, 3) := rfl
theorem t65_20 : (am_G 65).2.2.2.2.1 20 = (.aload_n 0, 21, 0, 0) := rfl
theorem t65_21 : (am_G 65).2.2.2.2.1 21 = (.getfield 15, 24, 6, 1) := rfl
theorem t65_24 : (am_G 65).2.2.2.2.1 24 = (.isub, 25, 0, 0) := rfl
theorem t65_25 : (am_G 65).2.2.2.2.1 25 = (.ireturn, 26, 0, 0) := rfl
theorem t66_0 : (am_G 66).2.2.2.2.1 0 = (.aload_n 0, 1, 0, 0) := rfl
theorem t66_1 : (am_G 66).2.2.2.2.1 1 = (.getfield 21, 4, 6, 3) := rfl
theorem t66_4 : (am_G 66).2.2.2.2.1 4 = (.aload_n 0, 5, 0, 0) := rfl
theorem t66_5 : (am_G 66).2.2.2.2.1 5 = (.getfield 15, 8, 6, 1) := rfl
theorem t66_8 : (am_G 66).2.2.2.2.1 8 = (.iadd, 9, 0, 0) := rfl
theorem t66_9 : (am_G 66).2.2.2.2.1 9 = (.bipush 12, 11, 12, 0) := rfl
theorem t66_11 : (am_G 66).2.2.2.2.1 11 = (.if_icmp .lt 8, 14, 19, 0) := rfl
theorem t66_14 : (am_G 66).2.2.2.2.1 14 = (.bipush 11, 16, 11, 0) := rfl
theorem t66_16 : (am_G 66).2.2.2.2.1 16 = (.goto 12, 19, 28, 0) := rfl
theorem t66_19 : (am_G 66).2.2.2.2.1 19 = (.aload_n 0, 20, 0, 0) := rfl
theorem t66_20 : (am_G 66).2.2.2.2.1 20 = (.getfield 21, 23, 6, 3) := rfl
theorem t66_23 : (am_G 66).2.2.2.2.1 23 = (.aload_n 0, 24, 0, 0) := rfl
theorem t66_24 : (am_G 66).2.2.2.2.1 24 = (.getfield 15, 27, 6, 1) := rfl
theorem t66_27 : (am_G 66).2.2.2.2.1 27 = (.iadd, 28, 0, 0) := rfl
theorem t66_28 : (am_G 66).2.2.2.2.1 28 = (.ireturn, 29, 0, 0) := rfl
theorem t67_0 : (am_G 67).2.2.2.2.1 0 = (.aload_n 0, 1, 0, 0) := rfl
theorem t67_1 : (am_G 67).2.2.2.2.1 1 = (.getfield 9, 4, 6, 0) := rfl
theorem t67_4 : (am_G 67).2.2.2.2.1 4 = (.bipush 101, 6, 101, 0) := rfl
theorem t67_6 : (am_G 67).2.2.2.2.1 6 = (.if_icmp .ne 13, 9, 19, 0) := rfl
theorem t67_9 : (am_G 67).2.2.2.2.1 9 = (.aload_n 0, 10, 0, 0) := rfl
theorem t67_10 : (am_G 67).2.2.2.2.1 10 = (.getfield 15, 13, 6, 1) := rfl
theorem t67_13 : (am_G 67).2.2.2.2.1 13 = (.aload_n 0, 14, 0, 0) := rfl
theorem t67_14 : (am_G 67).2.2.2.2.1 14 = (.getfield 15, 17, 6, 1) := rfl
theorem t67_17 : (am_G 67).2.2.2.2.1 17 = (.imul, 18, 0, 0) := rfl
theorem t67_18 : (am_G 67).2.2.2.2.1 18 = (.ireturn, 19, 0, 0) := rfl
theorem t67_19 : (am_G 67).2.2.2.2.1 19 = (.iload_n 1, 20, 1, 0) := rfl
theorem t67_20 : (am_G 67).2.2.2.2.1 20 = (.aload_n 0, 21, 0, 0) := rfl
theorem t67_21 : (am_G 67).2.2.2.2.1 21 = (.getfield 24, 24, 6, 4) := rfl
theorem t67_24 : (am_G 67).2.2.2.2.1 24 = (.isub, 25, 0, 0) := rfl
theorem t67_25 : (am_G 67).2.2.2.2.1 25 = (.aload_n 0, 26, 0, 0) := rfl
theorem t67_26 : (am_G 67).2.2.2.2.1 26 = (.getfield 15, 29, 6, 1) := rfl
theorem t67_29 : (am_G 67).2.2.2.2.1 29 = (.if_icmp .ge 12, 32, 41, 0) := rfl
theorem t67_32 : (am_G 67).2.2.2.2.1 32 = (.iload_n 1, 33, 1, 0) := rfl
theorem t67_33 : (am_G 67).2.2.2.2.1 33 = (.aload_n 0, 34, 0, 0) := rfl
theorem t67_34 : (am_G 67).2.2.2.2.1 34 = (.getfield 24, 37, 6, 4) := rfl
theorem t67_37 : (am_G 67).2.2.2.2.1 37 = (.isub, 38, 0, 0) := rfl
theorem t67_38 : (am_G 67).2.2.2.2.1 38 = (.goto 7, 41, 45, 0) := rfl
theorem t67_41 : (am_G 67).2.2.2.2.1 41 = (.aload_n 0, 42, 0, 0) := rfl
theorem t67_42 : (am_G 67).2.2.2.2.1 42 = (.getfield 15, 45, 6, 1) := rfl
theorem t67_45 : (am_G 67).2.2.2.2.1 45 = (.istore_n 2, 46, 2, 0) := rfl
theorem t67_46 : (am_G 67).2.2.2.2.1 46 = (.aload_n 0, 47, 0, 0) := rfl
theorem t67_47 : (am_G 67).2.2.2.2.1 47 = (.getfield 9, 50, 6, 0) := rfl
theorem t67_50 : (am_G 67).2.2.2.2.1 50 = (.bipush 118, 52, 118, 0) := rfl
theorem t67_52 : (am_G 67).2.2.2.2.1 52 = (.if_icmp .ne 7, 55, 59, 0) := rfl
theorem t67_55 : (am_G 67).2.2.2.2.1 55 = (.iload_n 2, 56, 2, 0) := rfl
theorem t67_56 : (am_G 67).2.2.2.2.1 56 = (.iload_n 2, 57, 2, 0) := rfl
theorem t67_57 : (am_G 67).2.2.2.2.1 57 = (.imul, 58, 0, 0) := rfl
theorem t67_58 : (am_G 67).2.2.2.2.1 58 = (.ireturn, 59, 0, 0) := rfl
theorem t67_59 : (am_G 67).2.2.2.2.1 59 = (.aload_n 0, 60, 0, 0) := rfl
theorem t67_60 : (am_G 67).2.2.2.2.1 60 = (.getfield 15, 63, 6, 1) := rfl
theorem t67_63 : (am_G 67).2.2.2.2.1 63 = (.aload_n 0, 64, 0, 0) := rfl
theorem t67_64 : (am_G 67).2.2.2.2.1 64 = (.getfield 15, 67, 6, 1) := rfl
theorem t67_67 : (am_G 67).2.2.2.2.1 67 = (.imul, 68, 0, 0) := rfl
theorem t67_68 : (am_G 67).2.2.2.2.1 68 = (.aload_n 0, 69, 0, 0) := rfl
theorem t67_69 : (am_G 67).2.2.2.2.1 69 = (.getfield 15, 72, 6, 1) := rfl
theorem t67_72 : (am_G 67).2.2.2.2.1 72 = (.iload_n 2, 73, 2, 0) := rfl
theorem t67_73 : (am_G 67).2.2.2.2.1 73 = (.isub, 74, 0, 0) := rfl
theorem t67_74 : (am_G 67).2.2.2.2.1 74 = (.aload_n 0, 75, 0, 0) := rfl
theorem t67_75 : (am_G 67).2.2.2.2.1 75 = (.getfield 15, 78, 6, 1) := rfl
theorem t67_78 : (am_G 67).2.2.2.2.1 78 = (.iload_n 2, 79, 2, 0) := rfl
theorem t67_79 : (am_G 67).2.2.2.2.1 79 = (.isub, 80, 0, 0) := rfl
theorem t67_80 : (am_G 67).2.2.2.2.1 80 = (.imul, 81, 0, 0) := rfl
theorem t67_81 : (am_G 67).2.2.2.2.1 81 = (.isub, 82, 0, 0) := rfl
theorem t67_82 : (am_G 67).2.2.2.2.1 82 = (.ireturn, 83, 0, 0) := rfl
theorem t68_0 : (am_G 68).2.2.2.2.1 0 = (.iload_n 2, 1, 2, 0) := rfl
theorem t68_1 : (am_G 68).2.2.2.2.1 1 = (.iload_n 1, 2, 1, 0) := rfl
theorem t68_2 : (am_G 68).2.2.2.2.1 2 = (.aload_n 0, 3, 0, 0) := rfl
theorem t68_3 : (am_G 68).2.2.2.2.1 3 = (.getfield 21, 6, 6, 3) := rfl
theorem t68_6 : (am_G 68).2.2.2.2.1 6 = (.isub, 7, 0, 0) := rfl
theorem t68_7 : (am_G 68).2.2.2.2.1 7 = (.iload_n 1, 8, 1, 0) := rfl
theorem t68_8 : (am_G 68).2.2.2.2.1 8 = (.aload_n 0, 9, 0, 0) := rfl
theorem t68_9 : (am_G 68).2.2.2.2.1 9 = (.getfield 21, 12, 6, 3) := rfl
theorem t68_12 : (am_G 68).2.2.2.2.1 12 = (.isub, 13, 0, 0) := rfl
theorem t68_13 : (am_G 68).2.2.2.2.1 13 = (.imul, 14, 0, 0) := rfl
theorem t68_14 : (am_G 68).2.2.2.2.1 14 = (.isub, 15, 0, 0) := rfl
theorem t68_15 : (am_G 68).2.2.2.2.1 15 = (.istore_n 3, 16, 3, 0) := rfl
theorem t68_16 : (am_G 68).2.2.2.2.1 16 = (.iload_n 3, 17, 3, 0) := rfl
theorem t68_17 : (am_G 68).2.2.2.2.1 17 = (.ifCond .lt 11, 20, 28, 0) := rfl
theorem t68_20 : (am_G 68).2.2.2.2.1 20 = (.iload_n 3, 21, 3, 0) := rfl
theorem t68_21 : (am_G 68).2.2.2.2.1 21 = (.getstatic 27, 24, 0, 0) := rfl
theorem t68_24 : (am_G 68).2.2.2.2.1 24 = (.arraylength, 25, 0, 0) := rfl
theorem t68_25 : (am_G 68).2.2.2.2.1 25 = (.if_icmp .lt 5, 28, 30, 0) := rfl
theorem t68_28 : (am_G 68).2.2.2.2.1 28 = (.iconst 0, 29, 0, 0) := rfl
theorem t68_29 : (am_G 68).2.2.2.2.1 29 = (.ireturn, 30, 0, 0) := rfl
theorem t68_30 : (am_G 68).2.2.2.2.1 30 = (.aload_n 0, 31, 0, 0) := rfl
theorem t68_31 : (am_G 68).2.2.2.2.1 31 = (.getfield 18, 34, 6, 2) := rfl
theorem t68_34 : (am_G 68).2.2.2.2.1 34 = (.getstatic 27, 37, 0, 0) := rfl
theorem t68_37 : (am_G 68).2.2.2.2.1 37 = (.iload_n 3, 38, 3, 0) := rfl
theorem t68_38 : (am_G 68).2.2.2.2.1 38 = (.iaload, 39, 0, 0) := rfl
theorem t68_39 : (am_G 68).2.2.2.2.1 39 = (.isub, 40, 0, 0) := rfl
theorem t68_40 : (am_G 68).2.2.2.2.1 40 = (.ifCond .ge 7, 43, 47, 0) := rfl
theorem t68_43 : (am_G 68).2.2.2.2.1 43 = (.iconst 0, 44, 0, 0) := rfl
theorem t68_44 : (am_G 68).2.2.2.2.1 44 = (.goto 13, 47, 57, 0) := rfl
theorem t68_47 : (am_G 68).2.2.2.2.1 47 = (.aload_n 0, 48, 0, 0) := rfl
theorem t68_48 : (am_G 68).2.2.2.2.1 48 = (.getfield 18, 51, 6, 2) := rfl
theorem t68_51 : (am_G 68).2.2.2.2.1 51 = (.getstatic 27, 54, 0, 0) := rfl
theorem t68_54 : (am_G 68).2.2.2.2.1 54 = (.iload_n 3, 55, 3, 0) := rfl
theorem t68_55 : (am_G 68).2.2.2.2.1 55 = (.iaload, 56, 0, 0) := rfl
theorem t68_56 : (am_G 68).2.2.2.2.1 56 = (.isub, 57, 0, 0) := rfl
theorem t68_57 : (am_G 68).2.2.2.2.1 57 = (.istore 4, 59, 4, 0) := rfl
theorem t68_59 : (am_G 68).2.2.2.2.1 59 = (.aload_n 0, 60, 0, 0) := rfl
theorem t68_60 : (am_G 68).2.2.2.2.1 60 = (.getfield 18, 63, 6, 2) := rfl
theorem t68_63 : (am_G 68).2.2.2.2.1 63 = (.getstatic 27, 66, 0, 0) := rfl
theorem t68_66 : (am_G 68).2.2.2.2.1 66 = (.iload_n 3, 67, 3, 0) := rfl
theorem t68_67 : (am_G 68).2.2.2.2.1 67 = (.iaload, 68, 0, 0) := rfl
theorem t68_68 : (am_G 68).2.2.2.2.1 68 = (.iadd, 69, 0, 0) := rfl
theorem t68_69 : (am_G 68).2.2.2.2.1 69 = (.bipush 16, 71, 16, 0) := rfl
theorem t68_71 : (am_G 68).2.2.2.2.1 71 = (.if_icmp .lt 8, 74, 79, 0) := rfl
theorem t68_74 : (am_G 68).2.2.2.2.1 74 = (.bipush 15, 76, 15, 0) := rfl
theorem t68_76 : (am_G 68).2.2.2.2.1 76 = (.goto 13, 79, 89, 0) := rfl
theorem t68_79 : (am_G 68).2.2.2.2.1 79 = (.aload_n 0, 80, 0, 0) := rfl
theorem t68_80 : (am_G 68).2.2.2.2.1 80 = (.getfield 18, 83, 6, 2) := rfl
theorem t68_83 : (am_G 68).2.2.2.2.1 83 = (.getstatic 27, 86, 0, 0) := rfl
theorem t68_86 : (am_G 68).2.2.2.2.1 86 = (.iload_n 3, 87, 3, 0) := rfl
theorem t68_87 : (am_G 68).2.2.2.2.1 87 = (.iaload, 88, 0, 0) := rfl
theorem t68_88 : (am_G 68).2.2.2.2.1 88 = (.iadd, 89, 0, 0) := rfl
theorem t68_89 : (am_G 68).2.2.2.2.1 89 = (.istore 5, 91, 5, 0) := rfl
theorem t68_91 : (am_G 68).2.2.2.2.1 91 = (.iconst 1, 92, 1, 0) := rfl
theorem t68_92 : (am_G 68).2.2.2.2.1 92 = (.iload 5, 94, 5, 0) := rfl
theorem t68_94 : (am_G 68).2.2.2.2.1 94 = (.iconst 1, 95, 1, 0) := rfl
theorem t68_95 : (am_G 68).2.2.2.2.1 95 = (.iadd, 96, 0, 0) := rfl
theorem t68_96 : (am_G 68).2.2.2.2.1 96 = (.ishl, 97, 0, 0) := rfl
theorem t68_97 : (am_G 68).2.2.2.2.1 97 = (.iconst 1, 98, 1, 0) := rfl
theorem t68_98 : (am_G 68).2.2.2.2.1 98 = (.iload 4, 100, 4, 0) := rfl
theorem t68_100 : (am_G 68).2.2.2.2.1 100 = (.ishl, 101, 0, 0) := rfl
theorem t68_101 : (am_G 68).2.2.2.2.1 101 = (.isub, 102, 0, 0) := rfl
theorem t68_102 : (am_G 68).2.2.2.2.1 102 = (.ireturn, 103, 0, 0) := rfl
theorem t69_0 : (am_G 69).2.2.2.2.1 0 = (.aload_n 0, 1, 0, 0) := rfl
theorem t69_1 : (am_G 69).2.2.2.2.1 1 = (.invokespecial 3, 4, 0, 2) := rfl
theorem t69_4 : (am_G 69).2.2.2.2.1 4 = (.aload_n 0, 5, 0, 0) := rfl
theorem t69_5 : (am_G 69).2.2.2.2.1 5 = (.new 9, 8, 2, 4) := rfl
theorem t69_8 : (am_G 69).2.2.2.2.1 8 = (.dup, 9, 0, 0) := rfl
theorem t69_9 : (am_G 69).2.2.2.2.1 9 = (.invokespecial 11, 12, 40, 1) := rfl
theorem t69_12 : (am_G 69).2.2.2.2.1 12 = (.putfield 12, 15, 7, 0) := rfl
theorem t69_15 : (am_G 69).2.2.2.2.1 15 = (.aload_n 0, 16, 0, 0) := rfl
theorem t69_16 : (am_G 69).2.2.2.2.1 16 = (.new 16, 19, 1, 20) := rfl
theorem t69_19 : (am_G 69).2.2.2.2.1 19 = (.dup, 20, 0, 0) := rfl
theorem t69_20 : (am_G 69).2.2.2.2.1 20 = (.aload_n 0, 21, 0, 0) := rfl
theorem t69_21 : (am_G 69).2.2.2.2.1 21 = (.getfield 12, 24, 7, 0) := rfl
theorem t69_24 : (am_G 69).2.2.2.2.1 24 = (.invokespecial 18, 27, 10, 0) := rfl
theorem t69_27 : (am_G 69).2.2.2.2.1 27 = (.putfield 21, 30, 7, 1) := rfl
theorem t69_30 : (am_G 69).2.2.2.2.1 30 = (.aload_n 0, 31, 0, 0) := rfl
theorem t69_31 : (am_G 69).2.2.2.2.1 31 = (.new 16, 34, 1, 20) := rfl
theorem t69_34 : (am_G 69).2.2.2.2.1 34 = (.dup, 35, 0, 0) := rfl
theorem t69_35 : (am_G 69).2.2.2.2.1 35 = (.aload_n 0, 36, 0, 0) := rfl
theorem t69_36 : (am_G 69).2.2.2.2.1 36 = (.getfield 12, 39, 7, 0) := rfl
theorem t69_39 : (am_G 69).2.2.2.2.1 39 = (.invokespecial 18, 42, 10, 0) := rfl
theorem t69_42 : (am_G 69).2.2.2.2.1 42 = (.putfield 25, 45, 7, 2) := rfl
theorem t69_45 : (am_G 69).2.2.2.2.1 45 = (.aload_n 0, 46, 0, 0) := rfl
theorem t69_46 : (am_G 69).2.2.2.2.1 46 = (.bipush 45, 48, 45, 0) := rfl
theorem t69_48 : (am_G 69).2.2.2.2.1 48 = (.putfield 28, 51, 7, 3) := rfl
theorem t69_51 : (am_G 69).2.2.2.2.1 51 = (.return_, 52, 0, 0) := rfl
theorem t70_0 : (am_G 70).2.2.2.2.1 0 = (.aload_n 0, 1, 0, 0) := rfl
theorem t70_1 : (am_G 70).2.2.2.2.1 1 = (.getfield 12, 4, 7, 0) := rfl
theorem t70_4 : (am_G 70).2.2.2.2.1 4 = (.getfield 122, 7, 2, 3) := rfl
theorem t70_7 : (am_G 70).2.2.2.2.1 7 = (.invokevirtual 146, 10, 53, 4) := rfl
theorem t70_10 : (am_G 70).2.2.2.2.1 10 = (.ireturn, 11, 0, 0) := rfl
theorem t71_0 : (am_G 71).2.2.2.2.1 0 = (.aload_n 0, 1, 0, 0) := rfl
theorem t71_1 : (am_G 71).2.2.2.2.1 1 = (.getfield 21, 4, 7, 1) := rfl
theorem t71_4 : (am_G 71).2.2.2.2.1 4 = (.getfield 164, 7, 1, 9) := rfl
theorem t71_7 : (am_G 71).2.2.2.2.1 7 = (.istore_n 1, 8, 1, 0) := rfl
theorem t71_8 : (am_G 71).2.2.2.2.1 8 = (.aload_n 0, 9, 0, 0) := rfl
theorem t71_9 : (am_G 71).2.2.2.2.1 9 = (.invokevirtual 81, 12, 83, 7) := rfl
theorem t71_12 : (am_G 71).2.2.2.2.1 12 = (.iload_n 1, 13, 1, 0) := rfl
theorem t71_13 : (am_G 71).2.2.2.2.1 13 = (.ireturn, 14, 0, 0) := rfl
theorem t72_0 : (am_G 72).2.2.2.2.1 0 = (.aload_n 0, 1, 0, 0) := rfl
theorem t72_1 : (am_G 72).2.2.2.2.1 1 = (.getfield 28, 4, 7, 3) := rfl
theorem t72_4 : (am_G 72).2.2.2.2.1 4 = (.ireturn, 5, 0, 0) := rfl
theorem t73_0 : (am_G 73).2.2.2.2.1 0 = (.aload_n 0, 1, 0, 0) := rfl
theorem t73_1 : (am_G 73).2.2.2.2.1 1 = (.getfield 21, 4, 7, 1) := rfl
theorem t73_4 : (am_G 73).2.2.2.2.1 4 = (.invokevirtual 154, 7, 12, 1) := rfl
theorem t73_7 : (am_G 73).2.2.2.2.1 7 = (.ireturn, 8, 0, 0) := rfl
theorem t74_0 : (am_G 74).2.2.2.2.1 0 = (.aload_n 0, 1, 0, 0) := rfl
theorem t74_1 : (am_G 74).2.2.2.2.1 1 = (.getfield 21, 4, 7, 1) := rfl
theorem t74_4 : (am_G 74).2.2.2.2.1 4 = (.getfield 167, 7, 1, 8) := rfl
theorem t74_7 : (am_G 74).2.2.2.2.1 7 = (.ireturn, 8, 0, 0) := rfl
theorem t75_0 : (am_G 75).2.2.2.2.1 0 = (.aload_n 0, 1, 0, 0) := rfl
theorem t75_1 : (am_G 75).2.2.2.2.1 1 = (.getfield 21, 4, 7, 1) := rfl
theorem t75_4 : (am_G 75).2.2.2.2.1 4 = (.getfield 164, 7, 1, 9) := rfl
theorem t75_7 : (am_G 75).2.2.2.2.1 7 = (.ireturn, 8, 0, 0) := rfl
theorem t76_0 : (am_G 76).2.2.2.2.1 0 = (.aload_n 0, 1, 0, 0) := rfl
theorem t76_1 : (am_G 76).2.2.2.2.1 1 = (.getfield 21, 4, 7, 1) := rfl
theorem t76_4 : (am_G 76).2.2.2.2.1 4 = (.getfield 180, 7, 1, 10) := rfl
theorem t76_7 : (am_G 76).2.2.2.2.1 7 = (.ireturn, 8, 0, 0) := rfl
theorem t77_0 : (am_G 77).2.2.2.2.1 0 = (.aload_n 0, 1, 0, 0) := rfl
theorem t77_1 : (am_G 77).2.2.2.2.1 1 = (.getfield 21, 4, 7, 1) := rfl
theorem t77_4 : (am_G 77).2.2.2.2.1 4 = (.getfield 194, 7, 1, 1) := rfl
theorem t77_7 : (am_G 77).2.2.2.2.1 7 = (.invokevirtual 201, 10, 4, 0) := rfl
theorem t77_10 : (am_G 77).2.2.2.2.1 10 = (.ireturn, 11, 0, 0) := rfl
theorem t78_0 : (am_G 78).2.2.2.2.1 0 = (.aload_n 0, 1, 0, 0) := rfl
theorem t78_1 : (am_G 78).2.2.2.2.1 1 = (.getfield 21, 4, 7, 1) := rfl
theorem t78_4 : (am_G 78).2.2.2.2.1 4 = (.getfield 194, 7, 1, 1) := rfl
theorem t78_7 : (am_G 78).2.2.2.2.1 7 = (.invokevirtual 204, 10, 5, 0) := rfl
theorem t78_10 : (am_G 78).2.2.2.2.1 10 = (.lreturn, 11, 0, 0) := rfl
theorem t79_0 : (am_G 79).2.2.2.2.1 0 = (.aload_n 0, 1, 0, 0) := rfl
theorem t79_1 : (am_G 79).2.2.2.2.1 1 = (.getfield 21, 4, 7, 1) := rfl
theorem t79_4 : (am_G 79).2.2.2.2.1 4 = (.getfield 208, 7, 1, 11) := rfl
theorem t79_7 : (am_G 79).2.2.2.2.1 7 = (.freturn, 8, 0, 0) := rfl
theorem t80_0 : (am_G 80).2.2.2.2.1 0 = (.aload_n 0, 1, 0, 0) := rfl
theorem t80_1 : (am_G 80).2.2.2.2.1 1 = (.getfield 21, 4, 7, 1) := rfl
theorem t80_4 : (am_G 80).2.2.2.2.1 4 = (.getfield 208, 7, 1, 11) := rfl
theorem t80_7 : (am_G 80).2.2.2.2.1 7 = (.invokestatic 212, 10, 94, 0) := rfl
theorem t80_10 : (am_G 80).2.2.2.2.1 10 = (.ireturn, 11, 0, 0) := rfl
theorem t81_0 : (am_G 81).2.2.2.2.1 0 = (.aload_n 0, 1, 0, 0) := rfl
theorem t81_1 : (am_G 81).2.2.2.2.1 1 = (.getfield 21, 4, 7, 1) := rfl
theorem t81_4 : (am_G 81).2.2.2.2.1 4 = (.getfield 194, 7, 1, 1) := rfl
theorem t81_7 : (am_G 81).2.2.2.2.1 7 = (.invokevirtual 201, 10, 4, 0) := rfl
theorem t81_10 : (am_G 81).2.2.2.2.1 10 = (.istore_n 1, 11, 1, 0) := rfl
theorem t81_11 : (am_G 81).2.2.2.2.1 11 = (.sipush 1152, 14, 1152, 0) := rfl
theorem t81_14 : (am_G 81).2.2.2.2.1 14 = (.iload_n 1, 15, 1, 0) := rfl
theorem t81_15 : (am_G 81).2.2.2.2.1 15 = (.isub, 16, 0, 0) := rfl
theorem t81_16 : (am_G 81).2.2.2.2.1 16 = (.istore_n 2, 17, 2, 0) := rfl
theorem t81_17 : (am_G 81).2.2.2.2.1 17 = (.iload_n 2, 18, 2, 0) := rfl
theorem t81_18 : (am_G 81).2.2.2.2.1 18 = (.i2f, 19, 0, 0) := rfl
theorem t81_19 : (am_G 81).2.2.2.2.1 19 = (.ldc 224, 21, 1150287872, 1) := rfl
theorem t81_21 : (am_G 81).2.2.2.2.1 21 = (.fdiv, 22, 0, 0) := rfl
theorem t81_22 : (am_G 81).2.2.2.2.1 22 = (.fstore_n 3, 23, 3, 0) := rfl
theorem t81_23 : (am_G 81).2.2.2.2.1 23 = (.iload_n 1, 24, 1, 0) := rfl
theorem t81_24 : (am_G 81).2.2.2.2.1 24 = (.iload_n 2, 25, 2, 0) := rfl
theorem t81_25 : (am_G 81).2.2.2.2.1 25 = (.isub, 26, 0, 0) := rfl
theorem t81_26 : (am_G 81).2.2.2.2.1 26 = (.ifCond .ge 8, 29, 34, 0) := rfl
theorem t81_29 : (am_G 81).2.2.2.2.1 29 = (.fload_n 3, 30, 3, 0) := rfl
theorem t81_30 : (am_G 81).2.2.2.2.1 30 = (.fneg, 31, 0, 0) := rfl
theorem t81_31 : (am_G 81).2.2.2.2.1 31 = (.goto 4, 34, 35, 0) := rfl
theorem t81_34 : (am_G 81).2.2.2.2.1 34 = (.fload_n 3, 35, 3, 0) := rfl
theorem t81_35 : (am_G 81).2.2.2.2.1 35 = (.freturn, 36, 0, 0) := rfl
theorem t82_0 : (am_G 82).2.2.2.2.1 0 = (.aload_n 0, 1, 0, 0) := rfl
theorem t82_1 : (am_G 82).2.2.2.2.1 1 = (.getfield 25, 4, 7, 2) := rfl
theorem t82_4 : (am_G 82).2.2.2.2.1 4 = (.aload_n 0, 5, 0, 0) := rfl
theorem t82_5 : (am_G 82).2.2.2.2.1 5 = (.getfield 21, 8, 7, 1) := rfl
theorem t82_8 : (am_G 82).2.2.2.2.1 8 = (.getfield 164, 11, 1, 9) := rfl
theorem t82_11 : (am_G 82).2.2.2.2.1 11 = (.invokevirtual 197, 14, 15, 1) := rfl
theorem t82_14 : (am_G 82).2.2.2.2.1 14 = (.aload_n 0, 15, 0, 0) := rfl
theorem t82_15 : (am_G 82).2.2.2.2.1 15 = (.getfield 21, 18, 7, 1) := rfl
theorem t82_18 : (am_G 82).2.2.2.2.1 18 = (.getfield 194, 21, 1, 1) := rfl
theorem t82_21 : (am_G 82).2.2.2.2.1 21 = (.aload_n 0, 22, 0, 0) := rfl
theorem t82_22 : (am_G 82).2.2.2.2.1 22 = (.getfield 25, 25, 7, 2) := rfl
theorem t82_25 : (am_G 82).2.2.2.2.1 25 = (.getfield 194, 28, 1, 1) := rfl
theorem t82_28 : (am_G 82).2.2.2.2.1 28 = (.invokevirtual 225, 31, 6, 0) := rfl
theorem t82_31 : (am_G 82).2.2.2.2.1 31 = (.ifCond .eq 69, 34, 100, 0) := rfl
theorem t82_34 : (am_G 82).2.2.2.2.1 34 = (.aload_n 0, 35, 0, 0) := rfl
theorem t82_35 : (am_G 82).2.2.2.2.1 35 = (.getfield 21, 38, 7, 1) := rfl
theorem t82_38 : (am_G 82).2.2.2.2.1 38 = (.getfield 208, 41, 1, 11) := rfl
theorem t82_41 : (am_G 82).2.2.2.2.1 41 = (.aload_n 0, 42, 0, 0) := rfl
theorem t82_42 : (am_G 82).2.2.2.2.1 42 = (.getfield 25, 45, 7, 2) := rfl
theorem t82_45 : (am_G 82).2.2.2.2.1 45 = (.getfield 208, 48, 1, 11) := rfl
theorem t82_48 : (am_G 82).2.2.2.2.1 48 = (.fcmp .l, 49, 0, 0) := rfl
theorem t82_49 : (am_G 82).2.2.2.2.1 49 = (.ifCond .ne 51, 52, 100, 0) := rfl
theorem t82_52 : (am_G 82).2.2.2.2.1 52 = (.aload_n 0, 53, 0, 0) := rfl
theorem t82_53 : (am_G 82).2.2.2.2.1 53 = (.getfield 21, 56, 7, 1) := rfl
theorem t82_56 : (am_G 82).2.2.2.2.1 56 = (.invokevirtual 221, 59, 14, 1) := rfl
theorem t82_59 : (am_G 82).2.2.2.2.1 59 = (.sipush 1152, 62, 1152, 0) := rfl
theorem t82_62 : (am_G 82).2.2.2.2.1 62 = (.aload_n 0, 63, 0, 0) := rfl
theorem t82_63 : (am_G 82).2.2.2.2.1 63 = (.getfield 21, 66, 7, 1) := rfl
theorem t82_66 : (am_G 82).2.2.2.2.1 66 = (.getfield 194, 69, 1, 1) := rfl
theorem t82_69 : (am_G 82).2.2.2.2.1 69 = (.invokevirtual 201, 72, 4, 0) := rfl
theorem t82_72 : (am_G 82).2.2.2.2.1 72 = (.isub, 73, 0, 0) := rfl
theorem t82_73 : (am_G 82).2.2.2.2.1 73 = (.if_icmp .ne 27, 76, 100, 0) := rfl
theorem t82_76 : (am_G 82).2.2.2.2.1 76 = (.aload_n 0, 77, 0, 0) := rfl
theorem t82_77 : (am_G 82).2.2.2.2.1 77 = (.getfield 21, 80, 7, 1) := rfl
theorem t82_80 : (am_G 82).2.2.2.2.1 80 = (.getfield 194, 83, 1, 1) := rfl
theorem t82_83 : (am_G 82).2.2.2.2.1 83 = (.aload_n 0, 84, 0, 0) := rfl
theorem t82_84 : (am_G 82).2.2.2.2.1 84 = (.getfield 12, 87, 7, 0) := rfl
theorem t82_87 : (am_G 82).2.2.2.2.1 87 = (.getfield 91, 90, 2, 1) := rfl
theorem t82_90 : (am_G 82).2.2.2.2.1 90 = (.invokevirtual 229, 93, 7, 0) := rfl
theorem t82_93 : (am_G 82).2.2.2.2.1 93 = (.ifCond .eq 7, 96, 100, 0) := rfl
theorem t82_96 : (am_G 82).2.2.2.2.1 96 = (.iconst 1, 97, 1, 0) := rfl
theorem t82_97 : (am_G 82).2.2.2.2.1 97 = (.goto 4, 100, 101, 0) := rfl
theorem t82_100 : (am_G 82).2.2.2.2.1 100 = (.iconst 0, 101, 0, 0) := rfl
theorem t82_101 : (am_G 82).2.2.2.2.1 101 = (.ireturn, 102, 0, 0) := rfl
theorem t83_0 : (am_G 83).2.2.2.2.1 0 = (.aload_n 0, 1, 0, 0) := rfl
theorem t83_1 : (am_G 83).2.2.2.2.1 1 = (.getfield 21, 4, 7, 1) := rfl
theorem t83_4 : (am_G 83).2.2.2.2.1 4 = (.invokevirtual 232, 7, 11, 1) := rfl
theorem t83_7 : (am_G 83).2.2.2.2.1 7 = (.aload_n 0, 8, 0, 0) := rfl
theorem t83_8 : (am_G 83).2.2.2.2.1 8 = (.bipush 45, 10, 45, 0) := rfl
theorem t83_10 : (am_G 83).2.2.2.2.1 10 = (.putfield 28, 13, 7, 3) := rfl
theorem t83_13 : (am_G 83).2.2.2.2.1 13 = (.return_, 14, 0, 0) := rfl
theorem t84_0 : (am_G 84).2.2.2.2.1 0 = (.iload_n 0, 1, 0, 0) := rfl
theorem t84_1 : (am_G 84).2.2.2.2.1 1 = (.iload_n 1, 2, 1, 0) := rfl
theorem t84_2 : (am_G 84).2.2.2.2.1 2 = (.if_icmp .lt 12, 5, 14, 0) := rfl
theorem t84_5 : (am_G 84).2.2.2.2.1 5 = (.iload_n 0, 6, 0, 0) := rfl
theorem t84_6 : (am_G 84).2.2.2.2.1 6 = (.iload_n 2, 7, 2, 0) := rfl
theorem t84_7 : (am_G 84).2.2.2.2.1 7 = (.if_icmp .gt 7, 10, 14, 0) := rfl
theorem t84_10 : (am_G 84).2.2.2.2.1 10 = (.iconst 1, 11, 1, 0) := rfl
theorem t84_11 : (am_G 84).2.2.2.2.1 11 = (.goto 4, 14, 15, 0) := rfl
theorem t84_14 : (am_G 84).2.2.2.2.1 14 = (.iconst 0, 15, 0, 0) := rfl
theorem t84_15 : (am_G 84).2.2.2.2.1 15 = (.ireturn, 16, 0, 0) := rfl
theorem t85_0 : (am_G 85).2.2.2.2.1 0 = (.iload_n 0, 1, 0, 0) := rfl
theorem t85_1 : (am_G 85).2.2.2.2.1 1 = (.iconst 0, 2, 0, 0) := rfl
theorem t85_2 : (am_G 85).2.2.2.2.1 2 = (.bipush 15, 4, 15, 0) := rfl
theorem t85_4 : (am_G 85).2.2.2.2.1 4 = (.invokestatic 52, 7, 84, 0) := rfl
theorem t85_7 : (am_G 85).2.2.2.2.1 7 = (.ifCond .eq 26, 10, 33, 0) := rfl
theorem t85_10 : (am_G 85).2.2.2.2.1 10 = (.iload_n 1, 11, 1, 0) := rfl
theorem t85_11 : (am_G 85).2.2.2.2.1 11 = (.iconst 0, 12, 0, 0) := rfl
theorem t85_12 : (am_G 85).2.2.2.2.1 12 = (.bipush 11, 14, 11, 0) := rfl
theorem t85_14 : (am_G 85).2.2.2.2.1 14 = (.invokestatic 52, 17, 84, 0) := rfl
theorem t85_17 : (am_G 85).2.2.2.2.1 17 = (.ifCond .eq 16, 20, 33, 0) := rfl
theorem t85_20 : (am_G 85).2.2.2.2.1 20 = (.iload_n 2, 21, 2, 0) := rfl
theorem t85_21 : (am_G 85).2.2.2.2.1 21 = (.iconst 0, 22, 0, 0) := rfl
theorem t85_22 : (am_G 85).2.2.2.2.1 22 = (.iconst 5, 23, 5, 0) := rfl
theorem t85_23 : (am_G 85).2.2.2.2.1 23 = (.invokestatic 52, 26, 84, 0) := rfl
theorem t85_26 : (am_G 85).2.2.2.2.1 26 = (.ifCond .eq 7, 29, 33, 0) := rfl
theorem t85_29 : (am_G 85).2.2.2.2.1 29 = (.iconst 1, 30, 1, 0) := rfl
theorem t85_30 : (am_G 85).2.2.2.2.1 30 = (.goto 4, 33, 34, 0) := rfl
theorem t85_33 : (am_G 85).2.2.2.2.1 33 = (.iconst 0, 34, 0, 0) := rfl
theorem t85_34 : (am_G 85).2.2.2.2.1 34 = (.ireturn, 35, 0, 0) := rfl
theorem t86_0 : (am_G 86).2.2.2.2.1 0 = (.iload_n 0, 1, 0, 0) := rfl
theorem t86_1 : (am_G 86).2.2.2.2.1 1 = (.iconst 0, 2, 0, 0) := rfl
theorem t86_2 : (am_G 86).2.2.2.2.1 2 = (.bipush 15, 4, 15, 0) := rfl
theorem t86_4 : (am_G 86).2.2.2.2.1 4 = (.invokestatic 52, 7, 84, 0) := rfl
theorem t86_7 : (am_G 86).2.2.2.2.1 7 = (.ifCond .eq 27, 10, 34, 0) := rfl
theorem t86_10 : (am_G 86).2.2.2.2.1 10 = (.iload_n 1, 11, 1, 0) := rfl
theorem t86_11 : (am_G 86).2.2.2.2.1 11 = (.iconst 0, 12, 0, 0) := rfl
theorem t86_12 : (am_G 86).2.2.2.2.1 12 = (.bipush 11, 14, 11, 0) := rfl
theorem t86_14 : (am_G 86).2.2.2.2.1 14 = (.invokestatic 52, 17, 84, 0) := rfl
theorem t86_17 : (am_G 86).2.2.2.2.1 17 = (.ifCond .eq 17, 20, 34, 0) := rfl
theorem t86_20 : (am_G 86).2.2.2.2.1 20 = (.iload_n 2, 21, 2, 0) := rfl
theorem t86_21 : (am_G 86).2.2.2.2.1 21 = (.iconst 0, 22, 0, 0) := rfl
theorem t86_22 : (am_G 86).2.2.2.2.1 22 = (.bipush 9, 24, 9, 0) := rfl
theorem t86_24 : (am_G 86).2.2.2.2.1 24 = (.invokestatic 52, 27, 84, 0) := rfl
theorem t86_27 : (am_G 86).2.2.2.2.1 27 = (.ifCond .eq 7, 30, 34, 0) := rfl
theorem t86_30 : (am_G 86).2.2.2.2.1 30 = (.iconst 1, 31, 1, 0) := rfl
theorem t86_31 : (am_G 86).2.2.2.2.1 31 = (.goto 4, 34, 35, 0) := rfl
theorem t86_34 : (am_G 86).2.2.2.2.1 34 = (.iconst 0, 35, 0, 0) := rfl
theorem t86_35 : (am_G 86).2.2.2.2.1 35 = (.ireturn, 36, 0, 0) := rfl
theorem t87_0 : (am_G 87).2.2.2.2.1 0 = (.iload_n 0, 1, 0, 0) := rfl
theorem t87_1 : (am_G 87).2.2.2.2.1 1 = (.iconst 0, 2, 0, 0) := rfl
theorem t87_2 : (am_G 87).2.2.2.2.1 2 = (.iconst 2, 3, 2, 0) := rfl
theorem t87_3 : (am_G 87).2.2.2.2.1 3 = (.invokestatic 52, 6, 84, 0) := rfl
theorem t87_6 : (am_G 87).2.2.2.2.1 6 = (.ifCond .eq 16, 9, 22, 0) := rfl
theorem t87_9 : (am_G 87).2.2.2.2.1 9 = (.iload_n 1, 10, 1, 0) := rfl
theorem t87_10 : (am_G 87).2.2.2.2.1 10 = (.iconst 0, 11, 0, 0) := rfl
theorem t87_11 : (am_G 87).2.2.2.2.1 11 = (.iconst 3, 12, 3, 0) := rfl
theorem t87_12 : (am_G 87).2.2.2.2.1 12 = (.invokestatic 52, 15, 84, 0) := rfl
theorem t87_15 : (am_G 87).2.2.2.2.1 15 = (.ifCond .eq 7, 18, 22, 0) := rfl
theorem t87_18 : (am_G 87).2.2.2.2.1 18 = (.iconst 1, 19, 1, 0) := rfl
theorem t87_19 : (am_G 87).2.2.2.2.1 19 = (.goto 4, 22, 23, 0) := rfl
theorem t87_22 : (am_G 87).2.2.2.2.1 22 = (.iconst 0, 23, 0, 0) := rfl
theorem t87_23 : (am_G 87).2.2.2.2.1 23 = (.ireturn, 24, 0, 0) := rfl
theorem t88_0 : (am_G 88).2.2.2.2.1 0 = (.iconst 4, 1, 4, 0) := rfl
theorem t88_1 : (am_G 88).2.2.2.2.1 1 = (.iload_n 0, 2, 0, 0) := rfl
theorem t88_2 : (am_G 88).2.2.2.2.1 2 = (.imul, 3, 0, 0) := rfl
theorem t88_3 : (am_G 88).2.2.2.2.1 3 = (.iload_n 1, 4, 1, 0) := rfl
theorem t88_4 : (am_G 88).2.2.2.2.1 4 = (.iadd, 5, 0, 0) := rfl
theorem t88_5 : (am_G 88).2.2.2.2.1 5 = (.ireturn, 6, 0, 0) := rfl
theorem t89_0 : (am_G 89).2.2.2.2.1 0 = (.iload_n 0, 1, 0, 0) := rfl
theorem t89_1 : (am_G 89).2.2.2.2.1 1 = (.bipush 101, 3, 101, 0) := rfl
theorem t89_3 : (am_G 89).2.2.2.2.1 3 = (.if_icmp .eq 15, 6, 18, 0) := rfl
theorem t89_6 : (am_G 89).2.2.2.2.1 6 = (.iload_n 0, 7, 0, 0) := rfl
theorem t89_7 : (am_G 89).2.2.2.2.1 7 = (.bipush 98, 9, 98, 0) := rfl
theorem t89_9 : (am_G 89).2.2.2.2.1 9 = (.if_icmp .eq 9, 12, 18, 0) := rfl
theorem t89_12 : (am_G 89).2.2.2.2.1 12 = (.iload_n 0, 13, 0, 0) := rfl
theorem t89_13 : (am_G 89).2.2.2.2.1 13 = (.bipush 118, 15, 118, 0) := rfl
theorem t89_15 : (am_G 89).2.2.2.2.1 15 = (.if_icmp .ne 7, 18, 22, 0) := rfl
theorem t89_18 : (am_G 89).2.2.2.2.1 18 = (.iconst 1, 19, 1, 0) := rfl
theorem t89_19 : (am_G 89).2.2.2.2.1 19 = (.goto 4, 22, 23, 0) := rfl
theorem t89_22 : (am_G 89).2.2.2.2.1 22 = (.iconst 0, 23, 0, 0) := rfl
theorem t89_23 : (am_G 89).2.2.2.2.1 23 = (.ireturn, 24, 0, 0) := rfl
theorem t90_0 : (am_G 90).2.2.2.2.1 0 = (.iload_n 0, 1, 0, 0) := rfl
theorem t90_1 : (am_G 90).2.2.2.2.1 1 = (.ifCond .ne 15, 4, 16, 0) := rfl
theorem t90_4 : (am_G 90).2.2.2.2.1 4 = (.iload_n 1, 5, 1, 0) := rfl
theorem t90_5 : (am_G 90).2.2.2.2.1 5 = (.bipush 101, 7, 101, 0) := rfl
theorem t90_7 : (am_G 90).2.2.2.2.1 7 = (.if_icmp .ne 7, 10, 14, 0) := rfl
theorem t90_10 : (am_G 90).2.2.2.2.1 10 = (.iconst 1, 11, 1, 0) := rfl
theorem t90_11 : (am_G 90).2.2.2.2.1 11 = (.goto 4, 14, 15, 0) := rfl
theorem t90_14 : (am_G 90).2.2.2.2.1 14 = (.iconst 0, 15, 0, 0) := rfl
theorem t90_15 : (am_G 90).2.2.2.2.1 15 = (.ireturn, 16, 0, 0) := rfl
theorem t90_16 : (am_G 90).2.2.2.2.1 16 = (.iload_n 0, 17, 0, 0) := rfl
theorem t90_17 : (am_G 90).2.2.2.2.1 17 = (.iconst 1, 18, 1, 0) := rfl
theorem t90_18 : (am_G 90).2.2.2.2.1 18 = (.if_icmp .ne 9, 21, 27, 0) := rfl
theorem t90_21 : (am_G 90).2.2.2.2.1 21 = (.iload_n 1, 22, 1, 0) := rfl
theorem t90_22 : (am_G 90).2.2.2.2.1 22 = (.bipush 98, 24, 98, 0) := rfl
theorem t90_24 : (am_G 90).2.2.2.2.1 24 = (.if_icmp .ne 7, 27, 31, 0) := rfl
theorem t90_27 : (am_G 90).2.2.2.2.1 27 = (.iconst 1, 28, 1, 0) := rfl
theorem t90_28 : (am_G 90).2.2.2.2.1 28 = (.goto 4, 31, 32, 0) := rfl
theorem t90_31 : (am_G 90).2.2.2.2.1 31 = (.iconst 0, 32, 0, 0) := rfl
theorem t90_32 : (am_G 90).2.2.2.2.1 32 = (.ireturn, 33, 0, 0) := rfl
theorem t91_0 : (am_G 91).2.2.2.2.1 0 = (.iload_n 0, 1, 0, 0) := rfl
theorem t91_1 : (am_G 91).2.2.2.2.1 1 = (.bipush (-15), 3, 4294967281, 0) := rfl
theorem t91_3 : (am_G 91).2.2.2.2.1 3 = (.bipush 15, 5, 15, 0) := rfl
theorem t91_5 : (am_G 91).2.2.2.2.1 5 = (.invokestatic 52, 8, 84, 0) := rfl
theorem t91_8 : (am_G 91).2.2.2.2.1 8 = (.ireturn, 9, 0, 0) := rfl
theorem t92_0 : (am_G 92).2.2.2.2.1 0 = (.iconst 0, 1, 0, 0) := rfl
theorem t92_1 : (am_G 92).2.2.2.2.1 1 = (.istore_n 1, 2, 1, 0) := rfl
theorem t92_2 : (am_G 92).2.2.2.2.1 2 = (.iload_n 1, 3, 1, 0) := rfl
theorem t92_3 : (am_G 92).2.2.2.2.1 3 = (.getstatic 240, 6, 1, 0) := rfl
theorem t92_6 : (am_G 92).2.2.2.2.1 6 = (.arraylength, 7, 0, 0) := rfl
theorem t92_7 : (am_G 92).2.2.2.2.1 7 = (.if_icmp .ge 20, 10, 27, 0) := rfl
theorem t92_10 : (am_G 92).2.2.2.2.1 10 = (.getstatic 240, 13, 1, 0) := rfl
theorem t92_13 : (am_G 92).2.2.2.2.1 13 = (.iload_n 1, 14, 1, 0) := rfl
theorem t92_14 : (am_G 92).2.2.2.2.1 14 = (.caload, 15, 0, 0) := rfl
theorem t92_15 : (am_G 92).2.2.2.2.1 15 = (.iload_n 0, 16, 0, 0) := rfl
theorem t92_16 : (am_G 92).2.2.2.2.1 16 = (.if_icmp .ne 5, 19, 21, 0) := rfl
theorem t92_19 : (am_G 92).2.2.2.2.1 19 = (.iconst 1, 20, 1, 0) := rfl
theorem t92_20 : (am_G 92).2.2.2.2.1 20 = (.ireturn, 21, 0, 0) := rfl
theorem t92_21 : (am_G 92).2.2.2.2.1 21 = (.iinc 1 1, 24, 1, 1) := rfl
theorem t92_24 : (am_G 92).2.2.2.2.1 24 = (.goto (-22), 27, 2, 0) := rfl
theorem t92_27 : (am_G 92).2.2.2.2.1 27 = (.iconst 0, 28, 0, 0) := rfl
theorem t92_28 : (am_G 92).2.2.2.2.1 28 = (.ireturn, 29, 0, 0) := rfl
theorem t93_0 : (am_G 93).2.2.2.2.1 0 = (.iload_n 0, 1, 0, 0) := rfl
theorem t93_1 : (am_G 93).2.2.2.2.1 1 = (.bipush (-50), 3, 4294967246, 0) := rfl
theorem t93_3 : (am_G 93).2.2.2.2.1 3 = (.bipush 50, 5, 50, 0) := rfl
theorem t93_5 : (am_G 93).2.2.2.2.1 5 = (.invokestatic 52, 8, 84, 0) := rfl
theorem t93_8 : (am_G 93).2.2.2.2.1 8 = (.ifCond .ne 14, 11, 22, 0) := rfl
theorem t93_11 : (am_G 93).2.2.2.2.1 11 = (.iload_n 0, 12, 0, 0) := rfl
theorem t93_12 : (am_G 93).2.2.2.2.1 12 = (.bipush 100, 14, 100, 0) := rfl
theorem t93_14 : (am_G 93).2.2.2.2.1 14 = (.bipush 107, 16, 107, 0) := rfl
theorem t93_16 : (am_G 93).2.2.2.2.1 16 = (.invokestatic 52, 19, 84, 0) := rfl
theorem t93_19 : (am_G 93).2.2.2.2.1 19 = (.ifCond .eq 7, 22, 26, 0) := rfl
theorem t93_22 : (am_G 93).2.2.2.2.1 22 = (.iconst 1, 23, 1, 0) := rfl
theorem t93_23 : (am_G 93).2.2.2.2.1 23 = (.goto 4, 26, 27, 0) := rfl
theorem t93_26 : (am_G 93).2.2.2.2.1 26 = (.iconst 0, 27, 0, 0) := rfl
theorem t93_27 : (am_G 93).2.2.2.2.1 27 = (.ireturn, 28, 0, 0) := rfl
theorem t94_0 : (am_G 94).2.2.2.2.1 0 = (.fload_n 0, 1, 0, 0) := rfl
theorem t94_1 : (am_G 94).2.2.2.2.1 1 = (.fconst 0, 2, 0, 0) := rfl
theorem t94_2 : (am_G 94).2.2.2.2.1 2 = (.fcmp .g, 3, 0, 0) := rfl
theorem t94_3 : (am_G 94).2.2.2.2.1 3 = (.ifCond .gt 5, 6, 8, 0) := rfl
theorem t94_6 : (am_G 94).2.2.2.2.1 6 = (.iconst 0, 7, 0, 0) := rfl
theorem t94_7 : (am_G 94).2.2.2.2.1 7 = (.ireturn, 8, 0, 0) := rfl
theorem t94_8 : (am_G 94).2.2.2.2.1 8 = (.fload_n 0, 9, 0, 0) := rfl
theorem t94_9 : (am_G 94).2.2.2.2.1 9 = (.fstore_n 1, 10, 1, 0) := rfl
theorem t94_10 : (am_G 94).2.2.2.2.1 10 = (.bipush 127, 12, 127, 0) := rfl
theorem t94_12 : (am_G 94).2.2.2.2.1 12 = (.istore_n 2, 13, 2, 0) := rfl
theorem t94_13 : (am_G 94).2.2.2.2.1 13 = (.iconst 0, 14, 0, 0) := rfl
theorem t94_14 : (am_G 94).2.2.2.2.1 14 = (.istore_n 3, 15, 3, 0) := rfl
theorem t94_15 : (am_G 94).2.2.2.2.1 15 = (.iload_n 3, 16, 3, 0) := rfl
theorem t94_16 : (am_G 94).2.2.2.2.1 16 = (.bipush 127, 18, 127, 0) := rfl
theorem t94_18 : (am_G 94).2.2.2.2.1 18 = (.if_icmp .ge 22, 21, 40, 0) := rfl
theorem t94_21 : (am_G 94).2.2.2.2.1 21 = (.fload_n 1, 22, 1, 0) := rfl
theorem t94_22 : (am_G 94).2.2.2.2.1 22 = (.fconst 2, 23, 0, 0) := rfl
theorem t94_23 : (am_G 94).2.2.2.2.1 23 = (.fcmp .l, 24, 0, 0) := rfl
theorem t94_24 : (am_G 94).2.2.2.2.1 24 = (.ifCond .lt 16, 27, 40, 0) := rfl
theorem t94_27 : (am_G 94).2.2.2.2.1 27 = (.fload_n 1, 28, 1, 0) := rfl
theorem t94_28 : (am_G 94).2.2.2.2.1 28 = (.fconst 2, 29, 0, 0) := rfl
theorem t94_29 : (am_G 94).2.2.2.2.1 29 = (.fdiv, 30, 0, 0) := rfl
theorem t94_30 : (am_G 94).2.2.2.2.1 30 = (.fstore_n 1, 31, 1, 0) := rfl
theorem t94_31 : (am_G 94).2.2.2.2.1 31 = (.iinc 2 1, 34, 2, 1) := rfl
theorem t94_34 : (am_G 94).2.2.2.2.1 34 = (.iinc 3 1, 37, 3, 1) := rfl
theorem t94_37 : (am_G 94).2.2.2.2.1 37 = (.goto (-22), 40, 15, 0) := rfl
theorem t94_40 : (am_G 94).2.2.2.2.1 40 = (.iconst 0, 41, 0, 0) := rfl
theorem t94_41 : (am_G 94).2.2.2.2.1 41 = (.istore_n 3, 42, 3, 0) := rfl
theorem t94_42 : (am_G 94).2.2.2.2.1 42 = (.iload_n 3, 43, 3, 0) := rfl
theorem t94_43 : (am_G 94).2.2.2.2.1 43 = (.bipush 126, 45, 126, 0) := rfl
theorem t94_45 : (am_G 94).2.2.2.2.1 45 = (.if_icmp .ge 22, 48, 67, 0) := rfl
theorem t94_48 : (am_G 94).2.2.2.2.1 48 = (.fload_n 1, 49, 1, 0) := rfl
theorem t94_49 : (am_G 94).2.2.2.2.1 49 = (.fconst 1, 50, 0, 0) := rfl
theorem t94_50 : (am_G 94).2.2.2.2.1 50 = (.fcmp .g, 51, 0, 0) := rfl
theorem t94_51 : (am_G 94).2.2.2.2.1 51 = (.ifCond .ge 16, 54, 67, 0) := rfl
theorem t94_54 : (am_G 94).2.2.2.2.1 54 = (.fload_n 1, 55, 1, 0) := rfl
theorem t94_55 : (am_G 94).2.2.2.2.1 55 = (.fconst 2, 56, 0, 0) := rfl
theorem t94_56 : (am_G 94).2.2.2.2.1 56 = (.fmul, 57, 0, 0) := rfl
theorem t94_57 : (am_G 94).2.2.2.2.1 57 = (.fstore_n 1, 58, 1, 0) := rfl
theorem t94_58 : (am_G 94).2.2.2.2.1 58 = (.iinc 2 (-1), 61, 2, 4294967295) := rfl
theorem t94_61 : (am_G 94).2.2.2.2.1 61 = (.iinc 3 1, 64, 3, 1) := rfl
theorem t94_64 : (am_G 94).2.2.2.2.1 64 = (.goto (-22), 67, 42, 0) := rfl
theorem t94_67 : (am_G 94).2.2.2.2.1 67 = (.iload_n 2, 68, 2, 0) := rfl
theorem t94_68 : (am_G 94).2.2.2.2.1 68 = (.bipush 23, 70, 23, 0) := rfl
theorem t94_70 : (am_G 94).2.2.2.2.1 70 = (.ishl, 71, 0, 0) := rfl
theorem t94_71 : (am_G 94).2.2.2.2.1 71 = (.fload_n 1, 72, 1, 0) := rfl
theorem t94_72 : (am_G 94).2.2.2.2.1 72 = (.fconst 1, 73, 0, 0) := rfl
theorem t94_73 : (am_G 94).2.2.2.2.1 73 = (.fsub, 74, 0, 0) := rfl
theorem t94_74 : (am_G 94).2.2.2.2.1 74 = (.ldc 244, 76, 1258291200, 1) := rfl
theorem t94_76 : (am_G 94).2.2.2.2.1 76 = (.fmul, 77, 0, 0) := rfl
theorem t94_77 : (am_G 94).2.2.2.2.1 77 = (.f2i, 78, 0, 0) := rfl
theorem t94_78 : (am_G 94).2.2.2.2.1 78 = (.iadd, 79, 0, 0) := rfl
theorem t94_79 : (am_G 94).2.2.2.2.1 79 = (.ireturn, 80, 0, 0) := rfl
theorem t95_0 : (am_G 95).2.2.2.2.1 0 = (.aload_n 0, 1, 0, 0) := rfl
theorem t95_1 : (am_G 95).2.2.2.2.1 1 = (.invokespecial 1, 4, 0, 2) := rfl
theorem t95_4 : (am_G 95).2.2.2.2.1 4 = (.aload_n 0, 5, 0, 0) := rfl
theorem t95_5 : (am_G 95).2.2.2.2.1 5 = (.bipush 12, 7, 12, 0) := rfl
theorem t95_7 : (am_G 95).2.2.2.2.1 7 = (.newarray .char, 9, 1, 0) := rfl
theorem t95_9 : (am_G 95).2.2.2.2.1 9 = (.putfield 7, 12, 8, 0) := rfl
theorem t95_12 : (am_G 95).2.2.2.2.1 12 = (.aload_n 0, 13, 0, 0) := rfl
theorem t95_13 : (am_G 95).2.2.2.2.1 13 = (.bipush 64, 15, 64, 0) := rfl
theorem t95_15 : (am_G 95).2.2.2.2.1 15 = (.newarray .char, 17, 1, 0) := rfl
theorem t95_17 : (am_G 95).2.2.2.2.1 17 = (.putfield 13, 20, 8, 1) := rfl
theorem t95_20 : (am_G 95).2.2.2.2.1 20 = (.aload_n 0, 21, 0, 0) := rfl
theorem t95_21 : (am_G 95).2.2.2.2.1 21 = (.bipush 12, 23, 12, 0) := rfl
theorem t95_23 : (am_G 95).2.2.2.2.1 23 = (.newarray .int, 25, 0, 0) := rfl
theorem t95_25 : (am_G 95).2.2.2.2.1 25 = (.putfield 16, 28, 8, 2) := rfl
theorem t95_28 : (am_G 95).2.2.2.2.1 28 = (.aload_n 0, 29, 0, 0) := rfl
theorem t95_29 : (am_G 95).2.2.2.2.1 29 = (.bipush 12, 31, 12, 0) := rfl
theorem t95_31 : (am_G 95).2.2.2.2.1 31 = (.newarray .int, 33, 0, 0) := rfl
theorem t95_33 : (am_G 95).2.2.2.2.1 33 = (.putfield 20, 36, 8, 3) := rfl
theorem t95_36 : (am_G 95).2.2.2.2.1 36 = (.aload_n 0, 37, 0, 0) := rfl
theorem t95_37 : (am_G 95).2.2.2.2.1 37 = (.bipush 12, 39, 12, 0) := rfl
theorem t95_39 : (am_G 95).2.2.2.2.1 39 = (.newarray .int, 41, 0, 0) := rfl
theorem t95_41 : (am_G 95).2.2.2.2.1 41 = (.putfield 23, 44, 8, 4) := rfl
theorem t95_44 : (am_G 95).2.2.2.2.1 44 = (.aload_n 0, 45, 0, 0) := rfl
theorem t95_45 : (am_G 95).2.2.2.2.1 45 = (.bipush 64, 47, 64, 0) := rfl
theorem t95_47 : (am_G 95).2.2.2.2.1 47 = (.newarray .int, 49, 0, 0) := rfl
theorem t95_49 : (am_G 95).2.2.2.2.1 49 = (.putfield 26, 52, 8, 5) := rfl
theorem t95_52 : (am_G 95).2.2.2.2.1 52 = (.aload_n 0, 53, 0, 0) := rfl
theorem t95_53 : (am_G 95).2.2.2.2.1 53 = (.bipush 64, 55, 64, 0) := rfl
theorem t95_55 : (am_G 95).2.2.2.2.1 55 = (.newarray .int, 57, 0, 0) := rfl
theorem t95_57 : (am_G 95).2.2.2.2.1 57 = (.putfield 29, 60, 8, 6) := rfl
theorem t95_60 : (am_G 95).2.2.2.2.1 60 = (.aload_n 0, 61, 0, 0) := rfl
theorem t95_61 : (am_G 95).2.2.2.2.1 61 = (.bipush 64, 63, 64, 0) := rfl
theorem t95_63 : (am_G 95).2.2.2.2.1 63 = (.newarray .int, 65, 0, 0) := rfl
theorem t95_65 : (am_G 95).2.2.2.2.1 65 = (.putfield 32, 68, 8, 7) := rfl
theorem t95_68 : (am_G 95).2.2.2.2.1 68 = (.aload_n 0, 69, 0, 0) := rfl
theorem t95_69 : (am_G 95).2.2.2.2.1 69 = (.bipush 64, 71, 64, 0) := rfl
theorem t95_71 : (am_G 95).2.2.2.2.1 71 = (.newarray .int, 73, 0, 0) := rfl
theorem t95_73 : (am_G 95).2.2.2.2.1 73 = (.putfield 35, 76, 8, 8) := rfl
theorem t95_76 : (am_G 95).2.2.2.2.1 76 = (.aload_n 0, 77, 0, 0) := rfl
theorem t95_77 : (am_G 95).2.2.2.2.1 77 = (.bipush 8, 79, 8, 0) := rfl
theorem t95_79 : (am_G 95).2.2.2.2.1 79 = (.newarray .int, 81, 0, 0) := rfl
theorem t95_81 : (am_G 95).2.2.2.2.1 81 = (.putfield 38, 84, 8, 9) := rfl
theorem t95_84 : (am_G 95).2.2.2.2.1 84 = (.aload_n 0, 85, 0, 0) := rfl
theorem t95_85 : (am_G 95).2.2.2.2.1 85 = (.bipush 12, 87, 12, 0) := rfl
theorem t95_87 : (am_G 95).2.2.2.2.1 87 = (.newarray .int, 89, 0, 0) := rfl
theorem t95_89 : (am_G 95).2.2.2.2.1 89 = (.putfield 41, 92, 8, 10) := rfl
theorem t95_92 : (am_G 95).2.2.2.2.1 92 = (.aload_n 0, 93, 0, 0) := rfl
theorem t95_93 : (am_G 95).2.2.2.2.1 93 = (.iconst 3, 94, 3, 0) := rfl
theorem t95_94 : (am_G 95).2.2.2.2.1 94 = (.newarray .int, 96, 0, 0) := rfl
theorem t95_96 : (am_G 95).2.2.2.2.1 96 = (.putfield 44, 99, 8, 11) := rfl
theorem t95_99 : (am_G 95).2.2.2.2.1 99 = (.aload_n 0, 100, 0, 0) := rfl
theorem t95_100 : (am_G 95).2.2.2.2.1 100 = (.iconst 3, 101, 3, 0) := rfl
theorem t95_101 : (am_G 95).2.2.2.2.1 101 = (.newarray .int, 103, 0, 0) := rfl
theorem t95_103 : (am_G 95).2.2.2.2.1 103 = (.putfield 47, 106, 8, 12) := rfl
theorem t95_106 : (am_G 95).2.2.2.2.1 106 = (.aload_n 0, 107, 0, 0) := rfl
theorem t95_107 : (am_G 95).2.2.2.2.1 107 = (.sipush 1152, 110, 1152, 0) := rfl
theorem t95_110 : (am_G 95).2.2.2.2.1 110 = (.newarray .boolean, 112, 2, 0) := rfl
theorem t95_112 : (am_G 95).2.2.2.2.1 112 = (.putfield 50, 115, 8, 13) := rfl
theorem t95_115 : (am_G 95).2.2.2.2.1 115 = (.aload_n 0, 116, 0, 0) := rfl
theorem t95_116 : (am_G 95).2.2.2.2.1 116 = (.sipush 1152, 119, 1152, 0) := rfl
theorem t95_119 : (am_G 95).2.2.2.2.1 119 = (.newarray .boolean, 121, 2, 0) := rfl
theorem t95_121 : (am_G 95).2.2.2.2.1 121 = (.putfield 54, 124, 8, 14) := rfl
theorem t95_124 : (am_G 95).2.2.2.2.1 124 = (.aload_n 0, 125, 0, 0) := rfl
theorem t95_125 : (am_G 95).2.2.2.2.1 125 = (.iconst 0, 126, 0, 0) := rfl
theorem t95_126 : (am_G 95).2.2.2.2.1 126 = (.putfield 57, 129, 8, 15) := rfl
theorem t95_129 : (am_G 95).2.2.2.2.1 129 = (.aload_n 0, 130, 0, 0) := rfl
theorem t95_130 : (am_G 95).2.2.2.2.1 130 = (.iconst 0, 131, 0, 0) := rfl
theorem t95_131 : (am_G 95).2.2.2.2.1 131 = (.putfield 61, 134, 8, 16) := rfl
theorem t95_134 : (am_G 95).2.2.2.2.1 134 = (.aload_n 0, 135, 0, 0) := rfl
theorem t95_135 : (am_G 95).2.2.2.2.1 135 = (.iconst 0, 136, 0, 0) := rfl
theorem t95_136 : (am_G 95).2.2.2.2.1 136 = (.putfield 64, 139, 8, 17) := rfl
theorem t95_139 : (am_G 95).2.2.2.2.1 139 = (.aload_n 0, 140, 0, 0) := rfl
theorem t95_140 : (am_G 95).2.2.2.2.1 140 = (.iconst 0, 141, 0, 0) := rfl
theorem t95_141 : (am_G 95).2.2.2.2.1 141 = (.putfield 67, 144, 8, 18) := rfl
theorem t95_144 : (am_G 95).2.2.2.2.1 144 = (.aload_n 0, 145, 0, 0) := rfl
theorem t95_145 : (am_G 95).2.2.2.2.1 145 = (.iconst (-1), 146, 4294967295, 0) := rfl
theorem t95_146 : (am_G 95).2.2.2.2.1 146 = (.putfield 70, 149, 8, 19) := rfl
theorem t95_149 : (am_G 95).2.2.2.2.1 149 = (.aload_n 0, 150, 0, 0) := rfl
theorem t95_150 : (am_G 95).2.2.2.2.1 150 = (.bipush 10, 152, 10, 0) := rfl
theorem t95_152 : (am_G 95).2.2.2.2.1 152 = (.putfield 73, 155, 8, 20) := rfl
theorem t95_155 : (am_G 95).2.2.2.2.1 155 = (.aload_n 0, 156, 0, 0) := rfl
theorem t95_156 : (am_G 95).2.2.2.2.1 156 = (.iconst 0, 157, 0, 0) := rfl
theorem t95_157 : (am_G 95).2.2.2.2.1 157 = (.putfield 76, 160, 8, 21) := rfl
theorem t95_160 : (am_G 95).2.2.2.2.1 160 = (.aload_n 0, 161, 0, 0) := rfl
theorem t95_161 : (am_G 95).2.2.2.2.1 161 = (.iconst 0, 162, 0, 0) := rfl
theorem t95_162 : (am_G 95).2.2.2.2.1 162 = (.putfield 79, 165, 8, 22) := rfl
theorem t95_165 : (am_G 95).2.2.2.2.1 165 = (.aload_n 0, 166, 0, 0) := rfl
theorem t95_166 : (am_G 95).2.2.2.2.1 166 = (.iconst 0, 167, 0, 0) := rfl
theorem t95_167 : (am_G 95).2.2.2.2.1 167 = (.putfield 83, 170, 8, 23) := rfl
theorem t95_170 : (am_G 95).2.2.2.2.1 170 = (.aload_n 0, 171, 0, 0) := rfl
theorem t95_171 : (am_G 95).2.2.2.2.1 171 = (.fconst 0, 172, 0, 0) := rfl
theorem t95_172 : (am_G 95).2.2.2.2.1 172 = (.putfield 86, 175, 8, 24) := rfl
theorem t95_175 : (am_G 95).2.2.2.2.1 175 = (.aload_n 0, 176, 0, 0) := rfl
theorem t95_176 : (am_G 95).2.2.2.2.1 176 = (.bipush 45, 178, 45, 0) := rfl
theorem t95_178 : (am_G 95).2.2.2.2.1 178 = (.putfield 90, 181, 8, 25) := rfl
theorem t95_181 : (am_G 95).2.2.2.2.1 181 = (.aload_n 0, 182, 0, 0) := rfl
theorem t95_182 : (am_G 95).2.2.2.2.1 182 = (.bipush 32, 184, 32, 0) := rfl
theorem t95_184 : (am_G 95).2.2.2.2.1 184 = (.putfield 94, 187, 8, 26) := rfl
theorem t95_187 : (am_G 95).2.2.2.2.1 187 = (.iconst 0, 188, 0, 0) := rfl
theorem t95_188 : (am_G 95).2.2.2.2.1 188 = (.istore_n 1, 189, 1, 0) := rfl
theorem t95_189 : (am_G 95).2.2.2.2.1 189 = (.iload_n 1, 190, 1, 0) := rfl
theorem t95_190 : (am_G 95).2.2.2.2.1 190 = (.bipush 12, 192, 12, 0) := rfl
theorem t95_192 : (am_G 95).2.2.2.2.1 192 = (.if_icmp .ge 17, 195, 209, 0) := rfl
theorem t95_195 : (am_G 95).2.2.2.2.1 195 = (.aload_n 0, 196, 0, 0) := rfl
theorem t95_196 : (am_G 95).2.2.2.2.1 196 = (.getfield 7, 199, 8, 0) := rfl
theorem t95_199 : (am_G 95).2.2.2.2.1 199 = (.iload_n 1, 200, 1, 0) := rfl
theorem t95_200 : (am_G 95).2.2.2.2.1 200 = (.bipush 45, 202, 45, 0) := rfl
theorem t95_202 : (am_G 95).2.2.2.2.1 202 = (.castore, 203, 0, 0) := rfl
theorem t95_203 : (am_G 95).2.2.2.2.1 203 = (.iinc 1 1, 206, 1, 1) := rfl
theorem t95_206 : (am_G 95).2.2.2.2.1 206 = (.goto (-17), 209, 189, 0) := rfl
theorem t95_209 : (am_G 95).2.2.2.2.1 209 = (.aload_n 0, 210, 0, 0) := rfl
theorem t95_210 : (am_G 95).2.2.2.2.1 210 = (.invokevirtual 97, 213, 100, 8) := rfl
theorem t95_213 : (am_G 95).2.2.2.2.1 213 = (.return_, 214, 0, 0) := rfl
theorem t96_0 : (am_G 96).2.2.2.2.1 0 = (.aload_n 0, 1, 0, 0) := rfl
theorem t96_1 : (am_G 96).2.2.2.2.1 1 = (.getfield 57, 4, 8, 15) := rfl
theorem t96_4 : (am_G 96).2.2.2.2.1 4 = (.ireturn, 5, 0, 0) := rfl
theorem t97_0 : (am_G 97).2.2.2.2.1 0 = (.iload_n 0, 1, 0, 0) := rfl
theorem t97_1 : (am_G 97).2.2.2.2.1 1 = (.iload_n 1, 2, 1, 0) := rfl
theorem t97_2 : (am_G 97).2.2.2.2.1 2 = (.if_icmp .lt 12, 5, 14, 0) := rfl
theorem t97_5 : (am_G 97).2.2.2.2.1 5 = (.iload_n 0, 6, 0, 0) := rfl
theorem t97_6 : (am_G 97).2.2.2.2.1 6 = (.iload_n 2, 7, 2, 0) := rfl
theorem t97_7 : (am_G 97).2.2.2.2.1 7 = (.if_icmp .gt 7, 10, 14, 0) := rfl
theorem t97_10 : (am_G 97).2.2.2.2.1 10 = (.iconst 1, 11, 1, 0) := rfl
theorem t97_11 : (am_G 97).2.2.2.2.1 11 = (.goto 4, 14, 15, 0) := rfl
theorem t97_14 : (am_G 97).2.2.2.2.1 14 = (.iconst 0, 15, 0, 0) := rfl
theorem t97_15 : (am_G 97).2.2.2.2.1 15 = (.ireturn, 16, 0, 0) := rfl
theorem t98_0 : (am_G 98).2.2.2.2.1 0 = (.aload_n 0, 1, 0, 0) := rfl
theorem t98_1 : (am_G 98).2.2.2.2.1 1 = (.iconst 0, 2, 0, 0) := rfl
theorem t98_2 : (am_G 98).2.2.2.2.1 2 = (.putfield 57, 5, 8, 15) := rfl
theorem t98_5 : (am_G 98).2.2.2.2.1 5 = (.iload_n 1, 6, 1, 0) := rfl
theorem t98_6 : (am_G 98).2.2.2.2.1 6 = (.ireturn, 7, 0, 0) := rfl
theorem t99_0 : (am_G 99).2.2.2.2.1 0 = (.aload_n 0, 1, 0, 0) := rfl
theorem t99_1 : (am_G 99).2.2.2.2.1 1 = (.iload_n 1, 2, 1, 0) := rfl
theorem t99_2 : (am_G 99).2.2.2.2.1 2 = (.ifCond .eq 7, 5, 9, 0) := rfl
theorem t99_5 : (am_G 99).2.2.2.2.1 5 = (.iconst 0, 6, 0, 0) := rfl
theorem t99_6 : (am_G 99).2.2.2.2.1 6 = (.goto 4, 9, 10, 0) := rfl
theorem t99_9 : (am_G 99).2.2.2.2.1 9 = (.iconst 1, 10, 1, 0) := rfl
theorem t99_10 : (am_G 99).2.2.2.2.1 10 = (.putfield 57, 13, 8, 15) := rfl
theorem t99_13 : (am_G 99).2.2.2.2.1 13 = (.aload_n 0, 14, 0, 0) := rfl
theorem t99_14 : (am_G 99).2.2.2.2.1 14 = (.getfield 57, 17, 8, 15) := rfl
theorem t99_17 : (am_G 99).2.2.2.2.1 17 = (.ireturn, 18, 0, 0) := rfl
theorem t100_0 : (am_G 100).2.2.2.2.1 0 = (.iconst 0, 1, 0, 0) := rfl
theorem t100_1 : (am_G 100).2.2.2.2.1 1 = (.istore_n 1, 2, 1, 0) := rfl
theorem t100_2 : (am_G 100).2.2.2.2.1 2 = (.iload_n 1, 3, 1, 0) := rfl
theorem t100_3 : (am_G 100).2.2.2.2.1 3 = (.sipush 1152, 6, 1152, 0) := rfl
theorem t100_6 : (am_G 100).2.2.2.2.1 6 = (.if_icmp .ge 16, 9, 22, 0) := rfl
theorem t100_9 : (am_G 100).2.2.2.2.1 9 = (.aload_n 0, 10, 0, 0) := rfl
theorem t100_10 : (am_G 100).2.2.2.2.1 10 = (.getfield 54, 13, 8, 14) := rfl
theorem t100_13 : (am_G 100).2.2.2.2.1 13 = (.iload_n 1, 14, 1, 0) := rfl
theorem t100_14 : (am_G 100).2.2.2.2.1 14 = (.iconst 0, 15, 0, 0) := rfl
theorem t100_15 : (am_G 100).2.2.2.2.1 15 = (.bastore, 16, 0, 0) := rfl
theorem t100_16 : (am_G 100).2.2.2.2.1 16 = (.iinc 1 1, 19, 1, 1) := rfl
theorem t100_19 : (am_G 100).2.2.2.2.1 19 = (.goto (-17), 22, 2, 0) := rfl
theorem t100_22 : (am_G 100).2.2.2.2.1 22 = (.iconst 0, 23, 0, 0) := rfl
theorem t100_23 : (am_G 100).2.2.2.2.1 23 = (.istore_n 1, 24, 1, 0) := rfl
theorem t100_24 : (am_G 100).2.2.2.2.1 24 = (.iload_n 1, 25, 1, 0) := rfl
theorem t100_25 : (am_G 100).2.2.2.2.1 25 = (.bipush 12, 27, 12, 0) := rfl
theorem t100_27 : (am_G 100).2.2.2.2.1 27 = (.if_icmp .ge 16, 30, 43, 0) := rfl
theorem t100_30 : (am_G 100).2.2.2.2.1 30 = (.aload_n 0, 31, 0, 0) := rfl
theorem t100_31 : (am_G 100).2.2.2.2.1 31 = (.getfield 23, 34, 8, 4) := rfl
theorem t100_34 : (am_G 100).2.2.2.2.1 34 = (.iload_n 1, 35, 1, 0) := rfl
theorem t100_35 : (am_G 100).2.2.2.2.1 35 = (.iconst 0, 36, 0, 0) := rfl
theorem t100_36 : (am_G 100).2.2.2.2.1 36 = (.iastore, 37, 0, 0) := rfl
theorem t100_37 : (am_G 100).2.2.2.2.1 37 = (.iinc 1 1, 40, 1, 1) := rfl
theorem t100_40 : (am_G 100).2.2.2.2.1 40 = (.goto (-16), 43, 24, 0) := rfl
theorem t100_43 : (am_G 100).2.2.2.2.1 43 = (.iconst 0, 44, 0, 0) := rfl
theorem t100_44 : (am_G 100).2.2.2.2.1 44 = (.istore_n 1, 45, 1, 0) := rfl
theorem t100_45 : (am_G 100).2.2.2.2.1 45 = (.iload_n 1, 46, 1, 0) := rfl
theorem t100_46 : (am_G 100).2.2.2.2.1 46 = (.bipush 8, 48, 8, 0) := rfl
theorem t100_48 : (am_G 100).2.2.2.2.1 48 = (.if_icmp .ge 16, 51, 64, 0) := rfl
theorem t100_51 : (am_G 100).2.2.2.2.1 51 = (.aload_n 0, 52, 0, 0) := rfl
theorem t100_52 : (am_G 100).2.2.2.2.1 52 = (.getfield 38, 55, 8, 9) := rfl
theorem t100_55 : (am_G 100).2.2.2.2.1 55 = (.iload_n 1, 56, 1, 0) := rfl
theorem t100_56 : (am_G 100).2.2.2.2.1 56 = (.iconst 0, 57, 0, 0) := rfl
theorem t100_57 : (am_G 100).2.2.2.2.1 57 = (.iastore, 58, 0, 0) := rfl
theorem t100_58 : (am_G 100).2.2.2.2.1 58 = (.iinc 1 1, 61, 1, 1) := rfl
theorem t100_61 : (am_G 100).2.2.2.2.1 61 = (.goto (-16), 64, 45, 0) := rfl
theorem t100_64 : (am_G 100).2.2.2.2.1 64 = (.aload_n 0, 65, 0, 0) := rfl
theorem t100_65 : (am_G 100).2.2.2.2.1 65 = (.getfield 44, 68, 8, 11) := rfl
theorem t100_68 : (am_G 100).2.2.2.2.1 68 = (.iconst 0, 69, 0, 0) := rfl
theorem t100_69 : (am_G 100).2.2.2.2.1 69 = (.iconst 0, 70, 0, 0) := rfl
theorem t100_70 : (am_G 100).2.2.2.2.1 70 = (.iastore, 71, 0, 0) := rfl
theorem t100_71 : (am_G 100).2.2.2.2.1 71 = (.aload_n 0, 72, 0, 0) := rfl
theorem t100_72 : (am_G 100).2.2.2.2.1 72 = (.getfield 44, 75, 8, 11) := rfl
theorem t100_75 : (am_G 100).2.2.2.2.1 75 = (.iconst 1, 76, 1, 0) := rfl
theorem t100_76 : (am_G 100).2.2.2.2.1 76 = (.iconst 0, 77, 0, 0) := rfl
theorem t100_77 : (am_G 100).2.2.2.2.1 77 = (.iastore, 78, 0, 0) := rfl
theorem t100_78 : (am_G 100).2.2.2.2.1 78 = (.aload_n 0, 79, 0, 0) := rfl
theorem t100_79 : (am_G 100).2.2.2.2.1 79 = (.getfield 44, 82, 8, 11) := rfl
theorem t100_82 : (am_G 100).2.2.2.2.1 82 = (.iconst 2, 83, 2, 0) := rfl
theorem t100_83 : (am_G 100).2.2.2.2.1 83 = (.bipush 9, 85, 9, 0) := rfl
theorem t100_85 : (am_G 100).2.2.2.2.1 85 = (.iastore, 86, 0, 0) := rfl
theorem t100_86 : (am_G 100).2.2.2.2.1 86 = (.aload_n 0, 87, 0, 0) := rfl
theorem t100_87 : (am_G 100).2.2.2.2.1 87 = (.iconst 0, 88, 0, 0) := rfl
theorem t100_88 : (am_G 100).2.2.2.2.1 88 = (.putfield 64, 91, 8, 17) := rfl
theorem t100_91 : (am_G 100).2.2.2.2.1 91 = (.aload_n 0, 92, 0, 0) := rfl
theorem t100_92 : (am_G 100).2.2.2.2.1 92 = (.iconst 0, 93, 0, 0) := rfl
theorem t100_93 : (am_G 100).2.2.2.2.1 93 = (.putfield 67, 96, 8, 18) := rfl
theorem t100_96 : (am_G 100).2.2.2.2.1 96 = (.aload_n 0, 97, 0, 0) := rfl
theorem t100_97 : (am_G 100).2.2.2.2.1 97 = (.iconst (-1), 98, 4294967295, 0) := rfl
theorem t100_98 : (am_G 100).2.2.2.2.1 98 = (.putfield 70, 101, 8, 19) := rfl
theorem t100_101 : (am_G 100).2.2.2.2.1 101 = (.aload_n 0, 102, 0, 0) := rfl
theorem t100_102 : (am_G 100).2.2.2.2.1 102 = (.bipush 10, 104, 10, 0) := rfl
theorem t100_104 : (am_G 100).2.2.2.2.1 104 = (.putfield 73, 107, 8, 20) := rfl
theorem t100_107 : (am_G 100).2.2.2.2.1 107 = (.aload_n 0, 108, 0, 0) := rfl
theorem t100_108 : (am_G 100).2.2.2.2.1 108 = (.iconst 0, 109, 0, 0) := rfl
theorem t100_109 : (am_G 100).2.2.2.2.1 109 = (.putfield 76, 112, 8, 21) := rfl
theorem t100_112 : (am_G 100).2.2.2.2.1 112 = (.aload_n 0, 113, 0, 0) := rfl
theorem t100_113 : (am_G 100).2.2.2.2.1 113 = (.iconst 0, 114, 0, 0) := rfl
theorem t100_114 : (am_G 100).2.2.2.2.1 114 = (.putfield 79, 117, 8, 22) := rfl
theorem t100_117 : (am_G 100).2.2.2.2.1 117 = (.aload_n 0, 118, 0, 0) := rfl
theorem t100_118 : (am_G 100).2.2.2.2.1 118 = (.iconst 0, 119, 0, 0) := rfl
theorem t100_119 : (am_G 100).2.2.2.2.1 119 = (.putfield 83, 122, 8, 23) := rfl
theorem t100_122 : (am_G 100).2.2.2.2.1 122 = (.aload_n 0, 123, 0, 0) := rfl
theorem t100_123 : (am_G 100).2.2.2.2.1 123 = (.fconst 0, 124, 0, 0) := rfl
theorem t100_124 : (am_G 100).2.2.2.2.1 124 = (.putfield 86, 127, 8, 24) := rfl
theorem t100_127 : (am_G 100).2.2.2.2.1 127 = (.aload_n 0, 128, 0, 0) := rfl
theorem t100_128 : (am_G 100).2.2.2.2.1 128 = (.bipush 45, 130, 45, 0) := rfl
theorem t100_130 : (am_G 100).2.2.2.2.1 130 = (.putfield 90, 133, 8, 25) := rfl
theorem t100_133 : (am_G 100).2.2.2.2.1 133 = (.return_, 134, 0, 0) := rfl
theorem t101_0 : (am_G 101).2.2.2.2.1 0 = (.iload_n 0, 1, 0, 0) := rfl
theorem t101_1 : (am_G 101).2.2.2.2.1 1 = (.iconst 0, 2, 0, 0) := rfl
theorem t101_2 : (am_G 101).2.2.2.2.1 2 = (.iconst 2, 3, 2, 0) := rfl
theorem t101_3 : (am_G 101).2.2.2.2.1 3 = (.invokestatic 100, 6, 97, 0) := rfl
theorem t101_6 : (am_G 101).2.2.2.2.1 6 = (.ifCond .eq 16, 9, 22, 0) := rfl
theorem t101_9 : (am_G 101).2.2.2.2.1 9 = (.iload_n 1, 10, 1, 0) := rfl
theorem t101_10 : (am_G 101).2.2.2.2.1 10 = (.iconst 0, 11, 0, 0) := rfl
theorem t101_11 : (am_G 101).2.2.2.2.1 11 = (.iconst 3, 12, 3, 0) := rfl
theorem t101_12 : (am_G 101).2.2.2.2.1 12 = (.invokestatic 100, 15, 97, 0) := rfl
theorem t101_15 : (am_G 101).2.2.2.2.1 15 = (.ifCond .eq 7, 18, 22, 0) := rfl
theorem t101_18 : (am_G 101).2.2.2.2.1 18 = (.iconst 1, 19, 1, 0) := rfl
theorem t101_19 : (am_G 101).2.2.2.2.1 19 = (.goto 4, 22, 23, 0) := rfl
theorem t101_22 : (am_G 101).2.2.2.2.1 22 = (.iconst 0, 23, 0, 0) := rfl
theorem t101_23 : (am_G 101).2.2.2.2.1 23 = (.ireturn, 24, 0, 0) := rfl
theorem t102_0 : (am_G 102).2.2.2.2.1 0 = (.iload_n 3, 1, 3, 0) := rfl
theorem t102_1 : (am_G 102).2.2.2.2.1 1 = (.bipush 101, 3, 101, 0) := rfl
theorem t102_3 : (am_G 102).2.2.2.2.1 3 = (.if_icmp .eq 15, 6, 18, 0) := rfl
theorem t102_6 : (am_G 102).2.2.2.2.1 6 = (.iload_n 3, 7, 3, 0) := rfl
theorem t102_7 : (am_G 102).2.2.2.2.1 7 = (.bipush 98, 9, 98, 0) := rfl
theorem t102_9 : (am_G 102).2.2.2.2.1 9 = (.if_icmp .eq 9, 12, 18, 0) := rfl
theorem t102_12 : (am_G 102).2.2.2.2.1 12 = (.iload_n 3, 13, 3, 0) := rfl
theorem t102_13 : (am_G 102).2.2.2.2.1 13 = (.bipush 118, 15, 118, 0) := rfl
theorem t102_15 : (am_G 102).2.2.2.2.1 15 = (.if_icmp .ne 7, 18, 22, 0) := rfl
theorem t102_18 : (am_G 102).2.2.2.2.1 18 = (.iconst 1, 19, 1, 0) := rfl
theorem t102_19 : (am_G 102).2.2.2.2.1 19 = (.goto 4, 22, 23, 0) := rfl
theorem t102_22 : (am_G 102).2.2.2.2.1 22 = (.iconst 0, 23, 0, 0) := rfl
theorem t102_23 : (am_G 102).2.2.2.2.1 23 = (.istore 6, 25, 6, 0) := rfl
theorem t102_25 : (am_G 102).2.2.2.2.1 25 = (.iload_n 1, 26, 1, 0) := rfl
theorem t102_26 : (am_G 102).2.2.2.2.1 26 = (.iconst 2, 27, 2, 0) := rfl
theorem t102_27 : (am_G 102).2.2.2.2.1 27 = (.if_icmp .eq 18, 30, 45, 0) := rfl
theorem t102_30 : (am_G 102).2.2.2.2.1 30 = (.iload_n 3, 31, 3, 0) := rfl
theorem t102_31 : (am_G 102).2.2.2.2.1 31 = (.iload_n 1, 32, 1, 0) := rfl
theorem t102_32 : (am_G 102).2.2.2.2.1 32 = (.ifCond .ne 8, 35, 40, 0) := rfl
theorem t102_35 : (am_G 102).2.2.2.2.1 35 = (.bipush 101, 37, 101, 0) := rfl
theorem t102_37 : (am_G 102).2.2.2.2.1 37 = (.goto 5, 40, 42, 0) := rfl
theorem t102_40 : (am_G 102).2.2.2.2.1 40 = (.bipush 98, 42, 98, 0) := rfl
theorem t102_42 : (am_G 102).2.2.2.2.1 42 = (.if_icmp .ne 7, 45, 49, 0) := rfl
theorem t102_45 : (am_G 102).2.2.2.2.1 45 = (.iconst 1, 46, 1, 0) := rfl
theorem t102_46 : (am_G 102).2.2.2.2.1 46 = (.goto 4, 49, 50, 0) := rfl
theorem t102_49 : (am_G 102).2.2.2.2.1 49 = (.iconst 0, 50, 0, 0) := rfl
theorem t102_50 : (am_G 102).2.2.2.2.1 50 = (.istore 7, 52, 7, 0) := rfl
theorem t102_52 : (am_G 102).2.2.2.2.1 52 = (.aload_n 0, 53, 0, 0) := rfl
theorem t102_53 : (am_G 102).2.2.2.2.1 53 = (.iload_n 1, 54, 1, 0) := rfl
theorem t102_54 : (am_G 102).2.2.2.2.1 54 = (.iload_n 2, 55, 2, 0) := rfl
theorem t102_55 : (am_G 102).2.2.2.2.1 55 = (.invokestatic 104, 58, 101, 0) := rfl
theorem t102_58 : (am_G 102).2.2.2.2.1 58 = (.ifCond .ne 7, 61, 65, 0) := rfl
theorem t102_61 : (am_G 102).2.2.2.2.1 61 = (.iconst 1, 62, 1, 0) := rfl
theorem t102_62 : (am_G 102).2.2.2.2.1 62 = (.goto 44, 65, 106, 0) := rfl
theorem t102_65 : (am_G 102).2.2.2.2.1 65 = (.iload 6, 67, 6, 0) := rfl
theorem t102_67 : (am_G 102).2.2.2.2.1 67 = (.ifCond .eq 25, 70, 92, 0) := rfl
theorem t102_70 : (am_G 102).2.2.2.2.1 70 = (.iload 4, 72, 4, 0) := rfl
theorem t102_72 : (am_G 102).2.2.2.2.1 72 = (.iconst 0, 73, 0, 0) := rfl
theorem t102_73 : (am_G 102).2.2.2.2.1 73 = (.iconst 3, 74, 3, 0) := rfl
theorem t102_74 : (am_G 102).2.2.2.2.1 74 = (.invokestatic 100, 77, 97, 0) := rfl
theorem t102_77 : (am_G 102).2.2.2.2.1 77 = (.ifCond .eq 15, 80, 92, 0) := rfl
theorem t102_80 : (am_G 102).2.2.2.2.1 80 = (.iload 5, 82, 5, 0) := rfl
theorem t102_82 : (am_G 102).2.2.2.2.1 82 = (.iconst 1, 83, 1, 0) := rfl
theorem t102_83 : (am_G 102).2.2.2.2.1 83 = (.sipush 999, 86, 999, 0) := rfl
theorem t102_86 : (am_G 102).2.2.2.2.1 86 = (.invokestatic 100, 89, 97, 0) := rfl
theorem t102_89 : (am_G 102).2.2.2.2.1 89 = (.ifCond .ne 7, 92, 96, 0) := rfl
theorem t102_92 : (am_G 102).2.2.2.2.1 92 = (.iconst 2, 93, 2, 0) := rfl
theorem t102_93 : (am_G 102).2.2.2.2.1 93 = (.goto 13, 96, 106, 0) := rfl
theorem t102_96 : (am_G 102).2.2.2.2.1 96 = (.iload 7, 98, 7, 0) := rfl
theorem t102_98 : (am_G 102).2.2.2.2.1 98 = (.ifCond .ne 7, 101, 105, 0) := rfl
theorem t102_101 : (am_G 102).2.2.2.2.1 101 = (.iconst 3, 102, 3, 0) := rfl
theorem t102_102 : (am_G 102).2.2.2.2.1 102 = (.goto 4, 105, 106, 0) := rfl
theorem t102_105 : (am_G 102).2.2.2.2.1 105 = (.iconst 0, 106, 0, 0) := rfl
theorem t102_106 : (am_G 102).2.2.2.2.1 106 = (.putfield 57, 109, 8, 15) := rfl
theorem t102_109 : (am_G 102).2.2.2.2.1 109 = (.aload_n 0, 110, 0, 0) := rfl
theorem t102_110 : (am_G 102).2.2.2.2.1 110 = (.getfield 57, 113, 8, 15) := rfl
theorem t102_113 : (am_G 102).2.2.2.2.1 113 = (.ifCond .le 5, 116, 118, 0) := rfl
theorem t102_116 : (am_G 102).2.2.2.2.1 116 = (.iconst 0, 117, 0, 0) := rfl
theorem t102_117 : (am_G 102).2.2.2.2.1 117 = (.ireturn, 118, 0, 0) := rfl
theorem t102_118 : (am_G 102).2.2.2.2.1 118 = (.iconst 4, 119, 4, 0) := rfl
theorem t102_119 : (am_G 102).2.2.2.2.1 119 = (.iload_n 1, 120, 1, 0) := rfl
theorem t102_120 : (am_G 102).2.2.2.2.1 120 = (.imul, 121, 0, 0) := rfl
theorem t102_121 : (am_G 102).2.2.2.2.1 121 = (.iload_n 2, 122, 2, 0) := rfl
theorem t102_122 : (am_G 102).2.2.2.2.1 122 = (.iadd, 123, 0, 0) := rfl
theorem t102_123 : (am_G 102).2.2.2.2.1 123 = (.istore 8, 125, 8, 0) := rfl
theorem t102_125 : (am_G 102).2.2.2.2.1 125 = (.aload_n 0, 126, 0, 0) := rfl
theorem t102_126 : (am_G 102).2.2.2.2.1 126 = (.getfield 7, 129, 8, 0) := rfl
theorem t102_129 : (am_G 102).2.2.2.2.1 129 = (.iload 8, 131, 8, 0) := rfl
theorem t102_131 : (am_G 102).2.2.2.2.1 131 = (.iload_n 3, 132, 3, 0) := rfl
theorem t102_132 : (am_G 102).2.2.2.2.1 132 = (.castore, 133, 0, 0) := rfl
theorem t102_133 : (am_G 102).2.2.2.2.1 133 = (.aload_n 0, 134, 0, 0) := rfl
theorem t102_134 : (am_G 102).2.2.2.2.1 134 = (.getfield 16, 137, 8, 2) := rfl
theorem t102_137 : (am_G 102).2.2.2.2.1 137 = (.iload 8, 139, 8, 0) := rfl
theorem t102_139 : (am_G 102).2.2.2.2.1 139 = (.iload 4, 141, 4, 0) := rfl
theorem t102_141 : (am_G 102).2.2.2.2.1 141 = (.iastore, 142, 0, 0) := rfl
theorem t102_142 : (am_G 102).2.2.2.2.1 142 = (.aload_n 0, 143, 0, 0) := rfl
theorem t102_143 : (am_G 102).2.2.2.2.1 143 = (.getfield 20, 146, 8, 3) := rfl
theorem t102_146 : (am_G 102).2.2.2.2.1 146 = (.iload 8, 148, 8, 0) := rfl
theorem t102_148 : (am_G 102).2.2.2.2.1 148 = (.iload 5, 150, 5, 0) := rfl
theorem t102_150 : (am_G 102).2.2.2.2.1 150 = (.iastore, 151, 0, 0) := rfl
theorem t102_151 : (am_G 102).2.2.2.2.1 151 = (.aload_n 0, 152, 0, 0) := rfl
theorem t102_152 : (am_G 102).2.2.2.2.1 152 = (.invokevirtual 97, 155, 100, 8) := rfl
theorem t102_155 : (am_G 102).2.2.2.2.1 155 = (.iconst 0, 156, 0, 0) := rfl
theorem t102_156 : (am_G 102).2.2.2.2.1 156 = (.istore 9, 158, 9, 0) := rfl
theorem t102_158 : (am_G 102).2.2.2.2.1 158 = (.iconst 4, 159, 4, 0) := rfl
theorem t102_159 : (am_G 102).2.2.2.2.1 159 = (.iload_n 1, 160, 1, 0) := rfl
theorem t102_160 : (am_G 102).2.2.2.2.1 160 = (.imul, 161, 0, 0) := rfl
theorem t102_161 : (am_G 102).2.2.2.2.1 161 = (.istore 10, 163, 10, 0) := rfl
theorem t102_163 : (am_G 102).2.2.2.2.1 163 = (.iload 10, 165, 10, 0) := rfl
theorem t102_165 : (am_G 102).2.2.2.2.1 165 = (.iconst 4, 166, 4, 0) := rfl
theorem t102_166 : (am_G 102).2.2.2.2.1 166 = (.iload_n 1, 167, 1, 0) := rfl
theorem t102_167 : (am_G 102).2.2.2.2.1 167 = (.imul, 168, 0, 0) := rfl
theorem t102_168 : (am_G 102).2.2.2.2.1 168 = (.iconst 4, 169, 4, 0) := rfl
theorem t102_169 : (am_G 102).2.2.2.2.1 169 = (.iadd, 170, 0, 0) := rfl
theorem t102_170 : (am_G 102).2.2.2.2.1 170 = (.if_icmp .ge 31, 173, 201, 0) := rfl
theorem t102_173 : (am_G 102).2.2.2.2.1 173 = (.iload 9, 175, 9, 0) := rfl
theorem t102_175 : (am_G 102).2.2.2.2.1 175 = (.aload_n 0, 176, 0, 0) := rfl
theorem t102_176 : (am_G 102).2.2.2.2.1 176 = (.getfield 7, 179, 8, 0) := rfl
theorem t102_179 : (am_G 102).2.2.2.2.1 179 = (.iload 10, 181, 10, 0) := rfl
theorem t102_181 : (am_G 102).2.2.2.2.1 181 = (.caload, 182, 0, 0) := rfl
theorem t102_182 : (am_G 102).2.2.2.2.1 182 = (.bipush 45, 184, 45, 0) := rfl
theorem t102_184 : (am_G 102).2.2.2.2.1 184 = (.if_icmp .ne 7, 187, 191, 0) := rfl
theorem t102_187 : (am_G 102).2.2.2.2.1 187 = (.iconst 0, 188, 0, 0) := rfl
theorem t102_188 : (am_G 102).2.2.2.2.1 188 = (.goto 4, 191, 192, 0) := rfl
theorem t102_191 : (am_G 102).2.2.2.2.1 191 = (.iconst 1, 192, 1, 0) := rfl
theorem t102_192 : (am_G 102).2.2.2.2.1 192 = (.iadd, 193, 0, 0) := rfl
theorem t102_193 : (am_G 102).2.2.2.2.1 193 = (.istore 9, 195, 9, 0) := rfl
theorem t102_195 : (am_G 102).2.2.2.2.1 195 = (.iinc 10 1, 198, 10, 1) := rfl
theorem t102_198 : (am_G 102).2.2.2.2.1 198 = (.goto (-35), 201, 163, 0) := rfl
theorem t102_201 : (am_G 102).2.2.2.2.1 201 = (.iload 9, 203, 9, 0) := rfl
theorem t102_203 : (am_G 102).2.2.2.2.1 203 = (.ireturn, 204, 0, 0) := rfl
theorem t103_0 : (am_G 103).2.2.2.2.1 0 = (.iload_n 0, 1, 0, 0) := rfl
theorem t103_1 : (am_G 103).2.2.2.2.1 1 = (.iconst 0, 2, 0, 0) := rfl
theorem t103_2 : (am_G 103).2.2.2.2.1 2 = (.bipush 15, 4, 15, 0) := rfl
theorem t103_4 : (am_G 103).2.2.2.2.1 4 = (.invokestatic 100, 7, 97, 0) := rfl
theorem t103_7 : (am_G 103).2.2.2.2.1 7 = (.ifCond .eq 26, 10, 33, 0) := rfl
theorem t103_10 : (am_G 103).2.2.2.2.1 10 = (.iload_n 1, 11, 1, 0) := rfl
theorem t103_11 : (am_G 103).2.2.2.2.1 11 = (.iconst 0, 12, 0, 0) := rfl
theorem t103_12 : (am_G 103).2.2.2.2.1 12 = (.bipush 11, 14, 11, 0) := rfl
theorem t103_14 : (am_G 103).2.2.2.2.1 14 = (.invokestatic 100, 17, 97, 0) := rfl
theorem t103_17 : (am_G 103).2.2.2.2.1 17 = (.ifCond .eq 16, 20, 33, 0) := rfl
theorem t103_20 : (am_G 103).2.2.2.2.1 20 = (.iload_n 2, 21, 2, 0) := rfl
theorem t103_21 : (am_G 103).2.2.2.2.1 21 = (.iconst 0, 22, 0, 0) := rfl
theorem t103_22 : (am_G 103).2.2.2.2.1 22 = (.iconst 5, 23, 5, 0) := rfl
theorem t103_23 : (am_G 103).2.2.2.2.1 23 = (.invokestatic 100, 26, 97, 0) := rfl
theorem t103_26 : (am_G 103).2.2.2.2.1 26 = (.ifCond .eq 7, 29, 33, 0) := rfl
theorem t103_29 : (am_G 103).2.2.2.2.1 29 = (.iconst 1, 30, 1, 0) := rfl
theorem t103_30 : (am_G 103).2.2.2.2.1 30 = (.goto 4, 33, 34, 0) := rfl
theorem t103_33 : (am_G 103).2.2.2.2.1 33 = (.iconst 0, 34, 0, 0) := rfl
theorem t103_34 : (am_G 103).2.2.2.2.1 34 = (.ireturn, 35, 0, 0) := rfl
theorem t104_0 : (am_G 104).2.2.2.2.1 0 = (.iload_n 0, 1, 0, 0) := rfl
theorem t104_1 : (am_G 104).2.2.2.2.1 1 = (.bipush 16, 3, 16, 0) := rfl
theorem t104_3 : (am_G 104).2.2.2.2.1 3 = (.iload_n 1, 4, 1, 0) := rfl
theorem t104_4 : (am_G 104).2.2.2.2.1 4 = (.imul, 5, 0, 0) := rfl
theorem t104_5 : (am_G 104).2.2.2.2.1 5 = (.iadd, 6, 0, 0) := rfl
theorem t104_6 : (am_G 104).2.2.2.2.1 6 = (.sipush 192, 9, 192, 0) := rfl
theorem t104_9 : (am_G 104).2.2.2.2.1 9 = (.iload_n 2, 10, 2, 0) := rfl
theorem t104_10 : (am_G 104).2.2.2.2.1 10 = (.imul, 11, 0, 0) := rfl
theorem t104_11 : (am_G 104).2.2.2.2.1 11 = (.iadd, 12, 0, 0) := rfl
theorem t104_12 : (am_G 104).2.2.2.2.1 12 = (.ireturn, 13, 0, 0) := rfl
theorem t105_0 : (am_G 105).2.2.2.2.1 0 = (.aload_n 0, 1, 0, 0) := rfl
theorem t105_1 : (am_G 105).2.2.2.2.1 1 = (.iload_n 1, 2, 1, 0) := rfl
theorem t105_2 : (am_G 105).2.2.2.2.1 2 = (.iload_n 2, 3, 2, 0) := rfl
theorem t105_3 : (am_G 105).2.2.2.2.1 3 = (.iload_n 3, 4, 3, 0) := rfl
theorem t105_4 : (am_G 105).2.2.2.2.1 4 = (.invokestatic 108, 7, 103, 0) := rfl
theorem t105_7 : (am_G 105).2.2.2.2.1 7 = (.invokevirtual 111, 10, 99, 8) := rfl
theorem t105_10 : (am_G 105).2.2.2.2.1 10 = (.ifCond .le 5, 13, 15, 0) := rfl
theorem t105_13 : (am_G 105).2.2.2.2.1 13 = (.iconst 0, 14, 0, 0) := rfl
theorem t105_14 : (am_G 105).2.2.2.2.1 14 = (.ireturn, 15, 0, 0) := rfl
theorem t105_15 : (am_G 105).2.2.2.2.1 15 = (.aload_n 0, 16, 0, 0) := rfl
theorem t105_16 : (am_G 105).2.2.2.2.1 16 = (.getfield 50, 19, 8, 13) := rfl
theorem t105_19 : (am_G 105).2.2.2.2.1 19 = (.iload_n 1, 20, 1, 0) := rfl
theorem t105_20 : (am_G 105).2.2.2.2.1 20 = (.iload_n 2, 21, 2, 0) := rfl
theorem t105_21 : (am_G 105).2.2.2.2.1 21 = (.iload_n 3, 22, 3, 0) := rfl
theorem t105_22 : (am_G 105).2.2.2.2.1 22 = (.invokestatic 115, 25, 104, 0) := rfl
theorem t105_25 : (am_G 105).2.2.2.2.1 25 = (.baload, 26, 0, 0) := rfl
theorem t105_26 : (am_G 105).2.2.2.2.1 26 = (.istore 5, 28, 5, 0) := rfl
theorem t105_28 : (am_G 105).2.2.2.2.1 28 = (.aload_n 0, 29, 0, 0) := rfl
theorem t105_29 : (am_G 105).2.2.2.2.1 29 = (.getfield 50, 32, 8, 13) := rfl
theorem t105_32 : (am_G 105).2.2.2.2.1 32 = (.iload_n 1, 33, 1, 0) := rfl
theorem t105_33 : (am_G 105).2.2.2.2.1 33 = (.iload_n 2, 34, 2, 0) := rfl
theorem t105_34 : (am_G 105).2.2.2.2.1 34 = (.iload_n 3, 35, 3, 0) := rfl
theorem t105_35 : (am_G 105).2.2.2.2.1 35 = (.invokestatic 115, 38, 104, 0) := rfl
theorem t105_38 : (am_G 105).2.2.2.2.1 38 = (.iload 4, 40, 4, 0) := rfl
theorem t105_40 : (am_G 105).2.2.2.2.1 40 = (.bastore, 41, 0, 0) := rfl
theorem t105_41 : (am_G 105).2.2.2.2.1 41 = (.aload_n 0, 42, 0, 0) := rfl
theorem t105_42 : (am_G 105).2.2.2.2.1 42 = (.invokevirtual 97, 45, 100, 8) := rfl
theorem t105_45 : (am_G 105).2.2.2.2.1 45 = (.iload 5, 47, 5, 0) := rfl
theorem t105_47 : (am_G 105).2.2.2.2.1 47 = (.ireturn, 48, 0, 0) := rfl
theorem t106_0 : (am_G 106).2.2.2.2.1 0 = (.aload_n 0, 1, 0, 0) := rfl
theorem t106_1 : (am_G 106).2.2.2.2.1 1 = (.iload_n 1, 2, 1, 0) := rfl
theorem t106_2 : (am_G 106).2.2.2.2.1 2 = (.iconst 0, 3, 0, 0) := rfl
theorem t106_3 : (am_G 106).2.2.2.2.1 3 = (.iconst 3, 4, 3, 0) := rfl
theorem t106_4 : (am_G 106).2.2.2.2.1 4 = (.invokestatic 100, 7, 97, 0) := rfl
theorem t106_7 : (am_G 106).2.2.2.2.1 7 = (.ifCond .eq 41, 10, 48, 0) := rfl
theorem t106_10 : (am_G 106).2.2.2.2.1 10 = (.iload_n 2, 11, 2, 0) := rfl
theorem t106_11 : (am_G 106).2.2.2.2.1 11 = (.bipush (-15), 13, 4294967281, 0) := rfl
theorem t106_13 : (am_G 106).2.2.2.2.1 13 = (.bipush 15, 15, 15, 0) := rfl
theorem t106_15 : (am_G 106).2.2.2.2.1 15 = (.invokestatic 100, 18, 97, 0) := rfl
theorem t106_18 : (am_G 106).2.2.2.2.1 18 = (.ifCond .eq 30, 21, 48, 0) := rfl
theorem t106_21 : (am_G 106).2.2.2.2.1 21 = (.iload_n 3, 22, 3, 0) := rfl
theorem t106_22 : (am_G 106).2.2.2.2.1 22 = (.bipush (-15), 24, 4294967281, 0) := rfl
theorem t106_24 : (am_G 106).2.2.2.2.1 24 = (.bipush 15, 26, 15, 0) := rfl
theorem t106_26 : (am_G 106).2.2.2.2.1 26 = (.invokestatic 100, 29, 97, 0) := rfl
theorem t106_29 : (am_G 106).2.2.2.2.1 29 = (.ifCond .eq 19, 32, 48, 0) := rfl
theorem t106_32 : (am_G 106).2.2.2.2.1 32 = (.iload 4, 34, 4, 0) := rfl
theorem t106_34 : (am_G 106).2.2.2.2.1 34 = (.bipush (-15), 36, 4294967281, 0) := rfl
theorem t106_36 : (am_G 106).2.2.2.2.1 36 = (.bipush 15, 38, 15, 0) := rfl
theorem t106_38 : (am_G 106).2.2.2.2.1 38 = (.invokestatic 100, 41, 97, 0) := rfl
theorem t106_41 : (am_G 106).2.2.2.2.1 41 = (.ifCond .eq 7, 44, 48, 0) := rfl
theorem t106_44 : (am_G 106).2.2.2.2.1 44 = (.iconst 1, 45, 1, 0) := rfl
theorem t106_45 : (am_G 106).2.2.2.2.1 45 = (.goto 4, 48, 49, 0) := rfl
theorem t106_48 : (am_G 106).2.2.2.2.1 48 = (.iconst 0, 49, 0, 0) := rfl
theorem t106_49 : (am_G 106).2.2.2.2.1 49 = (.invokevirtual 111, 52, 99, 8) := rfl
theorem t106_52 : (am_G 106).2.2.2.2.1 52 = (.ifCond .le 5, 55, 57, 0) := rfl
theorem t106_55 : (am_G 106).2.2.2.2.1 55 = (.iconst 0, 56, 0, 0) := rfl
theorem t106_56 : (am_G 106).2.2.2.2.1 56 = (.ireturn, 57, 0, 0) := rfl
theorem t106_57 : (am_G 106).2.2.2.2.1 57 = (.aload_n 0, 58, 0, 0) := rfl
theorem t106_58 : (am_G 106).2.2.2.2.1 58 = (.getfield 41, 61, 8, 10) := rfl
theorem t106_61 : (am_G 106).2.2.2.2.1 61 = (.iconst 3, 62, 3, 0) := rfl
theorem t106_62 : (am_G 106).2.2.2.2.1 62 = (.iload_n 1, 63, 1, 0) := rfl
theorem t106_63 : (am_G 106).2.2.2.2.1 63 = (.imul, 64, 0, 0) := rfl
theorem t106_64 : (am_G 106).2.2.2.2.1 64 = (.iaload, 65, 0, 0) := rfl
theorem t106_65 : (am_G 106).2.2.2.2.1 65 = (.istore 5, 67, 5, 0) := rfl
theorem t106_67 : (am_G 106).2.2.2.2.1 67 = (.aload_n 0, 68, 0, 0) := rfl
theorem t106_68 : (am_G 106).2.2.2.2.1 68 = (.getfield 41, 71, 8, 10) := rfl
theorem t106_71 : (am_G 106).2.2.2.2.1 71 = (.iconst 3, 72, 3, 0) := rfl
theorem t106_72 : (am_G 106).2.2.2.2.1 72 = (.iload_n 1, 73, 1, 0) := rfl
theorem t106_73 : (am_G 106).2.2.2.2.1 73 = (.imul, 74, 0, 0) := rfl
theorem t106_74 : (am_G 106).2.2.2.2.1 74 = (.iload_n 2, 75, 2, 0) := rfl
theorem t106_75 : (am_G 106).2.2.2.2.1 75 = (.iastore, 76, 0, 0) := rfl
theorem t106_76 : (am_G 106).2.2.2.2.1 76 = (.aload_n 0, 77, 0, 0) := rfl
theorem t106_77 : (am_G 106).2.2.2.2.1 77 = (.getfield 41, 80, 8, 10) := rfl
theorem t106_80 : (am_G 106).2.2.2.2.1 80 = (.iconst 3, 81, 3, 0) := rfl
theorem t106_81 : (am_G 106).2.2.2.2.1 81 = (.iload_n 1, 82, 1, 0) := rfl
theorem t106_82 : (am_G 106).2.2.2.2.1 82 = (.imul, 83, 0, 0) := rfl
theorem t106_83 : (am_G 106).2.2.2.2.1 83 = (.iconst 1, 84, 1, 0) := rfl
theorem t106_84 : (am_G 106).2.2.2.2.1 84 = (.iadd, 85, 0, 0) := rfl
theorem t106_85 : (am_G 106).2.2.2.2.1 85 = (.iload_n 3, 86, 3, 0) := rfl
theorem t106_86 : (am_G 106).2.2.2.2.1 86 = (.iastore, 87, 0, 0) := rfl
theorem t106_87 : (am_G 106).2.2.2.2.1 87 = (.aload_n 0, 88, 0, 0) := rfl
theorem t106_88 : (am_G 106).2.2.2.2.1 88 = (.getfield 41, 91, 8, 10) := rfl
theorem t106_91 : (am_G 106).2.2.2.2.1 91 = (.iconst 3, 92, 3, 0) := rfl
theorem t106_92 : (am_G 106).2.2.2.2.1 92 = (.iload_n 1, 93, 1, 0) := rfl
theorem t106_93 : (am_G 106).2.2.2.2.1 93 = (.imul, 94, 0, 0) := rfl
theorem t106_94 : (am_G 106).2.2.2.2.1 94 = (.iconst 2, 95, 2, 0) := rfl
theorem t106_95 : (am_G 106).2.2.2.2.1 95 = (.iadd, 96, 0, 0) := rfl
theorem t106_96 : (am_G 106).2.2.2.2.1 96 = (.iload 4, 98, 4, 0) := rfl
theorem t106_98 : (am_G 106).2.2.2.2.1 98 = (.iastore, 99, 0, 0) := rfl
theorem t106_99 : (am_G 106).2.2.2.2.1 99 = (.aload_n 0, 100, 0, 0) := rfl
theorem t106_100 : (am_G 106).2.2.2.2.1 100 = (.invokevirtual 97, 103, 100, 8) := rfl
theorem t106_103 : (am_G 106).2.2.2.2.1 103 = (.iload 5, 105, 5, 0) := rfl
theorem t106_105 : (am_G 106).2.2.2.2.1 105 = (.ireturn, 106, 0, 0) := rfl
theorem t107_0 : (am_G 107).2.2.2.2.1 0 = (.iload_n 0, 1, 0, 0) := rfl
theorem t107_1 : (am_G 107).2.2.2.2.1 1 = (.bipush (-50), 3, 4294967246, 0) := rfl
theorem t107_3 : (am_G 107).2.2.2.2.1 3 = (.bipush 50, 5, 50, 0) := rfl
theorem t107_5 : (am_G 107).2.2.2.2.1 5 = (.invokestatic 100, 8, 97, 0) := rfl
theorem t107_8 : (am_G 107).2.2.2.2.1 8 = (.ifCond .ne 14, 11, 22, 0) := rfl
theorem t107_11 : (am_G 107).2.2.2.2.1 11 = (.iload_n 0, 12, 0, 0) := rfl
theorem t107_12 : (am_G 107).2.2.2.2.1 12 = (.bipush 100, 14, 100, 0) := rfl
theorem t107_14 : (am_G 107).2.2.2.2.1 14 = (.bipush 107, 16, 107, 0) := rfl
theorem t107_16 : (am_G 107).2.2.2.2.1 16 = (.invokestatic 100, 19, 97, 0) := rfl
theorem t107_19 : (am_G 107).2.2.2.2.1 19 = (.ifCond .eq 7, 22, 26, 0) := rfl
theorem t107_22 : (am_G 107).2.2.2.2.1 22 = (.iconst 1, 23, 1, 0) := rfl
theorem t107_23 : (am_G 107).2.2.2.2.1 23 = (.goto 4, 26, 27, 0) := rfl
theorem t107_26 : (am_G 107).2.2.2.2.1 26 = (.iconst 0, 27, 0, 0) := rfl
theorem t107_27 : (am_G 107).2.2.2.2.1 27 = (.ireturn, 28, 0, 0) := rfl
theorem t108_0 : (am_G 108).2.2.2.2.1 0 = (.iload_n 0, 1, 0, 0) := rfl
theorem t108_1 : (am_G 108).2.2.2.2.1 1 = (.bipush 103, 3, 103, 0) := rfl
theorem t108_3 : (am_G 108).2.2.2.2.1 3 = (.if_icmp .eq 27, 6, 30, 0) := rfl
theorem t108_6 : (am_G 108).2.2.2.2.1 6 = (.iload_n 0, 7, 0, 0) := rfl
theorem t108_7 : (am_G 108).2.2.2.2.1 7 = (.bipush 108, 9, 108, 0) := rfl
theorem t108_9 : (am_G 108).2.2.2.2.1 9 = (.if_icmp .eq 21, 12, 30, 0) := rfl
theorem t108_12 : (am_G 108).2.2.2.2.1 12 = (.iload_n 0, 13, 0, 0) := rfl
theorem t108_13 : (am_G 108).2.2.2.2.1 13 = (.bipush 100, 15, 100, 0) := rfl
theorem t108_15 : (am_G 108).2.2.2.2.1 15 = (.if_icmp .eq 15, 18, 30, 0) := rfl
theorem t108_18 : (am_G 108).2.2.2.2.1 18 = (.iload_n 0, 19, 0, 0) := rfl
theorem t108_19 : (am_G 108).2.2.2.2.1 19 = (.bipush 112, 21, 112, 0) := rfl
theorem t108_21 : (am_G 108).2.2.2.2.1 21 = (.if_icmp .eq 9, 24, 30, 0) := rfl
theorem t108_24 : (am_G 108).2.2.2.2.1 24 = (.iload_n 0, 25, 0, 0) := rfl
theorem t108_25 : (am_G 108).2.2.2.2.1 25 = (.bipush 116, 27, 116, 0) := rfl
theorem t108_27 : (am_G 108).2.2.2.2.1 27 = (.if_icmp .ne 5, 30, 32, 0) := rfl
theorem t108_30 : (am_G 108).2.2.2.2.1 30 = (.iconst 1, 31, 1, 0) := rfl
theorem t108_31 : (am_G 108).2.2.2.2.1 31 = (.ireturn, 32, 0, 0) := rfl
theorem t108_32 : (am_G 108).2.2.2.2.1 32 = (.iload_n 0, 33, 0, 0) := rfl
theorem t108_33 : (am_G 108).2.2.2.2.1 33 = (.bipush 115, 35, 115, 0) := rfl
theorem t108_35 : (am_G 108).2.2.2.2.1 35 = (.if_icmp .eq 27, 38, 62, 0) := rfl
theorem t108_38 : (am_G 108).2.2.2.2.1 38 = (.iload_n 0, 39, 0, 0) := rfl
theorem t108_39 : (am_G 108).2.2.2.2.1 39 = (.bipush 102, 41, 102, 0) := rfl
theorem t108_41 : (am_G 108).2.2.2.2.1 41 = (.if_icmp .eq 21, 44, 62, 0) := rfl
theorem t108_44 : (am_G 108).2.2.2.2.1 44 = (.iload_n 0, 45, 0, 0) := rfl
theorem t108_45 : (am_G 108).2.2.2.2.1 45 = (.bipush 109, 47, 109, 0) := rfl
theorem t108_47 : (am_G 108).2.2.2.2.1 47 = (.if_icmp .eq 15, 50, 62, 0) := rfl
theorem t108_50 : (am_G 108).2.2.2.2.1 50 = (.iload_n 0, 51, 0, 0) := rfl
theorem t108_51 : (am_G 108).2.2.2.2.1 51 = (.bipush 111, 53, 111, 0) := rfl
theorem t108_53 : (am_G 108).2.2.2.2.1 53 = (.if_icmp .eq 9, 56, 62, 0) := rfl
theorem t108_56 : (am_G 108).2.2.2.2.1 56 = (.iload_n 0, 57, 0, 0) := rfl
theorem t108_57 : (am_G 108).2.2.2.2.1 57 = (.bipush 118, 59, 118, 0) := rfl
theorem t108_59 : (am_G 108).2.2.2.2.1 59 = (.if_icmp .ne 5, 62, 64, 0) := rfl
theorem t108_62 : (am_G 108).2.2.2.2.1 62 = (.iconst 1, 63, 1, 0) := rfl
theorem t108_63 : (am_G 108).2.2.2.2.1 63 = (.ireturn, 64, 0, 0) := rfl
theorem t108_64 : (am_G 108).2.2.2.2.1 64 = (.iload_n 0, 65, 0, 0) := rfl
theorem t108_65 : (am_G 108).2.2.2.2.1 65 = (.bipush 120, 67, 120, 0) := rfl
theorem t108_67 : (am_G 108).2.2.2.2.1 67 = (.if_icmp .eq 27, 70, 94, 0) := rfl
theorem t108_70 : (am_G 108).2.2.2.2.1 70 = (.iload_n 0, 71, 0, 0) := rfl
theorem t108_71 : (am_G 108).2.2.2.2.1 71 = (.bipush 114, 73, 114, 0) := rfl
theorem t108_73 : (am_G 108).2.2.2.2.1 73 = (.if_icmp .eq 21, 76, 94, 0) := rfl
theorem t108_76 : (am_G 108).2.2.2.2.1 76 = (.iload_n 0, 77, 0, 0) := rfl
theorem t108_77 : (am_G 108).2.2.2.2.1 77 = (.bipush 105, 79, 105, 0) := rfl
theorem t108_79 : (am_G 108).2.2.2.2.1 79 = (.if_icmp .eq 15, 82, 94, 0) := rfl
theorem t108_82 : (am_G 108).2.2.2.2.1 82 = (.iload_n 0, 83, 0, 0) := rfl
theorem t108_83 : (am_G 108).2.2.2.2.1 83 = (.bipush 101, 85, 101, 0) := rfl
theorem t108_85 : (am_G 108).2.2.2.2.1 85 = (.if_icmp .eq 9, 88, 94, 0) := rfl
theorem t108_88 : (am_G 108).2.2.2.2.1 88 = (.iload_n 0, 89, 0, 0) := rfl
theorem t108_89 : (am_G 108).2.2.2.2.1 89 = (.bipush 113, 91, 113, 0) := rfl
theorem t108_91 : (am_G 108).2.2.2.2.1 91 = (.if_icmp .ne 7, 94, 98, 0) := rfl
theorem t108_94 : (am_G 108).2.2.2.2.1 94 = (.iconst 1, 95, 1, 0) := rfl
theorem t108_95 : (am_G 108).2.2.2.2.1 95 = (.goto 4, 98, 99, 0) := rfl
theorem t108_98 : (am_G 108).2.2.2.2.1 98 = (.iconst 0, 99, 0, 0) := rfl
theorem t108_99 : (am_G 108).2.2.2.2.1 99 = (.ireturn, 100, 0, 0) := rfl
theorem t109_0 : (am_G 109).2.2.2.2.1 0 = (.aload_n 0, 1, 0, 0) := rfl
theorem t109_1 : (am_G 109).2.2.2.2.1 1 = (.iload_n 1, 2, 1, 0) := rfl
theorem t109_2 : (am_G 109).2.2.2.2.1 2 = (.invokestatic 119, 5, 108, 0) := rfl
theorem t109_5 : (am_G 109).2.2.2.2.1 5 = (.ifCond .eq 25, 8, 30, 0) := rfl
theorem t109_8 : (am_G 109).2.2.2.2.1 8 = (.iload_n 2, 9, 2, 0) := rfl
theorem t109_9 : (am_G 109).2.2.2.2.1 9 = (.invokestatic 123, 12, 107, 0) := rfl
theorem t109_12 : (am_G 109).2.2.2.2.1 12 = (.ifCond .eq 18, 15, 30, 0) := rfl
theorem t109_15 : (am_G 109).2.2.2.2.1 15 = (.iload_n 3, 16, 3, 0) := rfl
theorem t109_16 : (am_G 109).2.2.2.2.1 16 = (.invokestatic 123, 19, 107, 0) := rfl
theorem t109_19 : (am_G 109).2.2.2.2.1 19 = (.ifCond .eq 11, 22, 30, 0) := rfl
theorem t109_22 : (am_G 109).2.2.2.2.1 22 = (.iload 4, 24, 4, 0) := rfl
theorem t109_24 : (am_G 109).2.2.2.2.1 24 = (.invokestatic 123, 27, 107, 0) := rfl
theorem t109_27 : (am_G 109).2.2.2.2.1 27 = (.ifCond .ne 7, 30, 34, 0) := rfl
theorem t109_30 : (am_G 109).2.2.2.2.1 30 = (.iconst 1, 31, 1, 0) := rfl
theorem t109_31 : (am_G 109).2.2.2.2.1 31 = (.goto 17, 34, 48, 0) := rfl
theorem t109_34 : (am_G 109).2.2.2.2.1 34 = (.aload_n 0, 35, 0, 0) := rfl
theorem t109_35 : (am_G 109).2.2.2.2.1 35 = (.getfield 61, 38, 8, 16) := rfl
theorem t109_38 : (am_G 109).2.2.2.2.1 38 = (.bipush 64, 40, 64, 0) := rfl
theorem t109_40 : (am_G 109).2.2.2.2.1 40 = (.if_icmp .ne 7, 43, 47, 0) := rfl
theorem t109_43 : (am_G 109).2.2.2.2.1 43 = (.iconst 2, 44, 2, 0) := rfl
theorem t109_44 : (am_G 109).2.2.2.2.1 44 = (.goto 4, 47, 48, 0) := rfl
theorem t109_47 : (am_G 109).2.2.2.2.1 47 = (.iconst 0, 48, 0, 0) := rfl
theorem t109_48 : (am_G 109).2.2.2.2.1 48 = (.putfield 57, 51, 8, 15) := rfl
theorem t109_51 : (am_G 109).2.2.2.2.1 51 = (.aload_n 0, 52, 0, 0) := rfl
theorem t109_52 : (am_G 109).2.2.2.2.1 52 = (.getfield 57, 55, 8, 15) := rfl
theorem t109_55 : (am_G 109).2.2.2.2.1 55 = (.ifCond .le 5, 58, 60, 0) := rfl
theorem t109_58 : (am_G 109).2.2.2.2.1 58 = (.iconst 0, 59, 0, 0) := rfl
theorem t109_59 : (am_G 109).2.2.2.2.1 59 = (.ireturn, 60, 0, 0) := rfl
theorem t109_60 : (am_G 109).2.2.2.2.1 60 = (.aload_n 0, 61, 0, 0) := rfl
theorem t109_61 : (am_G 109).2.2.2.2.1 61 = (.getfield 13, 64, 8, 1) := rfl
theorem t109_64 : (am_G 109).2.2.2.2.1 64 = (.aload_n 0, 65, 0, 0) := rfl
theorem t109_65 : (am_G 109).2.2.2.2.1 65 = (.getfield 61, 68, 8, 16) := rfl
theorem t109_68 : (am_G 109).2.2.2.2.1 68 = (.iload_n 1, 69, 1, 0) := rfl
theorem t109_69 : (am_G 109).2.2.2.2.1 69 = (.castore, 70, 0, 0) := rfl
theorem t109_70 : (am_G 109).2.2.2.2.1 70 = (.aload_n 0, 71, 0, 0) := rfl
theorem t109_71 : (am_G 109).2.2.2.2.1 71 = (.getfield 26, 74, 8, 5) := rfl
theorem t109_74 : (am_G 109).2.2.2.2.1 74 = (.aload_n 0, 75, 0, 0) := rfl
theorem t109_75 : (am_G 109).2.2.2.2.1 75 = (.getfield 61, 78, 8, 16) := rfl
theorem t109_78 : (am_G 109).2.2.2.2.1 78 = (.iload_n 2, 79, 2, 0) := rfl
theorem t109_79 : (am_G 109).2.2.2.2.1 79 = (.iastore, 80, 0, 0) := rfl
theorem t109_80 : (am_G 109).2.2.2.2.1 80 = (.aload_n 0, 81, 0, 0) := rfl
theorem t109_81 : (am_G 109).2.2.2.2.1 81 = (.getfield 29, 84, 8, 6) := rfl
theorem t109_84 : (am_G 109).2.2.2.2.1 84 = (.aload_n 0, 85, 0, 0) := rfl
theorem t109_85 : (am_G 109).2.2.2.2.1 85 = (.getfield 61, 88, 8, 16) := rfl
theorem t109_88 : (am_G 109).2.2.2.2.1 88 = (.iload_n 3, 89, 3, 0) := rfl
theorem t109_89 : (am_G 109).2.2.2.2.1 89 = (.iastore, 90, 0, 0) := rfl
theorem t109_90 : (am_G 109).2.2.2.2.1 90 = (.aload_n 0, 91, 0, 0) := rfl
theorem t109_91 : (am_G 109).2.2.2.2.1 91 = (.getfield 32, 94, 8, 7) := rfl
theorem t109_94 : (am_G 109).2.2.2.2.1 94 = (.aload_n 0, 95, 0, 0) := rfl
theorem t109_95 : (am_G 109).2.2.2.2.1 95 = (.getfield 61, 98, 8, 16) := rfl
theorem t109_98 : (am_G 109).2.2.2.2.1 98 = (.iload 4, 100, 4, 0) := rfl
theorem t109_100 : (am_G 109).2.2.2.2.1 100 = (.iastore, 101, 0, 0) := rfl
theorem t109_101 : (am_G 109).2.2.2.2.1 101 = (.aload_n 0, 102, 0, 0) := rfl
theorem t109_102 : (am_G 109).2.2.2.2.1 102 = (.dup, 103, 0, 0) := rfl
theorem t109_103 : (am_G 109).2.2.2.2.1 103 = (.getfield 61, 106, 8, 16) := rfl
theorem t109_106 : (am_G 109).2.2.2.2.1 106 = (.iconst 1, 107, 1, 0) := rfl
theorem t109_107 : (am_G 109).2.2.2.2.1 107 = (.iadd, 108, 0, 0) := rfl
theorem t109_108 : (am_G 109).2.2.2.2.1 108 = (.putfield 61, 111, 8, 16) := rfl
theorem t109_111 : (am_G 109).2.2.2.2.1 111 = (.aload_n 0, 112, 0, 0) := rfl
theorem t109_112 : (am_G 109).2.2.2.2.1 112 = (.invokevirtual 97, 115, 100, 8) := rfl
theorem t109_115 : (am_G 109).2.2.2.2.1 115 = (.aload_n 0, 116, 0, 0) := rfl
theorem t109_116 : (am_G 109).2.2.2.2.1 116 = (.getfield 61, 119, 8, 16) := rfl
theorem t109_119 : (am_G 109).2.2.2.2.1 119 = (.iconst 1, 120, 1, 0) := rfl
theorem t109_120 : (am_G 109).2.2.2.2.1 120 = (.isub, 121, 0, 0) := rfl
theorem t109_121 : (am_G 109).2.2.2.2.1 121 = (.ireturn, 122, 0, 0) := rfl
theorem t110_0 : (am_G 110).2.2.2.2.1 0 = (.aload_n 0, 1, 0, 0) := rfl
theorem t110_1 : (am_G 110).2.2.2.2.1 1 = (.aload_n 0, 2, 0, 0) := rfl
theorem t110_2 : (am_G 110).2.2.2.2.1 2 = (.getfield 61, 5, 8, 16) := rfl
theorem t110_5 : (am_G 110).2.2.2.2.1 5 = (.ifCond .le 7, 8, 12, 0) := rfl
theorem t110_8 : (am_G 110).2.2.2.2.1 8 = (.iconst 1, 9, 1, 0) := rfl
theorem t110_9 : (am_G 110).2.2.2.2.1 9 = (.goto 4, 12, 13, 0) := rfl
theorem t110_12 : (am_G 110).2.2.2.2.1 12 = (.iconst 0, 13, 0, 0) := rfl
theorem t110_13 : (am_G 110).2.2.2.2.1 13 = (.invokevirtual 111, 16, 99, 8) := rfl
theorem t110_16 : (am_G 110).2.2.2.2.1 16 = (.ifCond .le 5, 19, 21, 0) := rfl
theorem t110_19 : (am_G 110).2.2.2.2.1 19 = (.iconst 0, 20, 0, 0) := rfl
theorem t110_20 : (am_G 110).2.2.2.2.1 20 = (.ireturn, 21, 0, 0) := rfl
theorem t110_21 : (am_G 110).2.2.2.2.1 21 = (.aload_n 0, 22, 0, 0) := rfl
theorem t110_22 : (am_G 110).2.2.2.2.1 22 = (.dup, 23, 0, 0) := rfl
theorem t110_23 : (am_G 110).2.2.2.2.1 23 = (.getfield 61, 26, 8, 16) := rfl
theorem t110_26 : (am_G 110).2.2.2.2.1 26 = (.iconst 1, 27, 1, 0) := rfl
theorem t110_27 : (am_G 110).2.2.2.2.1 27 = (.isub, 28, 0, 0) := rfl
theorem t110_28 : (am_G 110).2.2.2.2.1 28 = (.putfield 61, 31, 8, 16) := rfl
theorem t110_31 : (am_G 110).2.2.2.2.1 31 = (.aload_n 0, 32, 0, 0) := rfl
theorem t110_32 : (am_G 110).2.2.2.2.1 32 = (.invokevirtual 97, 35, 100, 8) := rfl
theorem t110_35 : (am_G 110).2.2.2.2.1 35 = (.aload_n 0, 36, 0, 0) := rfl
theorem t110_36 : (am_G 110).2.2.2.2.1 36 = (.getfield 61, 39, 8, 16) := rfl
theorem t110_39 : (am_G 110).2.2.2.2.1 39 = (.ireturn, 40, 0, 0) := rfl
theorem t111_0 : (am_G 111).2.2.2.2.1 0 = (.aload_n 0, 1, 0, 0) := rfl
theorem t111_1 : (am_G 111).2.2.2.2.1 1 = (.getfield 13, 4, 8, 1) := rfl
theorem t111_4 : (am_G 111).2.2.2.2.1 4 = (.iload_n 1, 5, 1, 0) := rfl
theorem t111_5 : (am_G 111).2.2.2.2.1 5 = (.caload, 6, 0, 0) := rfl
theorem t111_6 : (am_G 111).2.2.2.2.1 6 = (.bipush 114, 8, 114, 0) := rfl
theorem t111_8 : (am_G 111).2.2.2.2.1 8 = (.if_icmp .eq 14, 11, 22, 0) := rfl
theorem t111_11 : (am_G 111).2.2.2.2.1 11 = (.aload_n 0, 12, 0, 0) := rfl
theorem t111_12 : (am_G 111).2.2.2.2.1 12 = (.getfield 13, 15, 8, 1) := rfl
theorem t111_15 : (am_G 111).2.2.2.2.1 15 = (.iload_n 1, 16, 1, 0) := rfl
theorem t111_16 : (am_G 111).2.2.2.2.1 16 = (.caload, 17, 0, 0) := rfl
theorem t111_17 : (am_G 111).2.2.2.2.1 17 = (.bipush 105, 19, 105, 0) := rfl
theorem t111_19 : (am_G 111).2.2.2.2.1 19 = (.if_icmp .ne 7, 22, 26, 0) := rfl
theorem t111_22 : (am_G 111).2.2.2.2.1 22 = (.iconst 1, 23, 1, 0) := rfl
theorem t111_23 : (am_G 111).2.2.2.2.1 23 = (.goto 4, 26, 27, 0) := rfl
theorem t111_26 : (am_G 111).2.2.2.2.1 26 = (.iconst 0, 27, 0, 0) := rfl
theorem t111_27 : (am_G 111).2.2.2.2.1 27 = (.ireturn, 28, 0, 0) := rfl
theorem t112_0 : (am_G 112).2.2.2.2.1 0 = (.iconst 0, 1, 0, 0) := rfl
theorem t112_1 : (am_G 112).2.2.2.2.1 1 = (.istore_n 1, 2, 1, 0) := rfl
theorem t112_2 : (am_G 112).2.2.2.2.1 2 = (.iconst 0, 3, 0, 0) := rfl
theorem t112_3 : (am_G 112).2.2.2.2.1 3 = (.istore_n 2, 4, 2, 0) := rfl
theorem t112_4 : (am_G 112).2.2.2.2.1 4 = (.iload_n 2, 5, 2, 0) := rfl
theorem t112_5 : (am_G 112).2.2.2.2.1 5 = (.aload_n 0, 6, 0, 0) := rfl
theorem t112_6 : (am_G 112).2.2.2.2.1 6 = (.getfield 61, 9, 8, 16) := rfl
theorem t112_9 : (am_G 112).2.2.2.2.1 9 = (.if_icmp .ge 45, 12, 54, 0) := rfl
theorem t112_12 : (am_G 112).2.2.2.2.1 12 = (.aload_n 0, 13, 0, 0) := rfl
theorem t112_13 : (am_G 112).2.2.2.2.1 13 = (.iload_n 2, 14, 2, 0) := rfl
theorem t112_14 : (am_G 112).2.2.2.2.1 14 = (.invokevirtual 127, 17, 111, 8) := rfl
theorem t112_17 : (am_G 112).2.2.2.2.1 17 = (.ifCond .eq 6, 20, 23, 0) := rfl
theorem t112_20 : (am_G 112).2.2.2.2.1 20 = (.iinc 1 1, 23, 1, 1) := rfl
theorem t112_23 : (am_G 112).2.2.2.2.1 23 = (.aload_n 0, 24, 0, 0) := rfl
theorem t112_24 : (am_G 112).2.2.2.2.1 24 = (.getfield 13, 27, 8, 1) := rfl
theorem t112_27 : (am_G 112).2.2.2.2.1 27 = (.iload_n 2, 28, 2, 0) := rfl
theorem t112_28 : (am_G 112).2.2.2.2.1 28 = (.caload, 29, 0, 0) := rfl
theorem t112_29 : (am_G 112).2.2.2.2.1 29 = (.bipush 101, 31, 101, 0) := rfl
theorem t112_31 : (am_G 112).2.2.2.2.1 31 = (.if_icmp .ne 6, 34, 37, 0) := rfl
theorem t112_34 : (am_G 112).2.2.2.2.1 34 = (.iinc 1 (-1), 37, 1, 4294967295) := rfl
theorem t112_37 : (am_G 112).2.2.2.2.1 37 = (.iload_n 1, 38, 1, 0) := rfl
theorem t112_38 : (am_G 112).2.2.2.2.1 38 = (.ifCond .lt 8, 41, 46, 0) := rfl
theorem t112_41 : (am_G 112).2.2.2.2.1 41 = (.iload_n 1, 42, 1, 0) := rfl
theorem t112_42 : (am_G 112).2.2.2.2.1 42 = (.iconst 3, 43, 3, 0) := rfl
theorem t112_43 : (am_G 112).2.2.2.2.1 43 = (.if_icmp .le 5, 46, 48, 0) := rfl
theorem t112_46 : (am_G 112).2.2.2.2.1 46 = (.iconst 0, 47, 0, 0) := rfl
theorem t112_47 : (am_G 112).2.2.2.2.1 47 = (.ireturn, 48, 0, 0) := rfl
theorem t112_48 : (am_G 112).2.2.2.2.1 48 = (.iinc 2 1, 51, 2, 1) := rfl
theorem t112_51 : (am_G 112).2.2.2.2.1 51 = (.goto (-47), 54, 4, 0) := rfl
theorem t112_54 : (am_G 112).2.2.2.2.1 54 = (.iload_n 1, 55, 1, 0) := rfl
theorem t112_55 : (am_G 112).2.2.2.2.1 55 = (.ifCond .ne 7, 58, 62, 0) := rfl
theorem t112_58 : (am_G 112).2.2.2.2.1 58 = (.iconst 1, 59, 1, 0) := rfl
theorem t112_59 : (am_G 112).2.2.2.2.1 59 = (.goto 4, 62, 63, 0) := rfl
theorem t112_62 : (am_G 112).2.2.2.2.1 62 = (.iconst 0, 63, 0, 0) := rfl
theorem t112_63 : (am_G 112).2.2.2.2.1 63 = (.ireturn, 64, 0, 0) := rfl
theorem t113_0 : (am_G 113).2.2.2.2.1 0 = (.aload_n 0, 1, 0, 0) := rfl
theorem t113_1 : (am_G 113).2.2.2.2.1 1 = (.iconst 0, 2, 0, 0) := rfl
theorem t113_2 : (am_G 113).2.2.2.2.1 2 = (.putfield 57, 5, 8, 15) := rfl
theorem t113_5 : (am_G 113).2.2.2.2.1 5 = (.aload_n 0, 6, 0, 0) := rfl
theorem t113_6 : (am_G 113).2.2.2.2.1 6 = (.invokevirtual 130, 9, 112, 8) := rfl
theorem t113_9 : (am_G 113).2.2.2.2.1 9 = (.ireturn, 10, 0, 0) := rfl
theorem t114_0 : (am_G 114).2.2.2.2.1 0 = (.iconst 1, 1, 1, 0) := rfl
theorem t114_1 : (am_G 114).2.2.2.2.1 1 = (.istore_n 2, 2, 2, 0) := rfl
theorem t114_2 : (am_G 114).2.2.2.2.1 2 = (.iload_n 1, 3, 1, 0) := rfl
theorem t114_3 : (am_G 114).2.2.2.2.1 3 = (.istore_n 3, 4, 3, 0) := rfl
theorem t114_4 : (am_G 114).2.2.2.2.1 4 = (.iload_n 2, 5, 2, 0) := rfl
theorem t114_5 : (am_G 114).2.2.2.2.1 5 = (.ifCond .le 40, 8, 45, 0) := rfl
theorem t114_8 : (am_G 114).2.2.2.2.1 8 = (.iinc 3 1, 11, 3, 1) := rfl
theorem t114_11 : (am_G 114).2.2.2.2.1 11 = (.iload_n 2, 12, 2, 0) := rfl
theorem t114_12 : (am_G 114).2.2.2.2.1 12 = (.aload_n 0, 13, 0, 0) := rfl
theorem t114_13 : (am_G 114).2.2.2.2.1 13 = (.iload_n 3, 14, 3, 0) := rfl
theorem t114_14 : (am_G 114).2.2.2.2.1 14 = (.invokevirtual 127, 17, 111, 8) := rfl
theorem t114_17 : (am_G 114).2.2.2.2.1 17 = (.ifCond .eq 7, 20, 24, 0) := rfl
theorem t114_20 : (am_G 114).2.2.2.2.1 20 = (.iconst 1, 21, 1, 0) := rfl
theorem t114_21 : (am_G 114).2.2.2.2.1 21 = (.goto 19, 24, 40, 0) := rfl
theorem t114_24 : (am_G 114).2.2.2.2.1 24 = (.aload_n 0, 25, 0, 0) := rfl
theorem t114_25 : (am_G 114).2.2.2.2.1 25 = (.getfield 13, 28, 8, 1) := rfl
theorem t114_28 : (am_G 114).2.2.2.2.1 28 = (.iload_n 3, 29, 3, 0) := rfl
theorem t114_29 : (am_G 114).2.2.2.2.1 29 = (.caload, 30, 0, 0) := rfl
theorem t114_30 : (am_G 114).2.2.2.2.1 30 = (.bipush 101, 32, 101, 0) := rfl
theorem t114_32 : (am_G 114).2.2.2.2.1 32 = (.if_icmp .ne 7, 35, 39, 0) := rfl
theorem t114_35 : (am_G 114).2.2.2.2.1 35 = (.iconst (-1), 36, 4294967295, 0) := rfl
theorem t114_36 : (am_G 114).2.2.2.2.1 36 = (.goto 4, 39, 40, 0) := rfl
theorem t114_39 : (am_G 114).2.2.2.2.1 39 = (.iconst 0, 40, 0, 0) := rfl
theorem t114_40 : (am_G 114).2.2.2.2.1 40 = (.iadd, 41, 0, 0) := rfl
theorem t114_41 : (am_G 114).2.2.2.2.1 41 = (.istore_n 2, 42, 2, 0) := rfl
theorem t114_42 : (am_G 114).2.2.2.2.1 42 = (.goto (-38), 45, 4, 0) := rfl
theorem t114_45 : (am_G 114).2.2.2.2.1 45 = (.iload_n 3, 46, 3, 0) := rfl
theorem t114_46 : (am_G 114).2.2.2.2.1 46 = (.ireturn, 47, 0, 0) := rfl
theorem t115_0 : (am_G 115).2.2.2.2.1 0 = (.iconst 1, 1, 1, 0) := rfl
theorem t115_1 : (am_G 115).2.2.2.2.1 1 = (.istore_n 2, 2, 2, 0) := rfl
theorem t115_2 : (am_G 115).2.2.2.2.1 2 = (.iload_n 1, 3, 1, 0) := rfl
theorem t115_3 : (am_G 115).2.2.2.2.1 3 = (.istore_n 3, 4, 3, 0) := rfl
theorem t115_4 : (am_G 115).2.2.2.2.1 4 = (.iload_n 2, 5, 2, 0) := rfl
theorem t115_5 : (am_G 115).2.2.2.2.1 5 = (.ifCond .le 40, 8, 45, 0) := rfl
theorem t115_8 : (am_G 115).2.2.2.2.1 8 = (.iinc 3 (-1), 11, 3, 4294967295) := rfl
theorem t115_11 : (am_G 115).2.2.2.2.1 11 = (.iload_n 2, 12, 2, 0) := rfl
theorem t115_12 : (am_G 115).2.2.2.2.1 12 = (.aload_n 0, 13, 0, 0) := rfl
theorem t115_13 : (am_G 115).2.2.2.2.1 13 = (.getfield 13, 16, 8, 1) := rfl
theorem t115_16 : (am_G 115).2.2.2.2.1 16 = (.iload_n 3, 17, 3, 0) := rfl
theorem t115_17 : (am_G 115).2.2.2.2.1 17 = (.caload, 18, 0, 0) := rfl
theorem t115_18 : (am_G 115).2.2.2.2.1 18 = (.bipush 101, 20, 101, 0) := rfl
theorem t115_20 : (am_G 115).2.2.2.2.1 20 = (.if_icmp .ne 7, 23, 27, 0) := rfl
theorem t115_23 : (am_G 115).2.2.2.2.1 23 = (.iconst 1, 24, 1, 0) := rfl
theorem t115_24 : (am_G 115).2.2.2.2.1 24 = (.goto 16, 27, 40, 0) := rfl
theorem t115_27 : (am_G 115).2.2.2.2.1 27 = (.aload_n 0, 28, 0, 0) := rfl
theorem t115_28 : (am_G 115).2.2.2.2.1 28 = (.iload_n 3, 29, 3, 0) := rfl
theorem t115_29 : (am_G 115).2.2.2.2.1 29 = (.invokevirtual 127, 32, 111, 8) := rfl
theorem t115_32 : (am_G 115).2.2.2.2.1 32 = (.ifCond .eq 7, 35, 39, 0) := rfl
theorem t115_35 : (am_G 115).2.2.2.2.1 35 = (.iconst (-1), 36, 4294967295, 0) := rfl
theorem t115_36 : (am_G 115).2.2.2.2.1 36 = (.goto 4, 39, 40, 0) := rfl
theorem t115_39 : (am_G 115).2.2.2.2.1 39 = (.iconst 0, 40, 0, 0) := rfl
theorem t115_40 : (am_G 115).2.2.2.2.1 40 = (.iadd, 41, 0, 0) := rfl
theorem t115_41 : (am_G 115).2.2.2.2.1 41 = (.istore_n 2, 42, 2, 0) := rfl
theorem t115_42 : (am_G 115).2.2.2.2.1 42 = (.goto (-38), 45, 4, 0) := rfl
theorem t115_45 : (am_G 115).2.2.2.2.1 45 = (.iload_n 3, 46, 3, 0) := rfl
theorem t115_46 : (am_G 115).2.2.2.2.1 46 = (.ireturn, 47, 0, 0) := rfl
theorem t116_0 : (am_G 116).2.2.2.2.1 0 = (.iload_n 1, 1, 1, 0) := rfl
theorem t116_1 : (am_G 116).2.2.2.2.1 1 = (.iload_n 1, 2, 1, 0) := rfl
theorem t116_2 : (am_G 116).2.2.2.2.1 2 = (.imul, 3, 0, 0) := rfl
theorem t116_3 : (am_G 116).2.2.2.2.1 3 = (.iload_n 2, 4, 2, 0) := rfl
theorem t116_4 : (am_G 116).2.2.2.2.1 4 = (.iload_n 2, 5, 2, 0) := rfl
theorem t116_5 : (am_G 116).2.2.2.2.1 5 = (.imul, 6, 0, 0) := rfl
theorem t116_6 : (am_G 116).2.2.2.2.1 6 = (.iadd, 7, 0, 0) := rfl
theorem t116_7 : (am_G 116).2.2.2.2.1 7 = (.istore 4, 9, 4, 0) := rfl
theorem t116_9 : (am_G 116).2.2.2.2.1 9 = (.aload_n 0, 10, 0, 0) := rfl
theorem t116_10 : (am_G 116).2.2.2.2.1 10 = (.getfield 16, 13, 8, 2) := rfl
theorem t116_13 : (am_G 116).2.2.2.2.1 13 = (.aload_n 0, 14, 0, 0) := rfl
theorem t116_14 : (am_G 116).2.2.2.2.1 14 = (.getfield 70, 17, 8, 19) := rfl
theorem t116_17 : (am_G 116).2.2.2.2.1 17 = (.iaload, 18, 0, 0) := rfl
theorem t116_18 : (am_G 116).2.2.2.2.1 18 = (.istore 5, 20, 5, 0) := rfl
theorem t116_20 : (am_G 116).2.2.2.2.1 20 = (.iload_n 3, 21, 3, 0) := rfl
theorem t116_21 : (am_G 116).2.2.2.2.1 21 = (.ifCond .ge 5, 24, 26, 0) := rfl
theorem t116_24 : (am_G 116).2.2.2.2.1 24 = (.iconst 0, 25, 0, 0) := rfl
theorem t116_25 : (am_G 116).2.2.2.2.1 25 = (.ireturn, 26, 0, 0) := rfl
theorem t116_26 : (am_G 116).2.2.2.2.1 26 = (.aload_n 0, 27, 0, 0) := rfl
theorem t116_27 : (am_G 116).2.2.2.2.1 27 = (.getfield 7, 30, 8, 0) := rfl
theorem t116_30 : (am_G 116).2.2.2.2.1 30 = (.aload_n 0, 31, 0, 0) := rfl
theorem t116_31 : (am_G 116).2.2.2.2.1 31 = (.getfield 70, 34, 8, 19) := rfl
theorem t116_34 : (am_G 116).2.2.2.2.1 34 = (.caload, 35, 0, 0) := rfl
theorem t116_35 : (am_G 116).2.2.2.2.1 35 = (.bipush 101, 37, 101, 0) := rfl
theorem t116_37 : (am_G 116).2.2.2.2.1 37 = (.if_icmp .ne 19, 40, 56, 0) := rfl
theorem t116_40 : (am_G 116).2.2.2.2.1 40 = (.iload 4, 42, 4, 0) := rfl
theorem t116_42 : (am_G 116).2.2.2.2.1 42 = (.iload 5, 44, 5, 0) := rfl
theorem t116_44 : (am_G 116).2.2.2.2.1 44 = (.iload 5, 46, 5, 0) := rfl
theorem t116_46 : (am_G 116).2.2.2.2.1 46 = (.imul, 47, 0, 0) := rfl
theorem t116_47 : (am_G 116).2.2.2.2.1 47 = (.if_icmp .gt 7, 50, 54, 0) := rfl
theorem t116_50 : (am_G 116).2.2.2.2.1 50 = (.iconst 1, 51, 1, 0) := rfl
theorem t116_51 : (am_G 116).2.2.2.2.1 51 = (.goto 4, 54, 55, 0) := rfl
theorem t116_54 : (am_G 116).2.2.2.2.1 54 = (.iconst 0, 55, 0, 0) := rfl
theorem t116_55 : (am_G 116).2.2.2.2.1 55 = (.ireturn, 56, 0, 0) := rfl
theorem t116_56 : (am_G 116).2.2.2.2.1 56 = (.iload_n 3, 57, 3, 0) := rfl
theorem t116_57 : (am_G 116).2.2.2.2.1 57 = (.iload 5, 59, 5, 0) := rfl
theorem t116_59 : (am_G 116).2.2.2.2.1 59 = (.if_icmp .ge 7, 62, 66, 0) := rfl
theorem t116_62 : (am_G 116).2.2.2.2.1 62 = (.iload_n 3, 63, 3, 0) := rfl
theorem t116_63 : (am_G 116).2.2.2.2.1 63 = (.goto 5, 66, 68, 0) := rfl
theorem t116_66 : (am_G 116).2.2.2.2.1 66 = (.iload 5, 68, 5, 0) := rfl
theorem t116_68 : (am_G 116).2.2.2.2.1 68 = (.istore 6, 70, 6, 0) := rfl
theorem t116_70 : (am_G 116).2.2.2.2.1 70 = (.aload_n 0, 71, 0, 0) := rfl
theorem t116_71 : (am_G 116).2.2.2.2.1 71 = (.getfield 7, 74, 8, 0) := rfl
theorem t116_74 : (am_G 116).2.2.2.2.1 74 = (.aload_n 0, 75, 0, 0) := rfl
theorem t116_75 : (am_G 116).2.2.2.2.1 75 = (.getfield 70, 78, 8, 19) := rfl
theorem t116_78 : (am_G 116).2.2.2.2.1 78 = (.caload, 79, 0, 0) := rfl
theorem t116_79 : (am_G 116).2.2.2.2.1 79 = (.bipush 98, 81, 98, 0) := rfl
theorem t116_81 : (am_G 116).2.2.2.2.1 81 = (.if_icmp .ne 33, 84, 114, 0) := rfl
theorem t116_84 : (am_G 116).2.2.2.2.1 84 = (.iload 4, 86, 4, 0) := rfl
theorem t116_86 : (am_G 116).2.2.2.2.1 86 = (.iload 5, 88, 5, 0) := rfl
theorem t116_88 : (am_G 116).2.2.2.2.1 88 = (.iload 6, 90, 6, 0) := rfl
theorem t116_90 : (am_G 116).2.2.2.2.1 90 = (.isub, 91, 0, 0) := rfl
theorem t116_91 : (am_G 116).2.2.2.2.1 91 = (.iload 5, 93, 5, 0) := rfl
theorem t116_93 : (am_G 116).2.2.2.2.1 93 = (.iload 6, 95, 6, 0) := rfl
theorem t116_95 : (am_G 116).2.2.2.2.1 95 = (.isub, 96, 0, 0) := rfl
theorem t116_96 : (am_G 116).2.2.2.2.1 96 = (.imul, 97, 0, 0) := rfl
theorem t116_97 : (am_G 116).2.2.2.2.1 97 = (.iadd, 98, 0, 0) := rfl
theorem t116_98 : (am_G 116).2.2.2.2.1 98 = (.iload 5, 100, 5, 0) := rfl
theorem t116_100 : (am_G 116).2.2.2.2.1 100 = (.iload 5, 102, 5, 0) := rfl
theorem t116_102 : (am_G 116).2.2.2.2.1 102 = (.imul, 103, 0, 0) := rfl
theorem t116_103 : (am_G 116).2.2.2.2.1 103 = (.if_icmp .gt 7, 106, 110, 0) := rfl
theorem t116_106 : (am_G 116).2.2.2.2.1 106 = (.iconst 1, 107, 1, 0) := rfl
theorem t116_107 : (am_G 116).2.2.2.2.1 107 = (.goto 22, 110, 129, 0) := rfl
theorem t116_110 : (am_G 116).2.2.2.2.1 110 = (.iconst 0, 111, 0, 0) := rfl
theorem t116_111 : (am_G 116).2.2.2.2.1 111 = (.goto 18, 114, 129, 0) := rfl
theorem t116_114 : (am_G 116).2.2.2.2.1 114 = (.iload 4, 116, 4, 0) := rfl
theorem t116_116 : (am_G 116).2.2.2.2.1 116 = (.iload 6, 118, 6, 0) := rfl
theorem t116_118 : (am_G 116).2.2.2.2.1 118 = (.iload 6, 120, 6, 0) := rfl
theorem t116_120 : (am_G 116).2.2.2.2.1 120 = (.imul, 121, 0, 0) := rfl
theorem t116_121 : (am_G 116).2.2.2.2.1 121 = (.if_icmp .gt 7, 124, 128, 0) := rfl
theorem t116_124 : (am_G 116).2.2.2.2.1 124 = (.iconst 1, 125, 1, 0) := rfl
theorem t116_125 : (am_G 116).2.2.2.2.1 125 = (.goto 4, 128, 129, 0) := rfl
theorem t116_128 : (am_G 116).2.2.2.2.1 128 = (.iconst 0, 129, 0, 0) := rfl
theorem t116_129 : (am_G 116).2.2.2.2.1 129 = (.ireturn, 130, 0, 0) := rfl
theorem t117_0 : (am_G 117).2.2.2.2.1 0 = (.iconst 0, 1, 0, 0) := rfl
theorem t117_1 : (am_G 117).2.2.2.2.1 1 = (.istore 6, 3, 6, 0) := rfl
theorem t117_3 : (am_G 117).2.2.2.2.1 3 = (.iconst 0, 4, 0, 0) := rfl
theorem t117_4 : (am_G 117).2.2.2.2.1 4 = (.istore 7, 6, 7, 0) := rfl
theorem t117_6 : (am_G 117).2.2.2.2.1 6 = (.iload 7, 8, 7, 0) := rfl
theorem t117_8 : (am_G 117).2.2.2.2.1 8 = (.sipush 1152, 11, 1152, 0) := rfl
theorem t117_11 : (am_G 117).2.2.2.2.1 11 = (.if_icmp .ge 100, 14, 111, 0) := rfl
theorem t117_14 : (am_G 117).2.2.2.2.1 14 = (.aload_n 0, 15, 0, 0) := rfl
theorem t117_15 : (am_G 117).2.2.2.2.1 15 = (.getfield 70, 18, 8, 19) := rfl
theorem t117_18 : (am_G 117).2.2.2.2.1 18 = (.ifCond .lt 93, 21, 111, 0) := rfl
theorem t117_21 : (am_G 117).2.2.2.2.1 21 = (.iload 4, 23, 4, 0) := rfl
theorem t117_23 : (am_G 117).2.2.2.2.1 23 = (.ifCond .eq 13, 26, 36, 0) := rfl
theorem t117_26 : (am_G 117).2.2.2.2.1 26 = (.aload_n 0, 27, 0, 0) := rfl
theorem t117_27 : (am_G 117).2.2.2.2.1 27 = (.getfield 54, 30, 8, 14) := rfl
theorem t117_30 : (am_G 117).2.2.2.2.1 30 = (.iload 7, 32, 7, 0) := rfl
theorem t117_32 : (am_G 117).2.2.2.2.1 32 = (.baload, 33, 0, 0) := rfl
theorem t117_33 : (am_G 117).2.2.2.2.1 33 = (.ifCond .eq 18, 36, 51, 0) := rfl
theorem t117_36 : (am_G 117).2.2.2.2.1 36 = (.iload 5, 38, 5, 0) := rfl
theorem t117_38 : (am_G 117).2.2.2.2.1 38 = (.ifCond .eq 17, 41, 55, 0) := rfl
theorem t117_41 : (am_G 117).2.2.2.2.1 41 = (.aload_n 0, 42, 0, 0) := rfl
theorem t117_42 : (am_G 117).2.2.2.2.1 42 = (.getfield 50, 45, 8, 13) := rfl
theorem t117_45 : (am_G 117).2.2.2.2.1 45 = (.iload 7, 47, 7, 0) := rfl
theorem t117_47 : (am_G 117).2.2.2.2.1 47 = (.baload, 48, 0, 0) := rfl
theorem t117_48 : (am_G 117).2.2.2.2.1 48 = (.ifCond .eq 7, 51, 55, 0) := rfl
theorem t117_51 : (am_G 117).2.2.2.2.1 51 = (.iconst 1, 52, 1, 0) := rfl
theorem t117_52 : (am_G 117).2.2.2.2.1 52 = (.goto 4, 55, 56, 0) := rfl
theorem t117_55 : (am_G 117).2.2.2.2.1 55 = (.iconst 0, 56, 0, 0) := rfl
theorem t117_56 : (am_G 117).2.2.2.2.1 56 = (.istore 8, 58, 8, 0) := rfl
theorem t117_58 : (am_G 117).2.2.2.2.1 58 = (.iload 6, 60, 6, 0) := rfl
theorem t117_60 : (am_G 117).2.2.2.2.1 60 = (.iload 8, 62, 8, 0) := rfl
theorem t117_62 : (am_G 117).2.2.2.2.1 62 = (.ifCond .eq 39, 65, 101, 0) := rfl
theorem t117_65 : (am_G 117).2.2.2.2.1 65 = (.aload_n 0, 66, 0, 0) := rfl
theorem t117_66 : (am_G 117).2.2.2.2.1 66 = (.iload 7, 68, 7, 0) := rfl
theorem t117_68 : (am_G 117).2.2.2.2.1 68 = (.bipush 16, 70, 16, 0) := rfl
theorem t117_70 : (am_G 117).2.2.2.2.1 70 = (.irem, 71, 0, 0) := rfl
theorem t117_71 : (am_G 117).2.2.2.2.1 71 = (.iload_n 1, 72, 1, 0) := rfl
theorem t117_72 : (am_G 117).2.2.2.2.1 72 = (.isub, 73, 0, 0) := rfl
theorem t117_73 : (am_G 117).2.2.2.2.1 73 = (.iload 7, 75, 7, 0) := rfl
theorem t117_75 : (am_G 117).2.2.2.2.1 75 = (.bipush 16, 77, 16, 0) := rfl
theorem t117_77 : (am_G 117).2.2.2.2.1 77 = (.idiv, 78, 0, 0) := rfl
theorem t117_78 : (am_G 117).2.2.2.2.1 78 = (.bipush 12, 80, 12, 0) := rfl
theorem t117_80 : (am_G 117).2.2.2.2.1 80 = (.irem, 81, 0, 0) := rfl
theorem t117_81 : (am_G 117).2.2.2.2.1 81 = (.iload_n 2, 82, 2, 0) := rfl
theorem t117_82 : (am_G 117).2.2.2.2.1 82 = (.isub, 83, 0, 0) := rfl
theorem t117_83 : (am_G 117).2.2.2.2.1 83 = (.iload 7, 85, 7, 0) := rfl
theorem t117_85 : (am_G 117).2.2.2.2.1 85 = (.sipush 192, 88, 192, 0) := rfl
theorem t117_88 : (am_G 117).2.2.2.2.1 88 = (.idiv, 89, 0, 0) := rfl
theorem t117_89 : (am_G 117).2.2.2.2.1 89 = (.iload_n 3, 90, 3, 0) := rfl
theorem t117_90 : (am_G 117).2.2.2.2.1 90 = (.isub, 91, 0, 0) := rfl
theorem t117_91 : (am_G 117).2.2.2.2.1 91 = (.invokevirtual 134, 94, 116, 8) := rfl
theorem t117_94 : (am_G 117).2.2.2.2.1 94 = (.ifCond .eq 7, 97, 101, 0) := rfl
theorem t117_97 : (am_G 117).2.2.2.2.1 97 = (.iconst 1, 98, 1, 0) := rfl
theorem t117_98 : (am_G 117).2.2.2.2.1 98 = (.goto 4, 101, 102, 0) := rfl
theorem t117_101 : (am_G 117).2.2.2.2.1 101 = (.iconst 0, 102, 0, 0) := rfl
theorem t117_102 : (am_G 117).2.2.2.2.1 102 = (.iadd, 103, 0, 0) := rfl
theorem t117_103 : (am_G 117).2.2.2.2.1 103 = (.istore 6, 105, 6, 0) := rfl
theorem t117_105 : (am_G 117).2.2.2.2.1 105 = (.iinc 7 1, 108, 7, 1) := rfl
theorem t117_108 : (am_G 117).2.2.2.2.1 108 = (.goto (-102), 111, 6, 0) := rfl
theorem t117_111 : (am_G 117).2.2.2.2.1 111 = (.iload 6, 113, 6, 0) := rfl
theorem t117_113 : (am_G 117).2.2.2.2.1 113 = (.ireturn, 114, 0, 0) := rfl
theorem t118_0 : (am_G 118).2.2.2.2.1 0 = (.iconst 0, 1, 0, 0) := rfl
theorem t118_1 : (am_G 118).2.2.2.2.1 1 = (.istore 4, 3, 4, 0) := rfl
theorem t118_3 : (am_G 118).2.2.2.2.1 3 = (.iload 4, 5, 4, 0) := rfl
theorem t118_5 : (am_G 118).2.2.2.2.1 5 = (.sipush 1152, 8, 1152, 0) := rfl
theorem t118_8 : (am_G 118).2.2.2.2.1 8 = (.if_icmp .ge 75, 11, 83, 0) := rfl
theorem t118_11 : (am_G 118).2.2.2.2.1 11 = (.aload_n 0, 12, 0, 0) := rfl
theorem t118_12 : (am_G 118).2.2.2.2.1 12 = (.getfield 54, 15, 8, 14) := rfl
theorem t118_15 : (am_G 118).2.2.2.2.1 15 = (.iload 4, 17, 4, 0) := rfl
theorem t118_17 : (am_G 118).2.2.2.2.1 17 = (.baload, 18, 0, 0) := rfl
theorem t118_18 : (am_G 118).2.2.2.2.1 18 = (.ifCond .ne 59, 21, 77, 0) := rfl
theorem t118_21 : (am_G 118).2.2.2.2.1 21 = (.aload_n 0, 22, 0, 0) := rfl
theorem t118_22 : (am_G 118).2.2.2.2.1 22 = (.iload 4, 24, 4, 0) := rfl
theorem t118_24 : (am_G 118).2.2.2.2.1 24 = (.bipush 16, 26, 16, 0) := rfl
theorem t118_26 : (am_G 118).2.2.2.2.1 26 = (.irem, 27, 0, 0) := rfl
theorem t118_27 : (am_G 118).2.2.2.2.1 27 = (.iload_n 1, 28, 1, 0) := rfl
theorem t118_28 : (am_G 118).2.2.2.2.1 28 = (.isub, 29, 0, 0) := rfl
theorem t118_29 : (am_G 118).2.2.2.2.1 29 = (.iload 4, 31, 4, 0) := rfl
theorem t118_31 : (am_G 118).2.2.2.2.1 31 = (.bipush 16, 33, 16, 0) := rfl
theorem t118_33 : (am_G 118).2.2.2.2.1 33 = (.idiv, 34, 0, 0) := rfl
theorem t118_34 : (am_G 118).2.2.2.2.1 34 = (.bipush 12, 36, 12, 0) := rfl
theorem t118_36 : (am_G 118).2.2.2.2.1 36 = (.irem, 37, 0, 0) := rfl
theorem t118_37 : (am_G 118).2.2.2.2.1 37 = (.iload_n 2, 38, 2, 0) := rfl
theorem t118_38 : (am_G 118).2.2.2.2.1 38 = (.isub, 39, 0, 0) := rfl
theorem t118_39 : (am_G 118).2.2.2.2.1 39 = (.iload 4, 41, 4, 0) := rfl
theorem t118_41 : (am_G 118).2.2.2.2.1 41 = (.sipush 192, 44, 192, 0) := rfl
theorem t118_44 : (am_G 118).2.2.2.2.1 44 = (.idiv, 45, 0, 0) := rfl
theorem t118_45 : (am_G 118).2.2.2.2.1 45 = (.iload_n 3, 46, 3, 0) := rfl
theorem t118_46 : (am_G 118).2.2.2.2.1 46 = (.isub, 47, 0, 0) := rfl
theorem t118_47 : (am_G 118).2.2.2.2.1 47 = (.invokevirtual 134, 50, 116, 8) := rfl
theorem t118_50 : (am_G 118).2.2.2.2.1 50 = (.ifCond .ne 6, 53, 56, 0) := rfl
theorem t118_53 : (am_G 118).2.2.2.2.1 53 = (.goto 24, 56, 77, 0) := rfl
theorem t118_56 : (am_G 118).2.2.2.2.1 56 = (.aload_n 0, 57, 0, 0) := rfl
theorem t118_57 : (am_G 118).2.2.2.2.1 57 = (.getfield 54, 60, 8, 14) := rfl
theorem t118_60 : (am_G 118).2.2.2.2.1 60 = (.iload 4, 62, 4, 0) := rfl
theorem t118_62 : (am_G 118).2.2.2.2.1 62 = (.iconst 1, 63, 1, 0) := rfl
theorem t118_63 : (am_G 118).2.2.2.2.1 63 = (.bastore, 64, 0, 0) := rfl
theorem t118_64 : (am_G 118).2.2.2.2.1 64 = (.aload_n 0, 65, 0, 0) := rfl
theorem t118_65 : (am_G 118).2.2.2.2.1 65 = (.getfield 23, 68, 8, 4) := rfl
theorem t118_68 : (am_G 118).2.2.2.2.1 68 = (.aload_n 0, 69, 0, 0) := rfl
theorem t118_69 : (am_G 118).2.2.2.2.1 69 = (.getfield 70, 72, 8, 19) := rfl
theorem t118_72 : (am_G 118).2.2.2.2.1 72 = (.dup2, 73, 0, 0) := rfl
theorem t118_73 : (am_G 118).2.2.2.2.1 73 = (.iaload, 74, 0, 0) := rfl
theorem t118_74 : (am_G 118).2.2.2.2.1 74 = (.iconst 1, 75, 1, 0) := rfl
theorem t118_75 : (am_G 118).2.2.2.2.1 75 = (.iadd, 76, 0, 0) := rfl
theorem t118_76 : (am_G 118).2.2.2.2.1 76 = (.iastore, 77, 0, 0) := rfl
theorem t118_77 : (am_G 118).2.2.2.2.1 77 = (.iinc 4 1, 80, 4, 1) := rfl
theorem t118_80 : (am_G 118).2.2.2.2.1 80 = (.goto (-77), 83, 3, 0) := rfl
theorem t118_83 : (am_G 118).2.2.2.2.1 83 = (.return_, 84, 0, 0) := rfl
theorem t119_0 : (am_G 119).2.2.2.2.1 0 = (.iload_n 0, 1, 0, 0) := rfl
theorem t119_1 : (am_G 119).2.2.2.2.1 1 = (.ifCond .ge 8, 4, 9, 0) := rfl
theorem t119_4 : (am_G 119).2.2.2.2.1 4 = (.iload_n 0, 5, 0, 0) := rfl
theorem t119_5 : (am_G 119).2.2.2.2.1 5 = (.ineg, 6, 0, 0) := rfl
theorem t119_6 : (am_G 119).2.2.2.2.1 6 = (.goto 4, 9, 10, 0) := rfl
theorem t119_9 : (am_G 119).2.2.2.2.1 9 = (.iload_n 0, 10, 0, 0) := rfl
theorem t119_10 : (am_G 119).2.2.2.2.1 10 = (.ireturn, 11, 0, 0) := rfl
theorem t120_0 : (am_G 120).2.2.2.2.1 0 = (.iload_n 0, 1, 0, 0) := rfl
theorem t120_1 : (am_G 120).2.2.2.2.1 1 = (.iload_n 1, 2, 1, 0) := rfl
theorem t120_2 : (am_G 120).2.2.2.2.1 2 = (.if_icmp .le 7, 5, 9, 0) := rfl
theorem t120_5 : (am_G 120).2.2.2.2.1 5 = (.iload_n 0, 6, 0, 0) := rfl
theorem t120_6 : (am_G 120).2.2.2.2.1 6 = (.goto 4, 9, 10, 0) := rfl
theorem t120_9 : (am_G 120).2.2.2.2.1 9 = (.iload_n 1, 10, 1, 0) := rfl
theorem t120_10 : (am_G 120).2.2.2.2.1 10 = (.ireturn, 11, 0, 0) := rfl
theorem t121_0 : (am_G 121).2.2.2.2.1 0 = (.iload 4, 2, 4, 0) := rfl
theorem t121_2 : (am_G 121).2.2.2.2.1 2 = (.invokestatic 137, 5, 119, 0) := rfl
theorem t121_5 : (am_G 121).2.2.2.2.1 5 = (.iload 5, 7, 5, 0) := rfl
theorem t121_7 : (am_G 121).2.2.2.2.1 7 = (.invokestatic 137, 10, 119, 0) := rfl
theorem t121_10 : (am_G 121).2.2.2.2.1 10 = (.iload 6, 12, 6, 0) := rfl
theorem t121_12 : (am_G 121).2.2.2.2.1 12 = (.invokestatic 137, 15, 119, 0) := rfl
theorem t121_15 : (am_G 121).2.2.2.2.1 15 = (.invokestatic 141, 18, 120, 0) := rfl
theorem t121_18 : (am_G 121).2.2.2.2.1 18 = (.invokestatic 141, 21, 120, 0) := rfl
theorem t121_21 : (am_G 121).2.2.2.2.1 21 = (.istore 8, 23, 8, 0) := rfl
theorem t121_23 : (am_G 121).2.2.2.2.1 23 = (.iconst 1, 24, 1, 0) := rfl
theorem t121_24 : (am_G 121).2.2.2.2.1 24 = (.istore 9, 26, 9, 0) := rfl
theorem t121_26 : (am_G 121).2.2.2.2.1 26 = (.iload 9, 28, 9, 0) := rfl
theorem t121_28 : (am_G 121).2.2.2.2.1 28 = (.iload 8, 30, 8, 0) := rfl
theorem t121_30 : (am_G 121).2.2.2.2.1 30 = (.if_icmp .gt 148, 33, 178, 0) := rfl
theorem t121_33 : (am_G 121).2.2.2.2.1 33 = (.iload_n 1, 34, 1, 0) := rfl
theorem t121_34 : (am_G 121).2.2.2.2.1 34 = (.iload 4, 36, 4, 0) := rfl
theorem t121_36 : (am_G 121).2.2.2.2.1 36 = (.iload 9, 38, 9, 0) := rfl
theorem t121_38 : (am_G 121).2.2.2.2.1 38 = (.imul, 39, 0, 0) := rfl
theorem t121_39 : (am_G 121).2.2.2.2.1 39 = (.iload 8, 41, 8, 0) := rfl
theorem t121_41 : (am_G 121).2.2.2.2.1 41 = (.idiv, 42, 0, 0) := rfl
theorem t121_42 : (am_G 121).2.2.2.2.1 42 = (.iadd, 43, 0, 0) := rfl
theorem t121_43 : (am_G 121).2.2.2.2.1 43 = (.istore 10, 45, 10, 0) := rfl
theorem t121_45 : (am_G 121).2.2.2.2.1 45 = (.iload_n 2, 46, 2, 0) := rfl
theorem t121_46 : (am_G 121).2.2.2.2.1 46 = (.iload 5, 48, 5, 0) := rfl
theorem t121_48 : (am_G 121).2.2.2.2.1 48 = (.iload 9, 50, 9, 0) := rfl
theorem t121_50 : (am_G 121).2.2.2.2.1 50 = (.imul, 51, 0, 0) := rfl
theorem t121_51 : (am_G 121).2.2.2.2.1 51 = (.iload 8, 53, 8, 0) := rfl
theorem t121_53 : (am_G 121).2.2.2.2.1 53 = (.idiv, 54, 0, 0) := rfl
theorem t121_54 : (am_G 121).2.2.2.2.1 54 = (.iadd, 55, 0, 0) := rfl
theorem t121_55 : (am_G 121).2.2.2.2.1 55 = (.istore 11, 57, 11, 0) := rfl
theorem t121_57 : (am_G 121).2.2.2.2.1 57 = (.iload_n 3, 58, 3, 0) := rfl
theorem t121_58 : (am_G 121).2.2.2.2.1 58 = (.iload 6, 60, 6, 0) := rfl
theorem t121_60 : (am_G 121).2.2.2.2.1 60 = (.iload 9, 62, 9, 0) := rfl
theorem t121_62 : (am_G 121).2.2.2.2.1 62 = (.imul, 63, 0, 0) := rfl
theorem t121_63 : (am_G 121).2.2.2.2.1 63 = (.iload 8, 65, 8, 0) := rfl
theorem t121_65 : (am_G 121).2.2.2.2.1 65 = (.idiv, 66, 0, 0) := rfl
theorem t121_66 : (am_G 121).2.2.2.2.1 66 = (.iadd, 67, 0, 0) := rfl
theorem t121_67 : (am_G 121).2.2.2.2.1 67 = (.istore 12, 69, 12, 0) := rfl
theorem t121_69 : (am_G 121).2.2.2.2.1 69 = (.aload_n 0, 70, 0, 0) := rfl
theorem t121_70 : (am_G 121).2.2.2.2.1 70 = (.getfield 94, 73, 8, 26) := rfl
theorem t121_73 : (am_G 121).2.2.2.2.1 73 = (.bipush 108, 75, 108, 0) := rfl
theorem t121_75 : (am_G 121).2.2.2.2.1 75 = (.if_icmp .ne 38, 78, 113, 0) := rfl
theorem t121_78 : (am_G 121).2.2.2.2.1 78 = (.iload 10, 80, 10, 0) := rfl
theorem t121_80 : (am_G 121).2.2.2.2.1 80 = (.iconst 0, 81, 0, 0) := rfl
theorem t121_81 : (am_G 121).2.2.2.2.1 81 = (.bipush 15, 83, 15, 0) := rfl
theorem t121_83 : (am_G 121).2.2.2.2.1 83 = (.invokestatic 100, 86, 97, 0) := rfl
theorem t121_86 : (am_G 121).2.2.2.2.1 86 = (.ifCond .eq 25, 89, 111, 0) := rfl
theorem t121_89 : (am_G 121).2.2.2.2.1 89 = (.iload 11, 91, 11, 0) := rfl
theorem t121_91 : (am_G 121).2.2.2.2.1 91 = (.iconst 0, 92, 0, 0) := rfl
theorem t121_92 : (am_G 121).2.2.2.2.1 92 = (.bipush 11, 94, 11, 0) := rfl
theorem t121_94 : (am_G 121).2.2.2.2.1 94 = (.invokestatic 100, 97, 97, 0) := rfl
theorem t121_97 : (am_G 121).2.2.2.2.1 97 = (.ifCond .eq 14, 100, 111, 0) := rfl
theorem t121_100 : (am_G 121).2.2.2.2.1 100 = (.iload 12, 102, 12, 0) := rfl
theorem t121_102 : (am_G 121).2.2.2.2.1 102 = (.iconst 0, 103, 0, 0) := rfl
theorem t121_103 : (am_G 121).2.2.2.2.1 103 = (.bipush 9, 105, 9, 0) := rfl
theorem t121_105 : (am_G 121).2.2.2.2.1 105 = (.invokestatic 100, 108, 97, 0) := rfl
theorem t121_108 : (am_G 121).2.2.2.2.1 108 = (.ifCond .ne 5, 111, 113, 0) := rfl
theorem t121_111 : (am_G 121).2.2.2.2.1 111 = (.iconst 0, 112, 0, 0) := rfl
theorem t121_112 : (am_G 121).2.2.2.2.1 112 = (.ireturn, 113, 0, 0) := rfl
theorem t121_113 : (am_G 121).2.2.2.2.1 113 = (.aload_n 0, 114, 0, 0) := rfl
theorem t121_114 : (am_G 121).2.2.2.2.1 114 = (.getfield 94, 117, 8, 26) := rfl
theorem t121_117 : (am_G 121).2.2.2.2.1 117 = (.bipush 99, 119, 99, 0) := rfl
theorem t121_119 : (am_G 121).2.2.2.2.1 119 = (.if_icmp .ne 29, 122, 148, 0) := rfl
theorem t121_122 : (am_G 121).2.2.2.2.1 122 = (.aload_n 0, 123, 0, 0) := rfl
theorem t121_123 : (am_G 121).2.2.2.2.1 123 = (.iload 10, 125, 10, 0) := rfl
theorem t121_125 : (am_G 121).2.2.2.2.1 125 = (.iload 11, 127, 11, 0) := rfl
theorem t121_127 : (am_G 121).2.2.2.2.1 127 = (.iload 12, 129, 12, 0) := rfl
theorem t121_129 : (am_G 121).2.2.2.2.1 129 = (.iload 7, 131, 7, 0) := rfl
theorem t121_131 : (am_G 121).2.2.2.2.1 131 = (.ifCond .ne 7, 134, 138, 0) := rfl
theorem t121_134 : (am_G 121).2.2.2.2.1 134 = (.iconst 1, 135, 1, 0) := rfl
theorem t121_135 : (am_G 121).2.2.2.2.1 135 = (.goto 4, 138, 139, 0) := rfl
theorem t121_138 : (am_G 121).2.2.2.2.1 138 = (.iconst 0, 139, 0, 0) := rfl
theorem t121_139 : (am_G 121).2.2.2.2.1 139 = (.iconst 1, 140, 1, 0) := rfl
theorem t121_140 : (am_G 121).2.2.2.2.1 140 = (.invokevirtual 145, 143, 117, 8) := rfl
theorem t121_143 : (am_G 121).2.2.2.2.1 143 = (.ifCond .le 5, 146, 148, 0) := rfl
theorem t121_146 : (am_G 121).2.2.2.2.1 146 = (.iconst 0, 147, 0, 0) := rfl
theorem t121_147 : (am_G 121).2.2.2.2.1 147 = (.ireturn, 148, 0, 0) := rfl
theorem t121_148 : (am_G 121).2.2.2.2.1 148 = (.aload_n 0, 149, 0, 0) := rfl
theorem t121_149 : (am_G 121).2.2.2.2.1 149 = (.getfield 94, 152, 8, 26) := rfl
theorem t121_152 : (am_G 121).2.2.2.2.1 152 = (.bipush 100, 154, 100, 0) := rfl
theorem t121_154 : (am_G 121).2.2.2.2.1 154 = (.if_icmp .ne 18, 157, 172, 0) := rfl
theorem t121_157 : (am_G 121).2.2.2.2.1 157 = (.iload 7, 159, 7, 0) := rfl
theorem t121_159 : (am_G 121).2.2.2.2.1 159 = (.ifCond .eq 13, 162, 172, 0) := rfl
theorem t121_162 : (am_G 121).2.2.2.2.1 162 = (.aload_n 0, 163, 0, 0) := rfl
theorem t121_163 : (am_G 121).2.2.2.2.1 163 = (.iload 10, 165, 10, 0) := rfl
theorem t121_165 : (am_G 121).2.2.2.2.1 165 = (.iload 11, 167, 11, 0) := rfl
theorem t121_167 : (am_G 121).2.2.2.2.1 167 = (.iload 12, 169, 12, 0) := rfl
theorem t121_169 : (am_G 121).2.2.2.2.1 169 = (.invokevirtual 149, 172, 118, 8) := rfl
theorem t121_172 : (am_G 121).2.2.2.2.1 172 = (.iinc 9 1, 175, 9, 1) := rfl
theorem t121_175 : (am_G 121).2.2.2.2.1 175 = (.goto (-149), 178, 26, 0) := rfl
theorem t121_178 : (am_G 121).2.2.2.2.1 178 = (.aload_n 0, 179, 0, 0) := rfl
theorem t121_179 : (am_G 121).2.2.2.2.1 179 = (.getfield 94, 182, 8, 26) := rfl
theorem t121_182 : (am_G 121).2.2.2.2.1 182 = (.bipush 100, 184, 100, 0) := rfl
theorem t121_184 : (am_G 121).2.2.2.2.1 184 = (.if_icmp .ne 33, 187, 217, 0) := rfl
theorem t121_187 : (am_G 121).2.2.2.2.1 187 = (.aload_n 0, 188, 0, 0) := rfl
theorem t121_188 : (am_G 121).2.2.2.2.1 188 = (.dup, 189, 0, 0) := rfl
theorem t121_189 : (am_G 121).2.2.2.2.1 189 = (.getfield 86, 192, 8, 24) := rfl
theorem t121_192 : (am_G 121).2.2.2.2.1 192 = (.iload 8, 194, 8, 0) := rfl
theorem t121_194 : (am_G 121).2.2.2.2.1 194 = (.i2f, 195, 0, 0) := rfl
theorem t121_195 : (am_G 121).2.2.2.2.1 195 = (.fconst 1, 196, 0, 0) := rfl
theorem t121_196 : (am_G 121).2.2.2.2.1 196 = (.iload 7, 198, 7, 0) := rfl
theorem t121_198 : (am_G 121).2.2.2.2.1 198 = (.ifCond .eq 11, 201, 209, 0) := rfl
theorem t121_201 : (am_G 121).2.2.2.2.1 201 = (.aload_n 0, 202, 0, 0) := rfl
theorem t121_202 : (am_G 121).2.2.2.2.1 202 = (.getfield 73, 205, 8, 20) := rfl
theorem t121_205 : (am_G 121).2.2.2.2.1 205 = (.i2f, 206, 0, 0) := rfl
theorem t121_206 : (am_G 121).2.2.2.2.1 206 = (.goto 5, 209, 211, 0) := rfl
theorem t121_209 : (am_G 121).2.2.2.2.1 209 = (.ldc 153, 211, 1120403456, 1) := rfl
theorem t121_211 : (am_G 121).2.2.2.2.1 211 = (.fdiv, 212, 0, 0) := rfl
theorem t121_212 : (am_G 121).2.2.2.2.1 212 = (.fmul, 213, 0, 0) := rfl
theorem t121_213 : (am_G 121).2.2.2.2.1 213 = (.fadd, 214, 0, 0) := rfl
theorem t121_214 : (am_G 121).2.2.2.2.1 214 = (.putfield 86, 217, 8, 24) := rfl
theorem t121_217 : (am_G 121).2.2.2.2.1 217 = (.aload_n 0, 218, 0, 0) := rfl
theorem t121_218 : (am_G 121).2.2.2.2.1 218 = (.getfield 47, 221, 8, 12) := rfl
theorem t121_221 : (am_G 121).2.2.2.2.1 221 = (.iconst 0, 222, 0, 0) := rfl
theorem t121_222 : (am_G 121).2.2.2.2.1 222 = (.iload_n 1, 223, 1, 0) := rfl
theorem t121_223 : (am_G 121).2.2.2.2.1 223 = (.iload 4, 225, 4, 0) := rfl
theorem t121_225 : (am_G 121).2.2.2.2.1 225 = (.iadd, 226, 0, 0) := rfl
theorem t121_226 : (am_G 121).2.2.2.2.1 226 = (.iastore, 227, 0, 0) := rfl
theorem t121_227 : (am_G 121).2.2.2.2.1 227 = (.aload_n 0, 228, 0, 0) := rfl
theorem t121_228 : (am_G 121).2.2.2.2.1 228 = (.getfield 47, 231, 8, 12) := rfl
theorem t121_231 : (am_G 121).2.2.2.2.1 231 = (.iconst 1, 232, 1, 0) := rfl
theorem t121_232 : (am_G 121).2.2.2.2.1 232 = (.iload_n 2, 233, 2, 0) := rfl
theorem t121_233 : (am_G 121).2.2.2.2.1 233 = (.iload 5, 235, 5, 0) := rfl
theorem t121_235 : (am_G 121).2.2.2.2.1 235 = (.iadd, 236, 0, 0) := rfl
theorem t121_236 : (am_G 121).2.2.2.2.1 236 = (.iastore, 237, 0, 0) := rfl
theorem t121_237 : (am_G 121).2.2.2.2.1 237 = (.aload_n 0, 238, 0, 0) := rfl
theorem t121_238 : (am_G 121).2.2.2.2.1 238 = (.getfield 47, 241, 8, 12) := rfl
theorem t121_241 : (am_G 121).2.2.2.2.1 241 = (.iconst 2, 242, 2, 0) := rfl
theorem t121_242 : (am_G 121).2.2.2.2.1 242 = (.iload_n 3, 243, 3, 0) := rfl
theorem t121_243 : (am_G 121).2.2.2.2.1 243 = (.iload 6, 245, 6, 0) := rfl
theorem t121_245 : (am_G 121).2.2.2.2.1 245 = (.iadd, 246, 0, 0) := rfl
theorem t121_246 : (am_G 121).2.2.2.2.1 246 = (.iastore, 247, 0, 0) := rfl
theorem t121_247 : (am_G 121).2.2.2.2.1 247 = (.iconst 1, 248, 1, 0) := rfl
theorem t121_248 : (am_G 121).2.2.2.2.1 248 = (.ireturn, 249, 0, 0) := rfl
theorem t122_0 : (am_G 122).2.2.2.2.1 0 = (.iload_n 2, 1, 2, 0) := rfl
theorem t122_1 : (am_G 122).2.2.2.2.1 1 = (.istore_n 3, 2, 3, 0) := rfl
theorem t122_2 : (am_G 122).2.2.2.2.1 2 = (.iload_n 3, 3, 3, 0) := rfl
theorem t122_3 : (am_G 122).2.2.2.2.1 3 = (.iload_n 1, 4, 1, 0) := rfl
theorem t122_4 : (am_G 122).2.2.2.2.1 4 = (.if_icmp .ge 42, 7, 46, 0) := rfl
theorem t122_7 : (am_G 122).2.2.2.2.1 7 = (.aload_n 0, 8, 0, 0) := rfl
theorem t122_8 : (am_G 122).2.2.2.2.1 8 = (.aload_n 0, 9, 0, 0) := rfl
theorem t122_9 : (am_G 122).2.2.2.2.1 9 = (.getfield 44, 12, 8, 11) := rfl
theorem t122_12 : (am_G 122).2.2.2.2.1 12 = (.iconst 0, 13, 0, 0) := rfl
theorem t122_13 : (am_G 122).2.2.2.2.1 13 = (.iaload, 14, 0, 0) := rfl
theorem t122_14 : (am_G 122).2.2.2.2.1 14 = (.aload_n 0, 15, 0, 0) := rfl
theorem t122_15 : (am_G 122).2.2.2.2.1 15 = (.getfield 44, 18, 8, 11) := rfl
theorem t122_18 : (am_G 122).2.2.2.2.1 18 = (.iconst 1, 19, 1, 0) := rfl
theorem t122_19 : (am_G 122).2.2.2.2.1 19 = (.iaload, 20, 0, 0) := rfl
theorem t122_20 : (am_G 122).2.2.2.2.1 20 = (.aload_n 0, 21, 0, 0) := rfl
theorem t122_21 : (am_G 122).2.2.2.2.1 21 = (.getfield 44, 24, 8, 11) := rfl
theorem t122_24 : (am_G 122).2.2.2.2.1 24 = (.iconst 2, 25, 2, 0) := rfl
theorem t122_25 : (am_G 122).2.2.2.2.1 25 = (.iaload, 26, 0, 0) := rfl
theorem t122_26 : (am_G 122).2.2.2.2.1 26 = (.iconst 0, 27, 0, 0) := rfl
theorem t122_27 : (am_G 122).2.2.2.2.1 27 = (.iconst 0, 28, 0, 0) := rfl
theorem t122_28 : (am_G 122).2.2.2.2.1 28 = (.iload_n 3, 29, 3, 0) := rfl
theorem t122_29 : (am_G 122).2.2.2.2.1 29 = (.ineg, 30, 0, 0) := rfl
theorem t122_30 : (am_G 122).2.2.2.2.1 30 = (.iconst 1, 31, 1, 0) := rfl
theorem t122_31 : (am_G 122).2.2.2.2.1 31 = (.invokevirtual 154, 34, 121, 8) := rfl
theorem t122_34 : (am_G 122).2.2.2.2.1 34 = (.ifCond .ne 5, 37, 39, 0) := rfl
theorem t122_37 : (am_G 122).2.2.2.2.1 37 = (.iconst 0, 38, 0, 0) := rfl
theorem t122_38 : (am_G 122).2.2.2.2.1 38 = (.ireturn, 39, 0, 0) := rfl
theorem t122_39 : (am_G 122).2.2.2.2.1 39 = (.iload_n 3, 40, 3, 0) := rfl
theorem t122_40 : (am_G 122).2.2.2.2.1 40 = (.iload_n 2, 41, 2, 0) := rfl
theorem t122_41 : (am_G 122).2.2.2.2.1 41 = (.iadd, 42, 0, 0) := rfl
theorem t122_42 : (am_G 122).2.2.2.2.1 42 = (.istore_n 3, 43, 3, 0) := rfl
theorem t122_43 : (am_G 122).2.2.2.2.1 43 = (.goto (-41), 46, 2, 0) := rfl
theorem t122_46 : (am_G 122).2.2.2.2.1 46 = (.aload_n 0, 47, 0, 0) := rfl
theorem t122_47 : (am_G 122).2.2.2.2.1 47 = (.aload_n 0, 48, 0, 0) := rfl
theorem t122_48 : (am_G 122).2.2.2.2.1 48 = (.getfield 44, 51, 8, 11) := rfl
theorem t122_51 : (am_G 122).2.2.2.2.1 51 = (.iconst 0, 52, 0, 0) := rfl
theorem t122_52 : (am_G 122).2.2.2.2.1 52 = (.iaload, 53, 0, 0) := rfl
theorem t122_53 : (am_G 122).2.2.2.2.1 53 = (.aload_n 0, 54, 0, 0) := rfl
theorem t122_54 : (am_G 122).2.2.2.2.1 54 = (.getfield 44, 57, 8, 11) := rfl
theorem t122_57 : (am_G 122).2.2.2.2.1 57 = (.iconst 1, 58, 1, 0) := rfl
theorem t122_58 : (am_G 122).2.2.2.2.1 58 = (.iaload, 59, 0, 0) := rfl
theorem t122_59 : (am_G 122).2.2.2.2.1 59 = (.aload_n 0, 60, 0, 0) := rfl
theorem t122_60 : (am_G 122).2.2.2.2.1 60 = (.getfield 44, 63, 8, 11) := rfl
theorem t122_63 : (am_G 122).2.2.2.2.1 63 = (.iconst 2, 64, 2, 0) := rfl
theorem t122_64 : (am_G 122).2.2.2.2.1 64 = (.iaload, 65, 0, 0) := rfl
theorem t122_65 : (am_G 122).2.2.2.2.1 65 = (.iconst 0, 66, 0, 0) := rfl
theorem t122_66 : (am_G 122).2.2.2.2.1 66 = (.iconst 0, 67, 0, 0) := rfl
theorem t122_67 : (am_G 122).2.2.2.2.1 67 = (.iload_n 1, 68, 1, 0) := rfl
theorem t122_68 : (am_G 122).2.2.2.2.1 68 = (.ineg, 69, 0, 0) := rfl
theorem t122_69 : (am_G 122).2.2.2.2.1 69 = (.iconst 1, 70, 1, 0) := rfl
theorem t122_70 : (am_G 122).2.2.2.2.1 70 = (.invokevirtual 154, 73, 121, 8) := rfl
theorem t122_73 : (am_G 122).2.2.2.2.1 73 = (.ifCond .ne 5, 76, 78, 0) := rfl
theorem t122_76 : (am_G 122).2.2.2.2.1 76 = (.iconst 0, 77, 0, 0) := rfl
theorem t122_77 : (am_G 122).2.2.2.2.1 77 = (.ireturn, 78, 0, 0) := rfl
theorem t122_78 : (am_G 122).2.2.2.2.1 78 = (.aload_n 0, 79, 0, 0) := rfl
theorem t122_79 : (am_G 122).2.2.2.2.1 79 = (.getfield 47, 82, 8, 12) := rfl
theorem t122_82 : (am_G 122).2.2.2.2.1 82 = (.iconst 2, 83, 2, 0) := rfl
theorem t122_83 : (am_G 122).2.2.2.2.1 83 = (.aload_n 0, 84, 0, 0) := rfl
theorem t122_84 : (am_G 122).2.2.2.2.1 84 = (.getfield 44, 87, 8, 11) := rfl
theorem t122_87 : (am_G 122).2.2.2.2.1 87 = (.iconst 2, 88, 2, 0) := rfl
theorem t122_88 : (am_G 122).2.2.2.2.1 88 = (.iaload, 89, 0, 0) := rfl
theorem t122_89 : (am_G 122).2.2.2.2.1 89 = (.iastore, 90, 0, 0) := rfl
theorem t122_90 : (am_G 122).2.2.2.2.1 90 = (.iconst 1, 91, 1, 0) := rfl
theorem t122_91 : (am_G 122).2.2.2.2.1 91 = (.ireturn, 92, 0, 0) := rfl
theorem t123_0 : (am_G 123).2.2.2.2.1 0 = (.aload_n 0, 1, 0, 0) := rfl
theorem t123_1 : (am_G 123).2.2.2.2.1 1 = (.aload_n 0, 2, 0, 0) := rfl
theorem t123_2 : (am_G 123).2.2.2.2.1 2 = (.getfield 44, 5, 8, 11) := rfl
theorem t123_5 : (am_G 123).2.2.2.2.1 5 = (.iconst 0, 6, 0, 0) := rfl
theorem t123_6 : (am_G 123).2.2.2.2.1 6 = (.iaload, 7, 0, 0) := rfl
theorem t123_7 : (am_G 123).2.2.2.2.1 7 = (.aload_n 0, 8, 0, 0) := rfl
theorem t123_8 : (am_G 123).2.2.2.2.1 8 = (.getfield 44, 11, 8, 11) := rfl
theorem t123_11 : (am_G 123).2.2.2.2.1 11 = (.iconst 1, 12, 1, 0) := rfl
theorem t123_12 : (am_G 123).2.2.2.2.1 12 = (.iaload, 13, 0, 0) := rfl
theorem t123_13 : (am_G 123).2.2.2.2.1 13 = (.aload_n 0, 14, 0, 0) := rfl
theorem t123_14 : (am_G 123).2.2.2.2.1 14 = (.getfield 44, 17, 8, 11) := rfl
theorem t123_17 : (am_G 123).2.2.2.2.1 17 = (.iconst 2, 18, 2, 0) := rfl
theorem t123_18 : (am_G 123).2.2.2.2.1 18 = (.iaload, 19, 0, 0) := rfl
theorem t123_19 : (am_G 123).2.2.2.2.1 19 = (.iconst 0, 20, 0, 0) := rfl
theorem t123_20 : (am_G 123).2.2.2.2.1 20 = (.iconst 0, 21, 0, 0) := rfl
theorem t123_21 : (am_G 123).2.2.2.2.1 21 = (.iload_n 3, 22, 3, 0) := rfl
theorem t123_22 : (am_G 123).2.2.2.2.1 22 = (.ineg, 23, 0, 0) := rfl
theorem t123_23 : (am_G 123).2.2.2.2.1 23 = (.iconst 1, 24, 1, 0) := rfl
theorem t123_24 : (am_G 123).2.2.2.2.1 24 = (.invokevirtual 154, 27, 121, 8) := rfl
theorem t123_27 : (am_G 123).2.2.2.2.1 27 = (.ifCond .ne 5, 30, 32, 0) := rfl
theorem t123_30 : (am_G 123).2.2.2.2.1 30 = (.iconst 0, 31, 0, 0) := rfl
theorem t123_31 : (am_G 123).2.2.2.2.1 31 = (.ireturn, 32, 0, 0) := rfl
theorem t123_32 : (am_G 123).2.2.2.2.1 32 = (.aload_n 0, 33, 0, 0) := rfl
theorem t123_33 : (am_G 123).2.2.2.2.1 33 = (.getfield 47, 36, 8, 12) := rfl
theorem t123_36 : (am_G 123).2.2.2.2.1 36 = (.iconst 2, 37, 2, 0) := rfl
theorem t123_37 : (am_G 123).2.2.2.2.1 37 = (.iaload, 38, 0, 0) := rfl
theorem t123_38 : (am_G 123).2.2.2.2.1 38 = (.istore 4, 40, 4, 0) := rfl
theorem t123_40 : (am_G 123).2.2.2.2.1 40 = (.aload_n 0, 41, 0, 0) := rfl
theorem t123_41 : (am_G 123).2.2.2.2.1 41 = (.aload_n 0, 42, 0, 0) := rfl
theorem t123_42 : (am_G 123).2.2.2.2.1 42 = (.getfield 47, 45, 8, 12) := rfl
theorem t123_45 : (am_G 123).2.2.2.2.1 45 = (.iconst 0, 46, 0, 0) := rfl
theorem t123_46 : (am_G 123).2.2.2.2.1 46 = (.iaload, 47, 0, 0) := rfl
theorem t123_47 : (am_G 123).2.2.2.2.1 47 = (.aload_n 0, 48, 0, 0) := rfl
theorem t123_48 : (am_G 123).2.2.2.2.1 48 = (.getfield 47, 51, 8, 12) := rfl
theorem t123_51 : (am_G 123).2.2.2.2.1 51 = (.iconst 1, 52, 1, 0) := rfl
theorem t123_52 : (am_G 123).2.2.2.2.1 52 = (.iaload, 53, 0, 0) := rfl
theorem t123_53 : (am_G 123).2.2.2.2.1 53 = (.iload 4, 55, 4, 0) := rfl
theorem t123_55 : (am_G 123).2.2.2.2.1 55 = (.iload_n 1, 56, 1, 0) := rfl
theorem t123_56 : (am_G 123).2.2.2.2.1 56 = (.iconst 0, 57, 0, 0) := rfl
theorem t123_57 : (am_G 123).2.2.2.2.1 57 = (.iconst 0, 58, 0, 0) := rfl
theorem t123_58 : (am_G 123).2.2.2.2.1 58 = (.iconst 1, 59, 1, 0) := rfl
theorem t123_59 : (am_G 123).2.2.2.2.1 59 = (.invokevirtual 154, 62, 121, 8) := rfl
theorem t123_62 : (am_G 123).2.2.2.2.1 62 = (.ifCond .ne 5, 65, 67, 0) := rfl
theorem t123_65 : (am_G 123).2.2.2.2.1 65 = (.iconst 0, 66, 0, 0) := rfl
theorem t123_66 : (am_G 123).2.2.2.2.1 66 = (.ireturn, 67, 0, 0) := rfl
theorem t123_67 : (am_G 123).2.2.2.2.1 67 = (.iconst 0, 68, 0, 0) := rfl
theorem t123_68 : (am_G 123).2.2.2.2.1 68 = (.istore 5, 70, 5, 0) := rfl
theorem t123_70 : (am_G 123).2.2.2.2.1 70 = (.iload 5, 72, 5, 0) := rfl
theorem t123_72 : (am_G 123).2.2.2.2.1 72 = (.iload_n 2, 73, 2, 0) := rfl
theorem t123_73 : (am_G 123).2.2.2.2.1 73 = (.if_icmp .ge 75, 76, 148, 0) := rfl
theorem t123_76 : (am_G 123).2.2.2.2.1 76 = (.aload_n 0, 77, 0, 0) := rfl
theorem t123_77 : (am_G 123).2.2.2.2.1 77 = (.aload_n 0, 78, 0, 0) := rfl
theorem t123_78 : (am_G 123).2.2.2.2.1 78 = (.getfield 47, 81, 8, 12) := rfl
theorem t123_81 : (am_G 123).2.2.2.2.1 81 = (.iconst 0, 82, 0, 0) := rfl
theorem t123_82 : (am_G 123).2.2.2.2.1 82 = (.iaload, 83, 0, 0) := rfl
theorem t123_83 : (am_G 123).2.2.2.2.1 83 = (.aload_n 0, 84, 0, 0) := rfl
theorem t123_84 : (am_G 123).2.2.2.2.1 84 = (.getfield 47, 87, 8, 12) := rfl
theorem t123_87 : (am_G 123).2.2.2.2.1 87 = (.iconst 1, 88, 1, 0) := rfl
theorem t123_88 : (am_G 123).2.2.2.2.1 88 = (.iaload, 89, 0, 0) := rfl
theorem t123_89 : (am_G 123).2.2.2.2.1 89 = (.iload 4, 91, 4, 0) := rfl
theorem t123_91 : (am_G 123).2.2.2.2.1 91 = (.iconst 0, 92, 0, 0) := rfl
theorem t123_92 : (am_G 123).2.2.2.2.1 92 = (.iconst 1, 93, 1, 0) := rfl
theorem t123_93 : (am_G 123).2.2.2.2.1 93 = (.iconst 0, 94, 0, 0) := rfl
theorem t123_94 : (am_G 123).2.2.2.2.1 94 = (.iconst 1, 95, 1, 0) := rfl
theorem t123_95 : (am_G 123).2.2.2.2.1 95 = (.invokevirtual 154, 98, 121, 8) := rfl
theorem t123_98 : (am_G 123).2.2.2.2.1 98 = (.ifCond .ne 5, 101, 103, 0) := rfl
theorem t123_101 : (am_G 123).2.2.2.2.1 101 = (.iconst 0, 102, 0, 0) := rfl
theorem t123_102 : (am_G 123).2.2.2.2.1 102 = (.ireturn, 103, 0, 0) := rfl
theorem t123_103 : (am_G 123).2.2.2.2.1 103 = (.aload_n 0, 104, 0, 0) := rfl
theorem t123_104 : (am_G 123).2.2.2.2.1 104 = (.aload_n 0, 105, 0, 0) := rfl
theorem t123_105 : (am_G 123).2.2.2.2.1 105 = (.getfield 47, 108, 8, 12) := rfl
theorem t123_108 : (am_G 123).2.2.2.2.1 108 = (.iconst 0, 109, 0, 0) := rfl
theorem t123_109 : (am_G 123).2.2.2.2.1 109 = (.iaload, 110, 0, 0) := rfl
theorem t123_110 : (am_G 123).2.2.2.2.1 110 = (.aload_n 0, 111, 0, 0) := rfl
theorem t123_111 : (am_G 123).2.2.2.2.1 111 = (.getfield 47, 114, 8, 12) := rfl
theorem t123_114 : (am_G 123).2.2.2.2.1 114 = (.iconst 1, 115, 1, 0) := rfl
theorem t123_115 : (am_G 123).2.2.2.2.1 115 = (.iaload, 116, 0, 0) := rfl
theorem t123_116 : (am_G 123).2.2.2.2.1 116 = (.iload 4, 118, 4, 0) := rfl
theorem t123_118 : (am_G 123).2.2.2.2.1 118 = (.iload 5, 120, 5, 0) := rfl
theorem t123_120 : (am_G 123).2.2.2.2.1 120 = (.iconst 2, 121, 2, 0) := rfl
theorem t123_121 : (am_G 123).2.2.2.2.1 121 = (.irem, 122, 0, 0) := rfl
theorem t123_122 : (am_G 123).2.2.2.2.1 122 = (.ifCond .ne 8, 125, 130, 0) := rfl
theorem t123_125 : (am_G 123).2.2.2.2.1 125 = (.iload_n 1, 126, 1, 0) := rfl
theorem t123_126 : (am_G 123).2.2.2.2.1 126 = (.ineg, 127, 0, 0) := rfl
theorem t123_127 : (am_G 123).2.2.2.2.1 127 = (.goto 4, 130, 131, 0) := rfl
theorem t123_130 : (am_G 123).2.2.2.2.1 130 = (.iload_n 1, 131, 1, 0) := rfl
theorem t123_131 : (am_G 123).2.2.2.2.1 131 = (.iconst 0, 132, 0, 0) := rfl
theorem t123_132 : (am_G 123).2.2.2.2.1 132 = (.iconst 0, 133, 0, 0) := rfl
theorem t123_133 : (am_G 123).2.2.2.2.1 133 = (.iconst 1, 134, 1, 0) := rfl
theorem t123_134 : (am_G 123).2.2.2.2.1 134 = (.invokevirtual 154, 137, 121, 8) := rfl
theorem t123_137 : (am_G 123).2.2.2.2.1 137 = (.ifCond .ne 5, 140, 142, 0) := rfl
theorem t123_140 : (am_G 123).2.2.2.2.1 140 = (.iconst 0, 141, 0, 0) := rfl
theorem t123_141 : (am_G 123).2.2.2.2.1 141 = (.ireturn, 142, 0, 0) := rfl
theorem t123_142 : (am_G 123).2.2.2.2.1 142 = (.iinc 5 1, 145, 5, 1) := rfl
theorem t123_145 : (am_G 123).2.2.2.2.1 145 = (.goto (-75), 148, 70, 0) := rfl
theorem t123_148 : (am_G 123).2.2.2.2.1 148 = (.aload_n 0, 149, 0, 0) := rfl
theorem t123_149 : (am_G 123).2.2.2.2.1 149 = (.getfield 47, 152, 8, 12) := rfl
theorem t123_152 : (am_G 123).2.2.2.2.1 152 = (.iconst 2, 153, 2, 0) := rfl
theorem t123_153 : (am_G 123).2.2.2.2.1 153 = (.aload_n 0, 154, 0, 0) := rfl
theorem t123_154 : (am_G 123).2.2.2.2.1 154 = (.getfield 44, 157, 8, 11) := rfl
theorem t123_157 : (am_G 123).2.2.2.2.1 157 = (.iconst 2, 158, 2, 0) := rfl
theorem t123_158 : (am_G 123).2.2.2.2.1 158 = (.iaload, 159, 0, 0) := rfl
theorem t123_159 : (am_G 123).2.2.2.2.1 159 = (.iastore, 160, 0, 0) := rfl
theorem t123_160 : (am_G 123).2.2.2.2.1 160 = (.iconst 1, 161, 1, 0) := rfl
theorem t123_161 : (am_G 123).2.2.2.2.1 161 = (.ireturn, 162, 0, 0) := rfl
theorem t124_0 : (am_G 124).2.2.2.2.1 0 = (.iload_n 1, 1, 1, 0) := rfl
theorem t124_1 : (am_G 124).2.2.2.2.1 1 = (.bipush 100, 3, 100, 0) := rfl
theorem t124_3 : (am_G 124).2.2.2.2.1 3 = (.if_icmp .ne 10, 6, 13, 0) := rfl
theorem t124_6 : (am_G 124).2.2.2.2.1 6 = (.aload_n 0, 7, 0, 0) := rfl
theorem t124_7 : (am_G 124).2.2.2.2.1 7 = (.iload_n 2, 8, 2, 0) := rfl
theorem t124_8 : (am_G 124).2.2.2.2.1 8 = (.iload_n 3, 9, 3, 0) := rfl
theorem t124_9 : (am_G 124).2.2.2.2.1 9 = (.invokevirtual 158, 12, 122, 8) := rfl
theorem t124_12 : (am_G 124).2.2.2.2.1 12 = (.ireturn, 13, 0, 0) := rfl
theorem t124_13 : (am_G 124).2.2.2.2.1 13 = (.iload_n 1, 14, 1, 0) := rfl
theorem t124_14 : (am_G 124).2.2.2.2.1 14 = (.bipush 112, 16, 112, 0) := rfl
theorem t124_16 : (am_G 124).2.2.2.2.1 16 = (.if_icmp .ne 12, 19, 28, 0) := rfl
theorem t124_19 : (am_G 124).2.2.2.2.1 19 = (.aload_n 0, 20, 0, 0) := rfl
theorem t124_20 : (am_G 124).2.2.2.2.1 20 = (.iload_n 2, 21, 2, 0) := rfl
theorem t124_21 : (am_G 124).2.2.2.2.1 21 = (.iload_n 3, 22, 3, 0) := rfl
theorem t124_22 : (am_G 124).2.2.2.2.1 22 = (.iload 4, 24, 4, 0) := rfl
theorem t124_24 : (am_G 124).2.2.2.2.1 24 = (.invokevirtual 161, 27, 123, 8) := rfl
theorem t124_27 : (am_G 124).2.2.2.2.1 27 = (.ireturn, 28, 0, 0) := rfl
theorem t124_28 : (am_G 124).2.2.2.2.1 28 = (.aload_n 0, 29, 0, 0) := rfl
theorem t124_29 : (am_G 124).2.2.2.2.1 29 = (.getfield 79, 32, 8, 22) := rfl
theorem t124_32 : (am_G 124).2.2.2.2.1 32 = (.ifCond .eq 7, 35, 39, 0) := rfl
theorem t124_35 : (am_G 124).2.2.2.2.1 35 = (.iload_n 2, 36, 2, 0) := rfl
theorem t124_36 : (am_G 124).2.2.2.2.1 36 = (.goto 23, 39, 59, 0) := rfl
theorem t124_39 : (am_G 124).2.2.2.2.1 39 = (.iload_n 2, 40, 2, 0) := rfl
theorem t124_40 : (am_G 124).2.2.2.2.1 40 = (.aload_n 0, 41, 0, 0) := rfl
theorem t124_41 : (am_G 124).2.2.2.2.1 41 = (.getfield 41, 44, 8, 10) := rfl
theorem t124_44 : (am_G 124).2.2.2.2.1 44 = (.iconst 3, 45, 3, 0) := rfl
theorem t124_45 : (am_G 124).2.2.2.2.1 45 = (.aload_n 0, 46, 0, 0) := rfl
theorem t124_46 : (am_G 124).2.2.2.2.1 46 = (.getfield 76, 49, 8, 21) := rfl
theorem t124_49 : (am_G 124).2.2.2.2.1 49 = (.imul, 50, 0, 0) := rfl
theorem t124_50 : (am_G 124).2.2.2.2.1 50 = (.iaload, 51, 0, 0) := rfl
theorem t124_51 : (am_G 124).2.2.2.2.1 51 = (.iadd, 52, 0, 0) := rfl
theorem t124_52 : (am_G 124).2.2.2.2.1 52 = (.aload_n 0, 53, 0, 0) := rfl
theorem t124_53 : (am_G 124).2.2.2.2.1 53 = (.getfield 44, 56, 8, 11) := rfl
theorem t124_56 : (am_G 124).2.2.2.2.1 56 = (.iconst 0, 57, 0, 0) := rfl
theorem t124_57 : (am_G 124).2.2.2.2.1 57 = (.iaload, 58, 0, 0) := rfl
theorem t124_58 : (am_G 124).2.2.2.2.1 58 = (.isub, 59, 0, 0) := rfl
theorem t124_59 : (am_G 124).2.2.2.2.1 59 = (.istore 5, 61, 5, 0) := rfl
theorem t124_61 : (am_G 124).2.2.2.2.1 61 = (.aload_n 0, 62, 0, 0) := rfl
theorem t124_62 : (am_G 124).2.2.2.2.1 62 = (.getfield 79, 65, 8, 22) := rfl
theorem t124_65 : (am_G 124).2.2.2.2.1 65 = (.ifCond .eq 7, 68, 72, 0) := rfl
theorem t124_68 : (am_G 124).2.2.2.2.1 68 = (.iload_n 3, 69, 3, 0) := rfl
theorem t124_69 : (am_G 124).2.2.2.2.1 69 = (.goto 25, 72, 94, 0) := rfl
theorem t124_72 : (am_G 124).2.2.2.2.1 72 = (.iload_n 3, 73, 3, 0) := rfl
theorem t124_73 : (am_G 124).2.2.2.2.1 73 = (.aload_n 0, 74, 0, 0) := rfl
theorem t124_74 : (am_G 124).2.2.2.2.1 74 = (.getfield 41, 77, 8, 10) := rfl
theorem t124_77 : (am_G 124).2.2.2.2.1 77 = (.iconst 3, 78, 3, 0) := rfl
theorem t124_78 : (am_G 124).2.2.2.2.1 78 = (.aload_n 0, 79, 0, 0) := rfl
theorem t124_79 : (am_G 124).2.2.2.2.1 79 = (.getfield 76, 82, 8, 21) := rfl
theorem t124_82 : (am_G 124).2.2.2.2.1 82 = (.imul, 83, 0, 0) := rfl
theorem t124_83 : (am_G 124).2.2.2.2.1 83 = (.iconst 1, 84, 1, 0) := rfl
theorem t124_84 : (am_G 124).2.2.2.2.1 84 = (.iadd, 85, 0, 0) := rfl
theorem t124_85 : (am_G 124).2.2.2.2.1 85 = (.iaload, 86, 0, 0) := rfl
theorem t124_86 : (am_G 124).2.2.2.2.1 86 = (.iadd, 87, 0, 0) := rfl
theorem t124_87 : (am_G 124).2.2.2.2.1 87 = (.aload_n 0, 88, 0, 0) := rfl
theorem t124_88 : (am_G 124).2.2.2.2.1 88 = (.getfield 44, 91, 8, 11) := rfl
theorem t124_91 : (am_G 124).2.2.2.2.1 91 = (.iconst 1, 92, 1, 0) := rfl
theorem t124_92 : (am_G 124).2.2.2.2.1 92 = (.iaload, 93, 0, 0) := rfl
theorem t124_93 : (am_G 124).2.2.2.2.1 93 = (.isub, 94, 0, 0) := rfl
theorem t124_94 : (am_G 124).2.2.2.2.1 94 = (.istore 6, 96, 6, 0) := rfl
theorem t124_96 : (am_G 124).2.2.2.2.1 96 = (.aload_n 0, 97, 0, 0) := rfl
theorem t124_97 : (am_G 124).2.2.2.2.1 97 = (.getfield 79, 100, 8, 22) := rfl
theorem t124_100 : (am_G 124).2.2.2.2.1 100 = (.ifCond .eq 8, 103, 108, 0) := rfl
theorem t124_103 : (am_G 124).2.2.2.2.1 103 = (.iload 4, 105, 4, 0) := rfl
theorem t124_105 : (am_G 124).2.2.2.2.1 105 = (.goto 26, 108, 131, 0) := rfl
theorem t124_108 : (am_G 124).2.2.2.2.1 108 = (.iload 4, 110, 4, 0) := rfl
theorem t124_110 : (am_G 124).2.2.2.2.1 110 = (.aload_n 0, 111, 0, 0) := rfl
theorem t124_111 : (am_G 124).2.2.2.2.1 111 = (.getfield 41, 114, 8, 10) := rfl
theorem t124_114 : (am_G 124).2.2.2.2.1 114 = (.iconst 3, 115, 3, 0) := rfl
theorem t124_115 : (am_G 124).2.2.2.2.1 115 = (.aload_n 0, 116, 0, 0) := rfl
theorem t124_116 : (am_G 124).2.2.2.2.1 116 = (.getfield 76, 119, 8, 21) := rfl
theorem t124_119 : (am_G 124).2.2.2.2.1 119 = (.imul, 120, 0, 0) := rfl
theorem t124_120 : (am_G 124).2.2.2.2.1 120 = (.iconst 2, 121, 2, 0) := rfl
theorem t124_121 : (am_G 124).2.2.2.2.1 121 = (.iadd, 122, 0, 0) := rfl
theorem t124_122 : (am_G 124).2.2.2.2.1 122 = (.iaload, 123, 0, 0) := rfl
theorem t124_123 : (am_G 124).2.2.2.2.1 123 = (.iadd, 124, 0, 0) := rfl
theorem t124_124 : (am_G 124).2.2.2.2.1 124 = (.aload_n 0, 125, 0, 0) := rfl
theorem t124_125 : (am_G 124).2.2.2.2.1 125 = (.getfield 44, 128, 8, 11) := rfl
theorem t124_128 : (am_G 124).2.2.2.2.1 128 = (.iconst 2, 129, 2, 0) := rfl
theorem t124_129 : (am_G 124).2.2.2.2.1 129 = (.iaload, 130, 0, 0) := rfl
theorem t124_130 : (am_G 124).2.2.2.2.1 130 = (.isub, 131, 0, 0) := rfl
theorem t124_131 : (am_G 124).2.2.2.2.1 131 = (.istore 7, 133, 7, 0) := rfl
theorem t124_133 : (am_G 124).2.2.2.2.1 133 = (.aload_n 0, 134, 0, 0) := rfl
theorem t124_134 : (am_G 124).2.2.2.2.1 134 = (.aload_n 0, 135, 0, 0) := rfl
theorem t124_135 : (am_G 124).2.2.2.2.1 135 = (.getfield 44, 138, 8, 11) := rfl
theorem t124_138 : (am_G 124).2.2.2.2.1 138 = (.iconst 0, 139, 0, 0) := rfl
theorem t124_139 : (am_G 124).2.2.2.2.1 139 = (.iaload, 140, 0, 0) := rfl
theorem t124_140 : (am_G 124).2.2.2.2.1 140 = (.aload_n 0, 141, 0, 0) := rfl
theorem t124_141 : (am_G 124).2.2.2.2.1 141 = (.getfield 44, 144, 8, 11) := rfl
theorem t124_144 : (am_G 124).2.2.2.2.1 144 = (.iconst 1, 145, 1, 0) := rfl
theorem t124_145 : (am_G 124).2.2.2.2.1 145 = (.iaload, 146, 0, 0) := rfl
theorem t124_146 : (am_G 124).2.2.2.2.1 146 = (.aload_n 0, 147, 0, 0) := rfl
theorem t124_147 : (am_G 124).2.2.2.2.1 147 = (.getfield 44, 150, 8, 11) := rfl
theorem t124_150 : (am_G 124).2.2.2.2.1 150 = (.iconst 2, 151, 2, 0) := rfl
theorem t124_151 : (am_G 124).2.2.2.2.1 151 = (.iaload, 152, 0, 0) := rfl
theorem t124_152 : (am_G 124).2.2.2.2.1 152 = (.iload 5, 154, 5, 0) := rfl
theorem t124_154 : (am_G 124).2.2.2.2.1 154 = (.iload 6, 156, 6, 0) := rfl
theorem t124_156 : (am_G 124).2.2.2.2.1 156 = (.iload 7, 158, 7, 0) := rfl
theorem t124_158 : (am_G 124).2.2.2.2.1 158 = (.iload_n 1, 159, 1, 0) := rfl
theorem t124_159 : (am_G 124).2.2.2.2.1 159 = (.bipush 108, 161, 108, 0) := rfl
theorem t124_161 : (am_G 124).2.2.2.2.1 161 = (.if_icmp .ne 7, 164, 168, 0) := rfl
theorem t124_164 : (am_G 124).2.2.2.2.1 164 = (.iconst 1, 165, 1, 0) := rfl
theorem t124_165 : (am_G 124).2.2.2.2.1 165 = (.goto 4, 168, 169, 0) := rfl
theorem t124_168 : (am_G 124).2.2.2.2.1 168 = (.iconst 0, 169, 0, 0) := rfl
theorem t124_169 : (am_G 124).2.2.2.2.1 169 = (.invokevirtual 154, 172, 121, 8) := rfl
theorem t124_172 : (am_G 124).2.2.2.2.1 172 = (.ireturn, 173, 0, 0) := rfl
theorem t125_0 : (am_G 125).2.2.2.2.1 0 = (.aload_n 0, 1, 0, 0) := rfl
theorem t125_1 : (am_G 125).2.2.2.2.1 1 = (.getfield 23, 4, 8, 4) := rfl
theorem t125_4 : (am_G 125).2.2.2.2.1 4 = (.iload_n 1, 5, 1, 0) := rfl
theorem t125_5 : (am_G 125).2.2.2.2.1 5 = (.iaload, 6, 0, 0) := rfl
theorem t125_6 : (am_G 125).2.2.2.2.1 6 = (.aload_n 0, 7, 0, 0) := rfl
theorem t125_7 : (am_G 125).2.2.2.2.1 7 = (.getfield 20, 10, 8, 3) := rfl
theorem t125_10 : (am_G 125).2.2.2.2.1 10 = (.iload_n 1, 11, 1, 0) := rfl
theorem t125_11 : (am_G 125).2.2.2.2.1 11 = (.iaload, 12, 0, 0) := rfl
theorem t125_12 : (am_G 125).2.2.2.2.1 12 = (.if_icmp .lt 7, 15, 19, 0) := rfl
theorem t125_15 : (am_G 125).2.2.2.2.1 15 = (.iconst 1, 16, 1, 0) := rfl
theorem t125_16 : (am_G 125).2.2.2.2.1 16 = (.goto 4, 19, 20, 0) := rfl
theorem t125_19 : (am_G 125).2.2.2.2.1 19 = (.iconst 0, 20, 0, 0) := rfl
theorem t125_20 : (am_G 125).2.2.2.2.1 20 = (.ireturn, 21, 0, 0) := rfl
theorem t126_0 : (am_G 126).2.2.2.2.1 0 = (.iload_n 1, 1, 1, 0) := rfl
theorem t126_1 : (am_G 126).2.2.2.2.1 1 = (.bipush 100, 3, 100, 0) := rfl
theorem t126_3 : (am_G 126).2.2.2.2.1 3 = (.if_icmp .ne 12, 6, 15, 0) := rfl
theorem t126_6 : (am_G 126).2.2.2.2.1 6 = (.iload_n 2, 7, 2, 0) := rfl
theorem t126_7 : (am_G 126).2.2.2.2.1 7 = (.ifCond .lt 27, 10, 34, 0) := rfl
theorem t126_10 : (am_G 126).2.2.2.2.1 10 = (.iload_n 3, 11, 3, 0) := rfl
theorem t126_11 : (am_G 126).2.2.2.2.1 11 = (.iconst 1, 12, 1, 0) := rfl
theorem t126_12 : (am_G 126).2.2.2.2.1 12 = (.if_icmp .lt 22, 15, 34, 0) := rfl
theorem t126_15 : (am_G 126).2.2.2.2.1 15 = (.iload_n 1, 16, 1, 0) := rfl
theorem t126_16 : (am_G 126).2.2.2.2.1 16 = (.bipush 112, 18, 112, 0) := rfl
theorem t126_18 : (am_G 126).2.2.2.2.1 18 = (.if_icmp .ne 19, 21, 37, 0) := rfl
theorem t126_21 : (am_G 126).2.2.2.2.1 21 = (.iload_n 2, 22, 2, 0) := rfl
theorem t126_22 : (am_G 126).2.2.2.2.1 22 = (.ifCond .lt 12, 25, 34, 0) := rfl
theorem t126_25 : (am_G 126).2.2.2.2.1 25 = (.iload_n 3, 26, 3, 0) := rfl
theorem t126_26 : (am_G 126).2.2.2.2.1 26 = (.ifCond .lt 8, 29, 34, 0) := rfl
theorem t126_29 : (am_G 126).2.2.2.2.1 29 = (.iload 4, 31, 4, 0) := rfl
theorem t126_31 : (am_G 126).2.2.2.2.1 31 = (.ifCond .ge 6, 34, 37, 0) := rfl
theorem t126_34 : (am_G 126).2.2.2.2.1 34 = (.bipush 110, 36, 110, 0) := rfl
theorem t126_36 : (am_G 126).2.2.2.2.1 36 = (.ireturn, 37, 0, 0) := rfl
theorem t126_37 : (am_G 126).2.2.2.2.1 37 = (.iload_n 1, 38, 1, 0) := rfl
theorem t126_38 : (am_G 126).2.2.2.2.1 38 = (.bipush 103, 40, 103, 0) := rfl
theorem t126_40 : (am_G 126).2.2.2.2.1 40 = (.if_icmp .eq 24, 43, 64, 0) := rfl
theorem t126_43 : (am_G 126).2.2.2.2.1 43 = (.aload_n 0, 44, 0, 0) := rfl
theorem t126_44 : (am_G 126).2.2.2.2.1 44 = (.getfield 70, 47, 8, 19) := rfl
theorem t126_47 : (am_G 126).2.2.2.2.1 47 = (.ifCond .lt 17, 50, 64, 0) := rfl
theorem t126_50 : (am_G 126).2.2.2.2.1 50 = (.aload_n 0, 51, 0, 0) := rfl
theorem t126_51 : (am_G 126).2.2.2.2.1 51 = (.aload_n 0, 52, 0, 0) := rfl
theorem t126_52 : (am_G 126).2.2.2.2.1 52 = (.getfield 70, 55, 8, 19) := rfl
theorem t126_55 : (am_G 126).2.2.2.2.1 55 = (.invokevirtual 164, 58, 125, 8) := rfl
theorem t126_58 : (am_G 126).2.2.2.2.1 58 = (.ifCond .eq 6, 61, 64, 0) := rfl
theorem t126_61 : (am_G 126).2.2.2.2.1 61 = (.bipush 119, 63, 119, 0) := rfl
theorem t126_63 : (am_G 126).2.2.2.2.1 63 = (.ireturn, 64, 0, 0) := rfl
theorem t126_64 : (am_G 126).2.2.2.2.1 64 = (.iload_n 1, 65, 1, 0) := rfl
theorem t126_65 : (am_G 126).2.2.2.2.1 65 = (.bipush 103, 67, 103, 0) := rfl
theorem t126_67 : (am_G 126).2.2.2.2.1 67 = (.if_icmp .eq 20, 70, 87, 0) := rfl
theorem t126_70 : (am_G 126).2.2.2.2.1 70 = (.aload_n 0, 71, 0, 0) := rfl
theorem t126_71 : (am_G 126).2.2.2.2.1 71 = (.getfield 70, 74, 8, 19) := rfl
theorem t126_74 : (am_G 126).2.2.2.2.1 74 = (.ifCond .lt 10, 77, 84, 0) := rfl
theorem t126_77 : (am_G 126).2.2.2.2.1 77 = (.aload_n 0, 78, 0, 0) := rfl
theorem t126_78 : (am_G 126).2.2.2.2.1 78 = (.getfield 83, 81, 8, 23) := rfl
theorem t126_81 : (am_G 126).2.2.2.2.1 81 = (.ifCond .ne 6, 84, 87, 0) := rfl
theorem t126_84 : (am_G 126).2.2.2.2.1 84 = (.bipush 115, 86, 115, 0) := rfl
theorem t126_86 : (am_G 126).2.2.2.2.1 86 = (.ireturn, 87, 0, 0) := rfl
theorem t126_87 : (am_G 126).2.2.2.2.1 87 = (.aload_n 0, 88, 0, 0) := rfl
theorem t126_88 : (am_G 126).2.2.2.2.1 88 = (.bipush 108, 90, 108, 0) := rfl
theorem t126_90 : (am_G 126).2.2.2.2.1 90 = (.putfield 94, 93, 8, 26) := rfl
theorem t126_93 : (am_G 126).2.2.2.2.1 93 = (.aload_n 0, 94, 0, 0) := rfl
theorem t126_94 : (am_G 126).2.2.2.2.1 94 = (.iload_n 1, 95, 1, 0) := rfl
theorem t126_95 : (am_G 126).2.2.2.2.1 95 = (.iload_n 2, 96, 2, 0) := rfl
theorem t126_96 : (am_G 126).2.2.2.2.1 96 = (.iload_n 3, 97, 3, 0) := rfl
theorem t126_97 : (am_G 126).2.2.2.2.1 97 = (.iload 4, 99, 4, 0) := rfl
theorem t126_99 : (am_G 126).2.2.2.2.1 99 = (.invokevirtual 167, 102, 124, 8) := rfl
theorem t126_102 : (am_G 126).2.2.2.2.1 102 = (.ifCond .ne 6, 105, 108, 0) := rfl
theorem t126_105 : (am_G 126).2.2.2.2.1 105 = (.bipush 108, 107, 108, 0) := rfl
theorem t126_107 : (am_G 126).2.2.2.2.1 107 = (.ireturn, 108, 0, 0) := rfl
theorem t126_108 : (am_G 126).2.2.2.2.1 108 = (.aload_n 0, 109, 0, 0) := rfl
theorem t126_109 : (am_G 126).2.2.2.2.1 109 = (.bipush 99, 111, 99, 0) := rfl
theorem t126_111 : (am_G 126).2.2.2.2.1 111 = (.putfield 94, 114, 8, 26) := rfl
theorem t126_114 : (am_G 126).2.2.2.2.1 114 = (.aload_n 0, 115, 0, 0) := rfl
theorem t126_115 : (am_G 126).2.2.2.2.1 115 = (.iload_n 1, 116, 1, 0) := rfl
theorem t126_116 : (am_G 126).2.2.2.2.1 116 = (.iload_n 2, 117, 2, 0) := rfl
theorem t126_117 : (am_G 126).2.2.2.2.1 117 = (.iload_n 3, 118, 3, 0) := rfl
theorem t126_118 : (am_G 126).2.2.2.2.1 118 = (.iload 4, 120, 4, 0) := rfl
theorem t126_120 : (am_G 126).2.2.2.2.1 120 = (.invokevirtual 167, 123, 124, 8) := rfl
theorem t126_123 : (am_G 126).2.2.2.2.1 123 = (.ifCond .ne 6, 126, 129, 0) := rfl
theorem t126_126 : (am_G 126).2.2.2.2.1 126 = (.bipush 99, 128, 99, 0) := rfl
theorem t126_128 : (am_G 126).2.2.2.2.1 128 = (.ireturn, 129, 0, 0) := rfl
theorem t126_129 : (am_G 126).2.2.2.2.1 129 = (.aload_n 0, 130, 0, 0) := rfl
theorem t126_130 : (am_G 126).2.2.2.2.1 130 = (.bipush 100, 132, 100, 0) := rfl
theorem t126_132 : (am_G 126).2.2.2.2.1 132 = (.putfield 94, 135, 8, 26) := rfl
theorem t126_135 : (am_G 126).2.2.2.2.1 135 = (.aload_n 0, 136, 0, 0) := rfl
theorem t126_136 : (am_G 126).2.2.2.2.1 136 = (.iload_n 1, 137, 1, 0) := rfl
theorem t126_137 : (am_G 126).2.2.2.2.1 137 = (.iload_n 2, 138, 2, 0) := rfl
theorem t126_138 : (am_G 126).2.2.2.2.1 138 = (.iload_n 3, 139, 3, 0) := rfl
theorem t126_139 : (am_G 126).2.2.2.2.1 139 = (.iload 4, 141, 4, 0) := rfl
theorem t126_141 : (am_G 126).2.2.2.2.1 141 = (.invokevirtual 167, 144, 124, 8) := rfl
theorem t126_144 : (am_G 126).2.2.2.2.1 144 = (.ifCond .eq 32, 147, 176, 0) := rfl
theorem t126_147 : (am_G 126).2.2.2.2.1 147 = (.iconst 0, 148, 0, 0) := rfl
theorem t126_148 : (am_G 126).2.2.2.2.1 148 = (.istore 5, 150, 5, 0) := rfl
theorem t126_150 : (am_G 126).2.2.2.2.1 150 = (.iload 5, 152, 5, 0) := rfl
theorem t126_152 : (am_G 126).2.2.2.2.1 152 = (.iconst 3, 153, 3, 0) := rfl
theorem t126_153 : (am_G 126).2.2.2.2.1 153 = (.if_icmp .ge 23, 156, 176, 0) := rfl
theorem t126_156 : (am_G 126).2.2.2.2.1 156 = (.aload_n 0, 157, 0, 0) := rfl
theorem t126_157 : (am_G 126).2.2.2.2.1 157 = (.getfield 44, 160, 8, 11) := rfl
theorem t126_160 : (am_G 126).2.2.2.2.1 160 = (.iload 5, 162, 5, 0) := rfl
theorem t126_162 : (am_G 126).2.2.2.2.1 162 = (.aload_n 0, 163, 0, 0) := rfl
theorem t126_163 : (am_G 126).2.2.2.2.1 163 = (.getfield 47, 166, 8, 12) := rfl
theorem t126_166 : (am_G 126).2.2.2.2.1 166 = (.iload 5, 168, 5, 0) := rfl
theorem t126_168 : (am_G 126).2.2.2.2.1 168 = (.iaload, 169, 0, 0) := rfl
theorem t126_169 : (am_G 126).2.2.2.2.1 169 = (.iastore, 170, 0, 0) := rfl
theorem t126_170 : (am_G 126).2.2.2.2.1 170 = (.iinc 5 1, 173, 5, 1) := rfl
theorem t126_173 : (am_G 126).2.2.2.2.1 173 = (.goto (-23), 176, 150, 0) := rfl
theorem t126_176 : (am_G 126).2.2.2.2.1 176 = (.bipush 45, 178, 45, 0) := rfl
theorem t126_178 : (am_G 126).2.2.2.2.1 178 = (.ireturn, 179, 0, 0) := rfl
theorem t127_0 : (am_G 127).2.2.2.2.1 0 = (.iload_n 1, 1, 1, 0) := rfl
theorem t127_1 : (am_G 127).2.2.2.2.1 1 = (.iload_n 2, 2, 2, 0) := rfl
theorem t127_2 : (am_G 127).2.2.2.2.1 2 = (.invokestatic 104, 5, 101, 0) := rfl
theorem t127_5 : (am_G 127).2.2.2.2.1 5 = (.ifCond .eq 18, 8, 23, 0) := rfl
theorem t127_8 : (am_G 127).2.2.2.2.1 8 = (.aload_n 0, 9, 0, 0) := rfl
theorem t127_9 : (am_G 127).2.2.2.2.1 9 = (.getfield 7, 12, 8, 0) := rfl
theorem t127_12 : (am_G 127).2.2.2.2.1 12 = (.iconst 4, 13, 4, 0) := rfl
theorem t127_13 : (am_G 127).2.2.2.2.1 13 = (.iload_n 1, 14, 1, 0) := rfl
theorem t127_14 : (am_G 127).2.2.2.2.1 14 = (.imul, 15, 0, 0) := rfl
theorem t127_15 : (am_G 127).2.2.2.2.1 15 = (.iload_n 2, 16, 2, 0) := rfl
theorem t127_16 : (am_G 127).2.2.2.2.1 16 = (.iadd, 17, 0, 0) := rfl
theorem t127_17 : (am_G 127).2.2.2.2.1 17 = (.caload, 18, 0, 0) := rfl
theorem t127_18 : (am_G 127).2.2.2.2.1 18 = (.bipush 45, 20, 45, 0) := rfl
theorem t127_20 : (am_G 127).2.2.2.2.1 20 = (.if_icmp .ne 6, 23, 26, 0) := rfl
theorem t127_23 : (am_G 127).2.2.2.2.1 23 = (.bipush 110, 25, 110, 0) := rfl
theorem t127_25 : (am_G 127).2.2.2.2.1 25 = (.ireturn, 26, 0, 0) := rfl
theorem t127_26 : (am_G 127).2.2.2.2.1 26 = (.aload_n 0, 27, 0, 0) := rfl
theorem t127_27 : (am_G 127).2.2.2.2.1 27 = (.getfield 83, 30, 8, 23) := rfl
theorem t127_30 : (am_G 127).2.2.2.2.1 30 = (.ifCond .eq 6, 33, 36, 0) := rfl
theorem t127_33 : (am_G 127).2.2.2.2.1 33 = (.bipush 116, 35, 116, 0) := rfl
theorem t127_35 : (am_G 127).2.2.2.2.1 35 = (.ireturn, 36, 0, 0) := rfl
theorem t127_36 : (am_G 127).2.2.2.2.1 36 = (.iconst 4, 37, 4, 0) := rfl
theorem t127_37 : (am_G 127).2.2.2.2.1 37 = (.iload_n 1, 38, 1, 0) := rfl
theorem t127_38 : (am_G 127).2.2.2.2.1 38 = (.imul, 39, 0, 0) := rfl
theorem t127_39 : (am_G 127).2.2.2.2.1 39 = (.iload_n 2, 40, 2, 0) := rfl
theorem t127_40 : (am_G 127).2.2.2.2.1 40 = (.iadd, 41, 0, 0) := rfl
theorem t127_41 : (am_G 127).2.2.2.2.1 41 = (.istore_n 3, 42, 3, 0) := rfl
theorem t127_42 : (am_G 127).2.2.2.2.1 42 = (.iload_n 3, 43, 3, 0) := rfl
theorem t127_43 : (am_G 127).2.2.2.2.1 43 = (.istore 4, 45, 4, 0) := rfl
theorem t127_45 : (am_G 127).2.2.2.2.1 45 = (.iload 4, 47, 4, 0) := rfl
theorem t127_47 : (am_G 127).2.2.2.2.1 47 = (.iconst 4, 48, 4, 0) := rfl
theorem t127_48 : (am_G 127).2.2.2.2.1 48 = (.iload_n 1, 49, 1, 0) := rfl
theorem t127_49 : (am_G 127).2.2.2.2.1 49 = (.imul, 50, 0, 0) := rfl
theorem t127_50 : (am_G 127).2.2.2.2.1 50 = (.iconst 4, 51, 4, 0) := rfl
theorem t127_51 : (am_G 127).2.2.2.2.1 51 = (.iadd, 52, 0, 0) := rfl
theorem t127_52 : (am_G 127).2.2.2.2.1 52 = (.if_icmp .ge 50, 55, 102, 0) := rfl
theorem t127_55 : (am_G 127).2.2.2.2.1 55 = (.aload_n 0, 56, 0, 0) := rfl
theorem t127_56 : (am_G 127).2.2.2.2.1 56 = (.getfield 7, 59, 8, 0) := rfl
theorem t127_59 : (am_G 127).2.2.2.2.1 59 = (.iload 4, 61, 4, 0) := rfl
theorem t127_61 : (am_G 127).2.2.2.2.1 61 = (.caload, 62, 0, 0) := rfl
theorem t127_62 : (am_G 127).2.2.2.2.1 62 = (.aload_n 0, 63, 0, 0) := rfl
theorem t127_63 : (am_G 127).2.2.2.2.1 63 = (.getfield 7, 66, 8, 0) := rfl
theorem t127_66 : (am_G 127).2.2.2.2.1 66 = (.iload_n 3, 67, 3, 0) := rfl
theorem t127_67 : (am_G 127).2.2.2.2.1 67 = (.caload, 68, 0, 0) := rfl
theorem t127_68 : (am_G 127).2.2.2.2.1 68 = (.if_icmp .ne 28, 71, 96, 0) := rfl
theorem t127_71 : (am_G 127).2.2.2.2.1 71 = (.aload_n 0, 72, 0, 0) := rfl
theorem t127_72 : (am_G 127).2.2.2.2.1 72 = (.getfield 16, 75, 8, 2) := rfl
theorem t127_75 : (am_G 127).2.2.2.2.1 75 = (.iload 4, 77, 4, 0) := rfl
theorem t127_77 : (am_G 127).2.2.2.2.1 77 = (.iaload, 78, 0, 0) := rfl
theorem t127_78 : (am_G 127).2.2.2.2.1 78 = (.aload_n 0, 79, 0, 0) := rfl
theorem t127_79 : (am_G 127).2.2.2.2.1 79 = (.getfield 16, 82, 8, 2) := rfl
theorem t127_82 : (am_G 127).2.2.2.2.1 82 = (.iload_n 3, 83, 3, 0) := rfl
theorem t127_83 : (am_G 127).2.2.2.2.1 83 = (.iaload, 84, 0, 0) := rfl
theorem t127_84 : (am_G 127).2.2.2.2.1 84 = (.if_icmp .ne 12, 87, 96, 0) := rfl
theorem t127_87 : (am_G 127).2.2.2.2.1 87 = (.aload_n 0, 88, 0, 0) := rfl
theorem t127_88 : (am_G 127).2.2.2.2.1 88 = (.iload 4, 90, 4, 0) := rfl
theorem t127_90 : (am_G 127).2.2.2.2.1 90 = (.invokevirtual 164, 93, 125, 8) := rfl
theorem t127_93 : (am_G 127).2.2.2.2.1 93 = (.ifCond .eq 9, 96, 102, 0) := rfl
theorem t127_96 : (am_G 127).2.2.2.2.1 96 = (.iinc 4 1, 99, 4, 1) := rfl
theorem t127_99 : (am_G 127).2.2.2.2.1 99 = (.goto (-54), 102, 45, 0) := rfl
theorem t127_102 : (am_G 127).2.2.2.2.1 102 = (.iload 4, 104, 4, 0) := rfl
theorem t127_104 : (am_G 127).2.2.2.2.1 104 = (.iconst 4, 105, 4, 0) := rfl
theorem t127_105 : (am_G 127).2.2.2.2.1 105 = (.iload_n 1, 106, 1, 0) := rfl
theorem t127_106 : (am_G 127).2.2.2.2.1 106 = (.imul, 107, 0, 0) := rfl
theorem t127_107 : (am_G 127).2.2.2.2.1 107 = (.iconst 4, 108, 4, 0) := rfl
theorem t127_108 : (am_G 127).2.2.2.2.1 108 = (.iadd, 109, 0, 0) := rfl
theorem t127_109 : (am_G 127).2.2.2.2.1 109 = (.if_icmp .ne 6, 112, 115, 0) := rfl
theorem t127_112 : (am_G 127).2.2.2.2.1 112 = (.bipush 119, 114, 119, 0) := rfl
theorem t127_114 : (am_G 127).2.2.2.2.1 114 = (.ireturn, 115, 0, 0) := rfl
theorem t127_115 : (am_G 127).2.2.2.2.1 115 = (.aload_n 0, 116, 0, 0) := rfl
theorem t127_116 : (am_G 127).2.2.2.2.1 116 = (.iload 4, 118, 4, 0) := rfl
theorem t127_118 : (am_G 127).2.2.2.2.1 118 = (.putfield 70, 121, 8, 19) := rfl
theorem t127_121 : (am_G 127).2.2.2.2.1 121 = (.bipush 45, 123, 45, 0) := rfl
theorem t127_123 : (am_G 127).2.2.2.2.1 123 = (.ireturn, 124, 0, 0) := rfl
theorem t128_0 : (am_G 128).2.2.2.2.1 0 = (.iload_n 1, 1, 1, 0) := rfl
theorem t128_1 : (am_G 128).2.2.2.2.1 1 = (.iconst 0, 2, 0, 0) := rfl
theorem t128_2 : (am_G 128).2.2.2.2.1 2 = (.bipush 7, 4, 7, 0) := rfl
theorem t128_4 : (am_G 128).2.2.2.2.1 4 = (.invokestatic 100, 7, 97, 0) := rfl
theorem t128_7 : (am_G 128).2.2.2.2.1 7 = (.ifCond .ne 6, 10, 13, 0) := rfl
theorem t128_10 : (am_G 128).2.2.2.2.1 10 = (.bipush 110, 12, 110, 0) := rfl
theorem t128_12 : (am_G 128).2.2.2.2.1 12 = (.ireturn, 13, 0, 0) := rfl
theorem t128_13 : (am_G 128).2.2.2.2.1 13 = (.aload_n 0, 14, 0, 0) := rfl
theorem t128_14 : (am_G 128).2.2.2.2.1 14 = (.getfield 70, 17, 8, 19) := rfl
theorem t128_17 : (am_G 128).2.2.2.2.1 17 = (.ifCond .ge 6, 20, 23, 0) := rfl
theorem t128_20 : (am_G 128).2.2.2.2.1 20 = (.bipush 115, 22, 115, 0) := rfl
theorem t128_22 : (am_G 128).2.2.2.2.1 22 = (.ireturn, 23, 0, 0) := rfl
theorem t128_23 : (am_G 128).2.2.2.2.1 23 = (.aload_n 0, 24, 0, 0) := rfl
theorem t128_24 : (am_G 128).2.2.2.2.1 24 = (.getfield 44, 27, 8, 11) := rfl
theorem t128_27 : (am_G 128).2.2.2.2.1 27 = (.iconst 2, 28, 2, 0) := rfl
theorem t128_28 : (am_G 128).2.2.2.2.1 28 = (.iaload, 29, 0, 0) := rfl
theorem t128_29 : (am_G 128).2.2.2.2.1 29 = (.istore_n 2, 30, 2, 0) := rfl
theorem t128_30 : (am_G 128).2.2.2.2.1 30 = (.aload_n 0, 31, 0, 0) := rfl
theorem t128_31 : (am_G 128).2.2.2.2.1 31 = (.aload_n 0, 32, 0, 0) := rfl
theorem t128_32 : (am_G 128).2.2.2.2.1 32 = (.getfield 44, 35, 8, 11) := rfl
theorem t128_35 : (am_G 128).2.2.2.2.1 35 = (.iconst 0, 36, 0, 0) := rfl
theorem t128_36 : (am_G 128).2.2.2.2.1 36 = (.iaload, 37, 0, 0) := rfl
theorem t128_37 : (am_G 128).2.2.2.2.1 37 = (.aload_n 0, 38, 0, 0) := rfl
theorem t128_38 : (am_G 128).2.2.2.2.1 38 = (.getfield 44, 41, 8, 11) := rfl
theorem t128_41 : (am_G 128).2.2.2.2.1 41 = (.iconst 1, 42, 1, 0) := rfl
theorem t128_42 : (am_G 128).2.2.2.2.1 42 = (.iaload, 43, 0, 0) := rfl
theorem t128_43 : (am_G 128).2.2.2.2.1 43 = (.iload_n 2, 44, 2, 0) := rfl
theorem t128_44 : (am_G 128).2.2.2.2.1 44 = (.iconst 1, 45, 1, 0) := rfl
theorem t128_45 : (am_G 128).2.2.2.2.1 45 = (.iconst 0, 46, 0, 0) := rfl
theorem t128_46 : (am_G 128).2.2.2.2.1 46 = (.invokevirtual 145, 49, 117, 8) := rfl
theorem t128_49 : (am_G 128).2.2.2.2.1 49 = (.ifCond .le 6, 52, 55, 0) := rfl
theorem t128_52 : (am_G 128).2.2.2.2.1 52 = (.bipush 120, 54, 120, 0) := rfl
theorem t128_54 : (am_G 128).2.2.2.2.1 54 = (.ireturn, 55, 0, 0) := rfl
theorem t128_55 : (am_G 128).2.2.2.2.1 55 = (.iload_n 2, 56, 2, 0) := rfl
theorem t128_56 : (am_G 128).2.2.2.2.1 56 = (.ifCond .le 33, 59, 89, 0) := rfl
theorem t128_59 : (am_G 128).2.2.2.2.1 59 = (.aload_n 0, 60, 0, 0) := rfl
theorem t128_60 : (am_G 128).2.2.2.2.1 60 = (.aload_n 0, 61, 0, 0) := rfl
theorem t128_61 : (am_G 128).2.2.2.2.1 61 = (.getfield 44, 64, 8, 11) := rfl
theorem t128_64 : (am_G 128).2.2.2.2.1 64 = (.iconst 0, 65, 0, 0) := rfl
theorem t128_65 : (am_G 128).2.2.2.2.1 65 = (.iaload, 66, 0, 0) := rfl
theorem t128_66 : (am_G 128).2.2.2.2.1 66 = (.aload_n 0, 67, 0, 0) := rfl
theorem t128_67 : (am_G 128).2.2.2.2.1 67 = (.getfield 44, 70, 8, 11) := rfl
theorem t128_70 : (am_G 128).2.2.2.2.1 70 = (.iconst 1, 71, 1, 0) := rfl
theorem t128_71 : (am_G 128).2.2.2.2.1 71 = (.iaload, 72, 0, 0) := rfl
theorem t128_72 : (am_G 128).2.2.2.2.1 72 = (.iload_n 2, 73, 2, 0) := rfl
theorem t128_73 : (am_G 128).2.2.2.2.1 73 = (.iconst 1, 74, 1, 0) := rfl
theorem t128_74 : (am_G 128).2.2.2.2.1 74 = (.isub, 75, 0, 0) := rfl
theorem t128_75 : (am_G 128).2.2.2.2.1 75 = (.iconst 1, 76, 1, 0) := rfl
theorem t128_76 : (am_G 128).2.2.2.2.1 76 = (.iconst 0, 77, 0, 0) := rfl
theorem t128_77 : (am_G 128).2.2.2.2.1 77 = (.invokevirtual 145, 80, 117, 8) := rfl
theorem t128_80 : (am_G 128).2.2.2.2.1 80 = (.ifCond .ne 9, 83, 89, 0) := rfl
theorem t128_83 : (am_G 128).2.2.2.2.1 83 = (.iinc 2 (-1), 86, 2, 4294967295) := rfl
theorem t128_86 : (am_G 128).2.2.2.2.1 86 = (.goto (-31), 89, 55, 0) := rfl
theorem t128_89 : (am_G 128).2.2.2.2.1 89 = (.aload_n 0, 90, 0, 0) := rfl
theorem t128_90 : (am_G 128).2.2.2.2.1 90 = (.getfield 38, 93, 8, 9) := rfl
theorem t128_93 : (am_G 128).2.2.2.2.1 93 = (.iload_n 1, 94, 1, 0) := rfl
theorem t128_94 : (am_G 128).2.2.2.2.1 94 = (.iload_n 2, 95, 2, 0) := rfl
theorem t128_95 : (am_G 128).2.2.2.2.1 95 = (.iastore, 96, 0, 0) := rfl
theorem t128_96 : (am_G 128).2.2.2.2.1 96 = (.bipush 45, 98, 45, 0) := rfl
theorem t128_98 : (am_G 128).2.2.2.2.1 98 = (.ireturn, 99, 0, 0) := rfl
theorem t129_0 : (am_G 129).2.2.2.2.1 0 = (.iload_n 1, 1, 1, 0) := rfl
theorem t129_1 : (am_G 129).2.2.2.2.1 1 = (.bipush 102, 3, 102, 0) := rfl
theorem t129_3 : (am_G 129).2.2.2.2.1 3 = (.if_icmp .ne 8, 6, 11, 0) := rfl
theorem t129_6 : (am_G 129).2.2.2.2.1 6 = (.bipush 50, 8, 50, 0) := rfl
theorem t129_8 : (am_G 129).2.2.2.2.1 8 = (.goto 25, 11, 33, 0) := rfl
theorem t129_11 : (am_G 129).2.2.2.2.1 11 = (.iload_n 1, 12, 1, 0) := rfl
theorem t129_12 : (am_G 129).2.2.2.2.1 12 = (.bipush 111, 14, 111, 0) := rfl
theorem t129_14 : (am_G 129).2.2.2.2.1 14 = (.if_icmp .ne 7, 17, 21, 0) := rfl
theorem t129_17 : (am_G 129).2.2.2.2.1 17 = (.iconst 3, 18, 3, 0) := rfl
theorem t129_18 : (am_G 129).2.2.2.2.1 18 = (.goto 15, 21, 33, 0) := rfl
theorem t129_21 : (am_G 129).2.2.2.2.1 21 = (.iload_n 1, 22, 1, 0) := rfl
theorem t129_22 : (am_G 129).2.2.2.2.1 22 = (.bipush 118, 24, 118, 0) := rfl
theorem t129_24 : (am_G 129).2.2.2.2.1 24 = (.if_icmp .ne 8, 27, 32, 0) := rfl
theorem t129_27 : (am_G 129).2.2.2.2.1 27 = (.bipush 7, 29, 7, 0) := rfl
theorem t129_29 : (am_G 129).2.2.2.2.1 29 = (.goto 4, 32, 33, 0) := rfl
theorem t129_32 : (am_G 129).2.2.2.2.1 32 = (.iconst 1, 33, 1, 0) := rfl
theorem t129_33 : (am_G 129).2.2.2.2.1 33 = (.istore 5, 35, 5, 0) := rfl
theorem t129_35 : (am_G 129).2.2.2.2.1 35 = (.iload_n 2, 36, 2, 0) := rfl
theorem t129_36 : (am_G 129).2.2.2.2.1 36 = (.iload_n 1, 37, 1, 0) := rfl
theorem t129_37 : (am_G 129).2.2.2.2.1 37 = (.bipush 102, 39, 102, 0) := rfl
theorem t129_39 : (am_G 129).2.2.2.2.1 39 = (.if_icmp .ne 7, 42, 46, 0) := rfl
theorem t129_42 : (am_G 129).2.2.2.2.1 42 = (.iconst 1, 43, 1, 0) := rfl
theorem t129_43 : (am_G 129).2.2.2.2.1 43 = (.goto 4, 46, 47, 0) := rfl
theorem t129_46 : (am_G 129).2.2.2.2.1 46 = (.iconst 0, 47, 0, 0) := rfl
theorem t129_47 : (am_G 129).2.2.2.2.1 47 = (.iload 5, 49, 5, 0) := rfl
theorem t129_49 : (am_G 129).2.2.2.2.1 49 = (.invokestatic 100, 52, 97, 0) := rfl
theorem t129_52 : (am_G 129).2.2.2.2.1 52 = (.ifCond .ne 6, 55, 58, 0) := rfl
theorem t129_55 : (am_G 129).2.2.2.2.1 55 = (.bipush 110, 57, 110, 0) := rfl
theorem t129_57 : (am_G 129).2.2.2.2.1 57 = (.ireturn, 58, 0, 0) := rfl
theorem t129_58 : (am_G 129).2.2.2.2.1 58 = (.iload_n 1, 59, 1, 0) := rfl
theorem t129_59 : (am_G 129).2.2.2.2.1 59 = (.bipush 115, 61, 115, 0) := rfl
theorem t129_61 : (am_G 129).2.2.2.2.1 61 = (.if_icmp .ne 17, 64, 78, 0) := rfl
theorem t129_64 : (am_G 129).2.2.2.2.1 64 = (.aload_n 0, 65, 0, 0) := rfl
theorem t129_65 : (am_G 129).2.2.2.2.1 65 = (.iload_n 2, 66, 2, 0) := rfl
theorem t129_66 : (am_G 129).2.2.2.2.1 66 = (.iconst 1, 67, 1, 0) := rfl
theorem t129_67 : (am_G 129).2.2.2.2.1 67 = (.if_icmp .ne 7, 70, 74, 0) := rfl
theorem t129_70 : (am_G 129).2.2.2.2.1 70 = (.iconst 1, 71, 1, 0) := rfl
theorem t129_71 : (am_G 129).2.2.2.2.1 71 = (.goto 4, 74, 75, 0) := rfl
theorem t129_74 : (am_G 129).2.2.2.2.1 74 = (.iconst 0, 75, 0, 0) := rfl
theorem t129_75 : (am_G 129).2.2.2.2.1 75 = (.putfield 83, 78, 8, 23) := rfl
theorem t129_78 : (am_G 129).2.2.2.2.1 78 = (.iload_n 1, 79, 1, 0) := rfl
theorem t129_79 : (am_G 129).2.2.2.2.1 79 = (.bipush 102, 81, 102, 0) := rfl
theorem t129_81 : (am_G 129).2.2.2.2.1 81 = (.if_icmp .ne 8, 84, 89, 0) := rfl
theorem t129_84 : (am_G 129).2.2.2.2.1 84 = (.aload_n 0, 85, 0, 0) := rfl
theorem t129_85 : (am_G 129).2.2.2.2.1 85 = (.iload_n 2, 86, 2, 0) := rfl
theorem t129_86 : (am_G 129).2.2.2.2.1 86 = (.putfield 73, 89, 8, 20) := rfl
theorem t129_89 : (am_G 129).2.2.2.2.1 89 = (.iload_n 1, 90, 1, 0) := rfl
theorem t129_90 : (am_G 129).2.2.2.2.1 90 = (.bipush 109, 92, 109, 0) := rfl
theorem t129_92 : (am_G 129).2.2.2.2.1 92 = (.if_icmp .ne 17, 95, 109, 0) := rfl
theorem t129_95 : (am_G 129).2.2.2.2.1 95 = (.aload_n 0, 96, 0, 0) := rfl
theorem t129_96 : (am_G 129).2.2.2.2.1 96 = (.iload_n 2, 97, 2, 0) := rfl
theorem t129_97 : (am_G 129).2.2.2.2.1 97 = (.iconst 1, 98, 1, 0) := rfl
theorem t129_98 : (am_G 129).2.2.2.2.1 98 = (.if_icmp .ne 7, 101, 105, 0) := rfl
theorem t129_101 : (am_G 129).2.2.2.2.1 101 = (.iconst 1, 102, 1, 0) := rfl
theorem t129_102 : (am_G 129).2.2.2.2.1 102 = (.goto 4, 105, 106, 0) := rfl
theorem t129_105 : (am_G 129).2.2.2.2.1 105 = (.iconst 0, 106, 0, 0) := rfl
theorem t129_106 : (am_G 129).2.2.2.2.1 106 = (.putfield 79, 109, 8, 22) := rfl
theorem t129_109 : (am_G 129).2.2.2.2.1 109 = (.iload_n 1, 110, 1, 0) := rfl
theorem t129_110 : (am_G 129).2.2.2.2.1 110 = (.bipush 111, 112, 111, 0) := rfl
theorem t129_112 : (am_G 129).2.2.2.2.1 112 = (.if_icmp .ne 8, 115, 120, 0) := rfl
theorem t129_115 : (am_G 129).2.2.2.2.1 115 = (.aload_n 0, 116, 0, 0) := rfl
theorem t129_116 : (am_G 129).2.2.2.2.1 116 = (.iload_n 2, 117, 2, 0) := rfl
theorem t129_117 : (am_G 129).2.2.2.2.1 117 = (.putfield 76, 120, 8, 21) := rfl
theorem t129_120 : (am_G 129).2.2.2.2.1 120 = (.iload_n 1, 121, 1, 0) := rfl
theorem t129_121 : (am_G 129).2.2.2.2.1 121 = (.bipush 118, 123, 118, 0) := rfl
theorem t129_123 : (am_G 129).2.2.2.2.1 123 = (.if_icmp .ne 32, 126, 155, 0) := rfl
theorem t129_126 : (am_G 129).2.2.2.2.1 126 = (.aload_n 0, 127, 0, 0) := rfl
theorem t129_127 : (am_G 129).2.2.2.2.1 127 = (.getfield 38, 130, 8, 9) := rfl
theorem t129_130 : (am_G 129).2.2.2.2.1 130 = (.iload_n 2, 131, 2, 0) := rfl
theorem t129_131 : (am_G 129).2.2.2.2.1 131 = (.bipush (-50), 133, 4294967246, 0) := rfl
theorem t129_133 : (am_G 129).2.2.2.2.1 133 = (.iload_n 3, 134, 3, 0) := rfl
theorem t129_134 : (am_G 129).2.2.2.2.1 134 = (.iload 4, 136, 4, 0) := rfl
theorem t129_136 : (am_G 129).2.2.2.2.1 136 = (.iadd, 137, 0, 0) := rfl
theorem t129_137 : (am_G 129).2.2.2.2.1 137 = (.bipush 50, 139, 50, 0) := rfl
theorem t129_139 : (am_G 129).2.2.2.2.1 139 = (.if_icmp .ge 10, 142, 149, 0) := rfl
theorem t129_142 : (am_G 129).2.2.2.2.1 142 = (.iload_n 3, 143, 3, 0) := rfl
theorem t129_143 : (am_G 129).2.2.2.2.1 143 = (.iload 4, 145, 4, 0) := rfl
theorem t129_145 : (am_G 129).2.2.2.2.1 145 = (.iadd, 146, 0, 0) := rfl
theorem t129_146 : (am_G 129).2.2.2.2.1 146 = (.goto 5, 149, 151, 0) := rfl
theorem t129_149 : (am_G 129).2.2.2.2.1 149 = (.bipush 50, 151, 50, 0) := rfl
theorem t129_151 : (am_G 129).2.2.2.2.1 151 = (.invokestatic 141, 154, 120, 0) := rfl
theorem t129_154 : (am_G 129).2.2.2.2.1 154 = (.iastore, 155, 0, 0) := rfl
theorem t129_155 : (am_G 129).2.2.2.2.1 155 = (.bipush 45, 157, 45, 0) := rfl
theorem t129_157 : (am_G 129).2.2.2.2.1 157 = (.ireturn, 158, 0, 0) := rfl
theorem t130_0 : (am_G 130).2.2.2.2.1 0 = (.iload_n 1, 1, 1, 0) := rfl
theorem t130_1 : (am_G 130).2.2.2.2.1 1 = (.bipush 114, 3, 114, 0) := rfl
theorem t130_3 : (am_G 130).2.2.2.2.1 3 = (.if_icmp .ne 16, 6, 19, 0) := rfl
theorem t130_6 : (am_G 130).2.2.2.2.1 6 = (.iload_n 2, 7, 2, 0) := rfl
theorem t130_7 : (am_G 130).2.2.2.2.1 7 = (.iconst 0, 8, 0, 0) := rfl
theorem t130_8 : (am_G 130).2.2.2.2.1 8 = (.bipush 9, 10, 9, 0) := rfl
theorem t130_10 : (am_G 130).2.2.2.2.1 10 = (.invokestatic 100, 13, 97, 0) := rfl
theorem t130_13 : (am_G 130).2.2.2.2.1 13 = (.ifCond .ne 6, 16, 19, 0) := rfl
theorem t130_16 : (am_G 130).2.2.2.2.1 16 = (.bipush 110, 18, 110, 0) := rfl
theorem t130_18 : (am_G 130).2.2.2.2.1 18 = (.ireturn, 19, 0, 0) := rfl
theorem t130_19 : (am_G 130).2.2.2.2.1 19 = (.iload_n 1, 20, 1, 0) := rfl
theorem t130_20 : (am_G 130).2.2.2.2.1 20 = (.bipush 114, 22, 114, 0) := rfl
theorem t130_22 : (am_G 130).2.2.2.2.1 22 = (.if_icmp .ne 15, 25, 37, 0) := rfl
theorem t130_25 : (am_G 130).2.2.2.2.1 25 = (.iload_n 2, 26, 2, 0) := rfl
theorem t130_26 : (am_G 130).2.2.2.2.1 26 = (.ifCond .le 7, 29, 33, 0) := rfl
theorem t130_29 : (am_G 130).2.2.2.2.1 29 = (.iconst 1, 30, 1, 0) := rfl
theorem t130_30 : (am_G 130).2.2.2.2.1 30 = (.goto 17, 33, 47, 0) := rfl
theorem t130_33 : (am_G 130).2.2.2.2.1 33 = (.iconst 0, 34, 0, 0) := rfl
theorem t130_34 : (am_G 130).2.2.2.2.1 34 = (.goto 13, 37, 47, 0) := rfl
theorem t130_37 : (am_G 130).2.2.2.2.1 37 = (.iload_n 2, 38, 2, 0) := rfl
theorem t130_38 : (am_G 130).2.2.2.2.1 38 = (.iload_n 3, 39, 3, 0) := rfl
theorem t130_39 : (am_G 130).2.2.2.2.1 39 = (.if_icmp .le 7, 42, 46, 0) := rfl
theorem t130_42 : (am_G 130).2.2.2.2.1 42 = (.iconst 1, 43, 1, 0) := rfl
theorem t130_43 : (am_G 130).2.2.2.2.1 43 = (.goto 4, 46, 47, 0) := rfl
theorem t130_46 : (am_G 130).2.2.2.2.1 46 = (.iconst 0, 47, 0, 0) := rfl
theorem t130_47 : (am_G 130).2.2.2.2.1 47 = (.istore 4, 49, 4, 0) := rfl
theorem t130_49 : (am_G 130).2.2.2.2.1 49 = (.aload_n 0, 50, 0, 0) := rfl
theorem t130_50 : (am_G 130).2.2.2.2.1 50 = (.getfield 35, 53, 8, 8) := rfl
theorem t130_53 : (am_G 130).2.2.2.2.1 53 = (.aload_n 0, 54, 0, 0) := rfl
theorem t130_54 : (am_G 130).2.2.2.2.1 54 = (.getfield 64, 57, 8, 17) := rfl
theorem t130_57 : (am_G 130).2.2.2.2.1 57 = (.iload_n 2, 58, 2, 0) := rfl
theorem t130_58 : (am_G 130).2.2.2.2.1 58 = (.iastore, 59, 0, 0) := rfl
theorem t130_59 : (am_G 130).2.2.2.2.1 59 = (.aload_n 0, 60, 0, 0) := rfl
theorem t130_60 : (am_G 130).2.2.2.2.1 60 = (.iload 4, 62, 4, 0) := rfl
theorem t130_62 : (am_G 130).2.2.2.2.1 62 = (.ifCond .eq 10, 65, 72, 0) := rfl
theorem t130_65 : (am_G 130).2.2.2.2.1 65 = (.aload_n 0, 66, 0, 0) := rfl
theorem t130_66 : (am_G 130).2.2.2.2.1 66 = (.getfield 64, 69, 8, 17) := rfl
theorem t130_69 : (am_G 130).2.2.2.2.1 69 = (.goto 11, 72, 80, 0) := rfl
theorem t130_72 : (am_G 130).2.2.2.2.1 72 = (.aload_n 0, 73, 0, 0) := rfl
theorem t130_73 : (am_G 130).2.2.2.2.1 73 = (.aload_n 0, 74, 0, 0) := rfl
theorem t130_74 : (am_G 130).2.2.2.2.1 74 = (.getfield 64, 77, 8, 17) := rfl
theorem t130_77 : (am_G 130).2.2.2.2.1 77 = (.invokevirtual 171, 80, 114, 8) := rfl
theorem t130_80 : (am_G 130).2.2.2.2.1 80 = (.putfield 64, 83, 8, 17) := rfl
theorem t130_83 : (am_G 130).2.2.2.2.1 83 = (.bipush 45, 85, 45, 0) := rfl
theorem t130_85 : (am_G 130).2.2.2.2.1 85 = (.ireturn, 86, 0, 0) := rfl
theorem t131_0 : (am_G 131).2.2.2.2.1 0 = (.aload_n 0, 1, 0, 0) := rfl
theorem t131_1 : (am_G 131).2.2.2.2.1 1 = (.aload_n 0, 2, 0, 0) := rfl
theorem t131_2 : (am_G 131).2.2.2.2.1 2 = (.getfield 64, 5, 8, 17) := rfl
theorem t131_5 : (am_G 131).2.2.2.2.1 5 = (.invokevirtual 174, 8, 115, 8) := rfl
theorem t131_8 : (am_G 131).2.2.2.2.1 8 = (.istore_n 1, 9, 1, 0) := rfl
theorem t131_9 : (am_G 131).2.2.2.2.1 9 = (.aload_n 0, 10, 0, 0) := rfl
theorem t131_10 : (am_G 131).2.2.2.2.1 10 = (.getfield 13, 13, 8, 1) := rfl
theorem t131_13 : (am_G 131).2.2.2.2.1 13 = (.iload_n 1, 14, 1, 0) := rfl
theorem t131_14 : (am_G 131).2.2.2.2.1 14 = (.caload, 15, 0, 0) := rfl
theorem t131_15 : (am_G 131).2.2.2.2.1 15 = (.bipush 105, 17, 105, 0) := rfl
theorem t131_17 : (am_G 131).2.2.2.2.1 17 = (.if_icmp .ne 4, 20, 21, 0) := rfl
theorem t131_20 : (am_G 131).2.2.2.2.1 20 = (.return_, 21, 0, 0) := rfl
theorem t131_21 : (am_G 131).2.2.2.2.1 21 = (.aload_n 0, 22, 0, 0) := rfl
theorem t131_22 : (am_G 131).2.2.2.2.1 22 = (.getfield 35, 25, 8, 8) := rfl
theorem t131_25 : (am_G 131).2.2.2.2.1 25 = (.iload_n 1, 26, 1, 0) := rfl
theorem t131_26 : (am_G 131).2.2.2.2.1 26 = (.dup2, 27, 0, 0) := rfl
theorem t131_27 : (am_G 131).2.2.2.2.1 27 = (.iaload, 28, 0, 0) := rfl
theorem t131_28 : (am_G 131).2.2.2.2.1 28 = (.iconst 1, 29, 1, 0) := rfl
theorem t131_29 : (am_G 131).2.2.2.2.1 29 = (.isub, 30, 0, 0) := rfl
theorem t131_30 : (am_G 131).2.2.2.2.1 30 = (.iastore, 31, 0, 0) := rfl
theorem t131_31 : (am_G 131).2.2.2.2.1 31 = (.aload_n 0, 32, 0, 0) := rfl
theorem t131_32 : (am_G 131).2.2.2.2.1 32 = (.getfield 35, 35, 8, 8) := rfl
theorem t131_35 : (am_G 131).2.2.2.2.1 35 = (.iload_n 1, 36, 1, 0) := rfl
theorem t131_36 : (am_G 131).2.2.2.2.1 36 = (.iaload, 37, 0, 0) := rfl
theorem t131_37 : (am_G 131).2.2.2.2.1 37 = (.ifCond .le 8, 40, 45, 0) := rfl
theorem t131_40 : (am_G 131).2.2.2.2.1 40 = (.aload_n 0, 41, 0, 0) := rfl
theorem t131_41 : (am_G 131).2.2.2.2.1 41 = (.iload_n 1, 42, 1, 0) := rfl
theorem t131_42 : (am_G 131).2.2.2.2.1 42 = (.putfield 64, 45, 8, 17) := rfl
theorem t131_45 : (am_G 131).2.2.2.2.1 45 = (.return_, 46, 0, 0) := rfl
theorem t132_0 : (am_G 132).2.2.2.2.1 0 = (.iload_n 1, 1, 1, 0) := rfl
theorem t132_1 : (am_G 132).2.2.2.2.1 1 = (.bipush 100, 3, 100, 0) := rfl
theorem t132_3 : (am_G 132).2.2.2.2.1 3 = (.if_icmp .lt 15, 6, 18, 0) := rfl
theorem t132_6 : (am_G 132).2.2.2.2.1 6 = (.aload_n 0, 7, 0, 0) := rfl
theorem t132_7 : (am_G 132).2.2.2.2.1 7 = (.getfield 38, 10, 8, 9) := rfl
theorem t132_10 : (am_G 132).2.2.2.2.1 10 = (.iload_n 1, 11, 1, 0) := rfl
theorem t132_11 : (am_G 132).2.2.2.2.1 11 = (.bipush 100, 13, 100, 0) := rfl
theorem t132_13 : (am_G 132).2.2.2.2.1 13 = (.isub, 14, 0, 0) := rfl
theorem t132_14 : (am_G 132).2.2.2.2.1 14 = (.iaload, 15, 0, 0) := rfl
theorem t132_15 : (am_G 132).2.2.2.2.1 15 = (.goto 4, 18, 19, 0) := rfl
theorem t132_18 : (am_G 132).2.2.2.2.1 18 = (.iload_n 1, 19, 1, 0) := rfl
theorem t132_19 : (am_G 132).2.2.2.2.1 19 = (.ireturn, 20, 0, 0) := rfl
theorem t133_0 : (am_G 133).2.2.2.2.1 0 = (.aload_n 0, 1, 0, 0) := rfl
theorem t133_1 : (am_G 133).2.2.2.2.1 1 = (.getfield 13, 4, 8, 1) := rfl
theorem t133_4 : (am_G 133).2.2.2.2.1 4 = (.aload_n 0, 5, 0, 0) := rfl
theorem t133_5 : (am_G 133).2.2.2.2.1 5 = (.getfield 64, 8, 8, 17) := rfl
theorem t133_8 : (am_G 133).2.2.2.2.1 8 = (.caload, 9, 0, 0) := rfl
theorem t133_9 : (am_G 133).2.2.2.2.1 9 = (.istore_n 1, 10, 1, 0) := rfl
theorem t133_10 : (am_G 133).2.2.2.2.1 10 = (.aload_n 0, 11, 0, 0) := rfl
theorem t133_11 : (am_G 133).2.2.2.2.1 11 = (.aload_n 0, 12, 0, 0) := rfl
theorem t133_12 : (am_G 133).2.2.2.2.1 12 = (.getfield 26, 15, 8, 5) := rfl
theorem t133_15 : (am_G 133).2.2.2.2.1 15 = (.aload_n 0, 16, 0, 0) := rfl
theorem t133_16 : (am_G 133).2.2.2.2.1 16 = (.getfield 64, 19, 8, 17) := rfl
theorem t133_19 : (am_G 133).2.2.2.2.1 19 = (.iaload, 20, 0, 0) := rfl
theorem t133_20 : (am_G 133).2.2.2.2.1 20 = (.invokevirtual 177, 23, 132, 8) := rfl
theorem t133_23 : (am_G 133).2.2.2.2.1 23 = (.istore_n 2, 24, 2, 0) := rfl
theorem t133_24 : (am_G 133).2.2.2.2.1 24 = (.aload_n 0, 25, 0, 0) := rfl
theorem t133_25 : (am_G 133).2.2.2.2.1 25 = (.aload_n 0, 26, 0, 0) := rfl
theorem t133_26 : (am_G 133).2.2.2.2.1 26 = (.getfield 29, 29, 8, 6) := rfl
theorem t133_29 : (am_G 133).2.2.2.2.1 29 = (.aload_n 0, 30, 0, 0) := rfl
theorem t133_30 : (am_G 133).2.2.2.2.1 30 = (.getfield 64, 33, 8, 17) := rfl
theorem t133_33 : (am_G 133).2.2.2.2.1 33 = (.iaload, 34, 0, 0) := rfl
theorem t133_34 : (am_G 133).2.2.2.2.1 34 = (.invokevirtual 177, 37, 132, 8) := rfl
theorem t133_37 : (am_G 133).2.2.2.2.1 37 = (.istore_n 3, 38, 3, 0) := rfl
theorem t133_38 : (am_G 133).2.2.2.2.1 38 = (.aload_n 0, 39, 0, 0) := rfl
theorem t133_39 : (am_G 133).2.2.2.2.1 39 = (.aload_n 0, 40, 0, 0) := rfl
theorem t133_40 : (am_G 133).2.2.2.2.1 40 = (.getfield 32, 43, 8, 7) := rfl
theorem t133_43 : (am_G 133).2.2.2.2.1 43 = (.aload_n 0, 44, 0, 0) := rfl
theorem t133_44 : (am_G 133).2.2.2.2.1 44 = (.getfield 64, 47, 8, 17) := rfl
theorem t133_47 : (am_G 133).2.2.2.2.1 47 = (.iaload, 48, 0, 0) := rfl
theorem t133_48 : (am_G 133).2.2.2.2.1 48 = (.invokevirtual 177, 51, 132, 8) := rfl
theorem t133_51 : (am_G 133).2.2.2.2.1 51 = (.istore 4, 53, 4, 0) := rfl
theorem t133_53 : (am_G 133).2.2.2.2.1 53 = (.iload_n 1, 54, 1, 0) := rfl
theorem t133_54 : (am_G 133).2.2.2.2.1 54 = (.bipush 103, 56, 103, 0) := rfl
theorem t133_56 : (am_G 133).2.2.2.2.1 56 = (.if_icmp .eq 21, 59, 77, 0) := rfl
theorem t133_59 : (am_G 133).2.2.2.2.1 59 = (.iload_n 1, 60, 1, 0) := rfl
theorem t133_60 : (am_G 133).2.2.2.2.1 60 = (.bipush 108, 62, 108, 0) := rfl
theorem t133_62 : (am_G 133).2.2.2.2.1 62 = (.if_icmp .eq 15, 65, 77, 0) := rfl
theorem t133_65 : (am_G 133).2.2.2.2.1 65 = (.iload_n 1, 66, 1, 0) := rfl
theorem t133_66 : (am_G 133).2.2.2.2.1 66 = (.bipush 100, 68, 100, 0) := rfl
theorem t133_68 : (am_G 133).2.2.2.2.1 68 = (.if_icmp .eq 9, 71, 77, 0) := rfl
theorem t133_71 : (am_G 133).2.2.2.2.1 71 = (.iload_n 1, 72, 1, 0) := rfl
theorem t133_72 : (am_G 133).2.2.2.2.1 72 = (.bipush 112, 74, 112, 0) := rfl
theorem t133_74 : (am_G 133).2.2.2.2.1 74 = (.if_icmp .ne 13, 77, 87, 0) := rfl
theorem t133_77 : (am_G 133).2.2.2.2.1 77 = (.aload_n 0, 78, 0, 0) := rfl
theorem t133_78 : (am_G 133).2.2.2.2.1 78 = (.iload_n 1, 79, 1, 0) := rfl
theorem t133_79 : (am_G 133).2.2.2.2.1 79 = (.iload_n 2, 80, 2, 0) := rfl
theorem t133_80 : (am_G 133).2.2.2.2.1 80 = (.iload_n 3, 81, 3, 0) := rfl
theorem t133_81 : (am_G 133).2.2.2.2.1 81 = (.iload 4, 83, 4, 0) := rfl
theorem t133_83 : (am_G 133).2.2.2.2.1 83 = (.invokevirtual 180, 86, 126, 8) := rfl
theorem t133_86 : (am_G 133).2.2.2.2.1 86 = (.ireturn, 87, 0, 0) := rfl
theorem t133_87 : (am_G 133).2.2.2.2.1 87 = (.iload_n 1, 88, 1, 0) := rfl
theorem t133_88 : (am_G 133).2.2.2.2.1 88 = (.bipush 116, 90, 116, 0) := rfl
theorem t133_90 : (am_G 133).2.2.2.2.1 90 = (.if_icmp .ne 10, 93, 100, 0) := rfl
theorem t133_93 : (am_G 133).2.2.2.2.1 93 = (.aload_n 0, 94, 0, 0) := rfl
theorem t133_94 : (am_G 133).2.2.2.2.1 94 = (.iload_n 2, 95, 2, 0) := rfl
theorem t133_95 : (am_G 133).2.2.2.2.1 95 = (.iload_n 3, 96, 3, 0) := rfl
theorem t133_96 : (am_G 133).2.2.2.2.1 96 = (.invokevirtual 184, 99, 127, 8) := rfl
theorem t133_99 : (am_G 133).2.2.2.2.1 99 = (.ireturn, 100, 0, 0) := rfl
theorem t133_100 : (am_G 133).2.2.2.2.1 100 = (.iload_n 1, 101, 1, 0) := rfl
theorem t133_101 : (am_G 133).2.2.2.2.1 101 = (.bipush 120, 103, 120, 0) := rfl
theorem t133_103 : (am_G 133).2.2.2.2.1 103 = (.if_icmp .ne 9, 106, 112, 0) := rfl
theorem t133_106 : (am_G 133).2.2.2.2.1 106 = (.aload_n 0, 107, 0, 0) := rfl
theorem t133_107 : (am_G 133).2.2.2.2.1 107 = (.iload_n 2, 108, 2, 0) := rfl
theorem t133_108 : (am_G 133).2.2.2.2.1 108 = (.invokevirtual 188, 111, 128, 8) := rfl
theorem t133_111 : (am_G 133).2.2.2.2.1 111 = (.ireturn, 112, 0, 0) := rfl
theorem t133_112 : (am_G 133).2.2.2.2.1 112 = (.iload_n 1, 113, 1, 0) := rfl
theorem t133_113 : (am_G 133).2.2.2.2.1 113 = (.bipush 114, 115, 114, 0) := rfl
theorem t133_115 : (am_G 133).2.2.2.2.1 115 = (.if_icmp .eq 9, 118, 124, 0) := rfl
theorem t133_118 : (am_G 133).2.2.2.2.1 118 = (.iload_n 1, 119, 1, 0) := rfl
theorem t133_119 : (am_G 133).2.2.2.2.1 119 = (.bipush 105, 121, 105, 0) := rfl
theorem t133_121 : (am_G 133).2.2.2.2.1 121 = (.if_icmp .ne 11, 124, 132, 0) := rfl
theorem t133_124 : (am_G 133).2.2.2.2.1 124 = (.aload_n 0, 125, 0, 0) := rfl
theorem t133_125 : (am_G 133).2.2.2.2.1 125 = (.iload_n 1, 126, 1, 0) := rfl
theorem t133_126 : (am_G 133).2.2.2.2.1 126 = (.iload_n 2, 127, 2, 0) := rfl
theorem t133_127 : (am_G 133).2.2.2.2.1 127 = (.iload_n 3, 128, 3, 0) := rfl
theorem t133_128 : (am_G 133).2.2.2.2.1 128 = (.invokevirtual 192, 131, 130, 8) := rfl
theorem t133_131 : (am_G 133).2.2.2.2.1 131 = (.ireturn, 132, 0, 0) := rfl
theorem t133_132 : (am_G 133).2.2.2.2.1 132 = (.iload_n 1, 133, 1, 0) := rfl
theorem t133_133 : (am_G 133).2.2.2.2.1 133 = (.bipush 113, 135, 113, 0) := rfl
theorem t133_135 : (am_G 133).2.2.2.2.1 135 = (.if_icmp .ne 6, 138, 141, 0) := rfl
theorem t133_138 : (am_G 133).2.2.2.2.1 138 = (.bipush 45, 140, 45, 0) := rfl
theorem t133_140 : (am_G 133).2.2.2.2.1 140 = (.ireturn, 141, 0, 0) := rfl
theorem t133_141 : (am_G 133).2.2.2.2.1 141 = (.iload_n 1, 142, 1, 0) := rfl
theorem t133_142 : (am_G 133).2.2.2.2.1 142 = (.bipush 101, 144, 101, 0) := rfl
theorem t133_144 : (am_G 133).2.2.2.2.1 144 = (.if_icmp .eq 13, 147, 157, 0) := rfl
theorem t133_147 : (am_G 133).2.2.2.2.1 147 = (.aload_n 0, 148, 0, 0) := rfl
theorem t133_148 : (am_G 133).2.2.2.2.1 148 = (.iload_n 1, 149, 1, 0) := rfl
theorem t133_149 : (am_G 133).2.2.2.2.1 149 = (.iload_n 2, 150, 2, 0) := rfl
theorem t133_150 : (am_G 133).2.2.2.2.1 150 = (.iload_n 3, 151, 3, 0) := rfl
theorem t133_151 : (am_G 133).2.2.2.2.1 151 = (.iload 4, 153, 4, 0) := rfl
theorem t133_153 : (am_G 133).2.2.2.2.1 153 = (.invokevirtual 196, 156, 129, 8) := rfl
theorem t133_156 : (am_G 133).2.2.2.2.1 156 = (.ireturn, 157, 0, 0) := rfl
theorem t133_157 : (am_G 133).2.2.2.2.1 157 = (.aload_n 0, 158, 0, 0) := rfl
theorem t133_158 : (am_G 133).2.2.2.2.1 158 = (.invokevirtual 199, 161, 131, 8) := rfl
theorem t133_161 : (am_G 133).2.2.2.2.1 161 = (.bipush 45, 163, 45, 0) := rfl
theorem t133_163 : (am_G 133).2.2.2.2.1 163 = (.ireturn, 164, 0, 0) := rfl
theorem t134_0 : (am_G 134).2.2.2.2.1 0 = (.aload_n 0, 1, 0, 0) := rfl
theorem t134_1 : (am_G 134).2.2.2.2.1 1 = (.iload_n 1, 2, 1, 0) := rfl
theorem t134_2 : (am_G 134).2.2.2.2.1 2 = (.iconst 1, 3, 1, 0) := rfl
theorem t134_3 : (am_G 134).2.2.2.2.1 3 = (.bipush 100, 5, 100, 0) := rfl
theorem t134_5 : (am_G 134).2.2.2.2.1 5 = (.invokestatic 100, 8, 97, 0) := rfl
theorem t134_8 : (am_G 134).2.2.2.2.1 8 = (.ifCond .ne 7, 11, 15, 0) := rfl
theorem t134_11 : (am_G 134).2.2.2.2.1 11 = (.iconst 1, 12, 1, 0) := rfl
theorem t134_12 : (am_G 134).2.2.2.2.1 12 = (.goto 15, 15, 27, 0) := rfl
theorem t134_15 : (am_G 134).2.2.2.2.1 15 = (.aload_n 0, 16, 0, 0) := rfl
theorem t134_16 : (am_G 134).2.2.2.2.1 16 = (.invokevirtual 130, 19, 112, 8) := rfl
theorem t134_19 : (am_G 134).2.2.2.2.1 19 = (.ifCond .ne 7, 22, 26, 0) := rfl
theorem t134_22 : (am_G 134).2.2.2.2.1 22 = (.iconst 2, 23, 2, 0) := rfl
theorem t134_23 : (am_G 134).2.2.2.2.1 23 = (.goto 4, 26, 27, 0) := rfl
theorem t134_26 : (am_G 134).2.2.2.2.1 26 = (.iconst 0, 27, 0, 0) := rfl
theorem t134_27 : (am_G 134).2.2.2.2.1 27 = (.putfield 57, 30, 8, 15) := rfl
theorem t134_30 : (am_G 134).2.2.2.2.1 30 = (.aload_n 0, 31, 0, 0) := rfl
theorem t134_31 : (am_G 134).2.2.2.2.1 31 = (.getfield 57, 34, 8, 15) := rfl
theorem t134_34 : (am_G 134).2.2.2.2.1 34 = (.ifCond .le 5, 37, 39, 0) := rfl
theorem t134_37 : (am_G 134).2.2.2.2.1 37 = (.iconst 0, 38, 0, 0) := rfl
theorem t134_38 : (am_G 134).2.2.2.2.1 38 = (.ireturn, 39, 0, 0) := rfl
theorem t134_39 : (am_G 134).2.2.2.2.1 39 = (.aload_n 0, 40, 0, 0) := rfl
theorem t134_40 : (am_G 134).2.2.2.2.1 40 = (.bipush 45, 42, 45, 0) := rfl
theorem t134_42 : (am_G 134).2.2.2.2.1 42 = (.putfield 90, 45, 8, 25) := rfl
theorem t134_45 : (am_G 134).2.2.2.2.1 45 = (.iconst 0, 46, 0, 0) := rfl
theorem t134_46 : (am_G 134).2.2.2.2.1 46 = (.istore_n 2, 47, 2, 0) := rfl
theorem t134_47 : (am_G 134).2.2.2.2.1 47 = (.iconst 0, 48, 0, 0) := rfl
theorem t134_48 : (am_G 134).2.2.2.2.1 48 = (.istore_n 3, 49, 3, 0) := rfl
theorem t134_49 : (am_G 134).2.2.2.2.1 49 = (.iload_n 2, 50, 2, 0) := rfl
theorem t134_50 : (am_G 134).2.2.2.2.1 50 = (.iload_n 1, 51, 1, 0) := rfl
theorem t134_51 : (am_G 134).2.2.2.2.1 51 = (.if_icmp .ge 93, 54, 144, 0) := rfl
theorem t134_54 : (am_G 134).2.2.2.2.1 54 = (.aload_n 0, 55, 0, 0) := rfl
theorem t134_55 : (am_G 134).2.2.2.2.1 55 = (.getfield 64, 58, 8, 17) := rfl
theorem t134_58 : (am_G 134).2.2.2.2.1 58 = (.aload_n 0, 59, 0, 0) := rfl
theorem t134_59 : (am_G 134).2.2.2.2.1 59 = (.getfield 61, 62, 8, 16) := rfl
theorem t134_62 : (am_G 134).2.2.2.2.1 62 = (.if_icmp .ge 82, 65, 144, 0) := rfl
theorem t134_65 : (am_G 134).2.2.2.2.1 65 = (.aload_n 0, 66, 0, 0) := rfl
theorem t134_66 : (am_G 134).2.2.2.2.1 66 = (.getfield 90, 69, 8, 25) := rfl
theorem t134_69 : (am_G 134).2.2.2.2.1 69 = (.bipush 45, 71, 45, 0) := rfl
theorem t134_71 : (am_G 134).2.2.2.2.1 71 = (.if_icmp .ne 73, 74, 144, 0) := rfl
theorem t134_74 : (am_G 134).2.2.2.2.1 74 = (.iload_n 3, 75, 3, 0) := rfl
theorem t134_75 : (am_G 134).2.2.2.2.1 75 = (.ifCond .ne 69, 78, 144, 0) := rfl
theorem t134_78 : (am_G 134).2.2.2.2.1 78 = (.aload_n 0, 79, 0, 0) := rfl
theorem t134_79 : (am_G 134).2.2.2.2.1 79 = (.getfield 13, 82, 8, 1) := rfl
theorem t134_82 : (am_G 134).2.2.2.2.1 82 = (.aload_n 0, 83, 0, 0) := rfl
theorem t134_83 : (am_G 134).2.2.2.2.1 83 = (.getfield 64, 86, 8, 17) := rfl
theorem t134_86 : (am_G 134).2.2.2.2.1 86 = (.caload, 87, 0, 0) := rfl
theorem t134_87 : (am_G 134).2.2.2.2.1 87 = (.bipush 113, 89, 113, 0) := rfl
theorem t134_89 : (am_G 134).2.2.2.2.1 89 = (.if_icmp .ne 7, 92, 96, 0) := rfl
theorem t134_92 : (am_G 134).2.2.2.2.1 92 = (.iconst 1, 93, 1, 0) := rfl
theorem t134_93 : (am_G 134).2.2.2.2.1 93 = (.goto 4, 96, 97, 0) := rfl
theorem t134_96 : (am_G 134).2.2.2.2.1 96 = (.iconst 0, 97, 0, 0) := rfl
theorem t134_97 : (am_G 134).2.2.2.2.1 97 = (.istore_n 3, 98, 3, 0) := rfl
theorem t134_98 : (am_G 134).2.2.2.2.1 98 = (.aload_n 0, 99, 0, 0) := rfl
theorem t134_99 : (am_G 134).2.2.2.2.1 99 = (.aload_n 0, 100, 0, 0) := rfl
theorem t134_100 : (am_G 134).2.2.2.2.1 100 = (.invokevirtual 202, 103, 133, 8) := rfl
theorem t134_103 : (am_G 134).2.2.2.2.1 103 = (.putfield 90, 106, 8, 25) := rfl
theorem t134_106 : (am_G 134).2.2.2.2.1 106 = (.aload_n 0, 107, 0, 0) := rfl
theorem t134_107 : (am_G 134).2.2.2.2.1 107 = (.getfield 90, 110, 8, 25) := rfl
theorem t134_110 : (am_G 134).2.2.2.2.1 110 = (.bipush 45, 112, 45, 0) := rfl
theorem t134_112 : (am_G 134).2.2.2.2.1 112 = (.if_icmp .eq 6, 115, 118, 0) := rfl
theorem t134_115 : (am_G 134).2.2.2.2.1 115 = (.goto (-66), 118, 49, 0) := rfl
theorem t134_118 : (am_G 134).2.2.2.2.1 118 = (.aload_n 0, 119, 0, 0) := rfl
theorem t134_119 : (am_G 134).2.2.2.2.1 119 = (.dup, 120, 0, 0) := rfl
theorem t134_120 : (am_G 134).2.2.2.2.1 120 = (.getfield 64, 123, 8, 17) := rfl
theorem t134_123 : (am_G 134).2.2.2.2.1 123 = (.iconst 1, 124, 1, 0) := rfl
theorem t134_124 : (am_G 134).2.2.2.2.1 124 = (.iadd, 125, 0, 0) := rfl
theorem t134_125 : (am_G 134).2.2.2.2.1 125 = (.putfield 64, 128, 8, 17) := rfl
theorem t134_128 : (am_G 134).2.2.2.2.1 128 = (.aload_n 0, 129, 0, 0) := rfl
theorem t134_129 : (am_G 134).2.2.2.2.1 129 = (.dup, 130, 0, 0) := rfl
theorem t134_130 : (am_G 134).2.2.2.2.1 130 = (.getfield 67, 133, 8, 18) := rfl
theorem t134_133 : (am_G 134).2.2.2.2.1 133 = (.iconst 1, 134, 1, 0) := rfl
theorem t134_134 : (am_G 134).2.2.2.2.1 134 = (.iadd, 135, 0, 0) := rfl
theorem t134_135 : (am_G 134).2.2.2.2.1 135 = (.putfield 67, 138, 8, 18) := rfl
theorem t134_138 : (am_G 134).2.2.2.2.1 138 = (.iinc 2 1, 141, 2, 1) := rfl
theorem t134_141 : (am_G 134).2.2.2.2.1 141 = (.goto (-92), 144, 49, 0) := rfl
theorem t134_144 : (am_G 134).2.2.2.2.1 144 = (.iload_n 2, 145, 2, 0) := rfl
theorem t134_145 : (am_G 134).2.2.2.2.1 145 = (.ireturn, 146, 0, 0) := rfl
theorem t135_0 : (am_G 135).2.2.2.2.1 0 = (.aload_n 0, 1, 0, 0) := rfl
theorem t135_1 : (am_G 135).2.2.2.2.1 1 = (.getfield 67, 4, 8, 18) := rfl
theorem t135_4 : (am_G 135).2.2.2.2.1 4 = (.istore_n 1, 5, 1, 0) := rfl
theorem t135_5 : (am_G 135).2.2.2.2.1 5 = (.aload_n 0, 6, 0, 0) := rfl
theorem t135_6 : (am_G 135).2.2.2.2.1 6 = (.invokevirtual 97, 9, 100, 8) := rfl
theorem t135_9 : (am_G 135).2.2.2.2.1 9 = (.aload_n 0, 10, 0, 0) := rfl
theorem t135_10 : (am_G 135).2.2.2.2.1 10 = (.iload_n 1, 11, 1, 0) := rfl
theorem t135_11 : (am_G 135).2.2.2.2.1 11 = (.invokevirtual 206, 14, 98, 8) := rfl
theorem t135_14 : (am_G 135).2.2.2.2.1 14 = (.ireturn, 15, 0, 0) := rfl
theorem t136_0 : (am_G 136).2.2.2.2.1 0 = (.aload_n 0, 1, 0, 0) := rfl
theorem t136_1 : (am_G 136).2.2.2.2.1 1 = (.iconst 0, 2, 0, 0) := rfl
theorem t136_2 : (am_G 136).2.2.2.2.1 2 = (.putfield 57, 5, 8, 15) := rfl
theorem t136_5 : (am_G 136).2.2.2.2.1 5 = (.aload_n 0, 6, 0, 0) := rfl
theorem t136_6 : (am_G 136).2.2.2.2.1 6 = (.getfield 90, 9, 8, 25) := rfl
theorem t136_9 : (am_G 136).2.2.2.2.1 9 = (.ireturn, 10, 0, 0) := rfl
theorem t137_0 : (am_G 137).2.2.2.2.1 0 = (.aload_n 0, 1, 0, 0) := rfl
theorem t137_1 : (am_G 137).2.2.2.2.1 1 = (.iconst 0, 2, 0, 0) := rfl
theorem t137_2 : (am_G 137).2.2.2.2.1 2 = (.putfield 57, 5, 8, 15) := rfl
theorem t137_5 : (am_G 137).2.2.2.2.1 5 = (.aload_n 0, 6, 0, 0) := rfl
theorem t137_6 : (am_G 137).2.2.2.2.1 6 = (.getfield 64, 9, 8, 17) := rfl
theorem t137_9 : (am_G 137).2.2.2.2.1 9 = (.aload_n 0, 10, 0, 0) := rfl
theorem t137_10 : (am_G 137).2.2.2.2.1 10 = (.getfield 61, 13, 8, 16) := rfl
theorem t137_13 : (am_G 137).2.2.2.2.1 13 = (.if_icmp .ne 7, 16, 20, 0) := rfl
theorem t137_16 : (am_G 137).2.2.2.2.1 16 = (.iconst 1, 17, 1, 0) := rfl
theorem t137_17 : (am_G 137).2.2.2.2.1 17 = (.goto 4, 20, 21, 0) := rfl
theorem t137_20 : (am_G 137).2.2.2.2.1 20 = (.iconst 0, 21, 0, 0) := rfl
theorem t137_21 : (am_G 137).2.2.2.2.1 21 = (.ireturn, 22, 0, 0) := rfl
theorem t138_0 : (am_G 138).2.2.2.2.1 0 = (.aload_n 0, 1, 0, 0) := rfl
theorem t138_1 : (am_G 138).2.2.2.2.1 1 = (.aload_n 0, 2, 0, 0) := rfl
theorem t138_2 : (am_G 138).2.2.2.2.1 2 = (.getfield 64, 5, 8, 17) := rfl
theorem t138_5 : (am_G 138).2.2.2.2.1 5 = (.invokevirtual 206, 8, 98, 8) := rfl
theorem t138_8 : (am_G 138).2.2.2.2.1 8 = (.ireturn, 9, 0, 0) := rfl
theorem t139_0 : (am_G 139).2.2.2.2.1 0 = (.aload_n 0, 1, 0, 0) := rfl
theorem t139_1 : (am_G 139).2.2.2.2.1 1 = (.aload_n 0, 2, 0, 0) := rfl
theorem t139_2 : (am_G 139).2.2.2.2.1 2 = (.getfield 67, 5, 8, 18) := rfl
theorem t139_5 : (am_G 139).2.2.2.2.1 5 = (.invokevirtual 206, 8, 98, 8) := rfl
theorem t139_8 : (am_G 139).2.2.2.2.1 8 = (.ireturn, 9, 0, 0) := rfl
theorem t140_0 : (am_G 140).2.2.2.2.1 0 = (.aload_n 0, 1, 0, 0) := rfl
theorem t140_1 : (am_G 140).2.2.2.2.1 1 = (.iload_n 1, 2, 1, 0) := rfl
theorem t140_2 : (am_G 140).2.2.2.2.1 2 = (.iconst 0, 3, 0, 0) := rfl
theorem t140_3 : (am_G 140).2.2.2.2.1 3 = (.bipush 7, 5, 7, 0) := rfl
theorem t140_5 : (am_G 140).2.2.2.2.1 5 = (.invokestatic 100, 8, 97, 0) := rfl
theorem t140_8 : (am_G 140).2.2.2.2.1 8 = (.invokevirtual 111, 11, 99, 8) := rfl
theorem t140_11 : (am_G 140).2.2.2.2.1 11 = (.ifCond .le 7, 14, 18, 0) := rfl
theorem t140_14 : (am_G 140).2.2.2.2.1 14 = (.iconst 0, 15, 0, 0) := rfl
theorem t140_15 : (am_G 140).2.2.2.2.1 15 = (.goto 9, 18, 24, 0) := rfl
theorem t140_18 : (am_G 140).2.2.2.2.1 18 = (.aload_n 0, 19, 0, 0) := rfl
theorem t140_19 : (am_G 140).2.2.2.2.1 19 = (.getfield 38, 22, 8, 9) := rfl
theorem t140_22 : (am_G 140).2.2.2.2.1 22 = (.iload_n 1, 23, 1, 0) := rfl
theorem t140_23 : (am_G 140).2.2.2.2.1 23 = (.iaload, 24, 0, 0) := rfl
theorem t140_24 : (am_G 140).2.2.2.2.1 24 = (.ireturn, 25, 0, 0) := rfl
theorem t141_0 : (am_G 141).2.2.2.2.1 0 = (.aload_n 0, 1, 0, 0) := rfl
theorem t141_1 : (am_G 141).2.2.2.2.1 1 = (.iload_n 1, 2, 1, 0) := rfl
theorem t141_2 : (am_G 141).2.2.2.2.1 2 = (.iconst 0, 3, 0, 0) := rfl
theorem t141_3 : (am_G 141).2.2.2.2.1 3 = (.iconst 2, 4, 2, 0) := rfl
theorem t141_4 : (am_G 141).2.2.2.2.1 4 = (.invokestatic 100, 7, 97, 0) := rfl
theorem t141_7 : (am_G 141).2.2.2.2.1 7 = (.invokevirtual 111, 10, 99, 8) := rfl
theorem t141_10 : (am_G 141).2.2.2.2.1 10 = (.ifCond .le 7, 13, 17, 0) := rfl
theorem t141_13 : (am_G 141).2.2.2.2.1 13 = (.iconst 0, 14, 0, 0) := rfl
theorem t141_14 : (am_G 141).2.2.2.2.1 14 = (.goto 9, 17, 23, 0) := rfl
theorem t141_17 : (am_G 141).2.2.2.2.1 17 = (.aload_n 0, 18, 0, 0) := rfl
theorem t141_18 : (am_G 141).2.2.2.2.1 18 = (.getfield 44, 21, 8, 11) := rfl
theorem t141_21 : (am_G 141).2.2.2.2.1 21 = (.iload_n 1, 22, 1, 0) := rfl
theorem t141_22 : (am_G 141).2.2.2.2.1 22 = (.iaload, 23, 0, 0) := rfl
theorem t141_23 : (am_G 141).2.2.2.2.1 23 = (.ireturn, 24, 0, 0) := rfl
theorem t142_0 : (am_G 142).2.2.2.2.1 0 = (.aload_n 0, 1, 0, 0) := rfl
theorem t142_1 : (am_G 142).2.2.2.2.1 1 = (.aload_n 0, 2, 0, 0) := rfl
theorem t142_2 : (am_G 142).2.2.2.2.1 2 = (.getfield 70, 5, 8, 19) := rfl
theorem t142_5 : (am_G 142).2.2.2.2.1 5 = (.invokevirtual 206, 8, 98, 8) := rfl
theorem t142_8 : (am_G 142).2.2.2.2.1 8 = (.ireturn, 9, 0, 0) := rfl
theorem t143_0 : (am_G 143).2.2.2.2.1 0 = (.aload_n 0, 1, 0, 0) := rfl
theorem t143_1 : (am_G 143).2.2.2.2.1 1 = (.iload_n 1, 2, 1, 0) := rfl
theorem t143_2 : (am_G 143).2.2.2.2.1 2 = (.iload_n 2, 3, 2, 0) := rfl
theorem t143_3 : (am_G 143).2.2.2.2.1 3 = (.invokestatic 104, 6, 101, 0) := rfl
theorem t143_6 : (am_G 143).2.2.2.2.1 6 = (.ifCond .ne 7, 9, 13, 0) := rfl
theorem t143_9 : (am_G 143).2.2.2.2.1 9 = (.iconst 1, 10, 1, 0) := rfl
theorem t143_10 : (am_G 143).2.2.2.2.1 10 = (.goto 23, 13, 33, 0) := rfl
theorem t143_13 : (am_G 143).2.2.2.2.1 13 = (.aload_n 0, 14, 0, 0) := rfl
theorem t143_14 : (am_G 143).2.2.2.2.1 14 = (.getfield 7, 17, 8, 0) := rfl
theorem t143_17 : (am_G 143).2.2.2.2.1 17 = (.iconst 4, 18, 4, 0) := rfl
theorem t143_18 : (am_G 143).2.2.2.2.1 18 = (.iload_n 1, 19, 1, 0) := rfl
theorem t143_19 : (am_G 143).2.2.2.2.1 19 = (.imul, 20, 0, 0) := rfl
theorem t143_20 : (am_G 143).2.2.2.2.1 20 = (.iload_n 2, 21, 2, 0) := rfl
theorem t143_21 : (am_G 143).2.2.2.2.1 21 = (.iadd, 22, 0, 0) := rfl
theorem t143_22 : (am_G 143).2.2.2.2.1 22 = (.caload, 23, 0, 0) := rfl
theorem t143_23 : (am_G 143).2.2.2.2.1 23 = (.bipush 45, 25, 45, 0) := rfl
theorem t143_25 : (am_G 143).2.2.2.2.1 25 = (.if_icmp .ne 7, 28, 32, 0) := rfl
theorem t143_28 : (am_G 143).2.2.2.2.1 28 = (.iconst 2, 29, 2, 0) := rfl
theorem t143_29 : (am_G 143).2.2.2.2.1 29 = (.goto 4, 32, 33, 0) := rfl
theorem t143_32 : (am_G 143).2.2.2.2.1 32 = (.iconst 0, 33, 0, 0) := rfl
theorem t143_33 : (am_G 143).2.2.2.2.1 33 = (.putfield 57, 36, 8, 15) := rfl
theorem t143_36 : (am_G 143).2.2.2.2.1 36 = (.aload_n 0, 37, 0, 0) := rfl
theorem t143_37 : (am_G 143).2.2.2.2.1 37 = (.getfield 57, 40, 8, 15) := rfl
theorem t143_40 : (am_G 143).2.2.2.2.1 40 = (.ifCond .le 7, 43, 47, 0) := rfl
theorem t143_43 : (am_G 143).2.2.2.2.1 43 = (.iconst 0, 44, 0, 0) := rfl
theorem t143_44 : (am_G 143).2.2.2.2.1 44 = (.goto 13, 47, 57, 0) := rfl
theorem t143_47 : (am_G 143).2.2.2.2.1 47 = (.aload_n 0, 48, 0, 0) := rfl
theorem t143_48 : (am_G 143).2.2.2.2.1 48 = (.getfield 23, 51, 8, 4) := rfl
theorem t143_51 : (am_G 143).2.2.2.2.1 51 = (.iconst 4, 52, 4, 0) := rfl
theorem t143_52 : (am_G 143).2.2.2.2.1 52 = (.iload_n 1, 53, 1, 0) := rfl
theorem t143_53 : (am_G 143).2.2.2.2.1 53 = (.imul, 54, 0, 0) := rfl
theorem t143_54 : (am_G 143).2.2.2.2.1 54 = (.iload_n 2, 55, 2, 0) := rfl
theorem t143_55 : (am_G 143).2.2.2.2.1 55 = (.iadd, 56, 0, 0) := rfl
theorem t143_56 : (am_G 143).2.2.2.2.1 56 = (.iaload, 57, 0, 0) := rfl
theorem t143_57 : (am_G 143).2.2.2.2.1 57 = (.ireturn, 58, 0, 0) := rfl
theorem t144_0 : (am_G 144).2.2.2.2.1 0 = (.aload_n 0, 1, 0, 0) := rfl
theorem t144_1 : (am_G 144).2.2.2.2.1 1 = (.iload_n 1, 2, 1, 0) := rfl
theorem t144_2 : (am_G 144).2.2.2.2.1 2 = (.iload_n 2, 3, 2, 0) := rfl
theorem t144_3 : (am_G 144).2.2.2.2.1 3 = (.iload_n 3, 4, 3, 0) := rfl
theorem t144_4 : (am_G 144).2.2.2.2.1 4 = (.invokestatic 108, 7, 103, 0) := rfl
theorem t144_7 : (am_G 144).2.2.2.2.1 7 = (.invokevirtual 111, 10, 99, 8) := rfl
theorem t144_10 : (am_G 144).2.2.2.2.1 10 = (.ifCond .ne 21, 13, 31, 0) := rfl
theorem t144_13 : (am_G 144).2.2.2.2.1 13 = (.aload_n 0, 14, 0, 0) := rfl
theorem t144_14 : (am_G 144).2.2.2.2.1 14 = (.getfield 54, 17, 8, 14) := rfl
theorem t144_17 : (am_G 144).2.2.2.2.1 17 = (.iload_n 1, 18, 1, 0) := rfl
theorem t144_18 : (am_G 144).2.2.2.2.1 18 = (.iload_n 2, 19, 2, 0) := rfl
theorem t144_19 : (am_G 144).2.2.2.2.1 19 = (.iload_n 3, 20, 3, 0) := rfl
theorem t144_20 : (am_G 144).2.2.2.2.1 20 = (.invokestatic 115, 23, 104, 0) := rfl
theorem t144_23 : (am_G 144).2.2.2.2.1 23 = (.baload, 24, 0, 0) := rfl
theorem t144_24 : (am_G 144).2.2.2.2.1 24 = (.ifCond .ne 7, 27, 31, 0) := rfl
theorem t144_27 : (am_G 144).2.2.2.2.1 27 = (.iconst 1, 28, 1, 0) := rfl
theorem t144_28 : (am_G 144).2.2.2.2.1 28 = (.goto 4, 31, 32, 0) := rfl
theorem t144_31 : (am_G 144).2.2.2.2.1 31 = (.iconst 0, 32, 0, 0) := rfl
theorem t144_32 : (am_G 144).2.2.2.2.1 32 = (.ireturn, 33, 0, 0) := rfl
theorem t145_0 : (am_G 145).2.2.2.2.1 0 = (.aload_n 0, 1, 0, 0) := rfl
theorem t145_1 : (am_G 145).2.2.2.2.1 1 = (.iload_n 1, 2, 1, 0) := rfl
theorem t145_2 : (am_G 145).2.2.2.2.1 2 = (.iload_n 2, 3, 2, 0) := rfl
theorem t145_3 : (am_G 145).2.2.2.2.1 3 = (.iload_n 3, 4, 3, 0) := rfl
theorem t145_4 : (am_G 145).2.2.2.2.1 4 = (.invokevirtual 209, 7, 144, 8) := rfl
theorem t145_7 : (am_G 145).2.2.2.2.1 7 = (.ireturn, 8, 0, 0) := rfl
theorem t146_0 : (am_G 146).2.2.2.2.1 0 = (.iconst 0, 1, 0, 0) := rfl
theorem t146_1 : (am_G 146).2.2.2.2.1 1 = (.istore_n 1, 2, 1, 0) := rfl
theorem t146_2 : (am_G 146).2.2.2.2.1 2 = (.iconst 0, 3, 0, 0) := rfl
theorem t146_3 : (am_G 146).2.2.2.2.1 3 = (.istore_n 2, 4, 2, 0) := rfl
theorem t146_4 : (am_G 146).2.2.2.2.1 4 = (.iload_n 2, 5, 2, 0) := rfl
theorem t146_5 : (am_G 146).2.2.2.2.1 5 = (.sipush 1152, 8, 1152, 0) := rfl
theorem t146_8 : (am_G 146).2.2.2.2.1 8 = (.if_icmp .ge 26, 11, 34, 0) := rfl
theorem t146_11 : (am_G 146).2.2.2.2.1 11 = (.iload_n 1, 12, 1, 0) := rfl
theorem t146_12 : (am_G 146).2.2.2.2.1 12 = (.aload_n 0, 13, 0, 0) := rfl
theorem t146_13 : (am_G 146).2.2.2.2.1 13 = (.getfield 54, 16, 8, 14) := rfl
theorem t146_16 : (am_G 146).2.2.2.2.1 16 = (.iload_n 2, 17, 2, 0) := rfl
theorem t146_17 : (am_G 146).2.2.2.2.1 17 = (.baload, 18, 0, 0) := rfl
theorem t146_18 : (am_G 146).2.2.2.2.1 18 = (.ifCond .eq 7, 21, 25, 0) := rfl
theorem t146_21 : (am_G 146).2.2.2.2.1 21 = (.iconst 0, 22, 0, 0) := rfl
theorem t146_22 : (am_G 146).2.2.2.2.1 22 = (.goto 4, 25, 26, 0) := rfl
theorem t146_25 : (am_G 146).2.2.2.2.1 25 = (.iconst 1, 26, 1, 0) := rfl
theorem t146_26 : (am_G 146).2.2.2.2.1 26 = (.iadd, 27, 0, 0) := rfl
theorem t146_27 : (am_G 146).2.2.2.2.1 27 = (.istore_n 1, 28, 1, 0) := rfl
theorem t146_28 : (am_G 146).2.2.2.2.1 28 = (.iinc 2 1, 31, 2, 1) := rfl
theorem t146_31 : (am_G 146).2.2.2.2.1 31 = (.goto (-27), 34, 4, 0) := rfl
theorem t146_34 : (am_G 146).2.2.2.2.1 34 = (.iload_n 1, 35, 1, 0) := rfl
theorem t146_35 : (am_G 146).2.2.2.2.1 35 = (.ireturn, 36, 0, 0) := rfl
theorem t147_0 : (am_G 147).2.2.2.2.1 0 = (.aload_n 0, 1, 0, 0) := rfl
theorem t147_1 : (am_G 147).2.2.2.2.1 1 = (.aload_n 0, 2, 0, 0) := rfl
theorem t147_2 : (am_G 147).2.2.2.2.1 2 = (.invokevirtual 212, 5, 146, 8) := rfl
theorem t147_5 : (am_G 147).2.2.2.2.1 5 = (.invokevirtual 206, 8, 98, 8) := rfl
theorem t147_8 : (am_G 147).2.2.2.2.1 8 = (.ireturn, 9, 0, 0) := rfl
theorem t148_0 : (am_G 148).2.2.2.2.1 0 = (.aload_n 0, 1, 0, 0) := rfl
theorem t148_1 : (am_G 148).2.2.2.2.1 1 = (.iload_n 1, 2, 1, 0) := rfl
theorem t148_2 : (am_G 148).2.2.2.2.1 2 = (.iload_n 2, 3, 2, 0) := rfl
theorem t148_3 : (am_G 148).2.2.2.2.1 3 = (.iconst 0, 4, 0, 0) := rfl
theorem t148_4 : (am_G 148).2.2.2.2.1 4 = (.invokestatic 108, 7, 103, 0) := rfl
theorem t148_7 : (am_G 148).2.2.2.2.1 7 = (.invokevirtual 111, 10, 99, 8) := rfl
theorem t148_10 : (am_G 148).2.2.2.2.1 10 = (.ifCond .le 5, 13, 15, 0) := rfl
theorem t148_13 : (am_G 148).2.2.2.2.1 13 = (.iconst 0, 14, 0, 0) := rfl
theorem t148_14 : (am_G 148).2.2.2.2.1 14 = (.ireturn, 15, 0, 0) := rfl
theorem t148_15 : (am_G 148).2.2.2.2.1 15 = (.bipush 6, 17, 6, 0) := rfl
theorem t148_17 : (am_G 148).2.2.2.2.1 17 = (.istore_n 3, 18, 3, 0) := rfl
theorem t148_18 : (am_G 148).2.2.2.2.1 18 = (.iload_n 3, 19, 3, 0) := rfl
theorem t148_19 : (am_G 148).2.2.2.2.1 19 = (.ifCond .le 25, 22, 44, 0) := rfl
theorem t148_22 : (am_G 148).2.2.2.2.1 22 = (.aload_n 0, 23, 0, 0) := rfl
theorem t148_23 : (am_G 148).2.2.2.2.1 23 = (.getfield 54, 26, 8, 14) := rfl
theorem t148_26 : (am_G 148).2.2.2.2.1 26 = (.iload_n 1, 27, 1, 0) := rfl
theorem t148_27 : (am_G 148).2.2.2.2.1 27 = (.iload_n 2, 28, 2, 0) := rfl
theorem t148_28 : (am_G 148).2.2.2.2.1 28 = (.iload_n 3, 29, 3, 0) := rfl
theorem t148_29 : (am_G 148).2.2.2.2.1 29 = (.iconst 1, 30, 1, 0) := rfl
theorem t148_30 : (am_G 148).2.2.2.2.1 30 = (.isub, 31, 0, 0) := rfl
theorem t148_31 : (am_G 148).2.2.2.2.1 31 = (.invokestatic 115, 34, 104, 0) := rfl
theorem t148_34 : (am_G 148).2.2.2.2.1 34 = (.baload, 35, 0, 0) := rfl
theorem t148_35 : (am_G 148).2.2.2.2.1 35 = (.ifCond .eq 9, 38, 44, 0) := rfl
theorem t148_38 : (am_G 148).2.2.2.2.1 38 = (.iinc 3 (-1), 41, 3, 4294967295) := rfl
theorem t148_41 : (am_G 148).2.2.2.2.1 41 = (.goto (-23), 44, 18, 0) := rfl
theorem t148_44 : (am_G 148).2.2.2.2.1 44 = (.iload_n 3, 45, 3, 0) := rfl
theorem t148_45 : (am_G 148).2.2.2.2.1 45 = (.ireturn, 46, 0, 0) := rfl
theorem t149_0 : (am_G 149).2.2.2.2.1 0 = (.lconst 0, 1, 0, 0) := rfl
theorem t149_1 : (am_G 149).2.2.2.2.1 1 = (.lstore_n 1, 2, 1, 0) := rfl
theorem t149_2 : (am_G 149).2.2.2.2.1 2 = (.iconst 0, 3, 0, 0) := rfl
theorem t149_3 : (am_G 149).2.2.2.2.1 3 = (.istore_n 3, 4, 3, 0) := rfl
theorem t149_4 : (am_G 149).2.2.2.2.1 4 = (.iload_n 3, 5, 3, 0) := rfl
theorem t149_5 : (am_G 149).2.2.2.2.1 5 = (.sipush 1152, 8, 1152, 0) := rfl
theorem t149_8 : (am_G 149).2.2.2.2.1 8 = (.if_icmp .ge 34, 11, 42, 0) := rfl
theorem t149_11 : (am_G 149).2.2.2.2.1 11 = (.lload_n 1, 12, 1, 0) := rfl
theorem t149_12 : (am_G 149).2.2.2.2.1 12 = (.aload_n 0, 13, 0, 0) := rfl
theorem t149_13 : (am_G 149).2.2.2.2.1 13 = (.getfield 54, 16, 8, 14) := rfl
theorem t149_16 : (am_G 149).2.2.2.2.1 16 = (.iload_n 3, 17, 3, 0) := rfl
theorem t149_17 : (am_G 149).2.2.2.2.1 17 = (.baload, 18, 0, 0) := rfl
theorem t149_18 : (am_G 149).2.2.2.2.1 18 = (.ifCond .eq 7, 21, 25, 0) := rfl
theorem t149_21 : (am_G 149).2.2.2.2.1 21 = (.lconst 0, 22, 0, 0) := rfl
theorem t149_22 : (am_G 149).2.2.2.2.1 22 = (.goto 12, 25, 34, 0) := rfl
theorem t149_25 : (am_G 149).2.2.2.2.1 25 = (.iload_n 3, 26, 3, 0) := rfl
theorem t149_26 : (am_G 149).2.2.2.2.1 26 = (.i2l, 27, 0, 0) := rfl
theorem t149_27 : (am_G 149).2.2.2.2.1 27 = (.lconst 1, 28, 1, 0) := rfl
theorem t149_28 : (am_G 149).2.2.2.2.1 28 = (.ladd, 29, 0, 0) := rfl
theorem t149_29 : (am_G 149).2.2.2.2.1 29 = (.iload_n 3, 30, 3, 0) := rfl
theorem t149_30 : (am_G 149).2.2.2.2.1 30 = (.i2l, 31, 0, 0) := rfl
theorem t149_31 : (am_G 149).2.2.2.2.1 31 = (.lconst 1, 32, 1, 0) := rfl
theorem t149_32 : (am_G 149).2.2.2.2.1 32 = (.ladd, 33, 0, 0) := rfl
theorem t149_33 : (am_G 149).2.2.2.2.1 33 = (.lmul, 34, 0, 0) := rfl
theorem t149_34 : (am_G 149).2.2.2.2.1 34 = (.ladd, 35, 0, 0) := rfl
theorem t149_35 : (am_G 149).2.2.2.2.1 35 = (.lstore_n 1, 36, 1, 0) := rfl
theorem t149_36 : (am_G 149).2.2.2.2.1 36 = (.iinc 3 1, 39, 3, 1) := rfl
theorem t149_39 : (am_G 149).2.2.2.2.1 39 = (.goto (-35), 42, 4, 0) := rfl
theorem t149_42 : (am_G 149).2.2.2.2.1 42 = (.aload_n 0, 43, 0, 0) := rfl
theorem t149_43 : (am_G 149).2.2.2.2.1 43 = (.iconst 0, 44, 0, 0) := rfl
theorem t149_44 : (am_G 149).2.2.2.2.1 44 = (.putfield 57, 47, 8, 15) := rfl
theorem t149_47 : (am_G 149).2.2.2.2.1 47 = (.lload_n 1, 48, 1, 0) := rfl
theorem t149_48 : (am_G 149).2.2.2.2.1 48 = (.lreturn, 49, 0, 0) := rfl
theorem t150_0 : (am_G 150).2.2.2.2.1 0 = (.aload_n 0, 1, 0, 0) := rfl
theorem t150_1 : (am_G 150).2.2.2.2.1 1 = (.iconst 0, 2, 0, 0) := rfl
theorem t150_2 : (am_G 150).2.2.2.2.1 2 = (.putfield 57, 5, 8, 15) := rfl
theorem t150_5 : (am_G 150).2.2.2.2.1 5 = (.aload_n 0, 6, 0, 0) := rfl
theorem t150_6 : (am_G 150).2.2.2.2.1 6 = (.getfield 86, 9, 8, 24) := rfl
theorem t150_9 : (am_G 150).2.2.2.2.1 9 = (.freturn, 10, 0, 0) := rfl
theorem t151_0 : (am_G 151).2.2.2.2.1 0 = (.aload_n 0, 1, 0, 0) := rfl
theorem t151_1 : (am_G 151).2.2.2.2.1 1 = (.aload_n 0, 2, 0, 0) := rfl
theorem t151_2 : (am_G 151).2.2.2.2.1 2 = (.getfield 86, 5, 8, 24) := rfl
theorem t151_5 : (am_G 151).2.2.2.2.1 5 = (.invokestatic 216, 8, 156, 0) := rfl
theorem t151_8 : (am_G 151).2.2.2.2.1 8 = (.invokevirtual 206, 11, 98, 8) := rfl
theorem t151_11 : (am_G 151).2.2.2.2.1 11 = (.ireturn, 12, 0, 0) := rfl
theorem t152_0 : (am_G 152).2.2.2.2.1 0 = (.iconst 0, 1, 0, 0) := rfl
theorem t152_1 : (am_G 152).2.2.2.2.1 1 = (.istore_n 1, 2, 1, 0) := rfl
theorem t152_2 : (am_G 152).2.2.2.2.1 2 = (.iconst 0, 3, 0, 0) := rfl
theorem t152_3 : (am_G 152).2.2.2.2.1 3 = (.istore_n 2, 4, 2, 0) := rfl
theorem t152_4 : (am_G 152).2.2.2.2.1 4 = (.iconst 0, 5, 0, 0) := rfl
theorem t152_5 : (am_G 152).2.2.2.2.1 5 = (.istore_n 3, 6, 3, 0) := rfl
theorem t152_6 : (am_G 152).2.2.2.2.1 6 = (.iload_n 3, 7, 3, 0) := rfl
theorem t152_7 : (am_G 152).2.2.2.2.1 7 = (.bipush 12, 9, 12, 0) := rfl
theorem t152_9 : (am_G 152).2.2.2.2.1 9 = (.if_icmp .ge 37, 12, 46, 0) := rfl
theorem t152_12 : (am_G 152).2.2.2.2.1 12 = (.iload_n 1, 13, 1, 0) := rfl
theorem t152_13 : (am_G 152).2.2.2.2.1 13 = (.aload_n 0, 14, 0, 0) := rfl
theorem t152_14 : (am_G 152).2.2.2.2.1 14 = (.getfield 7, 17, 8, 0) := rfl
theorem t152_17 : (am_G 152).2.2.2.2.1 17 = (.iload_n 3, 18, 3, 0) := rfl
theorem t152_18 : (am_G 152).2.2.2.2.1 18 = (.caload, 19, 0, 0) := rfl
theorem t152_19 : (am_G 152).2.2.2.2.1 19 = (.bipush 45, 21, 45, 0) := rfl
theorem t152_21 : (am_G 152).2.2.2.2.1 21 = (.if_icmp .ne 7, 24, 28, 0) := rfl
theorem t152_24 : (am_G 152).2.2.2.2.1 24 = (.iconst 0, 25, 0, 0) := rfl
theorem t152_25 : (am_G 152).2.2.2.2.1 25 = (.goto 4, 28, 29, 0) := rfl
theorem t152_28 : (am_G 152).2.2.2.2.1 28 = (.iconst 1, 29, 1, 0) := rfl
theorem t152_29 : (am_G 152).2.2.2.2.1 29 = (.iadd, 30, 0, 0) := rfl
theorem t152_30 : (am_G 152).2.2.2.2.1 30 = (.istore_n 1, 31, 1, 0) := rfl
theorem t152_31 : (am_G 152).2.2.2.2.1 31 = (.iload_n 2, 32, 2, 0) := rfl
theorem t152_32 : (am_G 152).2.2.2.2.1 32 = (.aload_n 0, 33, 0, 0) := rfl
theorem t152_33 : (am_G 152).2.2.2.2.1 33 = (.getfield 23, 36, 8, 4) := rfl
theorem t152_36 : (am_G 152).2.2.2.2.1 36 = (.iload_n 3, 37, 3, 0) := rfl
theorem t152_37 : (am_G 152).2.2.2.2.1 37 = (.iaload, 38, 0, 0) := rfl
theorem t152_38 : (am_G 152).2.2.2.2.1 38 = (.iadd, 39, 0, 0) := rfl
theorem t152_39 : (am_G 152).2.2.2.2.1 39 = (.istore_n 2, 40, 2, 0) := rfl
theorem t152_40 : (am_G 152).2.2.2.2.1 40 = (.iinc 3 1, 43, 3, 1) := rfl
theorem t152_43 : (am_G 152).2.2.2.2.1 43 = (.goto (-37), 46, 6, 0) := rfl
theorem t152_46 : (am_G 152).2.2.2.2.1 46 = (.aload_n 0, 47, 0, 0) := rfl
theorem t152_47 : (am_G 152).2.2.2.2.1 47 = (.iload_n 1, 48, 1, 0) := rfl
theorem t152_48 : (am_G 152).2.2.2.2.1 48 = (.ifCond .le 7, 51, 55, 0) := rfl
theorem t152_51 : (am_G 152).2.2.2.2.1 51 = (.iconst 1, 52, 1, 0) := rfl
theorem t152_52 : (am_G 152).2.2.2.2.1 52 = (.goto 4, 55, 56, 0) := rfl
theorem t152_55 : (am_G 152).2.2.2.2.1 55 = (.iconst 0, 56, 0, 0) := rfl
theorem t152_56 : (am_G 152).2.2.2.2.1 56 = (.invokevirtual 111, 59, 99, 8) := rfl
theorem t152_59 : (am_G 152).2.2.2.2.1 59 = (.ifCond .le 7, 62, 66, 0) := rfl
theorem t152_62 : (am_G 152).2.2.2.2.1 62 = (.dconst 0, 63, 0, 0) := rfl
theorem t152_63 : (am_G 152).2.2.2.2.1 63 = (.goto 8, 66, 71, 0) := rfl
theorem t152_66 : (am_G 152).2.2.2.2.1 66 = (.iload_n 2, 67, 2, 0) := rfl
theorem t152_67 : (am_G 152).2.2.2.2.1 67 = (.i2d, 68, 0, 0) := rfl
theorem t152_68 : (am_G 152).2.2.2.2.1 68 = (.iload_n 1, 69, 1, 0) := rfl
theorem t152_69 : (am_G 152).2.2.2.2.1 69 = (.i2d, 70, 0, 0) := rfl
theorem t152_70 : (am_G 152).2.2.2.2.1 70 = (.ddiv, 71, 0, 0) := rfl
theorem t152_71 : (am_G 152).2.2.2.2.1 71 = (.dreturn, 72, 0, 0) := rfl
theorem t153_0 : (am_G 153).2.2.2.2.1 0 = (.aload_n 0, 1, 0, 0) := rfl
theorem t153_1 : (am_G 153).2.2.2.2.1 1 = (.iconst 0, 2, 0, 0) := rfl
theorem t153_2 : (am_G 153).2.2.2.2.1 2 = (.putfield 57, 5, 8, 15) := rfl
theorem t153_5 : (am_G 153).2.2.2.2.1 5 = (.sipush 1152, 8, 1152, 0) := rfl
theorem t153_8 : (am_G 153).2.2.2.2.1 8 = (.aload_n 0, 9, 0, 0) := rfl
theorem t153_9 : (am_G 153).2.2.2.2.1 9 = (.invokevirtual 212, 12, 146, 8) := rfl
theorem t153_12 : (am_G 153).2.2.2.2.1 12 = (.isub, 13, 0, 0) := rfl
theorem t153_13 : (am_G 153).2.2.2.2.1 13 = (.istore_n 1, 14, 1, 0) := rfl
theorem t153_14 : (am_G 153).2.2.2.2.1 14 = (.iload_n 1, 15, 1, 0) := rfl
theorem t153_15 : (am_G 153).2.2.2.2.1 15 = (.i2f, 16, 0, 0) := rfl
theorem t153_16 : (am_G 153).2.2.2.2.1 16 = (.ldc 222, 18, 1150287872, 1) := rfl
theorem t153_18 : (am_G 153).2.2.2.2.1 18 = (.fdiv, 19, 0, 0) := rfl
theorem t153_19 : (am_G 153).2.2.2.2.1 19 = (.fstore_n 2, 20, 2, 0) := rfl
theorem t153_20 : (am_G 153).2.2.2.2.1 20 = (.aload_n 0, 21, 0, 0) := rfl
theorem t153_21 : (am_G 153).2.2.2.2.1 21 = (.invokevirtual 212, 24, 146, 8) := rfl
theorem t153_24 : (am_G 153).2.2.2.2.1 24 = (.iload_n 1, 25, 1, 0) := rfl
theorem t153_25 : (am_G 153).2.2.2.2.1 25 = (.if_icmp .ge 8, 28, 33, 0) := rfl
theorem t153_28 : (am_G 153).2.2.2.2.1 28 = (.fload_n 2, 29, 2, 0) := rfl
theorem t153_29 : (am_G 153).2.2.2.2.1 29 = (.fneg, 30, 0, 0) := rfl
theorem t153_30 : (am_G 153).2.2.2.2.1 30 = (.goto 4, 33, 34, 0) := rfl
theorem t153_33 : (am_G 153).2.2.2.2.1 33 = (.fload_n 2, 34, 2, 0) := rfl
theorem t153_34 : (am_G 153).2.2.2.2.1 34 = (.freturn, 35, 0, 0) := rfl
theorem t154_0 : (am_G 154).2.2.2.2.1 0 = (.aload_n 0, 1, 0, 0) := rfl
theorem t154_1 : (am_G 154).2.2.2.2.1 1 = (.iconst 0, 2, 0, 0) := rfl
theorem t154_2 : (am_G 154).2.2.2.2.1 2 = (.putfield 57, 5, 8, 15) := rfl
theorem t154_5 : (am_G 154).2.2.2.2.1 5 = (.iconst 1, 6, 1, 0) := rfl
theorem t154_6 : (am_G 154).2.2.2.2.1 6 = (.ireturn, 7, 0, 0) := rfl
theorem t155_0 : (am_G 155).2.2.2.2.1 0 = (.fload_n 0, 1, 0, 0) := rfl
theorem t155_1 : (am_G 155).2.2.2.2.1 1 = (.fload_n 0, 2, 0, 0) := rfl
theorem t155_2 : (am_G 155).2.2.2.2.1 2 = (.fcmp .l, 3, 0, 0) := rfl
theorem t155_3 : (am_G 155).2.2.2.2.1 3 = (.ifCond .eq 7, 6, 10, 0) := rfl
theorem t155_6 : (am_G 155).2.2.2.2.1 6 = (.iconst 1, 7, 1, 0) := rfl
theorem t155_7 : (am_G 155).2.2.2.2.1 7 = (.goto 4, 10, 11, 0) := rfl
theorem t155_10 : (am_G 155).2.2.2.2.1 10 = (.iconst 0, 11, 0, 0) := rfl
theorem t155_11 : (am_G 155).2.2.2.2.1 11 = (.ireturn, 12, 0, 0) := rfl
theorem t156_0 : (am_G 156).2.2.2.2.1 0 = (.fload_n 0, 1, 0, 0) := rfl
theorem t156_1 : (am_G 156).2.2.2.2.1 1 = (.invokestatic 59, 4, 155, 0) := rfl
theorem t156_4 : (am_G 156).2.2.2.2.1 4 = (.ifCond .ne 8, 7, 12, 0) := rfl
theorem t156_7 : (am_G 156).2.2.2.2.1 7 = (.fload_n 0, 8, 0, 0) := rfl
theorem t156_8 : (am_G 156).2.2.2.2.1 8 = (.invokestatic 74, 11, 0, 2) := rfl
theorem t156_11 : (am_G 156).2.2.2.2.1 11 = (.ireturn, 12, 0, 0) := rfl
theorem t156_12 : (am_G 156).2.2.2.2.1 12 = (.ldc 77, 14, 2143289344, 0) := rfl
theorem t156_14 : (am_G 156).2.2.2.2.1 14 = (.ireturn, 15, 0, 0) := rfl
theorem t157_0 : (am_G 157).2.2.2.2.1 0 = (.iload_n 0, 1, 0, 0) := rfl
theorem t157_1 : (am_G 157).2.2.2.2.1 1 = (.iload_n 0, 2, 0, 0) := rfl
theorem t157_2 : (am_G 157).2.2.2.2.1 2 = (.iconst 1, 3, 1, 0) := rfl
theorem t157_3 : (am_G 157).2.2.2.2.1 3 = (.iushr, 4, 0, 0) := rfl
theorem t157_4 : (am_G 157).2.2.2.2.1 4 = (.ldc_w 265, 7, 1431655765, 0) := rfl
theorem t157_7 : (am_G 157).2.2.2.2.1 7 = (.iand, 8, 0, 0) := rfl
theorem t157_8 : (am_G 157).2.2.2.2.1 8 = (.isub, 9, 0, 0) := rfl
theorem t157_9 : (am_G 157).2.2.2.2.1 9 = (.istore_n 0, 10, 0, 0) := rfl
theorem t157_10 : (am_G 157).2.2.2.2.1 10 = (.iload_n 0, 11, 0, 0) := rfl
theorem t157_11 : (am_G 157).2.2.2.2.1 11 = (.ldc_w 266, 14, 858993459, 0) := rfl
theorem t157_14 : (am_G 157).2.2.2.2.1 14 = (.iand, 15, 0, 0) := rfl
theorem t157_15 : (am_G 157).2.2.2.2.1 15 = (.iload_n 0, 16, 0, 0) := rfl
theorem t157_16 : (am_G 157).2.2.2.2.1 16 = (.iconst 2, 17, 2, 0) := rfl
theorem t157_17 : (am_G 157).2.2.2.2.1 17 = (.iushr, 18, 0, 0) := rfl
theorem t157_18 : (am_G 157).2.2.2.2.1 18 = (.ldc_w 266, 21, 858993459, 0) := rfl
theorem t157_21 : (am_G 157).2.2.2.2.1 21 = (.iand, 22, 0, 0) := rfl
theorem t157_22 : (am_G 157).2.2.2.2.1 22 = (.iadd, 23, 0, 0) := rfl
theorem t157_23 : (am_G 157).2.2.2.2.1 23 = (.istore_n 0, 24, 0, 0) := rfl
theorem t157_24 : (am_G 157).2.2.2.2.1 24 = (.iload_n 0, 25, 0, 0) := rfl
theorem t157_25 : (am_G 157).2.2.2.2.1 25 = (.iload_n 0, 26, 0, 0) := rfl
theorem t157_26 : (am_G 157).2.2.2.2.1 26 = (.iconst 4, 27, 4, 0) := rfl
theorem t157_27 : (am_G 157).2.2.2.2.1 27 = (.iushr, 28, 0, 0) := rfl
theorem t157_28 : (am_G 157).2.2.2.2.1 28 = (.iadd, 29, 0, 0) := rfl
theorem t157_29 : (am_G 157).2.2.2.2.1 29 = (.ldc_w 267, 32, 252645135, 0) := rfl
theorem t157_32 : (am_G 157).2.2.2.2.1 32 = (.iand, 33, 0, 0) := rfl
theorem t157_33 : (am_G 157).2.2.2.2.1 33 = (.istore_n 0, 34, 0, 0) := rfl
theorem t157_34 : (am_G 157).2.2.2.2.1 34 = (.iload_n 0, 35, 0, 0) := rfl
theorem t157_35 : (am_G 157).2.2.2.2.1 35 = (.iload_n 0, 36, 0, 0) := rfl
theorem t157_36 : (am_G 157).2.2.2.2.1 36 = (.bipush 8, 38, 8, 0) := rfl
theorem t157_38 : (am_G 157).2.2.2.2.1 38 = (.iushr, 39, 0, 0) := rfl
theorem t157_39 : (am_G 157).2.2.2.2.1 39 = (.iadd, 40, 0, 0) := rfl
theorem t157_40 : (am_G 157).2.2.2.2.1 40 = (.istore_n 0, 41, 0, 0) := rfl
theorem t157_41 : (am_G 157).2.2.2.2.1 41 = (.iload_n 0, 42, 0, 0) := rfl
theorem t157_42 : (am_G 157).2.2.2.2.1 42 = (.iload_n 0, 43, 0, 0) := rfl
theorem t157_43 : (am_G 157).2.2.2.2.1 43 = (.bipush 16, 45, 16, 0) := rfl
theorem t157_45 : (am_G 157).2.2.2.2.1 45 = (.iushr, 46, 0, 0) := rfl
theorem t157_46 : (am_G 157).2.2.2.2.1 46 = (.iadd, 47, 0, 0) := rfl
theorem t157_47 : (am_G 157).2.2.2.2.1 47 = (.istore_n 0, 48, 0, 0) := rfl
theorem t157_48 : (am_G 157).2.2.2.2.1 48 = (.iload_n 0, 49, 0, 0) := rfl
theorem t157_49 : (am_G 157).2.2.2.2.1 49 = (.bipush 63, 51, 63, 0) := rfl
theorem t157_51 : (am_G 157).2.2.2.2.1 51 = (.iand, 52, 0, 0) := rfl
theorem t157_52 : (am_G 157).2.2.2.2.1 52 = (.ireturn, 53, 0, 0) := rfl
theorem t158_0 : (am_G 158).2.2.2.2.1 0 = (.iload_n 0, 1, 0, 0) := rfl
theorem t158_1 : (am_G 158).2.2.2.2.1 1 = (.ifCond .ge 8, 4, 9, 0) := rfl
theorem t158_4 : (am_G 158).2.2.2.2.1 4 = (.iload_n 0, 5, 0, 0) := rfl
theorem t158_5 : (am_G 158).2.2.2.2.1 5 = (.ineg, 6, 0, 0) := rfl
theorem t158_6 : (am_G 158).2.2.2.2.1 6 = (.goto 4, 9, 10, 0) := rfl
theorem t158_9 : (am_G 158).2.2.2.2.1 9 = (.iload_n 0, 10, 0, 0) := rfl
theorem t158_10 : (am_G 158).2.2.2.2.1 10 = (.ireturn, 11, 0, 0) := rfl
theorem t159_0 : (am_G 159).2.2.2.2.1 0 = (.iload_n 0, 1, 0, 0) := rfl
theorem t159_1 : (am_G 159).2.2.2.2.1 1 = (.iload_n 1, 2, 1, 0) := rfl
theorem t159_2 : (am_G 159).2.2.2.2.1 2 = (.if_icmp .lt 7, 5, 9, 0) := rfl
theorem t159_5 : (am_G 159).2.2.2.2.1 5 = (.iload_n 0, 6, 0, 0) := rfl
theorem t159_6 : (am_G 159).2.2.2.2.1 6 = (.goto 4, 9, 10, 0) := rfl
theorem t159_9 : (am_G 159).2.2.2.2.1 9 = (.iload_n 1, 10, 1, 0) := rfl
theorem t159_10 : (am_G 159).2.2.2.2.1 10 = (.ireturn, 11, 0, 0) := rfl
theorem t160_0 : (am_G 160).2.2.2.2.1 0 = (.iload_n 0, 1, 0, 0) := rfl
theorem t160_1 : (am_G 160).2.2.2.2.1 1 = (.iload_n 1, 2, 1, 0) := rfl
theorem t160_2 : (am_G 160).2.2.2.2.1 2 = (.if_icmp .gt 7, 5, 9, 0) := rfl
theorem t160_5 : (am_G 160).2.2.2.2.1 5 = (.iload_n 0, 6, 0, 0) := rfl
theorem t160_6 : (am_G 160).2.2.2.2.1 6 = (.goto 4, 9, 10, 0) := rfl
theorem t160_9 : (am_G 160).2.2.2.2.1 9 = (.iload_n 1, 10, 1, 0) := rfl
theorem t160_10 : (am_G 160).2.2.2.2.1 10 = (.ireturn, 11, 0, 0) := rfl
theorem t161_0 : (am_G 161).2.2.2.2.1 0 = (.aload_n 0, 1, 0, 0) := rfl
theorem t161_1 : (am_G 161).2.2.2.2.1 1 = (.iload_n 1, 2, 1, 0) := rfl
theorem t161_2 : (am_G 161).2.2.2.2.1 2 = (.invokevirtual 38, 5, 54, 4) := rfl
theorem t161_5 : (am_G 161).2.2.2.2.1 5 = (.ifCond .eq 12, 8, 17, 0) := rfl
theorem t161_8 : (am_G 161).2.2.2.2.1 8 = (.aload_n 0, 9, 0, 0) := rfl
theorem t161_9 : (am_G 161).2.2.2.2.1 9 = (.getfield 24, 12, 4, 4) := rfl
theorem t161_12 : (am_G 161).2.2.2.2.1 12 = (.iload_n 1, 13, 1, 0) := rfl
theorem t161_13 : (am_G 161).2.2.2.2.1 13 = (.iaload, 14, 0, 0) := rfl
theorem t161_14 : (am_G 161).2.2.2.2.1 14 = (.goto 4, 17, 18, 0) := rfl
theorem t161_17 : (am_G 161).2.2.2.2.1 17 = (.iconst (-1), 18, 4294967295, 0) := rfl
theorem t161_18 : (am_G 161).2.2.2.2.1 18 = (.ireturn, 19, 0, 0) := rfl
