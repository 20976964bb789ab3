/-! TABLES of the methods that throw and catch, and of the law. (by gen/tabx.py) -/
def RL : String := "ToolrestMillLaw"
abbrev cL_putCutter : ByteArray := method_3_code
def yL_putCutter : MethodName := ⟨RL, "putCutter", "(LToolrestMill;IICII[J)I"⟩
abbrev cL_setFixture : ByteArray := method_4_code
def yL_setFixture : MethodName := ⟨RL, "setFixture", "(LToolrestMill;IIIZ[J)I"⟩
abbrev cL_setOffset : ByteArray := method_5_code
def yL_setOffset : MethodName := ⟨RL, "setOffset", "(LToolrestMill;IIII[J)I"⟩
abbrev cL_addBlock : ByteArray := method_6_code
def yL_addBlock : MethodName := ⟨RL, "addBlock", "(LToolrestMill;CIII[J)I"⟩
abbrev cL_dropBlock : ByteArray := method_7_code
def yL_dropBlock : MethodName := ⟨RL, "dropBlock", "(LToolrestMill;[J)I"⟩
abbrev cL_run : ByteArray := method_8_code
def yL_run : MethodName := ⟨RL, "run", "(LToolrestMill;I[J)I"⟩
abbrev cL_variable : ByteArray := method_9_code
def yL_variable : MethodName := ⟨RL, "variable", "(LToolrestMill;I[J)I"⟩
abbrev cL_at : ByteArray := method_10_code
def yL_at : MethodName := ⟨RL, "at", "(LToolrestMill;I[J)I"⟩
abbrev cL_used : ByteArray := method_11_code
def yL_used : MethodName := ⟨RL, "used", "(LToolrestMill;II[J)I"⟩
abbrev cL_has : ByteArray := method_12_code
def yL_has : MethodName := ⟨RL, "has", "(LToolrestMill;III[J)I"⟩
abbrev cL_hasAnew : ByteArray := method_13_code
def yL_hasAnew : MethodName := ⟨RL, "hasAnew", "(LToolrestMill;III[J)I"⟩
abbrev cL_height : ByteArray := method_14_code
def yL_height : MethodName := ⟨RL, "height", "(LToolrestMill;II[J)I"⟩
abbrev cL_meanUse : ByteArray := method_15_code
def yL_meanUse : MethodName := ⟨RL, "meanUse", "(LToolrestMill;[D)I"⟩
abbrev cL_law : ByteArray := code
def yL_law : MethodName := ⟨RL, "law", "([I)Z"⟩
def xm_l0_0 : List (Nat × am_R) := [(0, (.iload_n 0, 1, 0, 0)), (1, (.iload_n 1, 2, 1, 0)), (2, (.iload_n 2, 3, 2, 0)), (3, (.invokestatic 235, 6, 85, 0)), (6, (.ifCond .ne 13, 9, 19, 0)), (9, (.athrow, 12, 0, 0)), (19, (.return_, 20, 0, 0))]
def xm_t0 : Nat → am_R := fun pc => am_lc [(20, xm_l0_0)] pc
def xm_m0 : xm_M := ((yX7_requireCell, cX7_requireCell, 3, none, xm_t0, 3, 1, 6), [], [])
def xm_l1_0 : List (Nat × am_R) := [(0, (.iload_n 1, 1, 1, 0)), (1, (.iload_n 2, 2, 2, 0)), (2, (.invokestatic 32, 5, 87, 0)), (5, (.ifCond .ne 13, 8, 18, 0)), (8, (.athrow, 11, 0, 0)), (18, (.iload_n 3, 19, 3, 0)), (19, (.invokestatic 43, 22, 89, 0)), (22, (.ifCond .ne 13, 25, 35, 0)), (25, (.athrow, 28, 1, 0)), (35, (.iload 4, 37, 4, 0)), (37, (.iconst 0, 38, 0, 0)), (38, (.iconst 3, 39, 3, 0)), (39, (.invokestatic 52, 42, 84, 0)), (42, (.ifCond .eq 15, 45, 57, 0)), (45, (.iload 5, 47, 5, 0)), (47, (.iconst 1, 48, 1, 0)), (48, (.sipush 999, 51, 999, 0)), (51, (.invokestatic 52, 54, 84, 0)), (54, (.ifCond .ne 13, 57, 67, 0)), (57, (.athrow, 60, 1, 0)), (67, (.iload_n 1, 68, 1, 0)), (68, (.iload_n 3, 69, 3, 0)), (69, (.invokestatic 58, 72, 90, 0)), (72, (.ifCond .ne 13, 75, 85, 0))]
def xm_l1_1 : List (Nat × am_R) := [(75, (.athrow, 78, 2, 0)), (85, (.aload_n 0, 86, 0, 0)), (86, (.getfield 12, 89, 7, 0)), (89, (.getfield 67, 92, 2, 0)), (92, (.iload_n 1, 93, 1, 0)), (93, (.iload_n 2, 94, 2, 0)), (94, (.invokestatic 71, 97, 88, 0)), (97, (.iload_n 3, 98, 3, 0)), (98, (.iload 4, 100, 4, 0)), (100, (.iload 5, 102, 5, 0)), (102, (.invokevirtual 75, 105, 57, 5)), (105, (.aload_n 0, 106, 0, 0)), (106, (.invokevirtual 81, 109, 83, 7)), (109, (.aload_n 0, 110, 0, 0)), (110, (.getfield 12, 113, 7, 0)), (113, (.getfield 67, 116, 2, 0)), (116, (.iload_n 1, 117, 1, 0)), (117, (.iconst 0, 118, 0, 0)), (118, (.invokestatic 71, 121, 88, 0)), (121, (.iconst 4, 122, 4, 0)), (122, (.invokevirtual 84, 125, 59, 5)), (125, (.ireturn, 126, 0, 0))]
def xm_t1 : Nat → am_R := fun pc => am_lc [(73, xm_l1_0), (126, xm_l1_1)] pc
def xm_m1 : xm_M := ((yX7_putCutter, cX7_putCutter, 6, some .int, xm_t1, 6, 1, 6), [], [])
def xm_l2_0 : List (Nat × am_R) := [(0, (.iload_n 1, 1, 1, 0)), (1, (.iload_n 2, 2, 2, 0)), (2, (.iload_n 3, 3, 3, 0)), (3, (.monitorexit, 6, 0, 0)), (6, (.aload_n 0, 7, 0, 0)), (7, (.getfield 12, 10, 7, 0)), (10, (.getfield 91, 13, 2, 1)), (13, (.iload_n 1, 14, 1, 0)), (14, (.iload_n 2, 15, 2, 0)), (15, (.iload_n 3, 16, 3, 0)), (16, (.invokevirtual 95, 19, 2, 0)), (19, (.istore 5, 21, 5, 0)), (21, (.aload_n 0, 22, 0, 0)), (22, (.getfield 12, 25, 7, 0)), (25, (.getfield 91, 28, 2, 1)), (28, (.iload_n 1, 29, 1, 0)), (29, (.iload_n 2, 30, 2, 0)), (30, (.iload_n 3, 31, 3, 0)), (31, (.iload 4, 33, 4, 0)), (33, (.invokevirtual 100, 36, 3, 0)), (36, (.aload_n 0, 37, 0, 0)), (37, (.invokevirtual 81, 40, 83, 7)), (40, (.iload 5, 42, 5, 0)), (42, (.ireturn, 43, 0, 0))]
def xm_t2 : Nat → am_R := fun pc => am_lc [(43, xm_l2_0)] pc
def xm_m2 : xm_M := ((yX7_setFixture, cX7_setFixture, 6, some .boolean, xm_t2, 5, 1, 6), [], [])
def xm_l3_0 : List (Nat × am_R) := [(0, (.iload_n 1, 1, 1, 0)), (1, (.iconst 0, 2, 0, 0)), (2, (.iconst 3, 3, 3, 0)), (3, (.invokestatic 52, 6, 84, 0)), (6, (.ifCond .eq 25, 9, 31, 0)), (9, (.iload_n 2, 10, 2, 0)), (10, (.invokestatic 104, 13, 91, 0)), (13, (.ifCond .eq 18, 16, 31, 0)), (16, (.iload_n 3, 17, 3, 0)), (17, (.invokestatic 104, 20, 91, 0)), (20, (.ifCond .eq 11, 23, 31, 0)), (23, (.iload 4, 25, 4, 0)), (25, (.invokestatic 104, 28, 91, 0)), (28, (.ifCond .ne 13, 31, 41, 0)), (31, (.athrow, 34, 1, 0)), (41, (.aload_n 0, 42, 0, 0)), (42, (.getfield 12, 45, 7, 0)), (45, (.getfield 110, 48, 2, 2)), (48, (.iload_n 1, 49, 1, 0)), (49, (.iconst 3, 50, 3, 0)), (50, (.imul, 51, 0, 0)), (51, (.iaload, 52, 0, 0)), (52, (.istore 5, 54, 5, 0)), (54, (.aload_n 0, 55, 0, 0))]
def xm_l3_1 : List (Nat × am_R) := [(55, (.getfield 12, 58, 7, 0)), (58, (.getfield 110, 61, 2, 2)), (61, (.iload_n 1, 62, 1, 0)), (62, (.iconst 3, 63, 3, 0)), (63, (.imul, 64, 0, 0)), (64, (.iload_n 2, 65, 2, 0)), (65, (.iastore, 66, 0, 0)), (66, (.aload_n 0, 67, 0, 0)), (67, (.getfield 12, 70, 7, 0)), (70, (.getfield 110, 73, 2, 2)), (73, (.iload_n 1, 74, 1, 0)), (74, (.iconst 3, 75, 3, 0)), (75, (.imul, 76, 0, 0)), (76, (.iconst 1, 77, 1, 0)), (77, (.iadd, 78, 0, 0)), (78, (.iload_n 3, 79, 3, 0)), (79, (.iastore, 80, 0, 0)), (80, (.aload_n 0, 81, 0, 0)), (81, (.getfield 12, 84, 7, 0)), (84, (.getfield 110, 87, 2, 2)), (87, (.iload_n 1, 88, 1, 0)), (88, (.iconst 3, 89, 3, 0)), (89, (.imul, 90, 0, 0)), (90, (.iconst 2, 91, 2, 0))]
def xm_l3_2 : List (Nat × am_R) := [(91, (.iadd, 92, 0, 0)), (92, (.iload 4, 94, 4, 0)), (94, (.iastore, 95, 0, 0)), (95, (.aload_n 0, 96, 0, 0)), (96, (.invokevirtual 81, 99, 83, 7)), (99, (.iload 5, 101, 5, 0)), (101, (.ireturn, 102, 0, 0))]
def xm_t3 : Nat → am_R := fun pc => am_lc [(55, xm_l3_0), (91, xm_l3_1), (102, xm_l3_2)] pc
def xm_m3 : xm_M := ((yX7_setOffset, cX7_setOffset, 6, some .int, xm_t3, 5, 1, 6), [], [])
def xm_l4_0 : List (Nat × am_R) := [(0, (.iload_n 1, 1, 1, 0)), (1, (.invokestatic 114, 4, 92, 0)), (4, (.ifCond .eq 25, 7, 29, 0)), (7, (.iload_n 2, 8, 2, 0)), (8, (.invokestatic 117, 11, 93, 0)), (11, (.ifCond .eq 18, 14, 29, 0)), (14, (.iload_n 3, 15, 3, 0)), (15, (.invokestatic 117, 18, 93, 0)), (18, (.ifCond .eq 11, 21, 29, 0)), (21, (.iload 4, 23, 4, 0)), (23, (.invokestatic 117, 26, 93, 0)), (26, (.ifCond .ne 13, 29, 39, 0)), (29, (.athrow, 32, 1, 0)), (39, (.aload_n 0, 40, 0, 0)), (40, (.getfield 12, 43, 7, 0)), (43, (.getfield 122, 46, 2, 3)), (46, (.getfield 126, 49, 4, 5)), (49, (.bipush 64, 51, 64, 0)), (51, (.if_icmp .lt 13, 54, 64, 0)), (54, (.athrow, 57, 3, 0)), (64, (.aload_n 0, 65, 0, 0)), (65, (.getfield 12, 68, 7, 0)), (68, (.getfield 122, 71, 2, 3)), (71, (.iload_n 1, 72, 1, 0))]
def xm_l4_1 : List (Nat × am_R) := [(72, (.iload_n 2, 73, 2, 0)), (73, (.iload_n 3, 74, 3, 0)), (74, (.iload 4, 76, 4, 0)), (76, (.invokevirtual 137, 79, 50, 4)), (79, (.aload_n 0, 80, 0, 0)), (80, (.invokevirtual 81, 83, 83, 7)), (83, (.aload_n 0, 84, 0, 0)), (84, (.getfield 12, 87, 7, 0)), (87, (.getfield 122, 90, 2, 3)), (90, (.getfield 126, 93, 4, 5)), (93, (.iconst 1, 94, 1, 0)), (94, (.isub, 95, 0, 0)), (95, (.ireturn, 96, 0, 0))]
def xm_t4 : Nat → am_R := fun pc => am_lc [(72, xm_l4_0), (96, xm_l4_1)] pc
def xm_m4 : xm_M := ((yX7_addBlock, cX7_addBlock, 5, some .int, xm_t4, 5, 1, 6), [], [])
def xm_l5_0 : List (Nat × am_R) := [(0, (.aload_n 0, 1, 0, 0)), (1, (.getfield 12, 4, 7, 0)), (4, (.getfield 122, 7, 2, 3)), (7, (.getfield 126, 10, 4, 5)), (10, (.ifCond .ne 13, 13, 23, 0)), (13, (.athrow, 16, 3, 0)), (23, (.aload_n 0, 24, 0, 0)), (24, (.getfield 12, 27, 7, 0)), (27, (.getfield 122, 30, 2, 3)), (30, (.invokevirtual 143, 33, 52, 4)), (33, (.aload_n 0, 34, 0, 0)), (34, (.invokevirtual 81, 37, 83, 7)), (37, (.aload_n 0, 38, 0, 0)), (38, (.getfield 12, 41, 7, 0)), (41, (.getfield 122, 44, 2, 3)), (44, (.getfield 126, 47, 4, 5)), (47, (.ireturn, 48, 0, 0))]
def xm_t5 : Nat → am_R := fun pc => am_lc [(48, xm_l5_0)] pc
def xm_m5 : xm_M := ((yX7_dropBlock, cX7_dropBlock, 1, some .int, xm_t5, 1, 1, 6), [], [])
def xm_l6_0 : List (Nat × am_R) := [(0, (.iload_n 1, 1, 1, 0)), (1, (.iconst 1, 2, 1, 0)), (2, (.bipush 100, 4, 100, 0)), (4, (.invokestatic 52, 7, 84, 0)), (7, (.ifCond .ne 13, 10, 20, 0)), (10, (.athrow, 13, 1, 0)), (20, (.aload_n 0, 21, 0, 0)), (21, (.getfield 12, 24, 7, 0)), (24, (.getfield 122, 27, 2, 3)), (27, (.invokevirtual 146, 30, 53, 4)), (30, (.ifCond .ne 13, 33, 43, 0)), (33, (.athrow, 36, 3, 0)), (43, (.aload_n 0, 44, 0, 0)), (44, (.bipush 45, 46, 45, 0)), (46, (.putfield 28, 49, 7, 3)), (49, (.iconst 0, 50, 0, 0)), (50, (.istore_n 2, 51, 2, 0)), (51, (.iload_n 2, 52, 2, 0)), (52, (.iload_n 1, 53, 1, 0)), (53, (.if_icmp .ge 57, 56, 110, 0)), (56, (.aload_n 0, 57, 0, 0)), (57, (.getfield 21, 60, 7, 1)), (60, (.invokevirtual 154, 63, 12, 1)), (63, (.ifCond .eq 5, 66, 68, 0))]
def xm_l6_1 : List (Nat × am_R) := [(66, (.iload_n 2, 67, 2, 0)), (67, (.ireturn, 68, 0, 0)), (68, (.aload_n 0, 69, 0, 0)), (69, (.aload_n 0, 70, 0, 0)), (70, (.getfield 21, 73, 7, 1)), (73, (.invokevirtual 157, 76, 16, 1)), (76, (.putfield 28, 79, 7, 3)), (79, (.aload_n 0, 80, 0, 0)), (80, (.getfield 28, 83, 7, 3)), (83, (.bipush 45, 85, 45, 0)), (85, (.if_icmp .eq 5, 88, 90, 0)), (88, (.iload_n 2, 89, 2, 0)), (89, (.ireturn, 90, 0, 0)), (90, (.aload_n 0, 91, 0, 0)), (91, (.getfield 21, 94, 7, 1)), (94, (.invokevirtual 161, 97, 13, 1)), (97, (.ifCond .eq 7, 100, 104, 0)), (100, (.iload_n 2, 101, 2, 0)), (101, (.iconst 1, 102, 1, 0)), (102, (.iadd, 103, 0, 0)), (103, (.ireturn, 104, 0, 0)), (104, (.iinc 2 1, 107, 2, 1)), (107, (.goto (-56), 110, 51, 0)), (110, (.iload_n 1, 111, 1, 0))]
def xm_l6_2 : List (Nat × am_R) := [(111, (.ireturn, 112, 0, 0))]
def xm_t6 : Nat → am_R := fun pc => am_lc [(64, xm_l6_0), (111, xm_l6_1), (112, xm_l6_2)] pc
def xm_m6 : xm_M := ((yX7_run, cX7_run, 3, some .int, xm_t6, 2, 1, 6), [], [])
def xm_l7_0 : List (Nat × am_R) := [(0, (.iload_n 1, 1, 1, 0)), (1, (.iconst 0, 2, 0, 0)), (2, (.bipush 7, 4, 7, 0)), (4, (.invokestatic 52, 7, 84, 0)), (7, (.ifCond .ne 13, 10, 20, 0)), (10, (.athrow, 13, 1, 0)), (20, (.aload_n 0, 21, 0, 0)), (21, (.getfield 21, 24, 7, 1)), (24, (.getfield 172, 27, 1, 3)), (27, (.iload_n 1, 28, 1, 0)), (28, (.iaload, 29, 0, 0)), (29, (.ireturn, 30, 0, 0))]
def xm_t7 : Nat → am_R := fun pc => am_lc [(30, xm_l7_0)] pc
def xm_m7 : xm_M := ((yX7_variable, cX7_variable, 2, some .int, xm_t7, 2, 1, 6), [], [])
def xm_l8_0 : List (Nat × am_R) := [(0, (.iload_n 1, 1, 1, 0)), (1, (.iconst 0, 2, 0, 0)), (2, (.iconst 2, 3, 2, 0)), (3, (.invokestatic 52, 6, 84, 0)), (6, (.ifCond .ne 13, 9, 19, 0)), (9, (.athrow, 12, 1, 0)), (19, (.aload_n 0, 20, 0, 0)), (20, (.getfield 21, 23, 7, 1)), (23, (.getfield 177, 26, 1, 4)), (26, (.iload_n 1, 27, 1, 0)), (27, (.iaload, 28, 0, 0)), (28, (.ireturn, 29, 0, 0))]
def xm_t8 : Nat → am_R := fun pc => am_lc [(29, xm_l8_0)] pc
def xm_m8 : xm_M := ((yX7_at, cX7_at, 2, some .int, xm_t8, 2, 1, 6), [], [])
def xm_l9_0 : List (Nat × am_R) := [(0, (.iload_n 1, 1, 1, 0)), (1, (.iload_n 2, 2, 2, 0)), (2, (.invokestatic 32, 5, 87, 0)), (5, (.ifCond .ne 13, 8, 18, 0)), (8, (.athrow, 11, 0, 0)), (18, (.iload_n 1, 19, 1, 0)), (19, (.iload_n 2, 20, 2, 0)), (20, (.invokestatic 71, 23, 88, 0)), (23, (.istore_n 3, 24, 3, 0)), (24, (.aload_n 0, 25, 0, 0)), (25, (.getfield 12, 28, 7, 0)), (28, (.getfield 67, 31, 2, 0)), (31, (.iload_n 3, 32, 3, 0)), (32, (.invokevirtual 183, 35, 58, 5)), (35, (.ifCond .ne 13, 38, 48, 0)), (38, (.athrow, 41, 4, 0)), (48, (.aload_n 0, 49, 0, 0)), (49, (.getfield 21, 52, 7, 1)), (52, (.getfield 191, 55, 1, 2)), (55, (.iload_n 3, 56, 3, 0)), (56, (.iaload, 57, 0, 0)), (57, (.ireturn, 58, 0, 0))]
def xm_t9 : Nat → am_R := fun pc => am_lc [(58, xm_l9_0)] pc
def xm_m9 : xm_M := ((yX7_used, cX7_used, 4, some .int, xm_t9, 3, 1, 6), [], [])
def xm_l10_0 : List (Nat × am_R) := [(0, (.iload_n 1, 1, 1, 0)), (1, (.iload_n 2, 2, 2, 0)), (2, (.iload_n 3, 3, 3, 0)), (3, (.monitorexit, 6, 0, 0)), (6, (.aload_n 0, 7, 0, 0)), (7, (.getfield 21, 10, 7, 1)), (10, (.getfield 194, 13, 1, 1)), (13, (.iload_n 1, 14, 1, 0)), (14, (.iload_n 2, 15, 2, 0)), (15, (.iload_n 3, 16, 3, 0)), (16, (.invokevirtual 95, 19, 2, 0)), (19, (.ireturn, 20, 0, 0))]
def xm_t10 : Nat → am_R := fun pc => am_lc [(20, xm_l10_0)] pc
def xm_m10 : xm_M := ((yX7_has, cX7_has, 4, some .boolean, xm_t10, 4, 1, 6), [], [])
def xm_l11_0 : List (Nat × am_R) := [(0, (.iload_n 1, 1, 1, 0)), (1, (.iload_n 2, 2, 2, 0)), (2, (.iload_n 3, 3, 3, 0)), (3, (.monitorexit, 6, 0, 0)), (6, (.aload_n 0, 7, 0, 0)), (7, (.getfield 25, 10, 7, 2)), (10, (.aload_n 0, 11, 0, 0)), (11, (.getfield 21, 14, 7, 1)), (14, (.getfield 164, 17, 1, 9)), (17, (.invokevirtual 197, 20, 15, 1)), (20, (.aload_n 0, 21, 0, 0)), (21, (.getfield 25, 24, 7, 2)), (24, (.getfield 194, 27, 1, 1)), (27, (.iload_n 1, 28, 1, 0)), (28, (.iload_n 2, 29, 2, 0)), (29, (.iload_n 3, 30, 3, 0)), (30, (.invokevirtual 95, 33, 2, 0)), (33, (.ireturn, 34, 0, 0))]
def xm_t11 : Nat → am_R := fun pc => am_lc [(34, xm_l11_0)] pc
def xm_m11 : xm_M := ((yX7_hasAnew, cX7_hasAnew, 4, some .boolean, xm_t11, 4, 1, 6), [], [])
def xm_l12_0 : List (Nat × am_R) := [(0, (.iload_n 1, 1, 1, 0)), (1, (.iload_n 2, 2, 2, 0)), (2, (.iconst 0, 3, 0, 0)), (3, (.monitorexit, 6, 0, 0)), (6, (.iconst 5, 7, 5, 0)), (7, (.istore_n 3, 8, 3, 0)), (8, (.iload_n 3, 9, 3, 0)), (9, (.ifCond .lt 29, 12, 38, 0)), (12, (.aload_n 0, 13, 0, 0)), (13, (.getfield 21, 16, 7, 1)), (16, (.getfield 194, 19, 1, 1)), (19, (.iload_n 1, 20, 1, 0)), (20, (.iload_n 2, 21, 2, 0)), (21, (.iload_n 3, 22, 3, 0)), (22, (.invokevirtual 95, 25, 2, 0)), (25, (.ifCond .eq 7, 28, 32, 0)), (28, (.iload_n 3, 29, 3, 0)), (29, (.iconst 1, 30, 1, 0)), (30, (.iadd, 31, 0, 0)), (31, (.ireturn, 32, 0, 0)), (32, (.iinc 3 (-1), 35, 3, 4294967295)), (35, (.goto (-27), 38, 8, 0)), (38, (.iconst 0, 39, 0, 0)), (39, (.ireturn, 40, 0, 0))]
def xm_t12 : Nat → am_R := fun pc => am_lc [(40, xm_l12_0)] pc
def xm_m12 : xm_M := ((yX7_height, cX7_height, 4, some .int, xm_t12, 3, 1, 6), [], [])
def xm_l13_0 : List (Nat × am_R) := [(0, (.aload_n 0, 1, 0, 0)), (1, (.getfield 12, 4, 7, 0)), (4, (.getfield 67, 7, 2, 0)), (7, (.iconst 0, 8, 0, 0)), (8, (.bipush 12, 10, 12, 0)), (10, (.invokevirtual 84, 13, 59, 5)), (13, (.istore_n 1, 14, 1, 0)), (14, (.iload_n 1, 15, 1, 0)), (15, (.ifCond .ne 13, 18, 28, 0)), (18, (.athrow, 21, 5, 0)), (28, (.aload_n 0, 29, 0, 0)), (29, (.getfield 21, 32, 7, 1)), (32, (.invokevirtual 221, 35, 14, 1)), (35, (.i2d, 36, 0, 0)), (36, (.iload_n 1, 37, 1, 0)), (37, (.i2d, 38, 0, 0)), (38, (.ddiv, 39, 0, 0)), (39, (.dreturn, 40, 0, 0))]
def xm_t13 : Nat → am_R := fun pc => am_lc [(40, xm_l13_0)] pc
def xm_m13 : xm_M := ((yX7_meanUse, cX7_meanUse, 2, some .double, xm_t13, 1, 1, 6), [], [])
def xm_l14_0 : List (Nat × am_R) := [(0, (.aload 6, 2, 6, 0)), (2, (.iconst 0, 3, 0, 0)), (3, (.aload_n 0, 4, 0, 0)), (4, (.iload_n 1, 5, 1, 0)), (5, (.iload_n 2, 6, 2, 0)), (6, (.iload_n 3, 7, 3, 0)), (7, (.iload 4, 9, 4, 0)), (9, (.iload 5, 11, 5, 0)), (11, (.monitorenter, 14, 1, 7)), (14, (.i2l, 15, 0, 0)), (15, (.lastore, 16, 0, 0)), (16, (.goto 15, 19, 31, 0)), (31, (.iconst 0, 32, 0, 0)), (32, (.ireturn, 33, 0, 0))]
def xm_t14 : Nat → am_R := fun pc => am_lc [(33, xm_l14_0)] pc
def xm_m14 : xm_M := ((yL_putCutter, cL_putCutter, 8, some .int, xm_t14, 7, 1, 6), [(0, 1), (1, 2), (2, 3)], [(0, 16, 19, 13), (0, 16, 23, 15), (0, 16, 27, 17)])
def xm_l15_0 : List (Nat × am_R) := [(0, (.aload 5, 2, 5, 0)), (2, (.iconst 0, 3, 0, 0)), (3, (.aload_n 0, 4, 0, 0)), (4, (.iload_n 1, 5, 1, 0)), (5, (.iload_n 2, 6, 2, 0)), (6, (.iload_n 3, 7, 3, 0)), (7, (.iload 4, 9, 4, 0)), (9, (.monitorenter, 12, 2, 7)), (12, (.ifCond .eq 7, 15, 19, 0)), (15, (.lconst 1, 16, 1, 0)), (16, (.goto 4, 19, 20, 0)), (19, (.lconst 0, 20, 0, 0)), (20, (.lastore, 21, 0, 0)), (21, (.goto 7, 24, 28, 0)), (28, (.iconst 0, 29, 0, 0)), (29, (.ireturn, 30, 0, 0))]
def xm_t15 : Nat → am_R := fun pc => am_lc [(30, xm_l15_0)] pc
def xm_m15 : xm_M := ((yL_setFixture, cL_setFixture, 7, some .int, xm_t15, 6, 1, 6), [(0, 1)], [(0, 21, 24, 13)])
def xm_l16_0 : List (Nat × am_R) := [(0, (.aload 5, 2, 5, 0)), (2, (.iconst 0, 3, 0, 0)), (3, (.aload_n 0, 4, 0, 0)), (4, (.iload_n 1, 5, 1, 0)), (5, (.iload_n 2, 6, 2, 0)), (6, (.iload_n 3, 7, 3, 0)), (7, (.iload 4, 9, 4, 0)), (9, (.monitorenter, 12, 3, 7)), (12, (.i2l, 13, 0, 0)), (13, (.lastore, 14, 0, 0)), (14, (.goto 7, 17, 21, 0)), (21, (.iconst 0, 22, 0, 0)), (22, (.ireturn, 23, 0, 0))]
def xm_t16 : Nat → am_R := fun pc => am_lc [(23, xm_l16_0)] pc
def xm_m16 : xm_M := ((yL_setOffset, cL_setOffset, 7, some .int, xm_t16, 6, 1, 6), [(1, 1)], [(0, 14, 17, 15)])
def xm_l17_0 : List (Nat × am_R) := [(0, (.aload 5, 2, 5, 0)), (2, (.iconst 0, 3, 0, 0)), (3, (.aload_n 0, 4, 0, 0)), (4, (.iload_n 1, 5, 1, 0)), (5, (.iload_n 2, 6, 2, 0)), (6, (.iload_n 3, 7, 3, 0)), (7, (.iload 4, 9, 4, 0)), (9, (.monitorenter, 12, 4, 7)), (12, (.i2l, 13, 0, 0)), (13, (.lastore, 14, 0, 0)), (14, (.goto 11, 17, 25, 0)), (25, (.iconst 0, 26, 0, 0)), (26, (.ireturn, 27, 0, 0))]
def xm_t17 : Nat → am_R := fun pc => am_lc [(27, xm_l17_0)] pc
def xm_m17 : xm_M := ((yL_addBlock, cL_addBlock, 7, some .int, xm_t17, 6, 1, 6), [(1, 1), (3, 2)], [(0, 14, 17, 15), (0, 14, 21, 31)])
def xm_l18_0 : List (Nat × am_R) := [(0, (.aload_n 1, 1, 1, 0)), (1, (.iconst 0, 2, 0, 0)), (2, (.aload_n 0, 3, 0, 0)), (3, (.monitorenter, 6, 5, 7)), (6, (.i2l, 7, 0, 0)), (7, (.lastore, 8, 0, 0)), (8, (.goto 6, 11, 14, 0)), (14, (.iconst 0, 15, 0, 0)), (15, (.ireturn, 16, 0, 0))]
def xm_t18 : Nat → am_R := fun pc => am_lc [(16, xm_l18_0)] pc
def xm_m18 : xm_M := ((yL_dropBlock, cL_dropBlock, 3, some .int, xm_t18, 2, 1, 6), [(3, 1)], [(0, 8, 11, 31)])
def xm_l19_0 : List (Nat × am_R) := [(0, (.aload_n 2, 1, 2, 0)), (1, (.iconst 0, 2, 0, 0)), (2, (.aload_n 0, 3, 0, 0)), (3, (.iload_n 1, 4, 1, 0)), (4, (.monitorenter, 7, 6, 7)), (7, (.i2l, 8, 0, 0)), (8, (.lastore, 9, 0, 0)), (9, (.goto 9, 12, 18, 0)), (18, (.iconst 0, 19, 0, 0)), (19, (.ireturn, 20, 0, 0))]
def xm_t19 : Nat → am_R := fun pc => am_lc [(20, xm_l19_0)] pc
def xm_m19 : xm_M := ((yL_run, cL_run, 4, some .int, xm_t19, 3, 1, 6), [(1, 1), (3, 2)], [(0, 9, 12, 15), (0, 9, 15, 31)])
def xm_l20_0 : List (Nat × am_R) := [(0, (.aload_n 2, 1, 2, 0)), (1, (.iconst 0, 2, 0, 0)), (2, (.aload_n 0, 3, 0, 0)), (3, (.iload_n 1, 4, 1, 0)), (4, (.monitorenter, 7, 7, 7)), (7, (.i2l, 8, 0, 0)), (8, (.lastore, 9, 0, 0)), (9, (.goto 6, 12, 15, 0)), (15, (.iconst 0, 16, 0, 0)), (16, (.ireturn, 17, 0, 0))]
def xm_t20 : Nat → am_R := fun pc => am_lc [(17, xm_l20_0)] pc
def xm_m20 : xm_M := ((yL_variable, cL_variable, 4, some .int, xm_t20, 3, 1, 6), [(1, 1)], [(0, 9, 12, 15)])
def xm_l21_0 : List (Nat × am_R) := [(0, (.aload_n 2, 1, 2, 0)), (1, (.iconst 0, 2, 0, 0)), (2, (.aload_n 0, 3, 0, 0)), (3, (.iload_n 1, 4, 1, 0)), (4, (.monitorenter, 7, 8, 7)), (7, (.i2l, 8, 0, 0)), (8, (.lastore, 9, 0, 0)), (9, (.goto 6, 12, 15, 0)), (15, (.iconst 0, 16, 0, 0)), (16, (.ireturn, 17, 0, 0))]
def xm_t21 : Nat → am_R := fun pc => am_lc [(17, xm_l21_0)] pc
def xm_m21 : xm_M := ((yL_at, cL_at, 4, some .int, xm_t21, 3, 1, 6), [(1, 1)], [(0, 9, 12, 15)])
def xm_l22_0 : List (Nat × am_R) := [(0, (.aload_n 3, 1, 3, 0)), (1, (.iconst 0, 2, 0, 0)), (2, (.aload_n 0, 3, 0, 0)), (3, (.iload_n 1, 4, 1, 0)), (4, (.iload_n 2, 5, 2, 0)), (5, (.monitorenter, 8, 9, 7)), (8, (.i2l, 9, 0, 0)), (9, (.lastore, 10, 0, 0)), (10, (.goto 11, 13, 21, 0)), (21, (.iconst 0, 22, 0, 0)), (22, (.ireturn, 23, 0, 0))]
def xm_t22 : Nat → am_R := fun pc => am_lc [(23, xm_l22_0)] pc
def xm_m22 : xm_M := ((yL_used, cL_used, 5, some .int, xm_t22, 4, 1, 6), [(0, 1), (4, 2)], [(0, 10, 13, 13), (0, 10, 17, 51)])
def xm_l23_0 : List (Nat × am_R) := [(0, (.aload 4, 2, 4, 0)), (2, (.iconst 0, 3, 0, 0)), (3, (.aload_n 0, 4, 0, 0)), (4, (.iload_n 1, 5, 1, 0)), (5, (.iload_n 2, 6, 2, 0)), (6, (.iload_n 3, 7, 3, 0)), (7, (.monitorenter, 10, 10, 7)), (10, (.ifCond .eq 7, 13, 17, 0)), (13, (.lconst 1, 14, 1, 0)), (14, (.goto 4, 17, 18, 0)), (17, (.lconst 0, 18, 0, 0)), (18, (.lastore, 19, 0, 0)), (19, (.goto 7, 22, 26, 0)), (26, (.iconst 0, 27, 0, 0)), (27, (.ireturn, 28, 0, 0))]
def xm_t23 : Nat → am_R := fun pc => am_lc [(28, xm_l23_0)] pc
def xm_m23 : xm_M := ((yL_has, cL_has, 6, some .int, xm_t23, 5, 1, 6), [(0, 1)], [(0, 19, 22, 13)])
def xm_l24_0 : List (Nat × am_R) := [(0, (.aload 4, 2, 4, 0)), (2, (.iconst 0, 3, 0, 0)), (3, (.aload_n 0, 4, 0, 0)), (4, (.iload_n 1, 5, 1, 0)), (5, (.iload_n 2, 6, 2, 0)), (6, (.iload_n 3, 7, 3, 0)), (7, (.monitorenter, 10, 11, 7)), (10, (.ifCond .eq 7, 13, 17, 0)), (13, (.lconst 1, 14, 1, 0)), (14, (.goto 4, 17, 18, 0)), (17, (.lconst 0, 18, 0, 0)), (18, (.lastore, 19, 0, 0)), (19, (.goto 7, 22, 26, 0)), (26, (.iconst 0, 27, 0, 0)), (27, (.ireturn, 28, 0, 0))]
def xm_t24 : Nat → am_R := fun pc => am_lc [(28, xm_l24_0)] pc
def xm_m24 : xm_M := ((yL_hasAnew, cL_hasAnew, 6, some .int, xm_t24, 5, 1, 6), [(0, 1)], [(0, 19, 22, 13)])
def xm_l25_0 : List (Nat × am_R) := [(0, (.aload_n 3, 1, 3, 0)), (1, (.iconst 0, 2, 0, 0)), (2, (.aload_n 0, 3, 0, 0)), (3, (.iload_n 1, 4, 1, 0)), (4, (.iload_n 2, 5, 2, 0)), (5, (.monitorenter, 8, 12, 7)), (8, (.i2l, 9, 0, 0)), (9, (.lastore, 10, 0, 0)), (10, (.goto 7, 13, 17, 0)), (17, (.iconst 0, 18, 0, 0)), (18, (.ireturn, 19, 0, 0))]
def xm_t25 : Nat → am_R := fun pc => am_lc [(19, xm_l25_0)] pc
def xm_m25 : xm_M := ((yL_height, cL_height, 5, some .int, xm_t25, 4, 1, 6), [(0, 1)], [(0, 10, 13, 13)])
def xm_l26_0 : List (Nat × am_R) := [(0, (.aload_n 1, 1, 1, 0)), (1, (.iconst 0, 2, 0, 0)), (2, (.aload_n 0, 3, 0, 0)), (3, (.monitorenter, 6, 13, 7)), (6, (.dastore, 7, 0, 0)), (7, (.goto 6, 10, 13, 0)), (13, (.iconst 0, 14, 0, 0)), (14, (.ireturn, 15, 0, 0))]
def xm_t26 : Nat → am_R := fun pc => am_lc [(15, xm_l26_0)] pc
def xm_m26 : xm_M := ((yL_meanUse, cL_meanUse, 3, some .int, xm_t26, 2, 1, 6), [(5, 1)], [(0, 7, 10, 67)])
def xm_l27_0 : List (Nat × am_R) := [(0, (.new 8, 3, 7, 4)), (3, (.dup, 4, 0, 0)), (4, (.invokespecial 69, 7, 69, 0)), (7, (.astore_n 1, 8, 1, 0)), (8, (.new 70, 11, 8, 27)), (11, (.dup, 12, 0, 0)), (12, (.invokespecial 72, 15, 95, 0)), (15, (.astore_n 2, 16, 2, 0)), (16, (.iconst 1, 17, 1, 0)), (17, (.newarray .long, 19, 3, 0)), (19, (.astore_n 3, 20, 3, 0)), (20, (.iconst 1, 21, 1, 0)), (21, (.newarray .double, 23, 4, 0)), (23, (.astore 4, 25, 4, 0)), (25, (.iconst 0, 26, 0, 0)), (26, (.istore 5, 28, 5, 0)), (28, (.iload 5, 30, 5, 0)), (30, (.aload_n 0, 31, 0, 0)), (31, (.arraylength, 32, 0, 0)), (32, (.bipush 6, 34, 6, 0)), (34, (.isub, 35, 0, 0)), (35, (.if_icmp .gt 1359, 38, 1394, 0)), (38, (.aload_n 0, 39, 0, 0)), (39, (.iload 5, 41, 5, 0))]
def xm_l27_1 : List (Nat × am_R) := [(41, (.iaload, 42, 0, 0)), (42, (.bipush 31, 44, 31, 0)), (44, (.iand, 45, 0, 0)), (45, (.tableswitch 1343 0 25 #[119, 225, 340, 432, 526, 570, 583, 639, 652, 665, 678, 691, 704, 760, 816, 829, 897, 984, 1071, 1084, 1152, 1166, 1209, 1222, 1287, 1330], 164, 0, 0)), (164, (.aload_n 1, 165, 1, 0)), (165, (.aload_n 0, 166, 0, 0)), (166, (.iload 5, 168, 5, 0)), (168, (.iconst 1, 169, 1, 0)), (169, (.iadd, 170, 0, 0)), (170, (.iaload, 171, 0, 0)), (171, (.aload_n 0, 172, 0, 0)), (172, (.iload 5, 174, 5, 0)), (174, (.iconst 2, 175, 2, 0)), (175, (.iadd, 176, 0, 0)), (176, (.iaload, 177, 0, 0)), (177, (.aload_n 0, 178, 0, 0)), (178, (.iload 5, 180, 5, 0)), (180, (.iconst 3, 181, 3, 0)), (181, (.iadd, 182, 0, 0)), (182, (.iaload, 183, 0, 0)), (183, (.i2c, 184, 0, 0)), (184, (.aload_n 0, 185, 0, 0)), (185, (.iload 5, 187, 5, 0)), (187, (.iconst 4, 188, 4, 0))]
def xm_l27_2 : List (Nat × am_R) := [(188, (.iadd, 189, 0, 0)), (189, (.iaload, 190, 0, 0)), (190, (.aload_n 0, 191, 0, 0)), (191, (.iload 5, 193, 5, 0)), (193, (.iconst 5, 194, 5, 0)), (194, (.iadd, 195, 0, 0)), (195, (.iaload, 196, 0, 0)), (196, (.aload_n 3, 197, 3, 0)), (197, (.monitorexit, 200, 14, 0)), (200, (.istore 6, 202, 6, 0)), (202, (.aload_n 2, 203, 2, 0)), (203, (.aload_n 0, 204, 0, 0)), (204, (.iload 5, 206, 5, 0)), (206, (.iconst 1, 207, 1, 0)), (207, (.iadd, 208, 0, 0)), (208, (.iaload, 209, 0, 0)), (209, (.aload_n 0, 210, 0, 0)), (210, (.iload 5, 212, 5, 0)), (212, (.iconst 2, 213, 2, 0)), (213, (.iadd, 214, 0, 0)), (214, (.iaload, 215, 0, 0)), (215, (.aload_n 0, 216, 0, 0)), (216, (.iload 5, 218, 5, 0)), (218, (.iconst 3, 219, 3, 0))]
def xm_l27_3 : List (Nat × am_R) := [(219, (.iadd, 220, 0, 0)), (220, (.iaload, 221, 0, 0)), (221, (.i2c, 222, 0, 0)), (222, (.aload_n 0, 223, 0, 0)), (223, (.iload 5, 225, 5, 0)), (225, (.iconst 4, 226, 4, 0)), (226, (.iadd, 227, 0, 0)), (227, (.iaload, 228, 0, 0)), (228, (.aload_n 0, 229, 0, 0)), (229, (.iload 5, 231, 5, 0)), (231, (.iconst 5, 232, 5, 0)), (232, (.iadd, 233, 0, 0)), (233, (.iaload, 234, 0, 0)), (234, (.invokevirtual 78, 237, 102, 8)), (237, (.istore 7, 239, 7, 0)), (239, (.aload_n 2, 240, 2, 0)), (240, (.invokevirtual 79, 243, 96, 8)), (243, (.iload 6, 245, 6, 0)), (245, (.if_icmp .eq 5, 248, 250, 0)), (248, (.iconst 0, 249, 0, 0)), (249, (.ireturn, 250, 0, 0)), (250, (.iload 6, 252, 6, 0)), (252, (.ifCond .ne 15, 255, 267, 0)), (255, (.aload_n 3, 256, 3, 0))]
def xm_l27_4 : List (Nat × am_R) := [(256, (.iconst 0, 257, 0, 0)), (257, (.laload, 258, 0, 0)), (258, (.iload 7, 260, 7, 0)), (260, (.i2l, 261, 0, 0)), (261, (.lcmp, 262, 0, 0)), (262, (.ifCond .eq 5, 265, 267, 0)), (265, (.iconst 0, 266, 0, 0)), (266, (.ireturn, 267, 0, 0)), (267, (.goto 1121, 270, 1388, 0)), (270, (.aload_n 1, 271, 1, 0)), (271, (.aload_n 0, 272, 0, 0)), (272, (.iload 5, 274, 5, 0)), (274, (.iconst 1, 275, 1, 0)), (275, (.iadd, 276, 0, 0)), (276, (.iaload, 277, 0, 0)), (277, (.aload_n 0, 278, 0, 0)), (278, (.iload 5, 280, 5, 0)), (280, (.iconst 2, 281, 2, 0)), (281, (.iadd, 282, 0, 0)), (282, (.iaload, 283, 0, 0)), (283, (.aload_n 0, 284, 0, 0)), (284, (.iload 5, 286, 5, 0)), (286, (.iconst 3, 287, 3, 0)), (287, (.iadd, 288, 0, 0))]
def xm_l27_5 : List (Nat × am_R) := [(288, (.iaload, 289, 0, 0)), (289, (.aload_n 0, 290, 0, 0)), (290, (.iload 5, 292, 5, 0)), (292, (.iconst 4, 293, 4, 0)), (293, (.iadd, 294, 0, 0)), (294, (.iaload, 295, 0, 0)), (295, (.ifCond .eq 7, 298, 302, 0)), (298, (.iconst 1, 299, 1, 0)), (299, (.goto 4, 302, 303, 0)), (302, (.iconst 0, 303, 0, 0)), (303, (.aload_n 3, 304, 3, 0)), (304, (.monitorexit, 307, 15, 0)), (307, (.istore 6, 309, 6, 0)), (309, (.aload_n 2, 310, 2, 0)), (310, (.aload_n 0, 311, 0, 0)), (311, (.iload 5, 313, 5, 0)), (313, (.iconst 1, 314, 1, 0)), (314, (.iadd, 315, 0, 0)), (315, (.iaload, 316, 0, 0)), (316, (.aload_n 0, 317, 0, 0)), (317, (.iload 5, 319, 5, 0)), (319, (.iconst 2, 320, 2, 0)), (320, (.iadd, 321, 0, 0)), (321, (.iaload, 322, 0, 0))]
def xm_l27_6 : List (Nat × am_R) := [(322, (.aload_n 0, 323, 0, 0)), (323, (.iload 5, 325, 5, 0)), (325, (.iconst 3, 326, 3, 0)), (326, (.iadd, 327, 0, 0)), (327, (.iaload, 328, 0, 0)), (328, (.aload_n 0, 329, 0, 0)), (329, (.iload 5, 331, 5, 0)), (331, (.iconst 4, 332, 4, 0)), (332, (.iadd, 333, 0, 0)), (333, (.iaload, 334, 0, 0)), (334, (.ifCond .eq 7, 337, 341, 0)), (337, (.iconst 1, 338, 1, 0)), (338, (.goto 4, 341, 342, 0)), (341, (.iconst 0, 342, 0, 0)), (342, (.invokevirtual 85, 345, 105, 8)), (345, (.istore 7, 347, 7, 0)), (347, (.aload_n 2, 348, 2, 0)), (348, (.invokevirtual 79, 351, 96, 8)), (351, (.iload 6, 353, 6, 0)), (353, (.if_icmp .eq 5, 356, 358, 0)), (356, (.iconst 0, 357, 0, 0)), (357, (.ireturn, 358, 0, 0)), (358, (.iload 6, 360, 6, 0)), (360, (.ifCond .ne 22, 363, 382, 0))]
def xm_l27_7 : List (Nat × am_R) := [(363, (.aload_n 3, 364, 3, 0)), (364, (.iconst 0, 365, 0, 0)), (365, (.laload, 366, 0, 0)), (366, (.iload 7, 368, 7, 0)), (368, (.ifCond .eq 7, 371, 375, 0)), (371, (.lconst 1, 372, 1, 0)), (372, (.goto 4, 375, 376, 0)), (375, (.lconst 0, 376, 0, 0)), (376, (.lcmp, 377, 0, 0)), (377, (.ifCond .eq 5, 380, 382, 0)), (380, (.iconst 0, 381, 0, 0)), (381, (.ireturn, 382, 0, 0)), (382, (.goto 1006, 385, 1388, 0)), (385, (.aload_n 1, 386, 1, 0)), (386, (.aload_n 0, 387, 0, 0)), (387, (.iload 5, 389, 5, 0)), (389, (.iconst 1, 390, 1, 0)), (390, (.iadd, 391, 0, 0)), (391, (.iaload, 392, 0, 0)), (392, (.aload_n 0, 393, 0, 0)), (393, (.iload 5, 395, 5, 0)), (395, (.iconst 2, 396, 2, 0)), (396, (.iadd, 397, 0, 0)), (397, (.iaload, 398, 0, 0))]
def xm_l27_8 : List (Nat × am_R) := [(398, (.aload_n 0, 399, 0, 0)), (399, (.iload 5, 401, 5, 0)), (401, (.iconst 3, 402, 3, 0)), (402, (.iadd, 403, 0, 0)), (403, (.iaload, 404, 0, 0)), (404, (.aload_n 0, 405, 0, 0)), (405, (.iload 5, 407, 5, 0)), (407, (.iconst 4, 408, 4, 0)), (408, (.iadd, 409, 0, 0)), (409, (.iaload, 410, 0, 0)), (410, (.aload_n 3, 411, 3, 0)), (411, (.monitorexit, 414, 16, 0)), (414, (.istore 6, 416, 6, 0)), (416, (.aload_n 2, 417, 2, 0)), (417, (.aload_n 0, 418, 0, 0)), (418, (.iload 5, 420, 5, 0)), (420, (.iconst 1, 421, 1, 0)), (421, (.iadd, 422, 0, 0)), (422, (.iaload, 423, 0, 0)), (423, (.aload_n 0, 424, 0, 0)), (424, (.iload 5, 426, 5, 0)), (426, (.iconst 2, 427, 2, 0)), (427, (.iadd, 428, 0, 0)), (428, (.iaload, 429, 0, 0))]
def xm_l27_9 : List (Nat × am_R) := [(429, (.aload_n 0, 430, 0, 0)), (430, (.iload 5, 432, 5, 0)), (432, (.iconst 3, 433, 3, 0)), (433, (.iadd, 434, 0, 0)), (434, (.iaload, 435, 0, 0)), (435, (.aload_n 0, 436, 0, 0)), (436, (.iload 5, 438, 5, 0)), (438, (.iconst 4, 439, 4, 0)), (439, (.iadd, 440, 0, 0)), (440, (.iaload, 441, 0, 0)), (441, (.invokevirtual 89, 444, 106, 8)), (444, (.istore 7, 446, 7, 0)), (446, (.aload_n 2, 447, 2, 0)), (447, (.invokevirtual 79, 450, 96, 8)), (450, (.iload 6, 452, 6, 0)), (452, (.if_icmp .eq 5, 455, 457, 0)), (455, (.iconst 0, 456, 0, 0)), (456, (.ireturn, 457, 0, 0)), (457, (.iload 6, 459, 6, 0)), (459, (.ifCond .ne 15, 462, 474, 0)), (462, (.aload_n 3, 463, 3, 0)), (463, (.iconst 0, 464, 0, 0)), (464, (.laload, 465, 0, 0)), (465, (.iload 7, 467, 7, 0))]
def xm_l27_10 : List (Nat × am_R) := [(467, (.i2l, 468, 0, 0)), (468, (.lcmp, 469, 0, 0)), (469, (.ifCond .eq 5, 472, 474, 0)), (472, (.iconst 0, 473, 0, 0)), (473, (.ireturn, 474, 0, 0)), (474, (.goto 914, 477, 1388, 0)), (477, (.aload_n 1, 478, 1, 0)), (478, (.aload_n 0, 479, 0, 0)), (479, (.iload 5, 481, 5, 0)), (481, (.iconst 1, 482, 1, 0)), (482, (.iadd, 483, 0, 0)), (483, (.iaload, 484, 0, 0)), (484, (.i2c, 485, 0, 0)), (485, (.aload_n 0, 486, 0, 0)), (486, (.iload 5, 488, 5, 0)), (488, (.iconst 2, 489, 2, 0)), (489, (.iadd, 490, 0, 0)), (490, (.iaload, 491, 0, 0)), (491, (.aload_n 0, 492, 0, 0)), (492, (.iload 5, 494, 5, 0)), (494, (.iconst 3, 495, 3, 0)), (495, (.iadd, 496, 0, 0)), (496, (.iaload, 497, 0, 0)), (497, (.aload_n 0, 498, 0, 0))]
def xm_l27_11 : List (Nat × am_R) := [(498, (.iload 5, 500, 5, 0)), (500, (.iconst 4, 501, 4, 0)), (501, (.iadd, 502, 0, 0)), (502, (.iaload, 503, 0, 0)), (503, (.aload_n 3, 504, 3, 0)), (504, (.monitorexit, 507, 17, 0)), (507, (.istore 6, 509, 6, 0)), (509, (.aload_n 2, 510, 2, 0)), (510, (.aload_n 0, 511, 0, 0)), (511, (.iload 5, 513, 5, 0)), (513, (.iconst 1, 514, 1, 0)), (514, (.iadd, 515, 0, 0)), (515, (.iaload, 516, 0, 0)), (516, (.i2c, 517, 0, 0)), (517, (.aload_n 0, 518, 0, 0)), (518, (.iload 5, 520, 5, 0)), (520, (.iconst 2, 521, 2, 0)), (521, (.iadd, 522, 0, 0)), (522, (.iaload, 523, 0, 0)), (523, (.aload_n 0, 524, 0, 0)), (524, (.iload 5, 526, 5, 0)), (526, (.iconst 3, 527, 3, 0)), (527, (.iadd, 528, 0, 0)), (528, (.iaload, 529, 0, 0))]
def xm_l27_12 : List (Nat × am_R) := [(529, (.aload_n 0, 530, 0, 0)), (530, (.iload 5, 532, 5, 0)), (532, (.iconst 4, 533, 4, 0)), (533, (.iadd, 534, 0, 0)), (534, (.iaload, 535, 0, 0)), (535, (.invokevirtual 93, 538, 109, 8)), (538, (.istore 7, 540, 7, 0)), (540, (.aload_n 2, 541, 2, 0)), (541, (.invokevirtual 79, 544, 96, 8)), (544, (.iload 6, 546, 6, 0)), (546, (.if_icmp .eq 5, 549, 551, 0)), (549, (.iconst 0, 550, 0, 0)), (550, (.ireturn, 551, 0, 0)), (551, (.iload 6, 553, 6, 0)), (553, (.ifCond .ne 15, 556, 568, 0)), (556, (.aload_n 3, 557, 3, 0)), (557, (.iconst 0, 558, 0, 0)), (558, (.laload, 559, 0, 0)), (559, (.iload 7, 561, 7, 0)), (561, (.i2l, 562, 0, 0)), (562, (.lcmp, 563, 0, 0)), (563, (.ifCond .eq 5, 566, 568, 0)), (566, (.iconst 0, 567, 0, 0)), (567, (.ireturn, 568, 0, 0))]
def xm_l27_13 : List (Nat × am_R) := [(568, (.goto 820, 571, 1388, 0)), (571, (.aload_n 1, 572, 1, 0)), (572, (.aload_n 3, 573, 3, 0)), (573, (.monitorexit, 576, 18, 0)), (576, (.istore 6, 578, 6, 0)), (578, (.aload_n 2, 579, 2, 0)), (579, (.invokevirtual 97, 582, 110, 8)), (582, (.istore 7, 584, 7, 0)), (584, (.aload_n 2, 585, 2, 0)), (585, (.invokevirtual 79, 588, 96, 8)), (588, (.iload 6, 590, 6, 0)), (590, (.if_icmp .eq 5, 593, 595, 0)), (593, (.iconst 0, 594, 0, 0)), (594, (.ireturn, 595, 0, 0)), (595, (.iload 6, 597, 6, 0)), (597, (.ifCond .ne 15, 600, 612, 0)), (600, (.aload_n 3, 601, 3, 0)), (601, (.iconst 0, 602, 0, 0)), (602, (.laload, 603, 0, 0)), (603, (.iload 7, 605, 7, 0)), (605, (.i2l, 606, 0, 0)), (606, (.lcmp, 607, 0, 0)), (607, (.ifCond .eq 5, 610, 612, 0)), (610, (.iconst 0, 611, 0, 0))]
def xm_l27_14 : List (Nat × am_R) := [(611, (.ireturn, 612, 0, 0)), (612, (.goto 776, 615, 1388, 0)), (615, (.aload_n 1, 616, 1, 0)), (616, (.invokevirtual 98, 619, 70, 7)), (619, (.aload_n 2, 620, 2, 0)), (620, (.invokevirtual 102, 623, 113, 8)), (623, (.if_icmp .eq 765, 626, 1388, 0)), (626, (.iconst 0, 627, 0, 0)), (627, (.ireturn, 628, 0, 0)), (628, (.aload_n 1, 629, 1, 0)), (629, (.aload_n 0, 630, 0, 0)), (630, (.iload 5, 632, 5, 0)), (632, (.iconst 1, 633, 1, 0)), (633, (.iadd, 634, 0, 0)), (634, (.iaload, 635, 0, 0)), (635, (.aload_n 3, 636, 3, 0)), (636, (.monitorexit, 639, 19, 0)), (639, (.istore 6, 641, 6, 0)), (641, (.aload_n 2, 642, 2, 0)), (642, (.aload_n 0, 643, 0, 0)), (643, (.iload 5, 645, 5, 0)), (645, (.iconst 1, 646, 1, 0)), (646, (.iadd, 647, 0, 0)), (647, (.iaload, 648, 0, 0))]
def xm_l27_15 : List (Nat × am_R) := [(648, (.invokevirtual 106, 651, 134, 8)), (651, (.istore 7, 653, 7, 0)), (653, (.aload_n 2, 654, 2, 0)), (654, (.invokevirtual 79, 657, 96, 8)), (657, (.iload 6, 659, 6, 0)), (659, (.if_icmp .eq 5, 662, 664, 0)), (662, (.iconst 0, 663, 0, 0)), (663, (.ireturn, 664, 0, 0)), (664, (.iload 6, 666, 6, 0)), (666, (.ifCond .ne 15, 669, 681, 0)), (669, (.aload_n 3, 670, 3, 0)), (670, (.iconst 0, 671, 0, 0)), (671, (.laload, 672, 0, 0)), (672, (.iload 7, 674, 7, 0)), (674, (.i2l, 675, 0, 0)), (675, (.lcmp, 676, 0, 0)), (676, (.ifCond .eq 5, 679, 681, 0)), (679, (.iconst 0, 680, 0, 0)), (680, (.ireturn, 681, 0, 0)), (681, (.goto 707, 684, 1388, 0)), (684, (.aload_n 1, 685, 1, 0)), (685, (.invokevirtual 107, 688, 71, 7)), (688, (.aload_n 2, 689, 2, 0)), (689, (.invokevirtual 110, 692, 135, 8))]
def xm_l27_16 : List (Nat × am_R) := [(692, (.if_icmp .eq 696, 695, 1388, 0)), (695, (.iconst 0, 696, 0, 0)), (696, (.ireturn, 697, 0, 0)), (697, (.aload_n 1, 698, 1, 0)), (698, (.invokevirtual 111, 701, 72, 7)), (701, (.aload_n 2, 702, 2, 0)), (702, (.invokevirtual 115, 705, 136, 8)), (705, (.if_icmp .eq 683, 708, 1388, 0)), (708, (.iconst 0, 709, 0, 0)), (709, (.ireturn, 710, 0, 0)), (710, (.aload_n 1, 711, 1, 0)), (711, (.invokevirtual 116, 714, 73, 7)), (714, (.aload_n 2, 715, 2, 0)), (715, (.invokevirtual 119, 718, 137, 8)), (718, (.if_icmp .eq 670, 721, 1388, 0)), (721, (.iconst 0, 722, 0, 0)), (722, (.ireturn, 723, 0, 0)), (723, (.aload_n 1, 724, 1, 0)), (724, (.invokevirtual 120, 727, 74, 7)), (727, (.aload_n 2, 728, 2, 0)), (728, (.invokevirtual 123, 731, 138, 8)), (731, (.if_icmp .eq 657, 734, 1388, 0)), (734, (.iconst 0, 735, 0, 0)), (735, (.ireturn, 736, 0, 0))]
def xm_l27_17 : List (Nat × am_R) := [(736, (.aload_n 1, 737, 1, 0)), (737, (.invokevirtual 124, 740, 75, 7)), (740, (.aload_n 2, 741, 2, 0)), (741, (.invokevirtual 127, 744, 139, 8)), (744, (.if_icmp .eq 644, 747, 1388, 0)), (747, (.iconst 0, 748, 0, 0)), (748, (.ireturn, 749, 0, 0)), (749, (.aload_n 1, 750, 1, 0)), (750, (.aload_n 0, 751, 0, 0)), (751, (.iload 5, 753, 5, 0)), (753, (.iconst 1, 754, 1, 0)), (754, (.iadd, 755, 0, 0)), (755, (.iaload, 756, 0, 0)), (756, (.aload_n 3, 757, 3, 0)), (757, (.monitorexit, 760, 20, 0)), (760, (.istore 6, 762, 6, 0)), (762, (.aload_n 2, 763, 2, 0)), (763, (.aload_n 0, 764, 0, 0)), (764, (.iload 5, 766, 5, 0)), (766, (.iconst 1, 767, 1, 0)), (767, (.iadd, 768, 0, 0)), (768, (.iaload, 769, 0, 0)), (769, (.invokevirtual 130, 772, 140, 8)), (772, (.istore 7, 774, 7, 0))]
def xm_l27_18 : List (Nat × am_R) := [(774, (.aload_n 2, 775, 2, 0)), (775, (.invokevirtual 79, 778, 96, 8)), (778, (.iload 6, 780, 6, 0)), (780, (.if_icmp .eq 5, 783, 785, 0)), (783, (.iconst 0, 784, 0, 0)), (784, (.ireturn, 785, 0, 0)), (785, (.iload 6, 787, 6, 0)), (787, (.ifCond .ne 15, 790, 802, 0)), (790, (.aload_n 3, 791, 3, 0)), (791, (.iconst 0, 792, 0, 0)), (792, (.laload, 793, 0, 0)), (793, (.iload 7, 795, 7, 0)), (795, (.i2l, 796, 0, 0)), (796, (.lcmp, 797, 0, 0)), (797, (.ifCond .eq 5, 800, 802, 0)), (800, (.iconst 0, 801, 0, 0)), (801, (.ireturn, 802, 0, 0)), (802, (.goto 586, 805, 1388, 0)), (805, (.aload_n 1, 806, 1, 0)), (806, (.aload_n 0, 807, 0, 0)), (807, (.iload 5, 809, 5, 0)), (809, (.iconst 1, 810, 1, 0)), (810, (.iadd, 811, 0, 0)), (811, (.iaload, 812, 0, 0))]
def xm_l27_19 : List (Nat × am_R) := [(812, (.aload_n 3, 813, 3, 0)), (813, (.monitorexit, 816, 21, 0)), (816, (.istore 6, 818, 6, 0)), (818, (.aload_n 2, 819, 2, 0)), (819, (.aload_n 0, 820, 0, 0)), (820, (.iload 5, 822, 5, 0)), (822, (.iconst 1, 823, 1, 0)), (823, (.iadd, 824, 0, 0)), (824, (.iaload, 825, 0, 0)), (825, (.invokevirtual 133, 828, 141, 8)), (828, (.istore 7, 830, 7, 0)), (830, (.aload_n 2, 831, 2, 0)), (831, (.invokevirtual 79, 834, 96, 8)), (834, (.iload 6, 836, 6, 0)), (836, (.if_icmp .eq 5, 839, 841, 0)), (839, (.iconst 0, 840, 0, 0)), (840, (.ireturn, 841, 0, 0)), (841, (.iload 6, 843, 6, 0)), (843, (.ifCond .ne 15, 846, 858, 0)), (846, (.aload_n 3, 847, 3, 0)), (847, (.iconst 0, 848, 0, 0)), (848, (.laload, 849, 0, 0)), (849, (.iload 7, 851, 7, 0)), (851, (.i2l, 852, 0, 0))]
def xm_l27_20 : List (Nat × am_R) := [(852, (.lcmp, 853, 0, 0)), (853, (.ifCond .eq 5, 856, 858, 0)), (856, (.iconst 0, 857, 0, 0)), (857, (.ireturn, 858, 0, 0)), (858, (.goto 530, 861, 1388, 0)), (861, (.aload_n 1, 862, 1, 0)), (862, (.invokevirtual 134, 865, 76, 7)), (865, (.aload_n 2, 866, 2, 0)), (866, (.invokevirtual 137, 869, 142, 8)), (869, (.if_icmp .eq 519, 872, 1388, 0)), (872, (.iconst 0, 873, 0, 0)), (873, (.ireturn, 874, 0, 0)), (874, (.aload_n 1, 875, 1, 0)), (875, (.aload_n 0, 876, 0, 0)), (876, (.iload 5, 878, 5, 0)), (878, (.iconst 1, 879, 1, 0)), (879, (.iadd, 880, 0, 0)), (880, (.iaload, 881, 0, 0)), (881, (.aload_n 0, 882, 0, 0)), (882, (.iload 5, 884, 5, 0)), (884, (.iconst 2, 885, 2, 0)), (885, (.iadd, 886, 0, 0)), (886, (.iaload, 887, 0, 0)), (887, (.aload_n 3, 888, 3, 0))]
def xm_l27_21 : List (Nat × am_R) := [(888, (.monitorexit, 891, 22, 0)), (891, (.istore 6, 893, 6, 0)), (893, (.aload_n 2, 894, 2, 0)), (894, (.aload_n 0, 895, 0, 0)), (895, (.iload 5, 897, 5, 0)), (897, (.iconst 1, 898, 1, 0)), (898, (.iadd, 899, 0, 0)), (899, (.iaload, 900, 0, 0)), (900, (.aload_n 0, 901, 0, 0)), (901, (.iload 5, 903, 5, 0)), (903, (.iconst 2, 904, 2, 0)), (904, (.iadd, 905, 0, 0)), (905, (.iaload, 906, 0, 0)), (906, (.invokevirtual 141, 909, 143, 8)), (909, (.istore 7, 911, 7, 0)), (911, (.aload_n 2, 912, 2, 0)), (912, (.invokevirtual 79, 915, 96, 8)), (915, (.iload 6, 917, 6, 0)), (917, (.if_icmp .eq 5, 920, 922, 0)), (920, (.iconst 0, 921, 0, 0)), (921, (.ireturn, 922, 0, 0)), (922, (.iload 6, 924, 6, 0)), (924, (.ifCond .ne 15, 927, 939, 0)), (927, (.aload_n 3, 928, 3, 0))]
def xm_l27_22 : List (Nat × am_R) := [(928, (.iconst 0, 929, 0, 0)), (929, (.laload, 930, 0, 0)), (930, (.iload 7, 932, 7, 0)), (932, (.i2l, 933, 0, 0)), (933, (.lcmp, 934, 0, 0)), (934, (.ifCond .eq 5, 937, 939, 0)), (937, (.iconst 0, 938, 0, 0)), (938, (.ireturn, 939, 0, 0)), (939, (.goto 449, 942, 1388, 0)), (942, (.aload_n 1, 943, 1, 0)), (943, (.aload_n 0, 944, 0, 0)), (944, (.iload 5, 946, 5, 0)), (946, (.iconst 1, 947, 1, 0)), (947, (.iadd, 948, 0, 0)), (948, (.iaload, 949, 0, 0)), (949, (.aload_n 0, 950, 0, 0)), (950, (.iload 5, 952, 5, 0)), (952, (.iconst 2, 953, 2, 0)), (953, (.iadd, 954, 0, 0)), (954, (.iaload, 955, 0, 0)), (955, (.aload_n 0, 956, 0, 0)), (956, (.iload 5, 958, 5, 0)), (958, (.iconst 3, 959, 3, 0)), (959, (.iadd, 960, 0, 0))]
def xm_l27_23 : List (Nat × am_R) := [(960, (.iaload, 961, 0, 0)), (961, (.aload_n 3, 962, 3, 0)), (962, (.monitorexit, 965, 23, 0)), (965, (.istore 6, 967, 6, 0)), (967, (.aload_n 2, 968, 2, 0)), (968, (.aload_n 0, 969, 0, 0)), (969, (.iload 5, 971, 5, 0)), (971, (.iconst 1, 972, 1, 0)), (972, (.iadd, 973, 0, 0)), (973, (.iaload, 974, 0, 0)), (974, (.aload_n 0, 975, 0, 0)), (975, (.iload 5, 977, 5, 0)), (977, (.iconst 2, 978, 2, 0)), (978, (.iadd, 979, 0, 0)), (979, (.iaload, 980, 0, 0)), (980, (.aload_n 0, 981, 0, 0)), (981, (.iload 5, 983, 5, 0)), (983, (.iconst 3, 984, 3, 0)), (984, (.iadd, 985, 0, 0)), (985, (.iaload, 986, 0, 0)), (986, (.invokevirtual 145, 989, 144, 8)), (989, (.istore 7, 991, 7, 0)), (991, (.aload_n 2, 992, 2, 0)), (992, (.invokevirtual 79, 995, 96, 8))]
def xm_l27_24 : List (Nat × am_R) := [(995, (.iload 6, 997, 6, 0)), (997, (.if_icmp .eq 5, 1000, 1002, 0)), (1000, (.iconst 0, 1001, 0, 0)), (1001, (.ireturn, 1002, 0, 0)), (1002, (.iload 6, 1004, 6, 0)), (1004, (.ifCond .ne 22, 1007, 1026, 0)), (1007, (.aload_n 3, 1008, 3, 0)), (1008, (.iconst 0, 1009, 0, 0)), (1009, (.laload, 1010, 0, 0)), (1010, (.iload 7, 1012, 7, 0)), (1012, (.ifCond .eq 7, 1015, 1019, 0)), (1015, (.lconst 1, 1016, 1, 0)), (1016, (.goto 4, 1019, 1020, 0)), (1019, (.lconst 0, 1020, 0, 0)), (1020, (.lcmp, 1021, 0, 0)), (1021, (.ifCond .eq 5, 1024, 1026, 0)), (1024, (.iconst 0, 1025, 0, 0)), (1025, (.ireturn, 1026, 0, 0)), (1026, (.goto 362, 1029, 1388, 0)), (1029, (.aload_n 1, 1030, 1, 0)), (1030, (.aload_n 0, 1031, 0, 0)), (1031, (.iload 5, 1033, 5, 0)), (1033, (.iconst 1, 1034, 1, 0)), (1034, (.iadd, 1035, 0, 0))]
def xm_l27_25 : List (Nat × am_R) := [(1035, (.iaload, 1036, 0, 0)), (1036, (.aload_n 0, 1037, 0, 0)), (1037, (.iload 5, 1039, 5, 0)), (1039, (.iconst 2, 1040, 2, 0)), (1040, (.iadd, 1041, 0, 0)), (1041, (.iaload, 1042, 0, 0)), (1042, (.aload_n 0, 1043, 0, 0)), (1043, (.iload 5, 1045, 5, 0)), (1045, (.iconst 3, 1046, 3, 0)), (1046, (.iadd, 1047, 0, 0)), (1047, (.iaload, 1048, 0, 0)), (1048, (.aload_n 3, 1049, 3, 0)), (1049, (.monitorexit, 1052, 24, 0)), (1052, (.istore 6, 1054, 6, 0)), (1054, (.aload_n 2, 1055, 2, 0)), (1055, (.aload_n 0, 1056, 0, 0)), (1056, (.iload 5, 1058, 5, 0)), (1058, (.iconst 1, 1059, 1, 0)), (1059, (.iadd, 1060, 0, 0)), (1060, (.iaload, 1061, 0, 0)), (1061, (.aload_n 0, 1062, 0, 0)), (1062, (.iload 5, 1064, 5, 0)), (1064, (.iconst 2, 1065, 2, 0)), (1065, (.iadd, 1066, 0, 0))]
def xm_l27_26 : List (Nat × am_R) := [(1066, (.iaload, 1067, 0, 0)), (1067, (.aload_n 0, 1068, 0, 0)), (1068, (.iload 5, 1070, 5, 0)), (1070, (.iconst 3, 1071, 3, 0)), (1071, (.iadd, 1072, 0, 0)), (1072, (.iaload, 1073, 0, 0)), (1073, (.invokevirtual 148, 1076, 145, 8)), (1076, (.istore 7, 1078, 7, 0)), (1078, (.aload_n 2, 1079, 2, 0)), (1079, (.invokevirtual 79, 1082, 96, 8)), (1082, (.iload 6, 1084, 6, 0)), (1084, (.if_icmp .eq 5, 1087, 1089, 0)), (1087, (.iconst 0, 1088, 0, 0)), (1088, (.ireturn, 1089, 0, 0)), (1089, (.iload 6, 1091, 6, 0)), (1091, (.ifCond .ne 22, 1094, 1113, 0)), (1094, (.aload_n 3, 1095, 3, 0)), (1095, (.iconst 0, 1096, 0, 0)), (1096, (.laload, 1097, 0, 0)), (1097, (.iload 7, 1099, 7, 0)), (1099, (.ifCond .eq 7, 1102, 1106, 0)), (1102, (.lconst 1, 1103, 1, 0)), (1103, (.goto 4, 1106, 1107, 0)), (1106, (.lconst 0, 1107, 0, 0))]
def xm_l27_27 : List (Nat × am_R) := [(1107, (.lcmp, 1108, 0, 0)), (1108, (.ifCond .eq 5, 1111, 1113, 0)), (1111, (.iconst 0, 1112, 0, 0)), (1112, (.ireturn, 1113, 0, 0)), (1113, (.goto 275, 1116, 1388, 0)), (1116, (.aload_n 1, 1117, 1, 0)), (1117, (.invokevirtual 149, 1120, 77, 7)), (1120, (.aload_n 2, 1121, 2, 0)), (1121, (.invokevirtual 152, 1124, 147, 8)), (1124, (.if_icmp .eq 264, 1127, 1388, 0)), (1127, (.iconst 0, 1128, 0, 0)), (1128, (.ireturn, 1129, 0, 0)), (1129, (.aload_n 1, 1130, 1, 0)), (1130, (.aload_n 0, 1131, 0, 0)), (1131, (.iload 5, 1133, 5, 0)), (1133, (.iconst 1, 1134, 1, 0)), (1134, (.iadd, 1135, 0, 0)), (1135, (.iaload, 1136, 0, 0)), (1136, (.aload_n 0, 1137, 0, 0)), (1137, (.iload 5, 1139, 5, 0)), (1139, (.iconst 2, 1140, 2, 0)), (1140, (.iadd, 1141, 0, 0)), (1141, (.iaload, 1142, 0, 0)), (1142, (.aload_n 3, 1143, 3, 0))]
def xm_l27_28 : List (Nat × am_R) := [(1143, (.monitorexit, 1146, 25, 0)), (1146, (.istore 6, 1148, 6, 0)), (1148, (.aload_n 2, 1149, 2, 0)), (1149, (.aload_n 0, 1150, 0, 0)), (1150, (.iload 5, 1152, 5, 0)), (1152, (.iconst 1, 1153, 1, 0)), (1153, (.iadd, 1154, 0, 0)), (1154, (.iaload, 1155, 0, 0)), (1155, (.aload_n 0, 1156, 0, 0)), (1156, (.iload 5, 1158, 5, 0)), (1158, (.iconst 2, 1159, 2, 0)), (1159, (.iadd, 1160, 0, 0)), (1160, (.iaload, 1161, 0, 0)), (1161, (.invokevirtual 155, 1164, 148, 8)), (1164, (.istore 7, 1166, 7, 0)), (1166, (.aload_n 2, 1167, 2, 0)), (1167, (.invokevirtual 79, 1170, 96, 8)), (1170, (.iload 6, 1172, 6, 0)), (1172, (.if_icmp .eq 5, 1175, 1177, 0)), (1175, (.iconst 0, 1176, 0, 0)), (1176, (.ireturn, 1177, 0, 0)), (1177, (.iload 6, 1179, 6, 0)), (1179, (.ifCond .ne 15, 1182, 1194, 0)), (1182, (.aload_n 3, 1183, 3, 0))]
def xm_l27_29 : List (Nat × am_R) := [(1183, (.iconst 0, 1184, 0, 0)), (1184, (.laload, 1185, 0, 0)), (1185, (.iload 7, 1187, 7, 0)), (1187, (.i2l, 1188, 0, 0)), (1188, (.lcmp, 1189, 0, 0)), (1189, (.ifCond .eq 5, 1192, 1194, 0)), (1192, (.iconst 0, 1193, 0, 0)), (1193, (.ireturn, 1194, 0, 0)), (1194, (.goto 194, 1197, 1388, 0)), (1197, (.aload_n 1, 1198, 1, 0)), (1198, (.invokevirtual 156, 1201, 78, 7)), (1201, (.aload_n 2, 1202, 2, 0)), (1202, (.invokevirtual 160, 1205, 149, 8)), (1205, (.lcmp, 1206, 0, 0)), (1206, (.ifCond .eq 182, 1209, 1388, 0)), (1209, (.iconst 0, 1210, 0, 0)), (1210, (.ireturn, 1211, 0, 0)), (1211, (.aload_n 1, 1212, 1, 0)), (1212, (.invokevirtual 161, 1215, 79, 7)), (1215, (.f2d, 1216, 0, 0)), (1216, (.dstore 6, 1218, 6, 0)), (1218, (.aload_n 2, 1219, 2, 0)), (1219, (.invokevirtual 165, 1222, 150, 8)), (1222, (.f2d, 1223, 0, 0))]
def xm_l27_30 : List (Nat × am_R) := [(1223, (.dstore 8, 1225, 8, 0)), (1225, (.dload 6, 1227, 6, 0)), (1227, (.dload 8, 1229, 8, 0)), (1229, (.dcmp .l, 1230, 0, 0)), (1230, (.ifCond .eq 21, 1233, 1251, 0)), (1233, (.dload 6, 1235, 6, 0)), (1235, (.dload 6, 1237, 6, 0)), (1237, (.dcmp .l, 1238, 0, 0)), (1238, (.ifCond .eq 11, 1241, 1249, 0)), (1241, (.dload 8, 1243, 8, 0)), (1243, (.dload 8, 1245, 8, 0)), (1245, (.dcmp .l, 1246, 0, 0)), (1246, (.ifCond .ne 5, 1249, 1251, 0)), (1249, (.iconst 0, 1250, 0, 0)), (1250, (.ireturn, 1251, 0, 0)), (1251, (.goto 137, 1254, 1388, 0)), (1254, (.aload_n 1, 1255, 1, 0)), (1255, (.invokevirtual 166, 1258, 80, 7)), (1258, (.aload_n 2, 1259, 2, 0)), (1259, (.invokevirtual 169, 1262, 151, 8)), (1262, (.if_icmp .eq 126, 1265, 1388, 0)), (1265, (.iconst 0, 1266, 0, 0)), (1266, (.ireturn, 1267, 0, 0)), (1267, (.aload_n 1, 1268, 1, 0))]
def xm_l27_31 : List (Nat × am_R) := [(1268, (.aload 4, 1270, 4, 0)), (1270, (.monitorexit, 1273, 26, 0)), (1273, (.istore 6, 1275, 6, 0)), (1275, (.aload_n 2, 1276, 2, 0)), (1276, (.invokevirtual 173, 1279, 152, 8)), (1279, (.dstore 7, 1281, 7, 0)), (1281, (.aload_n 2, 1282, 2, 0)), (1282, (.invokevirtual 79, 1285, 96, 8)), (1285, (.iload 6, 1287, 6, 0)), (1287, (.if_icmp .eq 5, 1290, 1292, 0)), (1290, (.iconst 0, 1291, 0, 0)), (1291, (.ireturn, 1292, 0, 0)), (1292, (.iload 6, 1294, 6, 0)), (1294, (.ifCond .ne 35, 1297, 1329, 0)), (1297, (.aload 4, 1299, 4, 0)), (1299, (.iconst 0, 1300, 0, 0)), (1300, (.daload, 1301, 0, 0)), (1301, (.dload 7, 1303, 7, 0)), (1303, (.dcmp .l, 1304, 0, 0)), (1304, (.ifCond .eq 25, 1307, 1329, 0)), (1307, (.aload 4, 1309, 4, 0)), (1309, (.iconst 0, 1310, 0, 0)), (1310, (.daload, 1311, 0, 0)), (1311, (.aload 4, 1313, 4, 0))]
def xm_l27_32 : List (Nat × am_R) := [(1313, (.iconst 0, 1314, 0, 0)), (1314, (.daload, 1315, 0, 0)), (1315, (.dcmp .l, 1316, 0, 0)), (1316, (.ifCond .eq 11, 1319, 1327, 0)), (1319, (.dload 7, 1321, 7, 0)), (1321, (.dload 7, 1323, 7, 0)), (1323, (.dcmp .l, 1324, 0, 0)), (1324, (.ifCond .ne 5, 1327, 1329, 0)), (1327, (.iconst 0, 1328, 0, 0)), (1328, (.ireturn, 1329, 0, 0)), (1329, (.goto 59, 1332, 1388, 0)), (1332, (.aload_n 1, 1333, 1, 0)), (1333, (.invokevirtual 174, 1336, 81, 7)), (1336, (.f2d, 1337, 0, 0)), (1337, (.dstore 6, 1339, 6, 0)), (1339, (.aload_n 2, 1340, 2, 0)), (1340, (.invokevirtual 177, 1343, 153, 8)), (1343, (.f2d, 1344, 0, 0)), (1344, (.dstore 8, 1346, 8, 0)), (1346, (.dload 6, 1348, 6, 0)), (1348, (.dload 8, 1350, 8, 0)), (1350, (.dcmp .l, 1351, 0, 0)), (1351, (.ifCond .eq 21, 1354, 1372, 0)), (1354, (.dload 6, 1356, 6, 0))]
def xm_l27_33 : List (Nat × am_R) := [(1356, (.dload 6, 1358, 6, 0)), (1358, (.dcmp .l, 1359, 0, 0)), (1359, (.ifCond .eq 11, 1362, 1370, 0)), (1362, (.dload 8, 1364, 8, 0)), (1364, (.dload 8, 1366, 8, 0)), (1366, (.dcmp .l, 1367, 0, 0)), (1367, (.ifCond .ne 5, 1370, 1372, 0)), (1370, (.iconst 0, 1371, 0, 0)), (1371, (.ireturn, 1372, 0, 0)), (1372, (.goto 16, 1375, 1388, 0)), (1375, (.aload_n 1, 1376, 1, 0)), (1376, (.invokevirtual 178, 1379, 82, 7)), (1379, (.aload_n 2, 1380, 2, 0)), (1380, (.invokevirtual 181, 1383, 154, 8)), (1383, (.if_icmp .eq 5, 1386, 1388, 0)), (1386, (.iconst 0, 1387, 0, 0)), (1387, (.ireturn, 1388, 0, 0)), (1388, (.iinc 5 6, 1391, 5, 6)), (1391, (.goto (-1363), 1394, 28, 0)), (1394, (.iconst 1, 1395, 1, 0)), (1395, (.ireturn, 1396, 0, 0))]
def xm_t27 : Nat → am_R := fun pc => am_lc [(40, xm_l27_0), (188, xm_l27_1), (219, xm_l27_2), (256, xm_l27_3), (288, xm_l27_4), (322, xm_l27_5), (361, xm_l27_6), (398, xm_l27_7), (429, xm_l27_8), (466, xm_l27_9), (498, xm_l27_10), (529, xm_l27_11), (568, xm_l27_12), (611, xm_l27_13), (648, xm_l27_14), (690, xm_l27_15), (736, xm_l27_16), (773, xm_l27_17), (812, xm_l27_18), (852, xm_l27_19), (888, xm_l27_20), (928, xm_l27_21), (960, xm_l27_22), (993, xm_l27_23), (1035, xm_l27_24), (1066, xm_l27_25), (1107, xm_l27_26), (1143, xm_l27_27), (1183, xm_l27_28), (1223, xm_l27_29), (1268, xm_l27_30), (1312, xm_l27_31), (1355, xm_l27_32), (1396, xm_l27_33)] pc
def xm_m27 : xm_M := ((yL_law, cL_law, 10, some .boolean, xm_t27, 1, 3145, 123673), [], [])
def xm_g0 : List xm_M := [xm_m0, xm_m1, xm_m2, xm_m3, xm_m4, xm_m5, xm_m6, xm_m7, xm_m8, xm_m9, xm_m10, xm_m11, xm_m12, xm_m13]
def xm_g1 : List xm_M := [xm_m14, xm_m15, xm_m16, xm_m17, xm_m18, xm_m19, xm_m20, xm_m21, xm_m22, xm_m23, xm_m24, xm_m25, xm_m26, xm_m27]
def xm_G (k : Nat) : xm_M := cond (Nat.blt k 14) ((am_nth xm_g0 k).getD xm_m0) ((am_nth xm_g1 (k - 14)).getD xm_m0)
abbrev xm_nX : Nat := 27
def xm_xn : List Jvm.Cond := [(Jvm.Cond.declares ({ cls := "java/lang/RuntimeException", name := "<init>", desc := "(Ljava/lang/String;)V" } : Jvm.MethodName)), (Jvm.Cond.declares ({ cls := "java/lang/Exception", name := "<init>", desc := "(Ljava/lang/String;)V" } : Jvm.MethodName)), (Jvm.Cond.declares ({ cls := "java/lang/Throwable", name := "<init>", desc := "(Ljava/lang/String;)V" } : Jvm.MethodName)), (Jvm.Cond.castable "java/lang/IndexOutOfBoundsException" "java/lang/IndexOutOfBoundsException"), (Jvm.Cond.castable "java/lang/IllegalArgumentException" "java/lang/IllegalArgumentException"), (Jvm.Cond.castable "java/lang/UnsupportedOperationException" "java/lang/UnsupportedOperationException"), (Jvm.Cond.castable "java/lang/IllegalStateException" "java/lang/IllegalStateException"), (Jvm.Cond.castable "java/util/NoSuchElementException" "java/util/NoSuchElementException"), (Jvm.Cond.castable "java/lang/ArithmeticException" "java/lang/ArithmeticException")]
def xm_xnc : List (String × String) := [("java/lang/UnsupportedOperationException", "java/lang/IndexOutOfBoundsException"), ("java/lang/UnsupportedOperationException", "java/lang/IllegalArgumentException"), ("java/lang/IllegalArgumentException", "java/lang/IndexOutOfBoundsException"), ("java/lang/IllegalStateException", "java/lang/IllegalArgumentException"), ("java/util/NoSuchElementException", "java/lang/IndexOutOfBoundsException")]
def xm_strs : List (String × Nat × String) := [("ToolrestMill", 238, "there is no such cell"), ("ToolrestMill", 38, "there is no such rack or place"), ("ToolrestMill", 49, "there is no such shape"), ("ToolrestMill", 56, "the radius or the life is out of range"), ("ToolrestMill", 64, "the rack does not take this shape"), ("ToolrestMill", 108, "a number is out of range"), ("ToolrestMill", 120, "there is no such kind or term"), ("ToolrestMill", 134, "the program is full"), ("ToolrestMill", 141, "there are no blocks"), ("ToolrestMill", 150, "the number of blocks is out of range"), ("ToolrestMill", 152, "the program is not closed"), ("ToolrestMill", 170, "there is no such variable"), ("ToolrestMill", 175, "there is no such axis"), ("ToolrestMill", 188, "no cutter is there"), ("ToolrestMill", 218, "there are no cutters")]
abbrev xm_Run : Nat → xm_C := xm_Ex am_G am_ro am_ft am_df xm_G
theorem u0_0 : (xm_G 0).1.2.2.2.2.1 0 = (.iload_n 0, 1, 0, 0) := rfl
theorem u0_1 : (xm_G 0).1.2.2.2.2.1 1 = (.iload_n 1, 2, 1, 0) := rfl
theorem u0_2 : (xm_G 0).1.2.2.2.2.1 2 = (.iload_n 2, 3, 2, 0) := rfl
theorem u0_3 : (xm_G 0).1.2.2.2.2.1 3 = (.invokestatic 235, 6, 85, 0) := rfl
theorem u0_6 : (xm_G 0).1.2.2.2.2.1 6 = (.ifCond .ne 13, 9, 19, 0) := rfl
theorem u0_9 : (xm_G 0).1.2.2.2.2.1 9 = (.athrow, 12, 0, 0) := rfl
theorem u0_19 : (xm_G 0).1.2.2.2.2.1 19 = (.return_, 20, 0, 0) := rfl
theorem u1_0 : (xm_G 1).1.2.2.2.2.1 0 = (.iload_n 1, 1, 1, 0) := rfl
theorem u1_1 : (xm_G 1).1.2.2.2.2.1 1 = (.iload_n 2, 2, 2, 0) := rfl
theorem u1_2 : (xm_G 1).1.2.2.2.2.1 2 = (.invokestatic 32, 5, 87, 0) := rfl
theorem u1_5 : (xm_G 1).1.2.2.2.2.1 5 = (.ifCond .ne 13, 8, 18, 0) := rfl
theorem u1_8 : (xm_G 1).1.2.2.2.2.1 8 = (.athrow, 11, 0, 0) := rfl
theorem u1_18 : (xm_G 1).1.2.2.2.2.1 18 = (.iload_n 3, 19, 3, 0) := rfl
theorem u1_19 : (xm_G 1).1.2.2.2.2.1 19 = (.invokestatic 43, 22, 89, 0) := rfl
theorem u1_22 : (xm_G 1).1.2.2.2.2.1 22 = (.ifCond .ne 13, 25, 35, 0) := rfl
theorem u1_25 : (xm_G 1).1.2.2.2.2.1 25 = (.athrow, 28, 1, 0) := rfl
theorem u1_35 : (xm_G 1).1.2.2.2.2.1 35 = (.iload 4, 37, 4, 0) := rfl
theorem u1_37 : (xm_G 1).1.2.2.2.2.1 37 = (.iconst 0, 38, 0, 0) := rfl
theorem u1_38 : (xm_G 1).1.2.2.2.2.1 38 = (.iconst 3, 39, 3, 0) := rfl
theorem u1_39 : (xm_G 1).1.2.2.2.2.1 39 = (.invokestatic 52, 42, 84, 0) := rfl
theorem u1_42 : (xm_G 1).1.2.2.2.2.1 42 = (.ifCond .eq 15, 45, 57, 0) := rfl
theorem u1_45 : (xm_G 1).1.2.2.2.2.1 45 = (.iload 5, 47, 5, 0) := rfl
theorem u1_47 : (xm_G 1).1.2.2.2.2.1 47 = (.iconst 1, 48, 1, 0) := rfl
theorem u1_48 : (xm_G 1).1.2.2.2.2.1 48 = (.sipush 999, 51, 999, 0) := rfl
theorem u1_51 : (xm_G 1).1.2.2.2.2.1 51 = (.invokestatic 52, 54, 84, 0) := rfl
theorem u1_54 : (xm_G 1).1.2.2.2.2.1 54 = (.ifCond .ne 13, 57, 67, 0) := rfl
theorem u1_57 : (xm_G 1).1.2.2.2.2.1 57 = (.athrow, 60, 1, 0) := rfl
theorem u1_67 : (xm_G 1).1.2.2.2.2.1 67 = (.iload_n 1, 68, 1, 0) := rfl
theorem u1_68 : (xm_G 1).1.2.2.2.2.1 68 = (.iload_n 3, 69, 3, 0) := rfl
theorem u1_69 : (xm_G 1).1.2.2.2.2.1 69 = (.invokestatic 58, 72, 90, 0) := rfl
theorem u1_72 : (xm_G 1).1.2.2.2.2.1 72 = (.ifCond .ne 13, 75, 85, 0) := rfl
theorem u1_75 : (xm_G 1).1.2.2.2.2.1 75 = (.athrow, 78, 2, 0) := rfl
theorem u1_85 : (xm_G 1).1.2.2.2.2.1 85 = (.aload_n 0, 86, 0, 0) := rfl
theorem u1_86 : (xm_G 1).1.2.2.2.2.1 86 = (.getfield 12, 89, 7, 0) := rfl
theorem u1_89 : (xm_G 1).1.2.2.2.2.1 89 = (.getfield 67, 92, 2, 0) := rfl
theorem u1_92 : (xm_G 1).1.2.2.2.2.1 92 = (.iload_n 1, 93, 1, 0) := rfl
theorem u1_93 : (xm_G 1).1.2.2.2.2.1 93 = (.iload_n 2, 94, 2, 0) := rfl
theorem u1_94 : (xm_G 1).1.2.2.2.2.1 94 = (.invokestatic 71, 97, 88, 0) := rfl
theorem u1_97 : (xm_G 1).1.2.2.2.2.1 97 = (.iload_n 3, 98, 3, 0) := rfl
theorem u1_98 : (xm_G 1).1.2.2.2.2.1 98 = (.iload 4, 100, 4, 0) := rfl
theorem u1_100 : (xm_G 1).1.2.2.2.2.1 100 = (.iload 5, 102, 5, 0) := rfl
theorem u1_102 : (xm_G 1).1.2.2.2.2.1 102 = (.invokevirtual 75, 105, 57, 5) := rfl
theorem u1_105 : (xm_G 1).1.2.2.2.2.1 105 = (.aload_n 0, 106, 0, 0) := rfl
theorem u1_106 : (xm_G 1).1.2.2.2.2.1 106 = (.invokevirtual 81, 109, 83, 7) := rfl
theorem u1_109 : (xm_G 1).1.2.2.2.2.1 109 = (.aload_n 0, 110, 0, 0) := rfl
theorem u1_110 : (xm_G 1).1.2.2.2.2.1 110 = (.getfield 12, 113, 7, 0) := rfl
theorem u1_113 : (xm_G 1).1.2.2.2.2.1 113 = (.getfield 67, 116, 2, 0) := rfl
theorem u1_116 : (xm_G 1).1.2.2.2.2.1 116 = (.iload_n 1, 117, 1, 0) := rfl
theorem u1_117 : (xm_G 1).1.2.2.2.2.1 117 = (.iconst 0, 118, 0, 0) := rfl
theorem u1_118 : (xm_G 1).1.2.2.2.2.1 118 = (.invokestatic 71, 121, 88, 0) := rfl
theorem u1_121 : (xm_G 1).1.2.2.2.2.1 121 = (.iconst 4, 122, 4, 0) := rfl
theorem u1_122 : (xm_G 1).1.2.2.2.2.1 122 = (.invokevirtual 84, 125, 59, 5) := rfl
theorem u1_125 : (xm_G 1).1.2.2.2.2.1 125 = (.ireturn, 126, 0, 0) := rfl
theorem u2_0 : (xm_G 2).1.2.2.2.2.1 0 = (.iload_n 1, 1, 1, 0) := rfl
theorem u2_1 : (xm_G 2).1.2.2.2.2.1 1 = (.iload_n 2, 2, 2, 0) := rfl
theorem u2_2 : (xm_G 2).1.2.2.2.2.1 2 = (.iload_n 3, 3, 3, 0) := rfl
theorem u2_3 : (xm_G 2).1.2.2.2.2.1 3 = (.monitorexit, 6, 0, 0) := rfl
theorem u2_6 : (xm_G 2).1.2.2.2.2.1 6 = (.aload_n 0, 7, 0, 0) := rfl
theorem u2_7 : (xm_G 2).1.2.2.2.2.1 7 = (.getfield 12, 10, 7, 0) := rfl
theorem u2_10 : (xm_G 2).1.2.2.2.2.1 10 = (.getfield 91, 13, 2, 1) := rfl
theorem u2_13 : (xm_G 2).1.2.2.2.2.1 13 = (.iload_n 1, 14, 1, 0) := rfl
theorem u2_14 : (xm_G 2).1.2.2.2.2.1 14 = (.iload_n 2, 15, 2, 0) := rfl
theorem u2_15 : (xm_G 2).1.2.2.2.2.1 15 = (.iload_n 3, 16, 3, 0) := rfl
theorem u2_16 : (xm_G 2).1.2.2.2.2.1 16 = (.invokevirtual 95, 19, 2, 0) := rfl
theorem u2_19 : (xm_G 2).1.2.2.2.2.1 19 = (.istore 5, 21, 5, 0) := rfl
theorem u2_21 : (xm_G 2).1.2.2.2.2.1 21 = (.aload_n 0, 22, 0, 0) := rfl
theorem u2_22 : (xm_G 2).1.2.2.2.2.1 22 = (.getfield 12, 25, 7, 0) := rfl
theorem u2_25 : (xm_G 2).1.2.2.2.2.1 25 = (.getfield 91, 28, 2, 1) := rfl
theorem u2_28 : (xm_G 2).1.2.2.2.2.1 28 = (.iload_n 1, 29, 1, 0) := rfl
theorem u2_29 : (xm_G 2).1.2.2.2.2.1 29 = (.iload_n 2, 30, 2, 0) := rfl
theorem u2_30 : (xm_G 2).1.2.2.2.2.1 30 = (.iload_n 3, 31, 3, 0) := rfl
theorem u2_31 : (xm_G 2).1.2.2.2.2.1 31 = (.iload 4, 33, 4, 0) := rfl
theorem u2_33 : (xm_G 2).1.2.2.2.2.1 33 = (.invokevirtual 100, 36, 3, 0) := rfl
theorem u2_36 : (xm_G 2).1.2.2.2.2.1 36 = (.aload_n 0, 37, 0, 0) := rfl
theorem u2_37 : (xm_G 2).1.2.2.2.2.1 37 = (.invokevirtual 81, 40, 83, 7) := rfl
theorem u2_40 : (xm_G 2).1.2.2.2.2.1 40 = (.iload 5, 42, 5, 0) := rfl
theorem u2_42 : (xm_G 2).1.2.2.2.2.1 42 = (.ireturn, 43, 0, 0) := rfl
theorem u3_0 : (xm_G 3).1.2.2.2.2.1 0 = (.iload_n 1, 1, 1, 0) := rfl
theorem u3_1 : (xm_G 3).1.2.2.2.2.1 1 = (.iconst 0, 2, 0, 0) := rfl
theorem u3_2 : (xm_G 3).1.2.2.2.2.1 2 = (.iconst 3, 3, 3, 0) := rfl
theorem u3_3 : (xm_G 3).1.2.2.2.2.1 3 = (.invokestatic 52, 6, 84, 0) := rfl
theorem u3_6 : (xm_G 3).1.2.2.2.2.1 6 = (.ifCond .eq 25, 9, 31, 0) := rfl
theorem u3_9 : (xm_G 3).1.2.2.2.2.1 9 = (.iload_n 2, 10, 2, 0) := rfl
theorem u3_10 : (xm_G 3).1.2.2.2.2.1 10 = (.invokestatic 104, 13, 91, 0) := rfl
theorem u3_13 : (xm_G 3).1.2.2.2.2.1 13 = (.ifCond .eq 18, 16, 31, 0) := rfl
theorem u3_16 : (xm_G 3).1.2.2.2.2.1 16 = (.iload_n 3, 17, 3, 0) := rfl
theorem u3_17 : (xm_G 3).1.2.2.2.2.1 17 = (.invokestatic 104, 20, 91, 0) := rfl
theorem u3_20 : (xm_G 3).1.2.2.2.2.1 20 = (.ifCond .eq 11, 23, 31, 0) := rfl
theorem u3_23 : (xm_G 3).1.2.2.2.2.1 23 = (.iload 4, 25, 4, 0) := rfl
theorem u3_25 : (xm_G 3).1.2.2.2.2.1 25 = (.invokestatic 104, 28, 91, 0) := rfl
theorem u3_28 : (xm_G 3).1.2.2.2.2.1 28 = (.ifCond .ne 13, 31, 41, 0) := rfl
theorem u3_31 : (xm_G 3).1.2.2.2.2.1 31 = (.athrow, 34, 1, 0) := rfl
theorem u3_41 : (xm_G 3).1.2.2.2.2.1 41 = (.aload_n 0, 42, 0, 0) := rfl
theorem u3_42 : (xm_G 3).1.2.2.2.2.1 42 = (.getfield 12, 45, 7, 0) := rfl
theorem u3_45 : (xm_G 3).1.2.2.2.2.1 45 = (.getfield 110, 48, 2, 2) := rfl
theorem u3_48 : (xm_G 3).1.2.2.2.2.1 48 = (.iload_n 1, 49, 1, 0) := rfl
theorem u3_49 : (xm_G 3).1.2.2.2.2.1 49 = (.iconst 3, 50, 3, 0) := rfl
theorem u3_50 : (xm_G 3).1.2.2.2.2.1 50 = (.imul, 51, 0, 0) := rfl
theorem u3_51 : (xm_G 3).1.2.2.2.2.1 51 = (.iaload, 52, 0, 0) := rfl
theorem u3_52 : (xm_G 3).1.2.2.2.2.1 52 = (.istore 5, 54, 5, 0) := rfl
theorem u3_54 : (xm_G 3).1.2.2.2.2.1 54 = (.aload_n 0, 55, 0, 0) := rfl
theorem u3_55 : (xm_G 3).1.2.2.2.2.1 55 = (.getfield 12, 58, 7, 0) := rfl
theorem u3_58 : (xm_G 3).1.2.2.2.2.1 58 = (.getfield 110, 61, 2, 2) := rfl
theorem u3_61 : (xm_G 3).1.2.2.2.2.1 61 = (.iload_n 1, 62, 1, 0) := rfl
theorem u3_62 : (xm_G 3).1.2.2.2.2.1 62 = (.iconst 3, 63, 3, 0) := rfl
theorem u3_63 : (xm_G 3).1.2.2.2.2.1 63 = (.imul, 64, 0, 0) := rfl
theorem u3_64 : (xm_G 3).1.2.2.2.2.1 64 = (.iload_n 2, 65, 2, 0) := rfl
theorem u3_65 : (xm_G 3).1.2.2.2.2.1 65 = (.iastore, 66, 0, 0) := rfl
theorem u3_66 : (xm_G 3).1.2.2.2.2.1 66 = (.aload_n 0, 67, 0, 0) := rfl
theorem u3_67 : (xm_G 3).1.2.2.2.2.1 67 = (.getfield 12, 70, 7, 0) := rfl
theorem u3_70 : (xm_G 3).1.2.2.2.2.1 70 = (.getfield 110, 73, 2, 2) := rfl
theorem u3_73 : (xm_G 3).1.2.2.2.2.1 73 = (.iload_n 1, 74, 1, 0) := rfl
theorem u3_74 : (xm_G 3).1.2.2.2.2.1 74 = (.iconst 3, 75, 3, 0) := rfl
theorem u3_75 : (xm_G 3).1.2.2.2.2.1 75 = (.imul, 76, 0, 0) := rfl
theorem u3_76 : (xm_G 3).1.2.2.2.2.1 76 = (.iconst 1, 77, 1, 0) := rfl
theorem u3_77 : (xm_G 3).1.2.2.2.2.1 77 = (.iadd, 78, 0, 0) := rfl
theorem u3_78 : (xm_G 3).1.2.2.2.2.1 78 = (.iload_n 3, 79, 3, 0) := rfl
theorem u3_79 : (xm_G 3).1.2.2.2.2.1 79 = (.iastore, 80, 0, 0) := rfl
theorem u3_80 : (xm_G 3).1.2.2.2.2.1 80 = (.aload_n 0, 81, 0, 0) := rfl
theorem u3_81 : (xm_G 3).1.2.2.2.2.1 81 = (.getfield 12, 84, 7, 0) := rfl
theorem u3_84 : (xm_G 3).1.2.2.2.2.1 84 = (.getfield 110, 87, 2, 2) := rfl
theorem u3_87 : (xm_G 3).1.2.2.2.2.1 87 = (.iload_n 1, 88, 1, 0) := rfl
theorem u3_88 : (xm_G 3).1.2.2.2.2.1 88 = (.iconst 3, 89, 3, 0) := rfl
theorem u3_89 : (xm_G 3).1.2.2.2.2.1 89 = (.imul, 90, 0, 0) := rfl
theorem u3_90 : (xm_G 3).1.2.2.2.2.1 90 = (.iconst 2, 91, 2, 0) := rfl
theorem u3_91 : (xm_G 3).1.2.2.2.2.1 91 = (.iadd, 92, 0, 0) := rfl
theorem u3_92 : (xm_G 3).1.2.2.2.2.1 92 = (.iload 4, 94, 4, 0) := rfl
theorem u3_94 : (xm_G 3).1.2.2.2.2.1 94 = (.iastore, 95, 0, 0) := rfl
theorem u3_95 : (xm_G 3).1.2.2.2.2.1 95 = (.aload_n 0, 96, 0, 0) := rfl
theorem u3_96 : (xm_G 3).1.2.2.2.2.1 96 = (.invokevirtual 81, 99, 83, 7) := rfl
theorem u3_99 : (xm_G 3).1.2.2.2.2.1 99 = (.iload 5, 101, 5, 0) := rfl
theorem u3_101 : (xm_G 3).1.2.2.2.2.1 101 = (.ireturn, 102, 0, 0) := rfl
theorem u4_0 : (xm_G 4).1.2.2.2.2.1 0 = (.iload_n 1, 1, 1, 0) := rfl
theorem u4_1 : (xm_G 4).1.2.2.2.2.1 1 = (.invokestatic 114, 4, 92, 0) := rfl
theorem u4_4 : (xm_G 4).1.2.2.2.2.1 4 = (.ifCond .eq 25, 7, 29, 0) := rfl
theorem u4_7 : (xm_G 4).1.2.2.2.2.1 7 = (.iload_n 2, 8, 2, 0) := rfl
theorem u4_8 : (xm_G 4).1.2.2.2.2.1 8 = (.invokestatic 117, 11, 93, 0) := rfl
theorem u4_11 : (xm_G 4).1.2.2.2.2.1 11 = (.ifCond .eq 18, 14, 29, 0) := rfl
theorem u4_14 : (xm_G 4).1.2.2.2.2.1 14 = (.iload_n 3, 15, 3, 0) := rfl
theorem u4_15 : (xm_G 4).1.2.2.2.2.1 15 = (.invokestatic 117, 18, 93, 0) := rfl
theorem u4_18 : (xm_G 4).1.2.2.2.2.1 18 = (.ifCond .eq 11, 21, 29, 0) := rfl
theorem u4_21 : (xm_G 4).1.2.2.2.2.1 21 = (.iload 4, 23, 4, 0) := rfl
theorem u4_23 : (xm_G 4).1.2.2.2.2.1 23 = (.invokestatic 117, 26, 93, 0) := rfl
theorem u4_26 : (xm_G 4).1.2.2.2.2.1 26 = (.ifCond .ne 13, 29, 39, 0) := rfl
theorem u4_29 : (xm_G 4).1.2.2.2.2.1 29 = (.athrow, 32, 1, 0) := rfl
theorem u4_39 : (xm_G 4).1.2.2.2.2.1 39 = (.aload_n 0, 40, 0, 0) := rfl
theorem u4_40 : (xm_G 4).1.2.2.2.2.1 40 = (.getfield 12, 43, 7, 0) := rfl
theorem u4_43 : (xm_G 4).1.2.2.2.2.1 43 = (.getfield 122, 46, 2, 3) := rfl
theorem u4_46 : (xm_G 4).1.2.2.2.2.1 46 = (.getfield 126, 49, 4, 5) := rfl
theorem u4_49 : (xm_G 4).1.2.2.2.2.1 49 = (.bipush 64, 51, 64, 0) := rfl
theorem u4_51 : (xm_G 4).1.2.2.2.2.1 51 = (.if_icmp .lt 13, 54, 64, 0) := rfl
theorem u4_54 : (xm_G 4).1.2.2.2.2.1 54 = (.athrow, 57, 3, 0) := rfl
theorem u4_64 : (xm_G 4).1.2.2.2.2.1 64 = (.aload_n 0, 65, 0, 0) := rfl
theorem u4_65 : (xm_G 4).1.2.2.2.2.1 65 = (.getfield 12, 68, 7, 0) := rfl
theorem u4_68 : (xm_G 4).1.2.2.2.2.1 68 = (.getfield 122, 71, 2, 3) := rfl
theorem u4_71 : (xm_G 4).1.2.2.2.2.1 71 = (.iload_n 1, 72, 1, 0) := rfl
theorem u4_72 : (xm_G 4).1.2.2.2.2.1 72 = (.iload_n 2, 73, 2, 0) := rfl
theorem u4_73 : (xm_G 4).1.2.2.2.2.1 73 = (.iload_n 3, 74, 3, 0) := rfl
theorem u4_74 : (xm_G 4).1.2.2.2.2.1 74 = (.iload 4, 76, 4, 0) := rfl
theorem u4_76 : (xm_G 4).1.2.2.2.2.1 76 = (.invokevirtual 137, 79, 50, 4) := rfl
theorem u4_79 : (xm_G 4).1.2.2.2.2.1 79 = (.aload_n 0, 80, 0, 0) := rfl
theorem u4_80 : (xm_G 4).1.2.2.2.2.1 80 = (.invokevirtual 81, 83, 83, 7) := rfl
theorem u4_83 : (xm_G 4).1.2.2.2.2.1 83 = (.aload_n 0, 84, 0, 0) := rfl
theorem u4_84 : (xm_G 4).1.2.2.2.2.1 84 = (.getfield 12, 87, 7, 0) := rfl
theorem u4_87 : (xm_G 4).1.2.2.2.2.1 87 = (.getfield 122, 90, 2, 3) := rfl
theorem u4_90 : (xm_G 4).1.2.2.2.2.1 90 = (.getfield 126, 93, 4, 5) := rfl
theorem u4_93 : (xm_G 4).1.2.2.2.2.1 93 = (.iconst 1, 94, 1, 0) := rfl
theorem u4_94 : (xm_G 4).1.2.2.2.2.1 94 = (.isub, 95, 0, 0) := rfl
theorem u4_95 : (xm_G 4).1.2.2.2.2.1 95 = (.ireturn, 96, 0, 0) := rfl
theorem u5_0 : (xm_G 5).1.2.2.2.2.1 0 = (.aload_n 0, 1, 0, 0) := rfl
theorem u5_1 : (xm_G 5).1.2.2.2.2.1 1 = (.getfield 12, 4, 7, 0) := rfl
theorem u5_4 : (xm_G 5).1.2.2.2.2.1 4 = (.getfield 122, 7, 2, 3) := rfl
theorem u5_7 : (xm_G 5).1.2.2.2.2.1 7 = (.getfield 126, 10, 4, 5) := rfl
theorem u5_10 : (xm_G 5).1.2.2.2.2.1 10 = (.ifCond .ne 13, 13, 23, 0) := rfl
theorem u5_13 : (xm_G 5).1.2.2.2.2.1 13 = (.athrow, 16, 3, 0) := rfl
theorem u5_23 : (xm_G 5).1.2.2.2.2.1 23 = (.aload_n 0, 24, 0, 0) := rfl
theorem u5_24 : (xm_G 5).1.2.2.2.2.1 24 = (.getfield 12, 27, 7, 0) := rfl
theorem u5_27 : (xm_G 5).1.2.2.2.2.1 27 = (.getfield 122, 30, 2, 3) := rfl
theorem u5_30 : (xm_G 5).1.2.2.2.2.1 30 = (.invokevirtual 143, 33, 52, 4) := rfl
theorem u5_33 : (xm_G 5).1.2.2.2.2.1 33 = (.aload_n 0, 34, 0, 0) := rfl
theorem u5_34 : (xm_G 5).1.2.2.2.2.1 34 = (.invokevirtual 81, 37, 83, 7) := rfl
theorem u5_37 : (xm_G 5).1.2.2.2.2.1 37 = (.aload_n 0, 38, 0, 0) := rfl
theorem u5_38 : (xm_G 5).1.2.2.2.2.1 38 = (.getfield 12, 41, 7, 0) := rfl
theorem u5_41 : (xm_G 5).1.2.2.2.2.1 41 = (.getfield 122, 44, 2, 3) := rfl
theorem u5_44 : (xm_G 5).1.2.2.2.2.1 44 = (.getfield 126, 47, 4, 5) := rfl
theorem u5_47 : (xm_G 5).1.2.2.2.2.1 47 = (.ireturn, 48, 0, 0) := rfl
theorem u6_0 : (xm_G 6).1.2.2.2.2.1 0 = (.iload_n 1, 1, 1, 0) := rfl
theorem u6_1 : (xm_G 6).1.2.2.2.2.1 1 = (.iconst 1, 2, 1, 0) := rfl
theorem u6_2 : (xm_G 6).1.2.2.2.2.1 2 = (.bipush 100, 4, 100, 0) := rfl
theorem u6_4 : (xm_G 6).1.2.2.2.2.1 4 = (.invokestatic 52, 7, 84, 0) := rfl
theorem u6_7 : (xm_G 6).1.2.2.2.2.1 7 = (.ifCond .ne 13, 10, 20, 0) := rfl
theorem u6_10 : (xm_G 6).1.2.2.2.2.1 10 = (.athrow, 13, 1, 0) := rfl
theorem u6_20 : (xm_G 6).1.2.2.2.2.1 20 = (.aload_n 0, 21, 0, 0) := rfl
theorem u6_21 : (xm_G 6).1.2.2.2.2.1 21 = (.getfield 12, 24, 7, 0) := rfl
theorem u6_24 : (xm_G 6).1.2.2.2.2.1 24 = (.getfield 122, 27, 2, 3) := rfl
theorem u6_27 : (xm_G 6).1.2.2.2.2.1 27 = (.invokevirtual 146, 30, 53, 4) := rfl
theorem u6_30 : (xm_G 6).1.2.2.2.2.1 30 = (.ifCond .ne 13, 33, 43, 0) := rfl
theorem u6_33 : (xm_G 6).1.2.2.2.2.1 33 = (.athrow, 36, 3, 0) := rfl
theorem u6_43 : (xm_G 6).1.2.2.2.2.1 43 = (.aload_n 0, 44, 0, 0) := rfl
theorem u6_44 : (xm_G 6).1.2.2.2.2.1 44 = (.bipush 45, 46, 45, 0) := rfl
theorem u6_46 : (xm_G 6).1.2.2.2.2.1 46 = (.putfield 28, 49, 7, 3) := rfl
theorem u6_49 : (xm_G 6).1.2.2.2.2.1 49 = (.iconst 0, 50, 0, 0) := rfl
theorem u6_50 : (xm_G 6).1.2.2.2.2.1 50 = (.istore_n 2, 51, 2, 0) := rfl
theorem u6_51 : (xm_G 6).1.2.2.2.2.1 51 = (.iload_n 2, 52, 2, 0) := rfl
theorem u6_52 : (xm_G 6).1.2.2.2.2.1 52 = (.iload_n 1, 53, 1, 0) := rfl
theorem u6_53 : (xm_G 6).1.2.2.2.2.1 53 = (.if_icmp .ge 57, 56, 110, 0) := rfl
theorem u6_56 : (xm_G 6).1.2.2.2.2.1 56 = (.aload_n 0, 57, 0, 0) := rfl
theorem u6_57 : (xm_G 6).1.2.2.2.2.1 57 = (.getfield 21, 60, 7, 1) := rfl
theorem u6_60 : (xm_G 6).1.2.2.2.2.1 60 = (.invokevirtual 154, 63, 12, 1) := rfl
theorem u6_63 : (xm_G 6).1.2.2.2.2.1 63 = (.ifCond .eq 5, 66, 68, 0) := rfl
theorem u6_66 : (xm_G 6).1.2.2.2.2.1 66 = (.iload_n 2, 67, 2, 0) := rfl
theorem u6_67 : (xm_G 6).1.2.2.2.2.1 67 = (.ireturn, 68, 0, 0) := rfl
theorem u6_68 : (xm_G 6).1.2.2.2.2.1 68 = (.aload_n 0, 69, 0, 0) := rfl
theorem u6_69 : (xm_G 6).1.2.2.2.2.1 69 = (.aload_n 0, 70, 0, 0) := rfl
theorem u6_70 : (xm_G 6).1.2.2.2.2.1 70 = (.getfield 21, 73, 7, 1) := rfl
theorem u6_73 : (xm_G 6).1.2.2.2.2.1 73 = (.invokevirtual 157, 76, 16, 1) := rfl
theorem u6_76 : (xm_G 6).1.2.2.2.2.1 76 = (.putfield 28, 79, 7, 3) := rfl
theorem u6_79 : (xm_G 6).1.2.2.2.2.1 79 = (.aload_n 0, 80, 0, 0) := rfl
theorem u6_80 : (xm_G 6).1.2.2.2.2.1 80 = (.getfield 28, 83, 7, 3) := rfl
theorem u6_83 : (xm_G 6).1.2.2.2.2.1 83 = (.bipush 45, 85, 45, 0) := rfl
theorem u6_85 : (xm_G 6).1.2.2.2.2.1 85 = (.if_icmp .eq 5, 88, 90, 0) := rfl
theorem u6_88 : (xm_G 6).1.2.2.2.2.1 88 = (.iload_n 2, 89, 2, 0) := rfl
theorem u6_89 : (xm_G 6).1.2.2.2.2.1 89 = (.ireturn, 90, 0, 0) := rfl
theorem u6_90 : (xm_G 6).1.2.2.2.2.1 90 = (.aload_n 0, 91, 0, 0) := rfl
theorem u6_91 : (xm_G 6).1.2.2.2.2.1 91 = (.getfield 21, 94, 7, 1) := rfl
theorem u6_94 : (xm_G 6).1.2.2.2.2.1 94 = (.invokevirtual 161, 97, 13, 1) := rfl
theorem u6_97 : (xm_G 6).1.2.2.2.2.1 97 = (.ifCond .eq 7, 100, 104, 0) := rfl
theorem u6_100 : (xm_G 6).1.2.2.2.2.1 100 = (.iload_n 2, 101, 2, 0) := rfl
theorem u6_101 : (xm_G 6).1.2.2.2.2.1 101 = (.iconst 1, 102, 1, 0) := rfl
theorem u6_102 : (xm_G 6).1.2.2.2.2.1 102 = (.iadd, 103, 0, 0) := rfl
theorem u6_103 : (xm_G 6).1.2.2.2.2.1 103 = (.ireturn, 104, 0, 0) := rfl
theorem u6_104 : (xm_G 6).1.2.2.2.2.1 104 = (.iinc 2 1, 107, 2, 1) := rfl
theorem u6_107 : (xm_G 6).1.2.2.2.2.1 107 = (.goto (-56), 110, 51, 0) := rfl
theorem u6_110 : (xm_G 6).1.2.2.2.2.1 110 = (.iload_n 1, 111, 1, 0) := rfl
theorem u6_111 : (xm_G 6).1.2.2.2.2.1 111 = (.ireturn, 112, 0, 0) := rfl
theorem u7_0 : (xm_G 7).1.2.2.2.2.1 0 = (.iload_n 1, 1, 1, 0) := rfl
theorem u7_1 : (xm_G 7).1.2.2.2.2.1 1 = (.iconst 0, 2, 0, 0) := rfl
theorem u7_2 : (xm_G 7).1.2.2.2.2.1 2 = (.bipush 7, 4, 7, 0) := rfl
theorem u7_4 : (xm_G 7).1.2.2.2.2.1 4 = (.invokestatic 52, 7, 84, 0) := rfl
theorem u7_7 : (xm_G 7).1.2.2.2.2.1 7 = (.ifCond .ne 13, 10, 20, 0) := rfl
theorem u7_10 : (xm_G 7).1.2.2.2.2.1 10 = (.athrow, 13, 1, 0) := rfl
theorem u7_20 : (xm_G 7).1.2.2.2.2.1 20 = (.aload_n 0, 21, 0, 0) := rfl
theorem u7_21 : (xm_G 7).1.2.2.2.2.1 21 = (.getfield 21, 24, 7, 1) := rfl
theorem u7_24 : (xm_G 7).1.2.2.2.2.1 24 = (.getfield 172, 27, 1, 3) := rfl
theorem u7_27 : (xm_G 7).1.2.2.2.2.1 27 = (.iload_n 1, 28, 1, 0) := rfl
theorem u7_28 : (xm_G 7).1.2.2.2.2.1 28 = (.iaload, 29, 0, 0) := rfl
theorem u7_29 : (xm_G 7).1.2.2.2.2.1 29 = (.ireturn, 30, 0, 0) := rfl
theorem u8_0 : (xm_G 8).1.2.2.2.2.1 0 = (.iload_n 1, 1, 1, 0) := rfl
theorem u8_1 : (xm_G 8).1.2.2.2.2.1 1 = (.iconst 0, 2, 0, 0) := rfl
theorem u8_2 : (xm_G 8).1.2.2.2.2.1 2 = (.iconst 2, 3, 2, 0) := rfl
theorem u8_3 : (xm_G 8).1.2.2.2.2.1 3 = (.invokestatic 52, 6, 84, 0) := rfl
theorem u8_6 : (xm_G 8).1.2.2.2.2.1 6 = (.ifCond .ne 13, 9, 19, 0) := rfl
theorem u8_9 : (xm_G 8).1.2.2.2.2.1 9 = (.athrow, 12, 1, 0) := rfl
theorem u8_19 : (xm_G 8).1.2.2.2.2.1 19 = (.aload_n 0, 20, 0, 0) := rfl
theorem u8_20 : (xm_G 8).1.2.2.2.2.1 20 = (.getfield 21, 23, 7, 1) := rfl
theorem u8_23 : (xm_G 8).1.2.2.2.2.1 23 = (.getfield 177, 26, 1, 4) := rfl
theorem u8_26 : (xm_G 8).1.2.2.2.2.1 26 = (.iload_n 1, 27, 1, 0) := rfl
theorem u8_27 : (xm_G 8).1.2.2.2.2.1 27 = (.iaload, 28, 0, 0) := rfl
theorem u8_28 : (xm_G 8).1.2.2.2.2.1 28 = (.ireturn, 29, 0, 0) := rfl
theorem u9_0 : (xm_G 9).1.2.2.2.2.1 0 = (.iload_n 1, 1, 1, 0) := rfl
theorem u9_1 : (xm_G 9).1.2.2.2.2.1 1 = (.iload_n 2, 2, 2, 0) := rfl
theorem u9_2 : (xm_G 9).1.2.2.2.2.1 2 = (.invokestatic 32, 5, 87, 0) := rfl
theorem u9_5 : (xm_G 9).1.2.2.2.2.1 5 = (.ifCond .ne 13, 8, 18, 0) := rfl
theorem u9_8 : (xm_G 9).1.2.2.2.2.1 8 = (.athrow, 11, 0, 0) := rfl
theorem u9_18 : (xm_G 9).1.2.2.2.2.1 18 = (.iload_n 1, 19, 1, 0) := rfl
theorem u9_19 : (xm_G 9).1.2.2.2.2.1 19 = (.iload_n 2, 20, 2, 0) := rfl
theorem u9_20 : (xm_G 9).1.2.2.2.2.1 20 = (.invokestatic 71, 23, 88, 0) := rfl
theorem u9_23 : (xm_G 9).1.2.2.2.2.1 23 = (.istore_n 3, 24, 3, 0) := rfl
theorem u9_24 : (xm_G 9).1.2.2.2.2.1 24 = (.aload_n 0, 25, 0, 0) := rfl
theorem u9_25 : (xm_G 9).1.2.2.2.2.1 25 = (.getfield 12, 28, 7, 0) := rfl
theorem u9_28 : (xm_G 9).1.2.2.2.2.1 28 = (.getfield 67, 31, 2, 0) := rfl
theorem u9_31 : (xm_G 9).1.2.2.2.2.1 31 = (.iload_n 3, 32, 3, 0) := rfl
theorem u9_32 : (xm_G 9).1.2.2.2.2.1 32 = (.invokevirtual 183, 35, 58, 5) := rfl
theorem u9_35 : (xm_G 9).1.2.2.2.2.1 35 = (.ifCond .ne 13, 38, 48, 0) := rfl
theorem u9_38 : (xm_G 9).1.2.2.2.2.1 38 = (.athrow, 41, 4, 0) := rfl
theorem u9_48 : (xm_G 9).1.2.2.2.2.1 48 = (.aload_n 0, 49, 0, 0) := rfl
theorem u9_49 : (xm_G 9).1.2.2.2.2.1 49 = (.getfield 21, 52, 7, 1) := rfl
theorem u9_52 : (xm_G 9).1.2.2.2.2.1 52 = (.getfield 191, 55, 1, 2) := rfl
theorem u9_55 : (xm_G 9).1.2.2.2.2.1 55 = (.iload_n 3, 56, 3, 0) := rfl
theorem u9_56 : (xm_G 9).1.2.2.2.2.1 56 = (.iaload, 57, 0, 0) := rfl
theorem u9_57 : (xm_G 9).1.2.2.2.2.1 57 = (.ireturn, 58, 0, 0) := rfl
theorem u10_0 : (xm_G 10).1.2.2.2.2.1 0 = (.iload_n 1, 1, 1, 0) := rfl
theorem u10_1 : (xm_G 10).1.2.2.2.2.1 1 = (.iload_n 2, 2, 2, 0) := rfl
theorem u10_2 : (xm_G 10).1.2.2.2.2.1 2 = (.iload_n 3, 3, 3, 0) := rfl
theorem u10_3 : (xm_G 10).1.2.2.2.2.1 3 = (.monitorexit, 6, 0, 0) := rfl
theorem u10_6 : (xm_G 10).1.2.2.2.2.1 6 = (.aload_n 0, 7, 0, 0) := rfl
theorem u10_7 : (xm_G 10).1.2.2.2.2.1 7 = (.getfield 21, 10, 7, 1) := rfl
theorem u10_10 : (xm_G 10).1.2.2.2.2.1 10 = (.getfield 194, 13, 1, 1) := rfl
theorem u10_13 : (xm_G 10).1.2.2.2.2.1 13 = (.iload_n 1, 14, 1, 0) := rfl
theorem u10_14 : (xm_G 10).1.2.2.2.2.1 14 = (.iload_n 2, 15, 2, 0) := rfl
theorem u10_15 : (xm_G 10).1.2.2.2.2.1 15 = (.iload_n 3, 16, 3, 0) := rfl
theorem u10_16 : (xm_G 10).1.2.2.2.2.1 16 = (.invokevirtual 95, 19, 2, 0) := rfl
theorem u10_19 : (xm_G 10).1.2.2.2.2.1 19 = (.ireturn, 20, 0, 0) := rfl
theorem u11_0 : (xm_G 11).1.2.2.2.2.1 0 = (.iload_n 1, 1, 1, 0) := rfl
theorem u11_1 : (xm_G 11).1.2.2.2.2.1 1 = (.iload_n 2, 2, 2, 0) := rfl
theorem u11_2 : (xm_G 11).1.2.2.2.2.1 2 = (.iload_n 3, 3, 3, 0) := rfl
theorem u11_3 : (xm_G 11).1.2.2.2.2.1 3 = (.monitorexit, 6, 0, 0) := rfl
theorem u11_6 : (xm_G 11).1.2.2.2.2.1 6 = (.aload_n 0, 7, 0, 0) := rfl
theorem u11_7 : (xm_G 11).1.2.2.2.2.1 7 = (.getfield 25, 10, 7, 2) := rfl
theorem u11_10 : (xm_G 11).1.2.2.2.2.1 10 = (.aload_n 0, 11, 0, 0) := rfl
theorem u11_11 : (xm_G 11).1.2.2.2.2.1 11 = (.getfield 21, 14, 7, 1) := rfl
theorem u11_14 : (xm_G 11).1.2.2.2.2.1 14 = (.getfield 164, 17, 1, 9) := rfl
theorem u11_17 : (xm_G 11).1.2.2.2.2.1 17 = (.invokevirtual 197, 20, 15, 1) := rfl
theorem u11_20 : (xm_G 11).1.2.2.2.2.1 20 = (.aload_n 0, 21, 0, 0) := rfl
theorem u11_21 : (xm_G 11).1.2.2.2.2.1 21 = (.getfield 25, 24, 7, 2) := rfl
theorem u11_24 : (xm_G 11).1.2.2.2.2.1 24 = (.getfield 194, 27, 1, 1) := rfl
theorem u11_27 : (xm_G 11).1.2.2.2.2.1 27 = (.iload_n 1, 28, 1, 0) := rfl
theorem u11_28 : (xm_G 11).1.2.2.2.2.1 28 = (.iload_n 2, 29, 2, 0) := rfl
theorem u11_29 : (xm_G 11).1.2.2.2.2.1 29 = (.iload_n 3, 30, 3, 0) := rfl
theorem u11_30 : (xm_G 11).1.2.2.2.2.1 30 = (.invokevirtual 95, 33, 2, 0) := rfl
theorem u11_33 : (xm_G 11).1.2.2.2.2.1 33 = (.ireturn, 34, 0, 0) := rfl
theorem u12_0 : (xm_G 12).1.2.2.2.2.1 0 = (.iload_n 1, 1, 1, 0) := rfl
theorem u12_1 : (xm_G 12).1.2.2.2.2.1 1 = (.iload_n 2, 2, 2, 0) := rfl
theorem u12_2 : (xm_G 12).1.2.2.2.2.1 2 = (.iconst 0, 3, 0, 0) := rfl
theorem u12_3 : (xm_G 12).1.2.2.2.2.1 3 = (.monitorexit, 6, 0, 0) := rfl
theorem u12_6 : (xm_G 12).1.2.2.2.2.1 6 = (.iconst 5, 7, 5, 0) := rfl
theorem u12_7 : (xm_G 12).1.2.2.2.2.1 7 = (.istore_n 3, 8, 3, 0) := rfl
theorem u12_8 : (xm_G 12).1.2.2.2.2.1 8 = (.iload_n 3, 9, 3, 0) := rfl
theorem u12_9 : (xm_G 12).1.2.2.2.2.1 9 = (.ifCond .lt 29, 12, 38, 0) := rfl
theorem u12_12 : (xm_G 12).1.2.2.2.2.1 12 = (.aload_n 0, 13, 0, 0) := rfl
theorem u12_13 : (xm_G 12).1.2.2.2.2.1 13 = (.getfield 21, 16, 7, 1) := rfl
theorem u12_16 : (xm_G 12).1.2.2.2.2.1 16 = (.getfield 194, 19, 1, 1) := rfl
theorem u12_19 : (xm_G 12).1.2.2.2.2.1 19 = (.iload_n 1, 20, 1, 0) := rfl
theorem u12_20 : (xm_G 12).1.2.2.2.2.1 20 = (.iload_n 2, 21, 2, 0) := rfl
theorem u12_21 : (xm_G 12).1.2.2.2.2.1 21 = (.iload_n 3, 22, 3, 0) := rfl
theorem u12_22 : (xm_G 12).1.2.2.2.2.1 22 = (.invokevirtual 95, 25, 2, 0) := rfl
theorem u12_25 : (xm_G 12).1.2.2.2.2.1 25 = (.ifCond .eq 7, 28, 32, 0) := rfl
theorem u12_28 : (xm_G 12).1.2.2.2.2.1 28 = (.iload_n 3, 29, 3, 0) := rfl
theorem u12_29 : (xm_G 12).1.2.2.2.2.1 29 = (.iconst 1, 30, 1, 0) := rfl
theorem u12_30 : (xm_G 12).1.2.2.2.2.1 30 = (.iadd, 31, 0, 0) := rfl
theorem u12_31 : (xm_G 12).1.2.2.2.2.1 31 = (.ireturn, 32, 0, 0) := rfl
theorem u12_32 : (xm_G 12).1.2.2.2.2.1 32 = (.iinc 3 (-1), 35, 3, 4294967295) := rfl
theorem u12_35 : (xm_G 12).1.2.2.2.2.1 35 = (.goto (-27), 38, 8, 0) := rfl
theorem u12_38 : (xm_G 12).1.2.2.2.2.1 38 = (.iconst 0, 39, 0, 0) := rfl
theorem u12_39 : (xm_G 12).1.2.2.2.2.1 39 = (.ireturn, 40, 0, 0) := rfl
theorem u13_0 : (xm_G 13).1.2.2.2.2.1 0 = (.aload_n 0, 1, 0, 0) := rfl
theorem u13_1 : (xm_G 13).1.2.2.2.2.1 1 = (.getfield 12, 4, 7, 0) := rfl
theorem u13_4 : (xm_G 13).1.2.2.2.2.1 4 = (.getfield 67, 7, 2, 0) := rfl
theorem u13_7 : (xm_G 13).1.2.2.2.2.1 7 = (.iconst 0, 8, 0, 0) := rfl
theorem u13_8 : (xm_G 13).1.2.2.2.2.1 8 = (.bipush 12, 10, 12, 0) := rfl
theorem u13_10 : (xm_G 13).1.2.2.2.2.1 10 = (.invokevirtual 84, 13, 59, 5) := rfl
theorem u13_13 : (xm_G 13).1.2.2.2.2.1 13 = (.istore_n 1, 14, 1, 0) := rfl
theorem u13_14 : (xm_G 13).1.2.2.2.2.1 14 = (.iload_n 1, 15, 1, 0) := rfl
theorem u13_15 : (xm_G 13).1.2.2.2.2.1 15 = (.ifCond .ne 13, 18, 28, 0) := rfl
theorem u13_18 : (xm_G 13).1.2.2.2.2.1 18 = (.athrow, 21, 5, 0) := rfl
theorem u13_28 : (xm_G 13).1.2.2.2.2.1 28 = (.aload_n 0, 29, 0, 0) := rfl
theorem u13_29 : (xm_G 13).1.2.2.2.2.1 29 = (.getfield 21, 32, 7, 1) := rfl
theorem u13_32 : (xm_G 13).1.2.2.2.2.1 32 = (.invokevirtual 221, 35, 14, 1) := rfl
theorem u13_35 : (xm_G 13).1.2.2.2.2.1 35 = (.i2d, 36, 0, 0) := rfl
theorem u13_36 : (xm_G 13).1.2.2.2.2.1 36 = (.iload_n 1, 37, 1, 0) := rfl
theorem u13_37 : (xm_G 13).1.2.2.2.2.1 37 = (.i2d, 38, 0, 0) := rfl
theorem u13_38 : (xm_G 13).1.2.2.2.2.1 38 = (.ddiv, 39, 0, 0) := rfl
theorem u13_39 : (xm_G 13).1.2.2.2.2.1 39 = (.dreturn, 40, 0, 0) := rfl
theorem u14_0 : (xm_G 14).1.2.2.2.2.1 0 = (.aload 6, 2, 6, 0) := rfl
theorem u14_2 : (xm_G 14).1.2.2.2.2.1 2 = (.iconst 0, 3, 0, 0) := rfl
theorem u14_3 : (xm_G 14).1.2.2.2.2.1 3 = (.aload_n 0, 4, 0, 0) := rfl
theorem u14_4 : (xm_G 14).1.2.2.2.2.1 4 = (.iload_n 1, 5, 1, 0) := rfl
theorem u14_5 : (xm_G 14).1.2.2.2.2.1 5 = (.iload_n 2, 6, 2, 0) := rfl
theorem u14_6 : (xm_G 14).1.2.2.2.2.1 6 = (.iload_n 3, 7, 3, 0) := rfl
theorem u14_7 : (xm_G 14).1.2.2.2.2.1 7 = (.iload 4, 9, 4, 0) := rfl
theorem u14_9 : (xm_G 14).1.2.2.2.2.1 9 = (.iload 5, 11, 5, 0) := rfl
theorem u14_11 : (xm_G 14).1.2.2.2.2.1 11 = (.monitorenter, 14, 1, 7) := rfl
theorem u14_14 : (xm_G 14).1.2.2.2.2.1 14 = (.i2l, 15, 0, 0) := rfl
theorem u14_15 : (xm_G 14).1.2.2.2.2.1 15 = (.lastore, 16, 0, 0) := rfl
theorem u14_16 : (xm_G 14).1.2.2.2.2.1 16 = (.goto 15, 19, 31, 0) := rfl
theorem u14_31 : (xm_G 14).1.2.2.2.2.1 31 = (.iconst 0, 32, 0, 0) := rfl
theorem u14_32 : (xm_G 14).1.2.2.2.2.1 32 = (.ireturn, 33, 0, 0) := rfl
theorem u15_0 : (xm_G 15).1.2.2.2.2.1 0 = (.aload 5, 2, 5, 0) := rfl
theorem u15_2 : (xm_G 15).1.2.2.2.2.1 2 = (.iconst 0, 3, 0, 0) := rfl
theorem u15_3 : (xm_G 15).1.2.2.2.2.1 3 = (.aload_n 0, 4, 0, 0) := rfl
theorem u15_4 : (xm_G 15).1.2.2.2.2.1 4 = (.iload_n 1, 5, 1, 0) := rfl
theorem u15_5 : (xm_G 15).1.2.2.2.2.1 5 = (.iload_n 2, 6, 2, 0) := rfl
theorem u15_6 : (xm_G 15).1.2.2.2.2.1 6 = (.iload_n 3, 7, 3, 0) := rfl
theorem u15_7 : (xm_G 15).1.2.2.2.2.1 7 = (.iload 4, 9, 4, 0) := rfl
theorem u15_9 : (xm_G 15).1.2.2.2.2.1 9 = (.monitorenter, 12, 2, 7) := rfl
theorem u15_12 : (xm_G 15).1.2.2.2.2.1 12 = (.ifCond .eq 7, 15, 19, 0) := rfl
theorem u15_15 : (xm_G 15).1.2.2.2.2.1 15 = (.lconst 1, 16, 1, 0) := rfl
theorem u15_16 : (xm_G 15).1.2.2.2.2.1 16 = (.goto 4, 19, 20, 0) := rfl
theorem u15_19 : (xm_G 15).1.2.2.2.2.1 19 = (.lconst 0, 20, 0, 0) := rfl
theorem u15_20 : (xm_G 15).1.2.2.2.2.1 20 = (.lastore, 21, 0, 0) := rfl
theorem u15_21 : (xm_G 15).1.2.2.2.2.1 21 = (.goto 7, 24, 28, 0) := rfl
theorem u15_28 : (xm_G 15).1.2.2.2.2.1 28 = (.iconst 0, 29, 0, 0) := rfl
theorem u15_29 : (xm_G 15).1.2.2.2.2.1 29 = (.ireturn, 30, 0, 0) := rfl
theorem u16_0 : (xm_G 16).1.2.2.2.2.1 0 = (.aload 5, 2, 5, 0) := rfl
theorem u16_2 : (xm_G 16).1.2.2.2.2.1 2 = (.iconst 0, 3, 0, 0) := rfl
theorem u16_3 : (xm_G 16).1.2.2.2.2.1 3 = (.aload_n 0, 4, 0, 0) := rfl
theorem u16_4 : (xm_G 16).1.2.2.2.2.1 4 = (.iload_n 1, 5, 1, 0) := rfl
theorem u16_5 : (xm_G 16).1.2.2.2.2.1 5 = (.iload_n 2, 6, 2, 0) := rfl
theorem u16_6 : (xm_G 16).1.2.2.2.2.1 6 = (.iload_n 3, 7, 3, 0) := rfl
theorem u16_7 : (xm_G 16).1.2.2.2.2.1 7 = (.iload 4, 9, 4, 0) := rfl
theorem u16_9 : (xm_G 16).1.2.2.2.2.1 9 = (.monitorenter, 12, 3, 7) := rfl
theorem u16_12 : (xm_G 16).1.2.2.2.2.1 12 = (.i2l, 13, 0, 0) := rfl
theorem u16_13 : (xm_G 16).1.2.2.2.2.1 13 = (.lastore, 14, 0, 0) := rfl
theorem u16_14 : (xm_G 16).1.2.2.2.2.1 14 = (.goto 7, 17, 21, 0) := rfl
theorem u16_21 : (xm_G 16).1.2.2.2.2.1 21 = (.iconst 0, 22, 0, 0) := rfl
theorem u16_22 : (xm_G 16).1.2.2.2.2.1 22 = (.ireturn, 23, 0, 0) := rfl
theorem u17_0 : (xm_G 17).1.2.2.2.2.1 0 = (.aload 5, 2, 5, 0) := rfl
theorem u17_2 : (xm_G 17).1.2.2.2.2.1 2 = (.iconst 0, 3, 0, 0) := rfl
theorem u17_3 : (xm_G 17).1.2.2.2.2.1 3 = (.aload_n 0, 4, 0, 0) := rfl
theorem u17_4 : (xm_G 17).1.2.2.2.2.1 4 = (.iload_n 1, 5, 1, 0) := rfl
theorem u17_5 : (xm_G 17).1.2.2.2.2.1 5 = (.iload_n 2, 6, 2, 0) := rfl
theorem u17_6 : (xm_G 17).1.2.2.2.2.1 6 = (.iload_n 3, 7, 3, 0) := rfl
theorem u17_7 : (xm_G 17).1.2.2.2.2.1 7 = (.iload 4, 9, 4, 0) := rfl
theorem u17_9 : (xm_G 17).1.2.2.2.2.1 9 = (.monitorenter, 12, 4, 7) := rfl
theorem u17_12 : (xm_G 17).1.2.2.2.2.1 12 = (.i2l, 13, 0, 0) := rfl
theorem u17_13 : (xm_G 17).1.2.2.2.2.1 13 = (.lastore, 14, 0, 0) := rfl
theorem u17_14 : (xm_G 17).1.2.2.2.2.1 14 = (.goto 11, 17, 25, 0) := rfl
theorem u17_25 : (xm_G 17).1.2.2.2.2.1 25 = (.iconst 0, 26, 0, 0) := rfl
theorem u17_26 : (xm_G 17).1.2.2.2.2.1 26 = (.ireturn, 27, 0, 0) := rfl
theorem u18_0 : (xm_G 18).1.2.2.2.2.1 0 = (.aload_n 1, 1, 1, 0) := rfl
theorem u18_1 : (xm_G 18).1.2.2.2.2.1 1 = (.iconst 0, 2, 0, 0) := rfl
theorem u18_2 : (xm_G 18).1.2.2.2.2.1 2 = (.aload_n 0, 3, 0, 0) := rfl
theorem u18_3 : (xm_G 18).1.2.2.2.2.1 3 = (.monitorenter, 6, 5, 7) := rfl
theorem u18_6 : (xm_G 18).1.2.2.2.2.1 6 = (.i2l, 7, 0, 0) := rfl
theorem u18_7 : (xm_G 18).1.2.2.2.2.1 7 = (.lastore, 8, 0, 0) := rfl
theorem u18_8 : (xm_G 18).1.2.2.2.2.1 8 = (.goto 6, 11, 14, 0) := rfl
theorem u18_14 : (xm_G 18).1.2.2.2.2.1 14 = (.iconst 0, 15, 0, 0) := rfl
theorem u18_15 : (xm_G 18).1.2.2.2.2.1 15 = (.ireturn, 16, 0, 0) := rfl
theorem u19_0 : (xm_G 19).1.2.2.2.2.1 0 = (.aload_n 2, 1, 2, 0) := rfl
theorem u19_1 : (xm_G 19).1.2.2.2.2.1 1 = (.iconst 0, 2, 0, 0) := rfl
theorem u19_2 : (xm_G 19).1.2.2.2.2.1 2 = (.aload_n 0, 3, 0, 0) := rfl
theorem u19_3 : (xm_G 19).1.2.2.2.2.1 3 = (.iload_n 1, 4, 1, 0) := rfl
theorem u19_4 : (xm_G 19).1.2.2.2.2.1 4 = (.monitorenter, 7, 6, 7) := rfl
theorem u19_7 : (xm_G 19).1.2.2.2.2.1 7 = (.i2l, 8, 0, 0) := rfl
theorem u19_8 : (xm_G 19).1.2.2.2.2.1 8 = (.lastore, 9, 0, 0) := rfl
theorem u19_9 : (xm_G 19).1.2.2.2.2.1 9 = (.goto 9, 12, 18, 0) := rfl
theorem u19_18 : (xm_G 19).1.2.2.2.2.1 18 = (.iconst 0, 19, 0, 0) := rfl
theorem u19_19 : (xm_G 19).1.2.2.2.2.1 19 = (.ireturn, 20, 0, 0) := rfl
theorem u20_0 : (xm_G 20).1.2.2.2.2.1 0 = (.aload_n 2, 1, 2, 0) := rfl
theorem u20_1 : (xm_G 20).1.2.2.2.2.1 1 = (.iconst 0, 2, 0, 0) := rfl
theorem u20_2 : (xm_G 20).1.2.2.2.2.1 2 = (.aload_n 0, 3, 0, 0) := rfl
theorem u20_3 : (xm_G 20).1.2.2.2.2.1 3 = (.iload_n 1, 4, 1, 0) := rfl
theorem u20_4 : (xm_G 20).1.2.2.2.2.1 4 = (.monitorenter, 7, 7, 7) := rfl
theorem u20_7 : (xm_G 20).1.2.2.2.2.1 7 = (.i2l, 8, 0, 0) := rfl
theorem u20_8 : (xm_G 20).1.2.2.2.2.1 8 = (.lastore, 9, 0, 0) := rfl
theorem u20_9 : (xm_G 20).1.2.2.2.2.1 9 = (.goto 6, 12, 15, 0) := rfl
theorem u20_15 : (xm_G 20).1.2.2.2.2.1 15 = (.iconst 0, 16, 0, 0) := rfl
theorem u20_16 : (xm_G 20).1.2.2.2.2.1 16 = (.ireturn, 17, 0, 0) := rfl
theorem u21_0 : (xm_G 21).1.2.2.2.2.1 0 = (.aload_n 2, 1, 2, 0) := rfl
theorem u21_1 : (xm_G 21).1.2.2.2.2.1 1 = (.iconst 0, 2, 0, 0) := rfl
theorem u21_2 : (xm_G 21).1.2.2.2.2.1 2 = (.aload_n 0, 3, 0, 0) := rfl
theorem u21_3 : (xm_G 21).1.2.2.2.2.1 3 = (.iload_n 1, 4, 1, 0) := rfl
theorem u21_4 : (xm_G 21).1.2.2.2.2.1 4 = (.monitorenter, 7, 8, 7) := rfl
theorem u21_7 : (xm_G 21).1.2.2.2.2.1 7 = (.i2l, 8, 0, 0) := rfl
theorem u21_8 : (xm_G 21).1.2.2.2.2.1 8 = (.lastore, 9, 0, 0) := rfl
theorem u21_9 : (xm_G 21).1.2.2.2.2.1 9 = (.goto 6, 12, 15, 0) := rfl
theorem u21_15 : (xm_G 21).1.2.2.2.2.1 15 = (.iconst 0, 16, 0, 0) := rfl
theorem u21_16 : (xm_G 21).1.2.2.2.2.1 16 = (.ireturn, 17, 0, 0) := rfl
theorem u22_0 : (xm_G 22).1.2.2.2.2.1 0 = (.aload_n 3, 1, 3, 0) := rfl
theorem u22_1 : (xm_G 22).1.2.2.2.2.1 1 = (.iconst 0, 2, 0, 0) := rfl
theorem u22_2 : (xm_G 22).1.2.2.2.2.1 2 = (.aload_n 0, 3, 0, 0) := rfl
theorem u22_3 : (xm_G 22).1.2.2.2.2.1 3 = (.iload_n 1, 4, 1, 0) := rfl
theorem u22_4 : (xm_G 22).1.2.2.2.2.1 4 = (.iload_n 2, 5, 2, 0) := rfl
theorem u22_5 : (xm_G 22).1.2.2.2.2.1 5 = (.monitorenter, 8, 9, 7) := rfl
theorem u22_8 : (xm_G 22).1.2.2.2.2.1 8 = (.i2l, 9, 0, 0) := rfl
theorem u22_9 : (xm_G 22).1.2.2.2.2.1 9 = (.lastore, 10, 0, 0) := rfl
theorem u22_10 : (xm_G 22).1.2.2.2.2.1 10 = (.goto 11, 13, 21, 0) := rfl
theorem u22_21 : (xm_G 22).1.2.2.2.2.1 21 = (.iconst 0, 22, 0, 0) := rfl
theorem u22_22 : (xm_G 22).1.2.2.2.2.1 22 = (.ireturn, 23, 0, 0) := rfl
theorem u23_0 : (xm_G 23).1.2.2.2.2.1 0 = (.aload 4, 2, 4, 0) := rfl
theorem u23_2 : (xm_G 23).1.2.2.2.2.1 2 = (.iconst 0, 3, 0, 0) := rfl
theorem u23_3 : (xm_G 23).1.2.2.2.2.1 3 = (.aload_n 0, 4, 0, 0) := rfl
theorem u23_4 : (xm_G 23).1.2.2.2.2.1 4 = (.iload_n 1, 5, 1, 0) := rfl
theorem u23_5 : (xm_G 23).1.2.2.2.2.1 5 = (.iload_n 2, 6, 2, 0) := rfl
theorem u23_6 : (xm_G 23).1.2.2.2.2.1 6 = (.iload_n 3, 7, 3, 0) := rfl
theorem u23_7 : (xm_G 23).1.2.2.2.2.1 7 = (.monitorenter, 10, 10, 7) := rfl
theorem u23_10 : (xm_G 23).1.2.2.2.2.1 10 = (.ifCond .eq 7, 13, 17, 0) := rfl
theorem u23_13 : (xm_G 23).1.2.2.2.2.1 13 = (.lconst 1, 14, 1, 0) := rfl
theorem u23_14 : (xm_G 23).1.2.2.2.2.1 14 = (.goto 4, 17, 18, 0) := rfl
theorem u23_17 : (xm_G 23).1.2.2.2.2.1 17 = (.lconst 0, 18, 0, 0) := rfl
theorem u23_18 : (xm_G 23).1.2.2.2.2.1 18 = (.lastore, 19, 0, 0) := rfl
theorem u23_19 : (xm_G 23).1.2.2.2.2.1 19 = (.goto 7, 22, 26, 0) := rfl
theorem u23_26 : (xm_G 23).1.2.2.2.2.1 26 = (.iconst 0, 27, 0, 0) := rfl
theorem u23_27 : (xm_G 23).1.2.2.2.2.1 27 = (.ireturn, 28, 0, 0) := rfl
theorem u24_0 : (xm_G 24).1.2.2.2.2.1 0 = (.aload 4, 2, 4, 0) := rfl
theorem u24_2 : (xm_G 24).1.2.2.2.2.1 2 = (.iconst 0, 3, 0, 0) := rfl
theorem u24_3 : (xm_G 24).1.2.2.2.2.1 3 = (.aload_n 0, 4, 0, 0) := rfl
theorem u24_4 : (xm_G 24).1.2.2.2.2.1 4 = (.iload_n 1, 5, 1, 0) := rfl
theorem u24_5 : (xm_G 24).1.2.2.2.2.1 5 = (.iload_n 2, 6, 2, 0) := rfl
theorem u24_6 : (xm_G 24).1.2.2.2.2.1 6 = (.iload_n 3, 7, 3, 0) := rfl
theorem u24_7 : (xm_G 24).1.2.2.2.2.1 7 = (.monitorenter, 10, 11, 7) := rfl
theorem u24_10 : (xm_G 24).1.2.2.2.2.1 10 = (.ifCond .eq 7, 13, 17, 0) := rfl
theorem u24_13 : (xm_G 24).1.2.2.2.2.1 13 = (.lconst 1, 14, 1, 0) := rfl
theorem u24_14 : (xm_G 24).1.2.2.2.2.1 14 = (.goto 4, 17, 18, 0) := rfl
theorem u24_17 : (xm_G 24).1.2.2.2.2.1 17 = (.lconst 0, 18, 0, 0) := rfl
theorem u24_18 : (xm_G 24).1.2.2.2.2.1 18 = (.lastore, 19, 0, 0) := rfl
theorem u24_19 : (xm_G 24).1.2.2.2.2.1 19 = (.goto 7, 22, 26, 0) := rfl
theorem u24_26 : (xm_G 24).1.2.2.2.2.1 26 = (.iconst 0, 27, 0, 0) := rfl
theorem u24_27 : (xm_G 24).1.2.2.2.2.1 27 = (.ireturn, 28, 0, 0) := rfl
theorem u25_0 : (xm_G 25).1.2.2.2.2.1 0 = (.aload_n 3, 1, 3, 0) := rfl
theorem u25_1 : (xm_G 25).1.2.2.2.2.1 1 = (.iconst 0, 2, 0, 0) := rfl
theorem u25_2 : (xm_G 25).1.2.2.2.2.1 2 = (.aload_n 0, 3, 0, 0) := rfl
theorem u25_3 : (xm_G 25).1.2.2.2.2.1 3 = (.iload_n 1, 4, 1, 0) := rfl
theorem u25_4 : (xm_G 25).1.2.2.2.2.1 4 = (.iload_n 2, 5, 2, 0) := rfl
theorem u25_5 : (xm_G 25).1.2.2.2.2.1 5 = (.monitorenter, 8, 12, 7) := rfl
theorem u25_8 : (xm_G 25).1.2.2.2.2.1 8 = (.i2l, 9, 0, 0) := rfl
theorem u25_9 : (xm_G 25).1.2.2.2.2.1 9 = (.lastore, 10, 0, 0) := rfl
theorem u25_10 : (xm_G 25).1.2.2.2.2.1 10 = (.goto 7, 13, 17, 0) := rfl
theorem u25_17 : (xm_G 25).1.2.2.2.2.1 17 = (.iconst 0, 18, 0, 0) := rfl
theorem u25_18 : (xm_G 25).1.2.2.2.2.1 18 = (.ireturn, 19, 0, 0) := rfl
theorem u26_0 : (xm_G 26).1.2.2.2.2.1 0 = (.aload_n 1, 1, 1, 0) := rfl
theorem u26_1 : (xm_G 26).1.2.2.2.2.1 1 = (.iconst 0, 2, 0, 0) := rfl
theorem u26_2 : (xm_G 26).1.2.2.2.2.1 2 = (.aload_n 0, 3, 0, 0) := rfl
theorem u26_3 : (xm_G 26).1.2.2.2.2.1 3 = (.monitorenter, 6, 13, 7) := rfl
theorem u26_6 : (xm_G 26).1.2.2.2.2.1 6 = (.dastore, 7, 0, 0) := rfl
theorem u26_7 : (xm_G 26).1.2.2.2.2.1 7 = (.goto 6, 10, 13, 0) := rfl
theorem u26_13 : (xm_G 26).1.2.2.2.2.1 13 = (.iconst 0, 14, 0, 0) := rfl
theorem u26_14 : (xm_G 26).1.2.2.2.2.1 14 = (.ireturn, 15, 0, 0) := rfl
theorem u27_0 : (xm_G 27).1.2.2.2.2.1 0 = (.new 8, 3, 7, 4) := rfl
theorem u27_3 : (xm_G 27).1.2.2.2.2.1 3 = (.dup, 4, 0, 0) := rfl
theorem u27_4 : (xm_G 27).1.2.2.2.2.1 4 = (.invokespecial 69, 7, 69, 0) := rfl
theorem u27_7 : (xm_G 27).1.2.2.2.2.1 7 = (.astore_n 1, 8, 1, 0) := rfl
theorem u27_8 : (xm_G 27).1.2.2.2.2.1 8 = (.new 70, 11, 8, 27) := rfl
theorem u27_11 : (xm_G 27).1.2.2.2.2.1 11 = (.dup, 12, 0, 0) := rfl
theorem u27_12 : (xm_G 27).1.2.2.2.2.1 12 = (.invokespecial 72, 15, 95, 0) := rfl
theorem u27_15 : (xm_G 27).1.2.2.2.2.1 15 = (.astore_n 2, 16, 2, 0) := rfl
theorem u27_16 : (xm_G 27).1.2.2.2.2.1 16 = (.iconst 1, 17, 1, 0) := rfl
theorem u27_17 : (xm_G 27).1.2.2.2.2.1 17 = (.newarray .long, 19, 3, 0) := rfl
theorem u27_19 : (xm_G 27).1.2.2.2.2.1 19 = (.astore_n 3, 20, 3, 0) := rfl
theorem u27_20 : (xm_G 27).1.2.2.2.2.1 20 = (.iconst 1, 21, 1, 0) := rfl
theorem u27_21 : (xm_G 27).1.2.2.2.2.1 21 = (.newarray .double, 23, 4, 0) := rfl
theorem u27_23 : (xm_G 27).1.2.2.2.2.1 23 = (.astore 4, 25, 4, 0) := rfl
theorem u27_25 : (xm_G 27).1.2.2.2.2.1 25 = (.iconst 0, 26, 0, 0) := rfl
theorem u27_26 : (xm_G 27).1.2.2.2.2.1 26 = (.istore 5, 28, 5, 0) := rfl
theorem u27_28 : (xm_G 27).1.2.2.2.2.1 28 = (.iload 5, 30, 5, 0) := rfl
theorem u27_30 : (xm_G 27).1.2.2.2.2.1 30 = (.aload_n 0, 31, 0, 0) := rfl
theorem u27_31 : (xm_G 27).1.2.2.2.2.1 31 = (.arraylength, 32, 0, 0) := rfl
theorem u27_32 : (xm_G 27).1.2.2.2.2.1 32 = (.bipush 6, 34, 6, 0) := rfl
theorem u27_34 : (xm_G 27).1.2.2.2.2.1 34 = (.isub, 35, 0, 0) := rfl
theorem u27_35 : (xm_G 27).1.2.2.2.2.1 35 = (.if_icmp .gt 1359, 38, 1394, 0) := rfl
theorem u27_38 : (xm_G 27).1.2.2.2.2.1 38 = (.aload_n 0, 39, 0, 0) := rfl
theorem u27_39 : (xm_G 27).1.2.2.2.2.1 39 = (.iload 5, 41, 5, 0) := rfl
theorem u27_41 : (xm_G 27).1.2.2.2.2.1 41 = (.iaload, 42, 0, 0) := rfl
theorem u27_42 : (xm_G 27).1.2.2.2.2.1 42 = (.bipush 31, 44, 31, 0) := rfl
theorem u27_44 : (xm_G 27).1.2.2.2.2.1 44 = (.iand, 45, 0, 0) := rfl
theorem u27_45 : (xm_G 27).1.2.2.2.2.1 45 = (.tableswitch 1343 0 25 #[119, 225, 340, 432, 526, 570, 583, 639, 652, 665, 678, 691, 704, 760, 816, 829, 897, 984, 1071, 1084, 1152, 1166, 1209, 1222, 1287, 1330], 164, 0, 0) := rfl
theorem u27_164 : (xm_G 27).1.2.2.2.2.1 164 = (.aload_n 1, 165, 1, 0) := rfl
theorem u27_165 : (xm_G 27).1.2.2.2.2.1 165 = (.aload_n 0, 166, 0, 0) := rfl
theorem u27_166 : (xm_G 27).1.2.2.2.2.1 166 = (.iload 5, 168, 5, 0) := rfl
theorem u27_168 : (xm_G 27).1.2.2.2.2.1 168 = (.iconst 1, 169, 1, 0) := rfl
theorem u27_169 : (xm_G 27).1.2.2.2.2.1 169 = (.iadd, 170, 0, 0) := rfl
theorem u27_170 : (xm_G 27).1.2.2.2.2.1 170 = (.iaload, 171, 0, 0) := rfl
theorem u27_171 : (xm_G 27).1.2.2.2.2.1 171 = (.aload_n 0, 172, 0, 0) := rfl
theorem u27_172 : (xm_G 27).1.2.2.2.2.1 172 = (.iload 5, 174, 5, 0) := rfl
theorem u27_174 : (xm_G 27).1.2.2.2.2.1 174 = (.iconst 2, 175, 2, 0) := rfl
theorem u27_175 : (xm_G 27).1.2.2.2.2.1 175 = (.iadd, 176, 0, 0) := rfl
theorem u27_176 : (xm_G 27).1.2.2.2.2.1 176 = (.iaload, 177, 0, 0) := rfl
theorem u27_177 : (xm_G 27).1.2.2.2.2.1 177 = (.aload_n 0, 178, 0, 0) := rfl
theorem u27_178 : (xm_G 27).1.2.2.2.2.1 178 = (.iload 5, 180, 5, 0) := rfl
theorem u27_180 : (xm_G 27).1.2.2.2.2.1 180 = (.iconst 3, 181, 3, 0) := rfl
theorem u27_181 : (xm_G 27).1.2.2.2.2.1 181 = (.iadd, 182, 0, 0) := rfl
theorem u27_182 : (xm_G 27).1.2.2.2.2.1 182 = (.iaload, 183, 0, 0) := rfl
theorem u27_183 : (xm_G 27).1.2.2.2.2.1 183 = (.i2c, 184, 0, 0) := rfl
theorem u27_184 : (xm_G 27).1.2.2.2.2.1 184 = (.aload_n 0, 185, 0, 0) := rfl
theorem u27_185 : (xm_G 27).1.2.2.2.2.1 185 = (.iload 5, 187, 5, 0) := rfl
theorem u27_187 : (xm_G 27).1.2.2.2.2.1 187 = (.iconst 4, 188, 4, 0) := rfl
theorem u27_188 : (xm_G 27).1.2.2.2.2.1 188 = (.iadd, 189, 0, 0) := rfl
theorem u27_189 : (xm_G 27).1.2.2.2.2.1 189 = (.iaload, 190, 0, 0) := rfl
theorem u27_190 : (xm_G 27).1.2.2.2.2.1 190 = (.aload_n 0, 191, 0, 0) := rfl
theorem u27_191 : (xm_G 27).1.2.2.2.2.1 191 = (.iload 5, 193, 5, 0) := rfl
theorem u27_193 : (xm_G 27).1.2.2.2.2.1 193 = (.iconst 5, 194, 5, 0) := rfl
theorem u27_194 : (xm_G 27).1.2.2.2.2.1 194 = (.iadd, 195, 0, 0) := rfl
theorem u27_195 : (xm_G 27).1.2.2.2.2.1 195 = (.iaload, 196, 0, 0) := rfl
theorem u27_196 : (xm_G 27).1.2.2.2.2.1 196 = (.aload_n 3, 197, 3, 0) := rfl
theorem u27_197 : (xm_G 27).1.2.2.2.2.1 197 = (.monitorexit, 200, 14, 0) := rfl
theorem u27_200 : (xm_G 27).1.2.2.2.2.1 200 = (.istore 6, 202, 6, 0) := rfl
theorem u27_202 : (xm_G 27).1.2.2.2.2.1 202 = (.aload_n 2, 203, 2, 0) := rfl
theorem u27_203 : (xm_G 27).1.2.2.2.2.1 203 = (.aload_n 0, 204, 0, 0) := rfl
theorem u27_204 : (xm_G 27).1.2.2.2.2.1 204 = (.iload 5, 206, 5, 0) := rfl
theorem u27_206 : (xm_G 27).1.2.2.2.2.1 206 = (.iconst 1, 207, 1, 0) := rfl
theorem u27_207 : (xm_G 27).1.2.2.2.2.1 207 = (.iadd, 208, 0, 0) := rfl
theorem u27_208 : (xm_G 27).1.2.2.2.2.1 208 = (.iaload, 209, 0, 0) := rfl
theorem u27_209 : (xm_G 27).1.2.2.2.2.1 209 = (.aload_n 0, 210, 0, 0) := rfl
theorem u27_210 : (xm_G 27).1.2.2.2.2.1 210 = (.iload 5, 212, 5, 0) := rfl
theorem u27_212 : (xm_G 27).1.2.2.2.2.1 212 = (.iconst 2, 213, 2, 0) := rfl
theorem u27_213 : (xm_G 27).1.2.2.2.2.1 213 = (.iadd, 214, 0, 0) := rfl
theorem u27_214 : (xm_G 27).1.2.2.2.2.1 214 = (.iaload, 215, 0, 0) := rfl
theorem u27_215 : (xm_G 27).1.2.2.2.2.1 215 = (.aload_n 0, 216, 0, 0) := rfl
theorem u27_216 : (xm_G 27).1.2.2.2.2.1 216 = (.iload 5, 218, 5, 0) := rfl
theorem u27_218 : (xm_G 27).1.2.2.2.2.1 218 = (.iconst 3, 219, 3, 0) := rfl
theorem u27_219 : (xm_G 27).1.2.2.2.2.1 219 = (.iadd, 220, 0, 0) := rfl
theorem u27_220 : (xm_G 27).1.2.2.2.2.1 220 = (.iaload, 221, 0, 0) := rfl
theorem u27_221 : (xm_G 27).1.2.2.2.2.1 221 = (.i2c, 222, 0, 0) := rfl
theorem u27_222 : (xm_G 27).1.2.2.2.2.1 222 = (.aload_n 0, 223, 0, 0) := rfl
theorem u27_223 : (xm_G 27).1.2.2.2.2.1 223 = (.iload 5, 225, 5, 0) := rfl
theorem u27_225 : (xm_G 27).1.2.2.2.2.1 225 = (.iconst 4, 226, 4, 0) := rfl
theorem u27_226 : (xm_G 27).1.2.2.2.2.1 226 = (.iadd, 227, 0, 0) := rfl
theorem u27_227 : (xm_G 27).1.2.2.2.2.1 227 = (.iaload, 228, 0, 0) := rfl
theorem u27_228 : (xm_G 27).1.2.2.2.2.1 228 = (.aload_n 0, 229, 0, 0) := rfl
theorem u27_229 : (xm_G 27).1.2.2.2.2.1 229 = (.iload 5, 231, 5, 0) := rfl
theorem u27_231 : (xm_G 27).1.2.2.2.2.1 231 = (.iconst 5, 232, 5, 0) := rfl
theorem u27_232 : (xm_G 27).1.2.2.2.2.1 232 = (.iadd, 233, 0, 0) := rfl
theorem u27_233 : (xm_G 27).1.2.2.2.2.1 233 = (.iaload, 234, 0, 0) := rfl
theorem u27_234 : (xm_G 27).1.2.2.2.2.1 234 = (.invokevirtual 78, 237, 102, 8) := rfl
theorem u27_237 : (xm_G 27).1.2.2.2.2.1 237 = (.istore 7, 239, 7, 0) := rfl
theorem u27_239 : (xm_G 27).1.2.2.2.2.1 239 = (.aload_n 2, 240, 2, 0) := rfl
theorem u27_240 : (xm_G 27).1.2.2.2.2.1 240 = (.invokevirtual 79, 243, 96, 8) := rfl
theorem u27_243 : (xm_G 27).1.2.2.2.2.1 243 = (.iload 6, 245, 6, 0) := rfl
theorem u27_245 : (xm_G 27).1.2.2.2.2.1 245 = (.if_icmp .eq 5, 248, 250, 0) := rfl
theorem u27_248 : (xm_G 27).1.2.2.2.2.1 248 = (.iconst 0, 249, 0, 0) := rfl
theorem u27_249 : (xm_G 27).1.2.2.2.2.1 249 = (.ireturn, 250, 0, 0) := rfl
theorem u27_250 : (xm_G 27).1.2.2.2.2.1 250 = (.iload 6, 252, 6, 0) := rfl
theorem u27_252 : (xm_G 27).1.2.2.2.2.1 252 = (.ifCond .ne 15, 255, 267, 0) := rfl
theorem u27_255 : (xm_G 27).1.2.2.2.2.1 255 = (.aload_n 3, 256, 3, 0) := rfl
theorem u27_256 : (xm_G 27).1.2.2.2.2.1 256 = (.iconst 0, 257, 0, 0) := rfl
theorem u27_257 : (xm_G 27).1.2.2.2.2.1 257 = (.laload, 258, 0, 0) := rfl
theorem u27_258 : (xm_G 27).1.2.2.2.2.1 258 = (.iload 7, 260, 7, 0) := rfl
theorem u27_260 : (xm_G 27).1.2.2.2.2.1 260 = (.i2l, 261, 0, 0) := rfl
theorem u27_261 : (xm_G 27).1.2.2.2.2.1 261 = (.lcmp, 262, 0, 0) := rfl
theorem u27_262 : (xm_G 27).1.2.2.2.2.1 262 = (.ifCond .eq 5, 265, 267, 0) := rfl
theorem u27_265 : (xm_G 27).1.2.2.2.2.1 265 = (.iconst 0, 266, 0, 0) := rfl
theorem u27_266 : (xm_G 27).1.2.2.2.2.1 266 = (.ireturn, 267, 0, 0) := rfl
theorem u27_267 : (xm_G 27).1.2.2.2.2.1 267 = (.goto 1121, 270, 1388, 0) := rfl
theorem u27_270 : (xm_G 27).1.2.2.2.2.1 270 = (.aload_n 1, 271, 1, 0) := rfl
theorem u27_271 : (xm_G 27).1.2.2.2.2.1 271 = (.aload_n 0, 272, 0, 0) := rfl
theorem u27_272 : (xm_G 27).1.2.2.2.2.1 272 = (.iload 5, 274, 5, 0) := rfl
theorem u27_274 : (xm_G 27).1.2.2.2.2.1 274 = (.iconst 1, 275, 1, 0) := rfl
theorem u27_275 : (xm_G 27).1.2.2.2.2.1 275 = (.iadd, 276, 0, 0) := rfl
theorem u27_276 : (xm_G 27).1.2.2.2.2.1 276 = (.iaload, 277, 0, 0) := rfl
theorem u27_277 : (xm_G 27).1.2.2.2.2.1 277 = (.aload_n 0, 278, 0, 0) := rfl
theorem u27_278 : (xm_G 27).1.2.2.2.2.1 278 = (.iload 5, 280, 5, 0) := rfl
theorem u27_280 : (xm_G 27).1.2.2.2.2.1 280 = (.iconst 2, 281, 2, 0) := rfl
theorem u27_281 : (xm_G 27).1.2.2.2.2.1 281 = (.iadd, 282, 0, 0) := rfl
theorem u27_282 : (xm_G 27).1.2.2.2.2.1 282 = (.iaload, 283, 0, 0) := rfl
theorem u27_283 : (xm_G 27).1.2.2.2.2.1 283 = (.aload_n 0, 284, 0, 0) := rfl
theorem u27_284 : (xm_G 27).1.2.2.2.2.1 284 = (.iload 5, 286, 5, 0) := rfl
theorem u27_286 : (xm_G 27).1.2.2.2.2.1 286 = (.iconst 3, 287, 3, 0) := rfl
theorem u27_287 : (xm_G 27).1.2.2.2.2.1 287 = (.iadd, 288, 0, 0) := rfl
theorem u27_288 : (xm_G 27).1.2.2.2.2.1 288 = (.iaload, 289, 0, 0) := rfl
theorem u27_289 : (xm_G 27).1.2.2.2.2.1 289 = (.aload_n 0, 290, 0, 0) := rfl
theorem u27_290 : (xm_G 27).1.2.2.2.2.1 290 = (.iload 5, 292, 5, 0) := rfl
theorem u27_292 : (xm_G 27).1.2.2.2.2.1 292 = (.iconst 4, 293, 4, 0) := rfl
theorem u27_293 : (xm_G 27).1.2.2.2.2.1 293 = (.iadd, 294, 0, 0) := rfl
theorem u27_294 : (xm_G 27).1.2.2.2.2.1 294 = (.iaload, 295, 0, 0) := rfl
theorem u27_295 : (xm_G 27).1.2.2.2.2.1 295 = (.ifCond .eq 7, 298, 302, 0) := rfl
theorem u27_298 : (xm_G 27).1.2.2.2.2.1 298 = (.iconst 1, 299, 1, 0) := rfl
theorem u27_299 : (xm_G 27).1.2.2.2.2.1 299 = (.goto 4, 302, 303, 0) := rfl
theorem u27_302 : (xm_G 27).1.2.2.2.2.1 302 = (.iconst 0, 303, 0, 0) := rfl
theorem u27_303 : (xm_G 27).1.2.2.2.2.1 303 = (.aload_n 3, 304, 3, 0) := rfl
theorem u27_304 : (xm_G 27).1.2.2.2.2.1 304 = (.monitorexit, 307, 15, 0) := rfl
theorem u27_307 : (xm_G 27).1.2.2.2.2.1 307 = (.istore 6, 309, 6, 0) := rfl
theorem u27_309 : (xm_G 27).1.2.2.2.2.1 309 = (.aload_n 2, 310, 2, 0) := rfl
theorem u27_310 : (xm_G 27).1.2.2.2.2.1 310 = (.aload_n 0, 311, 0, 0) := rfl
theorem u27_311 : (xm_G 27).1.2.2.2.2.1 311 = (.iload 5, 313, 5, 0) := rfl
theorem u27_313 : (xm_G 27).1.2.2.2.2.1 313 = (.iconst 1, 314, 1, 0) := rfl
theorem u27_314 : (xm_G 27).1.2.2.2.2.1 314 = (.iadd, 315, 0, 0) := rfl
theorem u27_315 : (xm_G 27).1.2.2.2.2.1 315 = (.iaload, 316, 0, 0) := rfl
theorem u27_316 : (xm_G 27).1.2.2.2.2.1 316 = (.aload_n 0, 317, 0, 0) := rfl
theorem u27_317 : (xm_G 27).1.2.2.2.2.1 317 = (.iload 5, 319, 5, 0) := rfl
theorem u27_319 : (xm_G 27).1.2.2.2.2.1 319 = (.iconst 2, 320, 2, 0) := rfl
theorem u27_320 : (xm_G 27).1.2.2.2.2.1 320 = (.iadd, 321, 0, 0) := rfl
theorem u27_321 : (xm_G 27).1.2.2.2.2.1 321 = (.iaload, 322, 0, 0) := rfl
theorem u27_322 : (xm_G 27).1.2.2.2.2.1 322 = (.aload_n 0, 323, 0, 0) := rfl
theorem u27_323 : (xm_G 27).1.2.2.2.2.1 323 = (.iload 5, 325, 5, 0) := rfl
theorem u27_325 : (xm_G 27).1.2.2.2.2.1 325 = (.iconst 3, 326, 3, 0) := rfl
theorem u27_326 : (xm_G 27).1.2.2.2.2.1 326 = (.iadd, 327, 0, 0) := rfl
theorem u27_327 : (xm_G 27).1.2.2.2.2.1 327 = (.iaload, 328, 0, 0) := rfl
theorem u27_328 : (xm_G 27).1.2.2.2.2.1 328 = (.aload_n 0, 329, 0, 0) := rfl
theorem u27_329 : (xm_G 27).1.2.2.2.2.1 329 = (.iload 5, 331, 5, 0) := rfl
theorem u27_331 : (xm_G 27).1.2.2.2.2.1 331 = (.iconst 4, 332, 4, 0) := rfl
theorem u27_332 : (xm_G 27).1.2.2.2.2.1 332 = (.iadd, 333, 0, 0) := rfl
theorem u27_333 : (xm_G 27).1.2.2.2.2.1 333 = (.iaload, 334, 0, 0) := rfl
theorem u27_334 : (xm_G 27).1.2.2.2.2.1 334 = (.ifCond .eq 7, 337, 341, 0) := rfl
theorem u27_337 : (xm_G 27).1.2.2.2.2.1 337 = (.iconst 1, 338, 1, 0) := rfl
theorem u27_338 : (xm_G 27).1.2.2.2.2.1 338 = (.goto 4, 341, 342, 0) := rfl
theorem u27_341 : (xm_G 27).1.2.2.2.2.1 341 = (.iconst 0, 342, 0, 0) := rfl
theorem u27_342 : (xm_G 27).1.2.2.2.2.1 342 = (.invokevirtual 85, 345, 105, 8) := rfl
theorem u27_345 : (xm_G 27).1.2.2.2.2.1 345 = (.istore 7, 347, 7, 0) := rfl
theorem u27_347 : (xm_G 27).1.2.2.2.2.1 347 = (.aload_n 2, 348, 2, 0) := rfl
theorem u27_348 : (xm_G 27).1.2.2.2.2.1 348 = (.invokevirtual 79, 351, 96, 8) := rfl
theorem u27_351 : (xm_G 27).1.2.2.2.2.1 351 = (.iload 6, 353, 6, 0) := rfl
theorem u27_353 : (xm_G 27).1.2.2.2.2.1 353 = (.if_icmp .eq 5, 356, 358, 0) := rfl
theorem u27_356 : (xm_G 27).1.2.2.2.2.1 356 = (.iconst 0, 357, 0, 0) := rfl
theorem u27_357 : (xm_G 27).1.2.2.2.2.1 357 = (.ireturn, 358, 0, 0) := rfl
theorem u27_358 : (xm_G 27).1.2.2.2.2.1 358 = (.iload 6, 360, 6, 0) := rfl
theorem u27_360 : (xm_G 27).1.2.2.2.2.1 360 = (.ifCond .ne 22, 363, 382, 0) := rfl
theorem u27_363 : (xm_G 27).1.2.2.2.2.1 363 = (.aload_n 3, 364, 3, 0) := rfl
theorem u27_364 : (xm_G 27).1.2.2.2.2.1 364 = (.iconst 0, 365, 0, 0) := rfl
theorem u27_365 : (xm_G 27).1.2.2.2.2.1 365 = (.laload, 366, 0, 0) := rfl
theorem u27_366 : (xm_G 27).1.2.2.2.2.1 366 = (.iload 7, 368, 7, 0) := rfl
theorem u27_368 : (xm_G 27).1.2.2.2.2.1 368 = (.ifCond .eq 7, 371, 375, 0) := rfl
theorem u27_371 : (xm_G 27).1.2.2.2.2.1 371 = (.lconst 1, 372, 1, 0) := rfl
theorem u27_372 : (xm_G 27).1.2.2.2.2.1 372 = (.goto 4, 375, 376, 0) := rfl
theorem u27_375 : (xm_G 27).1.2.2.2.2.1 375 = (.lconst 0, 376, 0, 0) := rfl
theorem u27_376 : (xm_G 27).1.2.2.2.2.1 376 = (.lcmp, 377, 0, 0) := rfl
theorem u27_377 : (xm_G 27).1.2.2.2.2.1 377 = (.ifCond .eq 5, 380, 382, 0) := rfl
theorem u27_380 : (xm_G 27).1.2.2.2.2.1 380 = (.iconst 0, 381, 0, 0) := rfl
theorem u27_381 : (xm_G 27).1.2.2.2.2.1 381 = (.ireturn, 382, 0, 0) := rfl
theorem u27_382 : (xm_G 27).1.2.2.2.2.1 382 = (.goto 1006, 385, 1388, 0) := rfl
theorem u27_385 : (xm_G 27).1.2.2.2.2.1 385 = (.aload_n 1, 386, 1, 0) := rfl
theorem u27_386 : (xm_G 27).1.2.2.2.2.1 386 = (.aload_n 0, 387, 0, 0) := rfl
theorem u27_387 : (xm_G 27).1.2.2.2.2.1 387 = (.iload 5, 389, 5, 0) := rfl
theorem u27_389 : (xm_G 27).1.2.2.2.2.1 389 = (.iconst 1, 390, 1, 0) := rfl
theorem u27_390 : (xm_G 27).1.2.2.2.2.1 390 = (.iadd, 391, 0, 0) := rfl
theorem u27_391 : (xm_G 27).1.2.2.2.2.1 391 = (.iaload, 392, 0, 0) := rfl
theorem u27_392 : (xm_G 27).1.2.2.2.2.1 392 = (.aload_n 0, 393, 0, 0) := rfl
theorem u27_393 : (xm_G 27).1.2.2.2.2.1 393 = (.iload 5, 395, 5, 0) := rfl
theorem u27_395 : (xm_G 27).1.2.2.2.2.1 395 = (.iconst 2, 396, 2, 0) := rfl
theorem u27_396 : (xm_G 27).1.2.2.2.2.1 396 = (.iadd, 397, 0, 0) := rfl
theorem u27_397 : (xm_G 27).1.2.2.2.2.1 397 = (.iaload, 398, 0, 0) := rfl
theorem u27_398 : (xm_G 27).1.2.2.2.2.1 398 = (.aload_n 0, 399, 0, 0) := rfl
theorem u27_399 : (xm_G 27).1.2.2.2.2.1 399 = (.iload 5, 401, 5, 0) := rfl
theorem u27_401 : (xm_G 27).1.2.2.2.2.1 401 = (.iconst 3, 402, 3, 0) := rfl
theorem u27_402 : (xm_G 27).1.2.2.2.2.1 402 = (.iadd, 403, 0, 0) := rfl
theorem u27_403 : (xm_G 27).1.2.2.2.2.1 403 = (.iaload, 404, 0, 0) := rfl
theorem u27_404 : (xm_G 27).1.2.2.2.2.1 404 = (.aload_n 0, 405, 0, 0) := rfl
theorem u27_405 : (xm_G 27).1.2.2.2.2.1 405 = (.iload 5, 407, 5, 0) := rfl
theorem u27_407 : (xm_G 27).1.2.2.2.2.1 407 = (.iconst 4, 408, 4, 0) := rfl
theorem u27_408 : (xm_G 27).1.2.2.2.2.1 408 = (.iadd, 409, 0, 0) := rfl
theorem u27_409 : (xm_G 27).1.2.2.2.2.1 409 = (.iaload, 410, 0, 0) := rfl
theorem u27_410 : (xm_G 27).1.2.2.2.2.1 410 = (.aload_n 3, 411, 3, 0) := rfl
theorem u27_411 : (xm_G 27).1.2.2.2.2.1 411 = (.monitorexit, 414, 16, 0) := rfl
theorem u27_414 : (xm_G 27).1.2.2.2.2.1 414 = (.istore 6, 416, 6, 0) := rfl
theorem u27_416 : (xm_G 27).1.2.2.2.2.1 416 = (.aload_n 2, 417, 2, 0) := rfl
theorem u27_417 : (xm_G 27).1.2.2.2.2.1 417 = (.aload_n 0, 418, 0, 0) := rfl
theorem u27_418 : (xm_G 27).1.2.2.2.2.1 418 = (.iload 5, 420, 5, 0) := rfl
theorem u27_420 : (xm_G 27).1.2.2.2.2.1 420 = (.iconst 1, 421, 1, 0) := rfl
theorem u27_421 : (xm_G 27).1.2.2.2.2.1 421 = (.iadd, 422, 0, 0) := rfl
theorem u27_422 : (xm_G 27).1.2.2.2.2.1 422 = (.iaload, 423, 0, 0) := rfl
theorem u27_423 : (xm_G 27).1.2.2.2.2.1 423 = (.aload_n 0, 424, 0, 0) := rfl
theorem u27_424 : (xm_G 27).1.2.2.2.2.1 424 = (.iload 5, 426, 5, 0) := rfl
theorem u27_426 : (xm_G 27).1.2.2.2.2.1 426 = (.iconst 2, 427, 2, 0) := rfl
theorem u27_427 : (xm_G 27).1.2.2.2.2.1 427 = (.iadd, 428, 0, 0) := rfl
theorem u27_428 : (xm_G 27).1.2.2.2.2.1 428 = (.iaload, 429, 0, 0) := rfl
theorem u27_429 : (xm_G 27).1.2.2.2.2.1 429 = (.aload_n 0, 430, 0, 0) := rfl
theorem u27_430 : (xm_G 27).1.2.2.2.2.1 430 = (.iload 5, 432, 5, 0) := rfl
theorem u27_432 : (xm_G 27).1.2.2.2.2.1 432 = (.iconst 3, 433, 3, 0) := rfl
theorem u27_433 : (xm_G 27).1.2.2.2.2.1 433 = (.iadd, 434, 0, 0) := rfl
theorem u27_434 : (xm_G 27).1.2.2.2.2.1 434 = (.iaload, 435, 0, 0) := rfl
theorem u27_435 : (xm_G 27).1.2.2.2.2.1 435 = (.aload_n 0, 436, 0, 0) := rfl
theorem u27_436 : (xm_G 27).1.2.2.2.2.1 436 = (.iload 5, 438, 5, 0) := rfl
theorem u27_438 : (xm_G 27).1.2.2.2.2.1 438 = (.iconst 4, 439, 4, 0) := rfl
theorem u27_439 : (xm_G 27).1.2.2.2.2.1 439 = (.iadd, 440, 0, 0) := rfl
theorem u27_440 : (xm_G 27).1.2.2.2.2.1 440 = (.iaload, 441, 0, 0) := rfl
theorem u27_441 : (xm_G 27).1.2.2.2.2.1 441 = (.invokevirtual 89, 444, 106, 8) := rfl
theorem u27_444 : (xm_G 27).1.2.2.2.2.1 444 = (.istore 7, 446, 7, 0) := rfl
theorem u27_446 : (xm_G 27).1.2.2.2.2.1 446 = (.aload_n 2, 447, 2, 0) := rfl
theorem u27_447 : (xm_G 27).1.2.2.2.2.1 447 = (.invokevirtual 79, 450, 96, 8) := rfl
theorem u27_450 : (xm_G 27).1.2.2.2.2.1 450 = (.iload 6, 452, 6, 0) := rfl
theorem u27_452 : (xm_G 27).1.2.2.2.2.1 452 = (.if_icmp .eq 5, 455, 457, 0) := rfl
theorem u27_455 : (xm_G 27).1.2.2.2.2.1 455 = (.iconst 0, 456, 0, 0) := rfl
theorem u27_456 : (xm_G 27).1.2.2.2.2.1 456 = (.ireturn, 457, 0, 0) := rfl
theorem u27_457 : (xm_G 27).1.2.2.2.2.1 457 = (.iload 6, 459, 6, 0) := rfl
theorem u27_459 : (xm_G 27).1.2.2.2.2.1 459 = (.ifCond .ne 15, 462, 474, 0) := rfl
theorem u27_462 : (xm_G 27).1.2.2.2.2.1 462 = (.aload_n 3, 463, 3, 0) := rfl
theorem u27_463 : (xm_G 27).1.2.2.2.2.1 463 = (.iconst 0, 464, 0, 0) := rfl
theorem u27_464 : (xm_G 27).1.2.2.2.2.1 464 = (.laload, 465, 0, 0) := rfl
theorem u27_465 : (xm_G 27).1.2.2.2.2.1 465 = (.iload 7, 467, 7, 0) := rfl
theorem u27_467 : (xm_G 27).1.2.2.2.2.1 467 = (.i2l, 468, 0, 0) := rfl
theorem u27_468 : (xm_G 27).1.2.2.2.2.1 468 = (.lcmp, 469, 0, 0) := rfl
theorem u27_469 : (xm_G 27).1.2.2.2.2.1 469 = (.ifCond .eq 5, 472, 474, 0) := rfl
theorem u27_472 : (xm_G 27).1.2.2.2.2.1 472 = (.iconst 0, 473, 0, 0) := rfl
theorem u27_473 : (xm_G 27).1.2.2.2.2.1 473 = (.ireturn, 474, 0, 0) := rfl
theorem u27_474 : (xm_G 27).1.2.2.2.2.1 474 = (.goto 914, 477, 1388, 0) := rfl
theorem u27_477 : (xm_G 27).1.2.2.2.2.1 477 = (.aload_n 1, 478, 1, 0) := rfl
theorem u27_478 : (xm_G 27).1.2.2.2.2.1 478 = (.aload_n 0, 479, 0, 0) := rfl
theorem u27_479 : (xm_G 27).1.2.2.2.2.1 479 = (.iload 5, 481, 5, 0) := rfl
theorem u27_481 : (xm_G 27).1.2.2.2.2.1 481 = (.iconst 1, 482, 1, 0) := rfl
theorem u27_482 : (xm_G 27).1.2.2.2.2.1 482 = (.iadd, 483, 0, 0) := rfl
theorem u27_483 : (xm_G 27).1.2.2.2.2.1 483 = (.iaload, 484, 0, 0) := rfl
theorem u27_484 : (xm_G 27).1.2.2.2.2.1 484 = (.i2c, 485, 0, 0) := rfl
theorem u27_485 : (xm_G 27).1.2.2.2.2.1 485 = (.aload_n 0, 486, 0, 0) := rfl
theorem u27_486 : (xm_G 27).1.2.2.2.2.1 486 = (.iload 5, 488, 5, 0) := rfl
theorem u27_488 : (xm_G 27).1.2.2.2.2.1 488 = (.iconst 2, 489, 2, 0) := rfl
theorem u27_489 : (xm_G 27).1.2.2.2.2.1 489 = (.iadd, 490, 0, 0) := rfl
theorem u27_490 : (xm_G 27).1.2.2.2.2.1 490 = (.iaload, 491, 0, 0) := rfl
theorem u27_491 : (xm_G 27).1.2.2.2.2.1 491 = (.aload_n 0, 492, 0, 0) := rfl
theorem u27_492 : (xm_G 27).1.2.2.2.2.1 492 = (.iload 5, 494, 5, 0) := rfl
theorem u27_494 : (xm_G 27).1.2.2.2.2.1 494 = (.iconst 3, 495, 3, 0) := rfl
theorem u27_495 : (xm_G 27).1.2.2.2.2.1 495 = (.iadd, 496, 0, 0) := rfl
theorem u27_496 : (xm_G 27).1.2.2.2.2.1 496 = (.iaload, 497, 0, 0) := rfl
theorem u27_497 : (xm_G 27).1.2.2.2.2.1 497 = (.aload_n 0, 498, 0, 0) := rfl
theorem u27_498 : (xm_G 27).1.2.2.2.2.1 498 = (.iload 5, 500, 5, 0) := rfl
theorem u27_500 : (xm_G 27).1.2.2.2.2.1 500 = (.iconst 4, 501, 4, 0) := rfl
theorem u27_501 : (xm_G 27).1.2.2.2.2.1 501 = (.iadd, 502, 0, 0) := rfl
theorem u27_502 : (xm_G 27).1.2.2.2.2.1 502 = (.iaload, 503, 0, 0) := rfl
theorem u27_503 : (xm_G 27).1.2.2.2.2.1 503 = (.aload_n 3, 504, 3, 0) := rfl
theorem u27_504 : (xm_G 27).1.2.2.2.2.1 504 = (.monitorexit, 507, 17, 0) := rfl
theorem u27_507 : (xm_G 27).1.2.2.2.2.1 507 = (.istore 6, 509, 6, 0) := rfl
theorem u27_509 : (xm_G 27).1.2.2.2.2.1 509 = (.aload_n 2, 510, 2, 0) := rfl
theorem u27_510 : (xm_G 27).1.2.2.2.2.1 510 = (.aload_n 0, 511, 0, 0) := rfl
theorem u27_511 : (xm_G 27).1.2.2.2.2.1 511 = (.iload 5, 513, 5, 0) := rfl
theorem u27_513 : (xm_G 27).1.2.2.2.2.1 513 = (.iconst 1, 514, 1, 0) := rfl
theorem u27_514 : (xm_G 27).1.2.2.2.2.1 514 = (.iadd, 515, 0, 0) := rfl
theorem u27_515 : (xm_G 27).1.2.2.2.2.1 515 = (.iaload, 516, 0, 0) := rfl
theorem u27_516 : (xm_G 27).1.2.2.2.2.1 516 = (.i2c, 517, 0, 0) := rfl
theorem u27_517 : (xm_G 27).1.2.2.2.2.1 517 = (.aload_n 0, 518, 0, 0) := rfl
theorem u27_518 : (xm_G 27).1.2.2.2.2.1 518 = (.iload 5, 520, 5, 0) := rfl
theorem u27_520 : (xm_G 27).1.2.2.2.2.1 520 = (.iconst 2, 521, 2, 0) := rfl
theorem u27_521 : (xm_G 27).1.2.2.2.2.1 521 = (.iadd, 522, 0, 0) := rfl
theorem u27_522 : (xm_G 27).1.2.2.2.2.1 522 = (.iaload, 523, 0, 0) := rfl
theorem u27_523 : (xm_G 27).1.2.2.2.2.1 523 = (.aload_n 0, 524, 0, 0) := rfl
theorem u27_524 : (xm_G 27).1.2.2.2.2.1 524 = (.iload 5, 526, 5, 0) := rfl
theorem u27_526 : (xm_G 27).1.2.2.2.2.1 526 = (.iconst 3, 527, 3, 0) := rfl
theorem u27_527 : (xm_G 27).1.2.2.2.2.1 527 = (.iadd, 528, 0, 0) := rfl
theorem u27_528 : (xm_G 27).1.2.2.2.2.1 528 = (.iaload, 529, 0, 0) := rfl
theorem u27_529 : (xm_G 27).1.2.2.2.2.1 529 = (.aload_n 0, 530, 0, 0) := rfl
theorem u27_530 : (xm_G 27).1.2.2.2.2.1 530 = (.iload 5, 532, 5, 0) := rfl
theorem u27_532 : (xm_G 27).1.2.2.2.2.1 532 = (.iconst 4, 533, 4, 0) := rfl
theorem u27_533 : (xm_G 27).1.2.2.2.2.1 533 = (.iadd, 534, 0, 0) := rfl
theorem u27_534 : (xm_G 27).1.2.2.2.2.1 534 = (.iaload, 535, 0, 0) := rfl
theorem u27_535 : (xm_G 27).1.2.2.2.2.1 535 = (.invokevirtual 93, 538, 109, 8) := rfl
theorem u27_538 : (xm_G 27).1.2.2.2.2.1 538 = (.istore 7, 540, 7, 0) := rfl
theorem u27_540 : (xm_G 27).1.2.2.2.2.1 540 = (.aload_n 2, 541, 2, 0) := rfl
theorem u27_541 : (xm_G 27).1.2.2.2.2.1 541 = (.invokevirtual 79, 544, 96, 8) := rfl
theorem u27_544 : (xm_G 27).1.2.2.2.2.1 544 = (.iload 6, 546, 6, 0) := rfl
theorem u27_546 : (xm_G 27).1.2.2.2.2.1 546 = (.if_icmp .eq 5, 549, 551, 0) := rfl
theorem u27_549 : (xm_G 27).1.2.2.2.2.1 549 = (.iconst 0, 550, 0, 0) := rfl
theorem u27_550 : (xm_G 27).1.2.2.2.2.1 550 = (.ireturn, 551, 0, 0) := rfl
theorem u27_551 : (xm_G 27).1.2.2.2.2.1 551 = (.iload 6, 553, 6, 0) := rfl
theorem u27_553 : (xm_G 27).1.2.2.2.2.1 553 = (.ifCond .ne 15, 556, 568, 0) := rfl
theorem u27_556 : (xm_G 27).1.2.2.2.2.1 556 = (.aload_n 3, 557, 3, 0) := rfl
theorem u27_557 : (xm_G 27).1.2.2.2.2.1 557 = (.iconst 0, 558, 0, 0) := rfl
theorem u27_558 : (xm_G 27).1.2.2.2.2.1 558 = (.laload, 559, 0, 0) := rfl
theorem u27_559 : (xm_G 27).1.2.2.2.2.1 559 = (.iload 7, 561, 7, 0) := rfl
theorem u27_561 : (xm_G 27).1.2.2.2.2.1 561 = (.i2l, 562, 0, 0) := rfl
theorem u27_562 : (xm_G 27).1.2.2.2.2.1 562 = (.lcmp, 563, 0, 0) := rfl
theorem u27_563 : (xm_G 27).1.2.2.2.2.1 563 = (.ifCond .eq 5, 566, 568, 0) := rfl
theorem u27_566 : (xm_G 27).1.2.2.2.2.1 566 = (.iconst 0, 567, 0, 0) := rfl
theorem u27_567 : (xm_G 27).1.2.2.2.2.1 567 = (.ireturn, 568, 0, 0) := rfl
theorem u27_568 : (xm_G 27).1.2.2.2.2.1 568 = (.goto 820, 571, 1388, 0) := rfl
theorem u27_571 : (xm_G 27).1.2.2.2.2.1 571 = (.aload_n 1, 572, 1, 0) := rfl
theorem u27_572 : (xm_G 27).1.2.2.2.2.1 572 = (.aload_n 3, 573, 3, 0) := rfl
theorem u27_573 : (xm_G 27).1.2.2.2.2.1 573 = (.monitorexit, 576, 18, 0) := rfl
theorem u27_576 : (xm_G 27).1.2.2.2.2.1 576 = (.istore 6, 578, 6, 0) := rfl
theorem u27_578 : (xm_G 27).1.2.2.2.2.1 578 = (.aload_n 2, 579, 2, 0) := rfl
theorem u27_579 : (xm_G 27).1.2.2.2.2.1 579 = (.invokevirtual 97, 582, 110, 8) := rfl
theorem u27_582 : (xm_G 27).1.2.2.2.2.1 582 = (.istore 7, 584, 7, 0) := rfl
theorem u27_584 : (xm_G 27).1.2.2.2.2.1 584 = (.aload_n 2, 585, 2, 0) := rfl
theorem u27_585 : (xm_G 27).1.2.2.2.2.1 585 = (.invokevirtual 79, 588, 96, 8) := rfl
theorem u27_588 : (xm_G 27).1.2.2.2.2.1 588 = (.iload 6, 590, 6, 0) := rfl
theorem u27_590 : (xm_G 27).1.2.2.2.2.1 590 = (.if_icmp .eq 5, 593, 595, 0) := rfl
theorem u27_593 : (xm_G 27).1.2.2.2.2.1 593 = (.iconst 0, 594, 0, 0) := rfl
theorem u27_594 : (xm_G 27).1.2.2.2.2.1 594 = (.ireturn, 595, 0, 0) := rfl
theorem u27_595 : (xm_G 27).1.2.2.2.2.1 595 = (.iload 6, 597, 6, 0) := rfl
theorem u27_597 : (xm_G 27).1.2.2.2.2.1 597 = (.ifCond .ne 15, 600, 612, 0) := rfl
theorem u27_600 : (xm_G 27).1.2.2.2.2.1 600 = (.aload_n 3, 601, 3, 0) := rfl
theorem u27_601 : (xm_G 27).1.2.2.2.2.1 601 = (.iconst 0, 602, 0, 0) := rfl
theorem u27_602 : (xm_G 27).1.2.2.2.2.1 602 = (.laload, 603, 0, 0) := rfl
theorem u27_603 : (xm_G 27).1.2.2.2.2.1 603 = (.iload 7, 605, 7, 0) := rfl
theorem u27_605 : (xm_G 27).1.2.2.2.2.1 605 = (.i2l, 606, 0, 0) := rfl
theorem u27_606 : (xm_G 27).1.2.2.2.2.1 606 = (.lcmp, 607, 0, 0) := rfl
theorem u27_607 : (xm_G 27).1.2.2.2.2.1 607 = (.ifCond .eq 5, 610, 612, 0) := rfl
theorem u27_610 : (xm_G 27).1.2.2.2.2.1 610 = (.iconst 0, 611, 0, 0) := rfl
theorem u27_611 : (xm_G 27).1.2.2.2.2.1 611 = (.ireturn, 612, 0, 0) := rfl
theorem u27_612 : (xm_G 27).1.2.2.2.2.1 612 = (.goto 776, 615, 1388, 0) := rfl
theorem u27_615 : (xm_G 27).1.2.2.2.2.1 615 = (.aload_n 1, 616, 1, 0) := rfl
theorem u27_616 : (xm_G 27).1.2.2.2.2.1 616 = (.invokevirtual 98, 619, 70, 7) := rfl
theorem u27_619 : (xm_G 27).1.2.2.2.2.1 619 = (.aload_n 2, 620, 2, 0) := rfl
theorem u27_620 : (xm_G 27).1.2.2.2.2.1 620 = (.invokevirtual 102, 623, 113, 8) := rfl
theorem u27_623 : (xm_G 27).1.2.2.2.2.1 623 = (.if_icmp .eq 765, 626, 1388, 0) := rfl
theorem u27_626 : (xm_G 27).1.2.2.2.2.1 626 = (.iconst 0, 627, 0, 0) := rfl
theorem u27_627 : (xm_G 27).1.2.2.2.2.1 627 = (.ireturn, 628, 0, 0) := rfl
theorem u27_628 : (xm_G 27).1.2.2.2.2.1 628 = (.aload_n 1, 629, 1, 0) := rfl
theorem u27_629 : (xm_G 27).1.2.2.2.2.1 629 = (.aload_n 0, 630, 0, 0) := rfl
theorem u27_630 : (xm_G 27).1.2.2.2.2.1 630 = (.iload 5, 632, 5, 0) := rfl
theorem u27_632 : (xm_G 27).1.2.2.2.2.1 632 = (.iconst 1, 633, 1, 0) := rfl
theorem u27_633 : (xm_G 27).1.2.2.2.2.1 633 = (.iadd, 634, 0, 0) := rfl
theorem u27_634 : (xm_G 27).1.2.2.2.2.1 634 = (.iaload, 635, 0, 0) := rfl
theorem u27_635 : (xm_G 27).1.2.2.2.2.1 635 = (.aload_n 3, 636, 3, 0) := rfl
theorem u27_636 : (xm_G 27).1.2.2.2.2.1 636 = (.monitorexit, 639, 19, 0) := rfl
theorem u27_639 : (xm_G 27).1.2.2.2.2.1 639 = (.istore 6, 641, 6, 0) := rfl
theorem u27_641 : (xm_G 27).1.2.2.2.2.1 641 = (.aload_n 2, 642, 2, 0) := rfl
theorem u27_642 : (xm_G 27).1.2.2.2.2.1 642 = (.aload_n 0, 643, 0, 0) := rfl
theorem u27_643 : (xm_G 27).1.2.2.2.2.1 643 = (.iload 5, 645, 5, 0) := rfl
theorem u27_645 : (xm_G 27).1.2.2.2.2.1 645 = (.iconst 1, 646, 1, 0) := rfl
theorem u27_646 : (xm_G 27).1.2.2.2.2.1 646 = (.iadd, 647, 0, 0) := rfl
theorem u27_647 : (xm_G 27).1.2.2.2.2.1 647 = (.iaload, 648, 0, 0) := rfl
theorem u27_648 : (xm_G 27).1.2.2.2.2.1 648 = (.invokevirtual 106, 651, 134, 8) := rfl
theorem u27_651 : (xm_G 27).1.2.2.2.2.1 651 = (.istore 7, 653, 7, 0) := rfl
theorem u27_653 : (xm_G 27).1.2.2.2.2.1 653 = (.aload_n 2, 654, 2, 0) := rfl
theorem u27_654 : (xm_G 27).1.2.2.2.2.1 654 = (.invokevirtual 79, 657, 96, 8) := rfl
theorem u27_657 : (xm_G 27).1.2.2.2.2.1 657 = (.iload 6, 659, 6, 0) := rfl
theorem u27_659 : (xm_G 27).1.2.2.2.2.1 659 = (.if_icmp .eq 5, 662, 664, 0) := rfl
theorem u27_662 : (xm_G 27).1.2.2.2.2.1 662 = (.iconst 0, 663, 0, 0) := rfl
theorem u27_663 : (xm_G 27).1.2.2.2.2.1 663 = (.ireturn, 664, 0, 0) := rfl
theorem u27_664 : (xm_G 27).1.2.2.2.2.1 664 = (.iload 6, 666, 6, 0) := rfl
theorem u27_666 : (xm_G 27).1.2.2.2.2.1 666 = (.ifCond .ne 15, 669, 681, 0) := rfl
theorem u27_669 : (xm_G 27).1.2.2.2.2.1 669 = (.aload_n 3, 670, 3, 0) := rfl
theorem u27_670 : (xm_G 27).1.2.2.2.2.1 670 = (.iconst 0, 671, 0, 0) := rfl
theorem u27_671 : (xm_G 27).1.2.2.2.2.1 671 = (.laload, 672, 0, 0) := rfl
theorem u27_672 : (xm_G 27).1.2.2.2.2.1 672 = (.iload 7, 674, 7, 0) := rfl
theorem u27_674 : (xm_G 27).1.2.2.2.2.1 674 = (.i2l, 675, 0, 0) := rfl
theorem u27_675 : (xm_G 27).1.2.2.2.2.1 675 = (.lcmp, 676, 0, 0) := rfl
theorem u27_676 : (xm_G 27).1.2.2.2.2.1 676 = (.ifCond .eq 5, 679, 681, 0) := rfl
theorem u27_679 : (xm_G 27).1.2.2.2.2.1 679 = (.iconst 0, 680, 0, 0) := rfl
theorem u27_680 : (xm_G 27).1.2.2.2.2.1 680 = (.ireturn, 681, 0, 0) := rfl
theorem u27_681 : (xm_G 27).1.2.2.2.2.1 681 = (.goto 707, 684, 1388, 0) := rfl
theorem u27_684 : (xm_G 27).1.2.2.2.2.1 684 = (.aload_n 1, 685, 1, 0) := rfl
theorem u27_685 : (xm_G 27).1.2.2.2.2.1 685 = (.invokevirtual 107, 688, 71, 7) := rfl
theorem u27_688 : (xm_G 27).1.2.2.2.2.1 688 = (.aload_n 2, 689, 2, 0) := rfl
theorem u27_689 : (xm_G 27).1.2.2.2.2.1 689 = (.invokevirtual 110, 692, 135, 8) := rfl
theorem u27_692 : (xm_G 27).1.2.2.2.2.1 692 = (.if_icmp .eq 696, 695, 1388, 0) := rfl
theorem u27_695 : (xm_G 27).1.2.2.2.2.1 695 = (.iconst 0, 696, 0, 0) := rfl
theorem u27_696 : (xm_G 27).1.2.2.2.2.1 696 = (.ireturn, 697, 0, 0) := rfl
theorem u27_697 : (xm_G 27).1.2.2.2.2.1 697 = (.aload_n 1, 698, 1, 0) := rfl
theorem u27_698 : (xm_G 27).1.2.2.2.2.1 698 = (.invokevirtual 111, 701, 72, 7) := rfl
theorem u27_701 : (xm_G 27).1.2.2.2.2.1 701 = (.aload_n 2, 702, 2, 0) := rfl
theorem u27_702 : (xm_G 27).1.2.2.2.2.1 702 = (.invokevirtual 115, 705, 136, 8) := rfl
theorem u27_705 : (xm_G 27).1.2.2.2.2.1 705 = (.if_icmp .eq 683, 708, 1388, 0) := rfl
theorem u27_708 : (xm_G 27).1.2.2.2.2.1 708 = (.iconst 0, 709, 0, 0) := rfl
theorem u27_709 : (xm_G 27).1.2.2.2.2.1 709 = (.ireturn, 710, 0, 0) := rfl
theorem u27_710 : (xm_G 27).1.2.2.2.2.1 710 = (.aload_n 1, 711, 1, 0) := rfl
theorem u27_711 : (xm_G 27).1.2.2.2.2.1 711 = (.invokevirtual 116, 714, 73, 7) := rfl
theorem u27_714 : (xm_G 27).1.2.2.2.2.1 714 = (.aload_n 2, 715, 2, 0) := rfl
theorem u27_715 : (xm_G 27).1.2.2.2.2.1 715 = (.invokevirtual 119, 718, 137, 8) := rfl
theorem u27_718 : (xm_G 27).1.2.2.2.2.1 718 = (.if_icmp .eq 670, 721, 1388, 0) := rfl
theorem u27_721 : (xm_G 27).1.2.2.2.2.1 721 = (.iconst 0, 722, 0, 0) := rfl
theorem u27_722 : (xm_G 27).1.2.2.2.2.1 722 = (.ireturn, 723, 0, 0) := rfl
theorem u27_723 : (xm_G 27).1.2.2.2.2.1 723 = (.aload_n 1, 724, 1, 0) := rfl
theorem u27_724 : (xm_G 27).1.2.2.2.2.1 724 = (.invokevirtual 120, 727, 74, 7) := rfl
theorem u27_727 : (xm_G 27).1.2.2.2.2.1 727 = (.aload_n 2, 728, 2, 0) := rfl
theorem u27_728 : (xm_G 27).1.2.2.2.2.1 728 = (.invokevirtual 123, 731, 138, 8) := rfl
theorem u27_731 : (xm_G 27).1.2.2.2.2.1 731 = (.if_icmp .eq 657, 734, 1388, 0) := rfl
theorem u27_734 : (xm_G 27).1.2.2.2.2.1 734 = (.iconst 0, 735, 0, 0) := rfl
theorem u27_735 : (xm_G 27).1.2.2.2.2.1 735 = (.ireturn, 736, 0, 0) := rfl
theorem u27_736 : (xm_G 27).1.2.2.2.2.1 736 = (.aload_n 1, 737, 1, 0) := rfl
theorem u27_737 : (xm_G 27).1.2.2.2.2.1 737 = (.invokevirtual 124, 740, 75, 7) := rfl
theorem u27_740 : (xm_G 27).1.2.2.2.2.1 740 = (.aload_n 2, 741, 2, 0) := rfl
theorem u27_741 : (xm_G 27).1.2.2.2.2.1 741 = (.invokevirtual 127, 744, 139, 8) := rfl
theorem u27_744 : (xm_G 27).1.2.2.2.2.1 744 = (.if_icmp .eq 644, 747, 1388, 0) := rfl
theorem u27_747 : (xm_G 27).1.2.2.2.2.1 747 = (.iconst 0, 748, 0, 0) := rfl
theorem u27_748 : (xm_G 27).1.2.2.2.2.1 748 = (.ireturn, 749, 0, 0) := rfl
theorem u27_749 : (xm_G 27).1.2.2.2.2.1 749 = (.aload_n 1, 750, 1, 0) := rfl
theorem u27_750 : (xm_G 27).1.2.2.2.2.1 750 = (.aload_n 0, 751, 0, 0) := rfl
theorem u27_751 : (xm_G 27).1.2.2.2.2.1 751 = (.iload 5, 753, 5, 0) := rfl
theorem u27_753 : (xm_G 27).1.2.2.2.2.1 753 = (.iconst 1, 754, 1, 0) := rfl
theorem u27_754 : (xm_G 27).1.2.2.2.2.1 754 = (.iadd, 755, 0, 0) := rfl
theorem u27_755 : (xm_G 27).1.2.2.2.2.1 755 = (.iaload, 756, 0, 0) := rfl
theorem u27_756 : (xm_G 27).1.2.2.2.2.1 756 = (.aload_n 3, 757, 3, 0) := rfl
theorem u27_757 : (xm_G 27).1.2.2.2.2.1 757 = (.monitorexit, 760, 20, 0) := rfl
theorem u27_760 : (xm_G 27).1.2.2.2.2.1 760 = (.istore 6, 762, 6, 0) := rfl
theorem u27_762 : (xm_G 27).1.2.2.2.2.1 762 = (.aload_n 2, 763, 2, 0) := rfl
theorem u27_763 : (xm_G 27).1.2.2.2.2.1 763 = (.aload_n 0, 764, 0, 0) := rfl
theorem u27_764 : (xm_G 27).1.2.2.2.2.1 764 = (.iload 5, 766, 5, 0) := rfl
theorem u27_766 : (xm_G 27).1.2.2.2.2.1 766 = (.iconst 1, 767, 1, 0) := rfl
theorem u27_767 : (xm_G 27).1.2.2.2.2.1 767 = (.iadd, 768, 0, 0) := rfl
theorem u27_768 : (xm_G 27).1.2.2.2.2.1 768 = (.iaload, 769, 0, 0) := rfl
theorem u27_769 : (xm_G 27).1.2.2.2.2.1 769 = (.invokevirtual 130, 772, 140, 8) := rfl
theorem u27_772 : (xm_G 27).1.2.2.2.2.1 772 = (.istore 7, 774, 7, 0) := rfl
theorem u27_774 : (xm_G 27).1.2.2.2.2.1 774 = (.aload_n 2, 775, 2, 0) := rfl
theorem u27_775 : (xm_G 27).1.2.2.2.2.1 775 = (.invokevirtual 79, 778, 96, 8) := rfl
theorem u27_778 : (xm_G 27).1.2.2.2.2.1 778 = (.iload 6, 780, 6, 0) := rfl
theorem u27_780 : (xm_G 27).1.2.2.2.2.1 780 = (.if_icmp .eq 5, 783, 785, 0) := rfl
theorem u27_783 : (xm_G 27).1.2.2.2.2.1 783 = (.iconst 0, 784, 0, 0) := rfl
theorem u27_784 : (xm_G 27).1.2.2.2.2.1 784 = (.ireturn, 785, 0, 0) := rfl
theorem u27_785 : (xm_G 27).1.2.2.2.2.1 785 = (.iload 6, 787, 6, 0) := rfl
theorem u27_787 : (xm_G 27).1.2.2.2.2.1 787 = (.ifCond .ne 15, 790, 802, 0) := rfl
theorem u27_790 : (xm_G 27).1.2.2.2.2.1 790 = (.aload_n 3, 791, 3, 0) := rfl
theorem u27_791 : (xm_G 27).1.2.2.2.2.1 791 = (.iconst 0, 792, 0, 0) := rfl
theorem u27_792 : (xm_G 27).1.2.2.2.2.1 792 = (.laload, 793, 0, 0) := rfl
theorem u27_793 : (xm_G 27).1.2.2.2.2.1 793 = (.iload 7, 795, 7, 0) := rfl
theorem u27_795 : (xm_G 27).1.2.2.2.2.1 795 = (.i2l, 796, 0, 0) := rfl
theorem u27_796 : (xm_G 27).1.2.2.2.2.1 796 = (.lcmp, 797, 0, 0) := rfl
theorem u27_797 : (xm_G 27).1.2.2.2.2.1 797 = (.ifCond .eq 5, 800, 802, 0) := rfl
theorem u27_800 : (xm_G 27).1.2.2.2.2.1 800 = (.iconst 0, 801, 0, 0) := rfl
theorem u27_801 : (xm_G 27).1.2.2.2.2.1 801 = (.ireturn, 802, 0, 0) := rfl
theorem u27_802 : (xm_G 27).1.2.2.2.2.1 802 = (.goto 586, 805, 1388, 0) := rfl
theorem u27_805 : (xm_G 27).1.2.2.2.2.1 805 = (.aload_n 1, 806, 1, 0) := rfl
theorem u27_806 : (xm_G 27).1.2.2.2.2.1 806 = (.aload_n 0, 807, 0, 0) := rfl
theorem u27_807 : (xm_G 27).1.2.2.2.2.1 807 = (.iload 5, 809, 5, 0) := rfl
theorem u27_809 : (xm_G 27).1.2.2.2.2.1 809 = (.iconst 1, 810, 1, 0) := rfl
theorem u27_810 : (xm_G 27).1.2.2.2.2.1 810 = (.iadd, 811, 0, 0) := rfl
theorem u27_811 : (xm_G 27).1.2.2.2.2.1 811 = (.iaload, 812, 0, 0) := rfl
theorem u27_812 : (xm_G 27).1.2.2.2.2.1 812 = (.aload_n 3, 813, 3, 0) := rfl
theorem u27_813 : (xm_G 27).1.2.2.2.2.1 813 = (.monitorexit, 816, 21, 0) := rfl
theorem u27_816 : (xm_G 27).1.2.2.2.2.1 816 = (.istore 6, 818, 6, 0) := rfl
theorem u27_818 : (xm_G 27).1.2.2.2.2.1 818 = (.aload_n 2, 819, 2, 0) := rfl
theorem u27_819 : (xm_G 27).1.2.2.2.2.1 819 = (.aload_n 0, 820, 0, 0) := rfl
theorem u27_820 : (xm_G 27).1.2.2.2.2.1 820 = (.iload 5, 822, 5, 0) := rfl
theorem u27_822 : (xm_G 27).1.2.2.2.2.1 822 = (.iconst 1, 823, 1, 0) := rfl
theorem u27_823 : (xm_G 27).1.2.2.2.2.1 823 = (.iadd, 824, 0, 0) := rfl
theorem u27_824 : (xm_G 27).1.2.2.2.2.1 824 = (.iaload, 825, 0, 0) := rfl
theorem u27_825 : (xm_G 27).1.2.2.2.2.1 825 = (.invokevirtual 133, 828, 141, 8) := rfl
theorem u27_828 : (xm_G 27).1.2.2.2.2.1 828 = (.istore 7, 830, 7, 0) := rfl
theorem u27_830 : (xm_G 27).1.2.2.2.2.1 830 = (.aload_n 2, 831, 2, 0) := rfl
theorem u27_831 : (xm_G 27).1.2.2.2.2.1 831 = (.invokevirtual 79, 834, 96, 8) := rfl
theorem u27_834 : (xm_G 27).1.2.2.2.2.1 834 = (.iload 6, 836, 6, 0) := rfl
theorem u27_836 : (xm_G 27).1.2.2.2.2.1 836 = (.if_icmp .eq 5, 839, 841, 0) := rfl
theorem u27_839 : (xm_G 27).1.2.2.2.2.1 839 = (.iconst 0, 840, 0, 0) := rfl
theorem u27_840 : (xm_G 27).1.2.2.2.2.1 840 = (.ireturn, 841, 0, 0) := rfl
theorem u27_841 : (xm_G 27).1.2.2.2.2.1 841 = (.iload 6, 843, 6, 0) := rfl
theorem u27_843 : (xm_G 27).1.2.2.2.2.1 843 = (.ifCond .ne 15, 846, 858, 0) := rfl
theorem u27_846 : (xm_G 27).1.2.2.2.2.1 846 = (.aload_n 3, 847, 3, 0) := rfl
theorem u27_847 : (xm_G 27).1.2.2.2.2.1 847 = (.iconst 0, 848, 0, 0) := rfl
theorem u27_848 : (xm_G 27).1.2.2.2.2.1 848 = (.laload, 849, 0, 0) := rfl
theorem u27_849 : (xm_G 27).1.2.2.2.2.1 849 = (.iload 7, 851, 7, 0) := rfl
theorem u27_851 : (xm_G 27).1.2.2.2.2.1 851 = (.i2l, 852, 0, 0) := rfl
theorem u27_852 : (xm_G 27).1.2.2.2.2.1 852 = (.lcmp, 853, 0, 0) := rfl
theorem u27_853 : (xm_G 27).1.2.2.2.2.1 853 = (.ifCond .eq 5, 856, 858, 0) := rfl
theorem u27_856 : (xm_G 27).1.2.2.2.2.1 856 = (.iconst 0, 857, 0, 0) := rfl
theorem u27_857 : (xm_G 27).1.2.2.2.2.1 857 = (.ireturn, 858, 0, 0) := rfl
theorem u27_858 : (xm_G 27).1.2.2.2.2.1 858 = (.goto 530, 861, 1388, 0) := rfl
theorem u27_861 : (xm_G 27).1.2.2.2.2.1 861 = (.aload_n 1, 862, 1, 0) := rfl
theorem u27_862 : (xm_G 27).1.2.2.2.2.1 862 = (.invokevirtual 134, 865, 76, 7) := rfl
theorem u27_865 : (xm_G 27).1.2.2.2.2.1 865 = (.aload_n 2, 866, 2, 0) := rfl
theorem u27_866 : (xm_G 27).1.2.2.2.2.1 866 = (.invokevirtual 137, 869, 142, 8) := rfl
theorem u27_869 : (xm_G 27).1.2.2.2.2.1 869 = (.if_icmp .eq 519, 872, 1388, 0) := rfl
theorem u27_872 : (xm_G 27).1.2.2.2.2.1 872 = (.iconst 0, 873, 0, 0) := rfl
theorem u27_873 : (xm_G 27).1.2.2.2.2.1 873 = (.ireturn, 874, 0, 0) := rfl
theorem u27_874 : (xm_G 27).1.2.2.2.2.1 874 = (.aload_n 1, 875, 1, 0) := rfl
theorem u27_875 : (xm_G 27).1.2.2.2.2.1 875 = (.aload_n 0, 876, 0, 0) := rfl
theorem u27_876 : (xm_G 27).1.2.2.2.2.1 876 = (.iload 5, 878, 5, 0) := rfl
theorem u27_878 : (xm_G 27).1.2.2.2.2.1 878 = (.iconst 1, 879, 1, 0) := rfl
theorem u27_879 : (xm_G 27).1.2.2.2.2.1 879 = (.iadd, 880, 0, 0) := rfl
theorem u27_880 : (xm_G 27).1.2.2.2.2.1 880 = (.iaload, 881, 0, 0) := rfl
theorem u27_881 : (xm_G 27).1.2.2.2.2.1 881 = (.aload_n 0, 882, 0, 0) := rfl
theorem u27_882 : (xm_G 27).1.2.2.2.2.1 882 = (.iload 5, 884, 5, 0) := rfl
theorem u27_884 : (xm_G 27).1.2.2.2.2.1 884 = (.iconst 2, 885, 2, 0) := rfl
theorem u27_885 : (xm_G 27).1.2.2.2.2.1 885 = (.iadd, 886, 0, 0) := rfl
theorem u27_886 : (xm_G 27).1.2.2.2.2.1 886 = (.iaload, 887, 0, 0) := rfl
theorem u27_887 : (xm_G 27).1.2.2.2.2.1 887 = (.aload_n 3, 888, 3, 0) := rfl
theorem u27_888 : (xm_G 27).1.2.2.2.2.1 888 = (.monitorexit, 891, 22, 0) := rfl
theorem u27_891 : (xm_G 27).1.2.2.2.2.1 891 = (.istore 6, 893, 6, 0) := rfl
theorem u27_893 : (xm_G 27).1.2.2.2.2.1 893 = (.aload_n 2, 894, 2, 0) := rfl
theorem u27_894 : (xm_G 27).1.2.2.2.2.1 894 = (.aload_n 0, 895, 0, 0) := rfl
theorem u27_895 : (xm_G 27).1.2.2.2.2.1 895 = (.iload 5, 897, 5, 0) := rfl
theorem u27_897 : (xm_G 27).1.2.2.2.2.1 897 = (.iconst 1, 898, 1, 0) := rfl
theorem u27_898 : (xm_G 27).1.2.2.2.2.1 898 = (.iadd, 899, 0, 0) := rfl
theorem u27_899 : (xm_G 27).1.2.2.2.2.1 899 = (.iaload, 900, 0, 0) := rfl
theorem u27_900 : (xm_G 27).1.2.2.2.2.1 900 = (.aload_n 0, 901, 0, 0) := rfl
theorem u27_901 : (xm_G 27).1.2.2.2.2.1 901 = (.iload 5, 903, 5, 0) := rfl
theorem u27_903 : (xm_G 27).1.2.2.2.2.1 903 = (.iconst 2, 904, 2, 0) := rfl
theorem u27_904 : (xm_G 27).1.2.2.2.2.1 904 = (.iadd, 905, 0, 0) := rfl
theorem u27_905 : (xm_G 27).1.2.2.2.2.1 905 = (.iaload, 906, 0, 0) := rfl
theorem u27_906 : (xm_G 27).1.2.2.2.2.1 906 = (.invokevirtual 141, 909, 143, 8) := rfl
theorem u27_909 : (xm_G 27).1.2.2.2.2.1 909 = (.istore 7, 911, 7, 0) := rfl
theorem u27_911 : (xm_G 27).1.2.2.2.2.1 911 = (.aload_n 2, 912, 2, 0) := rfl
theorem u27_912 : (xm_G 27).1.2.2.2.2.1 912 = (.invokevirtual 79, 915, 96, 8) := rfl
theorem u27_915 : (xm_G 27).1.2.2.2.2.1 915 = (.iload 6, 917, 6, 0) := rfl
theorem u27_917 : (xm_G 27).1.2.2.2.2.1 917 = (.if_icmp .eq 5, 920, 922, 0) := rfl
theorem u27_920 : (xm_G 27).1.2.2.2.2.1 920 = (.iconst 0, 921, 0, 0) := rfl
theorem u27_921 : (xm_G 27).1.2.2.2.2.1 921 = (.ireturn, 922, 0, 0) := rfl
theorem u27_922 : (xm_G 27).1.2.2.2.2.1 922 = (.iload 6, 924, 6, 0) := rfl
theorem u27_924 : (xm_G 27).1.2.2.2.2.1 924 = (.ifCond .ne 15, 927, 939, 0) := rfl
theorem u27_927 : (xm_G 27).1.2.2.2.2.1 927 = (.aload_n 3, 928, 3, 0) := rfl
theorem u27_928 : (xm_G 27).1.2.2.2.2.1 928 = (.iconst 0, 929, 0, 0) := rfl
theorem u27_929 : (xm_G 27).1.2.2.2.2.1 929 = (.laload, 930, 0, 0) := rfl
theorem u27_930 : (xm_G 27).1.2.2.2.2.1 930 = (.iload 7, 932, 7, 0) := rfl
theorem u27_932 : (xm_G 27).1.2.2.2.2.1 932 = (.i2l, 933, 0, 0) := rfl
theorem u27_933 : (xm_G 27).1.2.2.2.2.1 933 = (.lcmp, 934, 0, 0) := rfl
theorem u27_934 : (xm_G 27).1.2.2.2.2.1 934 = (.ifCond .eq 5, 937, 939, 0) := rfl
theorem u27_937 : (xm_G 27).1.2.2.2.2.1 937 = (.iconst 0, 938, 0, 0) := rfl
theorem u27_938 : (xm_G 27).1.2.2.2.2.1 938 = (.ireturn, 939, 0, 0) := rfl
theorem u27_939 : (xm_G 27).1.2.2.2.2.1 939 = (.goto 449, 942, 1388, 0) := rfl
theorem u27_942 : (xm_G 27).1.2.2.2.2.1 942 = (.aload_n 1, 943, 1, 0) := rfl
theorem u27_943 : (xm_G 27).1.2.2.2.2.1 943 = (.aload_n 0, 944, 0, 0) := rfl
theorem u27_944 : (xm_G 27).1.2.2.2.2.1 944 = (.iload 5, 946, 5, 0) := rfl
theorem u27_946 : (xm_G 27).1.2.2.2.2.1 946 = (.iconst 1, 947, 1, 0) := rfl
theorem u27_947 : (xm_G 27).1.2.2.2.2.1 947 = (.iadd, 948, 0, 0) := rfl
theorem u27_948 : (xm_G 27).1.2.2.2.2.1 948 = (.iaload, 949, 0, 0) := rfl
theorem u27_949 : (xm_G 27).1.2.2.2.2.1 949 = (.aload_n 0, 950, 0, 0) := rfl
theorem u27_950 : (xm_G 27).1.2.2.2.2.1 950 = (.iload 5, 952, 5, 0) := rfl
theorem u27_952 : (xm_G 27).1.2.2.2.2.1 952 = (.iconst 2, 953, 2, 0) := rfl
theorem u27_953 : (xm_G 27).1.2.2.2.2.1 953 = (.iadd, 954, 0, 0) := rfl
theorem u27_954 : (xm_G 27).1.2.2.2.2.1 954 = (.iaload, 955, 0, 0) := rfl
theorem u27_955 : (xm_G 27).1.2.2.2.2.1 955 = (.aload_n 0, 956, 0, 0) := rfl
theorem u27_956 : (xm_G 27).1.2.2.2.2.1 956 = (.iload 5, 958, 5, 0) := rfl
theorem u27_958 : (xm_G 27).1.2.2.2.2.1 958 = (.iconst 3, 959, 3, 0) := rfl
theorem u27_959 : (xm_G 27).1.2.2.2.2.1 959 = (.iadd, 960, 0, 0) := rfl
theorem u27_960 : (xm_G 27).1.2.2.2.2.1 960 = (.iaload, 961, 0, 0) := rfl
theorem u27_961 : (xm_G 27).1.2.2.2.2.1 961 = (.aload_n 3, 962, 3, 0) := rfl
theorem u27_962 : (xm_G 27).1.2.2.2.2.1 962 = (.monitorexit, 965, 23, 0) := rfl
theorem u27_965 : (xm_G 27).1.2.2.2.2.1 965 = (.istore 6, 967, 6, 0) := rfl
theorem u27_967 : (xm_G 27).1.2.2.2.2.1 967 = (.aload_n 2, 968, 2, 0) := rfl
theorem u27_968 : (xm_G 27).1.2.2.2.2.1 968 = (.aload_n 0, 969, 0, 0) := rfl
theorem u27_969 : (xm_G 27).1.2.2.2.2.1 969 = (.iload 5, 971, 5, 0) := rfl
theorem u27_971 : (xm_G 27).1.2.2.2.2.1 971 = (.iconst 1, 972, 1, 0) := rfl
theorem u27_972 : (xm_G 27).1.2.2.2.2.1 972 = (.iadd, 973, 0, 0) := rfl
theorem u27_973 : (xm_G 27).1.2.2.2.2.1 973 = (.iaload, 974, 0, 0) := rfl
theorem u27_974 : (xm_G 27).1.2.2.2.2.1 974 = (.aload_n 0, 975, 0, 0) := rfl
theorem u27_975 : (xm_G 27).1.2.2.2.2.1 975 = (.iload 5, 977, 5, 0) := rfl
theorem u27_977 : (xm_G 27).1.2.2.2.2.1 977 = (.iconst 2, 978, 2, 0) := rfl
theorem u27_978 : (xm_G 27).1.2.2.2.2.1 978 = (.iadd, 979, 0, 0) := rfl
theorem u27_979 : (xm_G 27).1.2.2.2.2.1 979 = (.iaload, 980, 0, 0) := rfl
theorem u27_980 : (xm_G 27).1.2.2.2.2.1 980 = (.aload_n 0, 981, 0, 0) := rfl
theorem u27_981 : (xm_G 27).1.2.2.2.2.1 981 = (.iload 5, 983, 5, 0) := rfl
theorem u27_983 : (xm_G 27).1.2.2.2.2.1 983 = (.iconst 3, 984, 3, 0) := rfl
theorem u27_984 : (xm_G 27).1.2.2.2.2.1 984 = (.iadd, 985, 0, 0) := rfl
theorem u27_985 : (xm_G 27).1.2.2.2.2.1 985 = (.iaload, 986, 0, 0) := rfl
theorem u27_986 : (xm_G 27).1.2.2.2.2.1 986 = (.invokevirtual 145, 989, 144, 8) := rfl
theorem u27_989 : (xm_G 27).1.2.2.2.2.1 989 = (.istore 7, 991, 7, 0) := rfl
theorem u27_991 : (xm_G 27).1.2.2.2.2.1 991 = (.aload_n 2, 992, 2, 0) := rfl
theorem u27_992 : (xm_G 27).1.2.2.2.2.1 992 = (.invokevirtual 79, 995, 96, 8) := rfl
theorem u27_995 : (xm_G 27).1.2.2.2.2.1 995 = (.iload 6, 997, 6, 0) := rfl
theorem u27_997 : (xm_G 27).1.2.2.2.2.1 997 = (.if_icmp .eq 5, 1000, 1002, 0) := rfl
theorem u27_1000 : (xm_G 27).1.2.2.2.2.1 1000 = (.iconst 0, 1001, 0, 0) := rfl
theorem u27_1001 : (xm_G 27).1.2.2.2.2.1 1001 = (.ireturn, 1002, 0, 0) := rfl
theorem u27_1002 : (xm_G 27).1.2.2.2.2.1 1002 = (.iload 6, 1004, 6, 0) := rfl
theorem u27_1004 : (xm_G 27).1.2.2.2.2.1 1004 = (.ifCond .ne 22, 1007, 1026, 0) := rfl
theorem u27_1007 : (xm_G 27).1.2.2.2.2.1 1007 = (.aload_n 3, 1008, 3, 0) := rfl
theorem u27_1008 : (xm_G 27).1.2.2.2.2.1 1008 = (.iconst 0, 1009, 0, 0) := rfl
theorem u27_1009 : (xm_G 27).1.2.2.2.2.1 1009 = (.laload, 1010, 0, 0) := rfl
theorem u27_1010 : (xm_G 27).1.2.2.2.2.1 1010 = (.iload 7, 1012, 7, 0) := rfl
theorem u27_1012 : (xm_G 27).1.2.2.2.2.1 1012 = (.ifCond .eq 7, 1015, 1019, 0) := rfl
theorem u27_1015 : (xm_G 27).1.2.2.2.2.1 1015 = (.lconst 1, 1016, 1, 0) := rfl
theorem u27_1016 : (xm_G 27).1.2.2.2.2.1 1016 = (.goto 4, 1019, 1020, 0) := rfl
theorem u27_1019 : (xm_G 27).1.2.2.2.2.1 1019 = (.lconst 0, 1020, 0, 0) := rfl
theorem u27_1020 : (xm_G 27).1.2.2.2.2.1 1020 = (.lcmp, 1021, 0, 0) := rfl
theorem u27_1021 : (xm_G 27).1.2.2.2.2.1 1021 = (.ifCond .eq 5, 1024, 1026, 0) := rfl
theorem u27_1024 : (xm_G 27).1.2.2.2.2.1 1024 = (.iconst 0, 1025, 0, 0) := rfl
theorem u27_1025 : (xm_G 27).1.2.2.2.2.1 1025 = (.ireturn, 1026, 0, 0) := rfl
theorem u27_1026 : (xm_G 27).1.2.2.2.2.1 1026 = (.goto 362, 1029, 1388, 0) := rfl
theorem u27_1029 : (xm_G 27).1.2.2.2.2.1 1029 = (.aload_n 1, 1030, 1, 0) := rfl
theorem u27_1030 : (xm_G 27).1.2.2.2.2.1 1030 = (.aload_n 0, 1031, 0, 0) := rfl
theorem u27_1031 : (xm_G 27).1.2.2.2.2.1 1031 = (.iload 5, 1033, 5, 0) := rfl
theorem u27_1033 : (xm_G 27).1.2.2.2.2.1 1033 = (.iconst 1, 1034, 1, 0) := rfl
theorem u27_1034 : (xm_G 27).1.2.2.2.2.1 1034 = (.iadd, 1035, 0, 0) := rfl
theorem u27_1035 : (xm_G 27).1.2.2.2.2.1 1035 = (.iaload, 1036, 0, 0) := rfl
theorem u27_1036 : (xm_G 27).1.2.2.2.2.1 1036 = (.aload_n 0, 1037, 0, 0) := rfl
theorem u27_1037 : (xm_G 27).1.2.2.2.2.1 1037 = (.iload 5, 1039, 5, 0) := rfl
theorem u27_1039 : (xm_G 27).1.2.2.2.2.1 1039 = (.iconst 2, 1040, 2, 0) := rfl
theorem u27_1040 : (xm_G 27).1.2.2.2.2.1 1040 = (.iadd, 1041, 0, 0) := rfl
theorem u27_1041 : (xm_G 27).1.2.2.2.2.1 1041 = (.iaload, 1042, 0, 0) := rfl
theorem u27_1042 : (xm_G 27).1.2.2.2.2.1 1042 = (.aload_n 0, 1043, 0, 0) := rfl
theorem u27_1043 : (xm_G 27).1.2.2.2.2.1 1043 = (.iload 5, 1045, 5, 0) := rfl
theorem u27_1045 : (xm_G 27).1.2.2.2.2.1 1045 = (.iconst 3, 1046, 3, 0) := rfl
theorem u27_1046 : (xm_G 27).1.2.2.2.2.1 1046 = (.iadd, 1047, 0, 0) := rfl
theorem u27_1047 : (xm_G 27).1.2.2.2.2.1 1047 = (.iaload, 1048, 0, 0) := rfl
theorem u27_1048 : (xm_G 27).1.2.2.2.2.1 1048 = (.aload_n 3, 1049, 3, 0) := rfl
theorem u27_1049 : (xm_G 27).1.2.2.2.2.1 1049 = (.monitorexit, 1052, 24, 0) := rfl
theorem u27_1052 : (xm_G 27).1.2.2.2.2.1 1052 = (.istore 6, 1054, 6, 0) := rfl
theorem u27_1054 : (xm_G 27).1.2.2.2.2.1 1054 = (.aload_n 2, 1055, 2, 0) := rfl
theorem u27_1055 : (xm_G 27).1.2.2.2.2.1 1055 = (.aload_n 0, 1056, 0, 0) := rfl
theorem u27_1056 : (xm_G 27).1.2.2.2.2.1 1056 = (.iload 5, 1058, 5, 0) := rfl
theorem u27_1058 : (xm_G 27).1.2.2.2.2.1 1058 = (.iconst 1, 1059, 1, 0) := rfl
theorem u27_1059 : (xm_G 27).1.2.2.2.2.1 1059 = (.iadd, 1060, 0, 0) := rfl
theorem u27_1060 : (xm_G 27).1.2.2.2.2.1 1060 = (.iaload, 1061, 0, 0) := rfl
theorem u27_1061 : (xm_G 27).1.2.2.2.2.1 1061 = (.aload_n 0, 1062, 0, 0) := rfl
theorem u27_1062 : (xm_G 27).1.2.2.2.2.1 1062 = (.iload 5, 1064, 5, 0) := rfl
theorem u27_1064 : (xm_G 27).1.2.2.2.2.1 1064 = (.iconst 2, 1065, 2, 0) := rfl
theorem u27_1065 : (xm_G 27).1.2.2.2.2.1 1065 = (.iadd, 1066, 0, 0) := rfl
theorem u27_1066 : (xm_G 27).1.2.2.2.2.1 1066 = (.iaload, 1067, 0, 0) := rfl
theorem u27_1067 : (xm_G 27).1.2.2.2.2.1 1067 = (.aload_n 0, 1068, 0, 0) := rfl
theorem u27_1068 : (xm_G 27).1.2.2.2.2.1 1068 = (.iload 5, 1070, 5, 0) := rfl
theorem u27_1070 : (xm_G 27).1.2.2.2.2.1 1070 = (.iconst 3, 1071, 3, 0) := rfl
theorem u27_1071 : (xm_G 27).1.2.2.2.2.1 1071 = (.iadd, 1072, 0, 0) := rfl
theorem u27_1072 : (xm_G 27).1.2.2.2.2.1 1072 = (.iaload, 1073, 0, 0) := rfl
theorem u27_1073 : (xm_G 27).1.2.2.2.2.1 1073 = (.invokevirtual 148, 1076, 145, 8) := rfl
theorem u27_1076 : (xm_G 27).1.2.2.2.2.1 1076 = (.istore 7, 1078, 7, 0) := rfl
theorem u27_1078 : (xm_G 27).1.2.2.2.2.1 1078 = (.aload_n 2, 1079, 2, 0) := rfl
theorem u27_1079 : (xm_G 27).1.2.2.2.2.1 1079 = (.invokevirtual 79, 1082, 96, 8) := rfl
theorem u27_1082 : (xm_G 27).1.2.2.2.2.1 1082 = (.iload 6, 1084, 6, 0) := rfl
theorem u27_1084 : (xm_G 27).1.2.2.2.2.1 1084 = (.if_icmp .eq 5, 1087, 1089, 0) := rfl
theorem u27_1087 : (xm_G 27).1.2.2.2.2.1 1087 = (.iconst 0, 1088, 0, 0) := rfl
theorem u27_1088 : (xm_G 27).1.2.2.2.2.1 1088 = (.ireturn, 1089, 0, 0) := rfl
theorem u27_1089 : (xm_G 27).1.2.2.2.2.1 1089 = (.iload 6, 1091, 6, 0) := rfl
theorem u27_1091 : (xm_G 27).1.2.2.2.2.1 1091 = (.ifCond .ne 22, 1094, 1113, 0) := rfl
theorem u27_1094 : (xm_G 27).1.2.2.2.2.1 1094 = (.aload_n 3, 1095, 3, 0) := rfl
theorem u27_1095 : (xm_G 27).1.2.2.2.2.1 1095 = (.iconst 0, 1096, 0, 0) := rfl
theorem u27_1096 : (xm_G 27).1.2.2.2.2.1 1096 = (.laload, 1097, 0, 0) := rfl
theorem u27_1097 : (xm_G 27).1.2.2.2.2.1 1097 = (.iload 7, 1099, 7, 0) := rfl
theorem u27_1099 : (xm_G 27).1.2.2.2.2.1 1099 = (.ifCond .eq 7, 1102, 1106, 0) := rfl
theorem u27_1102 : (xm_G 27).1.2.2.2.2.1 1102 = (.lconst 1, 1103, 1, 0) := rfl
theorem u27_1103 : (xm_G 27).1.2.2.2.2.1 1103 = (.goto 4, 1106, 1107, 0) := rfl
theorem u27_1106 : (xm_G 27).1.2.2.2.2.1 1106 = (.lconst 0, 1107, 0, 0) := rfl
theorem u27_1107 : (xm_G 27).1.2.2.2.2.1 1107 = (.lcmp, 1108, 0, 0) := rfl
theorem u27_1108 : (xm_G 27).1.2.2.2.2.1 1108 = (.ifCond .eq 5, 1111, 1113, 0) := rfl
theorem u27_1111 : (xm_G 27).1.2.2.2.2.1 1111 = (.iconst 0, 1112, 0, 0) := rfl
theorem u27_1112 : (xm_G 27).1.2.2.2.2.1 1112 = (.ireturn, 1113, 0, 0) := rfl
theorem u27_1113 : (xm_G 27).1.2.2.2.2.1 1113 = (.goto 275, 1116, 1388, 0) := rfl
theorem u27_1116 : (xm_G 27).1.2.2.2.2.1 1116 = (.aload_n 1, 1117, 1, 0) := rfl
theorem u27_1117 : (xm_G 27).1.2.2.2.2.1 1117 = (.invokevirtual 149, 1120, 77, 7) := rfl
theorem u27_1120 : (xm_G 27).1.2.2.2.2.1 1120 = (.aload_n 2, 1121, 2, 0) := rfl
theorem u27_1121 : (xm_G 27).1.2.2.2.2.1 1121 = (.invokevirtual 152, 1124, 147, 8) := rfl
theorem u27_1124 : (xm_G 27).1.2.2.2.2.1 1124 = (.if_icmp .eq 264, 1127, 1388, 0) := rfl
theorem u27_1127 : (xm_G 27).1.2.2.2.2.1 1127 = (.iconst 0, 1128, 0, 0) := rfl
theorem u27_1128 : (xm_G 27).1.2.2.2.2.1 1128 = (.ireturn, 1129, 0, 0) := rfl
theorem u27_1129 : (xm_G 27).1.2.2.2.2.1 1129 = (.aload_n 1, 1130, 1, 0) := rfl
theorem u27_1130 : (xm_G 27).1.2.2.2.2.1 1130 = (.aload_n 0, 1131, 0, 0) := rfl
theorem u27_1131 : (xm_G 27).1.2.2.2.2.1 1131 = (.iload 5, 1133, 5, 0) := rfl
theorem u27_1133 : (xm_G 27).1.2.2.2.2.1 1133 = (.iconst 1, 1134, 1, 0) := rfl
theorem u27_1134 : (xm_G 27).1.2.2.2.2.1 1134 = (.iadd, 1135, 0, 0) := rfl
theorem u27_1135 : (xm_G 27).1.2.2.2.2.1 1135 = (.iaload, 1136, 0, 0) := rfl
theorem u27_1136 : (xm_G 27).1.2.2.2.2.1 1136 = (.aload_n 0, 1137, 0, 0) := rfl
theorem u27_1137 : (xm_G 27).1.2.2.2.2.1 1137 = (.iload 5, 1139, 5, 0) := rfl
theorem u27_1139 : (xm_G 27).1.2.2.2.2.1 1139 = (.iconst 2, 1140, 2, 0) := rfl
theorem u27_1140 : (xm_G 27).1.2.2.2.2.1 1140 = (.iadd, 1141, 0, 0) := rfl
theorem u27_1141 : (xm_G 27).1.2.2.2.2.1 1141 = (.iaload, 1142, 0, 0) := rfl
theorem u27_1142 : (xm_G 27).1.2.2.2.2.1 1142 = (.aload_n 3, 1143, 3, 0) := rfl
theorem u27_1143 : (xm_G 27).1.2.2.2.2.1 1143 = (.monitorexit, 1146, 25, 0) := rfl
theorem u27_1146 : (xm_G 27).1.2.2.2.2.1 1146 = (.istore 6, 1148, 6, 0) := rfl
theorem u27_1148 : (xm_G 27).1.2.2.2.2.1 1148 = (.aload_n 2, 1149, 2, 0) := rfl
theorem u27_1149 : (xm_G 27).1.2.2.2.2.1 1149 = (.aload_n 0, 1150, 0, 0) := rfl
theorem u27_1150 : (xm_G 27).1.2.2.2.2.1 1150 = (.iload 5, 1152, 5, 0) := rfl
theorem u27_1152 : (xm_G 27).1.2.2.2.2.1 1152 = (.iconst 1, 1153, 1, 0) := rfl
theorem u27_1153 : (xm_G 27).1.2.2.2.2.1 1153 = (.iadd, 1154, 0, 0) := rfl
theorem u27_1154 : (xm_G 27).1.2.2.2.2.1 1154 = (.iaload, 1155, 0, 0) := rfl
theorem u27_1155 : (xm_G 27).1.2.2.2.2.1 1155 = (.aload_n 0, 1156, 0, 0) := rfl
theorem u27_1156 : (xm_G 27).1.2.2.2.2.1 1156 = (.iload 5, 1158, 5, 0) := rfl
theorem u27_1158 : (xm_G 27).1.2.2.2.2.1 1158 = (.iconst 2, 1159, 2, 0) := rfl
theorem u27_1159 : (xm_G 27).1.2.2.2.2.1 1159 = (.iadd, 1160, 0, 0) := rfl
theorem u27_1160 : (xm_G 27).1.2.2.2.2.1 1160 = (.iaload, 1161, 0, 0) := rfl
theorem u27_1161 : (xm_G 27).1.2.2.2.2.1 1161 = (.invokevirtual 155, 1164, 148, 8) := rfl
theorem u27_1164 : (xm_G 27).1.2.2.2.2.1 1164 = (.istore 7, 1166, 7, 0) := rfl
theorem u27_1166 : (xm_G 27).1.2.2.2.2.1 1166 = (.aload_n 2, 1167, 2, 0) := rfl
theorem u27_1167 : (xm_G 27).1.2.2.2.2.1 1167 = (.invokevirtual 79, 1170, 96, 8) := rfl
theorem u27_1170 : (xm_G 27).1.2.2.2.2.1 1170 = (.iload 6, 1172, 6, 0) := rfl
theorem u27_1172 : (xm_G 27).1.2.2.2.2.1 1172 = (.if_icmp .eq 5, 1175, 1177, 0) := rfl
theorem u27_1175 : (xm_G 27).1.2.2.2.2.1 1175 = (.iconst 0, 1176, 0, 0) := rfl
theorem u27_1176 : (xm_G 27).1.2.2.2.2.1 1176 = (.ireturn, 1177, 0, 0) := rfl
theorem u27_1177 : (xm_G 27).1.2.2.2.2.1 1177 = (.iload 6, 1179, 6, 0) := rfl
theorem u27_1179 : (xm_G 27).1.2.2.2.2.1 1179 = (.ifCond .ne 15, 1182, 1194, 0) := rfl
theorem u27_1182 : (xm_G 27).1.2.2.2.2.1 1182 = (.aload_n 3, 1183, 3, 0) := rfl
theorem u27_1183 : (xm_G 27).1.2.2.2.2.1 1183 = (.iconst 0, 1184, 0, 0) := rfl
theorem u27_1184 : (xm_G 27).1.2.2.2.2.1 1184 = (.laload, 1185, 0, 0) := rfl
theorem u27_1185 : (xm_G 27).1.2.2.2.2.1 1185 = (.iload 7, 1187, 7, 0) := rfl
theorem u27_1187 : (xm_G 27).1.2.2.2.2.1 1187 = (.i2l, 1188, 0, 0) := rfl
theorem u27_1188 : (xm_G 27).1.2.2.2.2.1 1188 = (.lcmp, 1189, 0, 0) := rfl
theorem u27_1189 : (xm_G 27).1.2.2.2.2.1 1189 = (.ifCond .eq 5, 1192, 1194, 0) := rfl
theorem u27_1192 : (xm_G 27).1.2.2.2.2.1 1192 = (.iconst 0, 1193, 0, 0) := rfl
theorem u27_1193 : (xm_G 27).1.2.2.2.2.1 1193 = (.ireturn, 1194, 0, 0) := rfl
theorem u27_1194 : (xm_G 27).1.2.2.2.2.1 1194 = (.goto 194, 1197, 1388, 0) := rfl
theorem u27_1197 : (xm_G 27).1.2.2.2.2.1 1197 = (.aload_n 1, 1198, 1, 0) := rfl
theorem u27_1198 : (xm_G 27).1.2.2.2.2.1 1198 = (.invokevirtual 156, 1201, 78, 7) := rfl
theorem u27_1201 : (xm_G 27).1.2.2.2.2.1 1201 = (.aload_n 2, 1202, 2, 0) := rfl
theorem u27_1202 : (xm_G 27).1.2.2.2.2.1 1202 = (.invokevirtual 160, 1205, 149, 8) := rfl
theorem u27_1205 : (xm_G 27).1.2.2.2.2.1 1205 = (.lcmp, 1206, 0, 0) := rfl
theorem u27_1206 : (xm_G 27).1.2.2.2.2.1 1206 = (.ifCond .eq 182, 1209, 1388, 0) := rfl
theorem u27_1209 : (xm_G 27).1.2.2.2.2.1 1209 = (.iconst 0, 1210, 0, 0) := rfl
theorem u27_1210 : (xm_G 27).1.2.2.2.2.1 1210 = (.ireturn, 1211, 0, 0) := rfl
theorem u27_1211 : (xm_G 27).1.2.2.2.2.1 1211 = (.aload_n 1, 1212, 1, 0) := rfl
theorem u27_1212 : (xm_G 27).1.2.2.2.2.1 1212 = (.invokevirtual 161, 1215, 79, 7) := rfl
theorem u27_1215 : (xm_G 27).1.2.2.2.2.1 1215 = (.f2d, 1216, 0, 0) := rfl
theorem u27_1216 : (xm_G 27).1.2.2.2.2.1 1216 = (.dstore 6, 1218, 6, 0) := rfl
theorem u27_1218 : (xm_G 27).1.2.2.2.2.1 1218 = (.aload_n 2, 1219, 2, 0) := rfl
theorem u27_1219 : (xm_G 27).1.2.2.2.2.1 1219 = (.invokevirtual 165, 1222, 150, 8) := rfl
theorem u27_1222 : (xm_G 27).1.2.2.2.2.1 1222 = (.f2d, 1223, 0, 0) := rfl
theorem u27_1223 : (xm_G 27).1.2.2.2.2.1 1223 = (.dstore 8, 1225, 8, 0) := rfl
theorem u27_1225 : (xm_G 27).1.2.2.2.2.1 1225 = (.dload 6, 1227, 6, 0) := rfl
theorem u27_1227 : (xm_G 27).1.2.2.2.2.1 1227 = (.dload 8, 1229, 8, 0) := rfl
theorem u27_1229 : (xm_G 27).1.2.2.2.2.1 1229 = (.dcmp .l, 1230, 0, 0) := rfl
theorem u27_1230 : (xm_G 27).1.2.2.2.2.1 1230 = (.ifCond .eq 21, 1233, 1251, 0) := rfl
theorem u27_1233 : (xm_G 27).1.2.2.2.2.1 1233 = (.dload 6, 1235, 6, 0) := rfl
theorem u27_1235 : (xm_G 27).1.2.2.2.2.1 1235 = (.dload 6, 1237, 6, 0) := rfl
theorem u27_1237 : (xm_G 27).1.2.2.2.2.1 1237 = (.dcmp .l, 1238, 0, 0) := rfl
theorem u27_1238 : (xm_G 27).1.2.2.2.2.1 1238 = (.ifCond .eq 11, 1241, 1249, 0) := rfl
theorem u27_1241 : (xm_G 27).1.2.2.2.2.1 1241 = (.dload 8, 1243, 8, 0) := rfl
theorem u27_1243 : (xm_G 27).1.2.2.2.2.1 1243 = (.dload 8, 1245, 8, 0) := rfl
theorem u27_1245 : (xm_G 27).1.2.2.2.2.1 1245 = (.dcmp .l, 1246, 0, 0) := rfl
theorem u27_1246 : (xm_G 27).1.2.2.2.2.1 1246 = (.ifCond .ne 5, 1249, 1251, 0) := rfl
theorem u27_1249 : (xm_G 27).1.2.2.2.2.1 1249 = (.iconst 0, 1250, 0, 0) := rfl
theorem u27_1250 : (xm_G 27).1.2.2.2.2.1 1250 = (.ireturn, 1251, 0, 0) := rfl
theorem u27_1251 : (xm_G 27).1.2.2.2.2.1 1251 = (.goto 137, 1254, 1388, 0) := rfl
theorem u27_1254 : (xm_G 27).1.2.2.2.2.1 1254 = (.aload_n 1, 1255, 1, 0) := rfl
theorem u27_1255 : (xm_G 27).1.2.2.2.2.1 1255 = (.invokevirtual 166, 1258, 80, 7) := rfl
theorem u27_1258 : (xm_G 27).1.2.2.2.2.1 1258 = (.aload_n 2, 1259, 2, 0) := rfl
theorem u27_1259 : (xm_G 27).1.2.2.2.2.1 1259 = (.invokevirtual 169, 1262, 151, 8) := rfl
theorem u27_1262 : (xm_G 27).1.2.2.2.2.1 1262 = (.if_icmp .eq 126, 1265, 1388, 0) := rfl
theorem u27_1265 : (xm_G 27).1.2.2.2.2.1 1265 = (.iconst 0, 1266, 0, 0) := rfl
theorem u27_1266 : (xm_G 27).1.2.2.2.2.1 1266 = (.ireturn, 1267, 0, 0) := rfl
theorem u27_1267 : (xm_G 27).1.2.2.2.2.1 1267 = (.aload_n 1, 1268, 1, 0) := rfl
theorem u27_1268 : (xm_G 27).1.2.2.2.2.1 1268 = (.aload 4, 1270, 4, 0) := rfl
theorem u27_1270 : (xm_G 27).1.2.2.2.2.1 1270 = (.monitorexit, 1273, 26, 0) := rfl
theorem u27_1273 : (xm_G 27).1.2.2.2.2.1 1273 = (.istore 6, 1275, 6, 0) := rfl
theorem u27_1275 : (xm_G 27).1.2.2.2.2.1 1275 = (.aload_n 2, 1276, 2, 0) := rfl
theorem u27_1276 : (xm_G 27).1.2.2.2.2.1 1276 = (.invokevirtual 173, 1279, 152, 8) := rfl
theorem u27_1279 : (xm_G 27).1.2.2.2.2.1 1279 = (.dstore 7, 1281, 7, 0) := rfl
theorem u27_1281 : (xm_G 27).1.2.2.2.2.1 1281 = (.aload_n 2, 1282, 2, 0) := rfl
theorem u27_1282 : (xm_G 27).1.2.2.2.2.1 1282 = (.invokevirtual 79, 1285, 96, 8) := rfl
theorem u27_1285 : (xm_G 27).1.2.2.2.2.1 1285 = (.iload 6, 1287, 6, 0) := rfl
theorem u27_1287 : (xm_G 27).1.2.2.2.2.1 1287 = (.if_icmp .eq 5, 1290, 1292, 0) := rfl
theorem u27_1290 : (xm_G 27).1.2.2.2.2.1 1290 = (.iconst 0, 1291, 0, 0) := rfl
theorem u27_1291 : (xm_G 27).1.2.2.2.2.1 1291 = (.ireturn, 1292, 0, 0) := rfl
theorem u27_1292 : (xm_G 27).1.2.2.2.2.1 1292 = (.iload 6, 1294, 6, 0) := rfl
theorem u27_1294 : (xm_G 27).1.2.2.2.2.1 1294 = (.ifCond .ne 35, 1297, 1329, 0) := rfl
theorem u27_1297 : (xm_G 27).1.2.2.2.2.1 1297 = (.aload 4, 1299, 4, 0) := rfl
theorem u27_1299 : (xm_G 27).1.2.2.2.2.1 1299 = (.iconst 0, 1300, 0, 0) := rfl
theorem u27_1300 : (xm_G 27).1.2.2.2.2.1 1300 = (.daload, 1301, 0, 0) := rfl
theorem u27_1301 : (xm_G 27).1.2.2.2.2.1 1301 = (.dload 7, 1303, 7, 0) := rfl
theorem u27_1303 : (xm_G 27).1.2.2.2.2.1 1303 = (.dcmp .l, 1304, 0, 0) := rfl
theorem u27_1304 : (xm_G 27).1.2.2.2.2.1 1304 = (.ifCond .eq 25, 1307, 1329, 0) := rfl
theorem u27_1307 : (xm_G 27).1.2.2.2.2.1 1307 = (.aload 4, 1309, 4, 0) := rfl
theorem u27_1309 : (xm_G 27).1.2.2.2.2.1 1309 = (.iconst 0, 1310, 0, 0) := rfl
theorem u27_1310 : (xm_G 27).1.2.2.2.2.1 1310 = (.daload, 1311, 0, 0) := rfl
theorem u27_1311 : (xm_G 27).1.2.2.2.2.1 1311 = (.aload 4, 1313, 4, 0) := rfl
theorem u27_1313 : (xm_G 27).1.2.2.2.2.1 1313 = (.iconst 0, 1314, 0, 0) := rfl
theorem u27_1314 : (xm_G 27).1.2.2.2.2.1 1314 = (.daload, 1315, 0, 0) := rfl
theorem u27_1315 : (xm_G 27).1.2.2.2.2.1 1315 = (.dcmp .l, 1316, 0, 0) := rfl
theorem u27_1316 : (xm_G 27).1.2.2.2.2.1 1316 = (.ifCond .eq 11, 1319, 1327, 0) := rfl
theorem u27_1319 : (xm_G 27).1.2.2.2.2.1 1319 = (.dload 7, 1321, 7, 0) := rfl
theorem u27_1321 : (xm_G 27).1.2.2.2.2.1 1321 = (.dload 7, 1323, 7, 0) := rfl
theorem u27_1323 : (xm_G 27).1.2.2.2.2.1 1323 = (.dcmp .l, 1324, 0, 0) := rfl
theorem u27_1324 : (xm_G 27).1.2.2.2.2.1 1324 = (.ifCond .ne 5, 1327, 1329, 0) := rfl
theorem u27_1327 : (xm_G 27).1.2.2.2.2.1 1327 = (.iconst 0, 1328, 0, 0) := rfl
theorem u27_1328 : (xm_G 27).1.2.2.2.2.1 1328 = (.ireturn, 1329, 0, 0) := rfl
theorem u27_1329 : (xm_G 27).1.2.2.2.2.1 1329 = (.goto 59, 1332, 1388, 0) := rfl
theorem u27_1332 : (xm_G 27).1.2.2.2.2.1 1332 = (.aload_n 1, 1333, 1, 0) := rfl
theorem u27_1333 : (xm_G 27).1.2.2.2.2.1 1333 = (.invokevirtual 174, 1336, 81, 7) := rfl
theorem u27_1336 : (xm_G 27).1.2.2.2.2.1 1336 = (.f2d, 1337, 0, 0) := rfl
theorem u27_1337 : (xm_G 27).1.2.2.2.2.1 1337 = (.dstore 6, 1339, 6, 0) := rfl
theorem u27_1339 : (xm_G 27).1.2.2.2.2.1 1339 = (.aload_n 2, 1340, 2, 0) := rfl
theorem u27_1340 : (xm_G 27).1.2.2.2.2.1 1340 = (.invokevirtual 177, 1343, 153, 8) := rfl
theorem u27_1343 : (xm_G 27).1.2.2.2.2.1 1343 = (.f2d, 1344, 0, 0) := rfl
theorem u27_1344 : (xm_G 27).1.2.2.2.2.1 1344 = (.dstore 8, 1346, 8, 0) := rfl
theorem u27_1346 : (xm_G 27).1.2.2.2.2.1 1346 = (.dload 6, 1348, 6, 0) := rfl
theorem u27_1348 : (xm_G 27).1.2.2.2.2.1 1348 = (.dload 8, 1350, 8, 0) := rfl
theorem u27_1350 : (xm_G 27).1.2.2.2.2.1 1350 = (.dcmp .l, 1351, 0, 0) := rfl
theorem u27_1351 : (xm_G 27).1.2.2.2.2.1 1351 = (.ifCond .eq 21, 1354, 1372, 0) := rfl
theorem u27_1354 : (xm_G 27).1.2.2.2.2.1 1354 = (.dload 6, 1356, 6, 0) := rfl
theorem u27_1356 : (xm_G 27).1.2.2.2.2.1 1356 = (.dload 6, 1358, 6, 0) := rfl
theorem u27_1358 : (xm_G 27).1.2.2.2.2.1 1358 = (.dcmp .l, 1359, 0, 0) := rfl
theorem u27_1359 : (xm_G 27).1.2.2.2.2.1 1359 = (.ifCond .eq 11, 1362, 1370, 0) := rfl
theorem u27_1362 : (xm_G 27).1.2.2.2.2.1 1362 = (.dload 8, 1364, 8, 0) := rfl
theorem u27_1364 : (xm_G 27).1.2.2.2.2.1 1364 = (.dload 8, 1366, 8, 0) := rfl
theorem u27_1366 : (xm_G 27).1.2.2.2.2.1 1366 = (.dcmp .l, 1367, 0, 0) := rfl
theorem u27_1367 : (xm_G 27).1.2.2.2.2.1 1367 = (.ifCond .ne 5, 1370, 1372, 0) := rfl
theorem u27_1370 : (xm_G 27).1.2.2.2.2.1 1370 = (.iconst 0, 1371, 0, 0) := rfl
theorem u27_1371 : (xm_G 27).1.2.2.2.2.1 1371 = (.ireturn, 1372, 0, 0) := rfl
theorem u27_1372 : (xm_G 27).1.2.2.2.2.1 1372 = (.goto 16, 1375, 1388, 0) := rfl
theorem u27_1375 : (xm_G 27).1.2.2.2.2.1 1375 = (.aload_n 1, 1376, 1, 0) := rfl
theorem u27_1376 : (xm_G 27).1.2.2.2.2.1 1376 = (.invokevirtual 178, 1379, 82, 7) := rfl
theorem u27_1379 : (xm_G 27).1.2.2.2.2.1 1379 = (.aload_n 2, 1380, 2, 0) := rfl
theorem u27_1380 : (xm_G 27).1.2.2.2.2.1 1380 = (.invokevirtual 181, 1383, 154, 8) := rfl
theorem u27_1383 : (xm_G 27).1.2.2.2.2.1 1383 = (.if_icmp .eq 5, 1386, 1388, 0) := rfl
theorem u27_1386 : (xm_G 27).1.2.2.2.2.1 1386 = (.iconst 0, 1387, 0, 0) := rfl
theorem u27_1387 : (xm_G 27).1.2.2.2.2.1 1387 = (.ireturn, 1388, 0, 0) := rfl
theorem u27_1388 : (xm_G 27).1.2.2.2.2.1 1388 = (.iinc 5 6, 1391, 5, 6) := rfl
theorem u27_1391 : (xm_G 27).1.2.2.2.2.1 1391 = (.goto (-1363), 1394, 28, 0) := rfl
theorem u27_1394 : (xm_G 27).1.2.2.2.2.1 1394 = (.iconst 1, 1395, 1, 0) := rfl
theorem u27_1395 : (xm_G 27).1.2.2.2.2.1 1395 = (.ireturn, 1396, 0, 0) := rfl
