/-! The tables' rows, against the bytes. (by gen/tab.py) -/
theorem d0_0 : decode cX0_init 0 = .ok (.aload_n 0, 1) := by decide +kernel
theorem d0_1 : decode cX0_init 1 = .ok (.invokespecial 3, 3) := by decide +kernel
theorem d0_4 : decode cX0_init 4 = .ok (.aload_n 0, 1) := by decide +kernel
theorem d0_5 : decode cX0_init 5 = .ok (.bipush 72, 2) := by decide +kernel
theorem d0_7 : decode cX0_init 7 = .ok (.newarray .int, 2) := by decide +kernel
theorem d0_9 : decode cX0_init 9 = .ok (.putfield 9, 3) := by decide +kernel
theorem d0_12 : decode cX0_init 12 = .ok (.return_, 1) := by decide +kernel
theorem v0_0 : am_all (am_V9 0) am_l0_0 := ⟨Or.inr ⟨1, d0_0, rfl, rfl, rfl, trivial, trivial⟩, Or.inr ⟨3, d0_1, rfl, rfl, trivial, trivial, Or.inl ⟨rfl, aw_65, aw_31, aw_32⟩⟩, Or.inr ⟨1, d0_4, rfl, rfl, rfl, trivial, trivial⟩, Or.inr ⟨2, d0_5, rfl, rfl, am_eq9 (by decide +kernel), trivial, trivial⟩, Or.inr ⟨2, d0_7, rfl, rfl, trivial, ⟨rfl, aw_59⟩, trivial⟩, Or.inr ⟨3, d0_9, rfl, rfl, trivial, ⟨RX0, TX0, 1, rfl, by decide, aw_66, Or.inr ⟨rfl, rfl, rfl⟩⟩, trivial⟩, Or.inr ⟨1, d0_12, rfl, rfl, trivial, trivial, trivial⟩, trivial⟩
theorem v0 : ∀ pc, am_V9 0 pc ((am_G 0).2.2.2.2.1 pc) := am_all_lc am_V9_0 _ ⟨v0_0, trivial⟩
theorem d1_0 : decode cX0_fillAll 0 = .ok (.iconst 0, 1) := by decide +kernel
theorem d1_1 : decode cX0_fillAll 1 = .ok (.istore_n 1, 1) := by decide +kernel
theorem d1_2 : decode cX0_fillAll 2 = .ok (.iload_n 1, 1) := by decide +kernel
theorem d1_3 : decode cX0_fillAll 3 = .ok (.aload_n 0, 1) := by decide +kernel
theorem d1_4 : decode cX0_fillAll 4 = .ok (.getfield 9, 3) := by decide +kernel
theorem d1_7 : decode cX0_fillAll 7 = .ok (.arraylength, 1) := by decide +kernel
theorem d1_8 : decode cX0_fillAll 8 = .ok (.if_icmp .ge 17, 3) := by decide +kernel
theorem d1_11 : decode cX0_fillAll 11 = .ok (.aload_n 0, 1) := by decide +kernel
theorem d1_12 : decode cX0_fillAll 12 = .ok (.getfield 9, 3) := by decide +kernel
theorem d1_15 : decode cX0_fillAll 15 = .ok (.iload_n 1, 1) := by decide +kernel
theorem d1_16 : decode cX0_fillAll 16 = .ok (.ldc 15, 2) := by decide +kernel
theorem d1_18 : decode cX0_fillAll 18 = .ok (.iastore, 1) := by decide +kernel
theorem d1_19 : decode cX0_fillAll 19 = .ok (.iinc 1 1, 3) := by decide +kernel
theorem d1_22 : decode cX0_fillAll 22 = .ok (.goto (-20), 3) := by decide +kernel
theorem d1_25 : decode cX0_fillAll 25 = .ok (.return_, 1) := by decide +kernel
theorem v1_0 : am_all (am_V9 1) am_l1_0 := ⟨Or.inr ⟨1, d1_0, rfl, rfl, am_eq9 (by decide +kernel), trivial, trivial⟩, Or.inr ⟨1, d1_1, rfl, rfl, rfl, trivial, trivial⟩, Or.inr ⟨1, d1_2, rfl, rfl, rfl, trivial, trivial⟩, Or.inr ⟨1, d1_3, rfl, rfl, rfl, trivial, trivial⟩, Or.inr ⟨3, d1_4, rfl, rfl, trivial, ⟨RX0, TX0, 1, rfl, by decide, Or.inl aw_66⟩, trivial⟩, Or.inr ⟨1, d1_7, rfl, rfl, trivial, trivial, trivial⟩, Or.inr ⟨3, d1_8, rfl, rfl, rfl, trivial, trivial⟩, Or.inr ⟨1, d1_11, rfl, rfl, rfl, trivial, trivial⟩, Or.inr ⟨3, d1_12, rfl, rfl, trivial, ⟨RX0, TX0, 1, rfl, by decide, Or.inl aw_66⟩, trivial⟩, Or.inr ⟨1, d1_15, rfl, rfl, rfl, trivial, trivial⟩, Or.inr ⟨2, d1_16, rfl, rfl, ⟨fun _ => aw_180, fun h => absurd h (by decide)⟩, trivial, trivial⟩, Or.inr ⟨1, d1_18, rfl, rfl, trivial, trivial, trivial⟩, Or.inr ⟨3, d1_19, rfl, rfl, ⟨rfl, by decide⟩, trivial, trivial⟩, Or.inr ⟨3, d1_22, rfl, rfl, rfl, trivial, trivial⟩, Or.inr ⟨1, d1_25, rfl, rfl, trivial, trivial, trivial⟩, trivial⟩
theorem v1 : ∀ pc, am_V9 1 pc ((am_G 1).2.2.2.2.1 pc) := am_all_lc am_V9_0 _ ⟨v1_0, trivial⟩
theorem d2_0 : decode cX0_holds 0 = .ok (.iload_n 1, 1) := by decide +kernel
theorem d2_1 : decode cX0_holds 1 = .ok (.iload_n 2, 1) := by decide +kernel
theorem d2_2 : decode cX0_holds 2 = .ok (.iload_n 3, 1) := by decide +kernel
theorem d2_3 : decode cX0_holds 3 = .ok (.invokestatic 16, 3) := by decide +kernel
theorem d2_6 : decode cX0_holds 6 = .ok (.ifCond .eq 25, 3) := by decide +kernel
theorem d2_9 : decode cX0_holds 9 = .ok (.aload_n 0, 1) := by decide +kernel
theorem d2_10 : decode cX0_holds 10 = .ok (.getfield 9, 3) := by decide +kernel
theorem d2_13 : decode cX0_holds 13 = .ok (.iload_n 3, 1) := by decide +kernel
theorem d2_14 : decode cX0_holds 14 = .ok (.bipush 12, 2) := by decide +kernel
theorem d2_16 : decode cX0_holds 16 = .ok (.imul, 1) := by decide +kernel
theorem d2_17 : decode cX0_holds 17 = .ok (.iload_n 2, 1) := by decide +kernel
theorem d2_18 : decode cX0_holds 18 = .ok (.iadd, 1) := by decide +kernel
theorem d2_19 : decode cX0_holds 19 = .ok (.iaload, 1) := by decide +kernel
theorem d2_20 : decode cX0_holds 20 = .ok (.iconst 1, 1) := by decide +kernel
theorem d2_21 : decode cX0_holds 21 = .ok (.iload_n 1, 1) := by decide +kernel
theorem d2_22 : decode cX0_holds 22 = .ok (.ishl, 1) := by decide +kernel
theorem d2_23 : decode cX0_holds 23 = .ok (.iand, 1) := by decide +kernel
theorem d2_24 : decode cX0_holds 24 = .ok (.ifCond .eq 7, 3) := by decide +kernel
theorem d2_27 : decode cX0_holds 27 = .ok (.iconst 1, 1) := by decide +kernel
theorem d2_28 : decode cX0_holds 28 = .ok (.goto 4, 3) := by decide +kernel
theorem d2_31 : decode cX0_holds 31 = .ok (.iconst 0, 1) := by decide +kernel
theorem d2_32 : decode cX0_holds 32 = .ok (.ireturn, 1) := by decide +kernel
theorem v2_0 : am_all (am_V9 2) am_l2_0 := ⟨Or.inr ⟨1, d2_0, rfl, rfl, rfl, trivial, trivial⟩, Or.inr ⟨1, d2_1, rfl, rfl, rfl, trivial, trivial⟩, Or.inr ⟨1, d2_2, rfl, rfl, rfl, trivial, trivial⟩, Or.inr ⟨3, d2_3, rfl, rfl, trivial, trivial, Or.inr ⟨by decide, okM_85, aw_736, Or.inr ⟨rfl, _, an_15⟩⟩⟩, Or.inr ⟨3, d2_6, rfl, rfl, rfl, trivial, trivial⟩, Or.inr ⟨1, d2_9, rfl, rfl, rfl, trivial, trivial⟩, Or.inr ⟨3, d2_10, rfl, rfl, trivial, ⟨RX0, TX0, 1, rfl, by decide, Or.inl aw_66⟩, trivial⟩, Or.inr ⟨1, d2_13, rfl, rfl, rfl, trivial, trivial⟩, Or.inr ⟨2, d2_14, rfl, rfl, am_eq9 (by decide +kernel), trivial, trivial⟩, Or.inr ⟨1, d2_16, rfl, rfl, trivial, trivial, trivial⟩, Or.inr ⟨1, d2_17, rfl, rfl, rfl, trivial, trivial⟩, Or.inr ⟨1, d2_18, rfl, rfl, trivial, trivial, trivial⟩, Or.inr ⟨1, d2_19, rfl, rfl, trivial, trivial, trivial⟩, Or.inr ⟨1, d2_20, rfl, rfl, am_eq9 (by decide +kernel), trivial, trivial⟩, Or.inr ⟨1, d2_21, rfl, rfl, rfl, trivial, trivial⟩, Or.inr ⟨1, d2_22, rfl, rfl, trivial, trivial, trivial⟩, Or.inr ⟨1, d2_23, rfl, rfl, trivial, trivial, trivial⟩, Or.inr ⟨3, d2_24, rfl, rfl, rfl, trivial, trivial⟩, Or.inr ⟨1, d2_27, rfl, rfl, am_eq9 (by decide +kernel), trivial, trivial⟩, Or.inr ⟨3, d2_28, rfl, rfl, rfl, trivial, trivial⟩, Or.inr ⟨1, d2_31, rfl, rfl, am_eq9 (by decide +kernel), trivial, trivial⟩, Or.inr ⟨1, d2_32, rfl, rfl, trivial, trivial, trivial⟩, trivial⟩
theorem v2 : ∀ pc, am_V9 2 pc ((am_G 2).2.2.2.2.1 pc) := am_all_lc am_V9_0 _ ⟨v2_0, trivial⟩
theorem d3_0 : decode cX0_mark 0 = .ok (.iload_n 1, 1) := by decide +kernel
theorem d3_1 : decode cX0_mark 1 = .ok (.iload_n 2, 1) := by decide +kernel
theorem d3_2 : decode cX0_mark 2 = .ok (.iload_n 3, 1) := by decide +kernel
theorem d3_3 : decode cX0_mark 3 = .ok (.invokestatic 16, 3) := by decide +kernel
theorem d3_6 : decode cX0_mark 6 = .ok (.ifCond .ne 4, 3) := by decide +kernel
theorem d3_9 : decode cX0_mark 9 = .ok (.return_, 1) := by decide +kernel
theorem d3_10 : decode cX0_mark 10 = .ok (.iload_n 3, 1) := by decide +kernel
theorem d3_11 : decode cX0_mark 11 = .ok (.bipush 12, 2) := by decide +kernel
theorem d3_13 : decode cX0_mark 13 = .ok (.imul, 1) := by decide +kernel
theorem d3_14 : decode cX0_mark 14 = .ok (.iload_n 2, 1) := by decide +kernel
theorem d3_15 : decode cX0_mark 15 = .ok (.iadd, 1) := by decide +kernel
theorem d3_16 : decode cX0_mark 16 = .ok (.istore 5, 2) := by decide +kernel
theorem d3_18 : decode cX0_mark 18 = .ok (.aload_n 0, 1) := by decide +kernel
theorem d3_19 : decode cX0_mark 19 = .ok (.getfield 9, 3) := by decide +kernel
theorem d3_22 : decode cX0_mark 22 = .ok (.iload 5, 2) := by decide +kernel
theorem d3_24 : decode cX0_mark 24 = .ok (.iload 4, 2) := by decide +kernel
theorem d3_26 : decode cX0_mark 26 = .ok (.ifCond .eq 17, 3) := by decide +kernel
theorem d3_29 : decode cX0_mark 29 = .ok (.aload_n 0, 1) := by decide +kernel
theorem d3_30 : decode cX0_mark 30 = .ok (.getfield 9, 3) := by decide +kernel
theorem d3_33 : decode cX0_mark 33 = .ok (.iload 5, 2) := by decide +kernel
theorem d3_35 : decode cX0_mark 35 = .ok (.iaload, 1) := by decide +kernel
theorem d3_36 : decode cX0_mark 36 = .ok (.iconst 1, 1) := by decide +kernel
theorem d3_37 : decode cX0_mark 37 = .ok (.iload_n 1, 1) := by decide +kernel
theorem d3_38 : decode cX0_mark 38 = .ok (.ishl, 1) := by decide +kernel
theorem d3_39 : decode cX0_mark 39 = .ok (.ior, 1) := by decide +kernel
theorem d3_40 : decode cX0_mark 40 = .ok (.goto 16, 3) := by decide +kernel
theorem d3_43 : decode cX0_mark 43 = .ok (.aload_n 0, 1) := by decide +kernel
theorem d3_44 : decode cX0_mark 44 = .ok (.getfield 9, 3) := by decide +kernel
theorem d3_47 : decode cX0_mark 47 = .ok (.iload 5, 2) := by decide +kernel
theorem d3_49 : decode cX0_mark 49 = .ok (.iaload, 1) := by decide +kernel
theorem d3_50 : decode cX0_mark 50 = .ok (.iconst 1, 1) := by decide +kernel
theorem d3_51 : decode cX0_mark 51 = .ok (.iload_n 1, 1) := by decide +kernel
theorem d3_52 : decode cX0_mark 52 = .ok (.ishl, 1) := by decide +kernel
theorem d3_53 : decode cX0_mark 53 = .ok (.iconst (-1), 1) := by decide +kernel
theorem d3_54 : decode cX0_mark 54 = .ok (.ixor, 1) := by decide +kernel
theorem d3_55 : decode cX0_mark 55 = .ok (.iand, 1) := by decide +kernel
theorem d3_56 : decode cX0_mark 56 = .ok (.iastore, 1) := by decide +kernel
theorem d3_57 : decode cX0_mark 57 = .ok (.return_, 1) := by decide +kernel
theorem v3_0 : am_all (am_V9 3) am_l3_0 := ⟨Or.inr ⟨1, d3_0, rfl, rfl, rfl, trivial, trivial⟩, Or.inr ⟨1, d3_1, rfl, rfl, rfl, trivial, trivial⟩, Or.inr ⟨1, d3_2, rfl, rfl, rfl, trivial, trivial⟩, Or.inr ⟨3, d3_3, rfl, rfl, trivial, trivial, Or.inr ⟨by decide, okM_85, aw_736, Or.inr ⟨rfl, _, an_15⟩⟩⟩, Or.inr ⟨3, d3_6, rfl, rfl, rfl, trivial, trivial⟩, Or.inr ⟨1, d3_9, rfl, rfl, trivial, trivial, trivial⟩, Or.inr ⟨1, d3_10, rfl, rfl, rfl, trivial, trivial⟩, Or.inr ⟨2, d3_11, rfl, rfl, am_eq9 (by decide +kernel), trivial, trivial⟩, Or.inr ⟨1, d3_13, rfl, rfl, trivial, trivial, trivial⟩, Or.inr ⟨1, d3_14, rfl, rfl, rfl, trivial, trivial⟩, Or.inr ⟨1, d3_15, rfl, rfl, trivial, trivial, trivial⟩, Or.inr ⟨2, d3_16, rfl, rfl, rfl, trivial, trivial⟩, Or.inr ⟨1, d3_18, rfl, rfl, rfl, trivial, trivial⟩, Or.inr ⟨3, d3_19, rfl, rfl, trivial, ⟨RX0, TX0, 1, rfl, by decide, Or.inl aw_66⟩, trivial⟩, Or.inr ⟨2, d3_22, rfl, rfl, rfl, trivial, trivial⟩, Or.inr ⟨2, d3_24, rfl, rfl, rfl, trivial, trivial⟩, Or.inr ⟨3, d3_26, rfl, rfl, rfl, trivial, trivial⟩, Or.inr ⟨1, d3_29, rfl, rfl, rfl, trivial, trivial⟩, Or.inr ⟨3, d3_30, rfl, rfl, trivial, ⟨RX0, TX0, 1, rfl, by decide, Or.inl aw_66⟩, trivial⟩, Or.inr ⟨2, d3_33, rfl, rfl, rfl, trivial, trivial⟩, Or.inr ⟨1, d3_35, rfl, rfl, trivial, trivial, trivial⟩, Or.inr ⟨1, d3_36, rfl, rfl, am_eq9 (by decide +kernel), trivial, trivial⟩, Or.inr ⟨1, d3_37, rfl, rfl, rfl, trivial, trivial⟩, Or.inr ⟨1, d3_38, rfl, rfl, trivial, trivial, trivial⟩, trivial⟩
theorem v3_1 : am_all (am_V9 3) am_l3_1 := ⟨Or.inr ⟨1, d3_39, rfl, rfl, trivial, trivial, trivial⟩, Or.inr ⟨3, d3_40, rfl, rfl, rfl, trivial, trivial⟩, Or.inr ⟨1, d3_43, rfl, rfl, rfl, trivial, trivial⟩, Or.inr ⟨3, d3_44, rfl, rfl, trivial, ⟨RX0, TX0, 1, rfl, by decide, Or.inl aw_66⟩, trivial⟩, Or.inr ⟨2, d3_47, rfl, rfl, rfl, trivial, trivial⟩, Or.inr ⟨1, d3_49, rfl, rfl, trivial, trivial, trivial⟩, Or.inr ⟨1, d3_50, rfl, rfl, am_eq9 (by decide +kernel), trivial, trivial⟩, Or.inr ⟨1, d3_51, rfl, rfl, rfl, trivial, trivial⟩, Or.inr ⟨1, d3_52, rfl, rfl, trivial, trivial, trivial⟩, Or.inr ⟨1, d3_53, rfl, rfl, am_eq9 (by decide +kernel), trivial, trivial⟩, Or.inr ⟨1, d3_54, rfl, rfl, trivial, trivial, trivial⟩, Or.inr ⟨1, d3_55, rfl, rfl, trivial, trivial, trivial⟩, Or.inr ⟨1, d3_56, rfl, rfl, trivial, trivial, trivial⟩, Or.inr ⟨1, d3_57, rfl, rfl, trivial, trivial, trivial⟩, trivial⟩
theorem v3 : ∀ pc, am_V9 3 pc ((am_G 3).2.2.2.2.1 pc) := am_all_lc am_V9_0 _ ⟨v3_0, v3_1, trivial⟩
theorem d4_0 : decode cX0_size 0 = .ok (.iconst 0, 1) := by decide +kernel
theorem d4_1 : decode cX0_size 1 = .ok (.istore_n 1, 1) := by decide +kernel
theorem d4_2 : decode cX0_size 2 = .ok (.iconst 0, 1) := by decide +kernel
theorem d4_3 : decode cX0_size 3 = .ok (.istore_n 2, 1) := by decide +kernel
theorem d4_4 : decode cX0_size 4 = .ok (.iload_n 2, 1) := by decide +kernel
theorem d4_5 : decode cX0_size 5 = .ok (.aload_n 0, 1) := by decide +kernel
theorem d4_6 : decode cX0_size 6 = .ok (.getfield 9, 3) := by decide +kernel
theorem d4_9 : decode cX0_size 9 = .ok (.arraylength, 1) := by decide +kernel
theorem d4_10 : decode cX0_size 10 = .ok (.if_icmp .ge 21, 3) := by decide +kernel
theorem d4_13 : decode cX0_size 13 = .ok (.iload_n 1, 1) := by decide +kernel
theorem d4_14 : decode cX0_size 14 = .ok (.aload_n 0, 1) := by decide +kernel
theorem d4_15 : decode cX0_size 15 = .ok (.getfield 9, 3) := by decide +kernel
theorem d4_18 : decode cX0_size 18 = .ok (.iload_n 2, 1) := by decide +kernel
theorem d4_19 : decode cX0_size 19 = .ok (.iaload, 1) := by decide +kernel
theorem d4_20 : decode cX0_size 20 = .ok (.invokestatic 20, 3) := by decide +kernel
theorem d4_23 : decode cX0_size 23 = .ok (.iadd, 1) := by decide +kernel
theorem d4_24 : decode cX0_size 24 = .ok (.istore_n 1, 1) := by decide +kernel
theorem d4_25 : decode cX0_size 25 = .ok (.iinc 2 1, 3) := by decide +kernel
theorem d4_28 : decode cX0_size 28 = .ok (.goto (-24), 3) := by decide +kernel
theorem d4_31 : decode cX0_size 31 = .ok (.iload_n 1, 1) := by decide +kernel
theorem d4_32 : decode cX0_size 32 = .ok (.ireturn, 1) := by decide +kernel
theorem v4_0 : am_all (am_V9 4) am_l4_0 := ⟨Or.inr ⟨1, d4_0, rfl, rfl, am_eq9 (by decide +kernel), trivial, trivial⟩, Or.inr ⟨1, d4_1, rfl, rfl, rfl, trivial, trivial⟩, Or.inr ⟨1, d4_2, rfl, rfl, am_eq9 (by decide +kernel), trivial, trivial⟩, Or.inr ⟨1, d4_3, rfl, rfl, rfl, trivial, trivial⟩, Or.inr ⟨1, d4_4, rfl, rfl, rfl, trivial, trivial⟩, Or.inr ⟨1, d4_5, rfl, rfl, rfl, trivial, trivial⟩, Or.inr ⟨3, d4_6, rfl, rfl, trivial, ⟨RX0, TX0, 1, rfl, by decide, Or.inl aw_66⟩, trivial⟩, Or.inr ⟨1, d4_9, rfl, rfl, trivial, trivial, trivial⟩, Or.inr ⟨3, d4_10, rfl, rfl, rfl, trivial, trivial⟩, Or.inr ⟨1, d4_13, rfl, rfl, rfl, trivial, trivial⟩, Or.inr ⟨1, d4_14, rfl, rfl, rfl, trivial, trivial⟩, Or.inr ⟨3, d4_15, rfl, rfl, trivial, ⟨RX0, TX0, 1, rfl, by decide, Or.inl aw_66⟩, trivial⟩, Or.inr ⟨1, d4_18, rfl, rfl, rfl, trivial, trivial⟩, Or.inr ⟨1, d4_19, rfl, rfl, trivial, trivial, trivial⟩, Or.inr ⟨3, d4_20, rfl, rfl, trivial, trivial, Or.inr ⟨by decide, okM_157, aw_324, Or.inl ⟨rfl, aw_323⟩⟩⟩, Or.inr ⟨1, d4_23, rfl, rfl, trivial, trivial, trivial⟩, Or.inr ⟨1, d4_24, rfl, rfl, rfl, trivial, trivial⟩, Or.inr ⟨3, d4_25, rfl, rfl, ⟨rfl, by decide⟩, trivial, trivial⟩, Or.inr ⟨3, d4_28, rfl, rfl, rfl, trivial, trivial⟩, Or.inr ⟨1, d4_31, rfl, rfl, rfl, trivial, trivial⟩, Or.inr ⟨1, d4_32, rfl, rfl, trivial, trivial, trivial⟩, trivial⟩
theorem v4 : ∀ pc, am_V9 4 pc ((am_G 4).2.2.2.2.1 pc) := am_all_lc am_V9_0 _ ⟨v4_0, trivial⟩
theorem d5_0 : decode cX0_sumOfSquares 0 = .ok (.lconst 0, 1) := by decide +kernel
theorem d5_1 : decode cX0_sumOfSquares 1 = .ok (.lstore_n 1, 1) := by decide +kernel
theorem d5_2 : decode cX0_sumOfSquares 2 = .ok (.iconst 0, 1) := by decide +kernel
theorem d5_3 : decode cX0_sumOfSquares 3 = .ok (.istore_n 3, 1) := by decide +kernel
theorem d5_4 : decode cX0_sumOfSquares 4 = .ok (.iload_n 3, 1) := by decide +kernel
theorem d5_5 : decode cX0_sumOfSquares 5 = .ok (.aload_n 0, 1) := by decide +kernel
theorem d5_6 : decode cX0_sumOfSquares 6 = .ok (.getfield 9, 3) := by decide +kernel
theorem d5_9 : decode cX0_sumOfSquares 9 = .ok (.arraylength, 1) := by decide +kernel
theorem d5_10 : decode cX0_sumOfSquares 10 = .ok (.if_icmp .ge 59, 3) := by decide +kernel
theorem d5_13 : decode cX0_sumOfSquares 13 = .ok (.iconst 0, 1) := by decide +kernel
theorem d5_14 : decode cX0_sumOfSquares 14 = .ok (.istore 4, 2) := by decide +kernel
theorem d5_16 : decode cX0_sumOfSquares 16 = .ok (.iload 4, 2) := by decide +kernel
theorem d5_18 : decode cX0_sumOfSquares 18 = .ok (.bipush 16, 2) := by decide +kernel
theorem d5_20 : decode cX0_sumOfSquares 20 = .ok (.if_icmp .ge 43, 3) := by decide +kernel
theorem d5_23 : decode cX0_sumOfSquares 23 = .ok (.aload_n 0, 1) := by decide +kernel
theorem d5_24 : decode cX0_sumOfSquares 24 = .ok (.getfield 9, 3) := by decide +kernel
theorem d5_27 : decode cX0_sumOfSquares 27 = .ok (.iload_n 3, 1) := by decide +kernel
theorem d5_28 : decode cX0_sumOfSquares 28 = .ok (.iaload, 1) := by decide +kernel
theorem d5_29 : decode cX0_sumOfSquares 29 = .ok (.iconst 1, 1) := by decide +kernel
theorem d5_30 : decode cX0_sumOfSquares 30 = .ok (.iload 4, 2) := by decide +kernel
theorem d5_32 : decode cX0_sumOfSquares 32 = .ok (.ishl, 1) := by decide +kernel
theorem d5_33 : decode cX0_sumOfSquares 33 = .ok (.iand, 1) := by decide +kernel
theorem d5_34 : decode cX0_sumOfSquares 34 = .ok (.ifCond .eq 23, 3) := by decide +kernel
theorem d5_37 : decode cX0_sumOfSquares 37 = .ok (.iload 4, 2) := by decide +kernel
theorem d5_39 : decode cX0_sumOfSquares 39 = .ok (.bipush 16, 2) := by decide +kernel
theorem d5_41 : decode cX0_sumOfSquares 41 = .ok (.iload_n 3, 1) := by decide +kernel
theorem d5_42 : decode cX0_sumOfSquares 42 = .ok (.imul, 1) := by decide +kernel
theorem d5_43 : decode cX0_sumOfSquares 43 = .ok (.iadd, 1) := by decide +kernel
theorem d5_44 : decode cX0_sumOfSquares 44 = .ok (.iconst 1, 1) := by decide +kernel
theorem d5_45 : decode cX0_sumOfSquares 45 = .ok (.iadd, 1) := by decide +kernel
theorem d5_46 : decode cX0_sumOfSquares 46 = .ok (.i2l, 1) := by decide +kernel
theorem d5_47 : decode cX0_sumOfSquares 47 = .ok (.lstore 5, 2) := by decide +kernel
theorem d5_49 : decode cX0_sumOfSquares 49 = .ok (.lload_n 1, 1) := by decide +kernel
theorem d5_50 : decode cX0_sumOfSquares 50 = .ok (.lload 5, 2) := by decide +kernel
theorem d5_52 : decode cX0_sumOfSquares 52 = .ok (.lload 5, 2) := by decide +kernel
theorem d5_54 : decode cX0_sumOfSquares 54 = .ok (.lmul, 1) := by decide +kernel
theorem d5_55 : decode cX0_sumOfSquares 55 = .ok (.ladd, 1) := by decide +kernel
theorem d5_56 : decode cX0_sumOfSquares 56 = .ok (.lstore_n 1, 1) := by decide +kernel
theorem d5_57 : decode cX0_sumOfSquares 57 = .ok (.iinc 4 1, 3) := by decide +kernel
theorem d5_60 : decode cX0_sumOfSquares 60 = .ok (.goto (-44), 3) := by decide +kernel
theorem d5_63 : decode cX0_sumOfSquares 63 = .ok (.iinc 3 1, 3) := by decide +kernel
theorem d5_66 : decode cX0_sumOfSquares 66 = .ok (.goto (-62), 3) := by decide +kernel
theorem d5_69 : decode cX0_sumOfSquares 69 = .ok (.lload_n 1, 1) := by decide +kernel
theorem d5_70 : decode cX0_sumOfSquares 70 = .ok (.lreturn, 1) := by decide +kernel
theorem v5_0 : am_all (am_V9 5) am_l5_0 := ⟨Or.inr ⟨1, d5_0, rfl, rfl, rfl, trivial, trivial⟩, Or.inr ⟨1, d5_1, rfl, rfl, rfl, trivial, trivial⟩, Or.inr ⟨1, d5_2, rfl, rfl, am_eq9 (by decide +kernel), trivial, trivial⟩, Or.inr ⟨1, d5_3, rfl, rfl, rfl, trivial, trivial⟩, Or.inr ⟨1, d5_4, rfl, rfl, rfl, trivial, trivial⟩, Or.inr ⟨1, d5_5, rfl, rfl, rfl, trivial, trivial⟩, Or.inr ⟨3, d5_6, rfl, rfl, trivial, ⟨RX0, TX0, 1, rfl, by decide, Or.inl aw_66⟩, trivial⟩, Or.inr ⟨1, d5_9, rfl, rfl, trivial, trivial, trivial⟩, Or.inr ⟨3, d5_10, rfl, rfl, rfl, trivial, trivial⟩, Or.inr ⟨1, d5_13, rfl, rfl, am_eq9 (by decide +kernel), trivial, trivial⟩, Or.inr ⟨2, d5_14, rfl, rfl, rfl, trivial, trivial⟩, Or.inr ⟨2, d5_16, rfl, rfl, rfl, trivial, trivial⟩, Or.inr ⟨2, d5_18, rfl, rfl, am_eq9 (by decide +kernel), trivial, trivial⟩, Or.inr ⟨3, d5_20, rfl, rfl, rfl, trivial, trivial⟩, Or.inr ⟨1, d5_23, rfl, rfl, rfl, trivial, trivial⟩, Or.inr ⟨3, d5_24, rfl, rfl, trivial, ⟨RX0, TX0, 1, rfl, by decide, Or.inl aw_66⟩, trivial⟩, Or.inr ⟨1, d5_27, rfl, rfl, rfl, trivial, trivial⟩, Or.inr ⟨1, d5_28, rfl, rfl, trivial, trivial, trivial⟩, Or.inr ⟨1, d5_29, rfl, rfl, am_eq9 (by decide +kernel), trivial, trivial⟩, Or.inr ⟨2, d5_30, rfl, rfl, rfl, trivial, trivial⟩, Or.inr ⟨1, d5_32, rfl, rfl, trivial, trivial, trivial⟩, Or.inr ⟨1, d5_33, rfl, rfl, trivial, trivial, trivial⟩, Or.inr ⟨3, d5_34, rfl, rfl, rfl, trivial, trivial⟩, Or.inr ⟨2, d5_37, rfl, rfl, rfl, trivial, trivial⟩, trivial⟩
theorem v5_1 : am_all (am_V9 5) am_l5_1 := ⟨Or.inr ⟨2, d5_39, rfl, rfl, am_eq9 (by decide +kernel), trivial, trivial⟩, Or.inr ⟨1, d5_41, rfl, rfl, rfl, trivial, trivial⟩, Or.inr ⟨1, d5_42, rfl, rfl, trivial, trivial, trivial⟩, Or.inr ⟨1, d5_43, rfl, rfl, trivial, trivial, trivial⟩, Or.inr ⟨1, d5_44, rfl, rfl, am_eq9 (by decide +kernel), trivial, trivial⟩, Or.inr ⟨1, d5_45, rfl, rfl, trivial, trivial, trivial⟩, Or.inr ⟨1, d5_46, rfl, rfl, trivial, trivial, trivial⟩, Or.inr ⟨2, d5_47, rfl, rfl, rfl, trivial, trivial⟩, Or.inr ⟨1, d5_49, rfl, rfl, rfl, trivial, trivial⟩, Or.inr ⟨2, d5_50, rfl, rfl, rfl, trivial, trivial⟩, Or.inr ⟨2, d5_52, rfl, rfl, rfl, trivial, trivial⟩, Or.inr ⟨1, d5_54, rfl, rfl, trivial, trivial, trivial⟩, Or.inr ⟨1, d5_55, rfl, rfl, trivial, trivial, trivial⟩, Or.inr ⟨1, d5_56, rfl, rfl, rfl, trivial, trivial⟩, Or.inr ⟨3, d5_57, rfl, rfl, ⟨rfl, by decide⟩, trivial, trivial⟩, Or.inr ⟨3, d5_60, rfl, rfl, rfl, trivial, trivial⟩, Or.inr ⟨3, d5_63, rfl, rfl, ⟨rfl, by decide⟩, trivial, trivial⟩, Or.inr ⟨3, d5_66, rfl, rfl, rfl, trivial, trivial⟩, Or.inr ⟨1, d5_69, rfl, rfl, rfl, trivial, trivial⟩, Or.inr ⟨1, d5_70, rfl, rfl, trivial, trivial, trivial⟩, trivial⟩
theorem v5 : ∀ pc, am_V9 5 pc ((am_G 5).2.2.2.2.1 pc) := am_all_lc am_V9_0 _ ⟨v5_0, v5_1, trivial⟩
theorem d6_0 : decode cX0_isSameAs 0 = .ok (.aload_n 0, 1) := by decide +kernel
theorem d6_1 : decode cX0_isSameAs 1 = .ok (.aload_n 1, 1) := by decide +kernel
theorem d6_2 : decode cX0_isSameAs 2 = .ok (.invokevirtual 26, 3) := by decide +kernel
theorem d6_5 : decode cX0_isSameAs 5 = .ok (.ifCond .eq 15, 3) := by decide +kernel
theorem d6_8 : decode cX0_isSameAs 8 = .ok (.aload_n 1, 1) := by decide +kernel
theorem d6_9 : decode cX0_isSameAs 9 = .ok (.aload_n 0, 1) := by decide +kernel
theorem d6_10 : decode cX0_isSameAs 10 = .ok (.invokevirtual 26, 3) := by decide +kernel
theorem d6_13 : decode cX0_isSameAs 13 = .ok (.ifCond .eq 7, 3) := by decide +kernel
theorem d6_16 : decode cX0_isSameAs 16 = .ok (.iconst 1, 1) := by decide +kernel
theorem d6_17 : decode cX0_isSameAs 17 = .ok (.goto 4, 3) := by decide +kernel
theorem d6_20 : decode cX0_isSameAs 20 = .ok (.iconst 0, 1) := by decide +kernel
theorem d6_21 : decode cX0_isSameAs 21 = .ok (.ireturn, 1) := by decide +kernel
theorem v6_0 : am_all (am_V9 6) am_l6_0 := ⟨Or.inr ⟨1, d6_0, rfl, rfl, rfl, trivial, trivial⟩, Or.inr ⟨1, d6_1, rfl, rfl, rfl, trivial, trivial⟩, Or.inr ⟨3, d6_2, rfl, rfl, trivial, trivial, ⟨by decide, ⟨_, TX0, 1, rfl, okM_7, rfl⟩, aw_564, aw_565, aw_566⟩⟩, Or.inr ⟨3, d6_5, rfl, rfl, rfl, trivial, trivial⟩, Or.inr ⟨1, d6_8, rfl, rfl, rfl, trivial, trivial⟩, Or.inr ⟨1, d6_9, rfl, rfl, rfl, trivial, trivial⟩, Or.inr ⟨3, d6_10, rfl, rfl, trivial, trivial, ⟨by decide, ⟨_, TX0, 1, rfl, okM_7, rfl⟩, aw_564, aw_565, aw_566⟩⟩, Or.inr ⟨3, d6_13, rfl, rfl, rfl, trivial, trivial⟩, Or.inr ⟨1, d6_16, rfl, rfl, am_eq9 (by decide +kernel), trivial, trivial⟩, Or.inr ⟨3, d6_17, rfl, rfl, rfl, trivial, trivial⟩, Or.inr ⟨1, d6_20, rfl, rfl, am_eq9 (by decide +kernel), trivial, trivial⟩, Or.inr ⟨1, d6_21, rfl, rfl, trivial, trivial, trivial⟩, trivial⟩
theorem v6 : ∀ pc, am_V9 6 pc ((am_G 6).2.2.2.2.1 pc) := am_all_lc am_V9_0 _ ⟨v6_0, trivial⟩
theorem d7_0 : decode cX0_holdsAllOf 0 = .ok (.iconst 0, 1) := by decide +kernel
theorem d7_1 : decode cX0_holdsAllOf 1 = .ok (.istore_n 2, 1) := by decide +kernel
theorem d7_2 : decode cX0_holdsAllOf 2 = .ok (.iload_n 2, 1) := by decide +kernel
theorem d7_3 : decode cX0_holdsAllOf 3 = .ok (.aload_n 0, 1) := by decide +kernel
theorem d7_4 : decode cX0_holdsAllOf 4 = .ok (.getfield 9, 3) := by decide +kernel
theorem d7_7 : decode cX0_holdsAllOf 7 = .ok (.arraylength, 1) := by decide +kernel
theorem d7_8 : decode cX0_holdsAllOf 8 = .ok (.if_icmp .ge 29, 3) := by decide +kernel
theorem d7_11 : decode cX0_holdsAllOf 11 = .ok (.aload_n 1, 1) := by decide +kernel
theorem d7_12 : decode cX0_holdsAllOf 12 = .ok (.getfield 9, 3) := by decide +kernel
theorem d7_15 : decode cX0_holdsAllOf 15 = .ok (.iload_n 2, 1) := by decide +kernel
theorem d7_16 : decode cX0_holdsAllOf 16 = .ok (.iaload, 1) := by decide +kernel
theorem d7_17 : decode cX0_holdsAllOf 17 = .ok (.aload_n 0, 1) := by decide +kernel
theorem d7_18 : decode cX0_holdsAllOf 18 = .ok (.getfield 9, 3) := by decide +kernel
theorem d7_21 : decode cX0_holdsAllOf 21 = .ok (.iload_n 2, 1) := by decide +kernel
theorem d7_22 : decode cX0_holdsAllOf 22 = .ok (.iaload, 1) := by decide +kernel
theorem d7_23 : decode cX0_holdsAllOf 23 = .ok (.iconst (-1), 1) := by decide +kernel
theorem d7_24 : decode cX0_holdsAllOf 24 = .ok (.ixor, 1) := by decide +kernel
theorem d7_25 : decode cX0_holdsAllOf 25 = .ok (.iand, 1) := by decide +kernel
theorem d7_26 : decode cX0_holdsAllOf 26 = .ok (.ifCond .eq 5, 3) := by decide +kernel
theorem d7_29 : decode cX0_holdsAllOf 29 = .ok (.iconst 0, 1) := by decide +kernel
theorem d7_30 : decode cX0_holdsAllOf 30 = .ok (.ireturn, 1) := by decide +kernel
theorem d7_31 : decode cX0_holdsAllOf 31 = .ok (.iinc 2 1, 3) := by decide +kernel
theorem d7_34 : decode cX0_holdsAllOf 34 = .ok (.goto (-32), 3) := by decide +kernel
theorem d7_37 : decode cX0_holdsAllOf 37 = .ok (.iconst 1, 1) := by decide +kernel
theorem d7_38 : decode cX0_holdsAllOf 38 = .ok (.ireturn, 1) := by decide +kernel
theorem v7_0 : am_all (am_V9 7) am_l7_0 := ⟨Or.inr ⟨1, d7_0, rfl, rfl, am_eq9 (by decide +kernel), trivial, trivial⟩, Or.inr ⟨1, d7_1, rfl, rfl, rfl, trivial, trivial⟩, Or.inr ⟨1, d7_2, rfl, rfl, rfl, trivial, trivial⟩, Or.inr ⟨1, d7_3, rfl, rfl, rfl, trivial, trivial⟩, Or.inr ⟨3, d7_4, rfl, rfl, trivial, ⟨RX0, TX0, 1, rfl, by decide, Or.inl aw_66⟩, trivial⟩, Or.inr ⟨1, d7_7, rfl, rfl, trivial, trivial, trivial⟩, Or.inr ⟨3, d7_8, rfl, rfl, rfl, trivial, trivial⟩, Or.inr ⟨1, d7_11, rfl, rfl, rfl, trivial, trivial⟩, Or.inr ⟨3, d7_12, rfl, rfl, trivial, ⟨RX0, TX0, 1, rfl, by decide, Or.inl aw_66⟩, trivial⟩, Or.inr ⟨1, d7_15, rfl, rfl, rfl, trivial, trivial⟩, Or.inr ⟨1, d7_16, rfl, rfl, trivial, trivial, trivial⟩, Or.inr ⟨1, d7_17, rfl, rfl, rfl, trivial, trivial⟩, Or.inr ⟨3, d7_18, rfl, rfl, trivial, ⟨RX0, TX0, 1, rfl, by decide, Or.inl aw_66⟩, trivial⟩, Or.inr ⟨1, d7_21, rfl, rfl, rfl, trivial, trivial⟩, Or.inr ⟨1, d7_22, rfl, rfl, trivial, trivial, trivial⟩, Or.inr ⟨1, d7_23, rfl, rfl, am_eq9 (by decide +kernel), trivial, trivial⟩, Or.inr ⟨1, d7_24, rfl, rfl, trivial, trivial, trivial⟩, Or.inr ⟨1, d7_25, rfl, rfl, trivial, trivial, trivial⟩, Or.inr ⟨3, d7_26, rfl, rfl, rfl, trivial, trivial⟩, Or.inr ⟨1, d7_29, rfl, rfl, am_eq9 (by decide +kernel), trivial, trivial⟩, Or.inr ⟨1, d7_30, rfl, rfl, trivial, trivial, trivial⟩, Or.inr ⟨3, d7_31, rfl, rfl, ⟨rfl, by decide⟩, trivial, trivial⟩, Or.inr ⟨3, d7_34, rfl, rfl, rfl, trivial, trivial⟩, Or.inr ⟨1, d7_37, rfl, rfl, am_eq9 (by decide +kernel), trivial, trivial⟩, trivial⟩
theorem v7_1 : am_all (am_V9 7) am_l7_1 := ⟨Or.inr ⟨1, d7_38, rfl, rfl, trivial, trivial, trivial⟩, trivial⟩
theorem v7 : ∀ pc, am_V9 7 pc ((am_G 7).2.2.2.2.1 pc) := am_all_lc am_V9_0 _ ⟨v7_0, v7_1, trivial⟩
theorem d8_0 : decode cX0_meets 0 = .ok (.aload_n 1, 1) := by decide +kernel
theorem d8_1 : decode cX0_meets 1 = .ok (.invokevirtual 30, 3) := by decide +kernel
theorem d8_4 : decode cX0_meets 4 = .ok (.istore_n 2, 1) := by decide +kernel
theorem d8_5 : decode cX0_meets 5 = .ok (.aload_n 1, 1) := by decide +kernel
theorem d8_6 : decode cX0_meets 6 = .ok (.invokevirtual 36, 3) := by decide +kernel
theorem d8_9 : decode cX0_meets 9 = .ok (.istore_n 3, 1) := by decide +kernel
theorem d8_10 : decode cX0_meets 10 = .ok (.iload_n 3, 1) := by decide +kernel
theorem d8_11 : decode cX0_meets 11 = .ok (.bipush 6, 2) := by decide +kernel
theorem d8_13 : decode cX0_meets 13 = .ok (.if_icmp .ge 60, 3) := by decide +kernel
theorem d8_16 : decode cX0_meets 16 = .ok (.aload_n 1, 1) := by decide +kernel
theorem d8_17 : decode cX0_meets 17 = .ok (.iload_n 3, 1) := by decide +kernel
theorem d8_18 : decode cX0_meets 18 = .ok (.invokevirtual 39, 3) := by decide +kernel
theorem d8_21 : decode cX0_meets 21 = .ok (.istore 4, 2) := by decide +kernel
theorem d8_23 : decode cX0_meets 23 = .ok (.aload_n 1, 1) := by decide +kernel
theorem d8_24 : decode cX0_meets 24 = .ok (.invokevirtual 42, 3) := by decide +kernel
theorem d8_27 : decode cX0_meets 27 = .ok (.istore 5, 2) := by decide +kernel
theorem d8_29 : decode cX0_meets 29 = .ok (.iload 5, 2) := by decide +kernel
theorem d8_31 : decode cX0_meets 31 = .ok (.iload_n 2, 1) := by decide +kernel
theorem d8_32 : decode cX0_meets 32 = .ok (.if_icmp .gt 35, 3) := by decide +kernel
theorem d8_35 : decode cX0_meets 35 = .ok (.aload_n 0, 1) := by decide +kernel
theorem d8_36 : decode cX0_meets 36 = .ok (.getfield 9, 3) := by decide +kernel
theorem d8_39 : decode cX0_meets 39 = .ok (.iload_n 3, 1) := by decide +kernel
theorem d8_40 : decode cX0_meets 40 = .ok (.bipush 12, 2) := by decide +kernel
theorem d8_42 : decode cX0_meets 42 = .ok (.imul, 1) := by decide +kernel
theorem d8_43 : decode cX0_meets 43 = .ok (.iload 5, 2) := by decide +kernel
theorem d8_45 : decode cX0_meets 45 = .ok (.iadd, 1) := by decide +kernel
theorem d8_46 : decode cX0_meets 46 = .ok (.iaload, 1) := by decide +kernel
theorem d8_47 : decode cX0_meets 47 = .ok (.aload_n 1, 1) := by decide +kernel
theorem d8_48 : decode cX0_meets 48 = .ok (.iload 5, 2) := by decide +kernel
theorem d8_50 : decode cX0_meets 50 = .ok (.iload 4, 2) := by decide +kernel
theorem d8_52 : decode cX0_meets 52 = .ok (.invokevirtual 45, 3) := by decide +kernel
theorem d8_55 : decode cX0_meets 55 = .ok (.iand, 1) := by decide +kernel
theorem d8_56 : decode cX0_meets 56 = .ok (.ifCond .eq 5, 3) := by decide +kernel
theorem d8_59 : decode cX0_meets 59 = .ok (.iconst 1, 1) := by decide +kernel
theorem d8_60 : decode cX0_meets 60 = .ok (.ireturn, 1) := by decide +kernel
theorem d8_61 : decode cX0_meets 61 = .ok (.iinc 5 1, 3) := by decide +kernel
theorem d8_64 : decode cX0_meets 64 = .ok (.goto (-35), 3) := by decide +kernel
theorem d8_67 : decode cX0_meets 67 = .ok (.iinc 3 1, 3) := by decide +kernel
theorem d8_70 : decode cX0_meets 70 = .ok (.goto (-60), 3) := by decide +kernel
theorem d8_73 : decode cX0_meets 73 = .ok (.iconst 0, 1) := by decide +kernel
theorem d8_74 : decode cX0_meets 74 = .ok (.ireturn, 1) := by decide +kernel
theorem v8_0 : am_all (am_V9 8) am_l8_0 := ⟨Or.inr ⟨1, d8_0, rfl, rfl, rfl, trivial, trivial⟩, Or.inr ⟨3, d8_1, rfl, rfl, trivial, trivial, ⟨by decide, ⟨_, TX6, 5, rfl, okM_66, rfl⟩, aw_490, aw_491, aw_492⟩⟩, Or.inr ⟨1, d8_4, rfl, rfl, rfl, trivial, trivial⟩, Or.inr ⟨1, d8_5, rfl, rfl, rfl, trivial, trivial⟩, Or.inr ⟨3, d8_6, rfl, rfl, trivial, trivial, ⟨by decide, ⟨_, TX6, 5, rfl, okM_64, rfl⟩, aw_494, aw_495, aw_496⟩⟩, Or.inr ⟨1, d8_9, rfl, rfl, rfl, trivial, trivial⟩, Or.inr ⟨1, d8_10, rfl, rfl, rfl, trivial, trivial⟩, Or.inr ⟨2, d8_11, rfl, rfl, am_eq9 (by decide +kernel), trivial, trivial⟩, Or.inr ⟨3, d8_13, rfl, rfl, rfl, trivial, trivial⟩, Or.inr ⟨1, d8_16, rfl, rfl, rfl, trivial, trivial⟩, Or.inr ⟨1, d8_17, rfl, rfl, rfl, trivial, trivial⟩, Or.inr ⟨3, d8_18, rfl, rfl, trivial, trivial, ⟨by decide, ⟨_, TX6, 5, rfl, okM_67, rfl⟩, aw_498, aw_499, aw_500⟩⟩, Or.inr ⟨2, d8_21, rfl, rfl, rfl, trivial, trivial⟩, Or.inr ⟨1, d8_23, rfl, rfl, rfl, trivial, trivial⟩, Or.inr ⟨3, d8_24, rfl, rfl, trivial, trivial, ⟨by decide, ⟨_, TX6, 5, rfl, okM_65, rfl⟩, aw_502, aw_503, aw_504⟩⟩, Or.inr ⟨2, d8_27, rfl, rfl, rfl, trivial, trivial⟩, Or.inr ⟨2, d8_29, rfl, rfl, rfl, trivial, trivial⟩, Or.inr ⟨1, d8_31, rfl, rfl, rfl, trivial, trivial⟩, Or.inr ⟨3, d8_32, rfl, rfl, rfl, trivial, trivial⟩, Or.inr ⟨1, d8_35, rfl, rfl, rfl, trivial, trivial⟩, Or.inr ⟨3, d8_36, rfl, rfl, trivial, ⟨RX0, TX0, 1, rfl, by decide, Or.inl aw_66⟩, trivial⟩, Or.inr ⟨1, d8_39, rfl, rfl, rfl, trivial, trivial⟩, Or.inr ⟨2, d8_40, rfl, rfl, am_eq9 (by decide +kernel), trivial, trivial⟩, Or.inr ⟨1, d8_42, rfl, rfl, trivial, trivial, trivial⟩, trivial⟩
theorem v8_1 : am_all (am_V9 8) am_l8_1 := ⟨Or.inr ⟨2, d8_43, rfl, rfl, rfl, trivial, trivial⟩, Or.inr ⟨1, d8_45, rfl, rfl, trivial, trivial, trivial⟩, Or.inr ⟨1, d8_46, rfl, rfl, trivial, trivial, trivial⟩, Or.inr ⟨1, d8_47, rfl, rfl, rfl, trivial, trivial⟩, Or.inr ⟨2, d8_48, rfl, rfl, rfl, trivial, trivial⟩, Or.inr ⟨2, d8_50, rfl, rfl, rfl, trivial, trivial⟩, Or.inr ⟨3, d8_52, rfl, rfl, trivial, trivial, ⟨by decide, ⟨_, TX6, 5, rfl, okM_68, rfl⟩, aw_506, aw_507, aw_508⟩⟩, Or.inr ⟨1, d8_55, rfl, rfl, trivial, trivial, trivial⟩, Or.inr ⟨3, d8_56, rfl, rfl, rfl, trivial, trivial⟩, Or.inr ⟨1, d8_59, rfl, rfl, am_eq9 (by decide +kernel), trivial, trivial⟩, Or.inr ⟨1, d8_60, rfl, rfl, trivial, trivial, trivial⟩, Or.inr ⟨3, d8_61, rfl, rfl, ⟨rfl, by decide⟩, trivial, trivial⟩, Or.inr ⟨3, d8_64, rfl, rfl, rfl, trivial, trivial⟩, Or.inr ⟨3, d8_67, rfl, rfl, ⟨rfl, by decide⟩, trivial, trivial⟩, Or.inr ⟨3, d8_70, rfl, rfl, rfl, trivial, trivial⟩, Or.inr ⟨1, d8_73, rfl, rfl, am_eq9 (by decide +kernel), trivial, trivial⟩, Or.inr ⟨1, d8_74, rfl, rfl, trivial, trivial, trivial⟩, trivial⟩
theorem v8 : ∀ pc, am_V9 8 pc ((am_G 8).2.2.2.2.1 pc) := am_all_lc am_V9_0 _ ⟨v8_0, v8_1, trivial⟩
theorem d9_0 : decode cX0_takeAway 0 = .ok (.iconst 0, 1) := by decide +kernel
theorem d9_1 : decode cX0_takeAway 1 = .ok (.istore_n 2, 1) := by decide +kernel
theorem d9_2 : decode cX0_takeAway 2 = .ok (.aload_n 1, 1) := by decide +kernel
theorem d9_3 : decode cX0_takeAway 3 = .ok (.invokevirtual 30, 3) := by decide +kernel
theorem d9_6 : decode cX0_takeAway 6 = .ok (.istore_n 3, 1) := by decide +kernel
theorem d9_7 : decode cX0_takeAway 7 = .ok (.aload_n 1, 1) := by decide +kernel
theorem d9_8 : decode cX0_takeAway 8 = .ok (.invokevirtual 36, 3) := by decide +kernel
theorem d9_11 : decode cX0_takeAway 11 = .ok (.istore 4, 2) := by decide +kernel
theorem d9_13 : decode cX0_takeAway 13 = .ok (.iload 4, 2) := by decide +kernel
theorem d9_15 : decode cX0_takeAway 15 = .ok (.bipush 6, 2) := by decide +kernel
theorem d9_17 : decode cX0_takeAway 17 = .ok (.if_icmp .ge 83, 3) := by decide +kernel
theorem d9_20 : decode cX0_takeAway 20 = .ok (.aload_n 1, 1) := by decide +kernel
theorem d9_21 : decode cX0_takeAway 21 = .ok (.iload 4, 2) := by decide +kernel
theorem d9_23 : decode cX0_takeAway 23 = .ok (.invokevirtual 39, 3) := by decide +kernel
theorem d9_26 : decode cX0_takeAway 26 = .ok (.istore 5, 2) := by decide +kernel
theorem d9_28 : decode cX0_takeAway 28 = .ok (.aload_n 1, 1) := by decide +kernel
theorem d9_29 : decode cX0_takeAway 29 = .ok (.invokevirtual 42, 3) := by decide +kernel
theorem d9_32 : decode cX0_takeAway 32 = .ok (.istore 6, 2) := by decide +kernel
theorem d9_34 : decode cX0_takeAway 34 = .ok (.iload 6, 2) := by decide +kernel
theorem d9_36 : decode cX0_takeAway 36 = .ok (.iload_n 3, 1) := by decide +kernel
theorem d9_37 : decode cX0_takeAway 37 = .ok (.if_icmp .gt 57, 3) := by decide +kernel
theorem d9_40 : decode cX0_takeAway 40 = .ok (.iload 4, 2) := by decide +kernel
theorem d9_42 : decode cX0_takeAway 42 = .ok (.bipush 12, 2) := by decide +kernel
theorem d9_44 : decode cX0_takeAway 44 = .ok (.imul, 1) := by decide +kernel
theorem d9_45 : decode cX0_takeAway 45 = .ok (.iload 6, 2) := by decide +kernel
theorem d9_47 : decode cX0_takeAway 47 = .ok (.iadd, 1) := by decide +kernel
theorem d9_48 : decode cX0_takeAway 48 = .ok (.istore 7, 2) := by decide +kernel
theorem d9_50 : decode cX0_takeAway 50 = .ok (.aload_n 0, 1) := by decide +kernel
theorem d9_51 : decode cX0_takeAway 51 = .ok (.getfield 9, 3) := by decide +kernel
theorem d9_54 : decode cX0_takeAway 54 = .ok (.iload 7, 2) := by decide +kernel
theorem d9_56 : decode cX0_takeAway 56 = .ok (.iaload, 1) := by decide +kernel
theorem d9_57 : decode cX0_takeAway 57 = .ok (.aload_n 1, 1) := by decide +kernel
theorem d9_58 : decode cX0_takeAway 58 = .ok (.iload 6, 2) := by decide +kernel
theorem d9_60 : decode cX0_takeAway 60 = .ok (.iload 5, 2) := by decide +kernel
theorem d9_62 : decode cX0_takeAway 62 = .ok (.invokevirtual 45, 3) := by decide +kernel
theorem d9_65 : decode cX0_takeAway 65 = .ok (.iand, 1) := by decide +kernel
theorem d9_66 : decode cX0_takeAway 66 = .ok (.istore 8, 2) := by decide +kernel
theorem d9_68 : decode cX0_takeAway 68 = .ok (.iload_n 2, 1) := by decide +kernel
theorem d9_69 : decode cX0_takeAway 69 = .ok (.iload 8, 2) := by decide +kernel
theorem d9_71 : decode cX0_takeAway 71 = .ok (.invokestatic 20, 3) := by decide +kernel
theorem d9_74 : decode cX0_takeAway 74 = .ok (.iadd, 1) := by decide +kernel
theorem d9_75 : decode cX0_takeAway 75 = .ok (.istore_n 2, 1) := by decide +kernel
theorem d9_76 : decode cX0_takeAway 76 = .ok (.aload_n 0, 1) := by decide +kernel
theorem d9_77 : decode cX0_takeAway 77 = .ok (.getfield 9, 3) := by decide +kernel
theorem d9_80 : decode cX0_takeAway 80 = .ok (.iload 7, 2) := by decide +kernel
theorem d9_82 : decode cX0_takeAway 82 = .ok (.dup2, 1) := by decide +kernel
theorem d9_83 : decode cX0_takeAway 83 = .ok (.iaload, 1) := by decide +kernel
theorem d9_84 : decode cX0_takeAway 84 = .ok (.iload 8, 2) := by decide +kernel
theorem d9_86 : decode cX0_takeAway 86 = .ok (.isub, 1) := by decide +kernel
theorem d9_87 : decode cX0_takeAway 87 = .ok (.iastore, 1) := by decide +kernel
theorem d9_88 : decode cX0_takeAway 88 = .ok (.iinc 6 1, 3) := by decide +kernel
theorem d9_91 : decode cX0_takeAway 91 = .ok (.goto (-57), 3) := by decide +kernel
theorem d9_94 : decode cX0_takeAway 94 = .ok (.iinc 4 1, 3) := by decide +kernel
theorem d9_97 : decode cX0_takeAway 97 = .ok (.goto (-84), 3) := by decide +kernel
theorem d9_100 : decode cX0_takeAway 100 = .ok (.iload_n 2, 1) := by decide +kernel
theorem d9_101 : decode cX0_takeAway 101 = .ok (.ireturn, 1) := by decide +kernel
theorem v9_0 : am_all (am_V9 9) am_l9_0 := ⟨Or.inr ⟨1, d9_0, rfl, rfl, am_eq9 (by decide +kernel), trivial, trivial⟩, Or.inr ⟨1, d9_1, rfl, rfl, rfl, trivial, trivial⟩, Or.inr ⟨1, d9_2, rfl, rfl, rfl, trivial, trivial⟩, Or.inr ⟨3, d9_3, rfl, rfl, trivial, trivial, ⟨by decide, ⟨_, TX6, 5, rfl, okM_66, rfl⟩, aw_490, aw_491, aw_492⟩⟩, Or.inr ⟨1, d9_6, rfl, rfl, rfl, trivial, trivial⟩, Or.inr ⟨1, d9_7, rfl, rfl, rfl, trivial, trivial⟩, Or.inr ⟨3, d9_8, rfl, rfl, trivial, trivial, ⟨by decide, ⟨_, TX6, 5, rfl, okM_64, rfl⟩, aw_494, aw_495, aw_496⟩⟩, Or.inr ⟨2, d9_11, rfl, rfl, rfl, trivial, trivial⟩, Or.inr ⟨2, d9_13, rfl, rfl, rfl, trivial, trivial⟩, Or.inr ⟨2, d9_15, rfl, rfl, am_eq9 (by decide +kernel), trivial, trivial⟩, Or.inr ⟨3, d9_17, rfl, rfl, rfl, trivial, trivial⟩, Or.inr ⟨1, d9_20, rfl, rfl, rfl, trivial, trivial⟩, Or.inr ⟨2, d9_21, rfl, rfl, rfl, trivial, trivial⟩, Or.inr ⟨3, d9_23, rfl, rfl, trivial, trivial, ⟨by decide, ⟨_, TX6, 5, rfl, okM_67, rfl⟩, aw_498, aw_499, aw_500⟩⟩, Or.inr ⟨2, d9_26, rfl, rfl, rfl, trivial, trivial⟩, Or.inr ⟨1, d9_28, rfl, rfl, rfl, trivial, trivial⟩, Or.inr ⟨3, d9_29, rfl, rfl, trivial, trivial, ⟨by decide, ⟨_, TX6, 5, rfl, okM_65, rfl⟩, aw_502, aw_503, aw_504⟩⟩, Or.inr ⟨2, d9_32, rfl, rfl, rfl, trivial, trivial⟩, Or.inr ⟨2, d9_34, rfl, rfl, rfl, trivial, trivial⟩, Or.inr ⟨1, d9_36, rfl, rfl, rfl, trivial, trivial⟩, Or.inr ⟨3, d9_37, rfl, rfl, rfl, trivial, trivial⟩, Or.inr ⟨2, d9_40, rfl, rfl, rfl, trivial, trivial⟩, Or.inr ⟨2, d9_42, rfl, rfl, am_eq9 (by decide +kernel), trivial, trivial⟩, Or.inr ⟨1, d9_44, rfl, rfl, trivial, trivial, trivial⟩, trivial⟩
theorem v9_1 : am_all (am_V9 9) am_l9_1 := ⟨Or.inr ⟨2, d9_45, rfl, rfl, rfl, trivial, trivial⟩, Or.inr ⟨1, d9_47, rfl, rfl, trivial, trivial, trivial⟩, Or.inr ⟨2, d9_48, rfl, rfl, rfl, trivial, trivial⟩, Or.inr ⟨1, d9_50, rfl, rfl, rfl, trivial, trivial⟩, Or.inr ⟨3, d9_51, rfl, rfl, trivial, ⟨RX0, TX0, 1, rfl, by decide, Or.inl aw_66⟩, trivial⟩, Or.inr ⟨2, d9_54, rfl, rfl, rfl, trivial, trivial⟩, Or.inr ⟨1, d9_56, rfl, rfl, trivial, trivial, trivial⟩, Or.inr ⟨1, d9_57, rfl, rfl, rfl, trivial, trivial⟩, Or.inr ⟨2, d9_58, rfl, rfl, rfl, trivial, trivial⟩, Or.inr ⟨2, d9_60, rfl, rfl, rfl, trivial, trivial⟩, Or.inr ⟨3, d9_62, rfl, rfl, trivial, trivial, ⟨by decide, ⟨_, TX6, 5, rfl, okM_68, rfl⟩, aw_506, aw_507, aw_508⟩⟩, Or.inr ⟨1, d9_65, rfl, rfl, trivial, trivial, trivial⟩, Or.inr ⟨2, d9_66, rfl, rfl, rfl, trivial, trivial⟩, Or.inr ⟨1, d9_68, rfl, rfl, rfl, trivial, trivial⟩, Or.inr ⟨2, d9_69, rfl, rfl, rfl, trivial, trivial⟩, Or.inr ⟨3, d9_71, rfl, rfl, trivial, trivial, Or.inr ⟨by decide, okM_157, aw_324, Or.inl ⟨rfl, aw_323⟩⟩⟩, Or.inr ⟨1, d9_74, rfl, rfl, trivial, trivial, trivial⟩, Or.inr ⟨1, d9_75, rfl, rfl, rfl, trivial, trivial⟩, Or.inr ⟨1, d9_76, rfl, rfl, rfl, trivial, trivial⟩, Or.inr ⟨3, d9_77, rfl, rfl, trivial, ⟨RX0, TX0, 1, rfl, by decide, Or.inl aw_66⟩, trivial⟩, Or.inr ⟨2, d9_80, rfl, rfl, rfl, trivial, trivial⟩, Or.inr ⟨1, d9_82, rfl, rfl, trivial, trivial, trivial⟩, Or.inr ⟨1, d9_83, rfl, rfl, trivial, trivial, trivial⟩, Or.inr ⟨2, d9_84, rfl, rfl, rfl, trivial, trivial⟩, trivial⟩
theorem v9_2 : am_all (am_V9 9) am_l9_2 := ⟨Or.inr ⟨1, d9_86, rfl, rfl, trivial, trivial, trivial⟩, Or.inr ⟨1, d9_87, rfl, rfl, trivial, trivial, trivial⟩, Or.inr ⟨3, d9_88, rfl, rfl, ⟨rfl, by decide⟩, trivial, trivial⟩, Or.inr ⟨3, d9_91, rfl, rfl, rfl, trivial, trivial⟩, Or.inr ⟨3, d9_94, rfl, rfl, ⟨rfl, by decide⟩, trivial, trivial⟩, Or.inr ⟨3, d9_97, rfl, rfl, rfl, trivial, trivial⟩, Or.inr ⟨1, d9_100, rfl, rfl, rfl, trivial, trivial⟩, Or.inr ⟨1, d9_101, rfl, rfl, trivial, trivial, trivial⟩, trivial⟩
theorem v9 : ∀ pc, am_V9 9 pc ((am_G 9).2.2.2.2.1 pc) := am_all_lc am_V9_0 _ ⟨v9_0, v9_1, v9_2, trivial⟩
theorem d10_0 : decode cX1_init 0 = .ok (.aload_n 0, 1) := by decide +kernel
theorem d10_1 : decode cX1_init 1 = .ok (.invokespecial 3, 3) := by decide +kernel
theorem d10_4 : decode cX1_init 4 = .ok (.aload_n 0, 1) := by decide +kernel
theorem d10_5 : decode cX1_init 5 = .ok (.new 9, 3) := by decide +kernel
theorem d10_8 : decode cX1_init 8 = .ok (.dup, 1) := by decide +kernel
theorem d10_9 : decode cX1_init 9 = .ok (.invokespecial 11, 3) := by decide +kernel
theorem d10_12 : decode cX1_init 12 = .ok (.putfield 12, 3) := by decide +kernel
theorem d10_15 : decode cX1_init 15 = .ok (.aload_n 0, 1) := by decide +kernel
theorem d10_16 : decode cX1_init 16 = .ok (.bipush 12, 2) := by decide +kernel
theorem d10_18 : decode cX1_init 18 = .ok (.newarray .int, 2) := by decide +kernel
theorem d10_20 : decode cX1_init 20 = .ok (.putfield 18, 3) := by decide +kernel
theorem d10_23 : decode cX1_init 23 = .ok (.aload_n 0, 1) := by decide +kernel
theorem d10_24 : decode cX1_init 24 = .ok (.bipush 8, 2) := by decide +kernel
theorem d10_26 : decode cX1_init 26 = .ok (.newarray .int, 2) := by decide +kernel
theorem d10_28 : decode cX1_init 28 = .ok (.putfield 22, 3) := by decide +kernel
theorem d10_31 : decode cX1_init 31 = .ok (.aload_n 0, 1) := by decide +kernel
theorem d10_32 : decode cX1_init 32 = .ok (.iconst 3, 1) := by decide +kernel
theorem d10_33 : decode cX1_init 33 = .ok (.newarray .int, 2) := by decide +kernel
theorem d10_35 : decode cX1_init 35 = .ok (.putfield 25, 3) := by decide +kernel
theorem d10_38 : decode cX1_init 38 = .ok (.aload_n 0, 1) := by decide +kernel
theorem d10_39 : decode cX1_init 39 = .ok (.bipush 64, 2) := by decide +kernel
theorem d10_41 : decode cX1_init 41 = .ok (.newarray .int, 2) := by decide +kernel
theorem d10_43 : decode cX1_init 43 = .ok (.putfield 28, 3) := by decide +kernel
theorem d10_46 : decode cX1_init 46 = .ok (.aload_n 0, 1) := by decide +kernel
theorem d10_47 : decode cX1_init 47 = .ok (.new 31, 3) := by decide +kernel
theorem d10_50 : decode cX1_init 50 = .ok (.dup, 1) := by decide +kernel
theorem d10_51 : decode cX1_init 51 = .ok (.invokespecial 33, 3) := by decide +kernel
theorem d10_54 : decode cX1_init 54 = .ok (.putfield 34, 3) := by decide +kernel
theorem d10_57 : decode cX1_init 57 = .ok (.aload_n 0, 1) := by decide +kernel
theorem d10_58 : decode cX1_init 58 = .ok (.new 38, 3) := by decide +kernel
theorem d10_61 : decode cX1_init 61 = .ok (.dup, 1) := by decide +kernel
theorem d10_62 : decode cX1_init 62 = .ok (.invokespecial 40, 3) := by decide +kernel
theorem d10_65 : decode cX1_init 65 = .ok (.putfield 41, 3) := by decide +kernel
theorem d10_68 : decode cX1_init 68 = .ok (.aload_n 0, 1) := by decide +kernel
theorem d10_69 : decode cX1_init 69 = .ok (.aload_n 1, 1) := by decide +kernel
theorem d10_70 : decode cX1_init 70 = .ok (.putfield 45, 3) := by decide +kernel
theorem d10_73 : decode cX1_init 73 = .ok (.aload_n 0, 1) := by decide +kernel
theorem d10_74 : decode cX1_init 74 = .ok (.invokevirtual 49, 3) := by decide +kernel
theorem d10_77 : decode cX1_init 77 = .ok (.return_, 1) := by decide +kernel
theorem v10_0 : am_all (am_V9 10) am_l10_0 := ⟨Or.inr ⟨1, d10_0, rfl, rfl, rfl, trivial, trivial⟩, Or.inr ⟨3, d10_1, rfl, rfl, trivial, trivial, Or.inl ⟨rfl, aw_127, aw_31, aw_32⟩⟩, Or.inr ⟨1, d10_4, rfl, rfl, rfl, trivial, trivial⟩, Or.inr ⟨3, d10_5, rfl, rfl, trivial, ⟨RX0, TX0, 1, rfl, rfl, aw_128, aw_61, aw_4⟩, trivial⟩, Or.inr ⟨1, d10_8, rfl, rfl, trivial, trivial, trivial⟩, Or.inr ⟨3, d10_9, rfl, rfl, trivial, trivial, Or.inr ⟨by decide, ⟨_, rfl, okM_0⟩, aw_63, rfl, rfl, Or.inr ⟨rfl, _, an_4⟩⟩⟩, Or.inr ⟨3, d10_12, rfl, rfl, trivial, ⟨RX1, TX1, 20, rfl, by decide, aw_182, Or.inr ⟨rfl, rfl, rfl⟩⟩, trivial⟩, Or.inr ⟨1, d10_15, rfl, rfl, rfl, trivial, trivial⟩, Or.inr ⟨2, d10_16, rfl, rfl, am_eq9 (by decide +kernel), trivial, trivial⟩, Or.inr ⟨2, d10_18, rfl, rfl, trivial, ⟨rfl, aw_59⟩, trivial⟩, Or.inr ⟨3, d10_20, rfl, rfl, trivial, ⟨RX1, TX1, 20, rfl, by decide, aw_184, Or.inr ⟨rfl, rfl, rfl⟩⟩, trivial⟩, Or.inr ⟨1, d10_23, rfl, rfl, rfl, trivial, trivial⟩, Or.inr ⟨2, d10_24, rfl, rfl, am_eq9 (by decide +kernel), trivial, trivial⟩, Or.inr ⟨2, d10_26, rfl, rfl, trivial, ⟨rfl, aw_59⟩, trivial⟩, Or.inr ⟨3, d10_28, rfl, rfl, trivial, ⟨RX1, TX1, 20, rfl, by decide, aw_186, Or.inr ⟨rfl, rfl, rfl⟩⟩, trivial⟩, Or.inr ⟨1, d10_31, rfl, rfl, rfl, trivial, trivial⟩, Or.inr ⟨1, d10_32, rfl, rfl, am_eq9 (by decide +kernel), trivial, trivial⟩, Or.inr ⟨2, d10_33, rfl, rfl, trivial, ⟨rfl, aw_59⟩, trivial⟩, Or.inr ⟨3, d10_35, rfl, rfl, trivial, ⟨RX1, TX1, 20, rfl, by decide, aw_188, Or.inr ⟨rfl, rfl, rfl⟩⟩, trivial⟩, Or.inr ⟨1, d10_38, rfl, rfl, rfl, trivial, trivial⟩, Or.inr ⟨2, d10_39, rfl, rfl, am_eq9 (by decide +kernel), trivial, trivial⟩, Or.inr ⟨2, d10_41, rfl, rfl, trivial, ⟨rfl, aw_59⟩, trivial⟩, Or.inr ⟨3, d10_43, rfl, rfl, trivial, ⟨RX1, TX1, 20, rfl, by decide, aw_190, Or.inr ⟨rfl, rfl, rfl⟩⟩, trivial⟩, Or.inr ⟨1, d10_46, rfl, rfl, rfl, trivial, trivial⟩, trivial⟩
theorem v10_1 : am_all (am_V9 10) am_l10_1 := ⟨Or.inr ⟨3, d10_47, rfl, rfl, trivial, ⟨RX3, TX3, 4, rfl, rfl, aw_130, aw_131, aw_7⟩, trivial⟩, Or.inr ⟨1, d10_50, rfl, rfl, trivial, trivial, trivial⟩, Or.inr ⟨3, d10_51, rfl, rfl, trivial, trivial, Or.inr ⟨by decide, ⟨_, rfl, okM_41⟩, aw_133, rfl, rfl, Or.inr ⟨rfl, _, an_5⟩⟩⟩, Or.inr ⟨3, d10_54, rfl, rfl, trivial, ⟨RX1, TX1, 20, rfl, by decide, aw_191, Or.inr ⟨rfl, rfl, rfl⟩⟩, trivial⟩, Or.inr ⟨1, d10_57, rfl, rfl, rfl, trivial, trivial⟩, Or.inr ⟨3, d10_58, rfl, rfl, trivial, ⟨RX6, TX6, 5, rfl, rfl, aw_150, aw_151, aw_8⟩, trivial⟩, Or.inr ⟨1, d10_61, rfl, rfl, trivial, trivial, trivial⟩, Or.inr ⟨3, d10_62, rfl, rfl, trivial, trivial, Or.inr ⟨by decide, ⟨_, rfl, okM_61⟩, aw_153, rfl, rfl, Or.inr ⟨rfl, _, an_6⟩⟩⟩, Or.inr ⟨3, d10_65, rfl, rfl, trivial, ⟨RX1, TX1, 20, rfl, by decide, aw_192, Or.inr ⟨rfl, rfl, rfl⟩⟩, trivial⟩, Or.inr ⟨1, d10_68, rfl, rfl, rfl, trivial, trivial⟩, Or.inr ⟨1, d10_69, rfl, rfl, rfl, trivial, trivial⟩, Or.inr ⟨3, d10_70, rfl, rfl, trivial, ⟨RX1, TX1, 20, rfl, by decide, aw_181, Or.inr ⟨rfl, rfl, rfl⟩⟩, trivial⟩, Or.inr ⟨1, d10_73, rfl, rfl, rfl, trivial, trivial⟩, Or.inr ⟨3, d10_74, rfl, rfl, trivial, trivial, ⟨by decide, ⟨_, TX1, 20, rfl, okM_11, rfl⟩, aw_172, aw_173, aw_174⟩⟩, Or.inr ⟨1, d10_77, rfl, rfl, trivial, trivial, trivial⟩, trivial⟩
theorem v10 : ∀ pc, am_V9 10 pc ((am_G 10).2.2.2.2.1 pc) := am_all_lc am_V9_0 _ ⟨v10_0, v10_1, trivial⟩
theorem d11_0 : decode cX1_begin 0 = .ok (.aload_n 0, 1) := by decide +kernel
theorem d11_1 : decode cX1_begin 1 = .ok (.getfield 12, 3) := by decide +kernel
theorem d11_4 : decode cX1_begin 4 = .ok (.invokevirtual 52, 3) := by decide +kernel
theorem d11_7 : decode cX1_begin 7 = .ok (.iconst 0, 1) := by decide +kernel
theorem d11_8 : decode cX1_begin 8 = .ok (.istore_n 1, 1) := by decide +kernel
theorem d11_9 : decode cX1_begin 9 = .ok (.iload_n 1, 1) := by decide +kernel
theorem d11_10 : decode cX1_begin 10 = .ok (.bipush 12, 2) := by decide +kernel
theorem d11_12 : decode cX1_begin 12 = .ok (.if_icmp .ge 16, 3) := by decide +kernel
theorem d11_15 : decode cX1_begin 15 = .ok (.aload_n 0, 1) := by decide +kernel
theorem d11_16 : decode cX1_begin 16 = .ok (.getfield 18, 3) := by decide +kernel
theorem d11_19 : decode cX1_begin 19 = .ok (.iload_n 1, 1) := by decide +kernel
theorem d11_20 : decode cX1_begin 20 = .ok (.iconst 0, 1) := by decide +kernel
theorem d11_21 : decode cX1_begin 21 = .ok (.iastore, 1) := by decide +kernel
theorem d11_22 : decode cX1_begin 22 = .ok (.iinc 1 1, 3) := by decide +kernel
theorem d11_25 : decode cX1_begin 25 = .ok (.goto (-16), 3) := by decide +kernel
theorem d11_28 : decode cX1_begin 28 = .ok (.iconst 0, 1) := by decide +kernel
theorem d11_29 : decode cX1_begin 29 = .ok (.istore_n 1, 1) := by decide +kernel
theorem d11_30 : decode cX1_begin 30 = .ok (.iload_n 1, 1) := by decide +kernel
theorem d11_31 : decode cX1_begin 31 = .ok (.bipush 8, 2) := by decide +kernel
theorem d11_33 : decode cX1_begin 33 = .ok (.if_icmp .ge 16, 3) := by decide +kernel
theorem d11_36 : decode cX1_begin 36 = .ok (.aload_n 0, 1) := by decide +kernel
theorem d11_37 : decode cX1_begin 37 = .ok (.getfield 22, 3) := by decide +kernel
theorem d11_40 : decode cX1_begin 40 = .ok (.iload_n 1, 1) := by decide +kernel
theorem d11_41 : decode cX1_begin 41 = .ok (.iconst 0, 1) := by decide +kernel
theorem d11_42 : decode cX1_begin 42 = .ok (.iastore, 1) := by decide +kernel
theorem d11_43 : decode cX1_begin 43 = .ok (.iinc 1 1, 3) := by decide +kernel
theorem d11_46 : decode cX1_begin 46 = .ok (.goto (-16), 3) := by decide +kernel
theorem d11_49 : decode cX1_begin 49 = .ok (.aload_n 0, 1) := by decide +kernel
theorem d11_50 : decode cX1_begin 50 = .ok (.getfield 25, 3) := by decide +kernel
theorem d11_53 : decode cX1_begin 53 = .ok (.iconst 0, 1) := by decide +kernel
theorem d11_54 : decode cX1_begin 54 = .ok (.iconst 0, 1) := by decide +kernel
theorem d11_55 : decode cX1_begin 55 = .ok (.iastore, 1) := by decide +kernel
theorem d11_56 : decode cX1_begin 56 = .ok (.aload_n 0, 1) := by decide +kernel
theorem d11_57 : decode cX1_begin 57 = .ok (.getfield 25, 3) := by decide +kernel
theorem d11_60 : decode cX1_begin 60 = .ok (.iconst 1, 1) := by decide +kernel
theorem d11_61 : decode cX1_begin 61 = .ok (.iconst 0, 1) := by decide +kernel
theorem d11_62 : decode cX1_begin 62 = .ok (.iastore, 1) := by decide +kernel
theorem d11_63 : decode cX1_begin 63 = .ok (.aload_n 0, 1) := by decide +kernel
theorem d11_64 : decode cX1_begin 64 = .ok (.getfield 25, 3) := by decide +kernel
theorem d11_67 : decode cX1_begin 67 = .ok (.iconst 2, 1) := by decide +kernel
theorem d11_68 : decode cX1_begin 68 = .ok (.bipush 9, 2) := by decide +kernel
theorem d11_70 : decode cX1_begin 70 = .ok (.iastore, 1) := by decide +kernel
theorem d11_71 : decode cX1_begin 71 = .ok (.aload_n 0, 1) := by decide +kernel
theorem d11_72 : decode cX1_begin 72 = .ok (.iconst 0, 1) := by decide +kernel
theorem d11_73 : decode cX1_begin 73 = .ok (.putfield 55, 3) := by decide +kernel
theorem d11_76 : decode cX1_begin 76 = .ok (.aload_n 0, 1) := by decide +kernel
theorem d11_77 : decode cX1_begin 77 = .ok (.iconst 0, 1) := by decide +kernel
theorem d11_78 : decode cX1_begin 78 = .ok (.putfield 59, 3) := by decide +kernel
theorem d11_81 : decode cX1_begin 81 = .ok (.aload_n 0, 1) := by decide +kernel
theorem d11_82 : decode cX1_begin 82 = .ok (.iconst (-1), 1) := by decide +kernel
theorem d11_83 : decode cX1_begin 83 = .ok (.putfield 62, 3) := by decide +kernel
theorem d11_86 : decode cX1_begin 86 = .ok (.aload_n 0, 1) := by decide +kernel
theorem d11_87 : decode cX1_begin 87 = .ok (.fconst 0, 1) := by decide +kernel
theorem d11_88 : decode cX1_begin 88 = .ok (.putfield 65, 3) := by decide +kernel
theorem d11_91 : decode cX1_begin 91 = .ok (.aload_n 0, 1) := by decide +kernel
theorem d11_92 : decode cX1_begin 92 = .ok (.bipush 10, 2) := by decide +kernel
theorem d11_94 : decode cX1_begin 94 = .ok (.putfield 69, 3) := by decide +kernel
theorem d11_97 : decode cX1_begin 97 = .ok (.aload_n 0, 1) := by decide +kernel
theorem d11_98 : decode cX1_begin 98 = .ok (.iconst 0, 1) := by decide +kernel
theorem d11_99 : decode cX1_begin 99 = .ok (.putfield 72, 3) := by decide +kernel
theorem d11_102 : decode cX1_begin 102 = .ok (.aload_n 0, 1) := by decide +kernel
theorem d11_103 : decode cX1_begin 103 = .ok (.iconst 0, 1) := by decide +kernel
theorem d11_104 : decode cX1_begin 104 = .ok (.putfield 75, 3) := by decide +kernel
theorem d11_107 : decode cX1_begin 107 = .ok (.aload_n 0, 1) := by decide +kernel
theorem d11_108 : decode cX1_begin 108 = .ok (.iconst 0, 1) := by decide +kernel
theorem d11_109 : decode cX1_begin 109 = .ok (.putfield 79, 3) := by decide +kernel
theorem d11_112 : decode cX1_begin 112 = .ok (.aload_n 0, 1) := by decide +kernel
theorem d11_113 : decode cX1_begin 113 = .ok (.iconst 0, 1) := by decide +kernel
theorem d11_114 : decode cX1_begin 114 = .ok (.putfield 82, 3) := by decide +kernel
theorem d11_117 : decode cX1_begin 117 = .ok (.return_, 1) := by decide +kernel
theorem v11_0 : am_all (am_V9 11) am_l11_0 := ⟨Or.inr ⟨1, d11_0, rfl, rfl, rfl, trivial, trivial⟩, Or.inr ⟨3, d11_1, rfl, rfl, trivial, ⟨RX1, TX1, 20, rfl, by decide, Or.inl aw_182⟩, trivial⟩, Or.inr ⟨3, d11_4, rfl, rfl, trivial, trivial, ⟨by decide, ⟨_, TX0, 1, rfl, okM_1, rfl⟩, aw_176, aw_177, aw_178⟩⟩, Or.inr ⟨1, d11_7, rfl, rfl, am_eq9 (by decide +kernel), trivial, trivial⟩, Or.inr ⟨1, d11_8, rfl, rfl, rfl, trivial, trivial⟩, Or.inr ⟨1, d11_9, rfl, rfl, rfl, trivial, trivial⟩, Or.inr ⟨2, d11_10, rfl, rfl, am_eq9 (by decide +kernel), trivial, trivial⟩, Or.inr ⟨3, d11_12, rfl, rfl, rfl, trivial, trivial⟩, Or.inr ⟨1, d11_15, rfl, rfl, rfl, trivial, trivial⟩, Or.inr ⟨3, d11_16, rfl, rfl, trivial, ⟨RX1, TX1, 20, rfl, by decide, Or.inl aw_184⟩, trivial⟩, Or.inr ⟨1, d11_19, rfl, rfl, rfl, trivial, trivial⟩, Or.inr ⟨1, d11_20, rfl, rfl, am_eq9 (by decide +kernel), trivial, trivial⟩, Or.inr ⟨1, d11_21, rfl, rfl, trivial, trivial, trivial⟩, Or.inr ⟨3, d11_22, rfl, rfl, ⟨rfl, by decide⟩, trivial, trivial⟩, Or.inr ⟨3, d11_25, rfl, rfl, rfl, trivial, trivial⟩, Or.inr ⟨1, d11_28, rfl, rfl, am_eq9 (by decide +kernel), trivial, trivial⟩, Or.inr ⟨1, d11_29, rfl, rfl, rfl, trivial, trivial⟩, Or.inr ⟨1, d11_30, rfl, rfl, rfl, trivial, trivial⟩, Or.inr ⟨2, d11_31, rfl, rfl, am_eq9 (by decide +kernel), trivial, trivial⟩, Or.inr ⟨3, d11_33, rfl, rfl, rfl, trivial, trivial⟩, Or.inr ⟨1, d11_36, rfl, rfl, rfl, trivial, trivial⟩, Or.inr ⟨3, d11_37, rfl, rfl, trivial, ⟨RX1, TX1, 20, rfl, by decide, Or.inl aw_186⟩, trivial⟩, Or.inr ⟨1, d11_40, rfl, rfl, rfl, trivial, trivial⟩, Or.inr ⟨1, d11_41, rfl, rfl, am_eq9 (by decide +kernel), trivial, trivial⟩, trivial⟩
theorem v11_1 : am_all (am_V9 11) am_l11_1 := ⟨Or.inr ⟨1, d11_42, rfl, rfl, trivial, trivial, trivial⟩, Or.inr ⟨3, d11_43, rfl, rfl, ⟨rfl, by decide⟩, trivial, trivial⟩, Or.inr ⟨3, d11_46, rfl, rfl, rfl, trivial, trivial⟩, Or.inr ⟨1, d11_49, rfl, rfl, rfl, trivial, trivial⟩, Or.inr ⟨3, d11_50, rfl, rfl, trivial, ⟨RX1, TX1, 20, rfl, by decide, Or.inl aw_188⟩, trivial⟩, Or.inr ⟨1, d11_53, rfl, rfl, am_eq9 (by decide +kernel), trivial, trivial⟩, Or.inr ⟨1, d11_54, rfl, rfl, am_eq9 (by decide +kernel), trivial, trivial⟩, Or.inr ⟨1, d11_55, rfl, rfl, trivial, trivial, trivial⟩, Or.inr ⟨1, d11_56, rfl, rfl, rfl, trivial, trivial⟩, Or.inr ⟨3, d11_57, rfl, rfl, trivial, ⟨RX1, TX1, 20, rfl, by decide, Or.inl aw_188⟩, trivial⟩, Or.inr ⟨1, d11_60, rfl, rfl, am_eq9 (by decide +kernel), trivial, trivial⟩, Or.inr ⟨1, d11_61, rfl, rfl, am_eq9 (by decide +kernel), trivial, trivial⟩, Or.inr ⟨1, d11_62, rfl, rfl, trivial, trivial, trivial⟩, Or.inr ⟨1, d11_63, rfl, rfl, rfl, trivial, trivial⟩, Or.inr ⟨3, d11_64, rfl, rfl, trivial, ⟨RX1, TX1, 20, rfl, by decide, Or.inl aw_188⟩, trivial⟩, Or.inr ⟨1, d11_67, rfl, rfl, am_eq9 (by decide +kernel), trivial, trivial⟩, Or.inr ⟨2, d11_68, rfl, rfl, am_eq9 (by decide +kernel), trivial, trivial⟩, Or.inr ⟨1, d11_70, rfl, rfl, trivial, trivial, trivial⟩, Or.inr ⟨1, d11_71, rfl, rfl, rfl, trivial, trivial⟩, Or.inr ⟨1, d11_72, rfl, rfl, am_eq9 (by decide +kernel), trivial, trivial⟩, Or.inr ⟨3, d11_73, rfl, rfl, trivial, ⟨RX1, TX1, 20, rfl, by decide, aw_193, Or.inl rfl⟩, trivial⟩, Or.inr ⟨1, d11_76, rfl, rfl, rfl, trivial, trivial⟩, Or.inr ⟨1, d11_77, rfl, rfl, am_eq9 (by decide +kernel), trivial, trivial⟩, Or.inr ⟨3, d11_78, rfl, rfl, trivial, ⟨RX1, TX1, 20, rfl, by decide, aw_195, Or.inl rfl⟩, trivial⟩, trivial⟩
theorem v11_2 : am_all (am_V9 11) am_l11_2 := ⟨Or.inr ⟨1, d11_81, rfl, rfl, rfl, trivial, trivial⟩, Or.inr ⟨1, d11_82, rfl, rfl, am_eq9 (by decide +kernel), trivial, trivial⟩, Or.inr ⟨3, d11_83, rfl, rfl, trivial, ⟨RX1, TX1, 20, rfl, by decide, aw_197, Or.inl rfl⟩, trivial⟩, Or.inr ⟨1, d11_86, rfl, rfl, rfl, trivial, trivial⟩, Or.inr ⟨1, d11_87, rfl, rfl, trivial, trivial, trivial⟩, Or.inr ⟨3, d11_88, rfl, rfl, trivial, ⟨RX1, TX1, 20, rfl, by decide, aw_199, Or.inl rfl⟩, trivial⟩, Or.inr ⟨1, d11_91, rfl, rfl, rfl, trivial, trivial⟩, Or.inr ⟨2, d11_92, rfl, rfl, am_eq9 (by decide +kernel), trivial, trivial⟩, Or.inr ⟨3, d11_94, rfl, rfl, trivial, ⟨RX1, TX1, 20, rfl, by decide, aw_201, Or.inl rfl⟩, trivial⟩, Or.inr ⟨1, d11_97, rfl, rfl, rfl, trivial, trivial⟩, Or.inr ⟨1, d11_98, rfl, rfl, am_eq9 (by decide +kernel), trivial, trivial⟩, Or.inr ⟨3, d11_99, rfl, rfl, trivial, ⟨RX1, TX1, 20, rfl, by decide, aw_202, Or.inl rfl⟩, trivial⟩, Or.inr ⟨1, d11_102, rfl, rfl, rfl, trivial, trivial⟩, Or.inr ⟨1, d11_103, rfl, rfl, am_eq9 (by decide +kernel), trivial, trivial⟩, Or.inr ⟨3, d11_104, rfl, rfl, trivial, ⟨RX1, TX1, 20, rfl, by decide, aw_203, Or.inl rfl⟩, trivial⟩, Or.inr ⟨1, d11_107, rfl, rfl, rfl, trivial, trivial⟩, Or.inr ⟨1, d11_108, rfl, rfl, am_eq9 (by decide +kernel), trivial, trivial⟩, Or.inr ⟨3, d11_109, rfl, rfl, trivial, ⟨RX1, TX1, 20, rfl, by decide, aw_204, Or.inl rfl⟩, trivial⟩, Or.inr ⟨1, d11_112, rfl, rfl, rfl, trivial, trivial⟩, Or.inr ⟨1, d11_113, rfl, rfl, am_eq9 (by decide +kernel), trivial, trivial⟩, Or.inr ⟨3, d11_114, rfl, rfl, trivial, ⟨RX1, TX1, 20, rfl, by decide, aw_205, Or.inl rfl⟩, trivial⟩, Or.inr ⟨1, d11_117, rfl, rfl, trivial, trivial, trivial⟩, trivial⟩
theorem v11 : ∀ pc, am_V9 11 pc ((am_G 11).2.2.2.2.1 pc) := am_all_lc am_V9_0 _ ⟨v11_0, v11_1, v11_2, trivial⟩
theorem d12_0 : decode cX1_isBehindLast 0 = .ok (.aload_n 0, 1) := by decide +kernel
theorem d12_1 : decode cX1_isBehindLast 1 = .ok (.getfield 55, 3) := by decide +kernel
theorem d12_4 : decode cX1_isBehindLast 4 = .ok (.aload_n 0, 1) := by decide +kernel
theorem d12_5 : decode cX1_isBehindLast 5 = .ok (.getfield 45, 3) := by decide +kernel
theorem d12_8 : decode cX1_isBehindLast 8 = .ok (.getfield 85, 3) := by decide +kernel
theorem d12_11 : decode cX1_isBehindLast 11 = .ok (.getfield 91, 3) := by decide +kernel
theorem d12_14 : decode cX1_isBehindLast 14 = .ok (.if_icmp .lt 7, 3) := by decide +kernel
theorem d12_17 : decode cX1_isBehindLast 17 = .ok (.iconst 1, 1) := by decide +kernel
theorem d12_18 : decode cX1_isBehindLast 18 = .ok (.goto 4, 3) := by decide +kernel
theorem d12_21 : decode cX1_isBehindLast 21 = .ok (.iconst 0, 1) := by decide +kernel
theorem d12_22 : decode cX1_isBehindLast 22 = .ok (.ireturn, 1) := by decide +kernel
theorem v12_0 : am_all (am_V9 12) am_l12_0 := ⟨Or.inr ⟨1, d12_0, rfl, rfl, rfl, trivial, trivial⟩, Or.inr ⟨3, d12_1, rfl, rfl, trivial, ⟨RX1, TX1, 20, rfl, by decide, Or.inl aw_193⟩, trivial⟩, Or.inr ⟨1, d12_4, rfl, rfl, rfl, trivial, trivial⟩, Or.inr ⟨3, d12_5, rfl, rfl, trivial, ⟨RX1, TX1, 20, rfl, by decide, Or.inl aw_181⟩, trivial⟩, Or.inr ⟨3, d12_8, rfl, rfl, trivial, ⟨RX2, TX2, 4, rfl, by decide, Or.inl aw_111⟩, trivial⟩, Or.inr ⟨3, d12_11, rfl, rfl, trivial, ⟨RX4, TX4, 6, rfl, by decide, Or.inl aw_86⟩, trivial⟩, Or.inr ⟨3, d12_14, rfl, rfl, rfl, trivial, trivial⟩, Or.inr ⟨1, d12_17, rfl, rfl, am_eq9 (by decide +kernel), trivial, trivial⟩, Or.inr ⟨3, d12_18, rfl, rfl, rfl, trivial, trivial⟩, Or.inr ⟨1, d12_21, rfl, rfl, am_eq9 (by decide +kernel), trivial, trivial⟩, Or.inr ⟨1, d12_22, rfl, rfl, trivial, trivial, trivial⟩, trivial⟩
theorem v12 : ∀ pc, am_V9 12 pc ((am_G 12).2.2.2.2.1 pc) := am_all_lc am_V9_0 _ ⟨v12_0, trivial⟩
theorem d13_0 : decode cX1_isAtStop 0 = .ok (.aload_n 0, 1) := by decide +kernel
theorem d13_1 : decode cX1_isAtStop 1 = .ok (.getfield 82, 3) := by decide +kernel
theorem d13_4 : decode cX1_isAtStop 4 = .ok (.bipush 113, 2) := by decide +kernel
theorem d13_6 : decode cX1_isAtStop 6 = .ok (.if_icmp .ne 7, 3) := by decide +kernel
theorem d13_9 : decode cX1_isAtStop 9 = .ok (.iconst 1, 1) := by decide +kernel
theorem d13_10 : decode cX1_isAtStop 10 = .ok (.goto 4, 3) := by decide +kernel
theorem d13_13 : decode cX1_isAtStop 13 = .ok (.iconst 0, 1) := by decide +kernel
theorem d13_14 : decode cX1_isAtStop 14 = .ok (.ireturn, 1) := by decide +kernel
theorem v13_0 : am_all (am_V9 13) am_l13_0 := ⟨Or.inr ⟨1, d13_0, rfl, rfl, rfl, trivial, trivial⟩, Or.inr ⟨3, d13_1, rfl, rfl, trivial, ⟨RX1, TX1, 20, rfl, by decide, Or.inl aw_205⟩, trivial⟩, Or.inr ⟨2, d13_4, rfl, rfl, am_eq9 (by decide +kernel), trivial, trivial⟩, Or.inr ⟨3, d13_6, rfl, rfl, rfl, trivial, trivial⟩, Or.inr ⟨1, d13_9, rfl, rfl, am_eq9 (by decide +kernel), trivial, trivial⟩, Or.inr ⟨3, d13_10, rfl, rfl, rfl, trivial, trivial⟩, Or.inr ⟨1, d13_13, rfl, rfl, am_eq9 (by decide +kernel), trivial, trivial⟩, Or.inr ⟨1, d13_14, rfl, rfl, trivial, trivial, trivial⟩, trivial⟩
theorem v13 : ∀ pc, am_V9 13 pc ((am_G 13).2.2.2.2.1 pc) := am_all_lc am_V9_0 _ ⟨v13_0, trivial⟩
theorem d14_0 : decode cX1_sumOfUses 0 = .ok (.iconst 0, 1) := by decide +kernel
theorem d14_1 : decode cX1_sumOfUses 1 = .ok (.istore_n 1, 1) := by decide +kernel
theorem d14_2 : decode cX1_sumOfUses 2 = .ok (.iconst 0, 1) := by decide +kernel
theorem d14_3 : decode cX1_sumOfUses 3 = .ok (.istore_n 2, 1) := by decide +kernel
theorem d14_4 : decode cX1_sumOfUses 4 = .ok (.iload_n 2, 1) := by decide +kernel
theorem d14_5 : decode cX1_sumOfUses 5 = .ok (.bipush 12, 2) := by decide +kernel
theorem d14_7 : decode cX1_sumOfUses 7 = .ok (.if_icmp .ge 18, 3) := by decide +kernel
theorem d14_10 : decode cX1_sumOfUses 10 = .ok (.iload_n 1, 1) := by decide +kernel
theorem d14_11 : decode cX1_sumOfUses 11 = .ok (.aload_n 0, 1) := by decide +kernel
theorem d14_12 : decode cX1_sumOfUses 12 = .ok (.getfield 18, 3) := by decide +kernel
theorem d14_15 : decode cX1_sumOfUses 15 = .ok (.iload_n 2, 1) := by decide +kernel
theorem d14_16 : decode cX1_sumOfUses 16 = .ok (.iaload, 1) := by decide +kernel
theorem d14_17 : decode cX1_sumOfUses 17 = .ok (.iadd, 1) := by decide +kernel
theorem d14_18 : decode cX1_sumOfUses 18 = .ok (.istore_n 1, 1) := by decide +kernel
theorem d14_19 : decode cX1_sumOfUses 19 = .ok (.iinc 2 1, 3) := by decide +kernel
theorem d14_22 : decode cX1_sumOfUses 22 = .ok (.goto (-18), 3) := by decide +kernel
theorem d14_25 : decode cX1_sumOfUses 25 = .ok (.iload_n 1, 1) := by decide +kernel
theorem d14_26 : decode cX1_sumOfUses 26 = .ok (.ireturn, 1) := by decide +kernel
theorem v14_0 : am_all (am_V9 14) am_l14_0 := ⟨Or.inr ⟨1, d14_0, rfl, rfl, am_eq9 (by decide +kernel), trivial, trivial⟩, Or.inr ⟨1, d14_1, rfl, rfl, rfl, trivial, trivial⟩, Or.inr ⟨1, d14_2, rfl, rfl, am_eq9 (by decide +kernel), trivial, trivial⟩, Or.inr ⟨1, d14_3, rfl, rfl, rfl, trivial, trivial⟩, Or.inr ⟨1, d14_4, rfl, rfl, rfl, trivial, trivial⟩, Or.inr ⟨2, d14_5, rfl, rfl, am_eq9 (by decide +kernel), trivial, trivial⟩, Or.inr ⟨3, d14_7, rfl, rfl, rfl, trivial, trivial⟩, Or.inr ⟨1, d14_10, rfl, rfl, rfl, trivial, trivial⟩, Or.inr ⟨1, d14_11, rfl, rfl, rfl, trivial, trivial⟩, Or.inr ⟨3, d14_12, rfl, rfl, trivial, ⟨RX1, TX1, 20, rfl, by decide, Or.inl aw_184⟩, trivial⟩, Or.inr ⟨1, d14_15, rfl, rfl, rfl, trivial, trivial⟩, Or.inr ⟨1, d14_16, rfl, rfl, trivial, trivial, trivial⟩, Or.inr ⟨1, d14_17, rfl, rfl, trivial, trivial, trivial⟩, Or.inr ⟨1, d14_18, rfl, rfl, rfl, trivial, trivial⟩, Or.inr ⟨3, d14_19, rfl, rfl, ⟨rfl, by decide⟩, trivial, trivial⟩, Or.inr ⟨3, d14_22, rfl, rfl, rfl, trivial, trivial⟩, Or.inr ⟨1, d14_25, rfl, rfl, rfl, trivial, trivial⟩, Or.inr ⟨1, d14_26, rfl, rfl, trivial, trivial, trivial⟩, trivial⟩
theorem v14 : ∀ pc, am_V9 14 pc ((am_G 14).2.2.2.2.1 pc) := am_all_lc am_V9_0 _ ⟨v14_0, trivial⟩
theorem d15_0 : decode cX1_carryOutFromNothing 0 = .ok (.aload_n 0, 1) := by decide +kernel
theorem d15_1 : decode cX1_carryOutFromNothing 1 = .ok (.invokevirtual 49, 3) := by decide +kernel
theorem d15_4 : decode cX1_carryOutFromNothing 4 = .ok (.iconst 0, 1) := by decide +kernel
theorem d15_5 : decode cX1_carryOutFromNothing 5 = .ok (.istore_n 2, 1) := by decide +kernel
theorem d15_6 : decode cX1_carryOutFromNothing 6 = .ok (.iload_n 2, 1) := by decide +kernel
theorem d15_7 : decode cX1_carryOutFromNothing 7 = .ok (.iload_n 1, 1) := by decide +kernel
theorem d15_8 : decode cX1_carryOutFromNothing 8 = .ok (.if_icmp .ge 14, 3) := by decide +kernel
theorem d15_11 : decode cX1_carryOutFromNothing 11 = .ok (.aload_n 0, 1) := by decide +kernel
theorem d15_12 : decode cX1_carryOutFromNothing 12 = .ok (.invokevirtual 96, 3) := by decide +kernel
theorem d15_15 : decode cX1_carryOutFromNothing 15 = .ok (.pop, 1) := by decide +kernel
theorem d15_16 : decode cX1_carryOutFromNothing 16 = .ok (.iinc 2 1, 3) := by decide +kernel
theorem d15_19 : decode cX1_carryOutFromNothing 19 = .ok (.goto (-13), 3) := by decide +kernel
theorem d15_22 : decode cX1_carryOutFromNothing 22 = .ok (.return_, 1) := by decide +kernel
theorem v15_0 : am_all (am_V9 15) am_l15_0 := ⟨Or.inr ⟨1, d15_0, rfl, rfl, rfl, trivial, trivial⟩, Or.inr ⟨3, d15_1, rfl, rfl, trivial, trivial, ⟨by decide, ⟨_, TX1, 20, rfl, okM_11, rfl⟩, aw_172, aw_173, aw_174⟩⟩, Or.inr ⟨1, d15_4, rfl, rfl, am_eq9 (by decide +kernel), trivial, trivial⟩, Or.inr ⟨1, d15_5, rfl, rfl, rfl, trivial, trivial⟩, Or.inr ⟨1, d15_6, rfl, rfl, rfl, trivial, trivial⟩, Or.inr ⟨1, d15_7, rfl, rfl, rfl, trivial, trivial⟩, Or.inr ⟨3, d15_8, rfl, rfl, rfl, trivial, trivial⟩, Or.inr ⟨1, d15_11, rfl, rfl, rfl, trivial, trivial⟩, Or.inr ⟨3, d15_12, rfl, rfl, trivial, trivial, ⟨by decide, ⟨_, TX1, 20, rfl, okM_16, rfl⟩, aw_362, aw_363, aw_364⟩⟩, Or.inr ⟨1, d15_15, rfl, rfl, trivial, trivial, trivial⟩, Or.inr ⟨3, d15_16, rfl, rfl, ⟨rfl, by decide⟩, trivial, trivial⟩, Or.inr ⟨3, d15_19, rfl, rfl, rfl, trivial, trivial⟩, Or.inr ⟨1, d15_22, rfl, rfl, trivial, trivial, trivial⟩, trivial⟩
theorem v15 : ∀ pc, am_V9 15 pc ((am_G 15).2.2.2.2.1 pc) := am_all_lc am_V9_0 _ ⟨v15_0, trivial⟩
theorem d16_0 : decode cX1_carryOutNext 0 = .ok (.aload_n 0, 1) := by decide +kernel
theorem d16_1 : decode cX1_carryOutNext 1 = .ok (.getfield 45, 3) := by decide +kernel
theorem d16_4 : decode cX1_carryOutNext 4 = .ok (.getfield 85, 3) := by decide +kernel
theorem d16_7 : decode cX1_carryOutNext 7 = .ok (.astore_n 1, 1) := by decide +kernel
theorem d16_8 : decode cX1_carryOutNext 8 = .ok (.aload_n 1, 1) := by decide +kernel
theorem d16_9 : decode cX1_carryOutNext 9 = .ok (.aload_n 0, 1) := by decide +kernel
theorem d16_10 : decode cX1_carryOutNext 10 = .ok (.getfield 55, 3) := by decide +kernel
theorem d16_13 : decode cX1_carryOutNext 13 = .ok (.invokevirtual 100, 3) := by decide +kernel
theorem d16_16 : decode cX1_carryOutNext 16 = .ok (.ifCond .ne 6, 3) := by decide +kernel
theorem d16_19 : decode cX1_carryOutNext 19 = .ok (.bipush 45, 2) := by decide +kernel
theorem d16_21 : decode cX1_carryOutNext 21 = .ok (.ireturn, 1) := by decide +kernel
theorem d16_22 : decode cX1_carryOutNext 22 = .ok (.aload_n 0, 1) := by decide +kernel
theorem d16_23 : decode cX1_carryOutNext 23 = .ok (.aload_n 1, 1) := by decide +kernel
theorem d16_24 : decode cX1_carryOutNext 24 = .ok (.getfield 104, 3) := by decide +kernel
theorem d16_27 : decode cX1_carryOutNext 27 = .ok (.aload_n 0, 1) := by decide +kernel
theorem d16_28 : decode cX1_carryOutNext 28 = .ok (.getfield 55, 3) := by decide +kernel
theorem d16_31 : decode cX1_carryOutNext 31 = .ok (.iaload, 1) := by decide +kernel
theorem d16_32 : decode cX1_carryOutNext 32 = .ok (.putfield 82, 3) := by decide +kernel
theorem d16_35 : decode cX1_carryOutNext 35 = .ok (.aload_n 0, 1) := by decide +kernel
theorem d16_36 : decode cX1_carryOutNext 36 = .ok (.aload_n 0, 1) := by decide +kernel
theorem d16_37 : decode cX1_carryOutNext 37 = .ok (.aload_n 1, 1) := by decide +kernel
theorem d16_38 : decode cX1_carryOutNext 38 = .ok (.getfield 107, 3) := by decide +kernel
theorem d16_41 : decode cX1_carryOutNext 41 = .ok (.aload_n 0, 1) := by decide +kernel
theorem d16_42 : decode cX1_carryOutNext 42 = .ok (.getfield 55, 3) := by decide +kernel
theorem d16_45 : decode cX1_carryOutNext 45 = .ok (.iaload, 1) := by decide +kernel
theorem d16_46 : decode cX1_carryOutNext 46 = .ok (.invokevirtual 110, 3) := by decide +kernel
theorem d16_49 : decode cX1_carryOutNext 49 = .ok (.putfield 114, 3) := by decide +kernel
theorem d16_52 : decode cX1_carryOutNext 52 = .ok (.aload_n 0, 1) := by decide +kernel
theorem d16_53 : decode cX1_carryOutNext 53 = .ok (.aload_n 0, 1) := by decide +kernel
theorem d16_54 : decode cX1_carryOutNext 54 = .ok (.aload_n 1, 1) := by decide +kernel
theorem d16_55 : decode cX1_carryOutNext 55 = .ok (.getfield 117, 3) := by decide +kernel
theorem d16_58 : decode cX1_carryOutNext 58 = .ok (.aload_n 0, 1) := by decide +kernel
theorem d16_59 : decode cX1_carryOutNext 59 = .ok (.getfield 55, 3) := by decide +kernel
theorem d16_62 : decode cX1_carryOutNext 62 = .ok (.iaload, 1) := by decide +kernel
theorem d16_63 : decode cX1_carryOutNext 63 = .ok (.invokevirtual 110, 3) := by decide +kernel
theorem d16_66 : decode cX1_carryOutNext 66 = .ok (.putfield 120, 3) := by decide +kernel
theorem d16_69 : decode cX1_carryOutNext 69 = .ok (.aload_n 0, 1) := by decide +kernel
theorem d16_70 : decode cX1_carryOutNext 70 = .ok (.aload_n 0, 1) := by decide +kernel
theorem d16_71 : decode cX1_carryOutNext 71 = .ok (.aload_n 1, 1) := by decide +kernel
theorem d16_72 : decode cX1_carryOutNext 72 = .ok (.getfield 123, 3) := by decide +kernel
theorem d16_75 : decode cX1_carryOutNext 75 = .ok (.aload_n 0, 1) := by decide +kernel
theorem d16_76 : decode cX1_carryOutNext 76 = .ok (.getfield 55, 3) := by decide +kernel
theorem d16_79 : decode cX1_carryOutNext 79 = .ok (.iaload, 1) := by decide +kernel
theorem d16_80 : decode cX1_carryOutNext 80 = .ok (.invokevirtual 110, 3) := by decide +kernel
theorem d16_83 : decode cX1_carryOutNext 83 = .ok (.putfield 126, 3) := by decide +kernel
theorem d16_86 : decode cX1_carryOutNext 86 = .ok (.aload_n 0, 1) := by decide +kernel
theorem d16_87 : decode cX1_carryOutNext 87 = .ok (.invokevirtual 129, 3) := by decide +kernel
theorem d16_90 : decode cX1_carryOutNext 90 = .ok (.ifCond .eq 10, 3) := by decide +kernel
theorem d16_93 : decode cX1_carryOutNext 93 = .ok (.aload_n 0, 1) := by decide +kernel
theorem d16_94 : decode cX1_carryOutNext 94 = .ok (.invokevirtual 133, 3) := by decide +kernel
theorem d16_97 : decode cX1_carryOutNext 97 = .ok (.goto 5, 3) := by decide +kernel
theorem d16_100 : decode cX1_carryOutNext 100 = .ok (.bipush 110, 2) := by decide +kernel
theorem d16_102 : decode cX1_carryOutNext 102 = .ok (.istore_n 2, 1) := by decide +kernel
theorem d16_103 : decode cX1_carryOutNext 103 = .ok (.iload_n 2, 1) := by decide +kernel
theorem d16_104 : decode cX1_carryOutNext 104 = .ok (.bipush 45, 2) := by decide +kernel
theorem d16_106 : decode cX1_carryOutNext 106 = .ok (.if_icmp .ne 16, 3) := by decide +kernel
theorem d16_109 : decode cX1_carryOutNext 109 = .ok (.aload_n 0, 1) := by decide +kernel
theorem d16_110 : decode cX1_carryOutNext 110 = .ok (.invokevirtual 136, 3) := by decide +kernel
theorem d16_113 : decode cX1_carryOutNext 113 = .ok (.aload_n 0, 1) := by decide +kernel
theorem d16_114 : decode cX1_carryOutNext 114 = .ok (.invokevirtual 139, 3) := by decide +kernel
theorem d16_117 : decode cX1_carryOutNext 117 = .ok (.aload_n 0, 1) := by decide +kernel
theorem d16_118 : decode cX1_carryOutNext 118 = .ok (.invokevirtual 142, 3) := by decide +kernel
theorem d16_121 : decode cX1_carryOutNext 121 = .ok (.istore_n 2, 1) := by decide +kernel
theorem d16_122 : decode cX1_carryOutNext 122 = .ok (.iload_n 2, 1) := by decide +kernel
theorem d16_123 : decode cX1_carryOutNext 123 = .ok (.bipush 45, 2) := by decide +kernel
theorem d16_125 : decode cX1_carryOutNext 125 = .ok (.if_icmp .ne 21, 3) := by decide +kernel
theorem d16_128 : decode cX1_carryOutNext 128 = .ok (.aload_n 0, 1) := by decide +kernel
theorem d16_129 : decode cX1_carryOutNext 129 = .ok (.invokevirtual 145, 3) := by decide +kernel
theorem d16_132 : decode cX1_carryOutNext 132 = .ok (.aload_n 0, 1) := by decide +kernel
theorem d16_133 : decode cX1_carryOutNext 133 = .ok (.invokevirtual 148, 3) := by decide +kernel
theorem d16_136 : decode cX1_carryOutNext 136 = .ok (.aload_n 0, 1) := by decide +kernel
theorem d16_137 : decode cX1_carryOutNext 137 = .ok (.dup, 1) := by decide +kernel
theorem d16_138 : decode cX1_carryOutNext 138 = .ok (.getfield 59, 3) := by decide +kernel
theorem d16_141 : decode cX1_carryOutNext 141 = .ok (.iconst 1, 1) := by decide +kernel
theorem d16_142 : decode cX1_carryOutNext 142 = .ok (.iadd, 1) := by decide +kernel
theorem d16_143 : decode cX1_carryOutNext 143 = .ok (.putfield 59, 3) := by decide +kernel
theorem d16_146 : decode cX1_carryOutNext 146 = .ok (.iload_n 2, 1) := by decide +kernel
theorem d16_147 : decode cX1_carryOutNext 147 = .ok (.ireturn, 1) := by decide +kernel
theorem v16_0 : am_all (am_V9 16) am_l16_0 := ⟨Or.inr ⟨1, d16_0, rfl, rfl, rfl, trivial, trivial⟩, Or.inr ⟨3, d16_1, rfl, rfl, trivial, ⟨RX1, TX1, 20, rfl, by decide, Or.inl aw_181⟩, trivial⟩, Or.inr ⟨3, d16_4, rfl, rfl, trivial, ⟨RX2, TX2, 4, rfl, by decide, Or.inl aw_111⟩, trivial⟩, Or.inr ⟨1, d16_7, rfl, rfl, rfl, trivial, trivial⟩, Or.inr ⟨1, d16_8, rfl, rfl, rfl, trivial, trivial⟩, Or.inr ⟨1, d16_9, rfl, rfl, rfl, trivial, trivial⟩, Or.inr ⟨3, d16_10, rfl, rfl, trivial, ⟨RX1, TX1, 20, rfl, by decide, Or.inl aw_193⟩, trivial⟩, Or.inr ⟨3, d16_13, rfl, rfl, trivial, trivial, ⟨by decide, ⟨_, TX4, 6, rfl, okM_54, rfl⟩, aw_366, aw_276, aw_277⟩⟩, Or.inr ⟨3, d16_16, rfl, rfl, rfl, trivial, trivial⟩, Or.inr ⟨2, d16_19, rfl, rfl, am_eq9 (by decide +kernel), trivial, trivial⟩, Or.inr ⟨1, d16_21, rfl, rfl, trivial, trivial, trivial⟩, Or.inr ⟨1, d16_22, rfl, rfl, rfl, trivial, trivial⟩, Or.inr ⟨1, d16_23, rfl, rfl, rfl, trivial, trivial⟩, Or.inr ⟨3, d16_24, rfl, rfl, trivial, ⟨RX4, TX4, 6, rfl, by decide, Or.inl aw_77⟩, trivial⟩, Or.inr ⟨1, d16_27, rfl, rfl, rfl, trivial, trivial⟩, Or.inr ⟨3, d16_28, rfl, rfl, trivial, ⟨RX1, TX1, 20, rfl, by decide, Or.inl aw_193⟩, trivial⟩, Or.inr ⟨1, d16_31, rfl, rfl, trivial, trivial, trivial⟩, Or.inr ⟨3, d16_32, rfl, rfl, trivial, ⟨RX1, TX1, 20, rfl, by decide, aw_205, Or.inl rfl⟩, trivial⟩, Or.inr ⟨1, d16_35, rfl, rfl, rfl, trivial, trivial⟩, Or.inr ⟨1, d16_36, rfl, rfl, rfl, trivial, trivial⟩, Or.inr ⟨1, d16_37, rfl, rfl, rfl, trivial, trivial⟩, Or.inr ⟨3, d16_38, rfl, rfl, trivial, ⟨RX4, TX4, 6, rfl, by decide, Or.inl aw_79⟩, trivial⟩, Or.inr ⟨1, d16_41, rfl, rfl, rfl, trivial, trivial⟩, Or.inr ⟨3, d16_42, rfl, rfl, trivial, ⟨RX1, TX1, 20, rfl, by decide, Or.inl aw_193⟩, trivial⟩, trivial⟩
theorem v16_1 : am_all (am_V9 16) am_l16_1 := ⟨Or.inr ⟨1, d16_45, rfl, rfl, trivial, trivial, trivial⟩, Or.inr ⟨3, d16_46, rfl, rfl, trivial, trivial, ⟨by decide, ⟨_, TX1, 20, rfl, okM_17, rfl⟩, aw_367, aw_369, as_17⟩⟩, Or.inr ⟨3, d16_49, rfl, rfl, trivial, ⟨RX1, TX1, 20, rfl, by decide, aw_206, Or.inl rfl⟩, trivial⟩, Or.inr ⟨1, d16_52, rfl, rfl, rfl, trivial, trivial⟩, Or.inr ⟨1, d16_53, rfl, rfl, rfl, trivial, trivial⟩, Or.inr ⟨1, d16_54, rfl, rfl, rfl, trivial, trivial⟩, Or.inr ⟨3, d16_55, rfl, rfl, trivial, ⟨RX4, TX4, 6, rfl, by decide, Or.inl aw_81⟩, trivial⟩, Or.inr ⟨1, d16_58, rfl, rfl, rfl, trivial, trivial⟩, Or.inr ⟨3, d16_59, rfl, rfl, trivial, ⟨RX1, TX1, 20, rfl, by decide, Or.inl aw_193⟩, trivial⟩, Or.inr ⟨1, d16_62, rfl, rfl, trivial, trivial, trivial⟩, Or.inr ⟨3, d16_63, rfl, rfl, trivial, trivial, ⟨by decide, ⟨_, TX1, 20, rfl, okM_17, rfl⟩, aw_367, aw_369, as_17⟩⟩, Or.inr ⟨3, d16_66, rfl, rfl, trivial, ⟨RX1, TX1, 20, rfl, by decide, aw_207, Or.inl rfl⟩, trivial⟩, Or.inr ⟨1, d16_69, rfl, rfl, rfl, trivial, trivial⟩, Or.inr ⟨1, d16_70, rfl, rfl, rfl, trivial, trivial⟩, Or.inr ⟨1, d16_71, rfl, rfl, rfl, trivial, trivial⟩, Or.inr ⟨3, d16_72, rfl, rfl, trivial, ⟨RX4, TX4, 6, rfl, by decide, Or.inl aw_83⟩, trivial⟩, Or.inr ⟨1, d16_75, rfl, rfl, rfl, trivial, trivial⟩, Or.inr ⟨3, d16_76, rfl, rfl, trivial, ⟨RX1, TX1, 20, rfl, by decide, Or.inl aw_193⟩, trivial⟩, Or.inr ⟨1, d16_79, rfl, rfl, trivial, trivial, trivial⟩, Or.inr ⟨3, d16_80, rfl, rfl, trivial, trivial, ⟨by decide, ⟨_, TX1, 20, rfl, okM_17, rfl⟩, aw_367, aw_369, as_17⟩⟩, Or.inr ⟨3, d16_83, rfl, rfl, trivial, ⟨RX1, TX1, 20, rfl, by decide, aw_208, Or.inl rfl⟩, trivial⟩, Or.inr ⟨1, d16_86, rfl, rfl, rfl, trivial, trivial⟩, Or.inr ⟨3, d16_87, rfl, rfl, trivial, trivial, ⟨by decide, ⟨_, TX1, 20, rfl, okM_18, rfl⟩, aw_372, aw_374, as_18⟩⟩, Or.inr ⟨3, d16_90, rfl, rfl, rfl, trivial, trivial⟩, trivial⟩
theorem v16_2 : am_all (am_V9 16) am_l16_2 := ⟨Or.inr ⟨1, d16_93, rfl, rfl, rfl, trivial, trivial⟩, Or.inr ⟨3, d16_94, rfl, rfl, trivial, trivial, ⟨by decide, ⟨_, TX1, 20, rfl, okM_19, rfl⟩, aw_388, aw_390, as_19⟩⟩, Or.inr ⟨3, d16_97, rfl, rfl, rfl, trivial, trivial⟩, Or.inr ⟨2, d16_100, rfl, rfl, am_eq9 (by decide +kernel), trivial, trivial⟩, Or.inr ⟨1, d16_102, rfl, rfl, rfl, trivial, trivial⟩, Or.inr ⟨1, d16_103, rfl, rfl, rfl, trivial, trivial⟩, Or.inr ⟨2, d16_104, rfl, rfl, am_eq9 (by decide +kernel), trivial, trivial⟩, Or.inr ⟨3, d16_106, rfl, rfl, rfl, trivial, trivial⟩, Or.inr ⟨1, d16_109, rfl, rfl, rfl, trivial, trivial⟩, Or.inr ⟨3, d16_110, rfl, rfl, trivial, trivial, ⟨by decide, ⟨_, TX1, 20, rfl, okM_24, rfl⟩, aw_408, aw_410, as_24⟩⟩, Or.inr ⟨1, d16_113, rfl, rfl, rfl, trivial, trivial⟩, Or.inr ⟨3, d16_114, rfl, rfl, trivial, trivial, ⟨by decide, ⟨_, TX1, 20, rfl, okM_30, rfl⟩, aw_440, aw_442, as_30⟩⟩, Or.inr ⟨1, d16_117, rfl, rfl, rfl, trivial, trivial⟩, Or.inr ⟨3, d16_118, rfl, rfl, trivial, trivial, ⟨by decide, ⟨_, TX1, 20, rfl, okM_20, rfl⟩, aw_448, aw_450, as_20⟩⟩, Or.inr ⟨1, d16_121, rfl, rfl, rfl, trivial, trivial⟩, Or.inr ⟨1, d16_122, rfl, rfl, rfl, trivial, trivial⟩, Or.inr ⟨2, d16_123, rfl, rfl, am_eq9 (by decide +kernel), trivial, trivial⟩, Or.inr ⟨3, d16_125, rfl, rfl, rfl, trivial, trivial⟩, Or.inr ⟨1, d16_128, rfl, rfl, rfl, trivial, trivial⟩, Or.inr ⟨3, d16_129, rfl, rfl, trivial, trivial, ⟨by decide, ⟨_, TX1, 20, rfl, okM_34, rfl⟩, aw_516, aw_518, as_34⟩⟩, Or.inr ⟨1, d16_132, rfl, rfl, rfl, trivial, trivial⟩, Or.inr ⟨3, d16_133, rfl, rfl, trivial, trivial, ⟨by decide, ⟨_, TX1, 20, rfl, okM_33, rfl⟩, aw_532, aw_534, as_33⟩⟩, Or.inr ⟨1, d16_136, rfl, rfl, rfl, trivial, trivial⟩, Or.inr ⟨1, d16_137, rfl, rfl, trivial, trivial, trivial⟩, trivial⟩
theorem v16_3 : am_all (am_V9 16) am_l16_3 := ⟨Or.inr ⟨3, d16_138, rfl, rfl, trivial, ⟨RX1, TX1, 20, rfl, by decide, Or.inl aw_195⟩, trivial⟩, Or.inr ⟨1, d16_141, rfl, rfl, am_eq9 (by decide +kernel), trivial, trivial⟩, Or.inr ⟨1, d16_142, rfl, rfl, trivial, trivial, trivial⟩, Or.inr ⟨3, d16_143, rfl, rfl, trivial, ⟨RX1, TX1, 20, rfl, by decide, aw_195, Or.inl rfl⟩, trivial⟩, Or.inr ⟨1, d16_146, rfl, rfl, rfl, trivial, trivial⟩, Or.inr ⟨1, d16_147, rfl, rfl, trivial, trivial, trivial⟩, trivial⟩
theorem v16 : ∀ pc, am_V9 16 pc ((am_G 16).2.2.2.2.1 pc) := am_all_lc am_V9_0 _ ⟨v16_0, v16_1, v16_2, v16_3, trivial⟩
theorem d17_0 : decode cX1_valueOf 0 = .ok (.iload_n 1, 1) := by decide +kernel
theorem d17_1 : decode cX1_valueOf 1 = .ok (.bipush 100, 2) := by decide +kernel
theorem d17_3 : decode cX1_valueOf 3 = .ok (.isub, 1) := by decide +kernel
theorem d17_4 : decode cX1_valueOf 4 = .ok (.istore_n 2, 1) := by decide +kernel
theorem d17_5 : decode cX1_valueOf 5 = .ok (.iload_n 2, 1) := by decide +kernel
theorem d17_6 : decode cX1_valueOf 6 = .ok (.iconst 0, 1) := by decide +kernel
theorem d17_7 : decode cX1_valueOf 7 = .ok (.bipush 7, 2) := by decide +kernel
theorem d17_9 : decode cX1_valueOf 9 = .ok (.invokestatic 151, 3) := by decide +kernel
theorem d17_12 : decode cX1_valueOf 12 = .ok (.ifCond .eq 12, 3) := by decide +kernel
theorem d17_15 : decode cX1_valueOf 15 = .ok (.aload_n 0, 1) := by decide +kernel
theorem d17_16 : decode cX1_valueOf 16 = .ok (.getfield 22, 3) := by decide +kernel
theorem d17_19 : decode cX1_valueOf 19 = .ok (.iload_n 2, 1) := by decide +kernel
theorem d17_20 : decode cX1_valueOf 20 = .ok (.iaload, 1) := by decide +kernel
theorem d17_21 : decode cX1_valueOf 21 = .ok (.goto 4, 3) := by decide +kernel
theorem d17_24 : decode cX1_valueOf 24 = .ok (.iload_n 1, 1) := by decide +kernel
theorem d17_25 : decode cX1_valueOf 25 = .ok (.ireturn, 1) := by decide +kernel
theorem v17_0 : am_all (am_V9 17) am_l17_0 := ⟨Or.inr ⟨1, d17_0, rfl, rfl, rfl, trivial, trivial⟩, Or.inr ⟨2, d17_1, rfl, rfl, am_eq9 (by decide +kernel), trivial, trivial⟩, Or.inr ⟨1, d17_3, rfl, rfl, trivial, trivial, trivial⟩, Or.inr ⟨1, d17_4, rfl, rfl, rfl, trivial, trivial⟩, Or.inr ⟨1, d17_5, rfl, rfl, rfl, trivial, trivial⟩, Or.inr ⟨1, d17_6, rfl, rfl, am_eq9 (by decide +kernel), trivial, trivial⟩, Or.inr ⟨2, d17_7, rfl, rfl, am_eq9 (by decide +kernel), trivial, trivial⟩, Or.inr ⟨3, d17_9, rfl, rfl, trivial, trivial, Or.inr ⟨by decide, okM_84, aw_280, Or.inr ⟨rfl, _, an_8⟩⟩⟩, Or.inr ⟨3, d17_12, rfl, rfl, rfl, trivial, trivial⟩, Or.inr ⟨1, d17_15, rfl, rfl, rfl, trivial, trivial⟩, Or.inr ⟨3, d17_16, rfl, rfl, trivial, ⟨RX1, TX1, 20, rfl, by decide, Or.inl aw_186⟩, trivial⟩, Or.inr ⟨1, d17_19, rfl, rfl, rfl, trivial, trivial⟩, Or.inr ⟨1, d17_20, rfl, rfl, trivial, trivial, trivial⟩, Or.inr ⟨3, d17_21, rfl, rfl, rfl, trivial, trivial⟩, Or.inr ⟨1, d17_24, rfl, rfl, rfl, trivial, trivial⟩, Or.inr ⟨1, d17_25, rfl, rfl, trivial, trivial, trivial⟩, trivial⟩
theorem v17 : ∀ pc, am_V9 17 pc ((am_G 17).2.2.2.2.1 pc) := am_all_lc am_V9_0 _ ⟨v17_0, trivial⟩
theorem d18_0 : decode cX1_areTermsTold 0 = .ok (.aload_n 0, 1) := by decide +kernel
theorem d18_1 : decode cX1_areTermsTold 1 = .ok (.getfield 82, 3) := by decide +kernel
theorem d18_4 : decode cX1_areTermsTold 4 = .ok (.tableswitch 245 100 120 #[100, 245, 202, 245, 245, 245, 245, 245, 245, 192, 245, 213, 121, 245, 234, 192, 148, 245, 223, 245, 223], 100) := by decide +kernel
theorem d18_104 : decode cX1_areTermsTold 104 = .ok (.aload_n 0, 1) := by decide +kernel
theorem d18_105 : decode cX1_areTermsTold 105 = .ok (.getfield 114, 3) := by decide +kernel
theorem d18_108 : decode cX1_areTermsTold 108 = .ok (.ifCond .lt 15, 3) := by decide +kernel
theorem d18_111 : decode cX1_areTermsTold 111 = .ok (.aload_n 0, 1) := by decide +kernel
theorem d18_112 : decode cX1_areTermsTold 112 = .ok (.getfield 120, 3) := by decide +kernel
theorem d18_115 : decode cX1_areTermsTold 115 = .ok (.iconst 1, 1) := by decide +kernel
theorem d18_116 : decode cX1_areTermsTold 116 = .ok (.if_icmp .lt 7, 3) := by decide +kernel
theorem d18_119 : decode cX1_areTermsTold 119 = .ok (.iconst 1, 1) := by decide +kernel
theorem d18_120 : decode cX1_areTermsTold 120 = .ok (.goto 4, 3) := by decide +kernel
theorem d18_123 : decode cX1_areTermsTold 123 = .ok (.iconst 0, 1) := by decide +kernel
theorem d18_124 : decode cX1_areTermsTold 124 = .ok (.ireturn, 1) := by decide +kernel
theorem d18_125 : decode cX1_areTermsTold 125 = .ok (.aload_n 0, 1) := by decide +kernel
theorem d18_126 : decode cX1_areTermsTold 126 = .ok (.getfield 114, 3) := by decide +kernel
theorem d18_129 : decode cX1_areTermsTold 129 = .ok (.ifCond .lt 21, 3) := by decide +kernel
theorem d18_132 : decode cX1_areTermsTold 132 = .ok (.aload_n 0, 1) := by decide +kernel
theorem d18_133 : decode cX1_areTermsTold 133 = .ok (.getfield 120, 3) := by decide +kernel
theorem d18_136 : decode cX1_areTermsTold 136 = .ok (.ifCond .lt 14, 3) := by decide +kernel
theorem d18_139 : decode cX1_areTermsTold 139 = .ok (.aload_n 0, 1) := by decide +kernel
theorem d18_140 : decode cX1_areTermsTold 140 = .ok (.getfield 126, 3) := by decide +kernel
theorem d18_143 : decode cX1_areTermsTold 143 = .ok (.ifCond .lt 7, 3) := by decide +kernel
theorem d18_146 : decode cX1_areTermsTold 146 = .ok (.iconst 1, 1) := by decide +kernel
theorem d18_147 : decode cX1_areTermsTold 147 = .ok (.goto 4, 3) := by decide +kernel
theorem d18_150 : decode cX1_areTermsTold 150 = .ok (.iconst 0, 1) := by decide +kernel
theorem d18_151 : decode cX1_areTermsTold 151 = .ok (.ireturn, 1) := by decide +kernel
theorem d18_152 : decode cX1_areTermsTold 152 = .ok (.aload_n 0, 1) := by decide +kernel
theorem d18_153 : decode cX1_areTermsTold 153 = .ok (.getfield 114, 3) := by decide +kernel
theorem d18_156 : decode cX1_areTermsTold 156 = .ok (.aload_n 0, 1) := by decide +kernel
theorem d18_157 : decode cX1_areTermsTold 157 = .ok (.getfield 120, 3) := by decide +kernel
theorem d18_160 : decode cX1_areTermsTold 160 = .ok (.invokestatic 155, 3) := by decide +kernel
theorem d18_163 : decode cX1_areTermsTold 163 = .ok (.ifCond .eq 31, 3) := by decide +kernel
theorem d18_166 : decode cX1_areTermsTold 166 = .ok (.aload_n 0, 1) := by decide +kernel
theorem d18_167 : decode cX1_areTermsTold 167 = .ok (.getfield 45, 3) := by decide +kernel
theorem d18_170 : decode cX1_areTermsTold 170 = .ok (.getfield 159, 3) := by decide +kernel
theorem d18_173 : decode cX1_areTermsTold 173 = .ok (.aload_n 0, 1) := by decide +kernel
theorem d18_174 : decode cX1_areTermsTold 174 = .ok (.getfield 114, 3) := by decide +kernel
theorem d18_177 : decode cX1_areTermsTold 177 = .ok (.aload_n 0, 1) := by decide +kernel
theorem d18_178 : decode cX1_areTermsTold 178 = .ok (.getfield 120, 3) := by decide +kernel
theorem d18_181 : decode cX1_areTermsTold 181 = .ok (.invokestatic 163, 3) := by decide +kernel
theorem d18_184 : decode cX1_areTermsTold 184 = .ok (.invokevirtual 167, 3) := by decide +kernel
theorem d18_187 : decode cX1_areTermsTold 187 = .ok (.ifCond .eq 7, 3) := by decide +kernel
theorem d18_190 : decode cX1_areTermsTold 190 = .ok (.iconst 1, 1) := by decide +kernel
theorem d18_191 : decode cX1_areTermsTold 191 = .ok (.goto 4, 3) := by decide +kernel
theorem d18_194 : decode cX1_areTermsTold 194 = .ok (.iconst 0, 1) := by decide +kernel
theorem d18_195 : decode cX1_areTermsTold 195 = .ok (.ireturn, 1) := by decide +kernel
theorem d18_196 : decode cX1_areTermsTold 196 = .ok (.aload_n 0, 1) := by decide +kernel
theorem d18_197 : decode cX1_areTermsTold 197 = .ok (.getfield 114, 3) := by decide +kernel
theorem d18_200 : decode cX1_areTermsTold 200 = .ok (.iconst 0, 1) := by decide +kernel
theorem d18_201 : decode cX1_areTermsTold 201 = .ok (.iconst 1, 1) := by decide +kernel
theorem d18_202 : decode cX1_areTermsTold 202 = .ok (.invokestatic 151, 3) := by decide +kernel
theorem d18_205 : decode cX1_areTermsTold 205 = .ok (.ireturn, 1) := by decide +kernel
theorem d18_206 : decode cX1_areTermsTold 206 = .ok (.aload_n 0, 1) := by decide +kernel
theorem d18_207 : decode cX1_areTermsTold 207 = .ok (.getfield 114, 3) := by decide +kernel
theorem d18_210 : decode cX1_areTermsTold 210 = .ok (.iconst 1, 1) := by decide +kernel
theorem d18_211 : decode cX1_areTermsTold 211 = .ok (.bipush 50, 2) := by decide +kernel
theorem d18_213 : decode cX1_areTermsTold 213 = .ok (.invokestatic 151, 3) := by decide +kernel
theorem d18_216 : decode cX1_areTermsTold 216 = .ok (.ireturn, 1) := by decide +kernel
theorem d18_217 : decode cX1_areTermsTold 217 = .ok (.aload_n 0, 1) := by decide +kernel
theorem d18_218 : decode cX1_areTermsTold 218 = .ok (.getfield 114, 3) := by decide +kernel
theorem d18_221 : decode cX1_areTermsTold 221 = .ok (.iconst 0, 1) := by decide +kernel
theorem d18_222 : decode cX1_areTermsTold 222 = .ok (.iconst 3, 1) := by decide +kernel
theorem d18_223 : decode cX1_areTermsTold 223 = .ok (.invokestatic 151, 3) := by decide +kernel
theorem d18_226 : decode cX1_areTermsTold 226 = .ok (.ireturn, 1) := by decide +kernel
theorem d18_227 : decode cX1_areTermsTold 227 = .ok (.aload_n 0, 1) := by decide +kernel
theorem d18_228 : decode cX1_areTermsTold 228 = .ok (.getfield 114, 3) := by decide +kernel
theorem d18_231 : decode cX1_areTermsTold 231 = .ok (.iconst 0, 1) := by decide +kernel
theorem d18_232 : decode cX1_areTermsTold 232 = .ok (.bipush 7, 2) := by decide +kernel
theorem d18_234 : decode cX1_areTermsTold 234 = .ok (.invokestatic 151, 3) := by decide +kernel
theorem d18_237 : decode cX1_areTermsTold 237 = .ok (.ireturn, 1) := by decide +kernel
theorem d18_238 : decode cX1_areTermsTold 238 = .ok (.aload_n 0, 1) := by decide +kernel
theorem d18_239 : decode cX1_areTermsTold 239 = .ok (.getfield 114, 3) := by decide +kernel
theorem d18_242 : decode cX1_areTermsTold 242 = .ok (.iconst 0, 1) := by decide +kernel
theorem d18_243 : decode cX1_areTermsTold 243 = .ok (.bipush 9, 2) := by decide +kernel
theorem d18_245 : decode cX1_areTermsTold 245 = .ok (.invokestatic 151, 3) := by decide +kernel
theorem d18_248 : decode cX1_areTermsTold 248 = .ok (.ireturn, 1) := by decide +kernel
theorem d18_249 : decode cX1_areTermsTold 249 = .ok (.iconst 1, 1) := by decide +kernel
theorem d18_250 : decode cX1_areTermsTold 250 = .ok (.ireturn, 1) := by decide +kernel
theorem v18_0 : am_all (am_V9 18) am_l18_0 := ⟨Or.inr ⟨1, d18_0, rfl, rfl, rfl, trivial, trivial⟩, Or.inr ⟨3, d18_1, rfl, rfl, trivial, ⟨RX1, TX1, 20, rfl, by decide, Or.inl aw_205⟩, trivial⟩, Or.inr ⟨100, d18_4, rfl, trivial, trivial, trivial, trivial⟩, Or.inr ⟨1, d18_104, rfl, rfl, rfl, trivial, trivial⟩, Or.inr ⟨3, d18_105, rfl, rfl, trivial, ⟨RX1, TX1, 20, rfl, by decide, Or.inl aw_206⟩, trivial⟩, Or.inr ⟨3, d18_108, rfl, rfl, rfl, trivial, trivial⟩, Or.inr ⟨1, d18_111, rfl, rfl, rfl, trivial, trivial⟩, Or.inr ⟨3, d18_112, rfl, rfl, trivial, ⟨RX1, TX1, 20, rfl, by decide, Or.inl aw_207⟩, trivial⟩, Or.inr ⟨1, d18_115, rfl, rfl, am_eq9 (by decide +kernel), trivial, trivial⟩, Or.inr ⟨3, d18_116, rfl, rfl, rfl, trivial, trivial⟩, Or.inr ⟨1, d18_119, rfl, rfl, am_eq9 (by decide +kernel), trivial, trivial⟩, Or.inr ⟨3, d18_120, rfl, rfl, rfl, trivial, trivial⟩, Or.inr ⟨1, d18_123, rfl, rfl, am_eq9 (by decide +kernel), trivial, trivial⟩, Or.inr ⟨1, d18_124, rfl, rfl, trivial, trivial, trivial⟩, Or.inr ⟨1, d18_125, rfl, rfl, rfl, trivial, trivial⟩, Or.inr ⟨3, d18_126, rfl, rfl, trivial, ⟨RX1, TX1, 20, rfl, by decide, Or.inl aw_206⟩, trivial⟩, Or.inr ⟨3, d18_129, rfl, rfl, rfl, trivial, trivial⟩, Or.inr ⟨1, d18_132, rfl, rfl, rfl, trivial, trivial⟩, Or.inr ⟨3, d18_133, rfl, rfl, trivial, ⟨RX1, TX1, 20, rfl, by decide, Or.inl aw_207⟩, trivial⟩, Or.inr ⟨3, d18_136, rfl, rfl, rfl, trivial, trivial⟩, Or.inr ⟨1, d18_139, rfl, rfl, rfl, trivial, trivial⟩, Or.inr ⟨3, d18_140, rfl, rfl, trivial, ⟨RX1, TX1, 20, rfl, by decide, Or.inl aw_208⟩, trivial⟩, Or.inr ⟨3, d18_143, rfl, rfl, rfl, trivial, trivial⟩, Or.inr ⟨1, d18_146, rfl, rfl, am_eq9 (by decide +kernel), trivial, trivial⟩, trivial⟩
theorem v18_1 : am_all (am_V9 18) am_l18_1 := ⟨Or.inr ⟨3, d18_147, rfl, rfl, rfl, trivial, trivial⟩, Or.inr ⟨1, d18_150, rfl, rfl, am_eq9 (by decide +kernel), trivial, trivial⟩, Or.inr ⟨1, d18_151, rfl, rfl, trivial, trivial, trivial⟩, Or.inr ⟨1, d18_152, rfl, rfl, rfl, trivial, trivial⟩, Or.inr ⟨3, d18_153, rfl, rfl, trivial, ⟨RX1, TX1, 20, rfl, by decide, Or.inl aw_206⟩, trivial⟩, Or.inr ⟨1, d18_156, rfl, rfl, rfl, trivial, trivial⟩, Or.inr ⟨3, d18_157, rfl, rfl, trivial, ⟨RX1, TX1, 20, rfl, by decide, Or.inl aw_207⟩, trivial⟩, Or.inr ⟨3, d18_160, rfl, rfl, trivial, trivial, Or.inr ⟨by decide, okM_87, aw_377, Or.inr ⟨rfl, _, an_9⟩⟩⟩, Or.inr ⟨3, d18_163, rfl, rfl, rfl, trivial, trivial⟩, Or.inr ⟨1, d18_166, rfl, rfl, rfl, trivial, trivial⟩, Or.inr ⟨3, d18_167, rfl, rfl, trivial, ⟨RX1, TX1, 20, rfl, by decide, Or.inl aw_181⟩, trivial⟩, Or.inr ⟨3, d18_170, rfl, rfl, trivial, ⟨RX2, TX2, 4, rfl, by decide, Or.inl aw_103⟩, trivial⟩, Or.inr ⟨1, d18_173, rfl, rfl, rfl, trivial, trivial⟩, Or.inr ⟨3, d18_174, rfl, rfl, trivial, ⟨RX1, TX1, 20, rfl, by decide, Or.inl aw_206⟩, trivial⟩, Or.inr ⟨1, d18_177, rfl, rfl, rfl, trivial, trivial⟩, Or.inr ⟨3, d18_178, rfl, rfl, trivial, ⟨RX1, TX1, 20, rfl, by decide, Or.inl aw_207⟩, trivial⟩, Or.inr ⟨3, d18_181, rfl, rfl, trivial, trivial, Or.inr ⟨by decide, okM_88, aw_381, Or.inr ⟨rfl, _, an_10⟩⟩⟩, Or.inr ⟨3, d18_184, rfl, rfl, trivial, trivial, ⟨by decide, ⟨_, TX5, 3, rfl, okM_58, rfl⟩, aw_383, aw_384, aw_385⟩⟩, Or.inr ⟨3, d18_187, rfl, rfl, rfl, trivial, trivial⟩, Or.inr ⟨1, d18_190, rfl, rfl, am_eq9 (by decide +kernel), trivial, trivial⟩, Or.inr ⟨3, d18_191, rfl, rfl, rfl, trivial, trivial⟩, Or.inr ⟨1, d18_194, rfl, rfl, am_eq9 (by decide +kernel), trivial, trivial⟩, Or.inr ⟨1, d18_195, rfl, rfl, trivial, trivial, trivial⟩, Or.inr ⟨1, d18_196, rfl, rfl, rfl, trivial, trivial⟩, trivial⟩
theorem v18_2 : am_all (am_V9 18) am_l18_2 := ⟨Or.inr ⟨3, d18_197, rfl, rfl, trivial, ⟨RX1, TX1, 20, rfl, by decide, Or.inl aw_206⟩, trivial⟩, Or.inr ⟨1, d18_200, rfl, rfl, am_eq9 (by decide +kernel), trivial, trivial⟩, Or.inr ⟨1, d18_201, rfl, rfl, am_eq9 (by decide +kernel), trivial, trivial⟩, Or.inr ⟨3, d18_202, rfl, rfl, trivial, trivial, Or.inr ⟨by decide, okM_84, aw_280, Or.inr ⟨rfl, _, an_8⟩⟩⟩, Or.inr ⟨1, d18_205, rfl, rfl, trivial, trivial, trivial⟩, Or.inr ⟨1, d18_206, rfl, rfl, rfl, trivial, trivial⟩, Or.inr ⟨3, d18_207, rfl, rfl, trivial, ⟨RX1, TX1, 20, rfl, by decide, Or.inl aw_206⟩, trivial⟩, Or.inr ⟨1, d18_210, rfl, rfl, am_eq9 (by decide +kernel), trivial, trivial⟩, Or.inr ⟨2, d18_211, rfl, rfl, am_eq9 (by decide +kernel), trivial, trivial⟩, Or.inr ⟨3, d18_213, rfl, rfl, trivial, trivial, Or.inr ⟨by decide, okM_84, aw_280, Or.inr ⟨rfl, _, an_8⟩⟩⟩, Or.inr ⟨1, d18_216, rfl, rfl, trivial, trivial, trivial⟩, Or.inr ⟨1, d18_217, rfl, rfl, rfl, trivial, trivial⟩, Or.inr ⟨3, d18_218, rfl, rfl, trivial, ⟨RX1, TX1, 20, rfl, by decide, Or.inl aw_206⟩, trivial⟩, Or.inr ⟨1, d18_221, rfl, rfl, am_eq9 (by decide +kernel), trivial, trivial⟩, Or.inr ⟨1, d18_222, rfl, rfl, am_eq9 (by decide +kernel), trivial, trivial⟩, Or.inr ⟨3, d18_223, rfl, rfl, trivial, trivial, Or.inr ⟨by decide, okM_84, aw_280, Or.inr ⟨rfl, _, an_8⟩⟩⟩, Or.inr ⟨1, d18_226, rfl, rfl, trivial, trivial, trivial⟩, Or.inr ⟨1, d18_227, rfl, rfl, rfl, trivial, trivial⟩, Or.inr ⟨3, d18_228, rfl, rfl, trivial, ⟨RX1, TX1, 20, rfl, by decide, Or.inl aw_206⟩, trivial⟩, Or.inr ⟨1, d18_231, rfl, rfl, am_eq9 (by decide +kernel), trivial, trivial⟩, Or.inr ⟨2, d18_232, rfl, rfl, am_eq9 (by decide +kernel), trivial, trivial⟩, Or.inr ⟨3, d18_234, rfl, rfl, trivial, trivial, Or.inr ⟨by decide, okM_84, aw_280, Or.inr ⟨rfl, _, an_8⟩⟩⟩, Or.inr ⟨1, d18_237, rfl, rfl, trivial, trivial, trivial⟩, Or.inr ⟨1, d18_238, rfl, rfl, rfl, trivial, trivial⟩, trivial⟩
theorem v18_3 : am_all (am_V9 18) am_l18_3 := ⟨Or.inr ⟨3, d18_239, rfl, rfl, trivial, ⟨RX1, TX1, 20, rfl, by decide, Or.inl aw_206⟩, trivial⟩, Or.inr ⟨1, d18_242, rfl, rfl, am_eq9 (by decide +kernel), trivial, trivial⟩, Or.inr ⟨2, d18_243, rfl, rfl, am_eq9 (by decide +kernel), trivial, trivial⟩, Or.inr ⟨3, d18_245, rfl, rfl, trivial, trivial, Or.inr ⟨by decide, okM_84, aw_280, Or.inr ⟨rfl, _, an_8⟩⟩⟩, Or.inr ⟨1, d18_248, rfl, rfl, trivial, trivial, trivial⟩, Or.inr ⟨1, d18_249, rfl, rfl, am_eq9 (by decide +kernel), trivial, trivial⟩, Or.inr ⟨1, d18_250, rfl, rfl, trivial, trivial, trivial⟩, trivial⟩
theorem v18 : ∀ pc, am_V9 18 pc ((am_G 18).2.2.2.2.1 pc) := am_all_lc am_V9_0 _ ⟨v18_0, v18_1, v18_2, v18_3, trivial⟩
theorem d19_0 : decode cX1_findToolAlarm 0 = .ok (.aload_n 0, 1) := by decide +kernel
theorem d19_1 : decode cX1_findToolAlarm 1 = .ok (.getfield 82, 3) := by decide +kernel
theorem d19_4 : decode cX1_findToolAlarm 4 = .ok (.bipush 116, 2) := by decide +kernel
theorem d19_6 : decode cX1_findToolAlarm 6 = .ok (.if_icmp .ne 29, 3) := by decide +kernel
theorem d19_9 : decode cX1_findToolAlarm 9 = .ok (.aload_n 0, 1) := by decide +kernel
theorem d19_10 : decode cX1_findToolAlarm 10 = .ok (.getfield 79, 3) := by decide +kernel
theorem d19_13 : decode cX1_findToolAlarm 13 = .ok (.ifCond .eq 6, 3) := by decide +kernel
theorem d19_16 : decode cX1_findToolAlarm 16 = .ok (.bipush 116, 2) := by decide +kernel
theorem d19_18 : decode cX1_findToolAlarm 18 = .ok (.ireturn, 1) := by decide +kernel
theorem d19_19 : decode cX1_findToolAlarm 19 = .ok (.aload_n 0, 1) := by decide +kernel
theorem d19_20 : decode cX1_findToolAlarm 20 = .ok (.invokevirtual 172, 3) := by decide +kernel
theorem d19_23 : decode cX1_findToolAlarm 23 = .ok (.iconst (-1), 1) := by decide +kernel
theorem d19_24 : decode cX1_findToolAlarm 24 = .ok (.if_icmp .ne 8, 3) := by decide +kernel
theorem d19_27 : decode cX1_findToolAlarm 27 = .ok (.bipush 119, 2) := by decide +kernel
theorem d19_29 : decode cX1_findToolAlarm 29 = .ok (.goto 5, 3) := by decide +kernel
theorem d19_32 : decode cX1_findToolAlarm 32 = .ok (.bipush 45, 2) := by decide +kernel
theorem d19_34 : decode cX1_findToolAlarm 34 = .ok (.ireturn, 1) := by decide +kernel
theorem d19_35 : decode cX1_findToolAlarm 35 = .ok (.aload_n 0, 1) := by decide +kernel
theorem d19_36 : decode cX1_findToolAlarm 36 = .ok (.invokevirtual 176, 3) := by decide +kernel
theorem d19_39 : decode cX1_findToolAlarm 39 = .ok (.ifCond .eq 25, 3) := by decide +kernel
theorem d19_42 : decode cX1_findToolAlarm 42 = .ok (.aload_n 0, 1) := by decide +kernel
theorem d19_43 : decode cX1_findToolAlarm 43 = .ok (.getfield 62, 3) := by decide +kernel
theorem d19_46 : decode cX1_findToolAlarm 46 = .ok (.iconst (-1), 1) := by decide +kernel
theorem d19_47 : decode cX1_findToolAlarm 47 = .ok (.if_icmp .eq 17, 3) := by decide +kernel
theorem d19_50 : decode cX1_findToolAlarm 50 = .ok (.aload_n 0, 1) := by decide +kernel
theorem d19_51 : decode cX1_findToolAlarm 51 = .ok (.aload_n 0, 1) := by decide +kernel
theorem d19_52 : decode cX1_findToolAlarm 52 = .ok (.getfield 62, 3) := by decide +kernel
theorem d19_55 : decode cX1_findToolAlarm 55 = .ok (.invokevirtual 179, 3) := by decide +kernel
theorem d19_58 : decode cX1_findToolAlarm 58 = .ok (.ifCond .eq 6, 3) := by decide +kernel
theorem d19_61 : decode cX1_findToolAlarm 61 = .ok (.bipush 119, 2) := by decide +kernel
theorem d19_63 : decode cX1_findToolAlarm 63 = .ok (.ireturn, 1) := by decide +kernel
theorem d19_64 : decode cX1_findToolAlarm 64 = .ok (.aload_n 0, 1) := by decide +kernel
theorem d19_65 : decode cX1_findToolAlarm 65 = .ok (.invokevirtual 176, 3) := by decide +kernel
theorem d19_68 : decode cX1_findToolAlarm 68 = .ok (.ifCond .ne 12, 3) := by decide +kernel
theorem d19_71 : decode cX1_findToolAlarm 71 = .ok (.aload_n 0, 1) := by decide +kernel
theorem d19_72 : decode cX1_findToolAlarm 72 = .ok (.getfield 82, 3) := by decide +kernel
theorem d19_75 : decode cX1_findToolAlarm 75 = .ok (.bipush 120, 2) := by decide +kernel
theorem d19_77 : decode cX1_findToolAlarm 77 = .ok (.if_icmp .ne 15, 3) := by decide +kernel
theorem d19_80 : decode cX1_findToolAlarm 80 = .ok (.aload_n 0, 1) := by decide +kernel
theorem d19_81 : decode cX1_findToolAlarm 81 = .ok (.getfield 62, 3) := by decide +kernel
theorem d19_84 : decode cX1_findToolAlarm 84 = .ok (.iconst (-1), 1) := by decide +kernel
theorem d19_85 : decode cX1_findToolAlarm 85 = .ok (.if_icmp .ne 7, 3) := by decide +kernel
theorem d19_88 : decode cX1_findToolAlarm 88 = .ok (.iconst 1, 1) := by decide +kernel
theorem d19_89 : decode cX1_findToolAlarm 89 = .ok (.goto 4, 3) := by decide +kernel
theorem d19_92 : decode cX1_findToolAlarm 92 = .ok (.iconst 0, 1) := by decide +kernel
theorem d19_93 : decode cX1_findToolAlarm 93 = .ok (.istore_n 1, 1) := by decide +kernel
theorem d19_94 : decode cX1_findToolAlarm 94 = .ok (.iload_n 1, 1) := by decide +kernel
theorem d19_95 : decode cX1_findToolAlarm 95 = .ok (.ifCond .ne 17, 3) := by decide +kernel
theorem d19_98 : decode cX1_findToolAlarm 98 = .ok (.aload_n 0, 1) := by decide +kernel
theorem d19_99 : decode cX1_findToolAlarm 99 = .ok (.invokevirtual 176, 3) := by decide +kernel
theorem d19_102 : decode cX1_findToolAlarm 102 = .ok (.ifCond .eq 15, 3) := by decide +kernel
theorem d19_105 : decode cX1_findToolAlarm 105 = .ok (.aload_n 0, 1) := by decide +kernel
theorem d19_106 : decode cX1_findToolAlarm 106 = .ok (.getfield 79, 3) := by decide +kernel
theorem d19_109 : decode cX1_findToolAlarm 109 = .ok (.ifCond .ne 8, 3) := by decide +kernel
theorem d19_112 : decode cX1_findToolAlarm 112 = .ok (.bipush 115, 2) := by decide +kernel
theorem d19_114 : decode cX1_findToolAlarm 114 = .ok (.goto 5, 3) := by decide +kernel
theorem d19_117 : decode cX1_findToolAlarm 117 = .ok (.bipush 45, 2) := by decide +kernel
theorem d19_119 : decode cX1_findToolAlarm 119 = .ok (.ireturn, 1) := by decide +kernel
theorem v19_0 : am_all (am_V9 19) am_l19_0 := ⟨Or.inr ⟨1, d19_0, rfl, rfl, rfl, trivial, trivial⟩, Or.inr ⟨3, d19_1, rfl, rfl, trivial, ⟨RX1, TX1, 20, rfl, by decide, Or.inl aw_205⟩, trivial⟩, Or.inr ⟨2, d19_4, rfl, rfl, am_eq9 (by decide +kernel), trivial, trivial⟩, Or.inr ⟨3, d19_6, rfl, rfl, rfl, trivial, trivial⟩, Or.inr ⟨1, d19_9, rfl, rfl, rfl, trivial, trivial⟩, Or.inr ⟨3, d19_10, rfl, rfl, trivial, ⟨RX1, TX1, 20, rfl, by decide, Or.inl aw_204⟩, trivial⟩, Or.inr ⟨3, d19_13, rfl, rfl, rfl, trivial, trivial⟩, Or.inr ⟨2, d19_16, rfl, rfl, am_eq9 (by decide +kernel), trivial, trivial⟩, Or.inr ⟨1, d19_18, rfl, rfl, trivial, trivial, trivial⟩, Or.inr ⟨1, d19_19, rfl, rfl, rfl, trivial, trivial⟩, Or.inr ⟨3, d19_20, rfl, rfl, trivial, trivial, ⟨by decide, ⟨_, TX1, 20, rfl, okM_23, rfl⟩, aw_392, aw_394, as_23⟩⟩, Or.inr ⟨1, d19_23, rfl, rfl, am_eq9 (by decide +kernel), trivial, trivial⟩, Or.inr ⟨3, d19_24, rfl, rfl, rfl, trivial, trivial⟩, Or.inr ⟨2, d19_27, rfl, rfl, am_eq9 (by decide +kernel), trivial, trivial⟩, Or.inr ⟨3, d19_29, rfl, rfl, rfl, trivial, trivial⟩, Or.inr ⟨2, d19_32, rfl, rfl, am_eq9 (by decide +kernel), trivial, trivial⟩, Or.inr ⟨1, d19_34, rfl, rfl, trivial, trivial, trivial⟩, Or.inr ⟨1, d19_35, rfl, rfl, rfl, trivial, trivial⟩, Or.inr ⟨3, d19_36, rfl, rfl, trivial, trivial, ⟨by decide, ⟨_, TX1, 20, rfl, okM_21, rfl⟩, aw_404, aw_406, as_21⟩⟩, Or.inr ⟨3, d19_39, rfl, rfl, rfl, trivial, trivial⟩, Or.inr ⟨1, d19_42, rfl, rfl, rfl, trivial, trivial⟩, Or.inr ⟨3, d19_43, rfl, rfl, trivial, ⟨RX1, TX1, 20, rfl, by decide, Or.inl aw_197⟩, trivial⟩, Or.inr ⟨1, d19_46, rfl, rfl, am_eq9 (by decide +kernel), trivial, trivial⟩, Or.inr ⟨3, d19_47, rfl, rfl, rfl, trivial, trivial⟩, trivial⟩
theorem v19_1 : am_all (am_V9 19) am_l19_1 := ⟨Or.inr ⟨1, d19_50, rfl, rfl, rfl, trivial, trivial⟩, Or.inr ⟨1, d19_51, rfl, rfl, rfl, trivial, trivial⟩, Or.inr ⟨3, d19_52, rfl, rfl, trivial, ⟨RX1, TX1, 20, rfl, by decide, Or.inl aw_197⟩, trivial⟩, Or.inr ⟨3, d19_55, rfl, rfl, trivial, trivial, ⟨by decide, ⟨_, TX1, 20, rfl, okM_22, rfl⟩, aw_400, aw_402, as_22⟩⟩, Or.inr ⟨3, d19_58, rfl, rfl, rfl, trivial, trivial⟩, Or.inr ⟨2, d19_61, rfl, rfl, am_eq9 (by decide +kernel), trivial, trivial⟩, Or.inr ⟨1, d19_63, rfl, rfl, trivial, trivial, trivial⟩, Or.inr ⟨1, d19_64, rfl, rfl, rfl, trivial, trivial⟩, Or.inr ⟨3, d19_65, rfl, rfl, trivial, trivial, ⟨by decide, ⟨_, TX1, 20, rfl, okM_21, rfl⟩, aw_404, aw_406, as_21⟩⟩, Or.inr ⟨3, d19_68, rfl, rfl, rfl, trivial, trivial⟩, Or.inr ⟨1, d19_71, rfl, rfl, rfl, trivial, trivial⟩, Or.inr ⟨3, d19_72, rfl, rfl, trivial, ⟨RX1, TX1, 20, rfl, by decide, Or.inl aw_205⟩, trivial⟩, Or.inr ⟨2, d19_75, rfl, rfl, am_eq9 (by decide +kernel), trivial, trivial⟩, Or.inr ⟨3, d19_77, rfl, rfl, rfl, trivial, trivial⟩, Or.inr ⟨1, d19_80, rfl, rfl, rfl, trivial, trivial⟩, Or.inr ⟨3, d19_81, rfl, rfl, trivial, ⟨RX1, TX1, 20, rfl, by decide, Or.inl aw_197⟩, trivial⟩, Or.inr ⟨1, d19_84, rfl, rfl, am_eq9 (by decide +kernel), trivial, trivial⟩, Or.inr ⟨3, d19_85, rfl, rfl, rfl, trivial, trivial⟩, Or.inr ⟨1, d19_88, rfl, rfl, am_eq9 (by decide +kernel), trivial, trivial⟩, Or.inr ⟨3, d19_89, rfl, rfl, rfl, trivial, trivial⟩, Or.inr ⟨1, d19_92, rfl, rfl, am_eq9 (by decide +kernel), trivial, trivial⟩, Or.inr ⟨1, d19_93, rfl, rfl, rfl, trivial, trivial⟩, Or.inr ⟨1, d19_94, rfl, rfl, rfl, trivial, trivial⟩, Or.inr ⟨3, d19_95, rfl, rfl, rfl, trivial, trivial⟩, trivial⟩
theorem v19_2 : am_all (am_V9 19) am_l19_2 := ⟨Or.inr ⟨1, d19_98, rfl, rfl, rfl, trivial, trivial⟩, Or.inr ⟨3, d19_99, rfl, rfl, trivial, trivial, ⟨by decide, ⟨_, TX1, 20, rfl, okM_21, rfl⟩, aw_404, aw_406, as_21⟩⟩, Or.inr ⟨3, d19_102, rfl, rfl, rfl, trivial, trivial⟩, Or.inr ⟨1, d19_105, rfl, rfl, rfl, trivial, trivial⟩, Or.inr ⟨3, d19_106, rfl, rfl, trivial, ⟨RX1, TX1, 20, rfl, by decide, Or.inl aw_204⟩, trivial⟩, Or.inr ⟨3, d19_109, rfl, rfl, rfl, trivial, trivial⟩, Or.inr ⟨2, d19_112, rfl, rfl, am_eq9 (by decide +kernel), trivial, trivial⟩, Or.inr ⟨3, d19_114, rfl, rfl, rfl, trivial, trivial⟩, Or.inr ⟨2, d19_117, rfl, rfl, am_eq9 (by decide +kernel), trivial, trivial⟩, Or.inr ⟨1, d19_119, rfl, rfl, trivial, trivial, trivial⟩, trivial⟩
theorem v19 : ∀ pc, am_V9 19 pc ((am_G 19).2.2.2.2.1 pc) := am_all_lc am_V9_0 _ ⟨v19_0, v19_1, v19_2, trivial⟩
theorem d20_0 : decode cX1_findCellAlarm 0 = .ok (.aload_n 0, 1) := by decide +kernel
theorem d20_1 : decode cX1_findCellAlarm 1 = .ok (.getfield 34, 3) := by decide +kernel
theorem d20_4 : decode cX1_findCellAlarm 4 = .ok (.invokevirtual 182, 3) := by decide +kernel
theorem d20_7 : decode cX1_findCellAlarm 7 = .ok (.ifCond .eq 6, 3) := by decide +kernel
theorem d20_10 : decode cX1_findCellAlarm 10 = .ok (.bipush 108, 2) := by decide +kernel
theorem d20_12 : decode cX1_findCellAlarm 12 = .ok (.ireturn, 1) := by decide +kernel
theorem d20_13 : decode cX1_findCellAlarm 13 = .ok (.aload_n 0, 1) := by decide +kernel
theorem d20_14 : decode cX1_findCellAlarm 14 = .ok (.aload_n 0, 1) := by decide +kernel
theorem d20_15 : decode cX1_findCellAlarm 15 = .ok (.getfield 45, 3) := by decide +kernel
theorem d20_18 : decode cX1_findCellAlarm 18 = .ok (.getfield 185, 3) := by decide +kernel
theorem d20_21 : decode cX1_findCellAlarm 21 = .ok (.invokevirtual 188, 3) := by decide +kernel
theorem d20_24 : decode cX1_findCellAlarm 24 = .ok (.ifCond .ne 23, 3) := by decide +kernel
theorem d20_27 : decode cX1_findCellAlarm 27 = .ok (.aload_n 0, 1) := by decide +kernel
theorem d20_28 : decode cX1_findCellAlarm 28 = .ok (.getfield 82, 3) := by decide +kernel
theorem d20_31 : decode cX1_findCellAlarm 31 = .ok (.bipush 103, 2) := by decide +kernel
theorem d20_33 : decode cX1_findCellAlarm 33 = .ok (.if_icmp .ne 17, 3) := by decide +kernel
theorem d20_36 : decode cX1_findCellAlarm 36 = .ok (.aload_n 0, 1) := by decide +kernel
theorem d20_37 : decode cX1_findCellAlarm 37 = .ok (.aload_n 0, 1) := by decide +kernel
theorem d20_38 : decode cX1_findCellAlarm 38 = .ok (.getfield 12, 3) := by decide +kernel
theorem d20_41 : decode cX1_findCellAlarm 41 = .ok (.invokevirtual 188, 3) := by decide +kernel
theorem d20_44 : decode cX1_findCellAlarm 44 = .ok (.ifCond .eq 6, 3) := by decide +kernel
theorem d20_47 : decode cX1_findCellAlarm 47 = .ok (.bipush 99, 2) := by decide +kernel
theorem d20_49 : decode cX1_findCellAlarm 49 = .ok (.ireturn, 1) := by decide +kernel
theorem d20_50 : decode cX1_findCellAlarm 50 = .ok (.aload_n 0, 1) := by decide +kernel
theorem d20_51 : decode cX1_findCellAlarm 51 = .ok (.getfield 82, 3) := by decide +kernel
theorem d20_54 : decode cX1_findCellAlarm 54 = .ok (.bipush 120, 2) := by decide +kernel
theorem d20_56 : decode cX1_findCellAlarm 56 = .ok (.if_icmp .ne 15, 3) := by decide +kernel
theorem d20_59 : decode cX1_findCellAlarm 59 = .ok (.aload_n 0, 1) := by decide +kernel
theorem d20_60 : decode cX1_findCellAlarm 60 = .ok (.invokevirtual 192, 3) := by decide +kernel
theorem d20_63 : decode cX1_findCellAlarm 63 = .ok (.ifCond .eq 8, 3) := by decide +kernel
theorem d20_66 : decode cX1_findCellAlarm 66 = .ok (.bipush 120, 2) := by decide +kernel
theorem d20_68 : decode cX1_findCellAlarm 68 = .ok (.goto 5, 3) := by decide +kernel
theorem d20_71 : decode cX1_findCellAlarm 71 = .ok (.bipush 45, 2) := by decide +kernel
theorem d20_73 : decode cX1_findCellAlarm 73 = .ok (.ireturn, 1) := by decide +kernel
theorem v20_0 : am_all (am_V9 20) am_l20_0 := ⟨Or.inr ⟨1, d20_0, rfl, rfl, rfl, trivial, trivial⟩, Or.inr ⟨3, d20_1, rfl, rfl, trivial, ⟨RX1, TX1, 20, rfl, by decide, Or.inl aw_191⟩, trivial⟩, Or.inr ⟨3, d20_4, rfl, rfl, trivial, trivial, ⟨by decide, ⟨_, TX3, 4, rfl, okM_48, rfl⟩, aw_452, aw_453, aw_454⟩⟩, Or.inr ⟨3, d20_7, rfl, rfl, rfl, trivial, trivial⟩, Or.inr ⟨2, d20_10, rfl, rfl, am_eq9 (by decide +kernel), trivial, trivial⟩, Or.inr ⟨1, d20_12, rfl, rfl, trivial, trivial, trivial⟩, Or.inr ⟨1, d20_13, rfl, rfl, rfl, trivial, trivial⟩, Or.inr ⟨1, d20_14, rfl, rfl, rfl, trivial, trivial⟩, Or.inr ⟨3, d20_15, rfl, rfl, trivial, ⟨RX1, TX1, 20, rfl, by decide, Or.inl aw_181⟩, trivial⟩, Or.inr ⟨3, d20_18, rfl, rfl, trivial, ⟨RX2, TX2, 4, rfl, by decide, Or.inl aw_106⟩, trivial⟩, Or.inr ⟨3, d20_21, rfl, rfl, trivial, trivial, ⟨by decide, ⟨_, TX1, 20, rfl, okM_29, rfl⟩, aw_459, aw_461, as_29⟩⟩, Or.inr ⟨3, d20_24, rfl, rfl, rfl, trivial, trivial⟩, Or.inr ⟨1, d20_27, rfl, rfl, rfl, trivial, trivial⟩, Or.inr ⟨3, d20_28, rfl, rfl, trivial, ⟨RX1, TX1, 20, rfl, by decide, Or.inl aw_205⟩, trivial⟩, Or.inr ⟨2, d20_31, rfl, rfl, am_eq9 (by decide +kernel), trivial, trivial⟩, Or.inr ⟨3, d20_33, rfl, rfl, rfl, trivial, trivial⟩, Or.inr ⟨1, d20_36, rfl, rfl, rfl, trivial, trivial⟩, Or.inr ⟨1, d20_37, rfl, rfl, rfl, trivial, trivial⟩, Or.inr ⟨3, d20_38, rfl, rfl, trivial, ⟨RX1, TX1, 20, rfl, by decide, Or.inl aw_182⟩, trivial⟩, Or.inr ⟨3, d20_41, rfl, rfl, trivial, trivial, ⟨by decide, ⟨_, TX1, 20, rfl, okM_29, rfl⟩, aw_459, aw_461, as_29⟩⟩, Or.inr ⟨3, d20_44, rfl, rfl, rfl, trivial, trivial⟩, Or.inr ⟨2, d20_47, rfl, rfl, am_eq9 (by decide +kernel), trivial, trivial⟩, Or.inr ⟨1, d20_49, rfl, rfl, trivial, trivial, trivial⟩, Or.inr ⟨1, d20_50, rfl, rfl, rfl, trivial, trivial⟩, trivial⟩
theorem v20_1 : am_all (am_V9 20) am_l20_1 := ⟨Or.inr ⟨3, d20_51, rfl, rfl, trivial, ⟨RX1, TX1, 20, rfl, by decide, Or.inl aw_205⟩, trivial⟩, Or.inr ⟨2, d20_54, rfl, rfl, am_eq9 (by decide +kernel), trivial, trivial⟩, Or.inr ⟨3, d20_56, rfl, rfl, rfl, trivial, trivial⟩, Or.inr ⟨1, d20_59, rfl, rfl, rfl, trivial, trivial⟩, Or.inr ⟨3, d20_60, rfl, rfl, trivial, trivial, ⟨by decide, ⟨_, TX1, 20, rfl, okM_32, rfl⟩, aw_512, aw_514, as_32⟩⟩, Or.inr ⟨3, d20_63, rfl, rfl, rfl, trivial, trivial⟩, Or.inr ⟨2, d20_66, rfl, rfl, am_eq9 (by decide +kernel), trivial, trivial⟩, Or.inr ⟨3, d20_68, rfl, rfl, rfl, trivial, trivial⟩, Or.inr ⟨2, d20_71, rfl, rfl, am_eq9 (by decide +kernel), trivial, trivial⟩, Or.inr ⟨1, d20_73, rfl, rfl, trivial, trivial, trivial⟩, trivial⟩
theorem v20 : ∀ pc, am_V9 20 pc ((am_G 20).2.2.2.2.1 pc) := am_all_lc am_V9_0 _ ⟨v20_0, v20_1, trivial⟩
theorem d21_0 : decode cX1_isCut 0 = .ok (.aload_n 0, 1) := by decide +kernel
theorem d21_1 : decode cX1_isCut 1 = .ok (.getfield 82, 3) := by decide +kernel
theorem d21_4 : decode cX1_isCut 4 = .ok (.bipush 108, 2) := by decide +kernel
theorem d21_6 : decode cX1_isCut 6 = .ok (.if_icmp .eq 21, 3) := by decide +kernel
theorem d21_9 : decode cX1_isCut 9 = .ok (.aload_n 0, 1) := by decide +kernel
theorem d21_10 : decode cX1_isCut 10 = .ok (.getfield 82, 3) := by decide +kernel
theorem d21_13 : decode cX1_isCut 13 = .ok (.bipush 100, 2) := by decide +kernel
theorem d21_15 : decode cX1_isCut 15 = .ok (.if_icmp .eq 12, 3) := by decide +kernel
theorem d21_18 : decode cX1_isCut 18 = .ok (.aload_n 0, 1) := by decide +kernel
theorem d21_19 : decode cX1_isCut 19 = .ok (.getfield 82, 3) := by decide +kernel
theorem d21_22 : decode cX1_isCut 22 = .ok (.bipush 112, 2) := by decide +kernel
theorem d21_24 : decode cX1_isCut 24 = .ok (.if_icmp .ne 7, 3) := by decide +kernel
theorem d21_27 : decode cX1_isCut 27 = .ok (.iconst 1, 1) := by decide +kernel
theorem d21_28 : decode cX1_isCut 28 = .ok (.goto 4, 3) := by decide +kernel
theorem d21_31 : decode cX1_isCut 31 = .ok (.iconst 0, 1) := by decide +kernel
theorem d21_32 : decode cX1_isCut 32 = .ok (.ireturn, 1) := by decide +kernel
theorem v21_0 : am_all (am_V9 21) am_l21_0 := ⟨Or.inr ⟨1, d21_0, rfl, rfl, rfl, trivial, trivial⟩, Or.inr ⟨3, d21_1, rfl, rfl, trivial, ⟨RX1, TX1, 20, rfl, by decide, Or.inl aw_205⟩, trivial⟩, Or.inr ⟨2, d21_4, rfl, rfl, am_eq9 (by decide +kernel), trivial, trivial⟩, Or.inr ⟨3, d21_6, rfl, rfl, rfl, trivial, trivial⟩, Or.inr ⟨1, d21_9, rfl, rfl, rfl, trivial, trivial⟩, Or.inr ⟨3, d21_10, rfl, rfl, trivial, ⟨RX1, TX1, 20, rfl, by decide, Or.inl aw_205⟩, trivial⟩, Or.inr ⟨2, d21_13, rfl, rfl, am_eq9 (by decide +kernel), trivial, trivial⟩, Or.inr ⟨3, d21_15, rfl, rfl, rfl, trivial, trivial⟩, Or.inr ⟨1, d21_18, rfl, rfl, rfl, trivial, trivial⟩, Or.inr ⟨3, d21_19, rfl, rfl, trivial, ⟨RX1, TX1, 20, rfl, by decide, Or.inl aw_205⟩, trivial⟩, Or.inr ⟨2, d21_22, rfl, rfl, am_eq9 (by decide +kernel), trivial, trivial⟩, Or.inr ⟨3, d21_24, rfl, rfl, rfl, trivial, trivial⟩, Or.inr ⟨1, d21_27, rfl, rfl, am_eq9 (by decide +kernel), trivial, trivial⟩, Or.inr ⟨3, d21_28, rfl, rfl, rfl, trivial, trivial⟩, Or.inr ⟨1, d21_31, rfl, rfl, am_eq9 (by decide +kernel), trivial, trivial⟩, Or.inr ⟨1, d21_32, rfl, rfl, trivial, trivial, trivial⟩, trivial⟩
theorem v21 : ∀ pc, am_V9 21 pc ((am_G 21).2.2.2.2.1 pc) := am_all_lc am_V9_0 _ ⟨v21_0, trivial⟩
theorem d22_0 : decode cX1_isWorn 0 = .ok (.iload_n 1, 1) := by decide +kernel
theorem d22_1 : decode cX1_isWorn 1 = .ok (.iconst 0, 1) := by decide +kernel
theorem d22_2 : decode cX1_isWorn 2 = .ok (.bipush 11, 2) := by decide +kernel
theorem d22_4 : decode cX1_isWorn 4 = .ok (.invokestatic 151, 3) := by decide +kernel
theorem d22_7 : decode cX1_isWorn 7 = .ok (.ifCond .eq 28, 3) := by decide +kernel
theorem d22_10 : decode cX1_isWorn 10 = .ok (.aload_n 0, 1) := by decide +kernel
theorem d22_11 : decode cX1_isWorn 11 = .ok (.getfield 18, 3) := by decide +kernel
theorem d22_14 : decode cX1_isWorn 14 = .ok (.iload_n 1, 1) := by decide +kernel
theorem d22_15 : decode cX1_isWorn 15 = .ok (.iaload, 1) := by decide +kernel
theorem d22_16 : decode cX1_isWorn 16 = .ok (.aload_n 0, 1) := by decide +kernel
theorem d22_17 : decode cX1_isWorn 17 = .ok (.getfield 45, 3) := by decide +kernel
theorem d22_20 : decode cX1_isWorn 20 = .ok (.getfield 159, 3) := by decide +kernel
theorem d22_23 : decode cX1_isWorn 23 = .ok (.getfield 195, 3) := by decide +kernel
theorem d22_26 : decode cX1_isWorn 26 = .ok (.iload_n 1, 1) := by decide +kernel
theorem d22_27 : decode cX1_isWorn 27 = .ok (.iaload, 1) := by decide +kernel
theorem d22_28 : decode cX1_isWorn 28 = .ok (.if_icmp .lt 7, 3) := by decide +kernel
theorem d22_31 : decode cX1_isWorn 31 = .ok (.iconst 1, 1) := by decide +kernel
theorem d22_32 : decode cX1_isWorn 32 = .ok (.goto 4, 3) := by decide +kernel
theorem d22_35 : decode cX1_isWorn 35 = .ok (.iconst 0, 1) := by decide +kernel
theorem d22_36 : decode cX1_isWorn 36 = .ok (.ireturn, 1) := by decide +kernel
theorem v22_0 : am_all (am_V9 22) am_l22_0 := ⟨Or.inr ⟨1, d22_0, rfl, rfl, rfl, trivial, trivial⟩, Or.inr ⟨1, d22_1, rfl, rfl, am_eq9 (by decide +kernel), trivial, trivial⟩, Or.inr ⟨2, d22_2, rfl, rfl, am_eq9 (by decide +kernel), trivial, trivial⟩, Or.inr ⟨3, d22_4, rfl, rfl, trivial, trivial, Or.inr ⟨by decide, okM_84, aw_280, Or.inr ⟨rfl, _, an_8⟩⟩⟩, Or.inr ⟨3, d22_7, rfl, rfl, rfl, trivial, trivial⟩, Or.inr ⟨1, d22_10, rfl, rfl, rfl, trivial, trivial⟩, Or.inr ⟨3, d22_11, rfl, rfl, trivial, ⟨RX1, TX1, 20, rfl, by decide, Or.inl aw_184⟩, trivial⟩, Or.inr ⟨1, d22_14, rfl, rfl, rfl, trivial, trivial⟩, Or.inr ⟨1, d22_15, rfl, rfl, trivial, trivial, trivial⟩, Or.inr ⟨1, d22_16, rfl, rfl, rfl, trivial, trivial⟩, Or.inr ⟨3, d22_17, rfl, rfl, trivial, ⟨RX1, TX1, 20, rfl, by decide, Or.inl aw_181⟩, trivial⟩, Or.inr ⟨3, d22_20, rfl, rfl, trivial, ⟨RX2, TX2, 4, rfl, by decide, Or.inl aw_103⟩, trivial⟩, Or.inr ⟨3, d22_23, rfl, rfl, trivial, ⟨RX5, TX5, 3, rfl, by decide, Or.inl aw_50⟩, trivial⟩, Or.inr ⟨1, d22_26, rfl, rfl, rfl, trivial, trivial⟩, Or.inr ⟨1, d22_27, rfl, rfl, trivial, trivial, trivial⟩, Or.inr ⟨3, d22_28, rfl, rfl, rfl, trivial, trivial⟩, Or.inr ⟨1, d22_31, rfl, rfl, am_eq9 (by decide +kernel), trivial, trivial⟩, Or.inr ⟨3, d22_32, rfl, rfl, rfl, trivial, trivial⟩, Or.inr ⟨1, d22_35, rfl, rfl, am_eq9 (by decide +kernel), trivial, trivial⟩, Or.inr ⟨1, d22_36, rfl, rfl, trivial, trivial, trivial⟩, trivial⟩
theorem v22 : ∀ pc, am_V9 22 pc ((am_G 22).2.2.2.2.1 pc) := am_all_lc am_V9_0 _ ⟨v22_0, trivial⟩
theorem d23_0 : decode cX1_slotToTake 0 = .ok (.aload_n 0, 1) := by decide +kernel
theorem d23_1 : decode cX1_slotToTake 1 = .ok (.getfield 114, 3) := by decide +kernel
theorem d23_4 : decode cX1_slotToTake 4 = .ok (.aload_n 0, 1) := by decide +kernel
theorem d23_5 : decode cX1_slotToTake 5 = .ok (.getfield 120, 3) := by decide +kernel
theorem d23_8 : decode cX1_slotToTake 8 = .ok (.invokestatic 163, 3) := by decide +kernel
theorem d23_11 : decode cX1_slotToTake 11 = .ok (.istore_n 1, 1) := by decide +kernel
theorem d23_12 : decode cX1_slotToTake 12 = .ok (.aload_n 0, 1) := by decide +kernel
theorem d23_13 : decode cX1_slotToTake 13 = .ok (.getfield 120, 3) := by decide +kernel
theorem d23_16 : decode cX1_slotToTake 16 = .ok (.istore_n 2, 1) := by decide +kernel
theorem d23_17 : decode cX1_slotToTake 17 = .ok (.iload_n 2, 1) := by decide +kernel
theorem d23_18 : decode cX1_slotToTake 18 = .ok (.iconst 4, 1) := by decide +kernel
theorem d23_19 : decode cX1_slotToTake 19 = .ok (.if_icmp .ge 43, 3) := by decide +kernel
theorem d23_22 : decode cX1_slotToTake 22 = .ok (.aload_n 0, 1) := by decide +kernel
theorem d23_23 : decode cX1_slotToTake 23 = .ok (.getfield 114, 3) := by decide +kernel
theorem d23_26 : decode cX1_slotToTake 26 = .ok (.iload_n 2, 1) := by decide +kernel
theorem d23_27 : decode cX1_slotToTake 27 = .ok (.invokestatic 163, 3) := by decide +kernel
theorem d23_30 : decode cX1_slotToTake 30 = .ok (.istore_n 3, 1) := by decide +kernel
theorem d23_31 : decode cX1_slotToTake 31 = .ok (.aload_n 0, 1) := by decide +kernel
theorem d23_32 : decode cX1_slotToTake 32 = .ok (.getfield 45, 3) := by decide +kernel
theorem d23_35 : decode cX1_slotToTake 35 = .ok (.getfield 159, 3) := by decide +kernel
theorem d23_38 : decode cX1_slotToTake 38 = .ok (.iload_n 1, 1) := by decide +kernel
theorem d23_39 : decode cX1_slotToTake 39 = .ok (.iload_n 3, 1) := by decide +kernel
theorem d23_40 : decode cX1_slotToTake 40 = .ok (.invokevirtual 198, 3) := by decide +kernel
theorem d23_43 : decode cX1_slotToTake 43 = .ok (.ifCond .eq 13, 3) := by decide +kernel
theorem d23_46 : decode cX1_slotToTake 46 = .ok (.aload_n 0, 1) := by decide +kernel
theorem d23_47 : decode cX1_slotToTake 47 = .ok (.iload_n 3, 1) := by decide +kernel
theorem d23_48 : decode cX1_slotToTake 48 = .ok (.invokevirtual 179, 3) := by decide +kernel
theorem d23_51 : decode cX1_slotToTake 51 = .ok (.ifCond .ne 5, 3) := by decide +kernel
theorem d23_54 : decode cX1_slotToTake 54 = .ok (.iload_n 3, 1) := by decide +kernel
theorem d23_55 : decode cX1_slotToTake 55 = .ok (.ireturn, 1) := by decide +kernel
theorem d23_56 : decode cX1_slotToTake 56 = .ok (.iinc 2 1, 3) := by decide +kernel
theorem d23_59 : decode cX1_slotToTake 59 = .ok (.goto (-42), 3) := by decide +kernel
theorem d23_62 : decode cX1_slotToTake 62 = .ok (.iconst (-1), 1) := by decide +kernel
theorem d23_63 : decode cX1_slotToTake 63 = .ok (.ireturn, 1) := by decide +kernel
theorem v23_0 : am_all (am_V9 23) am_l23_0 := ⟨Or.inr ⟨1, d23_0, rfl, rfl, rfl, trivial, trivial⟩, Or.inr ⟨3, d23_1, rfl, rfl, trivial, ⟨RX1, TX1, 20, rfl, by decide, Or.inl aw_206⟩, trivial⟩, Or.inr ⟨1, d23_4, rfl, rfl, rfl, trivial, trivial⟩, Or.inr ⟨3, d23_5, rfl, rfl, trivial, ⟨RX1, TX1, 20, rfl, by decide, Or.inl aw_207⟩, trivial⟩, Or.inr ⟨3, d23_8, rfl, rfl, trivial, trivial, Or.inr ⟨by decide, okM_88, aw_381, Or.inr ⟨rfl, _, an_10⟩⟩⟩, Or.inr ⟨1, d23_11, rfl, rfl, rfl, trivial, trivial⟩, Or.inr ⟨1, d23_12, rfl, rfl, rfl, trivial, trivial⟩, Or.inr ⟨3, d23_13, rfl, rfl, trivial, ⟨RX1, TX1, 20, rfl, by decide, Or.inl aw_207⟩, trivial⟩, Or.inr ⟨1, d23_16, rfl, rfl, rfl, trivial, trivial⟩, Or.inr ⟨1, d23_17, rfl, rfl, rfl, trivial, trivial⟩, Or.inr ⟨1, d23_18, rfl, rfl, am_eq9 (by decide +kernel), trivial, trivial⟩, Or.inr ⟨3, d23_19, rfl, rfl, rfl, trivial, trivial⟩, Or.inr ⟨1, d23_22, rfl, rfl, rfl, trivial, trivial⟩, Or.inr ⟨3, d23_23, rfl, rfl, trivial, ⟨RX1, TX1, 20, rfl, by decide, Or.inl aw_206⟩, trivial⟩, Or.inr ⟨1, d23_26, rfl, rfl, rfl, trivial, trivial⟩, Or.inr ⟨3, d23_27, rfl, rfl, trivial, trivial, Or.inr ⟨by decide, okM_88, aw_381, Or.inr ⟨rfl, _, an_10⟩⟩⟩, Or.inr ⟨1, d23_30, rfl, rfl, rfl, trivial, trivial⟩, Or.inr ⟨1, d23_31, rfl, rfl, rfl, trivial, trivial⟩, Or.inr ⟨3, d23_32, rfl, rfl, trivial, ⟨RX1, TX1, 20, rfl, by decide, Or.inl aw_181⟩, trivial⟩, Or.inr ⟨3, d23_35, rfl, rfl, trivial, ⟨RX2, TX2, 4, rfl, by decide, Or.inl aw_103⟩, trivial⟩, Or.inr ⟨1, d23_38, rfl, rfl, rfl, trivial, trivial⟩, Or.inr ⟨1, d23_39, rfl, rfl, rfl, trivial, trivial⟩, Or.inr ⟨3, d23_40, rfl, rfl, trivial, trivial, ⟨by decide, ⟨_, TX5, 3, rfl, okM_60, rfl⟩, aw_396, aw_397, aw_398⟩⟩, Or.inr ⟨3, d23_43, rfl, rfl, rfl, trivial, trivial⟩, trivial⟩
theorem v23_1 : am_all (am_V9 23) am_l23_1 := ⟨Or.inr ⟨1, d23_46, rfl, rfl, rfl, trivial, trivial⟩, Or.inr ⟨1, d23_47, rfl, rfl, rfl, trivial, trivial⟩, Or.inr ⟨3, d23_48, rfl, rfl, trivial, trivial, ⟨by decide, ⟨_, TX1, 20, rfl, okM_22, rfl⟩, aw_400, aw_402, as_22⟩⟩, Or.inr ⟨3, d23_51, rfl, rfl, rfl, trivial, trivial⟩, Or.inr ⟨1, d23_54, rfl, rfl, rfl, trivial, trivial⟩, Or.inr ⟨1, d23_55, rfl, rfl, trivial, trivial, trivial⟩, Or.inr ⟨3, d23_56, rfl, rfl, ⟨rfl, by decide⟩, trivial, trivial⟩, Or.inr ⟨3, d23_59, rfl, rfl, rfl, trivial, trivial⟩, Or.inr ⟨1, d23_62, rfl, rfl, am_eq9 (by decide +kernel), trivial, trivial⟩, Or.inr ⟨1, d23_63, rfl, rfl, trivial, trivial, trivial⟩, trivial⟩
theorem v23 : ∀ pc, am_V9 23 pc ((am_G 23).2.2.2.2.1 pc) := am_all_lc am_V9_0 _ ⟨v23_0, v23_1, trivial⟩
theorem d24_0 : decode cX1_planPath 0 = .ok (.aload_n 0, 1) := by decide +kernel
theorem d24_1 : decode cX1_planPath 1 = .ok (.getfield 34, 3) := by decide +kernel
theorem d24_4 : decode cX1_planPath 4 = .ok (.invokevirtual 201, 3) := by decide +kernel
theorem d24_7 : decode cX1_planPath 7 = .ok (.aload_n 0, 1) := by decide +kernel
theorem d24_8 : decode cX1_planPath 8 = .ok (.getfield 34, 3) := by decide +kernel
theorem d24_11 : decode cX1_planPath 11 = .ok (.aload_n 0, 1) := by decide +kernel
theorem d24_12 : decode cX1_planPath 12 = .ok (.getfield 25, 3) := by decide +kernel
theorem d24_15 : decode cX1_planPath 15 = .ok (.iconst 0, 1) := by decide +kernel
theorem d24_16 : decode cX1_planPath 16 = .ok (.iaload, 1) := by decide +kernel
theorem d24_17 : decode cX1_planPath 17 = .ok (.aload_n 0, 1) := by decide +kernel
theorem d24_18 : decode cX1_planPath 18 = .ok (.getfield 25, 3) := by decide +kernel
theorem d24_21 : decode cX1_planPath 21 = .ok (.iconst 1, 1) := by decide +kernel
theorem d24_22 : decode cX1_planPath 22 = .ok (.iaload, 1) := by decide +kernel
theorem d24_23 : decode cX1_planPath 23 = .ok (.aload_n 0, 1) := by decide +kernel
theorem d24_24 : decode cX1_planPath 24 = .ok (.getfield 25, 3) := by decide +kernel
theorem d24_27 : decode cX1_planPath 27 = .ok (.iconst 2, 1) := by decide +kernel
theorem d24_28 : decode cX1_planPath 28 = .ok (.iaload, 1) := by decide +kernel
theorem d24_29 : decode cX1_planPath 29 = .ok (.invokevirtual 204, 3) := by decide +kernel
theorem d24_32 : decode cX1_planPath 32 = .ok (.aload_n 0, 1) := by decide +kernel
theorem d24_33 : decode cX1_planPath 33 = .ok (.getfield 82, 3) := by decide +kernel
theorem d24_36 : decode cX1_planPath 36 = .ok (.bipush 103, 2) := by decide +kernel
theorem d24_38 : decode cX1_planPath 38 = .ok (.if_icmp .eq 12, 3) := by decide +kernel
theorem d24_41 : decode cX1_planPath 41 = .ok (.aload_n 0, 1) := by decide +kernel
theorem d24_42 : decode cX1_planPath 42 = .ok (.getfield 82, 3) := by decide +kernel
theorem d24_45 : decode cX1_planPath 45 = .ok (.bipush 108, 2) := by decide +kernel
theorem d24_47 : decode cX1_planPath 47 = .ok (.if_icmp .ne 10, 3) := by decide +kernel
theorem d24_50 : decode cX1_planPath 50 = .ok (.aload_n 0, 1) := by decide +kernel
theorem d24_51 : decode cX1_planPath 51 = .ok (.invokevirtual 208, 3) := by decide +kernel
theorem d24_54 : decode cX1_planPath 54 = .ok (.goto 32, 3) := by decide +kernel
theorem d24_57 : decode cX1_planPath 57 = .ok (.aload_n 0, 1) := by decide +kernel
theorem d24_58 : decode cX1_planPath 58 = .ok (.getfield 82, 3) := by decide +kernel
theorem d24_61 : decode cX1_planPath 61 = .ok (.bipush 100, 2) := by decide +kernel
theorem d24_63 : decode cX1_planPath 63 = .ok (.if_icmp .ne 10, 3) := by decide +kernel
theorem d24_66 : decode cX1_planPath 66 = .ok (.aload_n 0, 1) := by decide +kernel
theorem d24_67 : decode cX1_planPath 67 = .ok (.invokevirtual 211, 3) := by decide +kernel
theorem d24_70 : decode cX1_planPath 70 = .ok (.goto 16, 3) := by decide +kernel
theorem d24_73 : decode cX1_planPath 73 = .ok (.aload_n 0, 1) := by decide +kernel
theorem d24_74 : decode cX1_planPath 74 = .ok (.getfield 82, 3) := by decide +kernel
theorem d24_77 : decode cX1_planPath 77 = .ok (.bipush 112, 2) := by decide +kernel
theorem d24_79 : decode cX1_planPath 79 = .ok (.if_icmp .ne 7, 3) := by decide +kernel
theorem d24_82 : decode cX1_planPath 82 = .ok (.aload_n 0, 1) := by decide +kernel
theorem d24_83 : decode cX1_planPath 83 = .ok (.invokevirtual 214, 3) := by decide +kernel
theorem d24_86 : decode cX1_planPath 86 = .ok (.return_, 1) := by decide +kernel
theorem v24_0 : am_all (am_V9 24) am_l24_0 := ⟨Or.inr ⟨1, d24_0, rfl, rfl, rfl, trivial, trivial⟩, Or.inr ⟨3, d24_1, rfl, rfl, trivial, ⟨RX1, TX1, 20, rfl, by decide, Or.inl aw_191⟩, trivial⟩, Or.inr ⟨3, d24_4, rfl, rfl, trivial, trivial, ⟨by decide, ⟨_, TX3, 4, rfl, okM_42, rfl⟩, aw_412, aw_413, aw_414⟩⟩, Or.inr ⟨1, d24_7, rfl, rfl, rfl, trivial, trivial⟩, Or.inr ⟨3, d24_8, rfl, rfl, trivial, ⟨RX1, TX1, 20, rfl, by decide, Or.inl aw_191⟩, trivial⟩, Or.inr ⟨1, d24_11, rfl, rfl, rfl, trivial, trivial⟩, Or.inr ⟨3, d24_12, rfl, rfl, trivial, ⟨RX1, TX1, 20, rfl, by decide, Or.inl aw_188⟩, trivial⟩, Or.inr ⟨1, d24_15, rfl, rfl, am_eq9 (by decide +kernel), trivial, trivial⟩, Or.inr ⟨1, d24_16, rfl, rfl, trivial, trivial, trivial⟩, Or.inr ⟨1, d24_17, rfl, rfl, rfl, trivial, trivial⟩, Or.inr ⟨3, d24_18, rfl, rfl, trivial, ⟨RX1, TX1, 20, rfl, by decide, Or.inl aw_188⟩, trivial⟩, Or.inr ⟨1, d24_21, rfl, rfl, am_eq9 (by decide +kernel), trivial, trivial⟩, Or.inr ⟨1, d24_22, rfl, rfl, trivial, trivial, trivial⟩, Or.inr ⟨1, d24_23, rfl, rfl, rfl, trivial, trivial⟩, Or.inr ⟨3, d24_24, rfl, rfl, trivial, ⟨RX1, TX1, 20, rfl, by decide, Or.inl aw_188⟩, trivial⟩, Or.inr ⟨1, d24_27, rfl, rfl, am_eq9 (by decide +kernel), trivial, trivial⟩, Or.inr ⟨1, d24_28, rfl, rfl, trivial, trivial, trivial⟩, Or.inr ⟨3, d24_29, rfl, rfl, trivial, trivial, ⟨by decide, ⟨_, TX3, 4, rfl, okM_44, rfl⟩, aw_416, aw_417, aw_418⟩⟩, Or.inr ⟨1, d24_32, rfl, rfl, rfl, trivial, trivial⟩, Or.inr ⟨3, d24_33, rfl, rfl, trivial, ⟨RX1, TX1, 20, rfl, by decide, Or.inl aw_205⟩, trivial⟩, Or.inr ⟨2, d24_36, rfl, rfl, am_eq9 (by decide +kernel), trivial, trivial⟩, Or.inr ⟨3, d24_38, rfl, rfl, rfl, trivial, trivial⟩, Or.inr ⟨1, d24_41, rfl, rfl, rfl, trivial, trivial⟩, Or.inr ⟨3, d24_42, rfl, rfl, trivial, ⟨RX1, TX1, 20, rfl, by decide, Or.inl aw_205⟩, trivial⟩, trivial⟩
theorem v24_1 : am_all (am_V9 24) am_l24_1 := ⟨Or.inr ⟨2, d24_45, rfl, rfl, am_eq9 (by decide +kernel), trivial, trivial⟩, Or.inr ⟨3, d24_47, rfl, rfl, rfl, trivial, trivial⟩, Or.inr ⟨1, d24_50, rfl, rfl, rfl, trivial, trivial⟩, Or.inr ⟨3, d24_51, rfl, rfl, trivial, trivial, ⟨by decide, ⟨_, TX1, 20, rfl, okM_25, rfl⟩, aw_420, aw_422, as_25⟩⟩, Or.inr ⟨3, d24_54, rfl, rfl, rfl, trivial, trivial⟩, Or.inr ⟨1, d24_57, rfl, rfl, rfl, trivial, trivial⟩, Or.inr ⟨3, d24_58, rfl, rfl, trivial, ⟨RX1, TX1, 20, rfl, by decide, Or.inl aw_205⟩, trivial⟩, Or.inr ⟨2, d24_61, rfl, rfl, am_eq9 (by decide +kernel), trivial, trivial⟩, Or.inr ⟨3, d24_63, rfl, rfl, rfl, trivial, trivial⟩, Or.inr ⟨1, d24_66, rfl, rfl, rfl, trivial, trivial⟩, Or.inr ⟨3, d24_67, rfl, rfl, trivial, trivial, ⟨by decide, ⟨_, TX1, 20, rfl, okM_26, rfl⟩, aw_428, aw_430, as_26⟩⟩, Or.inr ⟨3, d24_70, rfl, rfl, rfl, trivial, trivial⟩, Or.inr ⟨1, d24_73, rfl, rfl, rfl, trivial, trivial⟩, Or.inr ⟨3, d24_74, rfl, rfl, trivial, ⟨RX1, TX1, 20, rfl, by decide, Or.inl aw_205⟩, trivial⟩, Or.inr ⟨2, d24_77, rfl, rfl, am_eq9 (by decide +kernel), trivial, trivial⟩, Or.inr ⟨3, d24_79, rfl, rfl, rfl, trivial, trivial⟩, Or.inr ⟨1, d24_82, rfl, rfl, rfl, trivial, trivial⟩, Or.inr ⟨3, d24_83, rfl, rfl, trivial, trivial, ⟨by decide, ⟨_, TX1, 20, rfl, okM_27, rfl⟩, aw_436, aw_438, as_27⟩⟩, Or.inr ⟨1, d24_86, rfl, rfl, trivial, trivial, trivial⟩, trivial⟩
theorem v24 : ∀ pc, am_V9 24 pc ((am_G 24).2.2.2.2.1 pc) := am_all_lc am_V9_0 _ ⟨v24_0, v24_1, trivial⟩
theorem d25_0 : decode cX1_planSingleMove 0 = .ok (.aload_n 0, 1) := by decide +kernel
theorem d25_1 : decode cX1_planSingleMove 1 = .ok (.getfield 75, 3) := by decide +kernel
theorem d25_4 : decode cX1_planSingleMove 4 = .ok (.ifCond .eq 10, 3) := by decide +kernel
theorem d25_7 : decode cX1_planSingleMove 7 = .ok (.aload_n 0, 1) := by decide +kernel
theorem d25_8 : decode cX1_planSingleMove 8 = .ok (.getfield 25, 3) := by decide +kernel
theorem d25_11 : decode cX1_planSingleMove 11 = .ok (.goto 10, 3) := by decide +kernel
theorem d25_14 : decode cX1_planSingleMove 14 = .ok (.aload_n 0, 1) := by decide +kernel
theorem d25_15 : decode cX1_planSingleMove 15 = .ok (.getfield 45, 3) := by decide +kernel
theorem d25_18 : decode cX1_planSingleMove 18 = .ok (.getfield 217, 3) := by decide +kernel
theorem d25_21 : decode cX1_planSingleMove 21 = .ok (.astore_n 1, 1) := by decide +kernel
theorem d25_22 : decode cX1_planSingleMove 22 = .ok (.aload_n 0, 1) := by decide +kernel
theorem d25_23 : decode cX1_planSingleMove 23 = .ok (.getfield 75, 3) := by decide +kernel
theorem d25_26 : decode cX1_planSingleMove 26 = .ok (.ifCond .eq 7, 3) := by decide +kernel
theorem d25_29 : decode cX1_planSingleMove 29 = .ok (.iconst 0, 1) := by decide +kernel
theorem d25_30 : decode cX1_planSingleMove 30 = .ok (.goto 9, 3) := by decide +kernel
theorem d25_33 : decode cX1_planSingleMove 33 = .ok (.aload_n 0, 1) := by decide +kernel
theorem d25_34 : decode cX1_planSingleMove 34 = .ok (.getfield 72, 3) := by decide +kernel
theorem d25_37 : decode cX1_planSingleMove 37 = .ok (.iconst 3, 1) := by decide +kernel
theorem d25_38 : decode cX1_planSingleMove 38 = .ok (.imul, 1) := by decide +kernel
theorem d25_39 : decode cX1_planSingleMove 39 = .ok (.istore_n 2, 1) := by decide +kernel
theorem d25_40 : decode cX1_planSingleMove 40 = .ok (.iload_n 2, 1) := by decide +kernel
theorem d25_41 : decode cX1_planSingleMove 41 = .ok (.iconst 0, 1) := by decide +kernel
theorem d25_42 : decode cX1_planSingleMove 42 = .ok (.aload_n 1, 1) := by decide +kernel
theorem d25_43 : decode cX1_planSingleMove 43 = .ok (.arraylength, 1) := by decide +kernel
theorem d25_44 : decode cX1_planSingleMove 44 = .ok (.iconst 3, 1) := by decide +kernel
theorem d25_45 : decode cX1_planSingleMove 45 = .ok (.isub, 1) := by decide +kernel
theorem d25_46 : decode cX1_planSingleMove 46 = .ok (.invokestatic 151, 3) := by decide +kernel
theorem d25_49 : decode cX1_planSingleMove 49 = .ok (.ifCond .ne 4, 3) := by decide +kernel
theorem d25_52 : decode cX1_planSingleMove 52 = .ok (.return_, 1) := by decide +kernel
theorem d25_53 : decode cX1_planSingleMove 53 = .ok (.aload_n 1, 1) := by decide +kernel
theorem d25_54 : decode cX1_planSingleMove 54 = .ok (.iload_n 2, 1) := by decide +kernel
theorem d25_55 : decode cX1_planSingleMove 55 = .ok (.iaload, 1) := by decide +kernel
theorem d25_56 : decode cX1_planSingleMove 56 = .ok (.aload_n 0, 1) := by decide +kernel
theorem d25_57 : decode cX1_planSingleMove 57 = .ok (.getfield 114, 3) := by decide +kernel
theorem d25_60 : decode cX1_planSingleMove 60 = .ok (.iadd, 1) := by decide +kernel
theorem d25_61 : decode cX1_planSingleMove 61 = .ok (.istore_n 3, 1) := by decide +kernel
theorem d25_62 : decode cX1_planSingleMove 62 = .ok (.aload_n 1, 1) := by decide +kernel
theorem d25_63 : decode cX1_planSingleMove 63 = .ok (.iload_n 2, 1) := by decide +kernel
theorem d25_64 : decode cX1_planSingleMove 64 = .ok (.iconst 1, 1) := by decide +kernel
theorem d25_65 : decode cX1_planSingleMove 65 = .ok (.iadd, 1) := by decide +kernel
theorem d25_66 : decode cX1_planSingleMove 66 = .ok (.iaload, 1) := by decide +kernel
theorem d25_67 : decode cX1_planSingleMove 67 = .ok (.aload_n 0, 1) := by decide +kernel
theorem d25_68 : decode cX1_planSingleMove 68 = .ok (.getfield 120, 3) := by decide +kernel
theorem d25_71 : decode cX1_planSingleMove 71 = .ok (.iadd, 1) := by decide +kernel
theorem d25_72 : decode cX1_planSingleMove 72 = .ok (.istore 4, 2) := by decide +kernel
theorem d25_74 : decode cX1_planSingleMove 74 = .ok (.aload_n 1, 1) := by decide +kernel
theorem d25_75 : decode cX1_planSingleMove 75 = .ok (.iload_n 2, 1) := by decide +kernel
theorem d25_76 : decode cX1_planSingleMove 76 = .ok (.iconst 2, 1) := by decide +kernel
theorem d25_77 : decode cX1_planSingleMove 77 = .ok (.iadd, 1) := by decide +kernel
theorem d25_78 : decode cX1_planSingleMove 78 = .ok (.iaload, 1) := by decide +kernel
theorem d25_79 : decode cX1_planSingleMove 79 = .ok (.aload_n 0, 1) := by decide +kernel
theorem d25_80 : decode cX1_planSingleMove 80 = .ok (.getfield 126, 3) := by decide +kernel
theorem d25_83 : decode cX1_planSingleMove 83 = .ok (.iadd, 1) := by decide +kernel
theorem d25_84 : decode cX1_planSingleMove 84 = .ok (.istore 5, 2) := by decide +kernel
theorem d25_86 : decode cX1_planSingleMove 86 = .ok (.aload_n 0, 1) := by decide +kernel
theorem d25_87 : decode cX1_planSingleMove 87 = .ok (.getfield 34, 3) := by decide +kernel
theorem d25_90 : decode cX1_planSingleMove 90 = .ok (.aload_n 0, 1) := by decide +kernel
theorem d25_91 : decode cX1_planSingleMove 91 = .ok (.getfield 25, 3) := by decide +kernel
theorem d25_94 : decode cX1_planSingleMove 94 = .ok (.iconst 0, 1) := by decide +kernel
theorem d25_95 : decode cX1_planSingleMove 95 = .ok (.iaload, 1) := by decide +kernel
theorem d25_96 : decode cX1_planSingleMove 96 = .ok (.aload_n 0, 1) := by decide +kernel
theorem d25_97 : decode cX1_planSingleMove 97 = .ok (.getfield 25, 3) := by decide +kernel
theorem d25_100 : decode cX1_planSingleMove 100 = .ok (.iconst 1, 1) := by decide +kernel
theorem d25_101 : decode cX1_planSingleMove 101 = .ok (.iaload, 1) := by decide +kernel
theorem d25_102 : decode cX1_planSingleMove 102 = .ok (.aload_n 0, 1) := by decide +kernel
theorem d25_103 : decode cX1_planSingleMove 103 = .ok (.getfield 25, 3) := by decide +kernel
theorem d25_106 : decode cX1_planSingleMove 106 = .ok (.iconst 2, 1) := by decide +kernel
theorem d25_107 : decode cX1_planSingleMove 107 = .ok (.iaload, 1) := by decide +kernel
theorem d25_108 : decode cX1_planSingleMove 108 = .ok (.iload_n 3, 1) := by decide +kernel
theorem d25_109 : decode cX1_planSingleMove 109 = .ok (.iload 4, 2) := by decide +kernel
theorem d25_111 : decode cX1_planSingleMove 111 = .ok (.iload 5, 2) := by decide +kernel
theorem d25_113 : decode cX1_planSingleMove 113 = .ok (.invokevirtual 220, 3) := by decide +kernel
theorem d25_116 : decode cX1_planSingleMove 116 = .ok (.aload_n 0, 1) := by decide +kernel
theorem d25_117 : decode cX1_planSingleMove 117 = .ok (.getfield 34, 3) := by decide +kernel
theorem d25_120 : decode cX1_planSingleMove 120 = .ok (.iload_n 3, 1) := by decide +kernel
theorem d25_121 : decode cX1_planSingleMove 121 = .ok (.iload 4, 2) := by decide +kernel
theorem d25_123 : decode cX1_planSingleMove 123 = .ok (.iload 5, 2) := by decide +kernel
theorem d25_125 : decode cX1_planSingleMove 125 = .ok (.invokevirtual 204, 3) := by decide +kernel
theorem d25_128 : decode cX1_planSingleMove 128 = .ok (.return_, 1) := by decide +kernel
theorem v25_0 : am_all (am_V9 25) am_l25_0 := ⟨Or.inr ⟨1, d25_0, rfl, rfl, rfl, trivial, trivial⟩, Or.inr ⟨3, d25_1, rfl, rfl, trivial, ⟨RX1, TX1, 20, rfl, by decide, Or.inl aw_203⟩, trivial⟩, Or.inr ⟨3, d25_4, rfl, rfl, rfl, trivial, trivial⟩, Or.inr ⟨1, d25_7, rfl, rfl, rfl, trivial, trivial⟩, Or.inr ⟨3, d25_8, rfl, rfl, trivial, ⟨RX1, TX1, 20, rfl, by decide, Or.inl aw_188⟩, trivial⟩, Or.inr ⟨3, d25_11, rfl, rfl, rfl, trivial, trivial⟩, Or.inr ⟨1, d25_14, rfl, rfl, rfl, trivial, trivial⟩, Or.inr ⟨3, d25_15, rfl, rfl, trivial, ⟨RX1, TX1, 20, rfl, by decide, Or.inl aw_181⟩, trivial⟩, Or.inr ⟨3, d25_18, rfl, rfl, trivial, ⟨RX2, TX2, 4, rfl, by decide, Or.inl aw_109⟩, trivial⟩, Or.inr ⟨1, d25_21, rfl, rfl, rfl, trivial, trivial⟩, Or.inr ⟨1, d25_22, rfl, rfl, rfl, trivial, trivial⟩, Or.inr ⟨3, d25_23, rfl, rfl, trivial, ⟨RX1, TX1, 20, rfl, by decide, Or.inl aw_203⟩, trivial⟩, Or.inr ⟨3, d25_26, rfl, rfl, rfl, trivial, trivial⟩, Or.inr ⟨1, d25_29, rfl, rfl, am_eq9 (by decide +kernel), trivial, trivial⟩, Or.inr ⟨3, d25_30, rfl, rfl, rfl, trivial, trivial⟩, Or.inr ⟨1, d25_33, rfl, rfl, rfl, trivial, trivial⟩, Or.inr ⟨3, d25_34, rfl, rfl, trivial, ⟨RX1, TX1, 20, rfl, by decide, Or.inl aw_202⟩, trivial⟩, Or.inr ⟨1, d25_37, rfl, rfl, am_eq9 (by decide +kernel), trivial, trivial⟩, Or.inr ⟨1, d25_38, rfl, rfl, trivial, trivial, trivial⟩, Or.inr ⟨1, d25_39, rfl, rfl, rfl, trivial, trivial⟩, Or.inr ⟨1, d25_40, rfl, rfl, rfl, trivial, trivial⟩, Or.inr ⟨1, d25_41, rfl, rfl, am_eq9 (by decide +kernel), trivial, trivial⟩, Or.inr ⟨1, d25_42, rfl, rfl, rfl, trivial, trivial⟩, Or.inr ⟨1, d25_43, rfl, rfl, trivial, trivial, trivial⟩, trivial⟩
theorem v25_1 : am_all (am_V9 25) am_l25_1 := ⟨Or.inr ⟨1, d25_44, rfl, rfl, am_eq9 (by decide +kernel), trivial, trivial⟩, Or.inr ⟨1, d25_45, rfl, rfl, trivial, trivial, trivial⟩, Or.inr ⟨3, d25_46, rfl, rfl, trivial, trivial, Or.inr ⟨by decide, okM_84, aw_280, Or.inr ⟨rfl, _, an_8⟩⟩⟩, Or.inr ⟨3, d25_49, rfl, rfl, rfl, trivial, trivial⟩, Or.inr ⟨1, d25_52, rfl, rfl, trivial, trivial, trivial⟩, Or.inr ⟨1, d25_53, rfl, rfl, rfl, trivial, trivial⟩, Or.inr ⟨1, d25_54, rfl, rfl, rfl, trivial, trivial⟩, Or.inr ⟨1, d25_55, rfl, rfl, trivial, trivial, trivial⟩, Or.inr ⟨1, d25_56, rfl, rfl, rfl, trivial, trivial⟩, Or.inr ⟨3, d25_57, rfl, rfl, trivial, ⟨RX1, TX1, 20, rfl, by decide, Or.inl aw_206⟩, trivial⟩, Or.inr ⟨1, d25_60, rfl, rfl, trivial, trivial, trivial⟩, Or.inr ⟨1, d25_61, rfl, rfl, rfl, trivial, trivial⟩, Or.inr ⟨1, d25_62, rfl, rfl, rfl, trivial, trivial⟩, Or.inr ⟨1, d25_63, rfl, rfl, rfl, trivial, trivial⟩, Or.inr ⟨1, d25_64, rfl, rfl, am_eq9 (by decide +kernel), trivial, trivial⟩, Or.inr ⟨1, d25_65, rfl, rfl, trivial, trivial, trivial⟩, Or.inr ⟨1, d25_66, rfl, rfl, trivial, trivial, trivial⟩, Or.inr ⟨1, d25_67, rfl, rfl, rfl, trivial, trivial⟩, Or.inr ⟨3, d25_68, rfl, rfl, trivial, ⟨RX1, TX1, 20, rfl, by decide, Or.inl aw_207⟩, trivial⟩, Or.inr ⟨1, d25_71, rfl, rfl, trivial, trivial, trivial⟩, Or.inr ⟨2, d25_72, rfl, rfl, rfl, trivial, trivial⟩, Or.inr ⟨1, d25_74, rfl, rfl, rfl, trivial, trivial⟩, Or.inr ⟨1, d25_75, rfl, rfl, rfl, trivial, trivial⟩, Or.inr ⟨1, d25_76, rfl, rfl, am_eq9 (by decide +kernel), trivial, trivial⟩, trivial⟩
theorem v25_2 : am_all (am_V9 25) am_l25_2 := ⟨Or.inr ⟨1, d25_77, rfl, rfl, trivial, trivial, trivial⟩, Or.inr ⟨1, d25_78, rfl, rfl, trivial, trivial, trivial⟩, Or.inr ⟨1, d25_79, rfl, rfl, rfl, trivial, trivial⟩, Or.inr ⟨3, d25_80, rfl, rfl, trivial, ⟨RX1, TX1, 20, rfl, by decide, Or.inl aw_208⟩, trivial⟩, Or.inr ⟨1, d25_83, rfl, rfl, trivial, trivial, trivial⟩, Or.inr ⟨2, d25_84, rfl, rfl, rfl, trivial, trivial⟩, Or.inr ⟨1, d25_86, rfl, rfl, rfl, trivial, trivial⟩, Or.inr ⟨3, d25_87, rfl, rfl, trivial, ⟨RX1, TX1, 20, rfl, by decide, Or.inl aw_191⟩, trivial⟩, Or.inr ⟨1, d25_90, rfl, rfl, rfl, trivial, trivial⟩, Or.inr ⟨3, d25_91, rfl, rfl, trivial, ⟨RX1, TX1, 20, rfl, by decide, Or.inl aw_188⟩, trivial⟩, Or.inr ⟨1, d25_94, rfl, rfl, am_eq9 (by decide +kernel), trivial, trivial⟩, Or.inr ⟨1, d25_95, rfl, rfl, trivial, trivial, trivial⟩, Or.inr ⟨1, d25_96, rfl, rfl, rfl, trivial, trivial⟩, Or.inr ⟨3, d25_97, rfl, rfl, trivial, ⟨RX1, TX1, 20, rfl, by decide, Or.inl aw_188⟩, trivial⟩, Or.inr ⟨1, d25_100, rfl, rfl, am_eq9 (by decide +kernel), trivial, trivial⟩, Or.inr ⟨1, d25_101, rfl, rfl, trivial, trivial, trivial⟩, Or.inr ⟨1, d25_102, rfl, rfl, rfl, trivial, trivial⟩, Or.inr ⟨3, d25_103, rfl, rfl, trivial, ⟨RX1, TX1, 20, rfl, by decide, Or.inl aw_188⟩, trivial⟩, Or.inr ⟨1, d25_106, rfl, rfl, am_eq9 (by decide +kernel), trivial, trivial⟩, Or.inr ⟨1, d25_107, rfl, rfl, trivial, trivial, trivial⟩, Or.inr ⟨1, d25_108, rfl, rfl, rfl, trivial, trivial⟩, Or.inr ⟨2, d25_109, rfl, rfl, rfl, trivial, trivial⟩, Or.inr ⟨2, d25_111, rfl, rfl, rfl, trivial, trivial⟩, Or.inr ⟨3, d25_113, rfl, rfl, trivial, trivial, ⟨by decide, ⟨_, TX3, 4, rfl, okM_43, rfl⟩, aw_424, aw_425, aw_426⟩⟩, trivial⟩
theorem v25_3 : am_all (am_V9 25) am_l25_3 := ⟨Or.inr ⟨1, d25_116, rfl, rfl, rfl, trivial, trivial⟩, Or.inr ⟨3, d25_117, rfl, rfl, trivial, ⟨RX1, TX1, 20, rfl, by decide, Or.inl aw_191⟩, trivial⟩, Or.inr ⟨1, d25_120, rfl, rfl, rfl, trivial, trivial⟩, Or.inr ⟨2, d25_121, rfl, rfl, rfl, trivial, trivial⟩, Or.inr ⟨2, d25_123, rfl, rfl, rfl, trivial, trivial⟩, Or.inr ⟨3, d25_125, rfl, rfl, trivial, trivial, ⟨by decide, ⟨_, TX3, 4, rfl, okM_44, rfl⟩, aw_416, aw_417, aw_418⟩⟩, Or.inr ⟨1, d25_128, rfl, rfl, trivial, trivial, trivial⟩, trivial⟩
theorem v25 : ∀ pc, am_V9 25 pc ((am_G 25).2.2.2.2.1 pc) := am_all_lc am_V9_0 _ ⟨v25_0, v25_1, v25_2, v25_3, trivial⟩
theorem d26_0 : decode cX1_planDrilling 0 = .ok (.iconst 1, 1) := by decide +kernel
theorem d26_1 : decode cX1_planDrilling 1 = .ok (.istore_n 1, 1) := by decide +kernel
theorem d26_2 : decode cX1_planDrilling 2 = .ok (.iload_n 1, 1) := by decide +kernel
theorem d26_3 : decode cX1_planDrilling 3 = .ok (.aload_n 0, 1) := by decide +kernel
theorem d26_4 : decode cX1_planDrilling 4 = .ok (.getfield 114, 3) := by decide +kernel
theorem d26_7 : decode cX1_planDrilling 7 = .ok (.if_icmp .ge 32, 3) := by decide +kernel
theorem d26_10 : decode cX1_planDrilling 10 = .ok (.iload_n 1, 1) := by decide +kernel
theorem d26_11 : decode cX1_planDrilling 11 = .ok (.aload_n 0, 1) := by decide +kernel
theorem d26_12 : decode cX1_planDrilling 12 = .ok (.getfield 120, 3) := by decide +kernel
theorem d26_15 : decode cX1_planDrilling 15 = .ok (.imul, 1) := by decide +kernel
theorem d26_16 : decode cX1_planDrilling 16 = .ok (.aload_n 0, 1) := by decide +kernel
theorem d26_17 : decode cX1_planDrilling 17 = .ok (.getfield 114, 3) := by decide +kernel
theorem d26_20 : decode cX1_planDrilling 20 = .ok (.if_icmp .ge 19, 3) := by decide +kernel
theorem d26_23 : decode cX1_planDrilling 23 = .ok (.aload_n 0, 1) := by decide +kernel
theorem d26_24 : decode cX1_planDrilling 24 = .ok (.iload_n 1, 1) := by decide +kernel
theorem d26_25 : decode cX1_planDrilling 25 = .ok (.aload_n 0, 1) := by decide +kernel
theorem d26_26 : decode cX1_planDrilling 26 = .ok (.getfield 120, 3) := by decide +kernel
theorem d26_29 : decode cX1_planDrilling 29 = .ok (.imul, 1) := by decide +kernel
theorem d26_30 : decode cX1_planDrilling 30 = .ok (.invokevirtual 224, 3) := by decide +kernel
theorem d26_33 : decode cX1_planDrilling 33 = .ok (.iinc 1 1, 3) := by decide +kernel
theorem d26_36 : decode cX1_planDrilling 36 = .ok (.goto (-34), 3) := by decide +kernel
theorem d26_39 : decode cX1_planDrilling 39 = .ok (.aload_n 0, 1) := by decide +kernel
theorem d26_40 : decode cX1_planDrilling 40 = .ok (.aload_n 0, 1) := by decide +kernel
theorem d26_41 : decode cX1_planDrilling 41 = .ok (.getfield 114, 3) := by decide +kernel
theorem d26_44 : decode cX1_planDrilling 44 = .ok (.invokevirtual 224, 3) := by decide +kernel
theorem d26_47 : decode cX1_planDrilling 47 = .ok (.return_, 1) := by decide +kernel
theorem v26_0 : am_all (am_V9 26) am_l26_0 := ⟨Or.inr ⟨1, d26_0, rfl, rfl, am_eq9 (by decide +kernel), trivial, trivial⟩, Or.inr ⟨1, d26_1, rfl, rfl, rfl, trivial, trivial⟩, Or.inr ⟨1, d26_2, rfl, rfl, rfl, trivial, trivial⟩, Or.inr ⟨1, d26_3, rfl, rfl, rfl, trivial, trivial⟩, Or.inr ⟨3, d26_4, rfl, rfl, trivial, ⟨RX1, TX1, 20, rfl, by decide, Or.inl aw_206⟩, trivial⟩, Or.inr ⟨3, d26_7, rfl, rfl, rfl, trivial, trivial⟩, Or.inr ⟨1, d26_10, rfl, rfl, rfl, trivial, trivial⟩, Or.inr ⟨1, d26_11, rfl, rfl, rfl, trivial, trivial⟩, Or.inr ⟨3, d26_12, rfl, rfl, trivial, ⟨RX1, TX1, 20, rfl, by decide, Or.inl aw_207⟩, trivial⟩, Or.inr ⟨1, d26_15, rfl, rfl, trivial, trivial, trivial⟩, Or.inr ⟨1, d26_16, rfl, rfl, rfl, trivial, trivial⟩, Or.inr ⟨3, d26_17, rfl, rfl, trivial, ⟨RX1, TX1, 20, rfl, by decide, Or.inl aw_206⟩, trivial⟩, Or.inr ⟨3, d26_20, rfl, rfl, rfl, trivial, trivial⟩, Or.inr ⟨1, d26_23, rfl, rfl, rfl, trivial, trivial⟩, Or.inr ⟨1, d26_24, rfl, rfl, rfl, trivial, trivial⟩, Or.inr ⟨1, d26_25, rfl, rfl, rfl, trivial, trivial⟩, Or.inr ⟨3, d26_26, rfl, rfl, trivial, ⟨RX1, TX1, 20, rfl, by decide, Or.inl aw_207⟩, trivial⟩, Or.inr ⟨1, d26_29, rfl, rfl, trivial, trivial, trivial⟩, Or.inr ⟨3, d26_30, rfl, rfl, trivial, trivial, ⟨by decide, ⟨_, TX1, 20, rfl, okM_28, rfl⟩, aw_432, aw_434, as_28⟩⟩, Or.inr ⟨3, d26_33, rfl, rfl, ⟨rfl, by decide⟩, trivial, trivial⟩, Or.inr ⟨3, d26_36, rfl, rfl, rfl, trivial, trivial⟩, Or.inr ⟨1, d26_39, rfl, rfl, rfl, trivial, trivial⟩, Or.inr ⟨1, d26_40, rfl, rfl, rfl, trivial, trivial⟩, Or.inr ⟨3, d26_41, rfl, rfl, trivial, ⟨RX1, TX1, 20, rfl, by decide, Or.inl aw_206⟩, trivial⟩, trivial⟩
theorem v26_1 : am_all (am_V9 26) am_l26_1 := ⟨Or.inr ⟨3, d26_44, rfl, rfl, trivial, trivial, ⟨by decide, ⟨_, TX1, 20, rfl, okM_28, rfl⟩, aw_432, aw_434, as_28⟩⟩, Or.inr ⟨1, d26_47, rfl, rfl, trivial, trivial, trivial⟩, trivial⟩
theorem v26 : ∀ pc, am_V9 26 pc ((am_G 26).2.2.2.2.1 pc) := am_all_lc am_V9_0 _ ⟨v26_0, v26_1, trivial⟩
theorem d27_0 : decode cX1_planPocket 0 = .ok (.aload_n 0, 1) := by decide +kernel
theorem d27_1 : decode cX1_planPocket 1 = .ok (.aload_n 0, 1) := by decide +kernel
theorem d27_2 : decode cX1_planPocket 2 = .ok (.getfield 126, 3) := by decide +kernel
theorem d27_5 : decode cX1_planPocket 5 = .ok (.invokevirtual 224, 3) := by decide +kernel
theorem d27_8 : decode cX1_planPocket 8 = .ok (.aload_n 0, 1) := by decide +kernel
theorem d27_9 : decode cX1_planPocket 9 = .ok (.getfield 25, 3) := by decide +kernel
theorem d27_12 : decode cX1_planPocket 12 = .ok (.iconst 0, 1) := by decide +kernel
theorem d27_13 : decode cX1_planPocket 13 = .ok (.iaload, 1) := by decide +kernel
theorem d27_14 : decode cX1_planPocket 14 = .ok (.istore_n 1, 1) := by decide +kernel
theorem d27_15 : decode cX1_planPocket 15 = .ok (.aload_n 0, 1) := by decide +kernel
theorem d27_16 : decode cX1_planPocket 16 = .ok (.getfield 25, 3) := by decide +kernel
theorem d27_19 : decode cX1_planPocket 19 = .ok (.iconst 0, 1) := by decide +kernel
theorem d27_20 : decode cX1_planPocket 20 = .ok (.iaload, 1) := by decide +kernel
theorem d27_21 : decode cX1_planPocket 21 = .ok (.aload_n 0, 1) := by decide +kernel
theorem d27_22 : decode cX1_planPocket 22 = .ok (.getfield 114, 3) := by decide +kernel
theorem d27_25 : decode cX1_planPocket 25 = .ok (.iadd, 1) := by decide +kernel
theorem d27_26 : decode cX1_planPocket 26 = .ok (.istore_n 2, 1) := by decide +kernel
theorem d27_27 : decode cX1_planPocket 27 = .ok (.aload_n 0, 1) := by decide +kernel
theorem d27_28 : decode cX1_planPocket 28 = .ok (.getfield 25, 3) := by decide +kernel
theorem d27_31 : decode cX1_planPocket 31 = .ok (.iconst 1, 1) := by decide +kernel
theorem d27_32 : decode cX1_planPocket 32 = .ok (.iaload, 1) := by decide +kernel
theorem d27_33 : decode cX1_planPocket 33 = .ok (.istore_n 3, 1) := by decide +kernel
theorem d27_34 : decode cX1_planPocket 34 = .ok (.aload_n 0, 1) := by decide +kernel
theorem d27_35 : decode cX1_planPocket 35 = .ok (.getfield 25, 3) := by decide +kernel
theorem d27_38 : decode cX1_planPocket 38 = .ok (.iconst 2, 1) := by decide +kernel
theorem d27_39 : decode cX1_planPocket 39 = .ok (.iaload, 1) := by decide +kernel
theorem d27_40 : decode cX1_planPocket 40 = .ok (.aload_n 0, 1) := by decide +kernel
theorem d27_41 : decode cX1_planPocket 41 = .ok (.getfield 126, 3) := by decide +kernel
theorem d27_44 : decode cX1_planPocket 44 = .ok (.isub, 1) := by decide +kernel
theorem d27_45 : decode cX1_planPocket 45 = .ok (.istore 4, 2) := by decide +kernel
theorem d27_47 : decode cX1_planPocket 47 = .ok (.aload_n 0, 1) := by decide +kernel
theorem d27_48 : decode cX1_planPocket 48 = .ok (.getfield 34, 3) := by decide +kernel
theorem d27_51 : decode cX1_planPocket 51 = .ok (.iload_n 1, 1) := by decide +kernel
theorem d27_52 : decode cX1_planPocket 52 = .ok (.iload_n 3, 1) := by decide +kernel
theorem d27_53 : decode cX1_planPocket 53 = .ok (.iload 4, 2) := by decide +kernel
theorem d27_55 : decode cX1_planPocket 55 = .ok (.iload_n 2, 1) := by decide +kernel
theorem d27_56 : decode cX1_planPocket 56 = .ok (.iload_n 3, 1) := by decide +kernel
theorem d27_57 : decode cX1_planPocket 57 = .ok (.iload 4, 2) := by decide +kernel
theorem d27_59 : decode cX1_planPocket 59 = .ok (.invokevirtual 220, 3) := by decide +kernel
theorem d27_62 : decode cX1_planPocket 62 = .ok (.iload_n 2, 1) := by decide +kernel
theorem d27_63 : decode cX1_planPocket 63 = .ok (.istore 5, 2) := by decide +kernel
theorem d27_65 : decode cX1_planPocket 65 = .ok (.iconst 0, 1) := by decide +kernel
theorem d27_66 : decode cX1_planPocket 66 = .ok (.istore 6, 2) := by decide +kernel
theorem d27_68 : decode cX1_planPocket 68 = .ok (.iload 6, 2) := by decide +kernel
theorem d27_70 : decode cX1_planPocket 70 = .ok (.aload_n 0, 1) := by decide +kernel
theorem d27_71 : decode cX1_planPocket 71 = .ok (.getfield 120, 3) := by decide +kernel
theorem d27_74 : decode cX1_planPocket 74 = .ok (.if_icmp .ge 65, 3) := by decide +kernel
theorem d27_77 : decode cX1_planPocket 77 = .ok (.aload_n 0, 1) := by decide +kernel
theorem d27_78 : decode cX1_planPocket 78 = .ok (.getfield 34, 3) := by decide +kernel
theorem d27_81 : decode cX1_planPocket 81 = .ok (.iload 5, 2) := by decide +kernel
theorem d27_83 : decode cX1_planPocket 83 = .ok (.iload_n 3, 1) := by decide +kernel
theorem d27_84 : decode cX1_planPocket 84 = .ok (.iload 4, 2) := by decide +kernel
theorem d27_86 : decode cX1_planPocket 86 = .ok (.iload 5, 2) := by decide +kernel
theorem d27_88 : decode cX1_planPocket 88 = .ok (.iload_n 3, 1) := by decide +kernel
theorem d27_89 : decode cX1_planPocket 89 = .ok (.iconst 1, 1) := by decide +kernel
theorem d27_90 : decode cX1_planPocket 90 = .ok (.iadd, 1) := by decide +kernel
theorem d27_91 : decode cX1_planPocket 91 = .ok (.iload 4, 2) := by decide +kernel
theorem d27_93 : decode cX1_planPocket 93 = .ok (.invokevirtual 220, 3) := by decide +kernel
theorem d27_96 : decode cX1_planPocket 96 = .ok (.iinc 3 1, 3) := by decide +kernel
theorem d27_99 : decode cX1_planPocket 99 = .ok (.iload 5, 2) := by decide +kernel
theorem d27_101 : decode cX1_planPocket 101 = .ok (.iload_n 1, 1) := by decide +kernel
theorem d27_102 : decode cX1_planPocket 102 = .ok (.if_icmp .ne 7, 3) := by decide +kernel
theorem d27_105 : decode cX1_planPocket 105 = .ok (.iload_n 2, 1) := by decide +kernel
theorem d27_106 : decode cX1_planPocket 106 = .ok (.goto 4, 3) := by decide +kernel
theorem d27_109 : decode cX1_planPocket 109 = .ok (.iload_n 1, 1) := by decide +kernel
theorem d27_110 : decode cX1_planPocket 110 = .ok (.istore 7, 2) := by decide +kernel
theorem d27_112 : decode cX1_planPocket 112 = .ok (.aload_n 0, 1) := by decide +kernel
theorem d27_113 : decode cX1_planPocket 113 = .ok (.getfield 34, 3) := by decide +kernel
theorem d27_116 : decode cX1_planPocket 116 = .ok (.iload 5, 2) := by decide +kernel
theorem d27_118 : decode cX1_planPocket 118 = .ok (.iload_n 3, 1) := by decide +kernel
theorem d27_119 : decode cX1_planPocket 119 = .ok (.iload 4, 2) := by decide +kernel
theorem d27_121 : decode cX1_planPocket 121 = .ok (.iload 7, 2) := by decide +kernel
theorem d27_123 : decode cX1_planPocket 123 = .ok (.iload_n 3, 1) := by decide +kernel
theorem d27_124 : decode cX1_planPocket 124 = .ok (.iload 4, 2) := by decide +kernel
theorem d27_126 : decode cX1_planPocket 126 = .ok (.invokevirtual 220, 3) := by decide +kernel
theorem d27_129 : decode cX1_planPocket 129 = .ok (.iload 7, 2) := by decide +kernel
theorem d27_131 : decode cX1_planPocket 131 = .ok (.istore 5, 2) := by decide +kernel
theorem d27_133 : decode cX1_planPocket 133 = .ok (.iinc 6 1, 3) := by decide +kernel
theorem d27_136 : decode cX1_planPocket 136 = .ok (.goto (-68), 3) := by decide +kernel
theorem d27_139 : decode cX1_planPocket 139 = .ok (.aload_n 0, 1) := by decide +kernel
theorem d27_140 : decode cX1_planPocket 140 = .ok (.getfield 34, 3) := by decide +kernel
theorem d27_143 : decode cX1_planPocket 143 = .ok (.iload 5, 2) := by decide +kernel
theorem d27_145 : decode cX1_planPocket 145 = .ok (.iload_n 3, 1) := by decide +kernel
theorem d27_146 : decode cX1_planPocket 146 = .ok (.aload_n 0, 1) := by decide +kernel
theorem d27_147 : decode cX1_planPocket 147 = .ok (.getfield 25, 3) := by decide +kernel
theorem d27_150 : decode cX1_planPocket 150 = .ok (.iconst 2, 1) := by decide +kernel
theorem d27_151 : decode cX1_planPocket 151 = .ok (.iaload, 1) := by decide +kernel
theorem d27_152 : decode cX1_planPocket 152 = .ok (.invokevirtual 204, 3) := by decide +kernel
theorem d27_155 : decode cX1_planPocket 155 = .ok (.return_, 1) := by decide +kernel
theorem v27_0 : am_all (am_V9 27) am_l27_0 := ⟨Or.inr ⟨1, d27_0, rfl, rfl, rfl, trivial, trivial⟩, Or.inr ⟨1, d27_1, rfl, rfl, rfl, trivial, trivial⟩, Or.inr ⟨3, d27_2, rfl, rfl, trivial, ⟨RX1, TX1, 20, rfl, by decide, Or.inl aw_208⟩, trivial⟩, Or.inr ⟨3, d27_5, rfl, rfl, trivial, trivial, ⟨by decide, ⟨_, TX1, 20, rfl, okM_28, rfl⟩, aw_432, aw_434, as_28⟩⟩, Or.inr ⟨1, d27_8, rfl, rfl, rfl, trivial, trivial⟩, Or.inr ⟨3, d27_9, rfl, rfl, trivial, ⟨RX1, TX1, 20, rfl, by decide, Or.inl aw_188⟩, trivial⟩, Or.inr ⟨1, d27_12, rfl, rfl, am_eq9 (by decide +kernel), trivial, trivial⟩, Or.inr ⟨1, d27_13, rfl, rfl, trivial, trivial, trivial⟩, Or.inr ⟨1, d27_14, rfl, rfl, rfl, trivial, trivial⟩, Or.inr ⟨1, d27_15, rfl, rfl, rfl, trivial, trivial⟩, Or.inr ⟨3, d27_16, rfl, rfl, trivial, ⟨RX1, TX1, 20, rfl, by decide, Or.inl aw_188⟩, trivial⟩, Or.inr ⟨1, d27_19, rfl, rfl, am_eq9 (by decide +kernel), trivial, trivial⟩, Or.inr ⟨1, d27_20, rfl, rfl, trivial, trivial, trivial⟩, Or.inr ⟨1, d27_21, rfl, rfl, rfl, trivial, trivial⟩, Or.inr ⟨3, d27_22, rfl, rfl, trivial, ⟨RX1, TX1, 20, rfl, by decide, Or.inl aw_206⟩, trivial⟩, Or.inr ⟨1, d27_25, rfl, rfl, trivial, trivial, trivial⟩, Or.inr ⟨1, d27_26, rfl, rfl, rfl, trivial, trivial⟩, Or.inr ⟨1, d27_27, rfl, rfl, rfl, trivial, trivial⟩, Or.inr ⟨3, d27_28, rfl, rfl, trivial, ⟨RX1, TX1, 20, rfl, by decide, Or.inl aw_188⟩, trivial⟩, Or.inr ⟨1, d27_31, rfl, rfl, am_eq9 (by decide +kernel), trivial, trivial⟩, Or.inr ⟨1, d27_32, rfl, rfl, trivial, trivial, trivial⟩, Or.inr ⟨1, d27_33, rfl, rfl, rfl, trivial, trivial⟩, Or.inr ⟨1, d27_34, rfl, rfl, rfl, trivial, trivial⟩, Or.inr ⟨3, d27_35, rfl, rfl, trivial, ⟨RX1, TX1, 20, rfl, by decide, Or.inl aw_188⟩, trivial⟩, trivial⟩
theorem v27_1 : am_all (am_V9 27) am_l27_1 := ⟨Or.inr ⟨1, d27_38, rfl, rfl, am_eq9 (by decide +kernel), trivial, trivial⟩, Or.inr ⟨1, d27_39, rfl, rfl, trivial, trivial, trivial⟩, Or.inr ⟨1, d27_40, rfl, rfl, rfl, trivial, trivial⟩, Or.inr ⟨3, d27_41, rfl, rfl, trivial, ⟨RX1, TX1, 20, rfl, by decide, Or.inl aw_208⟩, trivial⟩, Or.inr ⟨1, d27_44, rfl, rfl, trivial, trivial, trivial⟩, Or.inr ⟨2, d27_45, rfl, rfl, rfl, trivial, trivial⟩, Or.inr ⟨1, d27_47, rfl, rfl, rfl, trivial, trivial⟩, Or.inr ⟨3, d27_48, rfl, rfl, trivial, ⟨RX1, TX1, 20, rfl, by decide, Or.inl aw_191⟩, trivial⟩, Or.inr ⟨1, d27_51, rfl, rfl, rfl, trivial, trivial⟩, Or.inr ⟨1, d27_52, rfl, rfl, rfl, trivial, trivial⟩, Or.inr ⟨2, d27_53, rfl, rfl, rfl, trivial, trivial⟩, Or.inr ⟨1, d27_55, rfl, rfl, rfl, trivial, trivial⟩, Or.inr ⟨1, d27_56, rfl, rfl, rfl, trivial, trivial⟩, Or.inr ⟨2, d27_57, rfl, rfl, rfl, trivial, trivial⟩, Or.inr ⟨3, d27_59, rfl, rfl, trivial, trivial, ⟨by decide, ⟨_, TX3, 4, rfl, okM_43, rfl⟩, aw_424, aw_425, aw_426⟩⟩, Or.inr ⟨1, d27_62, rfl, rfl, rfl, trivial, trivial⟩, Or.inr ⟨2, d27_63, rfl, rfl, rfl, trivial, trivial⟩, Or.inr ⟨1, d27_65, rfl, rfl, am_eq9 (by decide +kernel), trivial, trivial⟩, Or.inr ⟨2, d27_66, rfl, rfl, rfl, trivial, trivial⟩, Or.inr ⟨2, d27_68, rfl, rfl, rfl, trivial, trivial⟩, Or.inr ⟨1, d27_70, rfl, rfl, rfl, trivial, trivial⟩, Or.inr ⟨3, d27_71, rfl, rfl, trivial, ⟨RX1, TX1, 20, rfl, by decide, Or.inl aw_207⟩, trivial⟩, Or.inr ⟨3, d27_74, rfl, rfl, rfl, trivial, trivial⟩, Or.inr ⟨1, d27_77, rfl, rfl, rfl, trivial, trivial⟩, trivial⟩
theorem v27_2 : am_all (am_V9 27) am_l27_2 := ⟨Or.inr ⟨3, d27_78, rfl, rfl, trivial, ⟨RX1, TX1, 20, rfl, by decide, Or.inl aw_191⟩, trivial⟩, Or.inr ⟨2, d27_81, rfl, rfl, rfl, trivial, trivial⟩, Or.inr ⟨1, d27_83, rfl, rfl, rfl, trivial, trivial⟩, Or.inr ⟨2, d27_84, rfl, rfl, rfl, trivial, trivial⟩, Or.inr ⟨2, d27_86, rfl, rfl, rfl, trivial, trivial⟩, Or.inr ⟨1, d27_88, rfl, rfl, rfl, trivial, trivial⟩, Or.inr ⟨1, d27_89, rfl, rfl, am_eq9 (by decide +kernel), trivial, trivial⟩, Or.inr ⟨1, d27_90, rfl, rfl, trivial, trivial, trivial⟩, Or.inr ⟨2, d27_91, rfl, rfl, rfl, trivial, trivial⟩, Or.inr ⟨3, d27_93, rfl, rfl, trivial, trivial, ⟨by decide, ⟨_, TX3, 4, rfl, okM_43, rfl⟩, aw_424, aw_425, aw_426⟩⟩, Or.inr ⟨3, d27_96, rfl, rfl, ⟨rfl, by decide⟩, trivial, trivial⟩, Or.inr ⟨2, d27_99, rfl, rfl, rfl, trivial, trivial⟩, Or.inr ⟨1, d27_101, rfl, rfl, rfl, trivial, trivial⟩, Or.inr ⟨3, d27_102, rfl, rfl, rfl, trivial, trivial⟩, Or.inr ⟨1, d27_105, rfl, rfl, rfl, trivial, trivial⟩, Or.inr ⟨3, d27_106, rfl, rfl, rfl, trivial, trivial⟩, Or.inr ⟨1, d27_109, rfl, rfl, rfl, trivial, trivial⟩, Or.inr ⟨2, d27_110, rfl, rfl, rfl, trivial, trivial⟩, Or.inr ⟨1, d27_112, rfl, rfl, rfl, trivial, trivial⟩, Or.inr ⟨3, d27_113, rfl, rfl, trivial, ⟨RX1, TX1, 20, rfl, by decide, Or.inl aw_191⟩, trivial⟩, Or.inr ⟨2, d27_116, rfl, rfl, rfl, trivial, trivial⟩, Or.inr ⟨1, d27_118, rfl, rfl, rfl, trivial, trivial⟩, Or.inr ⟨2, d27_119, rfl, rfl, rfl, trivial, trivial⟩, Or.inr ⟨2, d27_121, rfl, rfl, rfl, trivial, trivial⟩, trivial⟩
theorem v27_3 : am_all (am_V9 27) am_l27_3 := ⟨Or.inr ⟨1, d27_123, rfl, rfl, rfl, trivial, trivial⟩, Or.inr ⟨2, d27_124, rfl, rfl, rfl, trivial, trivial⟩, Or.inr ⟨3, d27_126, rfl, rfl, trivial, trivial, ⟨by decide, ⟨_, TX3, 4, rfl, okM_43, rfl⟩, aw_424, aw_425, aw_426⟩⟩, Or.inr ⟨2, d27_129, rfl, rfl, rfl, trivial, trivial⟩, Or.inr ⟨2, d27_131, rfl, rfl, rfl, trivial, trivial⟩, Or.inr ⟨3, d27_133, rfl, rfl, ⟨rfl, by decide⟩, trivial, trivial⟩, Or.inr ⟨3, d27_136, rfl, rfl, rfl, trivial, trivial⟩, Or.inr ⟨1, d27_139, rfl, rfl, rfl, trivial, trivial⟩, Or.inr ⟨3, d27_140, rfl, rfl, trivial, ⟨RX1, TX1, 20, rfl, by decide, Or.inl aw_191⟩, trivial⟩, Or.inr ⟨2, d27_143, rfl, rfl, rfl, trivial, trivial⟩, Or.inr ⟨1, d27_145, rfl, rfl, rfl, trivial, trivial⟩, Or.inr ⟨1, d27_146, rfl, rfl, rfl, trivial, trivial⟩, Or.inr ⟨3, d27_147, rfl, rfl, trivial, ⟨RX1, TX1, 20, rfl, by decide, Or.inl aw_188⟩, trivial⟩, Or.inr ⟨1, d27_150, rfl, rfl, am_eq9 (by decide +kernel), trivial, trivial⟩, Or.inr ⟨1, d27_151, rfl, rfl, trivial, trivial, trivial⟩, Or.inr ⟨3, d27_152, rfl, rfl, trivial, trivial, ⟨by decide, ⟨_, TX3, 4, rfl, okM_44, rfl⟩, aw_416, aw_417, aw_418⟩⟩, Or.inr ⟨1, d27_155, rfl, rfl, trivial, trivial, trivial⟩, trivial⟩
theorem v27 : ∀ pc, am_V9 27 pc ((am_G 27).2.2.2.2.1 pc) := am_all_lc am_V9_0 _ ⟨v27_0, v27_1, v27_2, v27_3, trivial⟩
theorem d28_0 : decode cX1_addCutDown 0 = .ok (.aload_n 0, 1) := by decide +kernel
theorem d28_1 : decode cX1_addCutDown 1 = .ok (.getfield 34, 3) := by decide +kernel
theorem d28_4 : decode cX1_addCutDown 4 = .ok (.aload_n 0, 1) := by decide +kernel
theorem d28_5 : decode cX1_addCutDown 5 = .ok (.getfield 25, 3) := by decide +kernel
theorem d28_8 : decode cX1_addCutDown 8 = .ok (.iconst 0, 1) := by decide +kernel
theorem d28_9 : decode cX1_addCutDown 9 = .ok (.iaload, 1) := by decide +kernel
theorem d28_10 : decode cX1_addCutDown 10 = .ok (.aload_n 0, 1) := by decide +kernel
theorem d28_11 : decode cX1_addCutDown 11 = .ok (.getfield 25, 3) := by decide +kernel
theorem d28_14 : decode cX1_addCutDown 14 = .ok (.iconst 1, 1) := by decide +kernel
theorem d28_15 : decode cX1_addCutDown 15 = .ok (.iaload, 1) := by decide +kernel
theorem d28_16 : decode cX1_addCutDown 16 = .ok (.aload_n 0, 1) := by decide +kernel
theorem d28_17 : decode cX1_addCutDown 17 = .ok (.getfield 25, 3) := by decide +kernel
theorem d28_20 : decode cX1_addCutDown 20 = .ok (.iconst 2, 1) := by decide +kernel
theorem d28_21 : decode cX1_addCutDown 21 = .ok (.iaload, 1) := by decide +kernel
theorem d28_22 : decode cX1_addCutDown 22 = .ok (.aload_n 0, 1) := by decide +kernel
theorem d28_23 : decode cX1_addCutDown 23 = .ok (.getfield 25, 3) := by decide +kernel
theorem d28_26 : decode cX1_addCutDown 26 = .ok (.iconst 0, 1) := by decide +kernel
theorem d28_27 : decode cX1_addCutDown 27 = .ok (.iaload, 1) := by decide +kernel
theorem d28_28 : decode cX1_addCutDown 28 = .ok (.aload_n 0, 1) := by decide +kernel
theorem d28_29 : decode cX1_addCutDown 29 = .ok (.getfield 25, 3) := by decide +kernel
theorem d28_32 : decode cX1_addCutDown 32 = .ok (.iconst 1, 1) := by decide +kernel
theorem d28_33 : decode cX1_addCutDown 33 = .ok (.iaload, 1) := by decide +kernel
theorem d28_34 : decode cX1_addCutDown 34 = .ok (.aload_n 0, 1) := by decide +kernel
theorem d28_35 : decode cX1_addCutDown 35 = .ok (.getfield 25, 3) := by decide +kernel
theorem d28_38 : decode cX1_addCutDown 38 = .ok (.iconst 2, 1) := by decide +kernel
theorem d28_39 : decode cX1_addCutDown 39 = .ok (.iaload, 1) := by decide +kernel
theorem d28_40 : decode cX1_addCutDown 40 = .ok (.iload_n 1, 1) := by decide +kernel
theorem d28_41 : decode cX1_addCutDown 41 = .ok (.isub, 1) := by decide +kernel
theorem d28_42 : decode cX1_addCutDown 42 = .ok (.invokevirtual 220, 3) := by decide +kernel
theorem d28_45 : decode cX1_addCutDown 45 = .ok (.return_, 1) := by decide +kernel
theorem v28_0 : am_all (am_V9 28) am_l28_0 := ⟨Or.inr ⟨1, d28_0, rfl, rfl, rfl, trivial, trivial⟩, Or.inr ⟨3, d28_1, rfl, rfl, trivial, ⟨RX1, TX1, 20, rfl, by decide, Or.inl aw_191⟩, trivial⟩, Or.inr ⟨1, d28_4, rfl, rfl, rfl, trivial, trivial⟩, Or.inr ⟨3, d28_5, rfl, rfl, trivial, ⟨RX1, TX1, 20, rfl, by decide, Or.inl aw_188⟩, trivial⟩, Or.inr ⟨1, d28_8, rfl, rfl, am_eq9 (by decide +kernel), trivial, trivial⟩, Or.inr ⟨1, d28_9, rfl, rfl, trivial, trivial, trivial⟩, Or.inr ⟨1, d28_10, rfl, rfl, rfl, trivial, trivial⟩, Or.inr ⟨3, d28_11, rfl, rfl, trivial, ⟨RX1, TX1, 20, rfl, by decide, Or.inl aw_188⟩, trivial⟩, Or.inr ⟨1, d28_14, rfl, rfl, am_eq9 (by decide +kernel), trivial, trivial⟩, Or.inr ⟨1, d28_15, rfl, rfl, trivial, trivial, trivial⟩, Or.inr ⟨1, d28_16, rfl, rfl, rfl, trivial, trivial⟩, Or.inr ⟨3, d28_17, rfl, rfl, trivial, ⟨RX1, TX1, 20, rfl, by decide, Or.inl aw_188⟩, trivial⟩, Or.inr ⟨1, d28_20, rfl, rfl, am_eq9 (by decide +kernel), trivial, trivial⟩, Or.inr ⟨1, d28_21, rfl, rfl, trivial, trivial, trivial⟩, Or.inr ⟨1, d28_22, rfl, rfl, rfl, trivial, trivial⟩, Or.inr ⟨3, d28_23, rfl, rfl, trivial, ⟨RX1, TX1, 20, rfl, by decide, Or.inl aw_188⟩, trivial⟩, Or.inr ⟨1, d28_26, rfl, rfl, am_eq9 (by decide +kernel), trivial, trivial⟩, Or.inr ⟨1, d28_27, rfl, rfl, trivial, trivial, trivial⟩, Or.inr ⟨1, d28_28, rfl, rfl, rfl, trivial, trivial⟩, Or.inr ⟨3, d28_29, rfl, rfl, trivial, ⟨RX1, TX1, 20, rfl, by decide, Or.inl aw_188⟩, trivial⟩, Or.inr ⟨1, d28_32, rfl, rfl, am_eq9 (by decide +kernel), trivial, trivial⟩, Or.inr ⟨1, d28_33, rfl, rfl, trivial, trivial, trivial⟩, Or.inr ⟨1, d28_34, rfl, rfl, rfl, trivial, trivial⟩, Or.inr ⟨3, d28_35, rfl, rfl, trivial, ⟨RX1, TX1, 20, rfl, by decide, Or.inl aw_188⟩, trivial⟩, trivial⟩
theorem v28_1 : am_all (am_V9 28) am_l28_1 := ⟨Or.inr ⟨1, d28_38, rfl, rfl, am_eq9 (by decide +kernel), trivial, trivial⟩, Or.inr ⟨1, d28_39, rfl, rfl, trivial, trivial, trivial⟩, Or.inr ⟨1, d28_40, rfl, rfl, rfl, trivial, trivial⟩, Or.inr ⟨1, d28_41, rfl, rfl, trivial, trivial, trivial⟩, Or.inr ⟨3, d28_42, rfl, rfl, trivial, trivial, ⟨by decide, ⟨_, TX3, 4, rfl, okM_43, rfl⟩, aw_424, aw_425, aw_426⟩⟩, Or.inr ⟨1, d28_45, rfl, rfl, trivial, trivial, trivial⟩, trivial⟩
theorem v28 : ∀ pc, am_V9 28 pc ((am_G 28).2.2.2.2.1 pc) := am_all_lc am_V9_0 _ ⟨v28_0, v28_1, trivial⟩
theorem d29_0 : decode cX1_pathMeets 0 = .ok (.aload_n 0, 1) := by decide +kernel
theorem d29_1 : decode cX1_pathMeets 1 = .ok (.getfield 62, 3) := by decide +kernel
theorem d29_4 : decode cX1_pathMeets 4 = .ok (.iconst (-1), 1) := by decide +kernel
theorem d29_5 : decode cX1_pathMeets 5 = .ok (.if_icmp .ne 5, 3) := by decide +kernel
theorem d29_8 : decode cX1_pathMeets 8 = .ok (.iconst 0, 1) := by decide +kernel
theorem d29_9 : decode cX1_pathMeets 9 = .ok (.ireturn, 1) := by decide +kernel
theorem d29_10 : decode cX1_pathMeets 10 = .ok (.iconst 0, 1) := by decide +kernel
theorem d29_11 : decode cX1_pathMeets 11 = .ok (.istore_n 2, 1) := by decide +kernel
theorem d29_12 : decode cX1_pathMeets 12 = .ok (.iload_n 2, 1) := by decide +kernel
theorem d29_13 : decode cX1_pathMeets 13 = .ok (.aload_n 0, 1) := by decide +kernel
theorem d29_14 : decode cX1_pathMeets 14 = .ok (.getfield 34, 3) := by decide +kernel
theorem d29_17 : decode cX1_pathMeets 17 = .ok (.getfield 228, 3) := by decide +kernel
theorem d29_20 : decode cX1_pathMeets 20 = .ok (.if_icmp .ge 54, 3) := by decide +kernel
theorem d29_23 : decode cX1_pathMeets 23 = .ok (.aload_n 0, 1) := by decide +kernel
theorem d29_24 : decode cX1_pathMeets 24 = .ok (.getfield 34, 3) := by decide +kernel
theorem d29_27 : decode cX1_pathMeets 27 = .ok (.iload_n 2, 1) := by decide +kernel
theorem d29_28 : decode cX1_pathMeets 28 = .ok (.invokevirtual 231, 3) := by decide +kernel
theorem d29_31 : decode cX1_pathMeets 31 = .ok (.istore_n 3, 1) := by decide +kernel
theorem d29_32 : decode cX1_pathMeets 32 = .ok (.iconst 1, 1) := by decide +kernel
theorem d29_33 : decode cX1_pathMeets 33 = .ok (.istore 4, 2) := by decide +kernel
theorem d29_35 : decode cX1_pathMeets 35 = .ok (.iload 4, 2) := by decide +kernel
theorem d29_37 : decode cX1_pathMeets 37 = .ok (.iload_n 3, 1) := by decide +kernel
theorem d29_38 : decode cX1_pathMeets 38 = .ok (.if_icmp .gt 30, 3) := by decide +kernel
theorem d29_41 : decode cX1_pathMeets 41 = .ok (.aload_n 0, 1) := by decide +kernel
theorem d29_42 : decode cX1_pathMeets 42 = .ok (.iload_n 2, 1) := by decide +kernel
theorem d29_43 : decode cX1_pathMeets 43 = .ok (.iload 4, 2) := by decide +kernel
theorem d29_45 : decode cX1_pathMeets 45 = .ok (.iload_n 3, 1) := by decide +kernel
theorem d29_46 : decode cX1_pathMeets 46 = .ok (.invokevirtual 234, 3) := by decide +kernel
theorem d29_49 : decode cX1_pathMeets 49 = .ok (.aload_n 1, 1) := by decide +kernel
theorem d29_50 : decode cX1_pathMeets 50 = .ok (.aload_n 0, 1) := by decide +kernel
theorem d29_51 : decode cX1_pathMeets 51 = .ok (.getfield 41, 3) := by decide +kernel
theorem d29_54 : decode cX1_pathMeets 54 = .ok (.invokevirtual 237, 3) := by decide +kernel
theorem d29_57 : decode cX1_pathMeets 57 = .ok (.ifCond .eq 5, 3) := by decide +kernel
theorem d29_60 : decode cX1_pathMeets 60 = .ok (.iconst 1, 1) := by decide +kernel
theorem d29_61 : decode cX1_pathMeets 61 = .ok (.ireturn, 1) := by decide +kernel
theorem d29_62 : decode cX1_pathMeets 62 = .ok (.iinc 4 1, 3) := by decide +kernel
theorem d29_65 : decode cX1_pathMeets 65 = .ok (.goto (-30), 3) := by decide +kernel
theorem d29_68 : decode cX1_pathMeets 68 = .ok (.iinc 2 1, 3) := by decide +kernel
theorem d29_71 : decode cX1_pathMeets 71 = .ok (.goto (-59), 3) := by decide +kernel
theorem d29_74 : decode cX1_pathMeets 74 = .ok (.iconst 0, 1) := by decide +kernel
theorem d29_75 : decode cX1_pathMeets 75 = .ok (.ireturn, 1) := by decide +kernel
theorem v29_0 : am_all (am_V9 29) am_l29_0 := ⟨Or.inr ⟨1, d29_0, rfl, rfl, rfl, trivial, trivial⟩, Or.inr ⟨3, d29_1, rfl, rfl, trivial, ⟨RX1, TX1, 20, rfl, by decide, Or.inl aw_197⟩, trivial⟩, Or.inr ⟨1, d29_4, rfl, rfl, am_eq9 (by decide +kernel), trivial, trivial⟩, Or.inr ⟨3, d29_5, rfl, rfl, rfl, trivial, trivial⟩, Or.inr ⟨1, d29_8, rfl, rfl, am_eq9 (by decide +kernel), trivial, trivial⟩, Or.inr ⟨1, d29_9, rfl, rfl, trivial, trivial, trivial⟩, Or.inr ⟨1, d29_10, rfl, rfl, am_eq9 (by decide +kernel), trivial, trivial⟩, Or.inr ⟨1, d29_11, rfl, rfl, rfl, trivial, trivial⟩, Or.inr ⟨1, d29_12, rfl, rfl, rfl, trivial, trivial⟩, Or.inr ⟨1, d29_13, rfl, rfl, rfl, trivial, trivial⟩, Or.inr ⟨3, d29_14, rfl, rfl, trivial, ⟨RX1, TX1, 20, rfl, by decide, Or.inl aw_191⟩, trivial⟩, Or.inr ⟨3, d29_17, rfl, rfl, trivial, ⟨RX3, TX3, 4, rfl, by decide, Or.inl aw_140⟩, trivial⟩, Or.inr ⟨3, d29_20, rfl, rfl, rfl, trivial, trivial⟩, Or.inr ⟨1, d29_23, rfl, rfl, rfl, trivial, trivial⟩, Or.inr ⟨3, d29_24, rfl, rfl, trivial, ⟨RX1, TX1, 20, rfl, by decide, Or.inl aw_191⟩, trivial⟩, Or.inr ⟨1, d29_27, rfl, rfl, rfl, trivial, trivial⟩, Or.inr ⟨3, d29_28, rfl, rfl, trivial, trivial, ⟨by decide, ⟨_, TX3, 4, rfl, okM_46, rfl⟩, aw_463, aw_464, aw_465⟩⟩, Or.inr ⟨1, d29_31, rfl, rfl, rfl, trivial, trivial⟩, Or.inr ⟨1, d29_32, rfl, rfl, am_eq9 (by decide +kernel), trivial, trivial⟩, Or.inr ⟨2, d29_33, rfl, rfl, rfl, trivial, trivial⟩, Or.inr ⟨2, d29_35, rfl, rfl, rfl, trivial, trivial⟩, Or.inr ⟨1, d29_37, rfl, rfl, rfl, trivial, trivial⟩, Or.inr ⟨3, d29_38, rfl, rfl, rfl, trivial, trivial⟩, Or.inr ⟨1, d29_41, rfl, rfl, rfl, trivial, trivial⟩, trivial⟩
theorem v29_1 : am_all (am_V9 29) am_l29_1 := ⟨Or.inr ⟨1, d29_42, rfl, rfl, rfl, trivial, trivial⟩, Or.inr ⟨2, d29_43, rfl, rfl, rfl, trivial, trivial⟩, Or.inr ⟨1, d29_45, rfl, rfl, rfl, trivial, trivial⟩, Or.inr ⟨3, d29_46, rfl, rfl, trivial, trivial, ⟨by decide, ⟨_, TX1, 20, rfl, okM_31, rfl⟩, aw_474, aw_476, as_31⟩⟩, Or.inr ⟨1, d29_49, rfl, rfl, rfl, trivial, trivial⟩, Or.inr ⟨1, d29_50, rfl, rfl, rfl, trivial, trivial⟩, Or.inr ⟨3, d29_51, rfl, rfl, trivial, ⟨RX1, TX1, 20, rfl, by decide, Or.inl aw_192⟩, trivial⟩, Or.inr ⟨3, d29_54, rfl, rfl, trivial, trivial, ⟨by decide, ⟨_, TX0, 1, rfl, okM_8, rfl⟩, aw_486, aw_487, aw_488⟩⟩, Or.inr ⟨3, d29_57, rfl, rfl, rfl, trivial, trivial⟩, Or.inr ⟨1, d29_60, rfl, rfl, am_eq9 (by decide +kernel), trivial, trivial⟩, Or.inr ⟨1, d29_61, rfl, rfl, trivial, trivial, trivial⟩, Or.inr ⟨3, d29_62, rfl, rfl, ⟨rfl, by decide⟩, trivial, trivial⟩, Or.inr ⟨3, d29_65, rfl, rfl, rfl, trivial, trivial⟩, Or.inr ⟨3, d29_68, rfl, rfl, ⟨rfl, by decide⟩, trivial, trivial⟩, Or.inr ⟨3, d29_71, rfl, rfl, rfl, trivial, trivial⟩, Or.inr ⟨1, d29_74, rfl, rfl, am_eq9 (by decide +kernel), trivial, trivial⟩, Or.inr ⟨1, d29_75, rfl, rfl, trivial, trivial, trivial⟩, trivial⟩
theorem v29 : ∀ pc, am_V9 29 pc ((am_G 29).2.2.2.2.1 pc) := am_all_lc am_V9_0 _ ⟨v29_0, v29_1, trivial⟩
theorem d30_0 : decode cX1_aimCutter 0 = .ok (.aload_n 0, 1) := by decide +kernel
theorem d30_1 : decode cX1_aimCutter 1 = .ok (.getfield 62, 3) := by decide +kernel
theorem d30_4 : decode cX1_aimCutter 4 = .ok (.iconst 0, 1) := by decide +kernel
theorem d30_5 : decode cX1_aimCutter 5 = .ok (.bipush 11, 2) := by decide +kernel
theorem d30_7 : decode cX1_aimCutter 7 = .ok (.invokestatic 151, 3) := by decide +kernel
theorem d30_10 : decode cX1_aimCutter 10 = .ok (.ifCond .eq 40, 3) := by decide +kernel
theorem d30_13 : decode cX1_aimCutter 13 = .ok (.aload_n 0, 1) := by decide +kernel
theorem d30_14 : decode cX1_aimCutter 14 = .ok (.getfield 41, 3) := by decide +kernel
theorem d30_17 : decode cX1_aimCutter 17 = .ok (.aload_n 0, 1) := by decide +kernel
theorem d30_18 : decode cX1_aimCutter 18 = .ok (.getfield 45, 3) := by decide +kernel
theorem d30_21 : decode cX1_aimCutter 21 = .ok (.getfield 159, 3) := by decide +kernel
theorem d30_24 : decode cX1_aimCutter 24 = .ok (.getfield 241, 3) := by decide +kernel
theorem d30_27 : decode cX1_aimCutter 27 = .ok (.aload_n 0, 1) := by decide +kernel
theorem d30_28 : decode cX1_aimCutter 28 = .ok (.getfield 62, 3) := by decide +kernel
theorem d30_31 : decode cX1_aimCutter 31 = .ok (.caload, 1) := by decide +kernel
theorem d30_32 : decode cX1_aimCutter 32 = .ok (.aload_n 0, 1) := by decide +kernel
theorem d30_33 : decode cX1_aimCutter 33 = .ok (.getfield 45, 3) := by decide +kernel
theorem d30_36 : decode cX1_aimCutter 36 = .ok (.getfield 159, 3) := by decide +kernel
theorem d30_39 : decode cX1_aimCutter 39 = .ok (.getfield 245, 3) := by decide +kernel
theorem d30_42 : decode cX1_aimCutter 42 = .ok (.aload_n 0, 1) := by decide +kernel
theorem d30_43 : decode cX1_aimCutter 43 = .ok (.getfield 62, 3) := by decide +kernel
theorem d30_46 : decode cX1_aimCutter 46 = .ok (.iaload, 1) := by decide +kernel
theorem d30_47 : decode cX1_aimCutter 47 = .ok (.invokevirtual 248, 3) := by decide +kernel
theorem d30_50 : decode cX1_aimCutter 50 = .ok (.return_, 1) := by decide +kernel
theorem v30_0 : am_all (am_V9 30) am_l30_0 := ⟨Or.inr ⟨1, d30_0, rfl, rfl, rfl, trivial, trivial⟩, Or.inr ⟨3, d30_1, rfl, rfl, trivial, ⟨RX1, TX1, 20, rfl, by decide, Or.inl aw_197⟩, trivial⟩, Or.inr ⟨1, d30_4, rfl, rfl, am_eq9 (by decide +kernel), trivial, trivial⟩, Or.inr ⟨2, d30_5, rfl, rfl, am_eq9 (by decide +kernel), trivial, trivial⟩, Or.inr ⟨3, d30_7, rfl, rfl, trivial, trivial, Or.inr ⟨by decide, okM_84, aw_280, Or.inr ⟨rfl, _, an_8⟩⟩⟩, Or.inr ⟨3, d30_10, rfl, rfl, rfl, trivial, trivial⟩, Or.inr ⟨1, d30_13, rfl, rfl, rfl, trivial, trivial⟩, Or.inr ⟨3, d30_14, rfl, rfl, trivial, ⟨RX1, TX1, 20, rfl, by decide, Or.inl aw_192⟩, trivial⟩, Or.inr ⟨1, d30_17, rfl, rfl, rfl, trivial, trivial⟩, Or.inr ⟨3, d30_18, rfl, rfl, trivial, ⟨RX1, TX1, 20, rfl, by decide, Or.inl aw_181⟩, trivial⟩, Or.inr ⟨3, d30_21, rfl, rfl, trivial, ⟨RX2, TX2, 4, rfl, by decide, Or.inl aw_103⟩, trivial⟩, Or.inr ⟨3, d30_24, rfl, rfl, trivial, ⟨RX5, TX5, 3, rfl, by decide, Or.inl aw_46⟩, trivial⟩, Or.inr ⟨1, d30_27, rfl, rfl, rfl, trivial, trivial⟩, Or.inr ⟨3, d30_28, rfl, rfl, trivial, ⟨RX1, TX1, 20, rfl, by decide, Or.inl aw_197⟩, trivial⟩, Or.inr ⟨1, d30_31, rfl, rfl, trivial, trivial, trivial⟩, Or.inr ⟨1, d30_32, rfl, rfl, rfl, trivial, trivial⟩, Or.inr ⟨3, d30_33, rfl, rfl, trivial, ⟨RX1, TX1, 20, rfl, by decide, Or.inl aw_181⟩, trivial⟩, Or.inr ⟨3, d30_36, rfl, rfl, trivial, ⟨RX2, TX2, 4, rfl, by decide, Or.inl aw_103⟩, trivial⟩, Or.inr ⟨3, d30_39, rfl, rfl, trivial, ⟨RX5, TX5, 3, rfl, by decide, Or.inl aw_48⟩, trivial⟩, Or.inr ⟨1, d30_42, rfl, rfl, rfl, trivial, trivial⟩, Or.inr ⟨3, d30_43, rfl, rfl, trivial, ⟨RX1, TX1, 20, rfl, by decide, Or.inl aw_197⟩, trivial⟩, Or.inr ⟨1, d30_46, rfl, rfl, trivial, trivial, trivial⟩, Or.inr ⟨3, d30_47, rfl, rfl, trivial, trivial, ⟨by decide, ⟨_, TX6, 5, rfl, okM_62, rfl⟩, aw_444, aw_445, aw_446⟩⟩, Or.inr ⟨1, d30_50, rfl, rfl, trivial, trivial, trivial⟩, trivial⟩
theorem v30 : ∀ pc, am_V9 30 pc ((am_G 30).2.2.2.2.1 pc) := am_all_lc am_V9_0 _ ⟨v30_0, trivial⟩
theorem d31_0 : decode cX1_moveReach 0 = .ok (.aload_n 0, 1) := by decide +kernel
theorem d31_1 : decode cX1_moveReach 1 = .ok (.getfield 41, 3) := by decide +kernel
theorem d31_4 : decode cX1_moveReach 4 = .ok (.aload_n 0, 1) := by decide +kernel
theorem d31_5 : decode cX1_moveReach 5 = .ok (.getfield 34, 3) := by decide +kernel
theorem d31_8 : decode cX1_moveReach 8 = .ok (.iload_n 1, 1) := by decide +kernel
theorem d31_9 : decode cX1_moveReach 9 = .ok (.iconst 0, 1) := by decide +kernel
theorem d31_10 : decode cX1_moveReach 10 = .ok (.iload_n 2, 1) := by decide +kernel
theorem d31_11 : decode cX1_moveReach 11 = .ok (.iload_n 3, 1) := by decide +kernel
theorem d31_12 : decode cX1_moveReach 12 = .ok (.invokevirtual 252, 3) := by decide +kernel
theorem d31_15 : decode cX1_moveReach 15 = .ok (.aload_n 0, 1) := by decide +kernel
theorem d31_16 : decode cX1_moveReach 16 = .ok (.getfield 34, 3) := by decide +kernel
theorem d31_19 : decode cX1_moveReach 19 = .ok (.iload_n 1, 1) := by decide +kernel
theorem d31_20 : decode cX1_moveReach 20 = .ok (.iconst 1, 1) := by decide +kernel
theorem d31_21 : decode cX1_moveReach 21 = .ok (.iload_n 2, 1) := by decide +kernel
theorem d31_22 : decode cX1_moveReach 22 = .ok (.iload_n 3, 1) := by decide +kernel
theorem d31_23 : decode cX1_moveReach 23 = .ok (.invokevirtual 252, 3) := by decide +kernel
theorem d31_26 : decode cX1_moveReach 26 = .ok (.aload_n 0, 1) := by decide +kernel
theorem d31_27 : decode cX1_moveReach 27 = .ok (.getfield 34, 3) := by decide +kernel
theorem d31_30 : decode cX1_moveReach 30 = .ok (.iload_n 1, 1) := by decide +kernel
theorem d31_31 : decode cX1_moveReach 31 = .ok (.iconst 2, 1) := by decide +kernel
theorem d31_32 : decode cX1_moveReach 32 = .ok (.iload_n 2, 1) := by decide +kernel
theorem d31_33 : decode cX1_moveReach 33 = .ok (.iload_n 3, 1) := by decide +kernel
theorem d31_34 : decode cX1_moveReach 34 = .ok (.invokevirtual 252, 3) := by decide +kernel
theorem d31_37 : decode cX1_moveReach 37 = .ok (.invokevirtual 256, 3) := by decide +kernel
theorem d31_40 : decode cX1_moveReach 40 = .ok (.return_, 1) := by decide +kernel
theorem v31_0 : am_all (am_V9 31) am_l31_0 := ⟨Or.inr ⟨1, d31_0, rfl, rfl, rfl, trivial, trivial⟩, Or.inr ⟨3, d31_1, rfl, rfl, trivial, ⟨RX1, TX1, 20, rfl, by decide, Or.inl aw_192⟩, trivial⟩, Or.inr ⟨1, d31_4, rfl, rfl, rfl, trivial, trivial⟩, Or.inr ⟨3, d31_5, rfl, rfl, trivial, ⟨RX1, TX1, 20, rfl, by decide, Or.inl aw_191⟩, trivial⟩, Or.inr ⟨1, d31_8, rfl, rfl, rfl, trivial, trivial⟩, Or.inr ⟨1, d31_9, rfl, rfl, am_eq9 (by decide +kernel), trivial, trivial⟩, Or.inr ⟨1, d31_10, rfl, rfl, rfl, trivial, trivial⟩, Or.inr ⟨1, d31_11, rfl, rfl, rfl, trivial, trivial⟩, Or.inr ⟨3, d31_12, rfl, rfl, trivial, trivial, ⟨by decide, ⟨_, TX3, 4, rfl, okM_47, rfl⟩, aw_478, aw_479, aw_480⟩⟩, Or.inr ⟨1, d31_15, rfl, rfl, rfl, trivial, trivial⟩, Or.inr ⟨3, d31_16, rfl, rfl, trivial, ⟨RX1, TX1, 20, rfl, by decide, Or.inl aw_191⟩, trivial⟩, Or.inr ⟨1, d31_19, rfl, rfl, rfl, trivial, trivial⟩, Or.inr ⟨1, d31_20, rfl, rfl, am_eq9 (by decide +kernel), trivial, trivial⟩, Or.inr ⟨1, d31_21, rfl, rfl, rfl, trivial, trivial⟩, Or.inr ⟨1, d31_22, rfl, rfl, rfl, trivial, trivial⟩, Or.inr ⟨3, d31_23, rfl, rfl, trivial, trivial, ⟨by decide, ⟨_, TX3, 4, rfl, okM_47, rfl⟩, aw_478, aw_479, aw_480⟩⟩, Or.inr ⟨1, d31_26, rfl, rfl, rfl, trivial, trivial⟩, Or.inr ⟨3, d31_27, rfl, rfl, trivial, ⟨RX1, TX1, 20, rfl, by decide, Or.inl aw_191⟩, trivial⟩, Or.inr ⟨1, d31_30, rfl, rfl, rfl, trivial, trivial⟩, Or.inr ⟨1, d31_31, rfl, rfl, am_eq9 (by decide +kernel), trivial, trivial⟩, Or.inr ⟨1, d31_32, rfl, rfl, rfl, trivial, trivial⟩, Or.inr ⟨1, d31_33, rfl, rfl, rfl, trivial, trivial⟩, Or.inr ⟨3, d31_34, rfl, rfl, trivial, trivial, ⟨by decide, ⟨_, TX3, 4, rfl, okM_47, rfl⟩, aw_478, aw_479, aw_480⟩⟩, Or.inr ⟨3, d31_37, rfl, rfl, trivial, trivial, ⟨by decide, ⟨_, TX6, 5, rfl, okM_63, rfl⟩, aw_482, aw_483, aw_484⟩⟩, trivial⟩
theorem v31_1 : am_all (am_V9 31) am_l31_1 := ⟨Or.inr ⟨1, d31_40, rfl, rfl, trivial, trivial, trivial⟩, trivial⟩
theorem v31 : ∀ pc, am_V9 31 pc ((am_G 31).2.2.2.2.1 pc) := am_all_lc am_V9_0 _ ⟨v31_0, v31_1, trivial⟩
theorem d32_0 : decode cX1_meetsStockAtPlace 0 = .ok (.aload_n 0, 1) := by decide +kernel
theorem d32_1 : decode cX1_meetsStockAtPlace 1 = .ok (.getfield 41, 3) := by decide +kernel
theorem d32_4 : decode cX1_meetsStockAtPlace 4 = .ok (.aload_n 0, 1) := by decide +kernel
theorem d32_5 : decode cX1_meetsStockAtPlace 5 = .ok (.getfield 25, 3) := by decide +kernel
theorem d32_8 : decode cX1_meetsStockAtPlace 8 = .ok (.iconst 0, 1) := by decide +kernel
theorem d32_9 : decode cX1_meetsStockAtPlace 9 = .ok (.iaload, 1) := by decide +kernel
theorem d32_10 : decode cX1_meetsStockAtPlace 10 = .ok (.aload_n 0, 1) := by decide +kernel
theorem d32_11 : decode cX1_meetsStockAtPlace 11 = .ok (.getfield 25, 3) := by decide +kernel
theorem d32_14 : decode cX1_meetsStockAtPlace 14 = .ok (.iconst 1, 1) := by decide +kernel
theorem d32_15 : decode cX1_meetsStockAtPlace 15 = .ok (.iaload, 1) := by decide +kernel
theorem d32_16 : decode cX1_meetsStockAtPlace 16 = .ok (.aload_n 0, 1) := by decide +kernel
theorem d32_17 : decode cX1_meetsStockAtPlace 17 = .ok (.getfield 25, 3) := by decide +kernel
theorem d32_20 : decode cX1_meetsStockAtPlace 20 = .ok (.iconst 2, 1) := by decide +kernel
theorem d32_21 : decode cX1_meetsStockAtPlace 21 = .ok (.iaload, 1) := by decide +kernel
theorem d32_22 : decode cX1_meetsStockAtPlace 22 = .ok (.invokevirtual 256, 3) := by decide +kernel
theorem d32_25 : decode cX1_meetsStockAtPlace 25 = .ok (.aload_n 0, 1) := by decide +kernel
theorem d32_26 : decode cX1_meetsStockAtPlace 26 = .ok (.getfield 12, 3) := by decide +kernel
theorem d32_29 : decode cX1_meetsStockAtPlace 29 = .ok (.aload_n 0, 1) := by decide +kernel
theorem d32_30 : decode cX1_meetsStockAtPlace 30 = .ok (.getfield 41, 3) := by decide +kernel
theorem d32_33 : decode cX1_meetsStockAtPlace 33 = .ok (.invokevirtual 237, 3) := by decide +kernel
theorem d32_36 : decode cX1_meetsStockAtPlace 36 = .ok (.ireturn, 1) := by decide +kernel
theorem v32_0 : am_all (am_V9 32) am_l32_0 := ⟨Or.inr ⟨1, d32_0, rfl, rfl, rfl, trivial, trivial⟩, Or.inr ⟨3, d32_1, rfl, rfl, trivial, ⟨RX1, TX1, 20, rfl, by decide, Or.inl aw_192⟩, trivial⟩, Or.inr ⟨1, d32_4, rfl, rfl, rfl, trivial, trivial⟩, Or.inr ⟨3, d32_5, rfl, rfl, trivial, ⟨RX1, TX1, 20, rfl, by decide, Or.inl aw_188⟩, trivial⟩, Or.inr ⟨1, d32_8, rfl, rfl, am_eq9 (by decide +kernel), trivial, trivial⟩, Or.inr ⟨1, d32_9, rfl, rfl, trivial, trivial, trivial⟩, Or.inr ⟨1, d32_10, rfl, rfl, rfl, trivial, trivial⟩, Or.inr ⟨3, d32_11, rfl, rfl, trivial, ⟨RX1, TX1, 20, rfl, by decide, Or.inl aw_188⟩, trivial⟩, Or.inr ⟨1, d32_14, rfl, rfl, am_eq9 (by decide +kernel), trivial, trivial⟩, Or.inr ⟨1, d32_15, rfl, rfl, trivial, trivial, trivial⟩, Or.inr ⟨1, d32_16, rfl, rfl, rfl, trivial, trivial⟩, Or.inr ⟨3, d32_17, rfl, rfl, trivial, ⟨RX1, TX1, 20, rfl, by decide, Or.inl aw_188⟩, trivial⟩, Or.inr ⟨1, d32_20, rfl, rfl, am_eq9 (by decide +kernel), trivial, trivial⟩, Or.inr ⟨1, d32_21, rfl, rfl, trivial, trivial, trivial⟩, Or.inr ⟨3, d32_22, rfl, rfl, trivial, trivial, ⟨by decide, ⟨_, TX6, 5, rfl, okM_63, rfl⟩, aw_482, aw_483, aw_484⟩⟩, Or.inr ⟨1, d32_25, rfl, rfl, rfl, trivial, trivial⟩, Or.inr ⟨3, d32_26, rfl, rfl, trivial, ⟨RX1, TX1, 20, rfl, by decide, Or.inl aw_182⟩, trivial⟩, Or.inr ⟨1, d32_29, rfl, rfl, rfl, trivial, trivial⟩, Or.inr ⟨3, d32_30, rfl, rfl, trivial, ⟨RX1, TX1, 20, rfl, by decide, Or.inl aw_192⟩, trivial⟩, Or.inr ⟨3, d32_33, rfl, rfl, trivial, trivial, ⟨by decide, ⟨_, TX0, 1, rfl, okM_8, rfl⟩, aw_486, aw_487, aw_488⟩⟩, Or.inr ⟨1, d32_36, rfl, rfl, trivial, trivial, trivial⟩, trivial⟩
theorem v32 : ∀ pc, am_V9 32 pc ((am_G 32).2.2.2.2.1 pc) := am_all_lc am_V9_0 _ ⟨v32_0, trivial⟩
theorem d33_0 : decode cX1_takeEffect 0 = .ok (.aload_n 0, 1) := by decide +kernel
theorem d33_1 : decode cX1_takeEffect 1 = .ok (.getfield 55, 3) := by decide +kernel
theorem d33_4 : decode cX1_takeEffect 4 = .ok (.iconst 1, 1) := by decide +kernel
theorem d33_5 : decode cX1_takeEffect 5 = .ok (.iadd, 1) := by decide +kernel
theorem d33_6 : decode cX1_takeEffect 6 = .ok (.istore_n 1, 1) := by decide +kernel
theorem d33_7 : decode cX1_takeEffect 7 = .ok (.aload_n 0, 1) := by decide +kernel
theorem d33_8 : decode cX1_takeEffect 8 = .ok (.getfield 82, 3) := by decide +kernel
theorem d33_11 : decode cX1_takeEffect 11 = .ok (.tableswitch 217 101 120 #[209, 124, 217, 217, 201, 217, 217, 217, 135, 217, 155, 217, 217, 201, 104, 93, 217, 166, 217, 186], 93) := by decide +kernel
theorem d33_104 : decode cX1_takeEffect 104 = .ok (.aload_n 0, 1) := by decide +kernel
theorem d33_105 : decode cX1_takeEffect 105 = .ok (.aload_n 0, 1) := by decide +kernel
theorem d33_106 : decode cX1_takeEffect 106 = .ok (.invokevirtual 172, 3) := by decide +kernel
theorem d33_109 : decode cX1_takeEffect 109 = .ok (.putfield 62, 3) := by decide +kernel
theorem d33_112 : decode cX1_takeEffect 112 = .ok (.goto 116, 3) := by decide +kernel
theorem d33_115 : decode cX1_takeEffect 115 = .ok (.aload_n 0, 1) := by decide +kernel
theorem d33_116 : decode cX1_takeEffect 116 = .ok (.aload_n 0, 1) := by decide +kernel
theorem d33_117 : decode cX1_takeEffect 117 = .ok (.getfield 114, 3) := by decide +kernel
theorem d33_120 : decode cX1_takeEffect 120 = .ok (.iconst 1, 1) := by decide +kernel
theorem d33_121 : decode cX1_takeEffect 121 = .ok (.if_icmp .ne 7, 3) := by decide +kernel
theorem d33_124 : decode cX1_takeEffect 124 = .ok (.iconst 1, 1) := by decide +kernel
theorem d33_125 : decode cX1_takeEffect 125 = .ok (.goto 4, 3) := by decide +kernel
theorem d33_128 : decode cX1_takeEffect 128 = .ok (.iconst 0, 1) := by decide +kernel
theorem d33_129 : decode cX1_takeEffect 129 = .ok (.putfield 79, 3) := by decide +kernel
theorem d33_132 : decode cX1_takeEffect 132 = .ok (.goto 96, 3) := by decide +kernel
theorem d33_135 : decode cX1_takeEffect 135 = .ok (.aload_n 0, 1) := by decide +kernel
theorem d33_136 : decode cX1_takeEffect 136 = .ok (.aload_n 0, 1) := by decide +kernel
theorem d33_137 : decode cX1_takeEffect 137 = .ok (.getfield 114, 3) := by decide +kernel
theorem d33_140 : decode cX1_takeEffect 140 = .ok (.putfield 69, 3) := by decide +kernel
theorem d33_143 : decode cX1_takeEffect 143 = .ok (.goto 85, 3) := by decide +kernel
theorem d33_146 : decode cX1_takeEffect 146 = .ok (.aload_n 0, 1) := by decide +kernel
theorem d33_147 : decode cX1_takeEffect 147 = .ok (.aload_n 0, 1) := by decide +kernel
theorem d33_148 : decode cX1_takeEffect 148 = .ok (.getfield 114, 3) := by decide +kernel
theorem d33_151 : decode cX1_takeEffect 151 = .ok (.iconst 1, 1) := by decide +kernel
theorem d33_152 : decode cX1_takeEffect 152 = .ok (.if_icmp .ne 7, 3) := by decide +kernel
theorem d33_155 : decode cX1_takeEffect 155 = .ok (.iconst 1, 1) := by decide +kernel
theorem d33_156 : decode cX1_takeEffect 156 = .ok (.goto 4, 3) := by decide +kernel
theorem d33_159 : decode cX1_takeEffect 159 = .ok (.iconst 0, 1) := by decide +kernel
theorem d33_160 : decode cX1_takeEffect 160 = .ok (.putfield 75, 3) := by decide +kernel
theorem d33_163 : decode cX1_takeEffect 163 = .ok (.goto 65, 3) := by decide +kernel
theorem d33_166 : decode cX1_takeEffect 166 = .ok (.aload_n 0, 1) := by decide +kernel
theorem d33_167 : decode cX1_takeEffect 167 = .ok (.aload_n 0, 1) := by decide +kernel
theorem d33_168 : decode cX1_takeEffect 168 = .ok (.getfield 114, 3) := by decide +kernel
theorem d33_171 : decode cX1_takeEffect 171 = .ok (.putfield 72, 3) := by decide +kernel
theorem d33_174 : decode cX1_takeEffect 174 = .ok (.goto 54, 3) := by decide +kernel
theorem d33_177 : decode cX1_takeEffect 177 = .ok (.aload_n 0, 1) := by decide +kernel
theorem d33_178 : decode cX1_takeEffect 178 = .ok (.aload_n 0, 1) := by decide +kernel
theorem d33_179 : decode cX1_takeEffect 179 = .ok (.getfield 114, 3) := by decide +kernel
theorem d33_182 : decode cX1_takeEffect 182 = .ok (.aload_n 0, 1) := by decide +kernel
theorem d33_183 : decode cX1_takeEffect 183 = .ok (.getfield 120, 3) := by decide +kernel
theorem d33_186 : decode cX1_takeEffect 186 = .ok (.aload_n 0, 1) := by decide +kernel
theorem d33_187 : decode cX1_takeEffect 187 = .ok (.getfield 126, 3) := by decide +kernel
theorem d33_190 : decode cX1_takeEffect 190 = .ok (.iadd, 1) := by decide +kernel
theorem d33_191 : decode cX1_takeEffect 191 = .ok (.invokevirtual 259, 3) := by decide +kernel
theorem d33_194 : decode cX1_takeEffect 194 = .ok (.goto 34, 3) := by decide +kernel
theorem d33_197 : decode cX1_takeEffect 197 = .ok (.aload_n 0, 1) := by decide +kernel
theorem d33_198 : decode cX1_takeEffect 198 = .ok (.aload_n 0, 1) := by decide +kernel
theorem d33_199 : decode cX1_takeEffect 199 = .ok (.getfield 114, 3) := by decide +kernel
theorem d33_202 : decode cX1_takeEffect 202 = .ok (.aload_n 0, 1) := by decide +kernel
theorem d33_203 : decode cX1_takeEffect 203 = .ok (.invokevirtual 263, 3) := by decide +kernel
theorem d33_206 : decode cX1_takeEffect 206 = .ok (.invokevirtual 259, 3) := by decide +kernel
theorem d33_209 : decode cX1_takeEffect 209 = .ok (.goto 19, 3) := by decide +kernel
theorem d33_212 : decode cX1_takeEffect 212 = .ok (.aload_n 0, 1) := by decide +kernel
theorem d33_213 : decode cX1_takeEffect 213 = .ok (.invokevirtual 266, 3) := by decide +kernel
theorem d33_216 : decode cX1_takeEffect 216 = .ok (.istore_n 1, 1) := by decide +kernel
theorem d33_217 : decode cX1_takeEffect 217 = .ok (.goto 11, 3) := by decide +kernel
theorem d33_220 : decode cX1_takeEffect 220 = .ok (.aload_n 0, 1) := by decide +kernel
theorem d33_221 : decode cX1_takeEffect 221 = .ok (.invokevirtual 269, 3) := by decide +kernel
theorem d33_224 : decode cX1_takeEffect 224 = .ok (.istore_n 1, 1) := by decide +kernel
theorem d33_225 : decode cX1_takeEffect 225 = .ok (.goto 3, 3) := by decide +kernel
theorem d33_228 : decode cX1_takeEffect 228 = .ok (.aload_n 0, 1) := by decide +kernel
theorem d33_229 : decode cX1_takeEffect 229 = .ok (.iload_n 1, 1) := by decide +kernel
theorem d33_230 : decode cX1_takeEffect 230 = .ok (.putfield 55, 3) := by decide +kernel
theorem d33_233 : decode cX1_takeEffect 233 = .ok (.return_, 1) := by decide +kernel
theorem v33_0 : am_all (am_V9 33) am_l33_0 := ⟨Or.inr ⟨1, d33_0, rfl, rfl, rfl, trivial, trivial⟩, Or.inr ⟨3, d33_1, rfl, rfl, trivial, ⟨RX1, TX1, 20, rfl, by decide, Or.inl aw_193⟩, trivial⟩, Or.inr ⟨1, d33_4, rfl, rfl, am_eq9 (by decide +kernel), trivial, trivial⟩, Or.inr ⟨1, d33_5, rfl, rfl, trivial, trivial, trivial⟩, Or.inr ⟨1, d33_6, rfl, rfl, rfl, trivial, trivial⟩, Or.inr ⟨1, d33_7, rfl, rfl, rfl, trivial, trivial⟩, Or.inr ⟨3, d33_8, rfl, rfl, trivial, ⟨RX1, TX1, 20, rfl, by decide, Or.inl aw_205⟩, trivial⟩, Or.inr ⟨93, d33_11, rfl, trivial, trivial, trivial, trivial⟩, Or.inr ⟨1, d33_104, rfl, rfl, rfl, trivial, trivial⟩, Or.inr ⟨1, d33_105, rfl, rfl, rfl, trivial, trivial⟩, Or.inr ⟨3, d33_106, rfl, rfl, trivial, trivial, ⟨by decide, ⟨_, TX1, 20, rfl, okM_23, rfl⟩, aw_392, aw_394, as_23⟩⟩, Or.inr ⟨3, d33_109, rfl, rfl, trivial, ⟨RX1, TX1, 20, rfl, by decide, aw_197, Or.inl rfl⟩, trivial⟩, Or.inr ⟨3, d33_112, rfl, rfl, rfl, trivial, trivial⟩, Or.inr ⟨1, d33_115, rfl, rfl, rfl, trivial, trivial⟩, Or.inr ⟨1, d33_116, rfl, rfl, rfl, trivial, trivial⟩, Or.inr ⟨3, d33_117, rfl, rfl, trivial, ⟨RX1, TX1, 20, rfl, by decide, Or.inl aw_206⟩, trivial⟩, Or.inr ⟨1, d33_120, rfl, rfl, am_eq9 (by decide +kernel), trivial, trivial⟩, Or.inr ⟨3, d33_121, rfl, rfl, rfl, trivial, trivial⟩, Or.inr ⟨1, d33_124, rfl, rfl, am_eq9 (by decide +kernel), trivial, trivial⟩, Or.inr ⟨3, d33_125, rfl, rfl, rfl, trivial, trivial⟩, Or.inr ⟨1, d33_128, rfl, rfl, am_eq9 (by decide +kernel), trivial, trivial⟩, Or.inr ⟨3, d33_129, rfl, rfl, trivial, ⟨RX1, TX1, 20, rfl, by decide, aw_204, Or.inl rfl⟩, trivial⟩, Or.inr ⟨3, d33_132, rfl, rfl, rfl, trivial, trivial⟩, Or.inr ⟨1, d33_135, rfl, rfl, rfl, trivial, trivial⟩, trivial⟩
theorem v33_1 : am_all (am_V9 33) am_l33_1 := ⟨Or.inr ⟨1, d33_136, rfl, rfl, rfl, trivial, trivial⟩, Or.inr ⟨3, d33_137, rfl, rfl, trivial, ⟨RX1, TX1, 20, rfl, by decide, Or.inl aw_206⟩, trivial⟩, Or.inr ⟨3, d33_140, rfl, rfl, trivial, ⟨RX1, TX1, 20, rfl, by decide, aw_201, Or.inl rfl⟩, trivial⟩, Or.inr ⟨3, d33_143, rfl, rfl, rfl, trivial, trivial⟩, Or.inr ⟨1, d33_146, rfl, rfl, rfl, trivial, trivial⟩, Or.inr ⟨1, d33_147, rfl, rfl, rfl, trivial, trivial⟩, Or.inr ⟨3, d33_148, rfl, rfl, trivial, ⟨RX1, TX1, 20, rfl, by decide, Or.inl aw_206⟩, trivial⟩, Or.inr ⟨1, d33_151, rfl, rfl, am_eq9 (by decide +kernel), trivial, trivial⟩, Or.inr ⟨3, d33_152, rfl, rfl, rfl, trivial, trivial⟩, Or.inr ⟨1, d33_155, rfl, rfl, am_eq9 (by decide +kernel), trivial, trivial⟩, Or.inr ⟨3, d33_156, rfl, rfl, rfl, trivial, trivial⟩, Or.inr ⟨1, d33_159, rfl, rfl, am_eq9 (by decide +kernel), trivial, trivial⟩, Or.inr ⟨3, d33_160, rfl, rfl, trivial, ⟨RX1, TX1, 20, rfl, by decide, aw_203, Or.inl rfl⟩, trivial⟩, Or.inr ⟨3, d33_163, rfl, rfl, rfl, trivial, trivial⟩, Or.inr ⟨1, d33_166, rfl, rfl, rfl, trivial, trivial⟩, Or.inr ⟨1, d33_167, rfl, rfl, rfl, trivial, trivial⟩, Or.inr ⟨3, d33_168, rfl, rfl, trivial, ⟨RX1, TX1, 20, rfl, by decide, Or.inl aw_206⟩, trivial⟩, Or.inr ⟨3, d33_171, rfl, rfl, trivial, ⟨RX1, TX1, 20, rfl, by decide, aw_202, Or.inl rfl⟩, trivial⟩, Or.inr ⟨3, d33_174, rfl, rfl, rfl, trivial, trivial⟩, Or.inr ⟨1, d33_177, rfl, rfl, rfl, trivial, trivial⟩, Or.inr ⟨1, d33_178, rfl, rfl, rfl, trivial, trivial⟩, Or.inr ⟨3, d33_179, rfl, rfl, trivial, ⟨RX1, TX1, 20, rfl, by decide, Or.inl aw_206⟩, trivial⟩, Or.inr ⟨1, d33_182, rfl, rfl, rfl, trivial, trivial⟩, Or.inr ⟨3, d33_183, rfl, rfl, trivial, ⟨RX1, TX1, 20, rfl, by decide, Or.inl aw_207⟩, trivial⟩, trivial⟩
theorem v33_2 : am_all (am_V9 33) am_l33_2 := ⟨Or.inr ⟨1, d33_186, rfl, rfl, rfl, trivial, trivial⟩, Or.inr ⟨3, d33_187, rfl, rfl, trivial, ⟨RX1, TX1, 20, rfl, by decide, Or.inl aw_208⟩, trivial⟩, Or.inr ⟨1, d33_190, rfl, rfl, trivial, trivial, trivial⟩, Or.inr ⟨3, d33_191, rfl, rfl, trivial, trivial, ⟨by decide, ⟨_, TX1, 20, rfl, okM_36, rfl⟩, aw_536, aw_538, as_36⟩⟩, Or.inr ⟨3, d33_194, rfl, rfl, rfl, trivial, trivial⟩, Or.inr ⟨1, d33_197, rfl, rfl, rfl, trivial, trivial⟩, Or.inr ⟨1, d33_198, rfl, rfl, rfl, trivial, trivial⟩, Or.inr ⟨3, d33_199, rfl, rfl, trivial, ⟨RX1, TX1, 20, rfl, by decide, Or.inl aw_206⟩, trivial⟩, Or.inr ⟨1, d33_202, rfl, rfl, rfl, trivial, trivial⟩, Or.inr ⟨3, d33_203, rfl, rfl, trivial, trivial, ⟨by decide, ⟨_, TX1, 20, rfl, okM_37, rfl⟩, aw_544, aw_546, as_37⟩⟩, Or.inr ⟨3, d33_206, rfl, rfl, trivial, trivial, ⟨by decide, ⟨_, TX1, 20, rfl, okM_36, rfl⟩, aw_536, aw_538, as_36⟩⟩, Or.inr ⟨3, d33_209, rfl, rfl, rfl, trivial, trivial⟩, Or.inr ⟨1, d33_212, rfl, rfl, rfl, trivial, trivial⟩, Or.inr ⟨3, d33_213, rfl, rfl, trivial, trivial, ⟨by decide, ⟨_, TX1, 20, rfl, okM_38, rfl⟩, aw_548, aw_550, as_38⟩⟩, Or.inr ⟨1, d33_216, rfl, rfl, rfl, trivial, trivial⟩, Or.inr ⟨3, d33_217, rfl, rfl, rfl, trivial, trivial⟩, Or.inr ⟨1, d33_220, rfl, rfl, rfl, trivial, trivial⟩, Or.inr ⟨3, d33_221, rfl, rfl, trivial, trivial, ⟨by decide, ⟨_, TX1, 20, rfl, okM_39, rfl⟩, aw_556, aw_558, as_39⟩⟩, Or.inr ⟨1, d33_224, rfl, rfl, rfl, trivial, trivial⟩, Or.inr ⟨3, d33_225, rfl, rfl, rfl, trivial, trivial⟩, Or.inr ⟨1, d33_228, rfl, rfl, rfl, trivial, trivial⟩, Or.inr ⟨1, d33_229, rfl, rfl, rfl, trivial, trivial⟩, Or.inr ⟨3, d33_230, rfl, rfl, trivial, ⟨RX1, TX1, 20, rfl, by decide, aw_193, Or.inl rfl⟩, trivial⟩, Or.inr ⟨1, d33_233, rfl, rfl, trivial, trivial, trivial⟩, trivial⟩
theorem v33 : ∀ pc, am_V9 33 pc ((am_G 33).2.2.2.2.1 pc) := am_all_lc am_V9_0 _ ⟨v33_0, v33_1, v33_2, trivial⟩
theorem d34_0 : decode cX1_carryOutMoves 0 = .ok (.fconst 1, 1) := by decide +kernel
theorem d34_1 : decode cX1_carryOutMoves 1 = .ok (.aload_n 0, 1) := by decide +kernel
theorem d34_2 : decode cX1_carryOutMoves 2 = .ok (.getfield 82, 3) := by decide +kernel
theorem d34_5 : decode cX1_carryOutMoves 5 = .ok (.bipush 103, 2) := by decide +kernel
theorem d34_7 : decode cX1_carryOutMoves 7 = .ok (.if_icmp .ne 8, 3) := by decide +kernel
theorem d34_10 : decode cX1_carryOutMoves 10 = .ok (.bipush 100, 2) := by decide +kernel
theorem d34_12 : decode cX1_carryOutMoves 12 = .ok (.goto 7, 3) := by decide +kernel
theorem d34_15 : decode cX1_carryOutMoves 15 = .ok (.aload_n 0, 1) := by decide +kernel
theorem d34_16 : decode cX1_carryOutMoves 16 = .ok (.getfield 69, 3) := by decide +kernel
theorem d34_19 : decode cX1_carryOutMoves 19 = .ok (.i2f, 1) := by decide +kernel
theorem d34_20 : decode cX1_carryOutMoves 20 = .ok (.fdiv, 1) := by decide +kernel
theorem d34_21 : decode cX1_carryOutMoves 21 = .ok (.fstore_n 1, 1) := by decide +kernel
theorem d34_22 : decode cX1_carryOutMoves 22 = .ok (.iconst 0, 1) := by decide +kernel
theorem d34_23 : decode cX1_carryOutMoves 23 = .ok (.istore_n 2, 1) := by decide +kernel
theorem d34_24 : decode cX1_carryOutMoves 24 = .ok (.iload_n 2, 1) := by decide +kernel
theorem d34_25 : decode cX1_carryOutMoves 25 = .ok (.aload_n 0, 1) := by decide +kernel
theorem d34_26 : decode cX1_carryOutMoves 26 = .ok (.getfield 34, 3) := by decide +kernel
theorem d34_29 : decode cX1_carryOutMoves 29 = .ok (.getfield 228, 3) := by decide +kernel
theorem d34_32 : decode cX1_carryOutMoves 32 = .ok (.if_icmp .ge 44, 3) := by decide +kernel
theorem d34_35 : decode cX1_carryOutMoves 35 = .ok (.aload_n 0, 1) := by decide +kernel
theorem d34_36 : decode cX1_carryOutMoves 36 = .ok (.getfield 34, 3) := by decide +kernel
theorem d34_39 : decode cX1_carryOutMoves 39 = .ok (.iload_n 2, 1) := by decide +kernel
theorem d34_40 : decode cX1_carryOutMoves 40 = .ok (.invokevirtual 231, 3) := by decide +kernel
theorem d34_43 : decode cX1_carryOutMoves 43 = .ok (.istore_n 3, 1) := by decide +kernel
theorem d34_44 : decode cX1_carryOutMoves 44 = .ok (.aload_n 0, 1) := by decide +kernel
theorem d34_45 : decode cX1_carryOutMoves 45 = .ok (.invokevirtual 176, 3) := by decide +kernel
theorem d34_48 : decode cX1_carryOutMoves 48 = .ok (.ifCond .eq 9, 3) := by decide +kernel
theorem d34_51 : decode cX1_carryOutMoves 51 = .ok (.aload_n 0, 1) := by decide +kernel
theorem d34_52 : decode cX1_carryOutMoves 52 = .ok (.iload_n 2, 1) := by decide +kernel
theorem d34_53 : decode cX1_carryOutMoves 53 = .ok (.iload_n 3, 1) := by decide +kernel
theorem d34_54 : decode cX1_carryOutMoves 54 = .ok (.invokevirtual 272, 3) := by decide +kernel
theorem d34_57 : decode cX1_carryOutMoves 57 = .ok (.aload_n 0, 1) := by decide +kernel
theorem d34_58 : decode cX1_carryOutMoves 58 = .ok (.aload_n 0, 1) := by decide +kernel
theorem d34_59 : decode cX1_carryOutMoves 59 = .ok (.getfield 65, 3) := by decide +kernel
theorem d34_62 : decode cX1_carryOutMoves 62 = .ok (.iload_n 3, 1) := by decide +kernel
theorem d34_63 : decode cX1_carryOutMoves 63 = .ok (.i2f, 1) := by decide +kernel
theorem d34_64 : decode cX1_carryOutMoves 64 = .ok (.fload_n 1, 1) := by decide +kernel
theorem d34_65 : decode cX1_carryOutMoves 65 = .ok (.fmul, 1) := by decide +kernel
theorem d34_66 : decode cX1_carryOutMoves 66 = .ok (.fadd, 1) := by decide +kernel
theorem d34_67 : decode cX1_carryOutMoves 67 = .ok (.putfield 65, 3) := by decide +kernel
theorem d34_70 : decode cX1_carryOutMoves 70 = .ok (.iinc 2 1, 3) := by decide +kernel
theorem d34_73 : decode cX1_carryOutMoves 73 = .ok (.goto (-49), 3) := by decide +kernel
theorem d34_76 : decode cX1_carryOutMoves 76 = .ok (.iconst 0, 1) := by decide +kernel
theorem d34_77 : decode cX1_carryOutMoves 77 = .ok (.istore_n 2, 1) := by decide +kernel
theorem d34_78 : decode cX1_carryOutMoves 78 = .ok (.iload_n 2, 1) := by decide +kernel
theorem d34_79 : decode cX1_carryOutMoves 79 = .ok (.iconst 3, 1) := by decide +kernel
theorem d34_80 : decode cX1_carryOutMoves 80 = .ok (.if_icmp .ge 23, 3) := by decide +kernel
theorem d34_83 : decode cX1_carryOutMoves 83 = .ok (.aload_n 0, 1) := by decide +kernel
theorem d34_84 : decode cX1_carryOutMoves 84 = .ok (.getfield 25, 3) := by decide +kernel
theorem d34_87 : decode cX1_carryOutMoves 87 = .ok (.iload_n 2, 1) := by decide +kernel
theorem d34_88 : decode cX1_carryOutMoves 88 = .ok (.aload_n 0, 1) := by decide +kernel
theorem d34_89 : decode cX1_carryOutMoves 89 = .ok (.getfield 34, 3) := by decide +kernel
theorem d34_92 : decode cX1_carryOutMoves 92 = .ok (.iload_n 2, 1) := by decide +kernel
theorem d34_93 : decode cX1_carryOutMoves 93 = .ok (.invokevirtual 275, 3) := by decide +kernel
theorem d34_96 : decode cX1_carryOutMoves 96 = .ok (.iastore, 1) := by decide +kernel
theorem d34_97 : decode cX1_carryOutMoves 97 = .ok (.iinc 2 1, 3) := by decide +kernel
theorem d34_100 : decode cX1_carryOutMoves 100 = .ok (.goto (-22), 3) := by decide +kernel
theorem d34_103 : decode cX1_carryOutMoves 103 = .ok (.return_, 1) := by decide +kernel
theorem v34_0 : am_all (am_V9 34) am_l34_0 := ⟨Or.inr ⟨1, d34_0, rfl, rfl, trivial, trivial, trivial⟩, Or.inr ⟨1, d34_1, rfl, rfl, rfl, trivial, trivial⟩, Or.inr ⟨3, d34_2, rfl, rfl, trivial, ⟨RX1, TX1, 20, rfl, by decide, Or.inl aw_205⟩, trivial⟩, Or.inr ⟨2, d34_5, rfl, rfl, am_eq9 (by decide +kernel), trivial, trivial⟩, Or.inr ⟨3, d34_7, rfl, rfl, rfl, trivial, trivial⟩, Or.inr ⟨2, d34_10, rfl, rfl, am_eq9 (by decide +kernel), trivial, trivial⟩, Or.inr ⟨3, d34_12, rfl, rfl, rfl, trivial, trivial⟩, Or.inr ⟨1, d34_15, rfl, rfl, rfl, trivial, trivial⟩, Or.inr ⟨3, d34_16, rfl, rfl, trivial, ⟨RX1, TX1, 20, rfl, by decide, Or.inl aw_201⟩, trivial⟩, Or.inr ⟨1, d34_19, rfl, rfl, trivial, trivial, trivial⟩, Or.inr ⟨1, d34_20, rfl, rfl, trivial, trivial, trivial⟩, Or.inr ⟨1, d34_21, rfl, rfl, rfl, trivial, trivial⟩, Or.inr ⟨1, d34_22, rfl, rfl, am_eq9 (by decide +kernel), trivial, trivial⟩, Or.inr ⟨1, d34_23, rfl, rfl, rfl, trivial, trivial⟩, Or.inr ⟨1, d34_24, rfl, rfl, rfl, trivial, trivial⟩, Or.inr ⟨1, d34_25, rfl, rfl, rfl, trivial, trivial⟩, Or.inr ⟨3, d34_26, rfl, rfl, trivial, ⟨RX1, TX1, 20, rfl, by decide, Or.inl aw_191⟩, trivial⟩, Or.inr ⟨3, d34_29, rfl, rfl, trivial, ⟨RX3, TX3, 4, rfl, by decide, Or.inl aw_140⟩, trivial⟩, Or.inr ⟨3, d34_32, rfl, rfl, rfl, trivial, trivial⟩, Or.inr ⟨1, d34_35, rfl, rfl, rfl, trivial, trivial⟩, Or.inr ⟨3, d34_36, rfl, rfl, trivial, ⟨RX1, TX1, 20, rfl, by decide, Or.inl aw_191⟩, trivial⟩, Or.inr ⟨1, d34_39, rfl, rfl, rfl, trivial, trivial⟩, Or.inr ⟨3, d34_40, rfl, rfl, trivial, trivial, ⟨by decide, ⟨_, TX3, 4, rfl, okM_46, rfl⟩, aw_463, aw_464, aw_465⟩⟩, Or.inr ⟨1, d34_43, rfl, rfl, rfl, trivial, trivial⟩, trivial⟩
theorem v34_1 : am_all (am_V9 34) am_l34_1 := ⟨Or.inr ⟨1, d34_44, rfl, rfl, rfl, trivial, trivial⟩, Or.inr ⟨3, d34_45, rfl, rfl, trivial, trivial, ⟨by decide, ⟨_, TX1, 20, rfl, okM_21, rfl⟩, aw_404, aw_406, as_21⟩⟩, Or.inr ⟨3, d34_48, rfl, rfl, rfl, trivial, trivial⟩, Or.inr ⟨1, d34_51, rfl, rfl, rfl, trivial, trivial⟩, Or.inr ⟨1, d34_52, rfl, rfl, rfl, trivial, trivial⟩, Or.inr ⟨1, d34_53, rfl, rfl, rfl, trivial, trivial⟩, Or.inr ⟨3, d34_54, rfl, rfl, trivial, trivial, ⟨by decide, ⟨_, TX1, 20, rfl, okM_35, rfl⟩, aw_520, aw_522, as_35⟩⟩, Or.inr ⟨1, d34_57, rfl, rfl, rfl, trivial, trivial⟩, Or.inr ⟨1, d34_58, rfl, rfl, rfl, trivial, trivial⟩, Or.inr ⟨3, d34_59, rfl, rfl, trivial, ⟨RX1, TX1, 20, rfl, by decide, Or.inl aw_199⟩, trivial⟩, Or.inr ⟨1, d34_62, rfl, rfl, rfl, trivial, trivial⟩, Or.inr ⟨1, d34_63, rfl, rfl, trivial, trivial, trivial⟩, Or.inr ⟨1, d34_64, rfl, rfl, rfl, trivial, trivial⟩, Or.inr ⟨1, d34_65, rfl, rfl, trivial, trivial, trivial⟩, Or.inr ⟨1, d34_66, rfl, rfl, trivial, trivial, trivial⟩, Or.inr ⟨3, d34_67, rfl, rfl, trivial, ⟨RX1, TX1, 20, rfl, by decide, aw_199, Or.inl rfl⟩, trivial⟩, Or.inr ⟨3, d34_70, rfl, rfl, ⟨rfl, by decide⟩, trivial, trivial⟩, Or.inr ⟨3, d34_73, rfl, rfl, rfl, trivial, trivial⟩, Or.inr ⟨1, d34_76, rfl, rfl, am_eq9 (by decide +kernel), trivial, trivial⟩, Or.inr ⟨1, d34_77, rfl, rfl, rfl, trivial, trivial⟩, Or.inr ⟨1, d34_78, rfl, rfl, rfl, trivial, trivial⟩, Or.inr ⟨1, d34_79, rfl, rfl, am_eq9 (by decide +kernel), trivial, trivial⟩, Or.inr ⟨3, d34_80, rfl, rfl, rfl, trivial, trivial⟩, Or.inr ⟨1, d34_83, rfl, rfl, rfl, trivial, trivial⟩, trivial⟩
theorem v34_2 : am_all (am_V9 34) am_l34_2 := ⟨Or.inr ⟨3, d34_84, rfl, rfl, trivial, ⟨RX1, TX1, 20, rfl, by decide, Or.inl aw_188⟩, trivial⟩, Or.inr ⟨1, d34_87, rfl, rfl, rfl, trivial, trivial⟩, Or.inr ⟨1, d34_88, rfl, rfl, rfl, trivial, trivial⟩, Or.inr ⟨3, d34_89, rfl, rfl, trivial, ⟨RX1, TX1, 20, rfl, by decide, Or.inl aw_191⟩, trivial⟩, Or.inr ⟨1, d34_92, rfl, rfl, rfl, trivial, trivial⟩, Or.inr ⟨3, d34_93, rfl, rfl, trivial, trivial, ⟨by decide, ⟨_, TX3, 4, rfl, okM_45, rfl⟩, aw_528, aw_529, aw_530⟩⟩, Or.inr ⟨1, d34_96, rfl, rfl, trivial, trivial, trivial⟩, Or.inr ⟨3, d34_97, rfl, rfl, ⟨rfl, by decide⟩, trivial, trivial⟩, Or.inr ⟨3, d34_100, rfl, rfl, rfl, trivial, trivial⟩, Or.inr ⟨1, d34_103, rfl, rfl, trivial, trivial, trivial⟩, trivial⟩
theorem v34 : ∀ pc, am_V9 34 pc ((am_G 34).2.2.2.2.1 pc) := am_all_lc am_V9_0 _ ⟨v34_0, v34_1, v34_2, trivial⟩
theorem d35_0 : decode cX1_cutLeg 0 = .ok (.aload_n 0, 1) := by decide +kernel
theorem d35_1 : decode cX1_cutLeg 1 = .ok (.getfield 62, 3) := by decide +kernel
theorem d35_4 : decode cX1_cutLeg 4 = .ok (.iconst 0, 1) := by decide +kernel
theorem d35_5 : decode cX1_cutLeg 5 = .ok (.bipush 11, 2) := by decide +kernel
theorem d35_7 : decode cX1_cutLeg 7 = .ok (.invokestatic 151, 3) := by decide +kernel
theorem d35_10 : decode cX1_cutLeg 10 = .ok (.ifCond .ne 4, 3) := by decide +kernel
theorem d35_13 : decode cX1_cutLeg 13 = .ok (.return_, 1) := by decide +kernel
theorem d35_14 : decode cX1_cutLeg 14 = .ok (.iconst 1, 1) := by decide +kernel
theorem d35_15 : decode cX1_cutLeg 15 = .ok (.istore_n 3, 1) := by decide +kernel
theorem d35_16 : decode cX1_cutLeg 16 = .ok (.iload_n 3, 1) := by decide +kernel
theorem d35_17 : decode cX1_cutLeg 17 = .ok (.iload_n 2, 1) := by decide +kernel
theorem d35_18 : decode cX1_cutLeg 18 = .ok (.if_icmp .gt 39, 3) := by decide +kernel
theorem d35_21 : decode cX1_cutLeg 21 = .ok (.aload_n 0, 1) := by decide +kernel
theorem d35_22 : decode cX1_cutLeg 22 = .ok (.iload_n 1, 1) := by decide +kernel
theorem d35_23 : decode cX1_cutLeg 23 = .ok (.iload_n 3, 1) := by decide +kernel
theorem d35_24 : decode cX1_cutLeg 24 = .ok (.iload_n 2, 1) := by decide +kernel
theorem d35_25 : decode cX1_cutLeg 25 = .ok (.invokevirtual 234, 3) := by decide +kernel
theorem d35_28 : decode cX1_cutLeg 28 = .ok (.aload_n 0, 1) := by decide +kernel
theorem d35_29 : decode cX1_cutLeg 29 = .ok (.getfield 18, 3) := by decide +kernel
theorem d35_32 : decode cX1_cutLeg 32 = .ok (.aload_n 0, 1) := by decide +kernel
theorem d35_33 : decode cX1_cutLeg 33 = .ok (.getfield 62, 3) := by decide +kernel
theorem d35_36 : decode cX1_cutLeg 36 = .ok (.dup2, 1) := by decide +kernel
theorem d35_37 : decode cX1_cutLeg 37 = .ok (.iaload, 1) := by decide +kernel
theorem d35_38 : decode cX1_cutLeg 38 = .ok (.aload_n 0, 1) := by decide +kernel
theorem d35_39 : decode cX1_cutLeg 39 = .ok (.getfield 12, 3) := by decide +kernel
theorem d35_42 : decode cX1_cutLeg 42 = .ok (.aload_n 0, 1) := by decide +kernel
theorem d35_43 : decode cX1_cutLeg 43 = .ok (.getfield 41, 3) := by decide +kernel
theorem d35_46 : decode cX1_cutLeg 46 = .ok (.invokevirtual 278, 3) := by decide +kernel
theorem d35_49 : decode cX1_cutLeg 49 = .ok (.iadd, 1) := by decide +kernel
theorem d35_50 : decode cX1_cutLeg 50 = .ok (.iastore, 1) := by decide +kernel
theorem d35_51 : decode cX1_cutLeg 51 = .ok (.iinc 3 1, 3) := by decide +kernel
theorem d35_54 : decode cX1_cutLeg 54 = .ok (.goto (-38), 3) := by decide +kernel
theorem d35_57 : decode cX1_cutLeg 57 = .ok (.return_, 1) := by decide +kernel
theorem v35_0 : am_all (am_V9 35) am_l35_0 := ⟨Or.inr ⟨1, d35_0, rfl, rfl, rfl, trivial, trivial⟩, Or.inr ⟨3, d35_1, rfl, rfl, trivial, ⟨RX1, TX1, 20, rfl, by decide, Or.inl aw_197⟩, trivial⟩, Or.inr ⟨1, d35_4, rfl, rfl, am_eq9 (by decide +kernel), trivial, trivial⟩, Or.inr ⟨2, d35_5, rfl, rfl, am_eq9 (by decide +kernel), trivial, trivial⟩, Or.inr ⟨3, d35_7, rfl, rfl, trivial, trivial, Or.inr ⟨by decide, okM_84, aw_280, Or.inr ⟨rfl, _, an_8⟩⟩⟩, Or.inr ⟨3, d35_10, rfl, rfl, rfl, trivial, trivial⟩, Or.inr ⟨1, d35_13, rfl, rfl, trivial, trivial, trivial⟩, Or.inr ⟨1, d35_14, rfl, rfl, am_eq9 (by decide +kernel), trivial, trivial⟩, Or.inr ⟨1, d35_15, rfl, rfl, rfl, trivial, trivial⟩, Or.inr ⟨1, d35_16, rfl, rfl, rfl, trivial, trivial⟩, Or.inr ⟨1, d35_17, rfl, rfl, rfl, trivial, trivial⟩, Or.inr ⟨3, d35_18, rfl, rfl, rfl, trivial, trivial⟩, Or.inr ⟨1, d35_21, rfl, rfl, rfl, trivial, trivial⟩, Or.inr ⟨1, d35_22, rfl, rfl, rfl, trivial, trivial⟩, Or.inr ⟨1, d35_23, rfl, rfl, rfl, trivial, trivial⟩, Or.inr ⟨1, d35_24, rfl, rfl, rfl, trivial, trivial⟩, Or.inr ⟨3, d35_25, rfl, rfl, trivial, trivial, ⟨by decide, ⟨_, TX1, 20, rfl, okM_31, rfl⟩, aw_474, aw_476, as_31⟩⟩, Or.inr ⟨1, d35_28, rfl, rfl, rfl, trivial, trivial⟩, Or.inr ⟨3, d35_29, rfl, rfl, trivial, ⟨RX1, TX1, 20, rfl, by decide, Or.inl aw_184⟩, trivial⟩, Or.inr ⟨1, d35_32, rfl, rfl, rfl, trivial, trivial⟩, Or.inr ⟨3, d35_33, rfl, rfl, trivial, ⟨RX1, TX1, 20, rfl, by decide, Or.inl aw_197⟩, trivial⟩, Or.inr ⟨1, d35_36, rfl, rfl, trivial, trivial, trivial⟩, Or.inr ⟨1, d35_37, rfl, rfl, trivial, trivial, trivial⟩, Or.inr ⟨1, d35_38, rfl, rfl, rfl, trivial, trivial⟩, trivial⟩
theorem v35_1 : am_all (am_V9 35) am_l35_1 := ⟨Or.inr ⟨3, d35_39, rfl, rfl, trivial, ⟨RX1, TX1, 20, rfl, by decide, Or.inl aw_182⟩, trivial⟩, Or.inr ⟨1, d35_42, rfl, rfl, rfl, trivial, trivial⟩, Or.inr ⟨3, d35_43, rfl, rfl, trivial, ⟨RX1, TX1, 20, rfl, by decide, Or.inl aw_192⟩, trivial⟩, Or.inr ⟨3, d35_46, rfl, rfl, trivial, trivial, ⟨by decide, ⟨_, TX0, 1, rfl, okM_9, rfl⟩, aw_524, aw_525, aw_526⟩⟩, Or.inr ⟨1, d35_49, rfl, rfl, trivial, trivial, trivial⟩, Or.inr ⟨1, d35_50, rfl, rfl, trivial, trivial, trivial⟩, Or.inr ⟨3, d35_51, rfl, rfl, ⟨rfl, by decide⟩, trivial, trivial⟩, Or.inr ⟨3, d35_54, rfl, rfl, rfl, trivial, trivial⟩, Or.inr ⟨1, d35_57, rfl, rfl, trivial, trivial, trivial⟩, trivial⟩
theorem v35 : ∀ pc, am_V9 35 pc ((am_G 35).2.2.2.2.1 pc) := am_all_lc am_V9_0 _ ⟨v35_0, v35_1, trivial⟩
