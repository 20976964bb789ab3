/-! The tables' rows, against the bytes. (by gen/tab.py) -/
theorem d36_0 : decode cX1_setVariable 0 = .ok (.iload_n 1, 1) := by decide +kernel
theorem d36_1 : decode cX1_setVariable 1 = .ok (.iconst 0, 1) := by decide +kernel
theorem d36_2 : decode cX1_setVariable 2 = .ok (.bipush 7, 2) := by decide +kernel
theorem d36_4 : decode cX1_setVariable 4 = .ok (.invokestatic 151, 3) := by decide +kernel
theorem d36_7 : decode cX1_setVariable 7 = .ok (.ifCond .eq 20, 3) := by decide +kernel
theorem d36_10 : decode cX1_setVariable 10 = .ok (.aload_n 0, 1) := by decide +kernel
theorem d36_11 : decode cX1_setVariable 11 = .ok (.getfield 22, 3) := by decide +kernel
theorem d36_14 : decode cX1_setVariable 14 = .ok (.iload_n 1, 1) := by decide +kernel
theorem d36_15 : decode cX1_setVariable 15 = .ok (.bipush (-50), 2) := by decide +kernel
theorem d36_17 : decode cX1_setVariable 17 = .ok (.bipush 50, 2) := by decide +kernel
theorem d36_19 : decode cX1_setVariable 19 = .ok (.iload_n 2, 1) := by decide +kernel
theorem d36_20 : decode cX1_setVariable 20 = .ok (.invokestatic 282, 3) := by decide +kernel
theorem d36_23 : decode cX1_setVariable 23 = .ok (.invokestatic 287, 3) := by decide +kernel
theorem d36_26 : decode cX1_setVariable 26 = .ok (.iastore, 1) := by decide +kernel
theorem d36_27 : decode cX1_setVariable 27 = .ok (.return_, 1) := by decide +kernel
theorem v36_0 : am_all (am_V9 36) am_l36_0 := ⟨Or.inr ⟨1, d36_0, rfl, rfl, rfl, trivial, trivial⟩, Or.inr ⟨1, d36_1, rfl, rfl, am_eq9 (by decide +kernel), trivial, trivial⟩, Or.inr ⟨2, d36_2, rfl, rfl, am_eq9 (by decide +kernel), trivial, trivial⟩, Or.inr ⟨3, d36_4, rfl, rfl, trivial, trivial, Or.inr ⟨by decide, okM_84, aw_280, Or.inr ⟨rfl, _, an_8⟩⟩⟩, Or.inr ⟨3, d36_7, rfl, rfl, rfl, trivial, trivial⟩, Or.inr ⟨1, d36_10, rfl, rfl, rfl, trivial, trivial⟩, Or.inr ⟨3, d36_11, rfl, rfl, trivial, ⟨RX1, TX1, 20, rfl, by decide, Or.inl aw_186⟩, trivial⟩, Or.inr ⟨1, d36_14, rfl, rfl, rfl, trivial, trivial⟩, Or.inr ⟨2, d36_15, rfl, rfl, am_eq9 (by decide +kernel), trivial, trivial⟩, Or.inr ⟨2, d36_17, rfl, rfl, am_eq9 (by decide +kernel), trivial, trivial⟩, Or.inr ⟨1, d36_19, rfl, rfl, rfl, trivial, trivial⟩, Or.inr ⟨3, d36_20, rfl, rfl, trivial, trivial, Or.inr ⟨by decide, okM_160, aw_541, Or.inl ⟨rfl, aw_540⟩⟩⟩, Or.inr ⟨3, d36_23, rfl, rfl, trivial, trivial, Or.inr ⟨by decide, okM_159, aw_472, Or.inl ⟨rfl, aw_543⟩⟩⟩, Or.inr ⟨1, d36_26, rfl, rfl, trivial, trivial, trivial⟩, Or.inr ⟨1, d36_27, rfl, rfl, trivial, trivial, trivial⟩, trivial⟩
theorem v36 : ∀ pc, am_V9 36 pc ((am_G 36).2.2.2.2.1 pc) := am_all_lc am_V9_0 _ ⟨v36_0, trivial⟩
theorem d37_0 : decode cX1_leastFreeLevel 0 = .ok (.aload_n 0, 1) := by decide +kernel
theorem d37_1 : decode cX1_leastFreeLevel 1 = .ok (.getfield 25, 3) := by decide +kernel
theorem d37_4 : decode cX1_leastFreeLevel 4 = .ok (.iconst 2, 1) := by decide +kernel
theorem d37_5 : decode cX1_leastFreeLevel 5 = .ok (.iaload, 1) := by decide +kernel
theorem d37_6 : decode cX1_leastFreeLevel 6 = .ok (.istore_n 1, 1) := by decide +kernel
theorem d37_7 : decode cX1_leastFreeLevel 7 = .ok (.iload_n 1, 1) := by decide +kernel
theorem d37_8 : decode cX1_leastFreeLevel 8 = .ok (.ifCond .le 47, 3) := by decide +kernel
theorem d37_11 : decode cX1_leastFreeLevel 11 = .ok (.aload_n 0, 1) := by decide +kernel
theorem d37_12 : decode cX1_leastFreeLevel 12 = .ok (.getfield 41, 3) := by decide +kernel
theorem d37_15 : decode cX1_leastFreeLevel 15 = .ok (.aload_n 0, 1) := by decide +kernel
theorem d37_16 : decode cX1_leastFreeLevel 16 = .ok (.getfield 25, 3) := by decide +kernel
theorem d37_19 : decode cX1_leastFreeLevel 19 = .ok (.iconst 0, 1) := by decide +kernel
theorem d37_20 : decode cX1_leastFreeLevel 20 = .ok (.iaload, 1) := by decide +kernel
theorem d37_21 : decode cX1_leastFreeLevel 21 = .ok (.aload_n 0, 1) := by decide +kernel
theorem d37_22 : decode cX1_leastFreeLevel 22 = .ok (.getfield 25, 3) := by decide +kernel
theorem d37_25 : decode cX1_leastFreeLevel 25 = .ok (.iconst 1, 1) := by decide +kernel
theorem d37_26 : decode cX1_leastFreeLevel 26 = .ok (.iaload, 1) := by decide +kernel
theorem d37_27 : decode cX1_leastFreeLevel 27 = .ok (.iload_n 1, 1) := by decide +kernel
theorem d37_28 : decode cX1_leastFreeLevel 28 = .ok (.iconst 1, 1) := by decide +kernel
theorem d37_29 : decode cX1_leastFreeLevel 29 = .ok (.isub, 1) := by decide +kernel
theorem d37_30 : decode cX1_leastFreeLevel 30 = .ok (.invokevirtual 256, 3) := by decide +kernel
theorem d37_33 : decode cX1_leastFreeLevel 33 = .ok (.aload_n 0, 1) := by decide +kernel
theorem d37_34 : decode cX1_leastFreeLevel 34 = .ok (.getfield 12, 3) := by decide +kernel
theorem d37_37 : decode cX1_leastFreeLevel 37 = .ok (.aload_n 0, 1) := by decide +kernel
theorem d37_38 : decode cX1_leastFreeLevel 38 = .ok (.getfield 41, 3) := by decide +kernel
theorem d37_41 : decode cX1_leastFreeLevel 41 = .ok (.invokevirtual 237, 3) := by decide +kernel
theorem d37_44 : decode cX1_leastFreeLevel 44 = .ok (.ifCond .eq 5, 3) := by decide +kernel
theorem d37_47 : decode cX1_leastFreeLevel 47 = .ok (.iload_n 1, 1) := by decide +kernel
theorem d37_48 : decode cX1_leastFreeLevel 48 = .ok (.ireturn, 1) := by decide +kernel
theorem d37_49 : decode cX1_leastFreeLevel 49 = .ok (.iinc 1 (-1), 3) := by decide +kernel
theorem d37_52 : decode cX1_leastFreeLevel 52 = .ok (.goto (-45), 3) := by decide +kernel
theorem d37_55 : decode cX1_leastFreeLevel 55 = .ok (.iconst 0, 1) := by decide +kernel
theorem d37_56 : decode cX1_leastFreeLevel 56 = .ok (.ireturn, 1) := by decide +kernel
theorem v37_0 : am_all (am_V9 37) am_l37_0 := ⟨Or.inr ⟨1, d37_0, rfl, rfl, rfl, trivial, trivial⟩, Or.inr ⟨3, d37_1, rfl, rfl, trivial, ⟨RX1, TX1, 20, rfl, by decide, Or.inl aw_188⟩, trivial⟩, Or.inr ⟨1, d37_4, rfl, rfl, am_eq9 (by decide +kernel), trivial, trivial⟩, Or.inr ⟨1, d37_5, rfl, rfl, trivial, trivial, trivial⟩, Or.inr ⟨1, d37_6, rfl, rfl, rfl, trivial, trivial⟩, Or.inr ⟨1, d37_7, rfl, rfl, rfl, trivial, trivial⟩, Or.inr ⟨3, d37_8, rfl, rfl, rfl, trivial, trivial⟩, Or.inr ⟨1, d37_11, rfl, rfl, rfl, trivial, trivial⟩, Or.inr ⟨3, d37_12, rfl, rfl, trivial, ⟨RX1, TX1, 20, rfl, by decide, Or.inl aw_192⟩, trivial⟩, Or.inr ⟨1, d37_15, rfl, rfl, rfl, trivial, trivial⟩, Or.inr ⟨3, d37_16, rfl, rfl, trivial, ⟨RX1, TX1, 20, rfl, by decide, Or.inl aw_188⟩, trivial⟩, Or.inr ⟨1, d37_19, rfl, rfl, am_eq9 (by decide +kernel), trivial, trivial⟩, Or.inr ⟨1, d37_20, rfl, rfl, trivial, trivial, trivial⟩, Or.inr ⟨1, d37_21, rfl, rfl, rfl, trivial, trivial⟩, Or.inr ⟨3, d37_22, rfl, rfl, trivial, ⟨RX1, TX1, 20, rfl, by decide, Or.inl aw_188⟩, trivial⟩, Or.inr ⟨1, d37_25, rfl, rfl, am_eq9 (by decide +kernel), trivial, trivial⟩, Or.inr ⟨1, d37_26, rfl, rfl, trivial, trivial, trivial⟩, Or.inr ⟨1, d37_27, rfl, rfl, rfl, trivial, trivial⟩, Or.inr ⟨1, d37_28, rfl, rfl, am_eq9 (by decide +kernel), trivial, trivial⟩, Or.inr ⟨1, d37_29, rfl, rfl, trivial, trivial, trivial⟩, Or.inr ⟨3, d37_30, rfl, rfl, trivial, trivial, ⟨by decide, ⟨_, TX6, 5, rfl, okM_63, rfl⟩, aw_482, aw_483, aw_484⟩⟩, Or.inr ⟨1, d37_33, rfl, rfl, rfl, trivial, trivial⟩, Or.inr ⟨3, d37_34, rfl, rfl, trivial, ⟨RX1, TX1, 20, rfl, by decide, Or.inl aw_182⟩, trivial⟩, Or.inr ⟨1, d37_37, rfl, rfl, rfl, trivial, trivial⟩, trivial⟩
theorem v37_1 : am_all (am_V9 37) am_l37_1 := ⟨Or.inr ⟨3, d37_38, rfl, rfl, trivial, ⟨RX1, TX1, 20, rfl, by decide, Or.inl aw_192⟩, trivial⟩, Or.inr ⟨3, d37_41, rfl, rfl, trivial, trivial, ⟨by decide, ⟨_, TX0, 1, rfl, okM_8, rfl⟩, aw_486, aw_487, aw_488⟩⟩, Or.inr ⟨3, d37_44, rfl, rfl, rfl, trivial, trivial⟩, Or.inr ⟨1, d37_47, rfl, rfl, rfl, trivial, trivial⟩, Or.inr ⟨1, d37_48, rfl, rfl, trivial, trivial, trivial⟩, Or.inr ⟨3, d37_49, rfl, rfl, ⟨rfl, by decide⟩, trivial, trivial⟩, Or.inr ⟨3, d37_52, rfl, rfl, rfl, trivial, trivial⟩, Or.inr ⟨1, d37_55, rfl, rfl, am_eq9 (by decide +kernel), trivial, trivial⟩, Or.inr ⟨1, d37_56, rfl, rfl, trivial, trivial, trivial⟩, trivial⟩
theorem v37 : ∀ pc, am_V9 37 pc ((am_G 37).2.2.2.2.1 pc) := am_all_lc am_V9_0 _ ⟨v37_0, v37_1, trivial⟩
theorem d38_0 : decode cX1_followingOpening 0 = .ok (.aload_n 0, 1) := by decide +kernel
theorem d38_1 : decode cX1_followingOpening 1 = .ok (.getfield 82, 3) := by decide +kernel
theorem d38_4 : decode cX1_followingOpening 4 = .ok (.bipush 114, 2) := by decide +kernel
theorem d38_6 : decode cX1_followingOpening 6 = .ok (.if_icmp .ne 18, 3) := by decide +kernel
theorem d38_9 : decode cX1_followingOpening 9 = .ok (.aload_n 0, 1) := by decide +kernel
theorem d38_10 : decode cX1_followingOpening 10 = .ok (.getfield 114, 3) := by decide +kernel
theorem d38_13 : decode cX1_followingOpening 13 = .ok (.ifCond .le 7, 3) := by decide +kernel
theorem d38_16 : decode cX1_followingOpening 16 = .ok (.iconst 1, 1) := by decide +kernel
theorem d38_17 : decode cX1_followingOpening 17 = .ok (.goto 23, 3) := by decide +kernel
theorem d38_20 : decode cX1_followingOpening 20 = .ok (.iconst 0, 1) := by decide +kernel
theorem d38_21 : decode cX1_followingOpening 21 = .ok (.goto 19, 3) := by decide +kernel
theorem d38_24 : decode cX1_followingOpening 24 = .ok (.aload_n 0, 1) := by decide +kernel
theorem d38_25 : decode cX1_followingOpening 25 = .ok (.getfield 114, 3) := by decide +kernel
theorem d38_28 : decode cX1_followingOpening 28 = .ok (.aload_n 0, 1) := by decide +kernel
theorem d38_29 : decode cX1_followingOpening 29 = .ok (.getfield 120, 3) := by decide +kernel
theorem d38_32 : decode cX1_followingOpening 32 = .ok (.if_icmp .le 7, 3) := by decide +kernel
theorem d38_35 : decode cX1_followingOpening 35 = .ok (.iconst 1, 1) := by decide +kernel
theorem d38_36 : decode cX1_followingOpening 36 = .ok (.goto 4, 3) := by decide +kernel
theorem d38_39 : decode cX1_followingOpening 39 = .ok (.iconst 0, 1) := by decide +kernel
theorem d38_40 : decode cX1_followingOpening 40 = .ok (.istore_n 1, 1) := by decide +kernel
theorem d38_41 : decode cX1_followingOpening 41 = .ok (.iload_n 1, 1) := by decide +kernel
theorem d38_42 : decode cX1_followingOpening 42 = .ok (.ifCond .ne 20, 3) := by decide +kernel
theorem d38_45 : decode cX1_followingOpening 45 = .ok (.aload_n 0, 1) := by decide +kernel
theorem d38_46 : decode cX1_followingOpening 46 = .ok (.getfield 45, 3) := by decide +kernel
theorem d38_49 : decode cX1_followingOpening 49 = .ok (.getfield 85, 3) := by decide +kernel
theorem d38_52 : decode cX1_followingOpening 52 = .ok (.aload_n 0, 1) := by decide +kernel
theorem d38_53 : decode cX1_followingOpening 53 = .ok (.getfield 55, 3) := by decide +kernel
theorem d38_56 : decode cX1_followingOpening 56 = .ok (.invokevirtual 290, 3) := by decide +kernel
theorem d38_59 : decode cX1_followingOpening 59 = .ok (.iconst 1, 1) := by decide +kernel
theorem d38_60 : decode cX1_followingOpening 60 = .ok (.iadd, 1) := by decide +kernel
theorem d38_61 : decode cX1_followingOpening 61 = .ok (.ireturn, 1) := by decide +kernel
theorem d38_62 : decode cX1_followingOpening 62 = .ok (.aload_n 0, 1) := by decide +kernel
theorem d38_63 : decode cX1_followingOpening 63 = .ok (.getfield 45, 3) := by decide +kernel
theorem d38_66 : decode cX1_followingOpening 66 = .ok (.getfield 85, 3) := by decide +kernel
theorem d38_69 : decode cX1_followingOpening 69 = .ok (.aload_n 0, 1) := by decide +kernel
theorem d38_70 : decode cX1_followingOpening 70 = .ok (.getfield 55, 3) := by decide +kernel
theorem d38_73 : decode cX1_followingOpening 73 = .ok (.invokevirtual 100, 3) := by decide +kernel
theorem d38_76 : decode cX1_followingOpening 76 = .ok (.ifCond .eq 16, 3) := by decide +kernel
theorem d38_79 : decode cX1_followingOpening 79 = .ok (.aload_n 0, 1) := by decide +kernel
theorem d38_80 : decode cX1_followingOpening 80 = .ok (.getfield 28, 3) := by decide +kernel
theorem d38_83 : decode cX1_followingOpening 83 = .ok (.aload_n 0, 1) := by decide +kernel
theorem d38_84 : decode cX1_followingOpening 84 = .ok (.getfield 55, 3) := by decide +kernel
theorem d38_87 : decode cX1_followingOpening 87 = .ok (.aload_n 0, 1) := by decide +kernel
theorem d38_88 : decode cX1_followingOpening 88 = .ok (.getfield 114, 3) := by decide +kernel
theorem d38_91 : decode cX1_followingOpening 91 = .ok (.iastore, 1) := by decide +kernel
theorem d38_92 : decode cX1_followingOpening 92 = .ok (.aload_n 0, 1) := by decide +kernel
theorem d38_93 : decode cX1_followingOpening 93 = .ok (.getfield 55, 3) := by decide +kernel
theorem d38_96 : decode cX1_followingOpening 96 = .ok (.iconst 1, 1) := by decide +kernel
theorem d38_97 : decode cX1_followingOpening 97 = .ok (.iadd, 1) := by decide +kernel
theorem d38_98 : decode cX1_followingOpening 98 = .ok (.ireturn, 1) := by decide +kernel
theorem v38_0 : am_all (am_V9 38) am_l38_0 := ⟨Or.inr ⟨1, d38_0, rfl, rfl, rfl, trivial, trivial⟩, Or.inr ⟨3, d38_1, rfl, rfl, trivial, ⟨RX1, TX1, 20, rfl, by decide, Or.inl aw_205⟩, trivial⟩, Or.inr ⟨2, d38_4, rfl, rfl, am_eq9 (by decide +kernel), trivial, trivial⟩, Or.inr ⟨3, d38_6, rfl, rfl, rfl, trivial, trivial⟩, Or.inr ⟨1, d38_9, rfl, rfl, rfl, trivial, trivial⟩, Or.inr ⟨3, d38_10, rfl, rfl, trivial, ⟨RX1, TX1, 20, rfl, by decide, Or.inl aw_206⟩, trivial⟩, Or.inr ⟨3, d38_13, rfl, rfl, rfl, trivial, trivial⟩, Or.inr ⟨1, d38_16, rfl, rfl, am_eq9 (by decide +kernel), trivial, trivial⟩, Or.inr ⟨3, d38_17, rfl, rfl, rfl, trivial, trivial⟩, Or.inr ⟨1, d38_20, rfl, rfl, am_eq9 (by decide +kernel), trivial, trivial⟩, Or.inr ⟨3, d38_21, rfl, rfl, rfl, trivial, trivial⟩, Or.inr ⟨1, d38_24, rfl, rfl, rfl, trivial, trivial⟩, Or.inr ⟨3, d38_25, rfl, rfl, trivial, ⟨RX1, TX1, 20, rfl, by decide, Or.inl aw_206⟩, trivial⟩, Or.inr ⟨1, d38_28, rfl, rfl, rfl, trivial, trivial⟩, Or.inr ⟨3, d38_29, rfl, rfl, trivial, ⟨RX1, TX1, 20, rfl, by decide, Or.inl aw_207⟩, trivial⟩, Or.inr ⟨3, d38_32, rfl, rfl, rfl, trivial, trivial⟩, Or.inr ⟨1, d38_35, rfl, rfl, am_eq9 (by decide +kernel), trivial, trivial⟩, Or.inr ⟨3, d38_36, rfl, rfl, rfl, trivial, trivial⟩, Or.inr ⟨1, d38_39, rfl, rfl, am_eq9 (by decide +kernel), trivial, trivial⟩, Or.inr ⟨1, d38_40, rfl, rfl, rfl, trivial, trivial⟩, Or.inr ⟨1, d38_41, rfl, rfl, rfl, trivial, trivial⟩, Or.inr ⟨3, d38_42, rfl, rfl, rfl, trivial, trivial⟩, Or.inr ⟨1, d38_45, rfl, rfl, rfl, trivial, trivial⟩, Or.inr ⟨3, d38_46, rfl, rfl, trivial, ⟨RX1, TX1, 20, rfl, by decide, Or.inl aw_181⟩, trivial⟩, trivial⟩
theorem v38_1 : am_all (am_V9 38) am_l38_1 := ⟨Or.inr ⟨3, d38_49, rfl, rfl, trivial, ⟨RX2, TX2, 4, rfl, by decide, Or.inl aw_111⟩, trivial⟩, Or.inr ⟨1, d38_52, rfl, rfl, rfl, trivial, trivial⟩, Or.inr ⟨3, d38_53, rfl, rfl, trivial, ⟨RX1, TX1, 20, rfl, by decide, Or.inl aw_193⟩, trivial⟩, Or.inr ⟨3, d38_56, rfl, rfl, trivial, trivial, ⟨by decide, ⟨_, TX4, 6, rfl, okM_161, rfl⟩, aw_552, aw_553, aw_554⟩⟩, Or.inr ⟨1, d38_59, rfl, rfl, am_eq9 (by decide +kernel), trivial, trivial⟩, Or.inr ⟨1, d38_60, rfl, rfl, trivial, trivial, trivial⟩, Or.inr ⟨1, d38_61, rfl, rfl, trivial, trivial, trivial⟩, Or.inr ⟨1, d38_62, rfl, rfl, rfl, trivial, trivial⟩, Or.inr ⟨3, d38_63, rfl, rfl, trivial, ⟨RX1, TX1, 20, rfl, by decide, Or.inl aw_181⟩, trivial⟩, Or.inr ⟨3, d38_66, rfl, rfl, trivial, ⟨RX2, TX2, 4, rfl, by decide, Or.inl aw_111⟩, trivial⟩, Or.inr ⟨1, d38_69, rfl, rfl, rfl, trivial, trivial⟩, Or.inr ⟨3, d38_70, rfl, rfl, trivial, ⟨RX1, TX1, 20, rfl, by decide, Or.inl aw_193⟩, trivial⟩, Or.inr ⟨3, d38_73, rfl, rfl, trivial, trivial, ⟨by decide, ⟨_, TX4, 6, rfl, okM_54, rfl⟩, aw_366, aw_276, aw_277⟩⟩, Or.inr ⟨3, d38_76, rfl, rfl, rfl, trivial, trivial⟩, Or.inr ⟨1, d38_79, rfl, rfl, rfl, trivial, trivial⟩, Or.inr ⟨3, d38_80, rfl, rfl, trivial, ⟨RX1, TX1, 20, rfl, by decide, Or.inl aw_190⟩, trivial⟩, Or.inr ⟨1, d38_83, rfl, rfl, rfl, trivial, trivial⟩, Or.inr ⟨3, d38_84, rfl, rfl, trivial, ⟨RX1, TX1, 20, rfl, by decide, Or.inl aw_193⟩, trivial⟩, Or.inr ⟨1, d38_87, rfl, rfl, rfl, trivial, trivial⟩, Or.inr ⟨3, d38_88, rfl, rfl, trivial, ⟨RX1, TX1, 20, rfl, by decide, Or.inl aw_206⟩, trivial⟩, Or.inr ⟨1, d38_91, rfl, rfl, trivial, trivial, trivial⟩, Or.inr ⟨1, d38_92, rfl, rfl, rfl, trivial, trivial⟩, Or.inr ⟨3, d38_93, rfl, rfl, trivial, ⟨RX1, TX1, 20, rfl, by decide, Or.inl aw_193⟩, trivial⟩, Or.inr ⟨1, d38_96, rfl, rfl, am_eq9 (by decide +kernel), trivial, trivial⟩, trivial⟩
theorem v38_2 : am_all (am_V9 38) am_l38_2 := ⟨Or.inr ⟨1, d38_97, rfl, rfl, trivial, trivial, trivial⟩, Or.inr ⟨1, d38_98, rfl, rfl, trivial, trivial, trivial⟩, trivial⟩
theorem v38 : ∀ pc, am_V9 38 pc ((am_G 38).2.2.2.2.1 pc) := am_all_lc am_V9_0 _ ⟨v38_0, v38_1, v38_2, trivial⟩
theorem d39_0 : decode cX1_followingClosing 0 = .ok (.aload_n 0, 1) := by decide +kernel
theorem d39_1 : decode cX1_followingClosing 1 = .ok (.getfield 45, 3) := by decide +kernel
theorem d39_4 : decode cX1_followingClosing 4 = .ok (.getfield 85, 3) := by decide +kernel
theorem d39_7 : decode cX1_followingClosing 7 = .ok (.aload_n 0, 1) := by decide +kernel
theorem d39_8 : decode cX1_followingClosing 8 = .ok (.getfield 55, 3) := by decide +kernel
theorem d39_11 : decode cX1_followingClosing 11 = .ok (.invokevirtual 290, 3) := by decide +kernel
theorem d39_14 : decode cX1_followingClosing 14 = .ok (.istore_n 1, 1) := by decide +kernel
theorem d39_15 : decode cX1_followingClosing 15 = .ok (.aload_n 0, 1) := by decide +kernel
theorem d39_16 : decode cX1_followingClosing 16 = .ok (.getfield 45, 3) := by decide +kernel
theorem d39_19 : decode cX1_followingClosing 19 = .ok (.getfield 85, 3) := by decide +kernel
theorem d39_22 : decode cX1_followingClosing 22 = .ok (.iload_n 1, 1) := by decide +kernel
theorem d39_23 : decode cX1_followingClosing 23 = .ok (.invokevirtual 100, 3) := by decide +kernel
theorem d39_26 : decode cX1_followingClosing 26 = .ok (.ifCond .eq 20, 3) := by decide +kernel
theorem d39_29 : decode cX1_followingClosing 29 = .ok (.aload_n 0, 1) := by decide +kernel
theorem d39_30 : decode cX1_followingClosing 30 = .ok (.getfield 45, 3) := by decide +kernel
theorem d39_33 : decode cX1_followingClosing 33 = .ok (.getfield 85, 3) := by decide +kernel
theorem d39_36 : decode cX1_followingClosing 36 = .ok (.getfield 104, 3) := by decide +kernel
theorem d39_39 : decode cX1_followingClosing 39 = .ok (.iload_n 1, 1) := by decide +kernel
theorem d39_40 : decode cX1_followingClosing 40 = .ok (.iaload, 1) := by decide +kernel
theorem d39_41 : decode cX1_followingClosing 41 = .ok (.bipush 114, 2) := by decide +kernel
theorem d39_43 : decode cX1_followingClosing 43 = .ok (.if_icmp .eq 10, 3) := by decide +kernel
theorem d39_46 : decode cX1_followingClosing 46 = .ok (.aload_n 0, 1) := by decide +kernel
theorem d39_47 : decode cX1_followingClosing 47 = .ok (.getfield 55, 3) := by decide +kernel
theorem d39_50 : decode cX1_followingClosing 50 = .ok (.iconst 1, 1) := by decide +kernel
theorem d39_51 : decode cX1_followingClosing 51 = .ok (.iadd, 1) := by decide +kernel
theorem d39_52 : decode cX1_followingClosing 52 = .ok (.ireturn, 1) := by decide +kernel
theorem d39_53 : decode cX1_followingClosing 53 = .ok (.aload_n 0, 1) := by decide +kernel
theorem d39_54 : decode cX1_followingClosing 54 = .ok (.getfield 28, 3) := by decide +kernel
theorem d39_57 : decode cX1_followingClosing 57 = .ok (.iload_n 1, 1) := by decide +kernel
theorem d39_58 : decode cX1_followingClosing 58 = .ok (.dup2, 1) := by decide +kernel
theorem d39_59 : decode cX1_followingClosing 59 = .ok (.iaload, 1) := by decide +kernel
theorem d39_60 : decode cX1_followingClosing 60 = .ok (.iconst 1, 1) := by decide +kernel
theorem d39_61 : decode cX1_followingClosing 61 = .ok (.isub, 1) := by decide +kernel
theorem d39_62 : decode cX1_followingClosing 62 = .ok (.iastore, 1) := by decide +kernel
theorem d39_63 : decode cX1_followingClosing 63 = .ok (.aload_n 0, 1) := by decide +kernel
theorem d39_64 : decode cX1_followingClosing 64 = .ok (.getfield 28, 3) := by decide +kernel
theorem d39_67 : decode cX1_followingClosing 67 = .ok (.iload_n 1, 1) := by decide +kernel
theorem d39_68 : decode cX1_followingClosing 68 = .ok (.iaload, 1) := by decide +kernel
theorem d39_69 : decode cX1_followingClosing 69 = .ok (.ifCond .le 9, 3) := by decide +kernel
theorem d39_72 : decode cX1_followingClosing 72 = .ok (.iload_n 1, 1) := by decide +kernel
theorem d39_73 : decode cX1_followingClosing 73 = .ok (.iconst 1, 1) := by decide +kernel
theorem d39_74 : decode cX1_followingClosing 74 = .ok (.iadd, 1) := by decide +kernel
theorem d39_75 : decode cX1_followingClosing 75 = .ok (.goto 9, 3) := by decide +kernel
theorem d39_78 : decode cX1_followingClosing 78 = .ok (.aload_n 0, 1) := by decide +kernel
theorem d39_79 : decode cX1_followingClosing 79 = .ok (.getfield 55, 3) := by decide +kernel
theorem d39_82 : decode cX1_followingClosing 82 = .ok (.iconst 1, 1) := by decide +kernel
theorem d39_83 : decode cX1_followingClosing 83 = .ok (.iadd, 1) := by decide +kernel
theorem d39_84 : decode cX1_followingClosing 84 = .ok (.ireturn, 1) := by decide +kernel
theorem v39_0 : am_all (am_V9 39) am_l39_0 := ⟨Or.inr ⟨1, d39_0, rfl, rfl, rfl, trivial, trivial⟩, Or.inr ⟨3, d39_1, rfl, rfl, trivial, ⟨RX1, TX1, 20, rfl, by decide, Or.inl aw_181⟩, trivial⟩, Or.inr ⟨3, d39_4, rfl, rfl, trivial, ⟨RX2, TX2, 4, rfl, by decide, Or.inl aw_111⟩, trivial⟩, Or.inr ⟨1, d39_7, rfl, rfl, rfl, trivial, trivial⟩, Or.inr ⟨3, d39_8, rfl, rfl, trivial, ⟨RX1, TX1, 20, rfl, by decide, Or.inl aw_193⟩, trivial⟩, Or.inr ⟨3, d39_11, rfl, rfl, trivial, trivial, ⟨by decide, ⟨_, TX4, 6, rfl, okM_161, rfl⟩, aw_552, aw_553, aw_554⟩⟩, Or.inr ⟨1, d39_14, rfl, rfl, rfl, trivial, trivial⟩, Or.inr ⟨1, d39_15, rfl, rfl, rfl, trivial, trivial⟩, Or.inr ⟨3, d39_16, rfl, rfl, trivial, ⟨RX1, TX1, 20, rfl, by decide, Or.inl aw_181⟩, trivial⟩, Or.inr ⟨3, d39_19, rfl, rfl, trivial, ⟨RX2, TX2, 4, rfl, by decide, Or.inl aw_111⟩, trivial⟩, Or.inr ⟨1, d39_22, rfl, rfl, rfl, trivial, trivial⟩, Or.inr ⟨3, d39_23, rfl, rfl, trivial, trivial, ⟨by decide, ⟨_, TX4, 6, rfl, okM_54, rfl⟩, aw_366, aw_276, aw_277⟩⟩, Or.inr ⟨3, d39_26, rfl, rfl, rfl, trivial, trivial⟩, Or.inr ⟨1, d39_29, rfl, rfl, rfl, trivial, trivial⟩, Or.inr ⟨3, d39_30, rfl, rfl, trivial, ⟨RX1, TX1, 20, rfl, by decide, Or.inl aw_181⟩, trivial⟩, Or.inr ⟨3, d39_33, rfl, rfl, trivial, ⟨RX2, TX2, 4, rfl, by decide, Or.inl aw_111⟩, trivial⟩, Or.inr ⟨3, d39_36, rfl, rfl, trivial, ⟨RX4, TX4, 6, rfl, by decide, Or.inl aw_77⟩, trivial⟩, Or.inr ⟨1, d39_39, rfl, rfl, rfl, trivial, trivial⟩, Or.inr ⟨1, d39_40, rfl, rfl, trivial, trivial, trivial⟩, Or.inr ⟨2, d39_41, rfl, rfl, am_eq9 (by decide +kernel), trivial, trivial⟩, Or.inr ⟨3, d39_43, rfl, rfl, rfl, trivial, trivial⟩, Or.inr ⟨1, d39_46, rfl, rfl, rfl, trivial, trivial⟩, Or.inr ⟨3, d39_47, rfl, rfl, trivial, ⟨RX1, TX1, 20, rfl, by decide, Or.inl aw_193⟩, trivial⟩, Or.inr ⟨1, d39_50, rfl, rfl, am_eq9 (by decide +kernel), trivial, trivial⟩, trivial⟩
theorem v39_1 : am_all (am_V9 39) am_l39_1 := ⟨Or.inr ⟨1, d39_51, rfl, rfl, trivial, trivial, trivial⟩, Or.inr ⟨1, d39_52, rfl, rfl, trivial, trivial, trivial⟩, Or.inr ⟨1, d39_53, rfl, rfl, rfl, trivial, trivial⟩, Or.inr ⟨3, d39_54, rfl, rfl, trivial, ⟨RX1, TX1, 20, rfl, by decide, Or.inl aw_190⟩, trivial⟩, Or.inr ⟨1, d39_57, rfl, rfl, rfl, trivial, trivial⟩, Or.inr ⟨1, d39_58, rfl, rfl, trivial, trivial, trivial⟩, Or.inr ⟨1, d39_59, rfl, rfl, trivial, trivial, trivial⟩, Or.inr ⟨1, d39_60, rfl, rfl, am_eq9 (by decide +kernel), trivial, trivial⟩, Or.inr ⟨1, d39_61, rfl, rfl, trivial, trivial, trivial⟩, Or.inr ⟨1, d39_62, rfl, rfl, trivial, trivial, trivial⟩, Or.inr ⟨1, d39_63, rfl, rfl, rfl, trivial, trivial⟩, Or.inr ⟨3, d39_64, rfl, rfl, trivial, ⟨RX1, TX1, 20, rfl, by decide, Or.inl aw_190⟩, trivial⟩, Or.inr ⟨1, d39_67, rfl, rfl, rfl, trivial, trivial⟩, Or.inr ⟨1, d39_68, rfl, rfl, trivial, trivial, trivial⟩, Or.inr ⟨3, d39_69, rfl, rfl, rfl, trivial, trivial⟩, Or.inr ⟨1, d39_72, rfl, rfl, rfl, trivial, trivial⟩, Or.inr ⟨1, d39_73, rfl, rfl, am_eq9 (by decide +kernel), trivial, trivial⟩, Or.inr ⟨1, d39_74, rfl, rfl, trivial, trivial, trivial⟩, Or.inr ⟨3, d39_75, rfl, rfl, rfl, trivial, trivial⟩, Or.inr ⟨1, d39_78, rfl, rfl, rfl, trivial, trivial⟩, Or.inr ⟨3, d39_79, rfl, rfl, trivial, ⟨RX1, TX1, 20, rfl, by decide, Or.inl aw_193⟩, trivial⟩, Or.inr ⟨1, d39_82, rfl, rfl, am_eq9 (by decide +kernel), trivial, trivial⟩, Or.inr ⟨1, d39_83, rfl, rfl, trivial, trivial, trivial⟩, Or.inr ⟨1, d39_84, rfl, rfl, trivial, trivial, trivial⟩, trivial⟩
theorem v39 : ∀ pc, am_V9 39 pc ((am_G 39).2.2.2.2.1 pc) := am_all_lc am_V9_0 _ ⟨v39_0, v39_1, trivial⟩
theorem d40_0 : decode cX2_init 0 = .ok (.aload_n 0, 1) := by decide +kernel
theorem d40_1 : decode cX2_init 1 = .ok (.invokespecial 3, 3) := by decide +kernel
theorem d40_4 : decode cX2_init 4 = .ok (.aload_n 0, 1) := by decide +kernel
theorem d40_5 : decode cX2_init 5 = .ok (.new 9, 3) := by decide +kernel
theorem d40_8 : decode cX2_init 8 = .ok (.dup, 1) := by decide +kernel
theorem d40_9 : decode cX2_init 9 = .ok (.invokespecial 11, 3) := by decide +kernel
theorem d40_12 : decode cX2_init 12 = .ok (.putfield 12, 3) := by decide +kernel
theorem d40_15 : decode cX2_init 15 = .ok (.aload_n 0, 1) := by decide +kernel
theorem d40_16 : decode cX2_init 16 = .ok (.new 18, 3) := by decide +kernel
theorem d40_19 : decode cX2_init 19 = .ok (.dup, 1) := by decide +kernel
theorem d40_20 : decode cX2_init 20 = .ok (.invokespecial 20, 3) := by decide +kernel
theorem d40_23 : decode cX2_init 23 = .ok (.putfield 21, 3) := by decide +kernel
theorem d40_26 : decode cX2_init 26 = .ok (.aload_n 0, 1) := by decide +kernel
theorem d40_27 : decode cX2_init 27 = .ok (.bipush 12, 2) := by decide +kernel
theorem d40_29 : decode cX2_init 29 = .ok (.newarray .int, 2) := by decide +kernel
theorem d40_31 : decode cX2_init 31 = .ok (.putfield 25, 3) := by decide +kernel
theorem d40_34 : decode cX2_init 34 = .ok (.aload_n 0, 1) := by decide +kernel
theorem d40_35 : decode cX2_init 35 = .ok (.new 29, 3) := by decide +kernel
theorem d40_38 : decode cX2_init 38 = .ok (.dup, 1) := by decide +kernel
theorem d40_39 : decode cX2_init 39 = .ok (.invokespecial 31, 3) := by decide +kernel
theorem d40_42 : decode cX2_init 42 = .ok (.putfield 32, 3) := by decide +kernel
theorem d40_45 : decode cX2_init 45 = .ok (.return_, 1) := by decide +kernel
theorem v40_0 : am_all (am_V9 40) am_l40_0 := ⟨Or.inr ⟨1, d40_0, rfl, rfl, rfl, trivial, trivial⟩, Or.inr ⟨3, d40_1, rfl, rfl, trivial, trivial, Or.inl ⟨rfl, aw_38, aw_31, aw_32⟩⟩, Or.inr ⟨1, d40_4, rfl, rfl, rfl, trivial, trivial⟩, Or.inr ⟨3, d40_5, rfl, rfl, trivial, ⟨RX5, TX5, 3, rfl, rfl, aw_39, aw_40, aw_3⟩, trivial⟩, Or.inr ⟨1, d40_8, rfl, rfl, trivial, trivial, trivial⟩, Or.inr ⟨3, d40_9, rfl, rfl, trivial, trivial, Or.inr ⟨by decide, ⟨_, rfl, okM_56⟩, aw_42, rfl, rfl, Or.inr ⟨rfl, _, an_1⟩⟩⟩, Or.inr ⟨3, d40_12, rfl, rfl, trivial, ⟨RX2, TX2, 4, rfl, by decide, aw_101, Or.inr ⟨rfl, rfl, rfl⟩⟩, trivial⟩, Or.inr ⟨1, d40_15, rfl, rfl, rfl, trivial, trivial⟩, Or.inr ⟨3, d40_16, rfl, rfl, trivial, ⟨RX0, TX0, 1, rfl, rfl, aw_60, aw_61, aw_4⟩, trivial⟩, Or.inr ⟨1, d40_19, rfl, rfl, trivial, trivial, trivial⟩, Or.inr ⟨3, d40_20, rfl, rfl, trivial, trivial, Or.inr ⟨by decide, ⟨_, rfl, okM_0⟩, aw_63, rfl, rfl, Or.inr ⟨rfl, _, an_2⟩⟩⟩, Or.inr ⟨3, d40_23, rfl, rfl, trivial, ⟨RX2, TX2, 4, rfl, by decide, aw_104, Or.inr ⟨rfl, rfl, rfl⟩⟩, trivial⟩, Or.inr ⟨1, d40_26, rfl, rfl, rfl, trivial, trivial⟩, Or.inr ⟨2, d40_27, rfl, rfl, am_eq9 (by decide +kernel), trivial, trivial⟩, Or.inr ⟨2, d40_29, rfl, rfl, trivial, ⟨rfl, aw_59⟩, trivial⟩, Or.inr ⟨3, d40_31, rfl, rfl, trivial, ⟨RX2, TX2, 4, rfl, by decide, aw_107, Or.inr ⟨rfl, rfl, rfl⟩⟩, trivial⟩, Or.inr ⟨1, d40_34, rfl, rfl, rfl, trivial, trivial⟩, Or.inr ⟨3, d40_35, rfl, rfl, trivial, ⟨RX4, TX4, 6, rfl, rfl, aw_70, aw_71, aw_5⟩, trivial⟩, Or.inr ⟨1, d40_38, rfl, rfl, trivial, trivial, trivial⟩, Or.inr ⟨3, d40_39, rfl, rfl, trivial, trivial, Or.inr ⟨by decide, ⟨_, rfl, okM_49⟩, aw_73, rfl, rfl, Or.inr ⟨rfl, _, an_3⟩⟩⟩, Or.inr ⟨3, d40_42, rfl, rfl, trivial, ⟨RX2, TX2, 4, rfl, by decide, aw_110, Or.inr ⟨rfl, rfl, rfl⟩⟩, trivial⟩, Or.inr ⟨1, d40_45, rfl, rfl, trivial, trivial, trivial⟩, trivial⟩
theorem v40 : ∀ pc, am_V9 40 pc ((am_G 40).2.2.2.2.1 pc) := am_all_lc am_V9_0 _ ⟨v40_0, trivial⟩
theorem d41_0 : decode cX3_init 0 = .ok (.aload_n 0, 1) := by decide +kernel
theorem d41_1 : decode cX3_init 1 = .ok (.invokespecial 3, 3) := by decide +kernel
theorem d41_4 : decode cX3_init 4 = .ok (.aload_n 0, 1) := by decide +kernel
theorem d41_5 : decode cX3_init 5 = .ok (.sipush 306, 3) := by decide +kernel
theorem d41_8 : decode cX3_init 8 = .ok (.newarray .int, 2) := by decide +kernel
theorem d41_10 : decode cX3_init 10 = .ok (.putfield 9, 3) := by decide +kernel
theorem d41_13 : decode cX3_init 13 = .ok (.aload_n 0, 1) := by decide +kernel
theorem d41_14 : decode cX3_init 14 = .ok (.sipush 306, 3) := by decide +kernel
theorem d41_17 : decode cX3_init 17 = .ok (.newarray .int, 2) := by decide +kernel
theorem d41_19 : decode cX3_init 19 = .ok (.putfield 15, 3) := by decide +kernel
theorem d41_22 : decode cX3_init 22 = .ok (.aload_n 0, 1) := by decide +kernel
theorem d41_23 : decode cX3_init 23 = .ok (.iconst 3, 1) := by decide +kernel
theorem d41_24 : decode cX3_init 24 = .ok (.newarray .int, 2) := by decide +kernel
theorem d41_26 : decode cX3_init 26 = .ok (.putfield 18, 3) := by decide +kernel
theorem d41_29 : decode cX3_init 29 = .ok (.return_, 1) := by decide +kernel
theorem v41_0 : am_all (am_V9 41) am_l41_0 := ⟨Or.inr ⟨1, d41_0, rfl, rfl, rfl, trivial, trivial⟩, Or.inr ⟨3, d41_1, rfl, rfl, trivial, trivial, Or.inl ⟨rfl, aw_135, aw_31, aw_32⟩⟩, Or.inr ⟨1, d41_4, rfl, rfl, rfl, trivial, trivial⟩, Or.inr ⟨3, d41_5, rfl, rfl, am_eq9 (by decide +kernel), trivial, trivial⟩, Or.inr ⟨2, d41_8, rfl, rfl, trivial, ⟨rfl, aw_59⟩, trivial⟩, Or.inr ⟨3, d41_10, rfl, rfl, trivial, ⟨RX3, TX3, 4, rfl, by decide, aw_136, Or.inr ⟨rfl, rfl, rfl⟩⟩, trivial⟩, Or.inr ⟨1, d41_13, rfl, rfl, rfl, trivial, trivial⟩, Or.inr ⟨3, d41_14, rfl, rfl, am_eq9 (by decide +kernel), trivial, trivial⟩, Or.inr ⟨2, d41_17, rfl, rfl, trivial, ⟨rfl, aw_59⟩, trivial⟩, Or.inr ⟨3, d41_19, rfl, rfl, trivial, ⟨RX3, TX3, 4, rfl, by decide, aw_137, Or.inr ⟨rfl, rfl, rfl⟩⟩, trivial⟩, Or.inr ⟨1, d41_22, rfl, rfl, rfl, trivial, trivial⟩, Or.inr ⟨1, d41_23, rfl, rfl, am_eq9 (by decide +kernel), trivial, trivial⟩, Or.inr ⟨2, d41_24, rfl, rfl, trivial, ⟨rfl, aw_59⟩, trivial⟩, Or.inr ⟨3, d41_26, rfl, rfl, trivial, ⟨RX3, TX3, 4, rfl, by decide, aw_138, Or.inr ⟨rfl, rfl, rfl⟩⟩, trivial⟩, Or.inr ⟨1, d41_29, rfl, rfl, trivial, trivial, trivial⟩, trivial⟩
theorem v41 : ∀ pc, am_V9 41 pc ((am_G 41).2.2.2.2.1 pc) := am_all_lc am_V9_0 _ ⟨v41_0, trivial⟩
theorem d42_0 : decode cX3_clear 0 = .ok (.aload_n 0, 1) := by decide +kernel
theorem d42_1 : decode cX3_clear 1 = .ok (.iconst 0, 1) := by decide +kernel
theorem d42_2 : decode cX3_clear 2 = .ok (.putfield 21, 3) := by decide +kernel
theorem d42_5 : decode cX3_clear 5 = .ok (.return_, 1) := by decide +kernel
theorem v42_0 : am_all (am_V9 42) am_l42_0 := ⟨Or.inr ⟨1, d42_0, rfl, rfl, rfl, trivial, trivial⟩, Or.inr ⟨1, d42_1, rfl, rfl, am_eq9 (by decide +kernel), trivial, trivial⟩, Or.inr ⟨3, d42_2, rfl, rfl, trivial, ⟨RX3, TX3, 4, rfl, by decide, aw_139, Or.inl rfl⟩, trivial⟩, Or.inr ⟨1, d42_5, rfl, rfl, trivial, trivial, trivial⟩, trivial⟩
theorem v42 : ∀ pc, am_V9 42 pc ((am_G 42).2.2.2.2.1 pc) := am_all_lc am_V9_0 _ ⟨v42_0, trivial⟩
theorem d43_0 : decode cX3_addLeg 0 = .ok (.aload_n 0, 1) := by decide +kernel
theorem d43_1 : decode cX3_addLeg 1 = .ok (.getfield 21, 3) := by decide +kernel
theorem d43_4 : decode cX3_addLeg 4 = .ok (.bipush 102, 2) := by decide +kernel
theorem d43_6 : decode cX3_addLeg 6 = .ok (.if_icmp .lt 4, 3) := by decide +kernel
theorem d43_9 : decode cX3_addLeg 9 = .ok (.return_, 1) := by decide +kernel
theorem d43_10 : decode cX3_addLeg 10 = .ok (.aload_n 0, 1) := by decide +kernel
theorem d43_11 : decode cX3_addLeg 11 = .ok (.getfield 21, 3) := by decide +kernel
theorem d43_14 : decode cX3_addLeg 14 = .ok (.iconst 3, 1) := by decide +kernel
theorem d43_15 : decode cX3_addLeg 15 = .ok (.imul, 1) := by decide +kernel
theorem d43_16 : decode cX3_addLeg 16 = .ok (.istore 7, 2) := by decide +kernel
theorem d43_18 : decode cX3_addLeg 18 = .ok (.aload_n 0, 1) := by decide +kernel
theorem d43_19 : decode cX3_addLeg 19 = .ok (.getfield 9, 3) := by decide +kernel
theorem d43_22 : decode cX3_addLeg 22 = .ok (.iload 7, 2) := by decide +kernel
theorem d43_24 : decode cX3_addLeg 24 = .ok (.iload_n 1, 1) := by decide +kernel
theorem d43_25 : decode cX3_addLeg 25 = .ok (.iastore, 1) := by decide +kernel
theorem d43_26 : decode cX3_addLeg 26 = .ok (.aload_n 0, 1) := by decide +kernel
theorem d43_27 : decode cX3_addLeg 27 = .ok (.getfield 9, 3) := by decide +kernel
theorem d43_30 : decode cX3_addLeg 30 = .ok (.iload 7, 2) := by decide +kernel
theorem d43_32 : decode cX3_addLeg 32 = .ok (.iconst 1, 1) := by decide +kernel
theorem d43_33 : decode cX3_addLeg 33 = .ok (.iadd, 1) := by decide +kernel
theorem d43_34 : decode cX3_addLeg 34 = .ok (.iload_n 2, 1) := by decide +kernel
theorem d43_35 : decode cX3_addLeg 35 = .ok (.iastore, 1) := by decide +kernel
theorem d43_36 : decode cX3_addLeg 36 = .ok (.aload_n 0, 1) := by decide +kernel
theorem d43_37 : decode cX3_addLeg 37 = .ok (.getfield 9, 3) := by decide +kernel
theorem d43_40 : decode cX3_addLeg 40 = .ok (.iload 7, 2) := by decide +kernel
theorem d43_42 : decode cX3_addLeg 42 = .ok (.iconst 2, 1) := by decide +kernel
theorem d43_43 : decode cX3_addLeg 43 = .ok (.iadd, 1) := by decide +kernel
theorem d43_44 : decode cX3_addLeg 44 = .ok (.iload_n 3, 1) := by decide +kernel
theorem d43_45 : decode cX3_addLeg 45 = .ok (.iastore, 1) := by decide +kernel
theorem d43_46 : decode cX3_addLeg 46 = .ok (.aload_n 0, 1) := by decide +kernel
theorem d43_47 : decode cX3_addLeg 47 = .ok (.getfield 15, 3) := by decide +kernel
theorem d43_50 : decode cX3_addLeg 50 = .ok (.iload 7, 2) := by decide +kernel
theorem d43_52 : decode cX3_addLeg 52 = .ok (.iload 4, 2) := by decide +kernel
theorem d43_54 : decode cX3_addLeg 54 = .ok (.iload_n 1, 1) := by decide +kernel
theorem d43_55 : decode cX3_addLeg 55 = .ok (.isub, 1) := by decide +kernel
theorem d43_56 : decode cX3_addLeg 56 = .ok (.iastore, 1) := by decide +kernel
theorem d43_57 : decode cX3_addLeg 57 = .ok (.aload_n 0, 1) := by decide +kernel
theorem d43_58 : decode cX3_addLeg 58 = .ok (.getfield 15, 3) := by decide +kernel
theorem d43_61 : decode cX3_addLeg 61 = .ok (.iload 7, 2) := by decide +kernel
theorem d43_63 : decode cX3_addLeg 63 = .ok (.iconst 1, 1) := by decide +kernel
theorem d43_64 : decode cX3_addLeg 64 = .ok (.iadd, 1) := by decide +kernel
theorem d43_65 : decode cX3_addLeg 65 = .ok (.iload 5, 2) := by decide +kernel
theorem d43_67 : decode cX3_addLeg 67 = .ok (.iload_n 2, 1) := by decide +kernel
theorem d43_68 : decode cX3_addLeg 68 = .ok (.isub, 1) := by decide +kernel
theorem d43_69 : decode cX3_addLeg 69 = .ok (.iastore, 1) := by decide +kernel
theorem d43_70 : decode cX3_addLeg 70 = .ok (.aload_n 0, 1) := by decide +kernel
theorem d43_71 : decode cX3_addLeg 71 = .ok (.getfield 15, 3) := by decide +kernel
theorem d43_74 : decode cX3_addLeg 74 = .ok (.iload 7, 2) := by decide +kernel
theorem d43_76 : decode cX3_addLeg 76 = .ok (.iconst 2, 1) := by decide +kernel
theorem d43_77 : decode cX3_addLeg 77 = .ok (.iadd, 1) := by decide +kernel
theorem d43_78 : decode cX3_addLeg 78 = .ok (.iload 6, 2) := by decide +kernel
theorem d43_80 : decode cX3_addLeg 80 = .ok (.iload_n 3, 1) := by decide +kernel
theorem d43_81 : decode cX3_addLeg 81 = .ok (.isub, 1) := by decide +kernel
theorem d43_82 : decode cX3_addLeg 82 = .ok (.iastore, 1) := by decide +kernel
theorem d43_83 : decode cX3_addLeg 83 = .ok (.aload_n 0, 1) := by decide +kernel
theorem d43_84 : decode cX3_addLeg 84 = .ok (.dup, 1) := by decide +kernel
theorem d43_85 : decode cX3_addLeg 85 = .ok (.getfield 21, 3) := by decide +kernel
theorem d43_88 : decode cX3_addLeg 88 = .ok (.iconst 1, 1) := by decide +kernel
theorem d43_89 : decode cX3_addLeg 89 = .ok (.iadd, 1) := by decide +kernel
theorem d43_90 : decode cX3_addLeg 90 = .ok (.putfield 21, 3) := by decide +kernel
theorem d43_93 : decode cX3_addLeg 93 = .ok (.return_, 1) := by decide +kernel
theorem v43_0 : am_all (am_V9 43) am_l43_0 := ⟨Or.inr ⟨1, d43_0, rfl, rfl, rfl, trivial, trivial⟩, Or.inr ⟨3, d43_1, rfl, rfl, trivial, ⟨RX3, TX3, 4, rfl, by decide, Or.inl aw_139⟩, trivial⟩, Or.inr ⟨2, d43_4, rfl, rfl, am_eq9 (by decide +kernel), trivial, trivial⟩, Or.inr ⟨3, d43_6, rfl, rfl, rfl, trivial, trivial⟩, Or.inr ⟨1, d43_9, rfl, rfl, trivial, trivial, trivial⟩, Or.inr ⟨1, d43_10, rfl, rfl, rfl, trivial, trivial⟩, Or.inr ⟨3, d43_11, rfl, rfl, trivial, ⟨RX3, TX3, 4, rfl, by decide, Or.inl aw_139⟩, trivial⟩, Or.inr ⟨1, d43_14, rfl, rfl, am_eq9 (by decide +kernel), trivial, trivial⟩, Or.inr ⟨1, d43_15, rfl, rfl, trivial, trivial, trivial⟩, Or.inr ⟨2, d43_16, rfl, rfl, rfl, trivial, trivial⟩, Or.inr ⟨1, d43_18, rfl, rfl, rfl, trivial, trivial⟩, Or.inr ⟨3, d43_19, rfl, rfl, trivial, ⟨RX3, TX3, 4, rfl, by decide, Or.inl aw_136⟩, trivial⟩, Or.inr ⟨2, d43_22, rfl, rfl, rfl, trivial, trivial⟩, Or.inr ⟨1, d43_24, rfl, rfl, rfl, trivial, trivial⟩, Or.inr ⟨1, d43_25, rfl, rfl, trivial, trivial, trivial⟩, Or.inr ⟨1, d43_26, rfl, rfl, rfl, trivial, trivial⟩, Or.inr ⟨3, d43_27, rfl, rfl, trivial, ⟨RX3, TX3, 4, rfl, by decide, Or.inl aw_136⟩, trivial⟩, Or.inr ⟨2, d43_30, rfl, rfl, rfl, trivial, trivial⟩, Or.inr ⟨1, d43_32, rfl, rfl, am_eq9 (by decide +kernel), trivial, trivial⟩, Or.inr ⟨1, d43_33, rfl, rfl, trivial, trivial, trivial⟩, Or.inr ⟨1, d43_34, rfl, rfl, rfl, trivial, trivial⟩, Or.inr ⟨1, d43_35, rfl, rfl, trivial, trivial, trivial⟩, Or.inr ⟨1, d43_36, rfl, rfl, rfl, trivial, trivial⟩, Or.inr ⟨3, d43_37, rfl, rfl, trivial, ⟨RX3, TX3, 4, rfl, by decide, Or.inl aw_136⟩, trivial⟩, trivial⟩
theorem v43_1 : am_all (am_V9 43) am_l43_1 := ⟨Or.inr ⟨2, d43_40, rfl, rfl, rfl, trivial, trivial⟩, Or.inr ⟨1, d43_42, rfl, rfl, am_eq9 (by decide +kernel), trivial, trivial⟩, Or.inr ⟨1, d43_43, rfl, rfl, trivial, trivial, trivial⟩, Or.inr ⟨1, d43_44, rfl, rfl, rfl, trivial, trivial⟩, Or.inr ⟨1, d43_45, rfl, rfl, trivial, trivial, trivial⟩, Or.inr ⟨1, d43_46, rfl, rfl, rfl, trivial, trivial⟩, Or.inr ⟨3, d43_47, rfl, rfl, trivial, ⟨RX3, TX3, 4, rfl, by decide, Or.inl aw_137⟩, trivial⟩, Or.inr ⟨2, d43_50, rfl, rfl, rfl, trivial, trivial⟩, Or.inr ⟨2, d43_52, rfl, rfl, rfl, trivial, trivial⟩, Or.inr ⟨1, d43_54, rfl, rfl, rfl, trivial, trivial⟩, Or.inr ⟨1, d43_55, rfl, rfl, trivial, trivial, trivial⟩, Or.inr ⟨1, d43_56, rfl, rfl, trivial, trivial, trivial⟩, Or.inr ⟨1, d43_57, rfl, rfl, rfl, trivial, trivial⟩, Or.inr ⟨3, d43_58, rfl, rfl, trivial, ⟨RX3, TX3, 4, rfl, by decide, Or.inl aw_137⟩, trivial⟩, Or.inr ⟨2, d43_61, rfl, rfl, rfl, trivial, trivial⟩, Or.inr ⟨1, d43_63, rfl, rfl, am_eq9 (by decide +kernel), trivial, trivial⟩, Or.inr ⟨1, d43_64, rfl, rfl, trivial, trivial, trivial⟩, Or.inr ⟨2, d43_65, rfl, rfl, rfl, trivial, trivial⟩, Or.inr ⟨1, d43_67, rfl, rfl, rfl, trivial, trivial⟩, Or.inr ⟨1, d43_68, rfl, rfl, trivial, trivial, trivial⟩, Or.inr ⟨1, d43_69, rfl, rfl, trivial, trivial, trivial⟩, Or.inr ⟨1, d43_70, rfl, rfl, rfl, trivial, trivial⟩, Or.inr ⟨3, d43_71, rfl, rfl, trivial, ⟨RX3, TX3, 4, rfl, by decide, Or.inl aw_137⟩, trivial⟩, Or.inr ⟨2, d43_74, rfl, rfl, rfl, trivial, trivial⟩, trivial⟩
theorem v43_2 : am_all (am_V9 43) am_l43_2 := ⟨Or.inr ⟨1, d43_76, rfl, rfl, am_eq9 (by decide +kernel), trivial, trivial⟩, Or.inr ⟨1, d43_77, rfl, rfl, trivial, trivial, trivial⟩, Or.inr ⟨2, d43_78, rfl, rfl, rfl, trivial, trivial⟩, Or.inr ⟨1, d43_80, rfl, rfl, rfl, trivial, trivial⟩, Or.inr ⟨1, d43_81, rfl, rfl, trivial, trivial, trivial⟩, Or.inr ⟨1, d43_82, rfl, rfl, trivial, trivial, trivial⟩, Or.inr ⟨1, d43_83, rfl, rfl, rfl, trivial, trivial⟩, Or.inr ⟨1, d43_84, rfl, rfl, trivial, trivial, trivial⟩, Or.inr ⟨3, d43_85, rfl, rfl, trivial, ⟨RX3, TX3, 4, rfl, by decide, Or.inl aw_139⟩, trivial⟩, Or.inr ⟨1, d43_88, rfl, rfl, am_eq9 (by decide +kernel), trivial, trivial⟩, Or.inr ⟨1, d43_89, rfl, rfl, trivial, trivial, trivial⟩, Or.inr ⟨3, d43_90, rfl, rfl, trivial, ⟨RX3, TX3, 4, rfl, by decide, aw_139, Or.inl rfl⟩, trivial⟩, Or.inr ⟨1, d43_93, rfl, rfl, trivial, trivial, trivial⟩, trivial⟩
theorem v43 : ∀ pc, am_V9 43 pc ((am_G 43).2.2.2.2.1 pc) := am_all_lc am_V9_0 _ ⟨v43_0, v43_1, v43_2, trivial⟩
theorem d44_0 : decode cX3_endAt 0 = .ok (.aload_n 0, 1) := by decide +kernel
theorem d44_1 : decode cX3_endAt 1 = .ok (.getfield 18, 3) := by decide +kernel
theorem d44_4 : decode cX3_endAt 4 = .ok (.iconst 0, 1) := by decide +kernel
theorem d44_5 : decode cX3_endAt 5 = .ok (.iload_n 1, 1) := by decide +kernel
theorem d44_6 : decode cX3_endAt 6 = .ok (.iastore, 1) := by decide +kernel
theorem d44_7 : decode cX3_endAt 7 = .ok (.aload_n 0, 1) := by decide +kernel
theorem d44_8 : decode cX3_endAt 8 = .ok (.getfield 18, 3) := by decide +kernel
theorem d44_11 : decode cX3_endAt 11 = .ok (.iconst 1, 1) := by decide +kernel
theorem d44_12 : decode cX3_endAt 12 = .ok (.iload_n 2, 1) := by decide +kernel
theorem d44_13 : decode cX3_endAt 13 = .ok (.iastore, 1) := by decide +kernel
theorem d44_14 : decode cX3_endAt 14 = .ok (.aload_n 0, 1) := by decide +kernel
theorem d44_15 : decode cX3_endAt 15 = .ok (.getfield 18, 3) := by decide +kernel
theorem d44_18 : decode cX3_endAt 18 = .ok (.iconst 2, 1) := by decide +kernel
theorem d44_19 : decode cX3_endAt 19 = .ok (.iload_n 3, 1) := by decide +kernel
theorem d44_20 : decode cX3_endAt 20 = .ok (.iastore, 1) := by decide +kernel
theorem d44_21 : decode cX3_endAt 21 = .ok (.return_, 1) := by decide +kernel
theorem v44_0 : am_all (am_V9 44) am_l44_0 := ⟨Or.inr ⟨1, d44_0, rfl, rfl, rfl, trivial, trivial⟩, Or.inr ⟨3, d44_1, rfl, rfl, trivial, ⟨RX3, TX3, 4, rfl, by decide, Or.inl aw_138⟩, trivial⟩, Or.inr ⟨1, d44_4, rfl, rfl, am_eq9 (by decide +kernel), trivial, trivial⟩, Or.inr ⟨1, d44_5, rfl, rfl, rfl, trivial, trivial⟩, Or.inr ⟨1, d44_6, rfl, rfl, trivial, trivial, trivial⟩, Or.inr ⟨1, d44_7, rfl, rfl, rfl, trivial, trivial⟩, Or.inr ⟨3, d44_8, rfl, rfl, trivial, ⟨RX3, TX3, 4, rfl, by decide, Or.inl aw_138⟩, trivial⟩, Or.inr ⟨1, d44_11, rfl, rfl, am_eq9 (by decide +kernel), trivial, trivial⟩, Or.inr ⟨1, d44_12, rfl, rfl, rfl, trivial, trivial⟩, Or.inr ⟨1, d44_13, rfl, rfl, trivial, trivial, trivial⟩, Or.inr ⟨1, d44_14, rfl, rfl, rfl, trivial, trivial⟩, Or.inr ⟨3, d44_15, rfl, rfl, trivial, ⟨RX3, TX3, 4, rfl, by decide, Or.inl aw_138⟩, trivial⟩, Or.inr ⟨1, d44_18, rfl, rfl, am_eq9 (by decide +kernel), trivial, trivial⟩, Or.inr ⟨1, d44_19, rfl, rfl, rfl, trivial, trivial⟩, Or.inr ⟨1, d44_20, rfl, rfl, trivial, trivial, trivial⟩, Or.inr ⟨1, d44_21, rfl, rfl, trivial, trivial, trivial⟩, trivial⟩
theorem v44 : ∀ pc, am_V9 44 pc ((am_G 44).2.2.2.2.1 pc) := am_all_lc am_V9_0 _ ⟨v44_0, trivial⟩
theorem d45_0 : decode cX3_endAlong 0 = .ok (.iload_n 1, 1) := by decide +kernel
theorem d45_1 : decode cX3_endAlong 1 = .ok (.iconst 0, 1) := by decide +kernel
theorem d45_2 : decode cX3_endAlong 2 = .ok (.iconst 2, 1) := by decide +kernel
theorem d45_3 : decode cX3_endAlong 3 = .ok (.invokestatic 25, 3) := by decide +kernel
theorem d45_6 : decode cX3_endAlong 6 = .ok (.ifCond .eq 12, 3) := by decide +kernel
theorem d45_9 : decode cX3_endAlong 9 = .ok (.aload_n 0, 1) := by decide +kernel
theorem d45_10 : decode cX3_endAlong 10 = .ok (.getfield 18, 3) := by decide +kernel
theorem d45_13 : decode cX3_endAlong 13 = .ok (.iload_n 1, 1) := by decide +kernel
theorem d45_14 : decode cX3_endAlong 14 = .ok (.iaload, 1) := by decide +kernel
theorem d45_15 : decode cX3_endAlong 15 = .ok (.goto 4, 3) := by decide +kernel
theorem d45_18 : decode cX3_endAlong 18 = .ok (.iconst 0, 1) := by decide +kernel
theorem d45_19 : decode cX3_endAlong 19 = .ok (.ireturn, 1) := by decide +kernel
theorem v45_0 : am_all (am_V9 45) am_l45_0 := ⟨Or.inr ⟨1, d45_0, rfl, rfl, rfl, trivial, trivial⟩, Or.inr ⟨1, d45_1, rfl, rfl, am_eq9 (by decide +kernel), trivial, trivial⟩, Or.inr ⟨1, d45_2, rfl, rfl, am_eq9 (by decide +kernel), trivial, trivial⟩, Or.inr ⟨3, d45_3, rfl, rfl, trivial, trivial, Or.inr ⟨by decide, okM_84, aw_280, Or.inr ⟨rfl, _, an_13⟩⟩⟩, Or.inr ⟨3, d45_6, rfl, rfl, rfl, trivial, trivial⟩, Or.inr ⟨1, d45_9, rfl, rfl, rfl, trivial, trivial⟩, Or.inr ⟨3, d45_10, rfl, rfl, trivial, ⟨RX3, TX3, 4, rfl, by decide, Or.inl aw_138⟩, trivial⟩, Or.inr ⟨1, d45_13, rfl, rfl, rfl, trivial, trivial⟩, Or.inr ⟨1, d45_14, rfl, rfl, trivial, trivial, trivial⟩, Or.inr ⟨3, d45_15, rfl, rfl, rfl, trivial, trivial⟩, Or.inr ⟨1, d45_18, rfl, rfl, am_eq9 (by decide +kernel), trivial, trivial⟩, Or.inr ⟨1, d45_19, rfl, rfl, trivial, trivial, trivial⟩, trivial⟩
theorem v45 : ∀ pc, am_V9 45 pc ((am_G 45).2.2.2.2.1 pc) := am_all_lc am_V9_0 _ ⟨v45_0, trivial⟩
theorem d46_0 : decode cX3_stepsOf 0 = .ok (.iconst 0, 1) := by decide +kernel
theorem d46_1 : decode cX3_stepsOf 1 = .ok (.istore_n 2, 1) := by decide +kernel
theorem d46_2 : decode cX3_stepsOf 2 = .ok (.iconst 0, 1) := by decide +kernel
theorem d46_3 : decode cX3_stepsOf 3 = .ok (.istore_n 3, 1) := by decide +kernel
theorem d46_4 : decode cX3_stepsOf 4 = .ok (.iload_n 3, 1) := by decide +kernel
theorem d46_5 : decode cX3_stepsOf 5 = .ok (.iconst 3, 1) := by decide +kernel
theorem d46_6 : decode cX3_stepsOf 6 = .ok (.if_icmp .ge 47, 3) := by decide +kernel
theorem d46_9 : decode cX3_stepsOf 9 = .ok (.iload_n 1, 1) := by decide +kernel
theorem d46_10 : decode cX3_stepsOf 10 = .ok (.iconst 3, 1) := by decide +kernel
theorem d46_11 : decode cX3_stepsOf 11 = .ok (.imul, 1) := by decide +kernel
theorem d46_12 : decode cX3_stepsOf 12 = .ok (.iload_n 3, 1) := by decide +kernel
theorem d46_13 : decode cX3_stepsOf 13 = .ok (.iadd, 1) := by decide +kernel
theorem d46_14 : decode cX3_stepsOf 14 = .ok (.istore 4, 2) := by decide +kernel
theorem d46_16 : decode cX3_stepsOf 16 = .ok (.iload 4, 2) := by decide +kernel
theorem d46_18 : decode cX3_stepsOf 18 = .ok (.iconst 0, 1) := by decide +kernel
theorem d46_19 : decode cX3_stepsOf 19 = .ok (.aload_n 0, 1) := by decide +kernel
theorem d46_20 : decode cX3_stepsOf 20 = .ok (.getfield 15, 3) := by decide +kernel
theorem d46_23 : decode cX3_stepsOf 23 = .ok (.arraylength, 1) := by decide +kernel
theorem d46_24 : decode cX3_stepsOf 24 = .ok (.iconst 1, 1) := by decide +kernel
theorem d46_25 : decode cX3_stepsOf 25 = .ok (.isub, 1) := by decide +kernel
theorem d46_26 : decode cX3_stepsOf 26 = .ok (.invokestatic 25, 3) := by decide +kernel
theorem d46_29 : decode cX3_stepsOf 29 = .ok (.ifCond .eq 18, 3) := by decide +kernel
theorem d46_32 : decode cX3_stepsOf 32 = .ok (.iload_n 2, 1) := by decide +kernel
theorem d46_33 : decode cX3_stepsOf 33 = .ok (.aload_n 0, 1) := by decide +kernel
theorem d46_34 : decode cX3_stepsOf 34 = .ok (.getfield 15, 3) := by decide +kernel
theorem d46_37 : decode cX3_stepsOf 37 = .ok (.iload 4, 2) := by decide +kernel
theorem d46_39 : decode cX3_stepsOf 39 = .ok (.iaload, 1) := by decide +kernel
theorem d46_40 : decode cX3_stepsOf 40 = .ok (.invokestatic 29, 3) := by decide +kernel
theorem d46_43 : decode cX3_stepsOf 43 = .ok (.invokestatic 35, 3) := by decide +kernel
theorem d46_46 : decode cX3_stepsOf 46 = .ok (.istore_n 2, 1) := by decide +kernel
theorem d46_47 : decode cX3_stepsOf 47 = .ok (.iinc 3 1, 3) := by decide +kernel
theorem d46_50 : decode cX3_stepsOf 50 = .ok (.goto (-46), 3) := by decide +kernel
theorem d46_53 : decode cX3_stepsOf 53 = .ok (.iload_n 2, 1) := by decide +kernel
theorem d46_54 : decode cX3_stepsOf 54 = .ok (.ireturn, 1) := by decide +kernel
theorem v46_0 : am_all (am_V9 46) am_l46_0 := ⟨Or.inr ⟨1, d46_0, rfl, rfl, am_eq9 (by decide +kernel), trivial, trivial⟩, Or.inr ⟨1, d46_1, rfl, rfl, rfl, trivial, trivial⟩, Or.inr ⟨1, d46_2, rfl, rfl, am_eq9 (by decide +kernel), trivial, trivial⟩, Or.inr ⟨1, d46_3, rfl, rfl, rfl, trivial, trivial⟩, Or.inr ⟨1, d46_4, rfl, rfl, rfl, trivial, trivial⟩, Or.inr ⟨1, d46_5, rfl, rfl, am_eq9 (by decide +kernel), trivial, trivial⟩, Or.inr ⟨3, d46_6, rfl, rfl, rfl, trivial, trivial⟩, Or.inr ⟨1, d46_9, rfl, rfl, rfl, trivial, trivial⟩, Or.inr ⟨1, d46_10, rfl, rfl, am_eq9 (by decide +kernel), trivial, trivial⟩, Or.inr ⟨1, d46_11, rfl, rfl, trivial, trivial, trivial⟩, Or.inr ⟨1, d46_12, rfl, rfl, rfl, trivial, trivial⟩, Or.inr ⟨1, d46_13, rfl, rfl, trivial, trivial, trivial⟩, Or.inr ⟨2, d46_14, rfl, rfl, rfl, trivial, trivial⟩, Or.inr ⟨2, d46_16, rfl, rfl, rfl, trivial, trivial⟩, Or.inr ⟨1, d46_18, rfl, rfl, am_eq9 (by decide +kernel), trivial, trivial⟩, Or.inr ⟨1, d46_19, rfl, rfl, rfl, trivial, trivial⟩, Or.inr ⟨3, d46_20, rfl, rfl, trivial, ⟨RX3, TX3, 4, rfl, by decide, Or.inl aw_137⟩, trivial⟩, Or.inr ⟨1, d46_23, rfl, rfl, trivial, trivial, trivial⟩, Or.inr ⟨1, d46_24, rfl, rfl, am_eq9 (by decide +kernel), trivial, trivial⟩, Or.inr ⟨1, d46_25, rfl, rfl, trivial, trivial, trivial⟩, Or.inr ⟨3, d46_26, rfl, rfl, trivial, trivial, Or.inr ⟨by decide, okM_84, aw_280, Or.inr ⟨rfl, _, an_13⟩⟩⟩, Or.inr ⟨3, d46_29, rfl, rfl, rfl, trivial, trivial⟩, Or.inr ⟨1, d46_32, rfl, rfl, rfl, trivial, trivial⟩, Or.inr ⟨1, d46_33, rfl, rfl, rfl, trivial, trivial⟩, trivial⟩
theorem v46_1 : am_all (am_V9 46) am_l46_1 := ⟨Or.inr ⟨3, d46_34, rfl, rfl, trivial, ⟨RX3, TX3, 4, rfl, by decide, Or.inl aw_137⟩, trivial⟩, Or.inr ⟨2, d46_37, rfl, rfl, rfl, trivial, trivial⟩, Or.inr ⟨1, d46_39, rfl, rfl, trivial, trivial, trivial⟩, Or.inr ⟨3, d46_40, rfl, rfl, trivial, trivial, Or.inr ⟨by decide, okM_158, aw_469, Or.inl ⟨rfl, aw_468⟩⟩⟩, Or.inr ⟨3, d46_43, rfl, rfl, trivial, trivial, Or.inr ⟨by decide, okM_159, aw_472, Or.inl ⟨rfl, aw_471⟩⟩⟩, Or.inr ⟨1, d46_46, rfl, rfl, rfl, trivial, trivial⟩, Or.inr ⟨3, d46_47, rfl, rfl, ⟨rfl, by decide⟩, trivial, trivial⟩, Or.inr ⟨3, d46_50, rfl, rfl, rfl, trivial, trivial⟩, Or.inr ⟨1, d46_53, rfl, rfl, rfl, trivial, trivial⟩, Or.inr ⟨1, d46_54, rfl, rfl, trivial, trivial, trivial⟩, trivial⟩
theorem v46 : ∀ pc, am_V9 46 pc ((am_G 46).2.2.2.2.1 pc) := am_all_lc am_V9_0 _ ⟨v46_0, v46_1, trivial⟩
theorem d47_0 : decode cX3_behindStep 0 = .ok (.iload_n 1, 1) := by decide +kernel
theorem d47_1 : decode cX3_behindStep 1 = .ok (.iconst 3, 1) := by decide +kernel
theorem d47_2 : decode cX3_behindStep 2 = .ok (.imul, 1) := by decide +kernel
theorem d47_3 : decode cX3_behindStep 3 = .ok (.iload_n 2, 1) := by decide +kernel
theorem d47_4 : decode cX3_behindStep 4 = .ok (.iadd, 1) := by decide +kernel
theorem d47_5 : decode cX3_behindStep 5 = .ok (.istore 5, 2) := by decide +kernel
theorem d47_7 : decode cX3_behindStep 7 = .ok (.iload 4, 2) := by decide +kernel
theorem d47_9 : decode cX3_behindStep 9 = .ok (.ifCond .eq 18, 3) := by decide +kernel
theorem d47_12 : decode cX3_behindStep 12 = .ok (.iload 5, 2) := by decide +kernel
theorem d47_14 : decode cX3_behindStep 14 = .ok (.ifCond .lt 13, 3) := by decide +kernel
theorem d47_17 : decode cX3_behindStep 17 = .ok (.iload 5, 2) := by decide +kernel
theorem d47_19 : decode cX3_behindStep 19 = .ok (.aload_n 0, 1) := by decide +kernel
theorem d47_20 : decode cX3_behindStep 20 = .ok (.getfield 9, 3) := by decide +kernel
theorem d47_23 : decode cX3_behindStep 23 = .ok (.arraylength, 1) := by decide +kernel
theorem d47_24 : decode cX3_behindStep 24 = .ok (.if_icmp .lt 5, 3) := by decide +kernel
theorem d47_27 : decode cX3_behindStep 27 = .ok (.iconst 0, 1) := by decide +kernel
theorem d47_28 : decode cX3_behindStep 28 = .ok (.ireturn, 1) := by decide +kernel
theorem d47_29 : decode cX3_behindStep 29 = .ok (.aload_n 0, 1) := by decide +kernel
theorem d47_30 : decode cX3_behindStep 30 = .ok (.getfield 9, 3) := by decide +kernel
theorem d47_33 : decode cX3_behindStep 33 = .ok (.iload 5, 2) := by decide +kernel
theorem d47_35 : decode cX3_behindStep 35 = .ok (.iaload, 1) := by decide +kernel
theorem d47_36 : decode cX3_behindStep 36 = .ok (.aload_n 0, 1) := by decide +kernel
theorem d47_37 : decode cX3_behindStep 37 = .ok (.getfield 15, 3) := by decide +kernel
theorem d47_40 : decode cX3_behindStep 40 = .ok (.iload 5, 2) := by decide +kernel
theorem d47_42 : decode cX3_behindStep 42 = .ok (.iaload, 1) := by decide +kernel
theorem d47_43 : decode cX3_behindStep 43 = .ok (.iload_n 3, 1) := by decide +kernel
theorem d47_44 : decode cX3_behindStep 44 = .ok (.imul, 1) := by decide +kernel
theorem d47_45 : decode cX3_behindStep 45 = .ok (.iload 4, 2) := by decide +kernel
theorem d47_47 : decode cX3_behindStep 47 = .ok (.idiv, 1) := by decide +kernel
theorem d47_48 : decode cX3_behindStep 48 = .ok (.iadd, 1) := by decide +kernel
theorem d47_49 : decode cX3_behindStep 49 = .ok (.ireturn, 1) := by decide +kernel
theorem v47_0 : am_all (am_V9 47) am_l47_0 := ⟨Or.inr ⟨1, d47_0, rfl, rfl, rfl, trivial, trivial⟩, Or.inr ⟨1, d47_1, rfl, rfl, am_eq9 (by decide +kernel), trivial, trivial⟩, Or.inr ⟨1, d47_2, rfl, rfl, trivial, trivial, trivial⟩, Or.inr ⟨1, d47_3, rfl, rfl, rfl, trivial, trivial⟩, Or.inr ⟨1, d47_4, rfl, rfl, trivial, trivial, trivial⟩, Or.inr ⟨2, d47_5, rfl, rfl, rfl, trivial, trivial⟩, Or.inr ⟨2, d47_7, rfl, rfl, rfl, trivial, trivial⟩, Or.inr ⟨3, d47_9, rfl, rfl, rfl, trivial, trivial⟩, Or.inr ⟨2, d47_12, rfl, rfl, rfl, trivial, trivial⟩, Or.inr ⟨3, d47_14, rfl, rfl, rfl, trivial, trivial⟩, Or.inr ⟨2, d47_17, rfl, rfl, rfl, trivial, trivial⟩, Or.inr ⟨1, d47_19, rfl, rfl, rfl, trivial, trivial⟩, Or.inr ⟨3, d47_20, rfl, rfl, trivial, ⟨RX3, TX3, 4, rfl, by decide, Or.inl aw_136⟩, trivial⟩, Or.inr ⟨1, d47_23, rfl, rfl, trivial, trivial, trivial⟩, Or.inr ⟨3, d47_24, rfl, rfl, rfl, trivial, trivial⟩, Or.inr ⟨1, d47_27, rfl, rfl, am_eq9 (by decide +kernel), trivial, trivial⟩, Or.inr ⟨1, d47_28, rfl, rfl, trivial, trivial, trivial⟩, Or.inr ⟨1, d47_29, rfl, rfl, rfl, trivial, trivial⟩, Or.inr ⟨3, d47_30, rfl, rfl, trivial, ⟨RX3, TX3, 4, rfl, by decide, Or.inl aw_136⟩, trivial⟩, Or.inr ⟨2, d47_33, rfl, rfl, rfl, trivial, trivial⟩, Or.inr ⟨1, d47_35, rfl, rfl, trivial, trivial, trivial⟩, Or.inr ⟨1, d47_36, rfl, rfl, rfl, trivial, trivial⟩, Or.inr ⟨3, d47_37, rfl, rfl, trivial, ⟨RX3, TX3, 4, rfl, by decide, Or.inl aw_137⟩, trivial⟩, Or.inr ⟨2, d47_40, rfl, rfl, rfl, trivial, trivial⟩, trivial⟩
theorem v47_1 : am_all (am_V9 47) am_l47_1 := ⟨Or.inr ⟨1, d47_42, rfl, rfl, trivial, trivial, trivial⟩, Or.inr ⟨1, d47_43, rfl, rfl, rfl, trivial, trivial⟩, Or.inr ⟨1, d47_44, rfl, rfl, trivial, trivial, trivial⟩, Or.inr ⟨2, d47_45, rfl, rfl, rfl, trivial, trivial⟩, Or.inr ⟨1, d47_47, rfl, rfl, trivial, trivial, trivial⟩, Or.inr ⟨1, d47_48, rfl, rfl, trivial, trivial, trivial⟩, Or.inr ⟨1, d47_49, rfl, rfl, trivial, trivial, trivial⟩, trivial⟩
theorem v47 : ∀ pc, am_V9 47 pc ((am_G 47).2.2.2.2.1 pc) := am_all_lc am_V9_0 _ ⟨v47_0, v47_1, trivial⟩
theorem d48_0 : decode cX3_leavesSpace 0 = .ok (.iconst 0, 1) := by decide +kernel
theorem d48_1 : decode cX3_leavesSpace 1 = .ok (.istore_n 1, 1) := by decide +kernel
theorem d48_2 : decode cX3_leavesSpace 2 = .ok (.iload_n 1, 1) := by decide +kernel
theorem d48_3 : decode cX3_leavesSpace 3 = .ok (.aload_n 0, 1) := by decide +kernel
theorem d48_4 : decode cX3_leavesSpace 4 = .ok (.getfield 21, 3) := by decide +kernel
theorem d48_7 : decode cX3_leavesSpace 7 = .ok (.iconst 3, 1) := by decide +kernel
theorem d48_8 : decode cX3_leavesSpace 8 = .ok (.imul, 1) := by decide +kernel
theorem d48_9 : decode cX3_leavesSpace 9 = .ok (.if_icmp .ge 64, 3) := by decide +kernel
theorem d48_12 : decode cX3_leavesSpace 12 = .ok (.aload_n 0, 1) := by decide +kernel
theorem d48_13 : decode cX3_leavesSpace 13 = .ok (.getfield 9, 3) := by decide +kernel
theorem d48_16 : decode cX3_leavesSpace 16 = .ok (.iload_n 1, 1) := by decide +kernel
theorem d48_17 : decode cX3_leavesSpace 17 = .ok (.iaload, 1) := by decide +kernel
theorem d48_18 : decode cX3_leavesSpace 18 = .ok (.aload_n 0, 1) := by decide +kernel
theorem d48_19 : decode cX3_leavesSpace 19 = .ok (.getfield 15, 3) := by decide +kernel
theorem d48_22 : decode cX3_leavesSpace 22 = .ok (.iload_n 1, 1) := by decide +kernel
theorem d48_23 : decode cX3_leavesSpace 23 = .ok (.iaload, 1) := by decide +kernel
theorem d48_24 : decode cX3_leavesSpace 24 = .ok (.iadd, 1) := by decide +kernel
theorem d48_25 : decode cX3_leavesSpace 25 = .ok (.aload_n 0, 1) := by decide +kernel
theorem d48_26 : decode cX3_leavesSpace 26 = .ok (.getfield 9, 3) := by decide +kernel
theorem d48_29 : decode cX3_leavesSpace 29 = .ok (.iload_n 1, 1) := by decide +kernel
theorem d48_30 : decode cX3_leavesSpace 30 = .ok (.iconst 1, 1) := by decide +kernel
theorem d48_31 : decode cX3_leavesSpace 31 = .ok (.iadd, 1) := by decide +kernel
theorem d48_32 : decode cX3_leavesSpace 32 = .ok (.iaload, 1) := by decide +kernel
theorem d48_33 : decode cX3_leavesSpace 33 = .ok (.aload_n 0, 1) := by decide +kernel
theorem d48_34 : decode cX3_leavesSpace 34 = .ok (.getfield 15, 3) := by decide +kernel
theorem d48_37 : decode cX3_leavesSpace 37 = .ok (.iload_n 1, 1) := by decide +kernel
theorem d48_38 : decode cX3_leavesSpace 38 = .ok (.iconst 1, 1) := by decide +kernel
theorem d48_39 : decode cX3_leavesSpace 39 = .ok (.iadd, 1) := by decide +kernel
theorem d48_40 : decode cX3_leavesSpace 40 = .ok (.iaload, 1) := by decide +kernel
theorem d48_41 : decode cX3_leavesSpace 41 = .ok (.iadd, 1) := by decide +kernel
theorem d48_42 : decode cX3_leavesSpace 42 = .ok (.aload_n 0, 1) := by decide +kernel
theorem d48_43 : decode cX3_leavesSpace 43 = .ok (.getfield 9, 3) := by decide +kernel
theorem d48_46 : decode cX3_leavesSpace 46 = .ok (.iload_n 1, 1) := by decide +kernel
theorem d48_47 : decode cX3_leavesSpace 47 = .ok (.iconst 2, 1) := by decide +kernel
theorem d48_48 : decode cX3_leavesSpace 48 = .ok (.iadd, 1) := by decide +kernel
theorem d48_49 : decode cX3_leavesSpace 49 = .ok (.iaload, 1) := by decide +kernel
theorem d48_50 : decode cX3_leavesSpace 50 = .ok (.aload_n 0, 1) := by decide +kernel
theorem d48_51 : decode cX3_leavesSpace 51 = .ok (.getfield 15, 3) := by decide +kernel
theorem d48_54 : decode cX3_leavesSpace 54 = .ok (.iload_n 1, 1) := by decide +kernel
theorem d48_55 : decode cX3_leavesSpace 55 = .ok (.iconst 2, 1) := by decide +kernel
theorem d48_56 : decode cX3_leavesSpace 56 = .ok (.iadd, 1) := by decide +kernel
theorem d48_57 : decode cX3_leavesSpace 57 = .ok (.iaload, 1) := by decide +kernel
theorem d48_58 : decode cX3_leavesSpace 58 = .ok (.iadd, 1) := by decide +kernel
theorem d48_59 : decode cX3_leavesSpace 59 = .ok (.invokestatic 39, 3) := by decide +kernel
theorem d48_62 : decode cX3_leavesSpace 62 = .ok (.ifCond .ne 5, 3) := by decide +kernel
theorem d48_65 : decode cX3_leavesSpace 65 = .ok (.iconst 1, 1) := by decide +kernel
theorem d48_66 : decode cX3_leavesSpace 66 = .ok (.ireturn, 1) := by decide +kernel
theorem d48_67 : decode cX3_leavesSpace 67 = .ok (.iinc 1 3, 3) := by decide +kernel
theorem d48_70 : decode cX3_leavesSpace 70 = .ok (.goto (-68), 3) := by decide +kernel
theorem d48_73 : decode cX3_leavesSpace 73 = .ok (.iconst 0, 1) := by decide +kernel
theorem d48_74 : decode cX3_leavesSpace 74 = .ok (.ireturn, 1) := by decide +kernel
theorem v48_0 : am_all (am_V9 48) am_l48_0 := ⟨Or.inr ⟨1, d48_0, rfl, rfl, am_eq9 (by decide +kernel), trivial, trivial⟩, Or.inr ⟨1, d48_1, rfl, rfl, rfl, trivial, trivial⟩, Or.inr ⟨1, d48_2, rfl, rfl, rfl, trivial, trivial⟩, Or.inr ⟨1, d48_3, rfl, rfl, rfl, trivial, trivial⟩, Or.inr ⟨3, d48_4, rfl, rfl, trivial, ⟨RX3, TX3, 4, rfl, by decide, Or.inl aw_139⟩, trivial⟩, Or.inr ⟨1, d48_7, rfl, rfl, am_eq9 (by decide +kernel), trivial, trivial⟩, Or.inr ⟨1, d48_8, rfl, rfl, trivial, trivial, trivial⟩, Or.inr ⟨3, d48_9, rfl, rfl, rfl, trivial, trivial⟩, Or.inr ⟨1, d48_12, rfl, rfl, rfl, trivial, trivial⟩, Or.inr ⟨3, d48_13, rfl, rfl, trivial, ⟨RX3, TX3, 4, rfl, by decide, Or.inl aw_136⟩, trivial⟩, Or.inr ⟨1, d48_16, rfl, rfl, rfl, trivial, trivial⟩, Or.inr ⟨1, d48_17, rfl, rfl, trivial, trivial, trivial⟩, Or.inr ⟨1, d48_18, rfl, rfl, rfl, trivial, trivial⟩, Or.inr ⟨3, d48_19, rfl, rfl, trivial, ⟨RX3, TX3, 4, rfl, by decide, Or.inl aw_137⟩, trivial⟩, Or.inr ⟨1, d48_22, rfl, rfl, rfl, trivial, trivial⟩, Or.inr ⟨1, d48_23, rfl, rfl, trivial, trivial, trivial⟩, Or.inr ⟨1, d48_24, rfl, rfl, trivial, trivial, trivial⟩, Or.inr ⟨1, d48_25, rfl, rfl, rfl, trivial, trivial⟩, Or.inr ⟨3, d48_26, rfl, rfl, trivial, ⟨RX3, TX3, 4, rfl, by decide, Or.inl aw_136⟩, trivial⟩, Or.inr ⟨1, d48_29, rfl, rfl, rfl, trivial, trivial⟩, Or.inr ⟨1, d48_30, rfl, rfl, am_eq9 (by decide +kernel), trivial, trivial⟩, Or.inr ⟨1, d48_31, rfl, rfl, trivial, trivial, trivial⟩, Or.inr ⟨1, d48_32, rfl, rfl, trivial, trivial, trivial⟩, Or.inr ⟨1, d48_33, rfl, rfl, rfl, trivial, trivial⟩, trivial⟩
theorem v48_1 : am_all (am_V9 48) am_l48_1 := ⟨Or.inr ⟨3, d48_34, rfl, rfl, trivial, ⟨RX3, TX3, 4, rfl, by decide, Or.inl aw_137⟩, trivial⟩, Or.inr ⟨1, d48_37, rfl, rfl, rfl, trivial, trivial⟩, Or.inr ⟨1, d48_38, rfl, rfl, am_eq9 (by decide +kernel), trivial, trivial⟩, Or.inr ⟨1, d48_39, rfl, rfl, trivial, trivial, trivial⟩, Or.inr ⟨1, d48_40, rfl, rfl, trivial, trivial, trivial⟩, Or.inr ⟨1, d48_41, rfl, rfl, trivial, trivial, trivial⟩, Or.inr ⟨1, d48_42, rfl, rfl, rfl, trivial, trivial⟩, Or.inr ⟨3, d48_43, rfl, rfl, trivial, ⟨RX3, TX3, 4, rfl, by decide, Or.inl aw_136⟩, trivial⟩, Or.inr ⟨1, d48_46, rfl, rfl, rfl, trivial, trivial⟩, Or.inr ⟨1, d48_47, rfl, rfl, am_eq9 (by decide +kernel), trivial, trivial⟩, Or.inr ⟨1, d48_48, rfl, rfl, trivial, trivial, trivial⟩, Or.inr ⟨1, d48_49, rfl, rfl, trivial, trivial, trivial⟩, Or.inr ⟨1, d48_50, rfl, rfl, rfl, trivial, trivial⟩, Or.inr ⟨3, d48_51, rfl, rfl, trivial, ⟨RX3, TX3, 4, rfl, by decide, Or.inl aw_137⟩, trivial⟩, Or.inr ⟨1, d48_54, rfl, rfl, rfl, trivial, trivial⟩, Or.inr ⟨1, d48_55, rfl, rfl, am_eq9 (by decide +kernel), trivial, trivial⟩, Or.inr ⟨1, d48_56, rfl, rfl, trivial, trivial, trivial⟩, Or.inr ⟨1, d48_57, rfl, rfl, trivial, trivial, trivial⟩, Or.inr ⟨1, d48_58, rfl, rfl, trivial, trivial, trivial⟩, Or.inr ⟨3, d48_59, rfl, rfl, trivial, trivial, Or.inr ⟨by decide, okM_86, aw_457, Or.inr ⟨rfl, _, an_12⟩⟩⟩, Or.inr ⟨3, d48_62, rfl, rfl, rfl, trivial, trivial⟩, Or.inr ⟨1, d48_65, rfl, rfl, am_eq9 (by decide +kernel), trivial, trivial⟩, Or.inr ⟨1, d48_66, rfl, rfl, trivial, trivial, trivial⟩, Or.inr ⟨3, d48_67, rfl, rfl, ⟨rfl, by decide⟩, trivial, trivial⟩, trivial⟩
theorem v48_2 : am_all (am_V9 48) am_l48_2 := ⟨Or.inr ⟨3, d48_70, rfl, rfl, rfl, trivial, trivial⟩, Or.inr ⟨1, d48_73, rfl, rfl, am_eq9 (by decide +kernel), trivial, trivial⟩, Or.inr ⟨1, d48_74, rfl, rfl, trivial, trivial, trivial⟩, trivial⟩
theorem v48 : ∀ pc, am_V9 48 pc ((am_G 48).2.2.2.2.1 pc) := am_all_lc am_V9_0 _ ⟨v48_0, v48_1, v48_2, trivial⟩
theorem d49_0 : decode cX4_init 0 = .ok (.aload_n 0, 1) := by decide +kernel
theorem d49_1 : decode cX4_init 1 = .ok (.invokespecial 3, 3) := by decide +kernel
theorem d49_4 : decode cX4_init 4 = .ok (.aload_n 0, 1) := by decide +kernel
theorem d49_5 : decode cX4_init 5 = .ok (.bipush 64, 2) := by decide +kernel
theorem d49_7 : decode cX4_init 7 = .ok (.newarray .int, 2) := by decide +kernel
theorem d49_9 : decode cX4_init 9 = .ok (.putfield 9, 3) := by decide +kernel
theorem d49_12 : decode cX4_init 12 = .ok (.aload_n 0, 1) := by decide +kernel
theorem d49_13 : decode cX4_init 13 = .ok (.bipush 64, 2) := by decide +kernel
theorem d49_15 : decode cX4_init 15 = .ok (.newarray .int, 2) := by decide +kernel
theorem d49_17 : decode cX4_init 17 = .ok (.putfield 15, 3) := by decide +kernel
theorem d49_20 : decode cX4_init 20 = .ok (.aload_n 0, 1) := by decide +kernel
theorem d49_21 : decode cX4_init 21 = .ok (.bipush 64, 2) := by decide +kernel
theorem d49_23 : decode cX4_init 23 = .ok (.newarray .int, 2) := by decide +kernel
theorem d49_25 : decode cX4_init 25 = .ok (.putfield 18, 3) := by decide +kernel
theorem d49_28 : decode cX4_init 28 = .ok (.aload_n 0, 1) := by decide +kernel
theorem d49_29 : decode cX4_init 29 = .ok (.bipush 64, 2) := by decide +kernel
theorem d49_31 : decode cX4_init 31 = .ok (.newarray .int, 2) := by decide +kernel
theorem d49_33 : decode cX4_init 33 = .ok (.putfield 21, 3) := by decide +kernel
theorem d49_36 : decode cX4_init 36 = .ok (.aload_n 0, 1) := by decide +kernel
theorem d49_37 : decode cX4_init 37 = .ok (.bipush 64, 2) := by decide +kernel
theorem d49_39 : decode cX4_init 39 = .ok (.newarray .int, 2) := by decide +kernel
theorem d49_41 : decode cX4_init 41 = .ok (.putfield 24, 3) := by decide +kernel
theorem d49_44 : decode cX4_init 44 = .ok (.return_, 1) := by decide +kernel
theorem v49_0 : am_all (am_V9 49) am_l49_0 := ⟨Or.inr ⟨1, d49_0, rfl, rfl, rfl, trivial, trivial⟩, Or.inr ⟨3, d49_1, rfl, rfl, trivial, trivial, Or.inl ⟨rfl, aw_75, aw_31, aw_32⟩⟩, Or.inr ⟨1, d49_4, rfl, rfl, rfl, trivial, trivial⟩, Or.inr ⟨2, d49_5, rfl, rfl, am_eq9 (by decide +kernel), trivial, trivial⟩, Or.inr ⟨2, d49_7, rfl, rfl, trivial, ⟨rfl, aw_59⟩, trivial⟩, Or.inr ⟨3, d49_9, rfl, rfl, trivial, ⟨RX4, TX4, 6, rfl, by decide, aw_76, Or.inr ⟨rfl, rfl, rfl⟩⟩, trivial⟩, Or.inr ⟨1, d49_12, rfl, rfl, rfl, trivial, trivial⟩, Or.inr ⟨2, d49_13, rfl, rfl, am_eq9 (by decide +kernel), trivial, trivial⟩, Or.inr ⟨2, d49_15, rfl, rfl, trivial, ⟨rfl, aw_59⟩, trivial⟩, Or.inr ⟨3, d49_17, rfl, rfl, trivial, ⟨RX4, TX4, 6, rfl, by decide, aw_78, Or.inr ⟨rfl, rfl, rfl⟩⟩, trivial⟩, Or.inr ⟨1, d49_20, rfl, rfl, rfl, trivial, trivial⟩, Or.inr ⟨2, d49_21, rfl, rfl, am_eq9 (by decide +kernel), trivial, trivial⟩, Or.inr ⟨2, d49_23, rfl, rfl, trivial, ⟨rfl, aw_59⟩, trivial⟩, Or.inr ⟨3, d49_25, rfl, rfl, trivial, ⟨RX4, TX4, 6, rfl, by decide, aw_80, Or.inr ⟨rfl, rfl, rfl⟩⟩, trivial⟩, Or.inr ⟨1, d49_28, rfl, rfl, rfl, trivial, trivial⟩, Or.inr ⟨2, d49_29, rfl, rfl, am_eq9 (by decide +kernel), trivial, trivial⟩, Or.inr ⟨2, d49_31, rfl, rfl, trivial, ⟨rfl, aw_59⟩, trivial⟩, Or.inr ⟨3, d49_33, rfl, rfl, trivial, ⟨RX4, TX4, 6, rfl, by decide, aw_82, Or.inr ⟨rfl, rfl, rfl⟩⟩, trivial⟩, Or.inr ⟨1, d49_36, rfl, rfl, rfl, trivial, trivial⟩, Or.inr ⟨2, d49_37, rfl, rfl, am_eq9 (by decide +kernel), trivial, trivial⟩, Or.inr ⟨2, d49_39, rfl, rfl, trivial, ⟨rfl, aw_59⟩, trivial⟩, Or.inr ⟨3, d49_41, rfl, rfl, trivial, ⟨RX4, TX4, 6, rfl, by decide, aw_84, Or.inr ⟨rfl, rfl, rfl⟩⟩, trivial⟩, Or.inr ⟨1, d49_44, rfl, rfl, trivial, trivial, trivial⟩, trivial⟩
theorem v49 : ∀ pc, am_V9 49 pc ((am_G 49).2.2.2.2.1 pc) := am_all_lc am_V9_0 _ ⟨v49_0, trivial⟩
theorem d50_0 : decode cX4_append 0 = .ok (.aload_n 0, 1) := by decide +kernel
theorem d50_1 : decode cX4_append 1 = .ok (.getfield 27, 3) := by decide +kernel
theorem d50_4 : decode cX4_append 4 = .ok (.bipush 64, 2) := by decide +kernel
theorem d50_6 : decode cX4_append 6 = .ok (.if_icmp .lt 4, 3) := by decide +kernel
theorem d50_9 : decode cX4_append 9 = .ok (.return_, 1) := by decide +kernel
theorem d50_10 : decode cX4_append 10 = .ok (.aload_n 0, 1) := by decide +kernel
theorem d50_11 : decode cX4_append 11 = .ok (.getfield 9, 3) := by decide +kernel
theorem d50_14 : decode cX4_append 14 = .ok (.aload_n 0, 1) := by decide +kernel
theorem d50_15 : decode cX4_append 15 = .ok (.getfield 27, 3) := by decide +kernel
theorem d50_18 : decode cX4_append 18 = .ok (.iload_n 1, 1) := by decide +kernel
theorem d50_19 : decode cX4_append 19 = .ok (.iastore, 1) := by decide +kernel
theorem d50_20 : decode cX4_append 20 = .ok (.aload_n 0, 1) := by decide +kernel
theorem d50_21 : decode cX4_append 21 = .ok (.getfield 15, 3) := by decide +kernel
theorem d50_24 : decode cX4_append 24 = .ok (.aload_n 0, 1) := by decide +kernel
theorem d50_25 : decode cX4_append 25 = .ok (.getfield 27, 3) := by decide +kernel
theorem d50_28 : decode cX4_append 28 = .ok (.iload_n 2, 1) := by decide +kernel
theorem d50_29 : decode cX4_append 29 = .ok (.iastore, 1) := by decide +kernel
theorem d50_30 : decode cX4_append 30 = .ok (.aload_n 0, 1) := by decide +kernel
theorem d50_31 : decode cX4_append 31 = .ok (.getfield 18, 3) := by decide +kernel
theorem d50_34 : decode cX4_append 34 = .ok (.aload_n 0, 1) := by decide +kernel
theorem d50_35 : decode cX4_append 35 = .ok (.getfield 27, 3) := by decide +kernel
theorem d50_38 : decode cX4_append 38 = .ok (.iload_n 3, 1) := by decide +kernel
theorem d50_39 : decode cX4_append 39 = .ok (.iastore, 1) := by decide +kernel
theorem d50_40 : decode cX4_append 40 = .ok (.aload_n 0, 1) := by decide +kernel
theorem d50_41 : decode cX4_append 41 = .ok (.getfield 21, 3) := by decide +kernel
theorem d50_44 : decode cX4_append 44 = .ok (.aload_n 0, 1) := by decide +kernel
theorem d50_45 : decode cX4_append 45 = .ok (.getfield 27, 3) := by decide +kernel
theorem d50_48 : decode cX4_append 48 = .ok (.iload 4, 2) := by decide +kernel
theorem d50_50 : decode cX4_append 50 = .ok (.iastore, 1) := by decide +kernel
theorem d50_51 : decode cX4_append 51 = .ok (.aload_n 0, 1) := by decide +kernel
theorem d50_52 : decode cX4_append 52 = .ok (.getfield 24, 3) := by decide +kernel
theorem d50_55 : decode cX4_append 55 = .ok (.aload_n 0, 1) := by decide +kernel
theorem d50_56 : decode cX4_append 56 = .ok (.getfield 27, 3) := by decide +kernel
theorem d50_59 : decode cX4_append 59 = .ok (.iconst (-1), 1) := by decide +kernel
theorem d50_60 : decode cX4_append 60 = .ok (.iastore, 1) := by decide +kernel
theorem d50_61 : decode cX4_append 61 = .ok (.iload_n 1, 1) := by decide +kernel
theorem d50_62 : decode cX4_append 62 = .ok (.bipush 101, 2) := by decide +kernel
theorem d50_64 : decode cX4_append 64 = .ok (.if_icmp .ne 7, 3) := by decide +kernel
theorem d50_67 : decode cX4_append 67 = .ok (.aload_n 0, 1) := by decide +kernel
theorem d50_68 : decode cX4_append 68 = .ok (.invokevirtual 31, 3) := by decide +kernel
theorem d50_71 : decode cX4_append 71 = .ok (.aload_n 0, 1) := by decide +kernel
theorem d50_72 : decode cX4_append 72 = .ok (.dup, 1) := by decide +kernel
theorem d50_73 : decode cX4_append 73 = .ok (.getfield 27, 3) := by decide +kernel
theorem d50_76 : decode cX4_append 76 = .ok (.iconst 1, 1) := by decide +kernel
theorem d50_77 : decode cX4_append 77 = .ok (.iadd, 1) := by decide +kernel
theorem d50_78 : decode cX4_append 78 = .ok (.putfield 27, 3) := by decide +kernel
theorem d50_81 : decode cX4_append 81 = .ok (.return_, 1) := by decide +kernel
theorem v50_0 : am_all (am_V9 50) am_l50_0 := ⟨Or.inr ⟨1, d50_0, rfl, rfl, rfl, trivial, trivial⟩, Or.inr ⟨3, d50_1, rfl, rfl, trivial, ⟨RX4, TX4, 6, rfl, by decide, Or.inl aw_85⟩, trivial⟩, Or.inr ⟨2, d50_4, rfl, rfl, am_eq9 (by decide +kernel), trivial, trivial⟩, Or.inr ⟨3, d50_6, rfl, rfl, rfl, trivial, trivial⟩, Or.inr ⟨1, d50_9, rfl, rfl, trivial, trivial, trivial⟩, Or.inr ⟨1, d50_10, rfl, rfl, rfl, trivial, trivial⟩, Or.inr ⟨3, d50_11, rfl, rfl, trivial, ⟨RX4, TX4, 6, rfl, by decide, Or.inl aw_76⟩, trivial⟩, Or.inr ⟨1, d50_14, rfl, rfl, rfl, trivial, trivial⟩, Or.inr ⟨3, d50_15, rfl, rfl, trivial, ⟨RX4, TX4, 6, rfl, by decide, Or.inl aw_85⟩, trivial⟩, Or.inr ⟨1, d50_18, rfl, rfl, rfl, trivial, trivial⟩, Or.inr ⟨1, d50_19, rfl, rfl, trivial, trivial, trivial⟩, Or.inr ⟨1, d50_20, rfl, rfl, rfl, trivial, trivial⟩, Or.inr ⟨3, d50_21, rfl, rfl, trivial, ⟨RX4, TX4, 6, rfl, by decide, Or.inl aw_78⟩, trivial⟩, Or.inr ⟨1, d50_24, rfl, rfl, rfl, trivial, trivial⟩, Or.inr ⟨3, d50_25, rfl, rfl, trivial, ⟨RX4, TX4, 6, rfl, by decide, Or.inl aw_85⟩, trivial⟩, Or.inr ⟨1, d50_28, rfl, rfl, rfl, trivial, trivial⟩, Or.inr ⟨1, d50_29, rfl, rfl, trivial, trivial, trivial⟩, Or.inr ⟨1, d50_30, rfl, rfl, rfl, trivial, trivial⟩, Or.inr ⟨3, d50_31, rfl, rfl, trivial, ⟨RX4, TX4, 6, rfl, by decide, Or.inl aw_80⟩, trivial⟩, Or.inr ⟨1, d50_34, rfl, rfl, rfl, trivial, trivial⟩, Or.inr ⟨3, d50_35, rfl, rfl, trivial, ⟨RX4, TX4, 6, rfl, by decide, Or.inl aw_85⟩, trivial⟩, Or.inr ⟨1, d50_38, rfl, rfl, rfl, trivial, trivial⟩, Or.inr ⟨1, d50_39, rfl, rfl, trivial, trivial, trivial⟩, Or.inr ⟨1, d50_40, rfl, rfl, rfl, trivial, trivial⟩, trivial⟩
theorem v50_1 : am_all (am_V9 50) am_l50_1 := ⟨Or.inr ⟨3, d50_41, rfl, rfl, trivial, ⟨RX4, TX4, 6, rfl, by decide, Or.inl aw_82⟩, trivial⟩, Or.inr ⟨1, d50_44, rfl, rfl, rfl, trivial, trivial⟩, Or.inr ⟨3, d50_45, rfl, rfl, trivial, ⟨RX4, TX4, 6, rfl, by decide, Or.inl aw_85⟩, trivial⟩, Or.inr ⟨2, d50_48, rfl, rfl, rfl, trivial, trivial⟩, Or.inr ⟨1, d50_50, rfl, rfl, trivial, trivial, trivial⟩, Or.inr ⟨1, d50_51, rfl, rfl, rfl, trivial, trivial⟩, Or.inr ⟨3, d50_52, rfl, rfl, trivial, ⟨RX4, TX4, 6, rfl, by decide, Or.inl aw_84⟩, trivial⟩, Or.inr ⟨1, d50_55, rfl, rfl, rfl, trivial, trivial⟩, Or.inr ⟨3, d50_56, rfl, rfl, trivial, ⟨RX4, TX4, 6, rfl, by decide, Or.inl aw_85⟩, trivial⟩, Or.inr ⟨1, d50_59, rfl, rfl, am_eq9 (by decide +kernel), trivial, trivial⟩, Or.inr ⟨1, d50_60, rfl, rfl, trivial, trivial, trivial⟩, Or.inr ⟨1, d50_61, rfl, rfl, rfl, trivial, trivial⟩, Or.inr ⟨2, d50_62, rfl, rfl, am_eq9 (by decide +kernel), trivial, trivial⟩, Or.inr ⟨3, d50_64, rfl, rfl, rfl, trivial, trivial⟩, Or.inr ⟨1, d50_67, rfl, rfl, rfl, trivial, trivial⟩, Or.inr ⟨3, d50_68, rfl, rfl, trivial, trivial, ⟨by decide, ⟨_, TX4, 6, rfl, okM_51, rfl⟩, aw_796, aw_798, as_51⟩⟩, Or.inr ⟨1, d50_71, rfl, rfl, rfl, trivial, trivial⟩, Or.inr ⟨1, d50_72, rfl, rfl, trivial, trivial, trivial⟩, Or.inr ⟨3, d50_73, rfl, rfl, trivial, ⟨RX4, TX4, 6, rfl, by decide, Or.inl aw_85⟩, trivial⟩, Or.inr ⟨1, d50_76, rfl, rfl, am_eq9 (by decide +kernel), trivial, trivial⟩, Or.inr ⟨1, d50_77, rfl, rfl, trivial, trivial, trivial⟩, Or.inr ⟨3, d50_78, rfl, rfl, trivial, ⟨RX4, TX4, 6, rfl, by decide, aw_85, Or.inl rfl⟩, trivial⟩, Or.inr ⟨1, d50_81, rfl, rfl, trivial, trivial, trivial⟩, trivial⟩
theorem v50 : ∀ pc, am_V9 50 pc ((am_G 50).2.2.2.2.1 pc) := am_all_lc am_V9_0 _ ⟨v50_0, v50_1, trivial⟩
theorem d51_0 : decode cX4_closeLastOpened 0 = .ok (.aload_n 0, 1) := by decide +kernel
theorem d51_1 : decode cX4_closeLastOpened 1 = .ok (.getfield 27, 3) := by decide +kernel
theorem d51_4 : decode cX4_closeLastOpened 4 = .ok (.iconst 1, 1) := by decide +kernel
theorem d51_5 : decode cX4_closeLastOpened 5 = .ok (.isub, 1) := by decide +kernel
theorem d51_6 : decode cX4_closeLastOpened 6 = .ok (.istore_n 1, 1) := by decide +kernel
theorem d51_7 : decode cX4_closeLastOpened 7 = .ok (.iload_n 1, 1) := by decide +kernel
theorem d51_8 : decode cX4_closeLastOpened 8 = .ok (.ifCond .lt 48, 3) := by decide +kernel
theorem d51_11 : decode cX4_closeLastOpened 11 = .ok (.aload_n 0, 1) := by decide +kernel
theorem d51_12 : decode cX4_closeLastOpened 12 = .ok (.iload_n 1, 1) := by decide +kernel
theorem d51_13 : decode cX4_closeLastOpened 13 = .ok (.invokevirtual 34, 3) := by decide +kernel
theorem d51_16 : decode cX4_closeLastOpened 16 = .ok (.ifCond .eq 34, 3) := by decide +kernel
theorem d51_19 : decode cX4_closeLastOpened 19 = .ok (.aload_n 0, 1) := by decide +kernel
theorem d51_20 : decode cX4_closeLastOpened 20 = .ok (.getfield 24, 3) := by decide +kernel
theorem d51_23 : decode cX4_closeLastOpened 23 = .ok (.iload_n 1, 1) := by decide +kernel
theorem d51_24 : decode cX4_closeLastOpened 24 = .ok (.iaload, 1) := by decide +kernel
theorem d51_25 : decode cX4_closeLastOpened 25 = .ok (.iconst (-1), 1) := by decide +kernel
theorem d51_26 : decode cX4_closeLastOpened 26 = .ok (.if_icmp .ne 24, 3) := by decide +kernel
theorem d51_29 : decode cX4_closeLastOpened 29 = .ok (.aload_n 0, 1) := by decide +kernel
theorem d51_30 : decode cX4_closeLastOpened 30 = .ok (.getfield 24, 3) := by decide +kernel
theorem d51_33 : decode cX4_closeLastOpened 33 = .ok (.iload_n 1, 1) := by decide +kernel
theorem d51_34 : decode cX4_closeLastOpened 34 = .ok (.aload_n 0, 1) := by decide +kernel
theorem d51_35 : decode cX4_closeLastOpened 35 = .ok (.getfield 27, 3) := by decide +kernel
theorem d51_38 : decode cX4_closeLastOpened 38 = .ok (.iastore, 1) := by decide +kernel
theorem d51_39 : decode cX4_closeLastOpened 39 = .ok (.aload_n 0, 1) := by decide +kernel
theorem d51_40 : decode cX4_closeLastOpened 40 = .ok (.getfield 24, 3) := by decide +kernel
theorem d51_43 : decode cX4_closeLastOpened 43 = .ok (.aload_n 0, 1) := by decide +kernel
theorem d51_44 : decode cX4_closeLastOpened 44 = .ok (.getfield 27, 3) := by decide +kernel
theorem d51_47 : decode cX4_closeLastOpened 47 = .ok (.iload_n 1, 1) := by decide +kernel
theorem d51_48 : decode cX4_closeLastOpened 48 = .ok (.iastore, 1) := by decide +kernel
theorem d51_49 : decode cX4_closeLastOpened 49 = .ok (.return_, 1) := by decide +kernel
theorem d51_50 : decode cX4_closeLastOpened 50 = .ok (.iinc 1 (-1), 3) := by decide +kernel
theorem d51_53 : decode cX4_closeLastOpened 53 = .ok (.goto (-46), 3) := by decide +kernel
theorem d51_56 : decode cX4_closeLastOpened 56 = .ok (.return_, 1) := by decide +kernel
theorem v51_0 : am_all (am_V9 51) am_l51_0 := ⟨Or.inr ⟨1, d51_0, rfl, rfl, rfl, trivial, trivial⟩, Or.inr ⟨3, d51_1, rfl, rfl, trivial, ⟨RX4, TX4, 6, rfl, by decide, Or.inl aw_85⟩, trivial⟩, Or.inr ⟨1, d51_4, rfl, rfl, am_eq9 (by decide +kernel), trivial, trivial⟩, Or.inr ⟨1, d51_5, rfl, rfl, trivial, trivial, trivial⟩, Or.inr ⟨1, d51_6, rfl, rfl, rfl, trivial, trivial⟩, Or.inr ⟨1, d51_7, rfl, rfl, rfl, trivial, trivial⟩, Or.inr ⟨3, d51_8, rfl, rfl, rfl, trivial, trivial⟩, Or.inr ⟨1, d51_11, rfl, rfl, rfl, trivial, trivial⟩, Or.inr ⟨1, d51_12, rfl, rfl, rfl, trivial, trivial⟩, Or.inr ⟨3, d51_13, rfl, rfl, trivial, trivial, ⟨by decide, ⟨_, TX4, 6, rfl, okM_55, rfl⟩, aw_271, aw_273, as_55⟩⟩, Or.inr ⟨3, d51_16, rfl, rfl, rfl, trivial, trivial⟩, Or.inr ⟨1, d51_19, rfl, rfl, rfl, trivial, trivial⟩, Or.inr ⟨3, d51_20, rfl, rfl, trivial, ⟨RX4, TX4, 6, rfl, by decide, Or.inl aw_84⟩, trivial⟩, Or.inr ⟨1, d51_23, rfl, rfl, rfl, trivial, trivial⟩, Or.inr ⟨1, d51_24, rfl, rfl, trivial, trivial, trivial⟩, Or.inr ⟨1, d51_25, rfl, rfl, am_eq9 (by decide +kernel), trivial, trivial⟩, Or.inr ⟨3, d51_26, rfl, rfl, rfl, trivial, trivial⟩, Or.inr ⟨1, d51_29, rfl, rfl, rfl, trivial, trivial⟩, Or.inr ⟨3, d51_30, rfl, rfl, trivial, ⟨RX4, TX4, 6, rfl, by decide, Or.inl aw_84⟩, trivial⟩, Or.inr ⟨1, d51_33, rfl, rfl, rfl, trivial, trivial⟩, Or.inr ⟨1, d51_34, rfl, rfl, rfl, trivial, trivial⟩, Or.inr ⟨3, d51_35, rfl, rfl, trivial, ⟨RX4, TX4, 6, rfl, by decide, Or.inl aw_85⟩, trivial⟩, Or.inr ⟨1, d51_38, rfl, rfl, trivial, trivial, trivial⟩, Or.inr ⟨1, d51_39, rfl, rfl, rfl, trivial, trivial⟩, trivial⟩
theorem v51_1 : am_all (am_V9 51) am_l51_1 := ⟨Or.inr ⟨3, d51_40, rfl, rfl, trivial, ⟨RX4, TX4, 6, rfl, by decide, Or.inl aw_84⟩, trivial⟩, Or.inr ⟨1, d51_43, rfl, rfl, rfl, trivial, trivial⟩, Or.inr ⟨3, d51_44, rfl, rfl, trivial, ⟨RX4, TX4, 6, rfl, by decide, Or.inl aw_85⟩, trivial⟩, Or.inr ⟨1, d51_47, rfl, rfl, rfl, trivial, trivial⟩, Or.inr ⟨1, d51_48, rfl, rfl, trivial, trivial, trivial⟩, Or.inr ⟨1, d51_49, rfl, rfl, trivial, trivial, trivial⟩, Or.inr ⟨3, d51_50, rfl, rfl, ⟨rfl, by decide⟩, trivial, trivial⟩, Or.inr ⟨3, d51_53, rfl, rfl, rfl, trivial, trivial⟩, Or.inr ⟨1, d51_56, rfl, rfl, trivial, trivial, trivial⟩, trivial⟩
theorem v51 : ∀ pc, am_V9 51 pc ((am_G 51).2.2.2.2.1 pc) := am_all_lc am_V9_0 _ ⟨v51_0, v51_1, trivial⟩
theorem d52_0 : decode cX4_removeLast 0 = .ok (.aload_n 0, 1) := by decide +kernel
theorem d52_1 : decode cX4_removeLast 1 = .ok (.getfield 27, 3) := by decide +kernel
theorem d52_4 : decode cX4_removeLast 4 = .ok (.ifCond .gt 4, 3) := by decide +kernel
theorem d52_7 : decode cX4_removeLast 7 = .ok (.return_, 1) := by decide +kernel
theorem d52_8 : decode cX4_removeLast 8 = .ok (.aload_n 0, 1) := by decide +kernel
theorem d52_9 : decode cX4_removeLast 9 = .ok (.dup, 1) := by decide +kernel
theorem d52_10 : decode cX4_removeLast 10 = .ok (.getfield 27, 3) := by decide +kernel
theorem d52_13 : decode cX4_removeLast 13 = .ok (.iconst 1, 1) := by decide +kernel
theorem d52_14 : decode cX4_removeLast 14 = .ok (.isub, 1) := by decide +kernel
theorem d52_15 : decode cX4_removeLast 15 = .ok (.putfield 27, 3) := by decide +kernel
theorem d52_18 : decode cX4_removeLast 18 = .ok (.aload_n 0, 1) := by decide +kernel
theorem d52_19 : decode cX4_removeLast 19 = .ok (.getfield 24, 3) := by decide +kernel
theorem d52_22 : decode cX4_removeLast 22 = .ok (.aload_n 0, 1) := by decide +kernel
theorem d52_23 : decode cX4_removeLast 23 = .ok (.getfield 27, 3) := by decide +kernel
theorem d52_26 : decode cX4_removeLast 26 = .ok (.iaload, 1) := by decide +kernel
theorem d52_27 : decode cX4_removeLast 27 = .ok (.istore_n 1, 1) := by decide +kernel
theorem d52_28 : decode cX4_removeLast 28 = .ok (.aload_n 0, 1) := by decide +kernel
theorem d52_29 : decode cX4_removeLast 29 = .ok (.iload_n 1, 1) := by decide +kernel
theorem d52_30 : decode cX4_removeLast 30 = .ok (.invokevirtual 38, 3) := by decide +kernel
theorem d52_33 : decode cX4_removeLast 33 = .ok (.ifCond .eq 10, 3) := by decide +kernel
theorem d52_36 : decode cX4_removeLast 36 = .ok (.aload_n 0, 1) := by decide +kernel
theorem d52_37 : decode cX4_removeLast 37 = .ok (.getfield 24, 3) := by decide +kernel
theorem d52_40 : decode cX4_removeLast 40 = .ok (.iload_n 1, 1) := by decide +kernel
theorem d52_41 : decode cX4_removeLast 41 = .ok (.iconst (-1), 1) := by decide +kernel
theorem d52_42 : decode cX4_removeLast 42 = .ok (.iastore, 1) := by decide +kernel
theorem d52_43 : decode cX4_removeLast 43 = .ok (.return_, 1) := by decide +kernel
theorem v52_0 : am_all (am_V9 52) am_l52_0 := ⟨Or.inr ⟨1, d52_0, rfl, rfl, rfl, trivial, trivial⟩, Or.inr ⟨3, d52_1, rfl, rfl, trivial, ⟨RX4, TX4, 6, rfl, by decide, Or.inl aw_85⟩, trivial⟩, Or.inr ⟨3, d52_4, rfl, rfl, rfl, trivial, trivial⟩, Or.inr ⟨1, d52_7, rfl, rfl, trivial, trivial, trivial⟩, Or.inr ⟨1, d52_8, rfl, rfl, rfl, trivial, trivial⟩, Or.inr ⟨1, d52_9, rfl, rfl, trivial, trivial, trivial⟩, Or.inr ⟨3, d52_10, rfl, rfl, trivial, ⟨RX4, TX4, 6, rfl, by decide, Or.inl aw_85⟩, trivial⟩, Or.inr ⟨1, d52_13, rfl, rfl, am_eq9 (by decide +kernel), trivial, trivial⟩, Or.inr ⟨1, d52_14, rfl, rfl, trivial, trivial, trivial⟩, Or.inr ⟨3, d52_15, rfl, rfl, trivial, ⟨RX4, TX4, 6, rfl, by decide, aw_85, Or.inl rfl⟩, trivial⟩, Or.inr ⟨1, d52_18, rfl, rfl, rfl, trivial, trivial⟩, Or.inr ⟨3, d52_19, rfl, rfl, trivial, ⟨RX4, TX4, 6, rfl, by decide, Or.inl aw_84⟩, trivial⟩, Or.inr ⟨1, d52_22, rfl, rfl, rfl, trivial, trivial⟩, Or.inr ⟨3, d52_23, rfl, rfl, trivial, ⟨RX4, TX4, 6, rfl, by decide, Or.inl aw_85⟩, trivial⟩, Or.inr ⟨1, d52_26, rfl, rfl, trivial, trivial, trivial⟩, Or.inr ⟨1, d52_27, rfl, rfl, rfl, trivial, trivial⟩, Or.inr ⟨1, d52_28, rfl, rfl, rfl, trivial, trivial⟩, Or.inr ⟨1, d52_29, rfl, rfl, rfl, trivial, trivial⟩, Or.inr ⟨3, d52_30, rfl, rfl, trivial, trivial, ⟨by decide, ⟨_, TX4, 6, rfl, okM_54, rfl⟩, aw_275, aw_276, aw_277⟩⟩, Or.inr ⟨3, d52_33, rfl, rfl, rfl, trivial, trivial⟩, Or.inr ⟨1, d52_36, rfl, rfl, rfl, trivial, trivial⟩, Or.inr ⟨3, d52_37, rfl, rfl, trivial, ⟨RX4, TX4, 6, rfl, by decide, Or.inl aw_84⟩, trivial⟩, Or.inr ⟨1, d52_40, rfl, rfl, rfl, trivial, trivial⟩, Or.inr ⟨1, d52_41, rfl, rfl, am_eq9 (by decide +kernel), trivial, trivial⟩, trivial⟩
theorem v52_1 : am_all (am_V9 52) am_l52_1 := ⟨Or.inr ⟨1, d52_42, rfl, rfl, trivial, trivial, trivial⟩, Or.inr ⟨1, d52_43, rfl, rfl, trivial, trivial, trivial⟩, trivial⟩
theorem v52 : ∀ pc, am_V9 52 pc ((am_G 52).2.2.2.2.1 pc) := am_all_lc am_V9_0 _ ⟨v52_0, v52_1, trivial⟩
theorem d53_0 : decode cX4_isWhole 0 = .ok (.iconst 0, 1) := by decide +kernel
theorem d53_1 : decode cX4_isWhole 1 = .ok (.istore_n 1, 1) := by decide +kernel
theorem d53_2 : decode cX4_isWhole 2 = .ok (.iconst 0, 1) := by decide +kernel
theorem d53_3 : decode cX4_isWhole 3 = .ok (.istore_n 2, 1) := by decide +kernel
theorem d53_4 : decode cX4_isWhole 4 = .ok (.iload_n 2, 1) := by decide +kernel
theorem d53_5 : decode cX4_isWhole 5 = .ok (.aload_n 0, 1) := by decide +kernel
theorem d53_6 : decode cX4_isWhole 6 = .ok (.getfield 27, 3) := by decide +kernel
theorem d53_9 : decode cX4_isWhole 9 = .ok (.if_icmp .ge 73, 3) := by decide +kernel
theorem d53_12 : decode cX4_isWhole 12 = .ok (.aload_n 0, 1) := by decide +kernel
theorem d53_13 : decode cX4_isWhole 13 = .ok (.iload_n 2, 1) := by decide +kernel
theorem d53_14 : decode cX4_isWhole 14 = .ok (.invokevirtual 34, 3) := by decide +kernel
theorem d53_17 : decode cX4_isWhole 17 = .ok (.istore_n 3, 1) := by decide +kernel
theorem d53_18 : decode cX4_isWhole 18 = .ok (.iload_n 3, 1) := by decide +kernel
theorem d53_19 : decode cX4_isWhole 19 = .ok (.ifCond .ne 14, 3) := by decide +kernel
theorem d53_22 : decode cX4_isWhole 22 = .ok (.aload_n 0, 1) := by decide +kernel
theorem d53_23 : decode cX4_isWhole 23 = .ok (.getfield 9, 3) := by decide +kernel
theorem d53_26 : decode cX4_isWhole 26 = .ok (.iload_n 2, 1) := by decide +kernel
theorem d53_27 : decode cX4_isWhole 27 = .ok (.iaload, 1) := by decide +kernel
theorem d53_28 : decode cX4_isWhole 28 = .ok (.bipush 101, 2) := by decide +kernel
theorem d53_30 : decode cX4_isWhole 30 = .ok (.if_icmp .ne 15, 3) := by decide +kernel
theorem d53_33 : decode cX4_isWhole 33 = .ok (.aload_n 0, 1) := by decide +kernel
theorem d53_34 : decode cX4_isWhole 34 = .ok (.getfield 24, 3) := by decide +kernel
theorem d53_37 : decode cX4_isWhole 37 = .ok (.iload_n 2, 1) := by decide +kernel
theorem d53_38 : decode cX4_isWhole 38 = .ok (.iaload, 1) := by decide +kernel
theorem d53_39 : decode cX4_isWhole 39 = .ok (.iconst (-1), 1) := by decide +kernel
theorem d53_40 : decode cX4_isWhole 40 = .ok (.if_icmp .ne 5, 3) := by decide +kernel
theorem d53_43 : decode cX4_isWhole 43 = .ok (.iconst 0, 1) := by decide +kernel
theorem d53_44 : decode cX4_isWhole 44 = .ok (.ireturn, 1) := by decide +kernel
theorem d53_45 : decode cX4_isWhole 45 = .ok (.iload_n 3, 1) := by decide +kernel
theorem d53_46 : decode cX4_isWhole 46 = .ok (.ifCond .eq 9, 3) := by decide +kernel
theorem d53_49 : decode cX4_isWhole 49 = .ok (.iinc 1 1, 3) := by decide +kernel
theorem d53_52 : decode cX4_isWhole 52 = .ok (.goto 17, 3) := by decide +kernel
theorem d53_55 : decode cX4_isWhole 55 = .ok (.aload_n 0, 1) := by decide +kernel
theorem d53_56 : decode cX4_isWhole 56 = .ok (.getfield 9, 3) := by decide +kernel
theorem d53_59 : decode cX4_isWhole 59 = .ok (.iload_n 2, 1) := by decide +kernel
theorem d53_60 : decode cX4_isWhole 60 = .ok (.iaload, 1) := by decide +kernel
theorem d53_61 : decode cX4_isWhole 61 = .ok (.bipush 101, 2) := by decide +kernel
theorem d53_63 : decode cX4_isWhole 63 = .ok (.if_icmp .ne 6, 3) := by decide +kernel
theorem d53_66 : decode cX4_isWhole 66 = .ok (.iinc 1 (-1), 3) := by decide +kernel
theorem d53_69 : decode cX4_isWhole 69 = .ok (.iload_n 1, 1) := by decide +kernel
theorem d53_70 : decode cX4_isWhole 70 = .ok (.iconst 3, 1) := by decide +kernel
theorem d53_71 : decode cX4_isWhole 71 = .ok (.if_icmp .le 5, 3) := by decide +kernel
theorem d53_74 : decode cX4_isWhole 74 = .ok (.iconst 0, 1) := by decide +kernel
theorem d53_75 : decode cX4_isWhole 75 = .ok (.ireturn, 1) := by decide +kernel
theorem d53_76 : decode cX4_isWhole 76 = .ok (.iinc 2 1, 3) := by decide +kernel
theorem d53_79 : decode cX4_isWhole 79 = .ok (.goto (-75), 3) := by decide +kernel
theorem d53_82 : decode cX4_isWhole 82 = .ok (.iconst 1, 1) := by decide +kernel
theorem d53_83 : decode cX4_isWhole 83 = .ok (.ireturn, 1) := by decide +kernel
theorem v53_0 : am_all (am_V9 53) am_l53_0 := ⟨Or.inr ⟨1, d53_0, rfl, rfl, am_eq9 (by decide +kernel), trivial, trivial⟩, Or.inr ⟨1, d53_1, rfl, rfl, rfl, trivial, trivial⟩, Or.inr ⟨1, d53_2, rfl, rfl, am_eq9 (by decide +kernel), trivial, trivial⟩, Or.inr ⟨1, d53_3, rfl, rfl, rfl, trivial, trivial⟩, Or.inr ⟨1, d53_4, rfl, rfl, rfl, trivial, trivial⟩, Or.inr ⟨1, d53_5, rfl, rfl, rfl, trivial, trivial⟩, Or.inr ⟨3, d53_6, rfl, rfl, trivial, ⟨RX4, TX4, 6, rfl, by decide, Or.inl aw_85⟩, trivial⟩, Or.inr ⟨3, d53_9, rfl, rfl, rfl, trivial, trivial⟩, Or.inr ⟨1, d53_12, rfl, rfl, rfl, trivial, trivial⟩, Or.inr ⟨1, d53_13, rfl, rfl, rfl, trivial, trivial⟩, Or.inr ⟨3, d53_14, rfl, rfl, trivial, trivial, ⟨by decide, ⟨_, TX4, 6, rfl, okM_55, rfl⟩, aw_271, aw_273, as_55⟩⟩, Or.inr ⟨1, d53_17, rfl, rfl, rfl, trivial, trivial⟩, Or.inr ⟨1, d53_18, rfl, rfl, rfl, trivial, trivial⟩, Or.inr ⟨3, d53_19, rfl, rfl, rfl, trivial, trivial⟩, Or.inr ⟨1, d53_22, rfl, rfl, rfl, trivial, trivial⟩, Or.inr ⟨3, d53_23, rfl, rfl, trivial, ⟨RX4, TX4, 6, rfl, by decide, Or.inl aw_76⟩, trivial⟩, Or.inr ⟨1, d53_26, rfl, rfl, rfl, trivial, trivial⟩, Or.inr ⟨1, d53_27, rfl, rfl, trivial, trivial, trivial⟩, Or.inr ⟨2, d53_28, rfl, rfl, am_eq9 (by decide +kernel), trivial, trivial⟩, Or.inr ⟨3, d53_30, rfl, rfl, rfl, trivial, trivial⟩, Or.inr ⟨1, d53_33, rfl, rfl, rfl, trivial, trivial⟩, Or.inr ⟨3, d53_34, rfl, rfl, trivial, ⟨RX4, TX4, 6, rfl, by decide, Or.inl aw_84⟩, trivial⟩, Or.inr ⟨1, d53_37, rfl, rfl, rfl, trivial, trivial⟩, Or.inr ⟨1, d53_38, rfl, rfl, trivial, trivial, trivial⟩, trivial⟩
theorem v53_1 : am_all (am_V9 53) am_l53_1 := ⟨Or.inr ⟨1, d53_39, rfl, rfl, am_eq9 (by decide +kernel), trivial, trivial⟩, Or.inr ⟨3, d53_40, rfl, rfl, rfl, trivial, trivial⟩, Or.inr ⟨1, d53_43, rfl, rfl, am_eq9 (by decide +kernel), trivial, trivial⟩, Or.inr ⟨1, d53_44, rfl, rfl, trivial, trivial, trivial⟩, Or.inr ⟨1, d53_45, rfl, rfl, rfl, trivial, trivial⟩, Or.inr ⟨3, d53_46, rfl, rfl, rfl, trivial, trivial⟩, Or.inr ⟨3, d53_49, rfl, rfl, ⟨rfl, by decide⟩, trivial, trivial⟩, Or.inr ⟨3, d53_52, rfl, rfl, rfl, trivial, trivial⟩, Or.inr ⟨1, d53_55, rfl, rfl, rfl, trivial, trivial⟩, Or.inr ⟨3, d53_56, rfl, rfl, trivial, ⟨RX4, TX4, 6, rfl, by decide, Or.inl aw_76⟩, trivial⟩, Or.inr ⟨1, d53_59, rfl, rfl, rfl, trivial, trivial⟩, Or.inr ⟨1, d53_60, rfl, rfl, trivial, trivial, trivial⟩, Or.inr ⟨2, d53_61, rfl, rfl, am_eq9 (by decide +kernel), trivial, trivial⟩, Or.inr ⟨3, d53_63, rfl, rfl, rfl, trivial, trivial⟩, Or.inr ⟨3, d53_66, rfl, rfl, ⟨rfl, by decide⟩, trivial, trivial⟩, Or.inr ⟨1, d53_69, rfl, rfl, rfl, trivial, trivial⟩, Or.inr ⟨1, d53_70, rfl, rfl, am_eq9 (by decide +kernel), trivial, trivial⟩, Or.inr ⟨3, d53_71, rfl, rfl, rfl, trivial, trivial⟩, Or.inr ⟨1, d53_74, rfl, rfl, am_eq9 (by decide +kernel), trivial, trivial⟩, Or.inr ⟨1, d53_75, rfl, rfl, trivial, trivial, trivial⟩, Or.inr ⟨3, d53_76, rfl, rfl, ⟨rfl, by decide⟩, trivial, trivial⟩, Or.inr ⟨3, d53_79, rfl, rfl, rfl, trivial, trivial⟩, Or.inr ⟨1, d53_82, rfl, rfl, am_eq9 (by decide +kernel), trivial, trivial⟩, Or.inr ⟨1, d53_83, rfl, rfl, trivial, trivial, trivial⟩, trivial⟩
theorem v53 : ∀ pc, am_V9 53 pc ((am_G 53).2.2.2.2.1 pc) := am_all_lc am_V9_0 _ ⟨v53_0, v53_1, trivial⟩
theorem d54_0 : decode cX4_isBlock 0 = .ok (.iload_n 1, 1) := by decide +kernel
theorem d54_1 : decode cX4_isBlock 1 = .ok (.iconst 0, 1) := by decide +kernel
theorem d54_2 : decode cX4_isBlock 2 = .ok (.aload_n 0, 1) := by decide +kernel
theorem d54_3 : decode cX4_isBlock 3 = .ok (.getfield 27, 3) := by decide +kernel
theorem d54_6 : decode cX4_isBlock 6 = .ok (.iconst 1, 1) := by decide +kernel
theorem d54_7 : decode cX4_isBlock 7 = .ok (.isub, 1) := by decide +kernel
theorem d54_8 : decode cX4_isBlock 8 = .ok (.invokestatic 41, 3) := by decide +kernel
theorem d54_11 : decode cX4_isBlock 11 = .ok (.ireturn, 1) := by decide +kernel
theorem v54_0 : am_all (am_V9 54) am_l54_0 := ⟨Or.inr ⟨1, d54_0, rfl, rfl, rfl, trivial, trivial⟩, Or.inr ⟨1, d54_1, rfl, rfl, am_eq9 (by decide +kernel), trivial, trivial⟩, Or.inr ⟨1, d54_2, rfl, rfl, rfl, trivial, trivial⟩, Or.inr ⟨3, d54_3, rfl, rfl, trivial, ⟨RX4, TX4, 6, rfl, by decide, Or.inl aw_85⟩, trivial⟩, Or.inr ⟨1, d54_6, rfl, rfl, am_eq9 (by decide +kernel), trivial, trivial⟩, Or.inr ⟨1, d54_7, rfl, rfl, trivial, trivial, trivial⟩, Or.inr ⟨3, d54_8, rfl, rfl, trivial, trivial, Or.inr ⟨by decide, okM_84, aw_280, Or.inr ⟨rfl, _, an_7⟩⟩⟩, Or.inr ⟨1, d54_11, rfl, rfl, trivial, trivial, trivial⟩, trivial⟩
theorem v54 : ∀ pc, am_V9 54 pc ((am_G 54).2.2.2.2.1 pc) := am_all_lc am_V9_0 _ ⟨v54_0, trivial⟩
theorem d55_0 : decode cX4_isOpening 0 = .ok (.aload_n 0, 1) := by decide +kernel
theorem d55_1 : decode cX4_isOpening 1 = .ok (.iload_n 1, 1) := by decide +kernel
theorem d55_2 : decode cX4_isOpening 2 = .ok (.invokevirtual 38, 3) := by decide +kernel
theorem d55_5 : decode cX4_isOpening 5 = .ok (.ifCond .eq 29, 3) := by decide +kernel
theorem d55_8 : decode cX4_isOpening 8 = .ok (.aload_n 0, 1) := by decide +kernel
theorem d55_9 : decode cX4_isOpening 9 = .ok (.getfield 9, 3) := by decide +kernel
theorem d55_12 : decode cX4_isOpening 12 = .ok (.iload_n 1, 1) := by decide +kernel
theorem d55_13 : decode cX4_isOpening 13 = .ok (.iaload, 1) := by decide +kernel
theorem d55_14 : decode cX4_isOpening 14 = .ok (.bipush 114, 2) := by decide +kernel
theorem d55_16 : decode cX4_isOpening 16 = .ok (.if_icmp .eq 14, 3) := by decide +kernel
theorem d55_19 : decode cX4_isOpening 19 = .ok (.aload_n 0, 1) := by decide +kernel
theorem d55_20 : decode cX4_isOpening 20 = .ok (.getfield 9, 3) := by decide +kernel
theorem d55_23 : decode cX4_isOpening 23 = .ok (.iload_n 1, 1) := by decide +kernel
theorem d55_24 : decode cX4_isOpening 24 = .ok (.iaload, 1) := by decide +kernel
theorem d55_25 : decode cX4_isOpening 25 = .ok (.bipush 105, 2) := by decide +kernel
theorem d55_27 : decode cX4_isOpening 27 = .ok (.if_icmp .ne 7, 3) := by decide +kernel
theorem d55_30 : decode cX4_isOpening 30 = .ok (.iconst 1, 1) := by decide +kernel
theorem d55_31 : decode cX4_isOpening 31 = .ok (.goto 4, 3) := by decide +kernel
theorem d55_34 : decode cX4_isOpening 34 = .ok (.iconst 0, 1) := by decide +kernel
theorem d55_35 : decode cX4_isOpening 35 = .ok (.ireturn, 1) := by decide +kernel
theorem v55_0 : am_all (am_V9 55) am_l55_0 := ⟨Or.inr ⟨1, d55_0, rfl, rfl, rfl, trivial, trivial⟩, Or.inr ⟨1, d55_1, rfl, rfl, rfl, trivial, trivial⟩, Or.inr ⟨3, d55_2, rfl, rfl, trivial, trivial, ⟨by decide, ⟨_, TX4, 6, rfl, okM_54, rfl⟩, aw_275, aw_276, aw_277⟩⟩, Or.inr ⟨3, d55_5, rfl, rfl, rfl, trivial, trivial⟩, Or.inr ⟨1, d55_8, rfl, rfl, rfl, trivial, trivial⟩, Or.inr ⟨3, d55_9, rfl, rfl, trivial, ⟨RX4, TX4, 6, rfl, by decide, Or.inl aw_76⟩, trivial⟩, Or.inr ⟨1, d55_12, rfl, rfl, rfl, trivial, trivial⟩, Or.inr ⟨1, d55_13, rfl, rfl, trivial, trivial, trivial⟩, Or.inr ⟨2, d55_14, rfl, rfl, am_eq9 (by decide +kernel), trivial, trivial⟩, Or.inr ⟨3, d55_16, rfl, rfl, rfl, trivial, trivial⟩, Or.inr ⟨1, d55_19, rfl, rfl, rfl, trivial, trivial⟩, Or.inr ⟨3, d55_20, rfl, rfl, trivial, ⟨RX4, TX4, 6, rfl, by decide, Or.inl aw_76⟩, trivial⟩, Or.inr ⟨1, d55_23, rfl, rfl, rfl, trivial, trivial⟩, Or.inr ⟨1, d55_24, rfl, rfl, trivial, trivial, trivial⟩, Or.inr ⟨2, d55_25, rfl, rfl, am_eq9 (by decide +kernel), trivial, trivial⟩, Or.inr ⟨3, d55_27, rfl, rfl, rfl, trivial, trivial⟩, Or.inr ⟨1, d55_30, rfl, rfl, am_eq9 (by decide +kernel), trivial, trivial⟩, Or.inr ⟨3, d55_31, rfl, rfl, rfl, trivial, trivial⟩, Or.inr ⟨1, d55_34, rfl, rfl, am_eq9 (by decide +kernel), trivial, trivial⟩, Or.inr ⟨1, d55_35, rfl, rfl, trivial, trivial, trivial⟩, trivial⟩
theorem v55 : ∀ pc, am_V9 55 pc ((am_G 55).2.2.2.2.1 pc) := am_all_lc am_V9_0 _ ⟨v55_0, trivial⟩
theorem d56_0 : decode cX5_init 0 = .ok (.aload_n 0, 1) := by decide +kernel
theorem d56_1 : decode cX5_init 1 = .ok (.invokespecial 3, 3) := by decide +kernel
theorem d56_4 : decode cX5_init 4 = .ok (.aload_n 0, 1) := by decide +kernel
theorem d56_5 : decode cX5_init 5 = .ok (.bipush 12, 2) := by decide +kernel
theorem d56_7 : decode cX5_init 7 = .ok (.newarray .char, 2) := by decide +kernel
theorem d56_9 : decode cX5_init 9 = .ok (.putfield 9, 3) := by decide +kernel
theorem d56_12 : decode cX5_init 12 = .ok (.aload_n 0, 1) := by decide +kernel
theorem d56_13 : decode cX5_init 13 = .ok (.bipush 12, 2) := by decide +kernel
theorem d56_15 : decode cX5_init 15 = .ok (.newarray .int, 2) := by decide +kernel
theorem d56_17 : decode cX5_init 17 = .ok (.putfield 15, 3) := by decide +kernel
theorem d56_20 : decode cX5_init 20 = .ok (.aload_n 0, 1) := by decide +kernel
theorem d56_21 : decode cX5_init 21 = .ok (.bipush 12, 2) := by decide +kernel
theorem d56_23 : decode cX5_init 23 = .ok (.newarray .int, 2) := by decide +kernel
theorem d56_25 : decode cX5_init 25 = .ok (.putfield 19, 3) := by decide +kernel
theorem d56_28 : decode cX5_init 28 = .ok (.return_, 1) := by decide +kernel
theorem v56_0 : am_all (am_V9 56) am_l56_0 := ⟨Or.inr ⟨1, d56_0, rfl, rfl, rfl, trivial, trivial⟩, Or.inr ⟨3, d56_1, rfl, rfl, trivial, trivial, Or.inl ⟨rfl, aw_44, aw_31, aw_32⟩⟩, Or.inr ⟨1, d56_4, rfl, rfl, rfl, trivial, trivial⟩, Or.inr ⟨2, d56_5, rfl, rfl, am_eq9 (by decide +kernel), trivial, trivial⟩, Or.inr ⟨2, d56_7, rfl, rfl, trivial, ⟨rfl, aw_58⟩, trivial⟩, Or.inr ⟨3, d56_9, rfl, rfl, trivial, ⟨RX5, TX5, 3, rfl, by decide, aw_45, Or.inr ⟨rfl, rfl, rfl⟩⟩, trivial⟩, Or.inr ⟨1, d56_12, rfl, rfl, rfl, trivial, trivial⟩, Or.inr ⟨2, d56_13, rfl, rfl, am_eq9 (by decide +kernel), trivial, trivial⟩, Or.inr ⟨2, d56_15, rfl, rfl, trivial, ⟨rfl, aw_59⟩, trivial⟩, Or.inr ⟨3, d56_17, rfl, rfl, trivial, ⟨RX5, TX5, 3, rfl, by decide, aw_47, Or.inr ⟨rfl, rfl, rfl⟩⟩, trivial⟩, Or.inr ⟨1, d56_20, rfl, rfl, rfl, trivial, trivial⟩, Or.inr ⟨2, d56_21, rfl, rfl, am_eq9 (by decide +kernel), trivial, trivial⟩, Or.inr ⟨2, d56_23, rfl, rfl, trivial, ⟨rfl, aw_59⟩, trivial⟩, Or.inr ⟨3, d56_25, rfl, rfl, trivial, ⟨RX5, TX5, 3, rfl, by decide, aw_49, Or.inr ⟨rfl, rfl, rfl⟩⟩, trivial⟩, Or.inr ⟨1, d56_28, rfl, rfl, trivial, trivial, trivial⟩, trivial⟩
theorem v56 : ∀ pc, am_V9 56 pc ((am_G 56).2.2.2.2.1 pc) := am_all_lc am_V9_0 _ ⟨v56_0, trivial⟩
theorem d57_0 : decode cX5_fill 0 = .ok (.iload_n 1, 1) := by decide +kernel
theorem d57_1 : decode cX5_fill 1 = .ok (.iconst 0, 1) := by decide +kernel
theorem d57_2 : decode cX5_fill 2 = .ok (.bipush 11, 2) := by decide +kernel
theorem d57_4 : decode cX5_fill 4 = .ok (.invokestatic 22, 3) := by decide +kernel
theorem d57_7 : decode cX5_fill 7 = .ok (.ifCond .eq 25, 3) := by decide +kernel
theorem d57_10 : decode cX5_fill 10 = .ok (.aload_n 0, 1) := by decide +kernel
theorem d57_11 : decode cX5_fill 11 = .ok (.getfield 9, 3) := by decide +kernel
theorem d57_14 : decode cX5_fill 14 = .ok (.iload_n 1, 1) := by decide +kernel
theorem d57_15 : decode cX5_fill 15 = .ok (.iload_n 2, 1) := by decide +kernel
theorem d57_16 : decode cX5_fill 16 = .ok (.castore, 1) := by decide +kernel
theorem d57_17 : decode cX5_fill 17 = .ok (.aload_n 0, 1) := by decide +kernel
theorem d57_18 : decode cX5_fill 18 = .ok (.getfield 15, 3) := by decide +kernel
theorem d57_21 : decode cX5_fill 21 = .ok (.iload_n 1, 1) := by decide +kernel
theorem d57_22 : decode cX5_fill 22 = .ok (.iload_n 3, 1) := by decide +kernel
theorem d57_23 : decode cX5_fill 23 = .ok (.iastore, 1) := by decide +kernel
theorem d57_24 : decode cX5_fill 24 = .ok (.aload_n 0, 1) := by decide +kernel
theorem d57_25 : decode cX5_fill 25 = .ok (.getfield 19, 3) := by decide +kernel
theorem d57_28 : decode cX5_fill 28 = .ok (.iload_n 1, 1) := by decide +kernel
theorem d57_29 : decode cX5_fill 29 = .ok (.iload 4, 2) := by decide +kernel
theorem d57_31 : decode cX5_fill 31 = .ok (.iastore, 1) := by decide +kernel
theorem d57_32 : decode cX5_fill 32 = .ok (.return_, 1) := by decide +kernel
theorem v57_0 : am_all (am_V9 57) am_l57_0 := ⟨Or.inr ⟨1, d57_0, rfl, rfl, rfl, trivial, trivial⟩, Or.inr ⟨1, d57_1, rfl, rfl, am_eq9 (by decide +kernel), trivial, trivial⟩, Or.inr ⟨2, d57_2, rfl, rfl, am_eq9 (by decide +kernel), trivial, trivial⟩, Or.inr ⟨3, d57_4, rfl, rfl, trivial, trivial, Or.inr ⟨by decide, okM_84, aw_280, Or.inr ⟨rfl, _, an_11⟩⟩⟩, Or.inr ⟨3, d57_7, rfl, rfl, rfl, trivial, trivial⟩, Or.inr ⟨1, d57_10, rfl, rfl, rfl, trivial, trivial⟩, Or.inr ⟨3, d57_11, rfl, rfl, trivial, ⟨RX5, TX5, 3, rfl, by decide, Or.inl aw_45⟩, trivial⟩, Or.inr ⟨1, d57_14, rfl, rfl, rfl, trivial, trivial⟩, Or.inr ⟨1, d57_15, rfl, rfl, rfl, trivial, trivial⟩, Or.inr ⟨1, d57_16, rfl, rfl, trivial, trivial, trivial⟩, Or.inr ⟨1, d57_17, rfl, rfl, rfl, trivial, trivial⟩, Or.inr ⟨3, d57_18, rfl, rfl, trivial, ⟨RX5, TX5, 3, rfl, by decide, Or.inl aw_47⟩, trivial⟩, Or.inr ⟨1, d57_21, rfl, rfl, rfl, trivial, trivial⟩, Or.inr ⟨1, d57_22, rfl, rfl, rfl, trivial, trivial⟩, Or.inr ⟨1, d57_23, rfl, rfl, trivial, trivial, trivial⟩, Or.inr ⟨1, d57_24, rfl, rfl, rfl, trivial, trivial⟩, Or.inr ⟨3, d57_25, rfl, rfl, trivial, ⟨RX5, TX5, 3, rfl, by decide, Or.inl aw_49⟩, trivial⟩, Or.inr ⟨1, d57_28, rfl, rfl, rfl, trivial, trivial⟩, Or.inr ⟨2, d57_29, rfl, rfl, rfl, trivial, trivial⟩, Or.inr ⟨1, d57_31, rfl, rfl, trivial, trivial, trivial⟩, Or.inr ⟨1, d57_32, rfl, rfl, trivial, trivial, trivial⟩, trivial⟩
theorem v57 : ∀ pc, am_V9 57 pc ((am_G 57).2.2.2.2.1 pc) := am_all_lc am_V9_0 _ ⟨v57_0, trivial⟩
theorem d58_0 : decode cX5_isFilled 0 = .ok (.iload_n 1, 1) := by decide +kernel
theorem d58_1 : decode cX5_isFilled 1 = .ok (.iconst 0, 1) := by decide +kernel
theorem d58_2 : decode cX5_isFilled 2 = .ok (.bipush 11, 2) := by decide +kernel
theorem d58_4 : decode cX5_isFilled 4 = .ok (.invokestatic 22, 3) := by decide +kernel
theorem d58_7 : decode cX5_isFilled 7 = .ok (.ifCond .eq 16, 3) := by decide +kernel
theorem d58_10 : decode cX5_isFilled 10 = .ok (.aload_n 0, 1) := by decide +kernel
theorem d58_11 : decode cX5_isFilled 11 = .ok (.getfield 9, 3) := by decide +kernel
theorem d58_14 : decode cX5_isFilled 14 = .ok (.iload_n 1, 1) := by decide +kernel
theorem d58_15 : decode cX5_isFilled 15 = .ok (.caload, 1) := by decide +kernel
theorem d58_16 : decode cX5_isFilled 16 = .ok (.ifCond .eq 7, 3) := by decide +kernel
theorem d58_19 : decode cX5_isFilled 19 = .ok (.iconst 1, 1) := by decide +kernel
theorem d58_20 : decode cX5_isFilled 20 = .ok (.goto 4, 3) := by decide +kernel
theorem d58_23 : decode cX5_isFilled 23 = .ok (.iconst 0, 1) := by decide +kernel
theorem d58_24 : decode cX5_isFilled 24 = .ok (.ireturn, 1) := by decide +kernel
theorem v58_0 : am_all (am_V9 58) am_l58_0 := ⟨Or.inr ⟨1, d58_0, rfl, rfl, rfl, trivial, trivial⟩, Or.inr ⟨1, d58_1, rfl, rfl, am_eq9 (by decide +kernel), trivial, trivial⟩, Or.inr ⟨2, d58_2, rfl, rfl, am_eq9 (by decide +kernel), trivial, trivial⟩, Or.inr ⟨3, d58_4, rfl, rfl, trivial, trivial, Or.inr ⟨by decide, okM_84, aw_280, Or.inr ⟨rfl, _, an_11⟩⟩⟩, Or.inr ⟨3, d58_7, rfl, rfl, rfl, trivial, trivial⟩, Or.inr ⟨1, d58_10, rfl, rfl, rfl, trivial, trivial⟩, Or.inr ⟨3, d58_11, rfl, rfl, trivial, ⟨RX5, TX5, 3, rfl, by decide, Or.inl aw_45⟩, trivial⟩, Or.inr ⟨1, d58_14, rfl, rfl, rfl, trivial, trivial⟩, Or.inr ⟨1, d58_15, rfl, rfl, trivial, trivial, trivial⟩, Or.inr ⟨3, d58_16, rfl, rfl, rfl, trivial, trivial⟩, Or.inr ⟨1, d58_19, rfl, rfl, am_eq9 (by decide +kernel), trivial, trivial⟩, Or.inr ⟨3, d58_20, rfl, rfl, rfl, trivial, trivial⟩, Or.inr ⟨1, d58_23, rfl, rfl, am_eq9 (by decide +kernel), trivial, trivial⟩, Or.inr ⟨1, d58_24, rfl, rfl, trivial, trivial, trivial⟩, trivial⟩
theorem v58 : ∀ pc, am_V9 58 pc ((am_G 58).2.2.2.2.1 pc) := am_all_lc am_V9_0 _ ⟨v58_0, trivial⟩
theorem d59_0 : decode cX5_countFrom 0 = .ok (.iconst 0, 1) := by decide +kernel
theorem d59_1 : decode cX5_countFrom 1 = .ok (.istore_n 3, 1) := by decide +kernel
theorem d59_2 : decode cX5_countFrom 2 = .ok (.iconst 0, 1) := by decide +kernel
theorem d59_3 : decode cX5_countFrom 3 = .ok (.istore 4, 2) := by decide +kernel
theorem d59_5 : decode cX5_countFrom 5 = .ok (.iload 4, 2) := by decide +kernel
theorem d59_7 : decode cX5_countFrom 7 = .ok (.iload_n 2, 1) := by decide +kernel
theorem d59_8 : decode cX5_countFrom 8 = .ok (.if_icmp .ge 23, 3) := by decide +kernel
theorem d59_11 : decode cX5_countFrom 11 = .ok (.aload_n 0, 1) := by decide +kernel
theorem d59_12 : decode cX5_countFrom 12 = .ok (.iload_n 1, 1) := by decide +kernel
theorem d59_13 : decode cX5_countFrom 13 = .ok (.iload 4, 2) := by decide +kernel
theorem d59_15 : decode cX5_countFrom 15 = .ok (.iadd, 1) := by decide +kernel
theorem d59_16 : decode cX5_countFrom 16 = .ok (.invokevirtual 26, 3) := by decide +kernel
theorem d59_19 : decode cX5_countFrom 19 = .ok (.ifCond .eq 6, 3) := by decide +kernel
theorem d59_22 : decode cX5_countFrom 22 = .ok (.iinc 3 1, 3) := by decide +kernel
theorem d59_25 : decode cX5_countFrom 25 = .ok (.iinc 4 1, 3) := by decide +kernel
theorem d59_28 : decode cX5_countFrom 28 = .ok (.goto (-23), 3) := by decide +kernel
theorem d59_31 : decode cX5_countFrom 31 = .ok (.iload_n 3, 1) := by decide +kernel
theorem d59_32 : decode cX5_countFrom 32 = .ok (.ireturn, 1) := by decide +kernel
theorem v59_0 : am_all (am_V9 59) am_l59_0 := ⟨Or.inr ⟨1, d59_0, rfl, rfl, am_eq9 (by decide +kernel), trivial, trivial⟩, Or.inr ⟨1, d59_1, rfl, rfl, rfl, trivial, trivial⟩, Or.inr ⟨1, d59_2, rfl, rfl, am_eq9 (by decide +kernel), trivial, trivial⟩, Or.inr ⟨2, d59_3, rfl, rfl, rfl, trivial, trivial⟩, Or.inr ⟨2, d59_5, rfl, rfl, rfl, trivial, trivial⟩, Or.inr ⟨1, d59_7, rfl, rfl, rfl, trivial, trivial⟩, Or.inr ⟨3, d59_8, rfl, rfl, rfl, trivial, trivial⟩, Or.inr ⟨1, d59_11, rfl, rfl, rfl, trivial, trivial⟩, Or.inr ⟨1, d59_12, rfl, rfl, rfl, trivial, trivial⟩, Or.inr ⟨2, d59_13, rfl, rfl, rfl, trivial, trivial⟩, Or.inr ⟨1, d59_15, rfl, rfl, trivial, trivial, trivial⟩, Or.inr ⟨3, d59_16, rfl, rfl, trivial, trivial, ⟨by decide, ⟨_, TX5, 3, rfl, okM_58, rfl⟩, aw_724, aw_384, aw_385⟩⟩, Or.inr ⟨3, d59_19, rfl, rfl, rfl, trivial, trivial⟩, Or.inr ⟨3, d59_22, rfl, rfl, ⟨rfl, by decide⟩, trivial, trivial⟩, Or.inr ⟨3, d59_25, rfl, rfl, ⟨rfl, by decide⟩, trivial, trivial⟩, Or.inr ⟨3, d59_28, rfl, rfl, rfl, trivial, trivial⟩, Or.inr ⟨1, d59_31, rfl, rfl, rfl, trivial, trivial⟩, Or.inr ⟨1, d59_32, rfl, rfl, trivial, trivial, trivial⟩, trivial⟩
theorem v59 : ∀ pc, am_V9 59 pc ((am_G 59).2.2.2.2.1 pc) := am_all_lc am_V9_0 _ ⟨v59_0, trivial⟩
theorem d60_0 : decode cX5_areAlike 0 = .ok (.iload_n 1, 1) := by decide +kernel
theorem d60_1 : decode cX5_areAlike 1 = .ok (.iconst 0, 1) := by decide +kernel
theorem d60_2 : decode cX5_areAlike 2 = .ok (.bipush 11, 2) := by decide +kernel
theorem d60_4 : decode cX5_areAlike 4 = .ok (.invokestatic 22, 3) := by decide +kernel
theorem d60_7 : decode cX5_areAlike 7 = .ok (.ifCond .eq 47, 3) := by decide +kernel
theorem d60_10 : decode cX5_areAlike 10 = .ok (.iload_n 2, 1) := by decide +kernel
theorem d60_11 : decode cX5_areAlike 11 = .ok (.iconst 0, 1) := by decide +kernel
theorem d60_12 : decode cX5_areAlike 12 = .ok (.bipush 11, 2) := by decide +kernel
theorem d60_14 : decode cX5_areAlike 14 = .ok (.invokestatic 22, 3) := by decide +kernel
theorem d60_17 : decode cX5_areAlike 17 = .ok (.ifCond .eq 37, 3) := by decide +kernel
theorem d60_20 : decode cX5_areAlike 20 = .ok (.aload_n 0, 1) := by decide +kernel
theorem d60_21 : decode cX5_areAlike 21 = .ok (.getfield 9, 3) := by decide +kernel
theorem d60_24 : decode cX5_areAlike 24 = .ok (.iload_n 1, 1) := by decide +kernel
theorem d60_25 : decode cX5_areAlike 25 = .ok (.caload, 1) := by decide +kernel
theorem d60_26 : decode cX5_areAlike 26 = .ok (.aload_n 0, 1) := by decide +kernel
theorem d60_27 : decode cX5_areAlike 27 = .ok (.getfield 9, 3) := by decide +kernel
theorem d60_30 : decode cX5_areAlike 30 = .ok (.iload_n 2, 1) := by decide +kernel
theorem d60_31 : decode cX5_areAlike 31 = .ok (.caload, 1) := by decide +kernel
theorem d60_32 : decode cX5_areAlike 32 = .ok (.if_icmp .ne 22, 3) := by decide +kernel
theorem d60_35 : decode cX5_areAlike 35 = .ok (.aload_n 0, 1) := by decide +kernel
theorem d60_36 : decode cX5_areAlike 36 = .ok (.getfield 15, 3) := by decide +kernel
theorem d60_39 : decode cX5_areAlike 39 = .ok (.iload_n 1, 1) := by decide +kernel
theorem d60_40 : decode cX5_areAlike 40 = .ok (.iaload, 1) := by decide +kernel
theorem d60_41 : decode cX5_areAlike 41 = .ok (.aload_n 0, 1) := by decide +kernel
theorem d60_42 : decode cX5_areAlike 42 = .ok (.getfield 15, 3) := by decide +kernel
theorem d60_45 : decode cX5_areAlike 45 = .ok (.iload_n 2, 1) := by decide +kernel
theorem d60_46 : decode cX5_areAlike 46 = .ok (.iaload, 1) := by decide +kernel
theorem d60_47 : decode cX5_areAlike 47 = .ok (.if_icmp .ne 7, 3) := by decide +kernel
theorem d60_50 : decode cX5_areAlike 50 = .ok (.iconst 1, 1) := by decide +kernel
theorem d60_51 : decode cX5_areAlike 51 = .ok (.goto 4, 3) := by decide +kernel
theorem d60_54 : decode cX5_areAlike 54 = .ok (.iconst 0, 1) := by decide +kernel
theorem d60_55 : decode cX5_areAlike 55 = .ok (.ireturn, 1) := by decide +kernel
theorem v60_0 : am_all (am_V9 60) am_l60_0 := ⟨Or.inr ⟨1, d60_0, rfl, rfl, rfl, trivial, trivial⟩, Or.inr ⟨1, d60_1, rfl, rfl, am_eq9 (by decide +kernel), trivial, trivial⟩, Or.inr ⟨2, d60_2, rfl, rfl, am_eq9 (by decide +kernel), trivial, trivial⟩, Or.inr ⟨3, d60_4, rfl, rfl, trivial, trivial, Or.inr ⟨by decide, okM_84, aw_280, Or.inr ⟨rfl, _, an_11⟩⟩⟩, Or.inr ⟨3, d60_7, rfl, rfl, rfl, trivial, trivial⟩, Or.inr ⟨1, d60_10, rfl, rfl, rfl, trivial, trivial⟩, Or.inr ⟨1, d60_11, rfl, rfl, am_eq9 (by decide +kernel), trivial, trivial⟩, Or.inr ⟨2, d60_12, rfl, rfl, am_eq9 (by decide +kernel), trivial, trivial⟩, Or.inr ⟨3, d60_14, rfl, rfl, trivial, trivial, Or.inr ⟨by decide, okM_84, aw_280, Or.inr ⟨rfl, _, an_11⟩⟩⟩, Or.inr ⟨3, d60_17, rfl, rfl, rfl, trivial, trivial⟩, Or.inr ⟨1, d60_20, rfl, rfl, rfl, trivial, trivial⟩, Or.inr ⟨3, d60_21, rfl, rfl, trivial, ⟨RX5, TX5, 3, rfl, by decide, Or.inl aw_45⟩, trivial⟩, Or.inr ⟨1, d60_24, rfl, rfl, rfl, trivial, trivial⟩, Or.inr ⟨1, d60_25, rfl, rfl, trivial, trivial, trivial⟩, Or.inr ⟨1, d60_26, rfl, rfl, rfl, trivial, trivial⟩, Or.inr ⟨3, d60_27, rfl, rfl, trivial, ⟨RX5, TX5, 3, rfl, by decide, Or.inl aw_45⟩, trivial⟩, Or.inr ⟨1, d60_30, rfl, rfl, rfl, trivial, trivial⟩, Or.inr ⟨1, d60_31, rfl, rfl, trivial, trivial, trivial⟩, Or.inr ⟨3, d60_32, rfl, rfl, rfl, trivial, trivial⟩, Or.inr ⟨1, d60_35, rfl, rfl, rfl, trivial, trivial⟩, Or.inr ⟨3, d60_36, rfl, rfl, trivial, ⟨RX5, TX5, 3, rfl, by decide, Or.inl aw_47⟩, trivial⟩, Or.inr ⟨1, d60_39, rfl, rfl, rfl, trivial, trivial⟩, Or.inr ⟨1, d60_40, rfl, rfl, trivial, trivial, trivial⟩, Or.inr ⟨1, d60_41, rfl, rfl, rfl, trivial, trivial⟩, trivial⟩
theorem v60_1 : am_all (am_V9 60) am_l60_1 := ⟨Or.inr ⟨3, d60_42, rfl, rfl, trivial, ⟨RX5, TX5, 3, rfl, by decide, Or.inl aw_47⟩, trivial⟩, Or.inr ⟨1, d60_45, rfl, rfl, rfl, trivial, trivial⟩, Or.inr ⟨1, d60_46, rfl, rfl, trivial, trivial, trivial⟩, Or.inr ⟨3, d60_47, rfl, rfl, rfl, trivial, trivial⟩, Or.inr ⟨1, d60_50, rfl, rfl, am_eq9 (by decide +kernel), trivial, trivial⟩, Or.inr ⟨3, d60_51, rfl, rfl, rfl, trivial, trivial⟩, Or.inr ⟨1, d60_54, rfl, rfl, am_eq9 (by decide +kernel), trivial, trivial⟩, Or.inr ⟨1, d60_55, rfl, rfl, trivial, trivial, trivial⟩, trivial⟩
theorem v60 : ∀ pc, am_V9 60 pc ((am_G 60).2.2.2.2.1 pc) := am_all_lc am_V9_0 _ ⟨v60_0, v60_1, trivial⟩
theorem d61_0 : decode cX6_init 0 = .ok (.aload_n 0, 1) := by decide +kernel
theorem d61_1 : decode cX6_init 1 = .ok (.invokespecial 3, 3) := by decide +kernel
theorem d61_4 : decode cX6_init 4 = .ok (.return_, 1) := by decide +kernel
theorem v61_0 : am_all (am_V9 61) am_l61_0 := ⟨Or.inr ⟨1, d61_0, rfl, rfl, rfl, trivial, trivial⟩, Or.inr ⟨3, d61_1, rfl, rfl, trivial, trivial, Or.inl ⟨rfl, aw_155, aw_31, aw_32⟩⟩, Or.inr ⟨1, d61_4, rfl, rfl, trivial, trivial, trivial⟩, trivial⟩
theorem v61 : ∀ pc, am_V9 61 pc ((am_G 61).2.2.2.2.1 pc) := am_all_lc am_V9_0 _ ⟨v61_0, trivial⟩
theorem d62_0 : decode cX6_useCutter 0 = .ok (.aload_n 0, 1) := by decide +kernel
theorem d62_1 : decode cX6_useCutter 1 = .ok (.iload_n 1, 1) := by decide +kernel
theorem d62_2 : decode cX6_useCutter 2 = .ok (.putfield 9, 3) := by decide +kernel
theorem d62_5 : decode cX6_useCutter 5 = .ok (.aload_n 0, 1) := by decide +kernel
theorem d62_6 : decode cX6_useCutter 6 = .ok (.iload_n 2, 1) := by decide +kernel
theorem d62_7 : decode cX6_useCutter 7 = .ok (.putfield 15, 3) := by decide +kernel
theorem d62_10 : decode cX6_useCutter 10 = .ok (.return_, 1) := by decide +kernel
theorem v62_0 : am_all (am_V9 62) am_l62_0 := ⟨Or.inr ⟨1, d62_0, rfl, rfl, rfl, trivial, trivial⟩, Or.inr ⟨1, d62_1, rfl, rfl, rfl, trivial, trivial⟩, Or.inr ⟨3, d62_2, rfl, rfl, trivial, ⟨RX6, TX6, 5, rfl, by decide, aw_156, Or.inl rfl⟩, trivial⟩, Or.inr ⟨1, d62_5, rfl, rfl, rfl, trivial, trivial⟩, Or.inr ⟨1, d62_6, rfl, rfl, rfl, trivial, trivial⟩, Or.inr ⟨3, d62_7, rfl, rfl, trivial, ⟨RX6, TX6, 5, rfl, by decide, aw_157, Or.inl rfl⟩, trivial⟩, Or.inr ⟨1, d62_10, rfl, rfl, trivial, trivial, trivial⟩, trivial⟩
theorem v62 : ∀ pc, am_V9 62 pc ((am_G 62).2.2.2.2.1 pc) := am_all_lc am_V9_0 _ ⟨v62_0, trivial⟩
theorem d63_0 : decode cX6_moveTo 0 = .ok (.aload_n 0, 1) := by decide +kernel
theorem d63_1 : decode cX6_moveTo 1 = .ok (.iload_n 1, 1) := by decide +kernel
theorem d63_2 : decode cX6_moveTo 2 = .ok (.putfield 18, 3) := by decide +kernel
theorem d63_5 : decode cX6_moveTo 5 = .ok (.aload_n 0, 1) := by decide +kernel
theorem d63_6 : decode cX6_moveTo 6 = .ok (.iload_n 2, 1) := by decide +kernel
theorem d63_7 : decode cX6_moveTo 7 = .ok (.putfield 21, 3) := by decide +kernel
theorem d63_10 : decode cX6_moveTo 10 = .ok (.aload_n 0, 1) := by decide +kernel
theorem d63_11 : decode cX6_moveTo 11 = .ok (.iload_n 3, 1) := by decide +kernel
theorem d63_12 : decode cX6_moveTo 12 = .ok (.putfield 24, 3) := by decide +kernel
theorem d63_15 : decode cX6_moveTo 15 = .ok (.return_, 1) := by decide +kernel
theorem v63_0 : am_all (am_V9 63) am_l63_0 := ⟨Or.inr ⟨1, d63_0, rfl, rfl, rfl, trivial, trivial⟩, Or.inr ⟨1, d63_1, rfl, rfl, rfl, trivial, trivial⟩, Or.inr ⟨3, d63_2, rfl, rfl, trivial, ⟨RX6, TX6, 5, rfl, by decide, aw_158, Or.inl rfl⟩, trivial⟩, Or.inr ⟨1, d63_5, rfl, rfl, rfl, trivial, trivial⟩, Or.inr ⟨1, d63_6, rfl, rfl, rfl, trivial, trivial⟩, Or.inr ⟨3, d63_7, rfl, rfl, trivial, ⟨RX6, TX6, 5, rfl, by decide, aw_159, Or.inl rfl⟩, trivial⟩, Or.inr ⟨1, d63_10, rfl, rfl, rfl, trivial, trivial⟩, Or.inr ⟨1, d63_11, rfl, rfl, rfl, trivial, trivial⟩, Or.inr ⟨3, d63_12, rfl, rfl, trivial, ⟨RX6, TX6, 5, rfl, by decide, aw_160, Or.inl rfl⟩, trivial⟩, Or.inr ⟨1, d63_15, rfl, rfl, trivial, trivial, trivial⟩, trivial⟩
theorem v63 : ∀ pc, am_V9 63 pc ((am_G 63).2.2.2.2.1 pc) := am_all_lc am_V9_0 _ ⟨v63_0, trivial⟩
theorem d64_0 : decode cX6_firstLayer 0 = .ok (.aload_n 0, 1) := by decide +kernel
theorem d64_1 : decode cX6_firstLayer 1 = .ok (.getfield 24, 3) := by decide +kernel
theorem d64_4 : decode cX6_firstLayer 4 = .ok (.ifCond .ge 7, 3) := by decide +kernel
theorem d64_7 : decode cX6_firstLayer 7 = .ok (.iconst 0, 1) := by decide +kernel
theorem d64_8 : decode cX6_firstLayer 8 = .ok (.goto 7, 3) := by decide +kernel
theorem d64_11 : decode cX6_firstLayer 11 = .ok (.aload_n 0, 1) := by decide +kernel
theorem d64_12 : decode cX6_firstLayer 12 = .ok (.getfield 24, 3) := by decide +kernel
theorem d64_15 : decode cX6_firstLayer 15 = .ok (.ireturn, 1) := by decide +kernel
theorem v64_0 : am_all (am_V9 64) am_l64_0 := ⟨Or.inr ⟨1, d64_0, rfl, rfl, rfl, trivial, trivial⟩, Or.inr ⟨3, d64_1, rfl, rfl, trivial, ⟨RX6, TX6, 5, rfl, by decide, Or.inl aw_160⟩, trivial⟩, Or.inr ⟨3, d64_4, rfl, rfl, rfl, trivial, trivial⟩, Or.inr ⟨1, d64_7, rfl, rfl, am_eq9 (by decide +kernel), trivial, trivial⟩, Or.inr ⟨3, d64_8, rfl, rfl, rfl, trivial, trivial⟩, Or.inr ⟨1, d64_11, rfl, rfl, rfl, trivial, trivial⟩, Or.inr ⟨3, d64_12, rfl, rfl, trivial, ⟨RX6, TX6, 5, rfl, by decide, Or.inl aw_160⟩, trivial⟩, Or.inr ⟨1, d64_15, rfl, rfl, trivial, trivial, trivial⟩, trivial⟩
theorem v64 : ∀ pc, am_V9 64 pc ((am_G 64).2.2.2.2.1 pc) := am_all_lc am_V9_0 _ ⟨v64_0, trivial⟩
theorem d65_0 : decode cX6_firstLine 0 = .ok (.aload_n 0, 1) := by decide +kernel
theorem d65_1 : decode cX6_firstLine 1 = .ok (.getfield 21, 3) := by decide +kernel
theorem d65_4 : decode cX6_firstLine 4 = .ok (.aload_n 0, 1) := by decide +kernel
theorem d65_5 : decode cX6_firstLine 5 = .ok (.getfield 15, 3) := by decide +kernel
theorem d65_8 : decode cX6_firstLine 8 = .ok (.isub, 1) := by decide +kernel
theorem d65_9 : decode cX6_firstLine 9 = .ok (.ifCond .ge 7, 3) := by decide +kernel
theorem d65_12 : decode cX6_firstLine 12 = .ok (.iconst 0, 1) := by decide +kernel
theorem d65_13 : decode cX6_firstLine 13 = .ok (.goto 12, 3) := by decide +kernel
theorem d65_16 : decode cX6_firstLine 16 = .ok (.aload_n 0, 1) := by decide +kernel
theorem d65_17 : decode cX6_firstLine 17 = .ok (.getfield 21, 3) := by decide +kernel
theorem d65_20 : decode cX6_firstLine 20 = .ok (.aload_n 0, 1) := by decide +kernel
theorem d65_21 : decode cX6_firstLine 21 = .ok (.getfield 15, 3) := by decide +kernel
theorem d65_24 : decode cX6_firstLine 24 = .ok (.isub, 1) := by decide +kernel
theorem d65_25 : decode cX6_firstLine 25 = .ok (.ireturn, 1) := by decide +kernel
theorem v65_0 : am_all (am_V9 65) am_l65_0 := ⟨Or.inr ⟨1, d65_0, rfl, rfl, rfl, trivial, trivial⟩, Or.inr ⟨3, d65_1, rfl, rfl, trivial, ⟨RX6, TX6, 5, rfl, by decide, Or.inl aw_159⟩, trivial⟩, Or.inr ⟨1, d65_4, rfl, rfl, rfl, trivial, trivial⟩, Or.inr ⟨3, d65_5, rfl, rfl, trivial, ⟨RX6, TX6, 5, rfl, by decide, Or.inl aw_157⟩, trivial⟩, Or.inr ⟨1, d65_8, rfl, rfl, trivial, trivial, trivial⟩, Or.inr ⟨3, d65_9, rfl, rfl, rfl, trivial, trivial⟩, Or.inr ⟨1, d65_12, rfl, rfl, am_eq9 (by decide +kernel), trivial, trivial⟩, Or.inr ⟨3, d65_13, rfl, rfl, rfl, trivial, trivial⟩, Or.inr ⟨1, d65_16, rfl, rfl, rfl, trivial, trivial⟩, Or.inr ⟨3, d65_17, rfl, rfl, trivial, ⟨RX6, TX6, 5, rfl, by decide, Or.inl aw_159⟩, trivial⟩, Or.inr ⟨1, d65_20, rfl, rfl, rfl, trivial, trivial⟩, Or.inr ⟨3, d65_21, rfl, rfl, trivial, ⟨RX6, TX6, 5, rfl, by decide, Or.inl aw_157⟩, trivial⟩, Or.inr ⟨1, d65_24, rfl, rfl, trivial, trivial, trivial⟩, Or.inr ⟨1, d65_25, rfl, rfl, trivial, trivial, trivial⟩, trivial⟩
theorem v65 : ∀ pc, am_V9 65 pc ((am_G 65).2.2.2.2.1 pc) := am_all_lc am_V9_0 _ ⟨v65_0, trivial⟩
theorem d66_0 : decode cX6_lastLine 0 = .ok (.aload_n 0, 1) := by decide +kernel
theorem d66_1 : decode cX6_lastLine 1 = .ok (.getfield 21, 3) := by decide +kernel
theorem d66_4 : decode cX6_lastLine 4 = .ok (.aload_n 0, 1) := by decide +kernel
theorem d66_5 : decode cX6_lastLine 5 = .ok (.getfield 15, 3) := by decide +kernel
theorem d66_8 : decode cX6_lastLine 8 = .ok (.iadd, 1) := by decide +kernel
theorem d66_9 : decode cX6_lastLine 9 = .ok (.bipush 12, 2) := by decide +kernel
theorem d66_11 : decode cX6_lastLine 11 = .ok (.if_icmp .lt 8, 3) := by decide +kernel
theorem d66_14 : decode cX6_lastLine 14 = .ok (.bipush 11, 2) := by decide +kernel
theorem d66_16 : decode cX6_lastLine 16 = .ok (.goto 12, 3) := by decide +kernel
theorem d66_19 : decode cX6_lastLine 19 = .ok (.aload_n 0, 1) := by decide +kernel
theorem d66_20 : decode cX6_lastLine 20 = .ok (.getfield 21, 3) := by decide +kernel
theorem d66_23 : decode cX6_lastLine 23 = .ok (.aload_n 0, 1) := by decide +kernel
theorem d66_24 : decode cX6_lastLine 24 = .ok (.getfield 15, 3) := by decide +kernel
theorem d66_27 : decode cX6_lastLine 27 = .ok (.iadd, 1) := by decide +kernel
theorem d66_28 : decode cX6_lastLine 28 = .ok (.ireturn, 1) := by decide +kernel
theorem v66_0 : am_all (am_V9 66) am_l66_0 := ⟨Or.inr ⟨1, d66_0, rfl, rfl, rfl, trivial, trivial⟩, Or.inr ⟨3, d66_1, rfl, rfl, trivial, ⟨RX6, TX6, 5, rfl, by decide, Or.inl aw_159⟩, trivial⟩, Or.inr ⟨1, d66_4, rfl, rfl, rfl, trivial, trivial⟩, Or.inr ⟨3, d66_5, rfl, rfl, trivial, ⟨RX6, TX6, 5, rfl, by decide, Or.inl aw_157⟩, trivial⟩, Or.inr ⟨1, d66_8, rfl, rfl, trivial, trivial, trivial⟩, Or.inr ⟨2, d66_9, rfl, rfl, am_eq9 (by decide +kernel), trivial, trivial⟩, Or.inr ⟨3, d66_11, rfl, rfl, rfl, trivial, trivial⟩, Or.inr ⟨2, d66_14, rfl, rfl, am_eq9 (by decide +kernel), trivial, trivial⟩, Or.inr ⟨3, d66_16, rfl, rfl, rfl, trivial, trivial⟩, Or.inr ⟨1, d66_19, rfl, rfl, rfl, trivial, trivial⟩, Or.inr ⟨3, d66_20, rfl, rfl, trivial, ⟨RX6, TX6, 5, rfl, by decide, Or.inl aw_159⟩, trivial⟩, Or.inr ⟨1, d66_23, rfl, rfl, rfl, trivial, trivial⟩, Or.inr ⟨3, d66_24, rfl, rfl, trivial, ⟨RX6, TX6, 5, rfl, by decide, Or.inl aw_157⟩, trivial⟩, Or.inr ⟨1, d66_27, rfl, rfl, trivial, trivial, trivial⟩, Or.inr ⟨1, d66_28, rfl, rfl, trivial, trivial, trivial⟩, trivial⟩
theorem v66 : ∀ pc, am_V9 66 pc ((am_G 66).2.2.2.2.1 pc) := am_all_lc am_V9_0 _ ⟨v66_0, trivial⟩
theorem d67_0 : decode cX6_greatestSquare 0 = .ok (.aload_n 0, 1) := by decide +kernel
theorem d67_1 : decode cX6_greatestSquare 1 = .ok (.getfield 9, 3) := by decide +kernel
theorem d67_4 : decode cX6_greatestSquare 4 = .ok (.bipush 101, 2) := by decide +kernel
theorem d67_6 : decode cX6_greatestSquare 6 = .ok (.if_icmp .ne 13, 3) := by decide +kernel
theorem d67_9 : decode cX6_greatestSquare 9 = .ok (.aload_n 0, 1) := by decide +kernel
theorem d67_10 : decode cX6_greatestSquare 10 = .ok (.getfield 15, 3) := by decide +kernel
theorem d67_13 : decode cX6_greatestSquare 13 = .ok (.aload_n 0, 1) := by decide +kernel
theorem d67_14 : decode cX6_greatestSquare 14 = .ok (.getfield 15, 3) := by decide +kernel
theorem d67_17 : decode cX6_greatestSquare 17 = .ok (.imul, 1) := by decide +kernel
theorem d67_18 : decode cX6_greatestSquare 18 = .ok (.ireturn, 1) := by decide +kernel
theorem d67_19 : decode cX6_greatestSquare 19 = .ok (.iload_n 1, 1) := by decide +kernel
theorem d67_20 : decode cX6_greatestSquare 20 = .ok (.aload_n 0, 1) := by decide +kernel
theorem d67_21 : decode cX6_greatestSquare 21 = .ok (.getfield 24, 3) := by decide +kernel
theorem d67_24 : decode cX6_greatestSquare 24 = .ok (.isub, 1) := by decide +kernel
theorem d67_25 : decode cX6_greatestSquare 25 = .ok (.aload_n 0, 1) := by decide +kernel
theorem d67_26 : decode cX6_greatestSquare 26 = .ok (.getfield 15, 3) := by decide +kernel
theorem d67_29 : decode cX6_greatestSquare 29 = .ok (.if_icmp .ge 12, 3) := by decide +kernel
theorem d67_32 : decode cX6_greatestSquare 32 = .ok (.iload_n 1, 1) := by decide +kernel
theorem d67_33 : decode cX6_greatestSquare 33 = .ok (.aload_n 0, 1) := by decide +kernel
theorem d67_34 : decode cX6_greatestSquare 34 = .ok (.getfield 24, 3) := by decide +kernel
theorem d67_37 : decode cX6_greatestSquare 37 = .ok (.isub, 1) := by decide +kernel
theorem d67_38 : decode cX6_greatestSquare 38 = .ok (.goto 7, 3) := by decide +kernel
theorem d67_41 : decode cX6_greatestSquare 41 = .ok (.aload_n 0, 1) := by decide +kernel
theorem d67_42 : decode cX6_greatestSquare 42 = .ok (.getfield 15, 3) := by decide +kernel
theorem d67_45 : decode cX6_greatestSquare 45 = .ok (.istore_n 2, 1) := by decide +kernel
theorem d67_46 : decode cX6_greatestSquare 46 = .ok (.aload_n 0, 1) := by decide +kernel
theorem d67_47 : decode cX6_greatestSquare 47 = .ok (.getfield 9, 3) := by decide +kernel
theorem d67_50 : decode cX6_greatestSquare 50 = .ok (.bipush 118, 2) := by decide +kernel
theorem d67_52 : decode cX6_greatestSquare 52 = .ok (.if_icmp .ne 7, 3) := by decide +kernel
theorem d67_55 : decode cX6_greatestSquare 55 = .ok (.iload_n 2, 1) := by decide +kernel
theorem d67_56 : decode cX6_greatestSquare 56 = .ok (.iload_n 2, 1) := by decide +kernel
theorem d67_57 : decode cX6_greatestSquare 57 = .ok (.imul, 1) := by decide +kernel
theorem d67_58 : decode cX6_greatestSquare 58 = .ok (.ireturn, 1) := by decide +kernel
theorem d67_59 : decode cX6_greatestSquare 59 = .ok (.aload_n 0, 1) := by decide +kernel
theorem d67_60 : decode cX6_greatestSquare 60 = .ok (.getfield 15, 3) := by decide +kernel
theorem d67_63 : decode cX6_greatestSquare 63 = .ok (.aload_n 0, 1) := by decide +kernel
theorem d67_64 : decode cX6_greatestSquare 64 = .ok (.getfield 15, 3) := by decide +kernel
theorem d67_67 : decode cX6_greatestSquare 67 = .ok (.imul, 1) := by decide +kernel
theorem d67_68 : decode cX6_greatestSquare 68 = .ok (.aload_n 0, 1) := by decide +kernel
theorem d67_69 : decode cX6_greatestSquare 69 = .ok (.getfield 15, 3) := by decide +kernel
theorem d67_72 : decode cX6_greatestSquare 72 = .ok (.iload_n 2, 1) := by decide +kernel
theorem d67_73 : decode cX6_greatestSquare 73 = .ok (.isub, 1) := by decide +kernel
theorem d67_74 : decode cX6_greatestSquare 74 = .ok (.aload_n 0, 1) := by decide +kernel
theorem d67_75 : decode cX6_greatestSquare 75 = .ok (.getfield 15, 3) := by decide +kernel
theorem d67_78 : decode cX6_greatestSquare 78 = .ok (.iload_n 2, 1) := by decide +kernel
theorem d67_79 : decode cX6_greatestSquare 79 = .ok (.isub, 1) := by decide +kernel
theorem d67_80 : decode cX6_greatestSquare 80 = .ok (.imul, 1) := by decide +kernel
theorem d67_81 : decode cX6_greatestSquare 81 = .ok (.isub, 1) := by decide +kernel
theorem d67_82 : decode cX6_greatestSquare 82 = .ok (.ireturn, 1) := by decide +kernel
theorem v67_0 : am_all (am_V9 67) am_l67_0 := ⟨Or.inr ⟨1, d67_0, rfl, rfl, rfl, trivial, trivial⟩, Or.inr ⟨3, d67_1, rfl, rfl, trivial, ⟨RX6, TX6, 5, rfl, by decide, Or.inl aw_156⟩, trivial⟩, Or.inr ⟨2, d67_4, rfl, rfl, am_eq9 (by decide +kernel), trivial, trivial⟩, Or.inr ⟨3, d67_6, rfl, rfl, rfl, trivial, trivial⟩, Or.inr ⟨1, d67_9, rfl, rfl, rfl, trivial, trivial⟩, Or.inr ⟨3, d67_10, rfl, rfl, trivial, ⟨RX6, TX6, 5, rfl, by decide, Or.inl aw_157⟩, trivial⟩, Or.inr ⟨1, d67_13, rfl, rfl, rfl, trivial, trivial⟩, Or.inr ⟨3, d67_14, rfl, rfl, trivial, ⟨RX6, TX6, 5, rfl, by decide, Or.inl aw_157⟩, trivial⟩, Or.inr ⟨1, d67_17, rfl, rfl, trivial, trivial, trivial⟩, Or.inr ⟨1, d67_18, rfl, rfl, trivial, trivial, trivial⟩, Or.inr ⟨1, d67_19, rfl, rfl, rfl, trivial, trivial⟩, Or.inr ⟨1, d67_20, rfl, rfl, rfl, trivial, trivial⟩, Or.inr ⟨3, d67_21, rfl, rfl, trivial, ⟨RX6, TX6, 5, rfl, by decide, Or.inl aw_160⟩, trivial⟩, Or.inr ⟨1, d67_24, rfl, rfl, trivial, trivial, trivial⟩, Or.inr ⟨1, d67_25, rfl, rfl, rfl, trivial, trivial⟩, Or.inr ⟨3, d67_26, rfl, rfl, trivial, ⟨RX6, TX6, 5, rfl, by decide, Or.inl aw_157⟩, trivial⟩, Or.inr ⟨3, d67_29, rfl, rfl, rfl, trivial, trivial⟩, Or.inr ⟨1, d67_32, rfl, rfl, rfl, trivial, trivial⟩, Or.inr ⟨1, d67_33, rfl, rfl, rfl, trivial, trivial⟩, Or.inr ⟨3, d67_34, rfl, rfl, trivial, ⟨RX6, TX6, 5, rfl, by decide, Or.inl aw_160⟩, trivial⟩, Or.inr ⟨1, d67_37, rfl, rfl, trivial, trivial, trivial⟩, Or.inr ⟨3, d67_38, rfl, rfl, rfl, trivial, trivial⟩, Or.inr ⟨1, d67_41, rfl, rfl, rfl, trivial, trivial⟩, Or.inr ⟨3, d67_42, rfl, rfl, trivial, ⟨RX6, TX6, 5, rfl, by decide, Or.inl aw_157⟩, trivial⟩, trivial⟩
theorem v67_1 : am_all (am_V9 67) am_l67_1 := ⟨Or.inr ⟨1, d67_45, rfl, rfl, rfl, trivial, trivial⟩, Or.inr ⟨1, d67_46, rfl, rfl, rfl, trivial, trivial⟩, Or.inr ⟨3, d67_47, rfl, rfl, trivial, ⟨RX6, TX6, 5, rfl, by decide, Or.inl aw_156⟩, trivial⟩, Or.inr ⟨2, d67_50, rfl, rfl, am_eq9 (by decide +kernel), trivial, trivial⟩, Or.inr ⟨3, d67_52, rfl, rfl, rfl, trivial, trivial⟩, Or.inr ⟨1, d67_55, rfl, rfl, rfl, trivial, trivial⟩, Or.inr ⟨1, d67_56, rfl, rfl, rfl, trivial, trivial⟩, Or.inr ⟨1, d67_57, rfl, rfl, trivial, trivial, trivial⟩, Or.inr ⟨1, d67_58, rfl, rfl, trivial, trivial, trivial⟩, Or.inr ⟨1, d67_59, rfl, rfl, rfl, trivial, trivial⟩, Or.inr ⟨3, d67_60, rfl, rfl, trivial, ⟨RX6, TX6, 5, rfl, by decide, Or.inl aw_157⟩, trivial⟩, Or.inr ⟨1, d67_63, rfl, rfl, rfl, trivial, trivial⟩, Or.inr ⟨3, d67_64, rfl, rfl, trivial, ⟨RX6, TX6, 5, rfl, by decide, Or.inl aw_157⟩, trivial⟩, Or.inr ⟨1, d67_67, rfl, rfl, trivial, trivial, trivial⟩, Or.inr ⟨1, d67_68, rfl, rfl, rfl, trivial, trivial⟩, Or.inr ⟨3, d67_69, rfl, rfl, trivial, ⟨RX6, TX6, 5, rfl, by decide, Or.inl aw_157⟩, trivial⟩, Or.inr ⟨1, d67_72, rfl, rfl, rfl, trivial, trivial⟩, Or.inr ⟨1, d67_73, rfl, rfl, trivial, trivial, trivial⟩, Or.inr ⟨1, d67_74, rfl, rfl, rfl, trivial, trivial⟩, Or.inr ⟨3, d67_75, rfl, rfl, trivial, ⟨RX6, TX6, 5, rfl, by decide, Or.inl aw_157⟩, trivial⟩, Or.inr ⟨1, d67_78, rfl, rfl, rfl, trivial, trivial⟩, Or.inr ⟨1, d67_79, rfl, rfl, trivial, trivial, trivial⟩, Or.inr ⟨1, d67_80, rfl, rfl, trivial, trivial, trivial⟩, Or.inr ⟨1, d67_81, rfl, rfl, trivial, trivial, trivial⟩, trivial⟩
theorem v67_2 : am_all (am_V9 67) am_l67_2 := ⟨Or.inr ⟨1, d67_82, rfl, rfl, trivial, trivial, trivial⟩, trivial⟩
theorem v67 : ∀ pc, am_V9 67 pc ((am_G 67).2.2.2.2.1 pc) := am_all_lc am_V9_0 _ ⟨v67_0, v67_1, v67_2, trivial⟩
theorem d68_0 : decode cX6_rowBits 0 = .ok (.iload_n 2, 1) := by decide +kernel
theorem d68_1 : decode cX6_rowBits 1 = .ok (.iload_n 1, 1) := by decide +kernel
theorem d68_2 : decode cX6_rowBits 2 = .ok (.aload_n 0, 1) := by decide +kernel
theorem d68_3 : decode cX6_rowBits 3 = .ok (.getfield 21, 3) := by decide +kernel
theorem d68_6 : decode cX6_rowBits 6 = .ok (.isub, 1) := by decide +kernel
theorem d68_7 : decode cX6_rowBits 7 = .ok (.iload_n 1, 1) := by decide +kernel
theorem d68_8 : decode cX6_rowBits 8 = .ok (.aload_n 0, 1) := by decide +kernel
theorem d68_9 : decode cX6_rowBits 9 = .ok (.getfield 21, 3) := by decide +kernel
theorem d68_12 : decode cX6_rowBits 12 = .ok (.isub, 1) := by decide +kernel
theorem d68_13 : decode cX6_rowBits 13 = .ok (.imul, 1) := by decide +kernel
theorem d68_14 : decode cX6_rowBits 14 = .ok (.isub, 1) := by decide +kernel
theorem d68_15 : decode cX6_rowBits 15 = .ok (.istore_n 3, 1) := by decide +kernel
theorem d68_16 : decode cX6_rowBits 16 = .ok (.iload_n 3, 1) := by decide +kernel
theorem d68_17 : decode cX6_rowBits 17 = .ok (.ifCond .lt 11, 3) := by decide +kernel
theorem d68_20 : decode cX6_rowBits 20 = .ok (.iload_n 3, 1) := by decide +kernel
theorem d68_21 : decode cX6_rowBits 21 = .ok (.getstatic 27, 3) := by decide +kernel
theorem d68_24 : decode cX6_rowBits 24 = .ok (.arraylength, 1) := by decide +kernel
theorem d68_25 : decode cX6_rowBits 25 = .ok (.if_icmp .lt 5, 3) := by decide +kernel
theorem d68_28 : decode cX6_rowBits 28 = .ok (.iconst 0, 1) := by decide +kernel
theorem d68_29 : decode cX6_rowBits 29 = .ok (.ireturn, 1) := by decide +kernel
theorem d68_30 : decode cX6_rowBits 30 = .ok (.aload_n 0, 1) := by decide +kernel
theorem d68_31 : decode cX6_rowBits 31 = .ok (.getfield 18, 3) := by decide +kernel
theorem d68_34 : decode cX6_rowBits 34 = .ok (.getstatic 27, 3) := by decide +kernel
theorem d68_37 : decode cX6_rowBits 37 = .ok (.iload_n 3, 1) := by decide +kernel
theorem d68_38 : decode cX6_rowBits 38 = .ok (.iaload, 1) := by decide +kernel
theorem d68_39 : decode cX6_rowBits 39 = .ok (.isub, 1) := by decide +kernel
theorem d68_40 : decode cX6_rowBits 40 = .ok (.ifCond .ge 7, 3) := by decide +kernel
theorem d68_43 : decode cX6_rowBits 43 = .ok (.iconst 0, 1) := by decide +kernel
theorem d68_44 : decode cX6_rowBits 44 = .ok (.goto 13, 3) := by decide +kernel
theorem d68_47 : decode cX6_rowBits 47 = .ok (.aload_n 0, 1) := by decide +kernel
theorem d68_48 : decode cX6_rowBits 48 = .ok (.getfield 18, 3) := by decide +kernel
theorem d68_51 : decode cX6_rowBits 51 = .ok (.getstatic 27, 3) := by decide +kernel
theorem d68_54 : decode cX6_rowBits 54 = .ok (.iload_n 3, 1) := by decide +kernel
theorem d68_55 : decode cX6_rowBits 55 = .ok (.iaload, 1) := by decide +kernel
theorem d68_56 : decode cX6_rowBits 56 = .ok (.isub, 1) := by decide +kernel
theorem d68_57 : decode cX6_rowBits 57 = .ok (.istore 4, 2) := by decide +kernel
theorem d68_59 : decode cX6_rowBits 59 = .ok (.aload_n 0, 1) := by decide +kernel
theorem d68_60 : decode cX6_rowBits 60 = .ok (.getfield 18, 3) := by decide +kernel
theorem d68_63 : decode cX6_rowBits 63 = .ok (.getstatic 27, 3) := by decide +kernel
theorem d68_66 : decode cX6_rowBits 66 = .ok (.iload_n 3, 1) := by decide +kernel
theorem d68_67 : decode cX6_rowBits 67 = .ok (.iaload, 1) := by decide +kernel
theorem d68_68 : decode cX6_rowBits 68 = .ok (.iadd, 1) := by decide +kernel
theorem d68_69 : decode cX6_rowBits 69 = .ok (.bipush 16, 2) := by decide +kernel
theorem d68_71 : decode cX6_rowBits 71 = .ok (.if_icmp .lt 8, 3) := by decide +kernel
theorem d68_74 : decode cX6_rowBits 74 = .ok (.bipush 15, 2) := by decide +kernel
theorem d68_76 : decode cX6_rowBits 76 = .ok (.goto 13, 3) := by decide +kernel
theorem d68_79 : decode cX6_rowBits 79 = .ok (.aload_n 0, 1) := by decide +kernel
theorem d68_80 : decode cX6_rowBits 80 = .ok (.getfield 18, 3) := by decide +kernel
theorem d68_83 : decode cX6_rowBits 83 = .ok (.getstatic 27, 3) := by decide +kernel
theorem d68_86 : decode cX6_rowBits 86 = .ok (.iload_n 3, 1) := by decide +kernel
theorem d68_87 : decode cX6_rowBits 87 = .ok (.iaload, 1) := by decide +kernel
theorem d68_88 : decode cX6_rowBits 88 = .ok (.iadd, 1) := by decide +kernel
theorem d68_89 : decode cX6_rowBits 89 = .ok (.istore 5, 2) := by decide +kernel
theorem d68_91 : decode cX6_rowBits 91 = .ok (.iconst 1, 1) := by decide +kernel
theorem d68_92 : decode cX6_rowBits 92 = .ok (.iload 5, 2) := by decide +kernel
theorem d68_94 : decode cX6_rowBits 94 = .ok (.iconst 1, 1) := by decide +kernel
theorem d68_95 : decode cX6_rowBits 95 = .ok (.iadd, 1) := by decide +kernel
theorem d68_96 : decode cX6_rowBits 96 = .ok (.ishl, 1) := by decide +kernel
theorem d68_97 : decode cX6_rowBits 97 = .ok (.iconst 1, 1) := by decide +kernel
theorem d68_98 : decode cX6_rowBits 98 = .ok (.iload 4, 2) := by decide +kernel
theorem d68_100 : decode cX6_rowBits 100 = .ok (.ishl, 1) := by decide +kernel
theorem d68_101 : decode cX6_rowBits 101 = .ok (.isub, 1) := by decide +kernel
theorem d68_102 : decode cX6_rowBits 102 = .ok (.ireturn, 1) := by decide +kernel
theorem v68_0 : am_all (am_V9 68) am_l68_0 := ⟨Or.inr ⟨1, d68_0, rfl, rfl, rfl, trivial, trivial⟩, Or.inr ⟨1, d68_1, rfl, rfl, rfl, trivial, trivial⟩, Or.inr ⟨1, d68_2, rfl, rfl, rfl, trivial, trivial⟩, Or.inr ⟨3, d68_3, rfl, rfl, trivial, ⟨RX6, TX6, 5, rfl, by decide, Or.inl aw_159⟩, trivial⟩, Or.inr ⟨1, d68_6, rfl, rfl, trivial, trivial, trivial⟩, Or.inr ⟨1, d68_7, rfl, rfl, rfl, trivial, trivial⟩, Or.inr ⟨1, d68_8, rfl, rfl, rfl, trivial, trivial⟩, Or.inr ⟨3, d68_9, rfl, rfl, trivial, ⟨RX6, TX6, 5, rfl, by decide, Or.inl aw_159⟩, trivial⟩, Or.inr ⟨1, d68_12, rfl, rfl, trivial, trivial, trivial⟩, Or.inr ⟨1, d68_13, rfl, rfl, trivial, trivial, trivial⟩, Or.inr ⟨1, d68_14, rfl, rfl, trivial, trivial, trivial⟩, Or.inr ⟨1, d68_15, rfl, rfl, rfl, trivial, trivial⟩, Or.inr ⟨1, d68_16, rfl, rfl, rfl, trivial, trivial⟩, Or.inr ⟨3, d68_17, rfl, rfl, rfl, trivial, trivial⟩, Or.inr ⟨1, d68_20, rfl, rfl, rfl, trivial, trivial⟩, Or.inr ⟨3, d68_21, rfl, rfl, trivial, ⟨_, _, _, rfl, Or.inr ⟨_, an_14⟩⟩, trivial⟩, Or.inr ⟨1, d68_24, rfl, rfl, trivial, trivial, trivial⟩, Or.inr ⟨3, d68_25, rfl, rfl, rfl, trivial, trivial⟩, Or.inr ⟨1, d68_28, rfl, rfl, am_eq9 (by decide +kernel), trivial, trivial⟩, Or.inr ⟨1, d68_29, rfl, rfl, trivial, trivial, trivial⟩, Or.inr ⟨1, d68_30, rfl, rfl, rfl, trivial, trivial⟩, Or.inr ⟨3, d68_31, rfl, rfl, trivial, ⟨RX6, TX6, 5, rfl, by decide, Or.inl aw_158⟩, trivial⟩, Or.inr ⟨3, d68_34, rfl, rfl, trivial, ⟨_, _, _, rfl, Or.inr ⟨_, an_14⟩⟩, trivial⟩, Or.inr ⟨1, d68_37, rfl, rfl, rfl, trivial, trivial⟩, trivial⟩
theorem v68_1 : am_all (am_V9 68) am_l68_1 := ⟨Or.inr ⟨1, d68_38, rfl, rfl, trivial, trivial, trivial⟩, Or.inr ⟨1, d68_39, rfl, rfl, trivial, trivial, trivial⟩, Or.inr ⟨3, d68_40, rfl, rfl, rfl, trivial, trivial⟩, Or.inr ⟨1, d68_43, rfl, rfl, am_eq9 (by decide +kernel), trivial, trivial⟩, Or.inr ⟨3, d68_44, rfl, rfl, rfl, trivial, trivial⟩, Or.inr ⟨1, d68_47, rfl, rfl, rfl, trivial, trivial⟩, Or.inr ⟨3, d68_48, rfl, rfl, trivial, ⟨RX6, TX6, 5, rfl, by decide, Or.inl aw_158⟩, trivial⟩, Or.inr ⟨3, d68_51, rfl, rfl, trivial, ⟨_, _, _, rfl, Or.inr ⟨_, an_14⟩⟩, trivial⟩, Or.inr ⟨1, d68_54, rfl, rfl, rfl, trivial, trivial⟩, Or.inr ⟨1, d68_55, rfl, rfl, trivial, trivial, trivial⟩, Or.inr ⟨1, d68_56, rfl, rfl, trivial, trivial, trivial⟩, Or.inr ⟨2, d68_57, rfl, rfl, rfl, trivial, trivial⟩, Or.inr ⟨1, d68_59, rfl, rfl, rfl, trivial, trivial⟩, Or.inr ⟨3, d68_60, rfl, rfl, trivial, ⟨RX6, TX6, 5, rfl, by decide, Or.inl aw_158⟩, trivial⟩, Or.inr ⟨3, d68_63, rfl, rfl, trivial, ⟨_, _, _, rfl, Or.inr ⟨_, an_14⟩⟩, trivial⟩, Or.inr ⟨1, d68_66, rfl, rfl, rfl, trivial, trivial⟩, Or.inr ⟨1, d68_67, rfl, rfl, trivial, trivial, trivial⟩, Or.inr ⟨1, d68_68, rfl, rfl, trivial, trivial, trivial⟩, Or.inr ⟨2, d68_69, rfl, rfl, am_eq9 (by decide +kernel), trivial, trivial⟩, Or.inr ⟨3, d68_71, rfl, rfl, rfl, trivial, trivial⟩, Or.inr ⟨2, d68_74, rfl, rfl, am_eq9 (by decide +kernel), trivial, trivial⟩, Or.inr ⟨3, d68_76, rfl, rfl, rfl, trivial, trivial⟩, Or.inr ⟨1, d68_79, rfl, rfl, rfl, trivial, trivial⟩, Or.inr ⟨3, d68_80, rfl, rfl, trivial, ⟨RX6, TX6, 5, rfl, by decide, Or.inl aw_158⟩, trivial⟩, trivial⟩
theorem v68_2 : am_all (am_V9 68) am_l68_2 := ⟨Or.inr ⟨3, d68_83, rfl, rfl, trivial, ⟨_, _, _, rfl, Or.inr ⟨_, an_14⟩⟩, trivial⟩, Or.inr ⟨1, d68_86, rfl, rfl, rfl, trivial, trivial⟩, Or.inr ⟨1, d68_87, rfl, rfl, trivial, trivial, trivial⟩, Or.inr ⟨1, d68_88, rfl, rfl, trivial, trivial, trivial⟩, Or.inr ⟨2, d68_89, rfl, rfl, rfl, trivial, trivial⟩, Or.inr ⟨1, d68_91, rfl, rfl, am_eq9 (by decide +kernel), trivial, trivial⟩, Or.inr ⟨2, d68_92, rfl, rfl, rfl, trivial, trivial⟩, Or.inr ⟨1, d68_94, rfl, rfl, am_eq9 (by decide +kernel), trivial, trivial⟩, Or.inr ⟨1, d68_95, rfl, rfl, trivial, trivial, trivial⟩, Or.inr ⟨1, d68_96, rfl, rfl, trivial, trivial, trivial⟩, Or.inr ⟨1, d68_97, rfl, rfl, am_eq9 (by decide +kernel), trivial, trivial⟩, Or.inr ⟨2, d68_98, rfl, rfl, rfl, trivial, trivial⟩, Or.inr ⟨1, d68_100, rfl, rfl, trivial, trivial, trivial⟩, Or.inr ⟨1, d68_101, rfl, rfl, trivial, trivial, trivial⟩, Or.inr ⟨1, d68_102, rfl, rfl, trivial, trivial, trivial⟩, trivial⟩
theorem v68 : ∀ pc, am_V9 68 pc ((am_G 68).2.2.2.2.1 pc) := am_all_lc am_V9_0 _ ⟨v68_0, v68_1, v68_2, trivial⟩
theorem d69_0 : decode cX7_init 0 = .ok (.aload_n 0, 1) := by decide +kernel
theorem d69_1 : decode cX7_init 1 = .ok (.invokespecial 3, 3) := by decide +kernel
theorem d69_4 : decode cX7_init 4 = .ok (.aload_n 0, 1) := by decide +kernel
theorem d69_5 : decode cX7_init 5 = .ok (.new 9, 3) := by decide +kernel
theorem d69_8 : decode cX7_init 8 = .ok (.dup, 1) := by decide +kernel
theorem d69_9 : decode cX7_init 9 = .ok (.invokespecial 11, 3) := by decide +kernel
theorem d69_12 : decode cX7_init 12 = .ok (.putfield 12, 3) := by decide +kernel
theorem d69_15 : decode cX7_init 15 = .ok (.aload_n 0, 1) := by decide +kernel
theorem d69_16 : decode cX7_init 16 = .ok (.new 16, 3) := by decide +kernel
theorem d69_19 : decode cX7_init 19 = .ok (.dup, 1) := by decide +kernel
theorem d69_20 : decode cX7_init 20 = .ok (.aload_n 0, 1) := by decide +kernel
theorem d69_21 : decode cX7_init 21 = .ok (.getfield 12, 3) := by decide +kernel
theorem d69_24 : decode cX7_init 24 = .ok (.invokespecial 18, 3) := by decide +kernel
theorem d69_27 : decode cX7_init 27 = .ok (.putfield 21, 3) := by decide +kernel
theorem d69_30 : decode cX7_init 30 = .ok (.aload_n 0, 1) := by decide +kernel
theorem d69_31 : decode cX7_init 31 = .ok (.new 16, 3) := by decide +kernel
theorem d69_34 : decode cX7_init 34 = .ok (.dup, 1) := by decide +kernel
theorem d69_35 : decode cX7_init 35 = .ok (.aload_n 0, 1) := by decide +kernel
theorem d69_36 : decode cX7_init 36 = .ok (.getfield 12, 3) := by decide +kernel
theorem d69_39 : decode cX7_init 39 = .ok (.invokespecial 18, 3) := by decide +kernel
theorem d69_42 : decode cX7_init 42 = .ok (.putfield 25, 3) := by decide +kernel
theorem d69_45 : decode cX7_init 45 = .ok (.aload_n 0, 1) := by decide +kernel
theorem d69_46 : decode cX7_init 46 = .ok (.bipush 45, 2) := by decide +kernel
theorem d69_48 : decode cX7_init 48 = .ok (.putfield 28, 3) := by decide +kernel
theorem d69_51 : decode cX7_init 51 = .ok (.return_, 1) := by decide +kernel
theorem v69_0 : am_all (am_V9 69) am_l69_0 := ⟨Or.inr ⟨1, d69_0, rfl, rfl, rfl, trivial, trivial⟩, Or.inr ⟨3, d69_1, rfl, rfl, trivial, trivial, Or.inl ⟨rfl, aw_30, aw_31, aw_32⟩⟩, Or.inr ⟨1, d69_4, rfl, rfl, rfl, trivial, trivial⟩, Or.inr ⟨3, d69_5, rfl, rfl, trivial, ⟨RX2, TX2, 4, rfl, rfl, aw_33, aw_34, aw_2⟩, trivial⟩, Or.inr ⟨1, d69_8, rfl, rfl, trivial, trivial, trivial⟩, Or.inr ⟨3, d69_9, rfl, rfl, trivial, trivial, Or.inr ⟨by decide, ⟨_, rfl, okM_40⟩, aw_36, rfl, rfl, Or.inr ⟨rfl, _, an_0⟩⟩⟩, Or.inr ⟨3, d69_12, rfl, rfl, trivial, ⟨RX7, TX7, 4, rfl, by decide, aw_250, Or.inr ⟨rfl, rfl, rfl⟩⟩, trivial⟩, Or.inr ⟨1, d69_15, rfl, rfl, rfl, trivial, trivial⟩, Or.inr ⟨3, d69_16, rfl, rfl, trivial, ⟨RX1, TX1, 20, rfl, rfl, aw_122, aw_123, aw_6⟩, trivial⟩, Or.inr ⟨1, d69_19, rfl, rfl, trivial, trivial, trivial⟩, Or.inr ⟨1, d69_20, rfl, rfl, rfl, trivial, trivial⟩, Or.inr ⟨3, d69_21, rfl, rfl, trivial, ⟨RX7, TX7, 4, rfl, by decide, Or.inl aw_250⟩, trivial⟩, Or.inr ⟨3, d69_24, rfl, rfl, trivial, trivial, Or.inr ⟨by decide, ⟨_, rfl, okM_10⟩, aw_125, rfl, rfl, Or.inl ⟨rfl, aw_124⟩⟩⟩, Or.inr ⟨3, d69_27, rfl, rfl, trivial, ⟨RX7, TX7, 4, rfl, by decide, aw_251, Or.inr ⟨rfl, rfl, rfl⟩⟩, trivial⟩, Or.inr ⟨1, d69_30, rfl, rfl, rfl, trivial, trivial⟩, Or.inr ⟨3, d69_31, rfl, rfl, trivial, ⟨RX1, TX1, 20, rfl, rfl, aw_122, aw_123, aw_6⟩, trivial⟩, Or.inr ⟨1, d69_34, rfl, rfl, trivial, trivial, trivial⟩, Or.inr ⟨1, d69_35, rfl, rfl, rfl, trivial, trivial⟩, Or.inr ⟨3, d69_36, rfl, rfl, trivial, ⟨RX7, TX7, 4, rfl, by decide, Or.inl aw_250⟩, trivial⟩, Or.inr ⟨3, d69_39, rfl, rfl, trivial, trivial, Or.inr ⟨by decide, ⟨_, rfl, okM_10⟩, aw_125, rfl, rfl, Or.inl ⟨rfl, aw_124⟩⟩⟩, Or.inr ⟨3, d69_42, rfl, rfl, trivial, ⟨RX7, TX7, 4, rfl, by decide, aw_252, Or.inr ⟨rfl, rfl, rfl⟩⟩, trivial⟩, Or.inr ⟨1, d69_45, rfl, rfl, rfl, trivial, trivial⟩, Or.inr ⟨2, d69_46, rfl, rfl, am_eq9 (by decide +kernel), trivial, trivial⟩, Or.inr ⟨3, d69_48, rfl, rfl, trivial, ⟨RX7, TX7, 4, rfl, by decide, aw_253, Or.inl rfl⟩, trivial⟩, trivial⟩
theorem v69_1 : am_all (am_V9 69) am_l69_1 := ⟨Or.inr ⟨1, d69_51, rfl, rfl, trivial, trivial, trivial⟩, trivial⟩
theorem v69 : ∀ pc, am_V9 69 pc ((am_G 69).2.2.2.2.1 pc) := am_all_lc am_V9_0 _ ⟨v69_0, v69_1, trivial⟩
theorem d70_0 : decode cX7_isClosed 0 = .ok (.aload_n 0, 1) := by decide +kernel
theorem d70_1 : decode cX7_isClosed 1 = .ok (.getfield 12, 3) := by decide +kernel
theorem d70_4 : decode cX7_isClosed 4 = .ok (.getfield 122, 3) := by decide +kernel
theorem d70_7 : decode cX7_isClosed 7 = .ok (.invokevirtual 146, 3) := by decide +kernel
theorem d70_10 : decode cX7_isClosed 10 = .ok (.ireturn, 1) := by decide +kernel
theorem v70_0 : am_all (am_V9 70) am_l70_0 := ⟨Or.inr ⟨1, d70_0, rfl, rfl, rfl, trivial, trivial⟩, Or.inr ⟨3, d70_1, rfl, rfl, trivial, ⟨RX7, TX7, 4, rfl, by decide, Or.inl aw_250⟩, trivial⟩, Or.inr ⟨3, d70_4, rfl, rfl, trivial, ⟨RX2, TX2, 4, rfl, by decide, Or.inl aw_112⟩, trivial⟩, Or.inr ⟨3, d70_7, rfl, rfl, trivial, trivial, ⟨by decide, ⟨_, TX4, 6, rfl, okM_53, rfl⟩, aw_267, aw_268, aw_269⟩⟩, Or.inr ⟨1, d70_10, rfl, rfl, trivial, trivial, trivial⟩, trivial⟩
theorem v70 : ∀ pc, am_V9 70 pc ((am_G 70).2.2.2.2.1 pc) := am_all_lc am_V9_0 _ ⟨v70_0, trivial⟩
theorem d71_0 : decode cX7_reset 0 = .ok (.aload_n 0, 1) := by decide +kernel
theorem d71_1 : decode cX7_reset 1 = .ok (.getfield 21, 3) := by decide +kernel
theorem d71_4 : decode cX7_reset 4 = .ok (.getfield 164, 3) := by decide +kernel
theorem d71_7 : decode cX7_reset 7 = .ok (.istore_n 1, 1) := by decide +kernel
theorem d71_8 : decode cX7_reset 8 = .ok (.aload_n 0, 1) := by decide +kernel
theorem d71_9 : decode cX7_reset 9 = .ok (.invokevirtual 81, 3) := by decide +kernel
theorem d71_12 : decode cX7_reset 12 = .ok (.iload_n 1, 1) := by decide +kernel
theorem d71_13 : decode cX7_reset 13 = .ok (.ireturn, 1) := by decide +kernel
theorem v71_0 : am_all (am_V9 71) am_l71_0 := ⟨Or.inr ⟨1, d71_0, rfl, rfl, rfl, trivial, trivial⟩, Or.inr ⟨3, d71_1, rfl, rfl, trivial, ⟨RX7, TX7, 4, rfl, by decide, Or.inl aw_251⟩, trivial⟩, Or.inr ⟨3, d71_4, rfl, rfl, trivial, ⟨RX1, TX1, 20, rfl, by decide, Or.inl aw_196⟩, trivial⟩, Or.inr ⟨1, d71_7, rfl, rfl, rfl, trivial, trivial⟩, Or.inr ⟨1, d71_8, rfl, rfl, rfl, trivial, trivial⟩, Or.inr ⟨3, d71_9, rfl, rfl, trivial, trivial, ⟨by decide, ⟨_, TX7, 4, rfl, okM_83, rfl⟩, aw_286, aw_288, as_83⟩⟩, Or.inr ⟨1, d71_12, rfl, rfl, rfl, trivial, trivial⟩, Or.inr ⟨1, d71_13, rfl, rfl, trivial, trivial, trivial⟩, trivial⟩
theorem v71 : ∀ pc, am_V9 71 pc ((am_G 71).2.2.2.2.1 pc) := am_all_lc am_V9_0 _ ⟨v71_0, trivial⟩
theorem d72_0 : decode cX7_alarm 0 = .ok (.aload_n 0, 1) := by decide +kernel
theorem d72_1 : decode cX7_alarm 1 = .ok (.getfield 28, 3) := by decide +kernel
theorem d72_4 : decode cX7_alarm 4 = .ok (.ireturn, 1) := by decide +kernel
theorem v72_0 : am_all (am_V9 72) am_l72_0 := ⟨Or.inr ⟨1, d72_0, rfl, rfl, rfl, trivial, trivial⟩, Or.inr ⟨3, d72_1, rfl, rfl, trivial, ⟨RX7, TX7, 4, rfl, by decide, Or.inl aw_253⟩, trivial⟩, Or.inr ⟨1, d72_4, rfl, rfl, trivial, trivial, trivial⟩, trivial⟩
theorem v72 : ∀ pc, am_V9 72 pc ((am_G 72).2.2.2.2.1 pc) := am_all_lc am_V9_0 _ ⟨v72_0, trivial⟩
theorem d73_0 : decode cX7_isOver 0 = .ok (.aload_n 0, 1) := by decide +kernel
theorem d73_1 : decode cX7_isOver 1 = .ok (.getfield 21, 3) := by decide +kernel
theorem d73_4 : decode cX7_isOver 4 = .ok (.invokevirtual 154, 3) := by decide +kernel
theorem d73_7 : decode cX7_isOver 7 = .ok (.ireturn, 1) := by decide +kernel
theorem v73_0 : am_all (am_V9 73) am_l73_0 := ⟨Or.inr ⟨1, d73_0, rfl, rfl, rfl, trivial, trivial⟩, Or.inr ⟨3, d73_1, rfl, rfl, trivial, ⟨RX7, TX7, 4, rfl, by decide, Or.inl aw_251⟩, trivial⟩, Or.inr ⟨3, d73_4, rfl, rfl, trivial, trivial, ⟨by decide, ⟨_, TX1, 20, rfl, okM_12, rfl⟩, aw_299, aw_300, aw_301⟩⟩, Or.inr ⟨1, d73_7, rfl, rfl, trivial, trivial, trivial⟩, trivial⟩
theorem v73 : ∀ pc, am_V9 73 pc ((am_G 73).2.2.2.2.1 pc) := am_all_lc am_V9_0 _ ⟨v73_0, trivial⟩
theorem d74_0 : decode cX7_next 0 = .ok (.aload_n 0, 1) := by decide +kernel
theorem d74_1 : decode cX7_next 1 = .ok (.getfield 21, 3) := by decide +kernel
theorem d74_4 : decode cX7_next 4 = .ok (.getfield 167, 3) := by decide +kernel
theorem d74_7 : decode cX7_next 7 = .ok (.ireturn, 1) := by decide +kernel
theorem v74_0 : am_all (am_V9 74) am_l74_0 := ⟨Or.inr ⟨1, d74_0, rfl, rfl, rfl, trivial, trivial⟩, Or.inr ⟨3, d74_1, rfl, rfl, trivial, ⟨RX7, TX7, 4, rfl, by decide, Or.inl aw_251⟩, trivial⟩, Or.inr ⟨3, d74_4, rfl, rfl, trivial, ⟨RX1, TX1, 20, rfl, by decide, Or.inl aw_194⟩, trivial⟩, Or.inr ⟨1, d74_7, rfl, rfl, trivial, trivial, trivial⟩, trivial⟩
theorem v74 : ∀ pc, am_V9 74 pc ((am_G 74).2.2.2.2.1 pc) := am_all_lc am_V9_0 _ ⟨v74_0, trivial⟩
theorem d75_0 : decode cX7_done 0 = .ok (.aload_n 0, 1) := by decide +kernel
theorem d75_1 : decode cX7_done 1 = .ok (.getfield 21, 3) := by decide +kernel
theorem d75_4 : decode cX7_done 4 = .ok (.getfield 164, 3) := by decide +kernel
theorem d75_7 : decode cX7_done 7 = .ok (.ireturn, 1) := by decide +kernel
theorem v75_0 : am_all (am_V9 75) am_l75_0 := ⟨Or.inr ⟨1, d75_0, rfl, rfl, rfl, trivial, trivial⟩, Or.inr ⟨3, d75_1, rfl, rfl, trivial, ⟨RX7, TX7, 4, rfl, by decide, Or.inl aw_251⟩, trivial⟩, Or.inr ⟨3, d75_4, rfl, rfl, trivial, ⟨RX1, TX1, 20, rfl, by decide, Or.inl aw_196⟩, trivial⟩, Or.inr ⟨1, d75_7, rfl, rfl, trivial, trivial, trivial⟩, trivial⟩
theorem v75 : ∀ pc, am_V9 75 pc ((am_G 75).2.2.2.2.1 pc) := am_all_lc am_V9_0 _ ⟨v75_0, trivial⟩
theorem d76_0 : decode cX7_cutter 0 = .ok (.aload_n 0, 1) := by decide +kernel
theorem d76_1 : decode cX7_cutter 1 = .ok (.getfield 21, 3) := by decide +kernel
theorem d76_4 : decode cX7_cutter 4 = .ok (.getfield 180, 3) := by decide +kernel
theorem d76_7 : decode cX7_cutter 7 = .ok (.ireturn, 1) := by decide +kernel
theorem v76_0 : am_all (am_V9 76) am_l76_0 := ⟨Or.inr ⟨1, d76_0, rfl, rfl, rfl, trivial, trivial⟩, Or.inr ⟨3, d76_1, rfl, rfl, trivial, ⟨RX7, TX7, 4, rfl, by decide, Or.inl aw_251⟩, trivial⟩, Or.inr ⟨3, d76_4, rfl, rfl, trivial, ⟨RX1, TX1, 20, rfl, by decide, Or.inl aw_198⟩, trivial⟩, Or.inr ⟨1, d76_7, rfl, rfl, trivial, trivial, trivial⟩, trivial⟩
theorem v76 : ∀ pc, am_V9 76 pc ((am_G 76).2.2.2.2.1 pc) := am_all_lc am_V9_0 _ ⟨v76_0, trivial⟩
theorem d77_0 : decode cX7_stock 0 = .ok (.aload_n 0, 1) := by decide +kernel
theorem d77_1 : decode cX7_stock 1 = .ok (.getfield 21, 3) := by decide +kernel
theorem d77_4 : decode cX7_stock 4 = .ok (.getfield 194, 3) := by decide +kernel
theorem d77_7 : decode cX7_stock 7 = .ok (.invokevirtual 201, 3) := by decide +kernel
theorem d77_10 : decode cX7_stock 10 = .ok (.ireturn, 1) := by decide +kernel
theorem v77_0 : am_all (am_V9 77) am_l77_0 := ⟨Or.inr ⟨1, d77_0, rfl, rfl, rfl, trivial, trivial⟩, Or.inr ⟨3, d77_1, rfl, rfl, trivial, ⟨RX7, TX7, 4, rfl, by decide, Or.inl aw_251⟩, trivial⟩, Or.inr ⟨3, d77_4, rfl, rfl, trivial, ⟨RX1, TX1, 20, rfl, by decide, Or.inl aw_183⟩, trivial⟩, Or.inr ⟨3, d77_7, rfl, rfl, trivial, trivial, ⟨by decide, ⟨_, TX0, 1, rfl, okM_4, rfl⟩, aw_319, aw_320, aw_321⟩⟩, Or.inr ⟨1, d77_10, rfl, rfl, trivial, trivial, trivial⟩, trivial⟩
theorem v77 : ∀ pc, am_V9 77 pc ((am_G 77).2.2.2.2.1 pc) := am_all_lc am_V9_0 _ ⟨v77_0, trivial⟩
theorem d78_0 : decode cX7_checksum 0 = .ok (.aload_n 0, 1) := by decide +kernel
theorem d78_1 : decode cX7_checksum 1 = .ok (.getfield 21, 3) := by decide +kernel
theorem d78_4 : decode cX7_checksum 4 = .ok (.getfield 194, 3) := by decide +kernel
theorem d78_7 : decode cX7_checksum 7 = .ok (.invokevirtual 204, 3) := by decide +kernel
theorem d78_10 : decode cX7_checksum 10 = .ok (.lreturn, 1) := by decide +kernel
theorem v78_0 : am_all (am_V9 78) am_l78_0 := ⟨Or.inr ⟨1, d78_0, rfl, rfl, rfl, trivial, trivial⟩, Or.inr ⟨3, d78_1, rfl, rfl, trivial, ⟨RX7, TX7, 4, rfl, by decide, Or.inl aw_251⟩, trivial⟩, Or.inr ⟨3, d78_4, rfl, rfl, trivial, ⟨RX1, TX1, 20, rfl, by decide, Or.inl aw_183⟩, trivial⟩, Or.inr ⟨3, d78_7, rfl, rfl, trivial, trivial, ⟨by decide, ⟨_, TX0, 1, rfl, okM_5, rfl⟩, aw_333, aw_334, aw_335⟩⟩, Or.inr ⟨1, d78_10, rfl, rfl, trivial, trivial, trivial⟩, trivial⟩
theorem v78 : ∀ pc, am_V9 78 pc ((am_G 78).2.2.2.2.1 pc) := am_all_lc am_V9_0 _ ⟨v78_0, trivial⟩
theorem d79_0 : decode cX7_time 0 = .ok (.aload_n 0, 1) := by decide +kernel
theorem d79_1 : decode cX7_time 1 = .ok (.getfield 21, 3) := by decide +kernel
theorem d79_4 : decode cX7_time 4 = .ok (.getfield 208, 3) := by decide +kernel
theorem d79_7 : decode cX7_time 7 = .ok (.freturn, 1) := by decide +kernel
theorem v79_0 : am_all (am_V9 79) am_l79_0 := ⟨Or.inr ⟨1, d79_0, rfl, rfl, rfl, trivial, trivial⟩, Or.inr ⟨3, d79_1, rfl, rfl, trivial, ⟨RX7, TX7, 4, rfl, by decide, Or.inl aw_251⟩, trivial⟩, Or.inr ⟨3, d79_4, rfl, rfl, trivial, ⟨RX1, TX1, 20, rfl, by decide, Or.inl aw_200⟩, trivial⟩, Or.inr ⟨1, d79_7, rfl, rfl, trivial, trivial, trivial⟩, trivial⟩
theorem v79 : ∀ pc, am_V9 79 pc ((am_G 79).2.2.2.2.1 pc) := am_all_lc am_V9_0 _ ⟨v79_0, trivial⟩
theorem d80_0 : decode cX7_timeBits 0 = .ok (.aload_n 0, 1) := by decide +kernel
theorem d80_1 : decode cX7_timeBits 1 = .ok (.getfield 21, 3) := by decide +kernel
theorem d80_4 : decode cX7_timeBits 4 = .ok (.getfield 208, 3) := by decide +kernel
theorem d80_7 : decode cX7_timeBits 7 = .ok (.invokestatic 212, 3) := by decide +kernel
theorem d80_10 : decode cX7_timeBits 10 = .ok (.ireturn, 1) := by decide +kernel
theorem v80_0 : am_all (am_V9 80) am_l80_0 := ⟨Or.inr ⟨1, d80_0, rfl, rfl, rfl, trivial, trivial⟩, Or.inr ⟨3, d80_1, rfl, rfl, trivial, ⟨RX7, TX7, 4, rfl, by decide, Or.inl aw_251⟩, trivial⟩, Or.inr ⟨3, d80_4, rfl, rfl, trivial, ⟨RX1, TX1, 20, rfl, by decide, Or.inl aw_200⟩, trivial⟩, Or.inr ⟨3, d80_7, rfl, rfl, trivial, trivial, Or.inr ⟨by decide, okM_94, aw_346, Or.inl ⟨rfl, aw_345⟩⟩⟩, Or.inr ⟨1, d80_10, rfl, rfl, trivial, trivial, trivial⟩, trivial⟩
theorem v80 : ∀ pc, am_V9 80 pc ((am_G 80).2.2.2.2.1 pc) := am_all_lc am_V9_0 _ ⟨v80_0, trivial⟩
theorem d81_0 : decode cX7_taken 0 = .ok (.aload_n 0, 1) := by decide +kernel
theorem d81_1 : decode cX7_taken 1 = .ok (.getfield 21, 3) := by decide +kernel
theorem d81_4 : decode cX7_taken 4 = .ok (.getfield 194, 3) := by decide +kernel
theorem d81_7 : decode cX7_taken 7 = .ok (.invokevirtual 201, 3) := by decide +kernel
theorem d81_10 : decode cX7_taken 10 = .ok (.istore_n 1, 1) := by decide +kernel
theorem d81_11 : decode cX7_taken 11 = .ok (.sipush 1152, 3) := by decide +kernel
theorem d81_14 : decode cX7_taken 14 = .ok (.iload_n 1, 1) := by decide +kernel
theorem d81_15 : decode cX7_taken 15 = .ok (.isub, 1) := by decide +kernel
theorem d81_16 : decode cX7_taken 16 = .ok (.istore_n 2, 1) := by decide +kernel
theorem d81_17 : decode cX7_taken 17 = .ok (.iload_n 2, 1) := by decide +kernel
theorem d81_18 : decode cX7_taken 18 = .ok (.i2f, 1) := by decide +kernel
theorem d81_19 : decode cX7_taken 19 = .ok (.ldc 224, 2) := by decide +kernel
theorem d81_21 : decode cX7_taken 21 = .ok (.fdiv, 1) := by decide +kernel
theorem d81_22 : decode cX7_taken 22 = .ok (.fstore_n 3, 1) := by decide +kernel
theorem d81_23 : decode cX7_taken 23 = .ok (.iload_n 1, 1) := by decide +kernel
theorem d81_24 : decode cX7_taken 24 = .ok (.iload_n 2, 1) := by decide +kernel
theorem d81_25 : decode cX7_taken 25 = .ok (.isub, 1) := by decide +kernel
theorem d81_26 : decode cX7_taken 26 = .ok (.ifCond .ge 8, 3) := by decide +kernel
theorem d81_29 : decode cX7_taken 29 = .ok (.fload_n 3, 1) := by decide +kernel
theorem d81_30 : decode cX7_taken 30 = .ok (.fneg, 1) := by decide +kernel
theorem d81_31 : decode cX7_taken 31 = .ok (.goto 4, 3) := by decide +kernel
theorem d81_34 : decode cX7_taken 34 = .ok (.fload_n 3, 1) := by decide +kernel
theorem d81_35 : decode cX7_taken 35 = .ok (.freturn, 1) := by decide +kernel
theorem v81_0 : am_all (am_V9 81) am_l81_0 := ⟨Or.inr ⟨1, d81_0, rfl, rfl, rfl, trivial, trivial⟩, Or.inr ⟨3, d81_1, rfl, rfl, trivial, ⟨RX7, TX7, 4, rfl, by decide, Or.inl aw_251⟩, trivial⟩, Or.inr ⟨3, d81_4, rfl, rfl, trivial, ⟨RX1, TX1, 20, rfl, by decide, Or.inl aw_183⟩, trivial⟩, Or.inr ⟨3, d81_7, rfl, rfl, trivial, trivial, ⟨by decide, ⟨_, TX0, 1, rfl, okM_4, rfl⟩, aw_319, aw_320, aw_321⟩⟩, Or.inr ⟨1, d81_10, rfl, rfl, rfl, trivial, trivial⟩, Or.inr ⟨3, d81_11, rfl, rfl, am_eq9 (by decide +kernel), trivial, trivial⟩, Or.inr ⟨1, d81_14, rfl, rfl, rfl, trivial, trivial⟩, Or.inr ⟨1, d81_15, rfl, rfl, trivial, trivial, trivial⟩, Or.inr ⟨1, d81_16, rfl, rfl, rfl, trivial, trivial⟩, Or.inr ⟨1, d81_17, rfl, rfl, rfl, trivial, trivial⟩, Or.inr ⟨1, d81_18, rfl, rfl, trivial, trivial, trivial⟩, Or.inr ⟨2, d81_19, rfl, rfl, ⟨fun h => absurd h (by decide), fun _ => aw_353⟩, trivial, trivial⟩, Or.inr ⟨1, d81_21, rfl, rfl, trivial, trivial, trivial⟩, Or.inr ⟨1, d81_22, rfl, rfl, rfl, trivial, trivial⟩, Or.inr ⟨1, d81_23, rfl, rfl, rfl, trivial, trivial⟩, Or.inr ⟨1, d81_24, rfl, rfl, rfl, trivial, trivial⟩, Or.inr ⟨1, d81_25, rfl, rfl, trivial, trivial, trivial⟩, Or.inr ⟨3, d81_26, rfl, rfl, rfl, trivial, trivial⟩, Or.inr ⟨1, d81_29, rfl, rfl, rfl, trivial, trivial⟩, Or.inr ⟨1, d81_30, rfl, rfl, trivial, trivial, trivial⟩, Or.inr ⟨3, d81_31, rfl, rfl, rfl, trivial, trivial⟩, Or.inr ⟨1, d81_34, rfl, rfl, rfl, trivial, trivial⟩, Or.inr ⟨1, d81_35, rfl, rfl, trivial, trivial, trivial⟩, trivial⟩
theorem v81 : ∀ pc, am_V9 81 pc ((am_G 81).2.2.2.2.1 pc) := am_all_lc am_V9_0 _ ⟨v81_0, trivial⟩
theorem d82_0 : decode cX7_isSound 0 = .ok (.aload_n 0, 1) := by decide +kernel
theorem d82_1 : decode cX7_isSound 1 = .ok (.getfield 25, 3) := by decide +kernel
theorem d82_4 : decode cX7_isSound 4 = .ok (.aload_n 0, 1) := by decide +kernel
theorem d82_5 : decode cX7_isSound 5 = .ok (.getfield 21, 3) := by decide +kernel
theorem d82_8 : decode cX7_isSound 8 = .ok (.getfield 164, 3) := by decide +kernel
theorem d82_11 : decode cX7_isSound 11 = .ok (.invokevirtual 197, 3) := by decide +kernel
theorem d82_14 : decode cX7_isSound 14 = .ok (.aload_n 0, 1) := by decide +kernel
theorem d82_15 : decode cX7_isSound 15 = .ok (.getfield 21, 3) := by decide +kernel
theorem d82_18 : decode cX7_isSound 18 = .ok (.getfield 194, 3) := by decide +kernel
theorem d82_21 : decode cX7_isSound 21 = .ok (.aload_n 0, 1) := by decide +kernel
theorem d82_22 : decode cX7_isSound 22 = .ok (.getfield 25, 3) := by decide +kernel
theorem d82_25 : decode cX7_isSound 25 = .ok (.getfield 194, 3) := by decide +kernel
theorem d82_28 : decode cX7_isSound 28 = .ok (.invokevirtual 225, 3) := by decide +kernel
theorem d82_31 : decode cX7_isSound 31 = .ok (.ifCond .eq 69, 3) := by decide +kernel
theorem d82_34 : decode cX7_isSound 34 = .ok (.aload_n 0, 1) := by decide +kernel
theorem d82_35 : decode cX7_isSound 35 = .ok (.getfield 21, 3) := by decide +kernel
theorem d82_38 : decode cX7_isSound 38 = .ok (.getfield 208, 3) := by decide +kernel
theorem d82_41 : decode cX7_isSound 41 = .ok (.aload_n 0, 1) := by decide +kernel
theorem d82_42 : decode cX7_isSound 42 = .ok (.getfield 25, 3) := by decide +kernel
theorem d82_45 : decode cX7_isSound 45 = .ok (.getfield 208, 3) := by decide +kernel
theorem d82_48 : decode cX7_isSound 48 = .ok (.fcmp .l, 1) := by decide +kernel
theorem d82_49 : decode cX7_isSound 49 = .ok (.ifCond .ne 51, 3) := by decide +kernel
theorem d82_52 : decode cX7_isSound 52 = .ok (.aload_n 0, 1) := by decide +kernel
theorem d82_53 : decode cX7_isSound 53 = .ok (.getfield 21, 3) := by decide +kernel
theorem d82_56 : decode cX7_isSound 56 = .ok (.invokevirtual 221, 3) := by decide +kernel
theorem d82_59 : decode cX7_isSound 59 = .ok (.sipush 1152, 3) := by decide +kernel
theorem d82_62 : decode cX7_isSound 62 = .ok (.aload_n 0, 1) := by decide +kernel
theorem d82_63 : decode cX7_isSound 63 = .ok (.getfield 21, 3) := by decide +kernel
theorem d82_66 : decode cX7_isSound 66 = .ok (.getfield 194, 3) := by decide +kernel
theorem d82_69 : decode cX7_isSound 69 = .ok (.invokevirtual 201, 3) := by decide +kernel
theorem d82_72 : decode cX7_isSound 72 = .ok (.isub, 1) := by decide +kernel
theorem d82_73 : decode cX7_isSound 73 = .ok (.if_icmp .ne 27, 3) := by decide +kernel
theorem d82_76 : decode cX7_isSound 76 = .ok (.aload_n 0, 1) := by decide +kernel
theorem d82_77 : decode cX7_isSound 77 = .ok (.getfield 21, 3) := by decide +kernel
theorem d82_80 : decode cX7_isSound 80 = .ok (.getfield 194, 3) := by decide +kernel
theorem d82_83 : decode cX7_isSound 83 = .ok (.aload_n 0, 1) := by decide +kernel
theorem d82_84 : decode cX7_isSound 84 = .ok (.getfield 12, 3) := by decide +kernel
theorem d82_87 : decode cX7_isSound 87 = .ok (.getfield 91, 3) := by decide +kernel
theorem d82_90 : decode cX7_isSound 90 = .ok (.invokevirtual 229, 3) := by decide +kernel
theorem d82_93 : decode cX7_isSound 93 = .ok (.ifCond .eq 7, 3) := by decide +kernel
theorem d82_96 : decode cX7_isSound 96 = .ok (.iconst 1, 1) := by decide +kernel
theorem d82_97 : decode cX7_isSound 97 = .ok (.goto 4, 3) := by decide +kernel
theorem d82_100 : decode cX7_isSound 100 = .ok (.iconst 0, 1) := by decide +kernel
theorem d82_101 : decode cX7_isSound 101 = .ok (.ireturn, 1) := by decide +kernel
theorem v82_0 : am_all (am_V9 82) am_l82_0 := ⟨Or.inr ⟨1, d82_0, rfl, rfl, rfl, trivial, trivial⟩, Or.inr ⟨3, d82_1, rfl, rfl, trivial, ⟨RX7, TX7, 4, rfl, by decide, Or.inl aw_252⟩, trivial⟩, Or.inr ⟨1, d82_4, rfl, rfl, rfl, trivial, trivial⟩, Or.inr ⟨3, d82_5, rfl, rfl, trivial, ⟨RX7, TX7, 4, rfl, by decide, Or.inl aw_251⟩, trivial⟩, Or.inr ⟨3, d82_8, rfl, rfl, trivial, ⟨RX1, TX1, 20, rfl, by decide, Or.inl aw_196⟩, trivial⟩, Or.inr ⟨3, d82_11, rfl, rfl, trivial, trivial, ⟨by decide, ⟨_, TX1, 20, rfl, okM_15, rfl⟩, aw_358, aw_359, aw_360⟩⟩, Or.inr ⟨1, d82_14, rfl, rfl, rfl, trivial, trivial⟩, Or.inr ⟨3, d82_15, rfl, rfl, trivial, ⟨RX7, TX7, 4, rfl, by decide, Or.inl aw_251⟩, trivial⟩, Or.inr ⟨3, d82_18, rfl, rfl, trivial, ⟨RX1, TX1, 20, rfl, by decide, Or.inl aw_183⟩, trivial⟩, Or.inr ⟨1, d82_21, rfl, rfl, rfl, trivial, trivial⟩, Or.inr ⟨3, d82_22, rfl, rfl, trivial, ⟨RX7, TX7, 4, rfl, by decide, Or.inl aw_252⟩, trivial⟩, Or.inr ⟨3, d82_25, rfl, rfl, trivial, ⟨RX1, TX1, 20, rfl, by decide, Or.inl aw_183⟩, trivial⟩, Or.inr ⟨3, d82_28, rfl, rfl, trivial, trivial, ⟨by decide, ⟨_, TX0, 1, rfl, okM_6, rfl⟩, aw_560, aw_561, aw_562⟩⟩, Or.inr ⟨3, d82_31, rfl, rfl, rfl, trivial, trivial⟩, Or.inr ⟨1, d82_34, rfl, rfl, rfl, trivial, trivial⟩, Or.inr ⟨3, d82_35, rfl, rfl, trivial, ⟨RX7, TX7, 4, rfl, by decide, Or.inl aw_251⟩, trivial⟩, Or.inr ⟨3, d82_38, rfl, rfl, trivial, ⟨RX1, TX1, 20, rfl, by decide, Or.inl aw_200⟩, trivial⟩, Or.inr ⟨1, d82_41, rfl, rfl, rfl, trivial, trivial⟩, Or.inr ⟨3, d82_42, rfl, rfl, trivial, ⟨RX7, TX7, 4, rfl, by decide, Or.inl aw_252⟩, trivial⟩, Or.inr ⟨3, d82_45, rfl, rfl, trivial, ⟨RX1, TX1, 20, rfl, by decide, Or.inl aw_200⟩, trivial⟩, Or.inr ⟨1, d82_48, rfl, rfl, trivial, trivial, trivial⟩, Or.inr ⟨3, d82_49, rfl, rfl, rfl, trivial, trivial⟩, Or.inr ⟨1, d82_52, rfl, rfl, rfl, trivial, trivial⟩, Or.inr ⟨3, d82_53, rfl, rfl, trivial, ⟨RX7, TX7, 4, rfl, by decide, Or.inl aw_251⟩, trivial⟩, trivial⟩
theorem v82_1 : am_all (am_V9 82) am_l82_1 := ⟨Or.inr ⟨3, d82_56, rfl, rfl, trivial, trivial, ⟨by decide, ⟨_, TX1, 20, rfl, okM_14, rfl⟩, aw_568, aw_569, aw_570⟩⟩, Or.inr ⟨3, d82_59, rfl, rfl, am_eq9 (by decide +kernel), trivial, trivial⟩, Or.inr ⟨1, d82_62, rfl, rfl, rfl, trivial, trivial⟩, Or.inr ⟨3, d82_63, rfl, rfl, trivial, ⟨RX7, TX7, 4, rfl, by decide, Or.inl aw_251⟩, trivial⟩, Or.inr ⟨3, d82_66, rfl, rfl, trivial, ⟨RX1, TX1, 20, rfl, by decide, Or.inl aw_183⟩, trivial⟩, Or.inr ⟨3, d82_69, rfl, rfl, trivial, trivial, ⟨by decide, ⟨_, TX0, 1, rfl, okM_4, rfl⟩, aw_319, aw_320, aw_321⟩⟩, Or.inr ⟨1, d82_72, rfl, rfl, trivial, trivial, trivial⟩, Or.inr ⟨3, d82_73, rfl, rfl, rfl, trivial, trivial⟩, Or.inr ⟨1, d82_76, rfl, rfl, rfl, trivial, trivial⟩, Or.inr ⟨3, d82_77, rfl, rfl, trivial, ⟨RX7, TX7, 4, rfl, by decide, Or.inl aw_251⟩, trivial⟩, Or.inr ⟨3, d82_80, rfl, rfl, trivial, ⟨RX1, TX1, 20, rfl, by decide, Or.inl aw_183⟩, trivial⟩, Or.inr ⟨1, d82_83, rfl, rfl, rfl, trivial, trivial⟩, Or.inr ⟨3, d82_84, rfl, rfl, trivial, ⟨RX7, TX7, 4, rfl, by decide, Or.inl aw_250⟩, trivial⟩, Or.inr ⟨3, d82_87, rfl, rfl, trivial, ⟨RX2, TX2, 4, rfl, by decide, Or.inl aw_105⟩, trivial⟩, Or.inr ⟨3, d82_90, rfl, rfl, trivial, trivial, ⟨by decide, ⟨_, TX0, 1, rfl, okM_7, rfl⟩, aw_572, aw_565, aw_566⟩⟩, Or.inr ⟨3, d82_93, rfl, rfl, rfl, trivial, trivial⟩, Or.inr ⟨1, d82_96, rfl, rfl, am_eq9 (by decide +kernel), trivial, trivial⟩, Or.inr ⟨3, d82_97, rfl, rfl, rfl, trivial, trivial⟩, Or.inr ⟨1, d82_100, rfl, rfl, am_eq9 (by decide +kernel), trivial, trivial⟩, Or.inr ⟨1, d82_101, rfl, rfl, trivial, trivial, trivial⟩, trivial⟩
theorem v82 : ∀ pc, am_V9 82 pc ((am_G 82).2.2.2.2.1 pc) := am_all_lc am_V9_0 _ ⟨v82_0, v82_1, trivial⟩
theorem d83_0 : decode cX7_beginAnew 0 = .ok (.aload_n 0, 1) := by decide +kernel
theorem d83_1 : decode cX7_beginAnew 1 = .ok (.getfield 21, 3) := by decide +kernel
theorem d83_4 : decode cX7_beginAnew 4 = .ok (.invokevirtual 232, 3) := by decide +kernel
theorem d83_7 : decode cX7_beginAnew 7 = .ok (.aload_n 0, 1) := by decide +kernel
theorem d83_8 : decode cX7_beginAnew 8 = .ok (.bipush 45, 2) := by decide +kernel
theorem d83_10 : decode cX7_beginAnew 10 = .ok (.putfield 28, 3) := by decide +kernel
theorem d83_13 : decode cX7_beginAnew 13 = .ok (.return_, 1) := by decide +kernel
theorem v83_0 : am_all (am_V9 83) am_l83_0 := ⟨Or.inr ⟨1, d83_0, rfl, rfl, rfl, trivial, trivial⟩, Or.inr ⟨3, d83_1, rfl, rfl, trivial, ⟨RX7, TX7, 4, rfl, by decide, Or.inl aw_251⟩, trivial⟩, Or.inr ⟨3, d83_4, rfl, rfl, trivial, trivial, ⟨by decide, ⟨_, TX1, 20, rfl, okM_11, rfl⟩, aw_290, aw_173, aw_174⟩⟩, Or.inr ⟨1, d83_7, rfl, rfl, rfl, trivial, trivial⟩, Or.inr ⟨2, d83_8, rfl, rfl, am_eq9 (by decide +kernel), trivial, trivial⟩, Or.inr ⟨3, d83_10, rfl, rfl, trivial, ⟨RX7, TX7, 4, rfl, by decide, aw_253, Or.inl rfl⟩, trivial⟩, Or.inr ⟨1, d83_13, rfl, rfl, trivial, trivial, trivial⟩, trivial⟩
theorem v83 : ∀ pc, am_V9 83 pc ((am_G 83).2.2.2.2.1 pc) := am_all_lc am_V9_0 _ ⟨v83_0, trivial⟩
theorem d84_0 : decode cX7_isWithin 0 = .ok (.iload_n 0, 1) := by decide +kernel
theorem d84_1 : decode cX7_isWithin 1 = .ok (.iload_n 1, 1) := by decide +kernel
theorem d84_2 : decode cX7_isWithin 2 = .ok (.if_icmp .lt 12, 3) := by decide +kernel
theorem d84_5 : decode cX7_isWithin 5 = .ok (.iload_n 0, 1) := by decide +kernel
theorem d84_6 : decode cX7_isWithin 6 = .ok (.iload_n 2, 1) := by decide +kernel
theorem d84_7 : decode cX7_isWithin 7 = .ok (.if_icmp .gt 7, 3) := by decide +kernel
theorem d84_10 : decode cX7_isWithin 10 = .ok (.iconst 1, 1) := by decide +kernel
theorem d84_11 : decode cX7_isWithin 11 = .ok (.goto 4, 3) := by decide +kernel
theorem d84_14 : decode cX7_isWithin 14 = .ok (.iconst 0, 1) := by decide +kernel
theorem d84_15 : decode cX7_isWithin 15 = .ok (.ireturn, 1) := by decide +kernel
theorem v84_0 : am_all (am_V9 84) am_l84_0 := ⟨Or.inr ⟨1, d84_0, rfl, rfl, rfl, trivial, trivial⟩, Or.inr ⟨1, d84_1, rfl, rfl, rfl, trivial, trivial⟩, Or.inr ⟨3, d84_2, rfl, rfl, rfl, trivial, trivial⟩, Or.inr ⟨1, d84_5, rfl, rfl, rfl, trivial, trivial⟩, Or.inr ⟨1, d84_6, rfl, rfl, rfl, trivial, trivial⟩, Or.inr ⟨3, d84_7, rfl, rfl, rfl, trivial, trivial⟩, Or.inr ⟨1, d84_10, rfl, rfl, am_eq9 (by decide +kernel), trivial, trivial⟩, Or.inr ⟨3, d84_11, rfl, rfl, rfl, trivial, trivial⟩, Or.inr ⟨1, d84_14, rfl, rfl, am_eq9 (by decide +kernel), trivial, trivial⟩, Or.inr ⟨1, d84_15, rfl, rfl, trivial, trivial, trivial⟩, trivial⟩
theorem v84 : ∀ pc, am_V9 84 pc ((am_G 84).2.2.2.2.1 pc) := am_all_lc am_V9_0 _ ⟨v84_0, trivial⟩
theorem d85_0 : decode cX7_isCell 0 = .ok (.iload_n 0, 1) := by decide +kernel
theorem d85_1 : decode cX7_isCell 1 = .ok (.iconst 0, 1) := by decide +kernel
theorem d85_2 : decode cX7_isCell 2 = .ok (.bipush 15, 2) := by decide +kernel
theorem d85_4 : decode cX7_isCell 4 = .ok (.invokestatic 52, 3) := by decide +kernel
theorem d85_7 : decode cX7_isCell 7 = .ok (.ifCond .eq 26, 3) := by decide +kernel
theorem d85_10 : decode cX7_isCell 10 = .ok (.iload_n 1, 1) := by decide +kernel
theorem d85_11 : decode cX7_isCell 11 = .ok (.iconst 0, 1) := by decide +kernel
theorem d85_12 : decode cX7_isCell 12 = .ok (.bipush 11, 2) := by decide +kernel
theorem d85_14 : decode cX7_isCell 14 = .ok (.invokestatic 52, 3) := by decide +kernel
theorem d85_17 : decode cX7_isCell 17 = .ok (.ifCond .eq 16, 3) := by decide +kernel
theorem d85_20 : decode cX7_isCell 20 = .ok (.iload_n 2, 1) := by decide +kernel
theorem d85_21 : decode cX7_isCell 21 = .ok (.iconst 0, 1) := by decide +kernel
theorem d85_22 : decode cX7_isCell 22 = .ok (.iconst 5, 1) := by decide +kernel
theorem d85_23 : decode cX7_isCell 23 = .ok (.invokestatic 52, 3) := by decide +kernel
theorem d85_26 : decode cX7_isCell 26 = .ok (.ifCond .eq 7, 3) := by decide +kernel
theorem d85_29 : decode cX7_isCell 29 = .ok (.iconst 1, 1) := by decide +kernel
theorem d85_30 : decode cX7_isCell 30 = .ok (.goto 4, 3) := by decide +kernel
theorem d85_33 : decode cX7_isCell 33 = .ok (.iconst 0, 1) := by decide +kernel
theorem d85_34 : decode cX7_isCell 34 = .ok (.ireturn, 1) := by decide +kernel
theorem v85_0 : am_all (am_V9 85) am_l85_0 := ⟨Or.inr ⟨1, d85_0, rfl, rfl, rfl, trivial, trivial⟩, Or.inr ⟨1, d85_1, rfl, rfl, am_eq9 (by decide +kernel), trivial, trivial⟩, Or.inr ⟨2, d85_2, rfl, rfl, am_eq9 (by decide +kernel), trivial, trivial⟩, Or.inr ⟨3, d85_4, rfl, rfl, trivial, trivial, Or.inr ⟨by decide, okM_84, aw_280, Or.inl ⟨rfl, aw_379⟩⟩⟩, Or.inr ⟨3, d85_7, rfl, rfl, rfl, trivial, trivial⟩, Or.inr ⟨1, d85_10, rfl, rfl, rfl, trivial, trivial⟩, Or.inr ⟨1, d85_11, rfl, rfl, am_eq9 (by decide +kernel), trivial, trivial⟩, Or.inr ⟨2, d85_12, rfl, rfl, am_eq9 (by decide +kernel), trivial, trivial⟩, Or.inr ⟨3, d85_14, rfl, rfl, trivial, trivial, Or.inr ⟨by decide, okM_84, aw_280, Or.inl ⟨rfl, aw_379⟩⟩⟩, Or.inr ⟨3, d85_17, rfl, rfl, rfl, trivial, trivial⟩, Or.inr ⟨1, d85_20, rfl, rfl, rfl, trivial, trivial⟩, Or.inr ⟨1, d85_21, rfl, rfl, am_eq9 (by decide +kernel), trivial, trivial⟩, Or.inr ⟨1, d85_22, rfl, rfl, am_eq9 (by decide +kernel), trivial, trivial⟩, Or.inr ⟨3, d85_23, rfl, rfl, trivial, trivial, Or.inr ⟨by decide, okM_84, aw_280, Or.inl ⟨rfl, aw_379⟩⟩⟩, Or.inr ⟨3, d85_26, rfl, rfl, rfl, trivial, trivial⟩, Or.inr ⟨1, d85_29, rfl, rfl, am_eq9 (by decide +kernel), trivial, trivial⟩, Or.inr ⟨3, d85_30, rfl, rfl, rfl, trivial, trivial⟩, Or.inr ⟨1, d85_33, rfl, rfl, am_eq9 (by decide +kernel), trivial, trivial⟩, Or.inr ⟨1, d85_34, rfl, rfl, trivial, trivial, trivial⟩, trivial⟩
theorem v85 : ∀ pc, am_V9 85 pc ((am_G 85).2.2.2.2.1 pc) := am_all_lc am_V9_0 _ ⟨v85_0, trivial⟩
theorem d86_0 : decode cX7_isPlace 0 = .ok (.iload_n 0, 1) := by decide +kernel
theorem d86_1 : decode cX7_isPlace 1 = .ok (.iconst 0, 1) := by decide +kernel
theorem d86_2 : decode cX7_isPlace 2 = .ok (.bipush 15, 2) := by decide +kernel
theorem d86_4 : decode cX7_isPlace 4 = .ok (.invokestatic 52, 3) := by decide +kernel
theorem d86_7 : decode cX7_isPlace 7 = .ok (.ifCond .eq 27, 3) := by decide +kernel
theorem d86_10 : decode cX7_isPlace 10 = .ok (.iload_n 1, 1) := by decide +kernel
theorem d86_11 : decode cX7_isPlace 11 = .ok (.iconst 0, 1) := by decide +kernel
theorem d86_12 : decode cX7_isPlace 12 = .ok (.bipush 11, 2) := by decide +kernel
theorem d86_14 : decode cX7_isPlace 14 = .ok (.invokestatic 52, 3) := by decide +kernel
theorem d86_17 : decode cX7_isPlace 17 = .ok (.ifCond .eq 17, 3) := by decide +kernel
theorem d86_20 : decode cX7_isPlace 20 = .ok (.iload_n 2, 1) := by decide +kernel
theorem d86_21 : decode cX7_isPlace 21 = .ok (.iconst 0, 1) := by decide +kernel
theorem d86_22 : decode cX7_isPlace 22 = .ok (.bipush 9, 2) := by decide +kernel
theorem d86_24 : decode cX7_isPlace 24 = .ok (.invokestatic 52, 3) := by decide +kernel
theorem d86_27 : decode cX7_isPlace 27 = .ok (.ifCond .eq 7, 3) := by decide +kernel
theorem d86_30 : decode cX7_isPlace 30 = .ok (.iconst 1, 1) := by decide +kernel
theorem d86_31 : decode cX7_isPlace 31 = .ok (.goto 4, 3) := by decide +kernel
theorem d86_34 : decode cX7_isPlace 34 = .ok (.iconst 0, 1) := by decide +kernel
theorem d86_35 : decode cX7_isPlace 35 = .ok (.ireturn, 1) := by decide +kernel
theorem v86_0 : am_all (am_V9 86) am_l86_0 := ⟨Or.inr ⟨1, d86_0, rfl, rfl, rfl, trivial, trivial⟩, Or.inr ⟨1, d86_1, rfl, rfl, am_eq9 (by decide +kernel), trivial, trivial⟩, Or.inr ⟨2, d86_2, rfl, rfl, am_eq9 (by decide +kernel), trivial, trivial⟩, Or.inr ⟨3, d86_4, rfl, rfl, trivial, trivial, Or.inr ⟨by decide, okM_84, aw_280, Or.inl ⟨rfl, aw_379⟩⟩⟩, Or.inr ⟨3, d86_7, rfl, rfl, rfl, trivial, trivial⟩, Or.inr ⟨1, d86_10, rfl, rfl, rfl, trivial, trivial⟩, Or.inr ⟨1, d86_11, rfl, rfl, am_eq9 (by decide +kernel), trivial, trivial⟩, Or.inr ⟨2, d86_12, rfl, rfl, am_eq9 (by decide +kernel), trivial, trivial⟩, Or.inr ⟨3, d86_14, rfl, rfl, trivial, trivial, Or.inr ⟨by decide, okM_84, aw_280, Or.inl ⟨rfl, aw_379⟩⟩⟩, Or.inr ⟨3, d86_17, rfl, rfl, rfl, trivial, trivial⟩, Or.inr ⟨1, d86_20, rfl, rfl, rfl, trivial, trivial⟩, Or.inr ⟨1, d86_21, rfl, rfl, am_eq9 (by decide +kernel), trivial, trivial⟩, Or.inr ⟨2, d86_22, rfl, rfl, am_eq9 (by decide +kernel), trivial, trivial⟩, Or.inr ⟨3, d86_24, rfl, rfl, trivial, trivial, Or.inr ⟨by decide, okM_84, aw_280, Or.inl ⟨rfl, aw_379⟩⟩⟩, Or.inr ⟨3, d86_27, rfl, rfl, rfl, trivial, trivial⟩, Or.inr ⟨1, d86_30, rfl, rfl, am_eq9 (by decide +kernel), trivial, trivial⟩, Or.inr ⟨3, d86_31, rfl, rfl, rfl, trivial, trivial⟩, Or.inr ⟨1, d86_34, rfl, rfl, am_eq9 (by decide +kernel), trivial, trivial⟩, Or.inr ⟨1, d86_35, rfl, rfl, trivial, trivial, trivial⟩, trivial⟩
theorem v86 : ∀ pc, am_V9 86 pc ((am_G 86).2.2.2.2.1 pc) := am_all_lc am_V9_0 _ ⟨v86_0, trivial⟩
theorem d87_0 : decode cX7_isSlot 0 = .ok (.iload_n 0, 1) := by decide +kernel
theorem d87_1 : decode cX7_isSlot 1 = .ok (.iconst 0, 1) := by decide +kernel
theorem d87_2 : decode cX7_isSlot 2 = .ok (.iconst 2, 1) := by decide +kernel
theorem d87_3 : decode cX7_isSlot 3 = .ok (.invokestatic 52, 3) := by decide +kernel
theorem d87_6 : decode cX7_isSlot 6 = .ok (.ifCond .eq 16, 3) := by decide +kernel
theorem d87_9 : decode cX7_isSlot 9 = .ok (.iload_n 1, 1) := by decide +kernel
theorem d87_10 : decode cX7_isSlot 10 = .ok (.iconst 0, 1) := by decide +kernel
theorem d87_11 : decode cX7_isSlot 11 = .ok (.iconst 3, 1) := by decide +kernel
theorem d87_12 : decode cX7_isSlot 12 = .ok (.invokestatic 52, 3) := by decide +kernel
theorem d87_15 : decode cX7_isSlot 15 = .ok (.ifCond .eq 7, 3) := by decide +kernel
theorem d87_18 : decode cX7_isSlot 18 = .ok (.iconst 1, 1) := by decide +kernel
theorem d87_19 : decode cX7_isSlot 19 = .ok (.goto 4, 3) := by decide +kernel
theorem d87_22 : decode cX7_isSlot 22 = .ok (.iconst 0, 1) := by decide +kernel
theorem d87_23 : decode cX7_isSlot 23 = .ok (.ireturn, 1) := by decide +kernel
theorem v87_0 : am_all (am_V9 87) am_l87_0 := ⟨Or.inr ⟨1, d87_0, rfl, rfl, rfl, trivial, trivial⟩, Or.inr ⟨1, d87_1, rfl, rfl, am_eq9 (by decide +kernel), trivial, trivial⟩, Or.inr ⟨1, d87_2, rfl, rfl, am_eq9 (by decide +kernel), trivial, trivial⟩, Or.inr ⟨3, d87_3, rfl, rfl, trivial, trivial, Or.inr ⟨by decide, okM_84, aw_280, Or.inl ⟨rfl, aw_379⟩⟩⟩, Or.inr ⟨3, d87_6, rfl, rfl, rfl, trivial, trivial⟩, Or.inr ⟨1, d87_9, rfl, rfl, rfl, trivial, trivial⟩, Or.inr ⟨1, d87_10, rfl, rfl, am_eq9 (by decide +kernel), trivial, trivial⟩, Or.inr ⟨1, d87_11, rfl, rfl, am_eq9 (by decide +kernel), trivial, trivial⟩, Or.inr ⟨3, d87_12, rfl, rfl, trivial, trivial, Or.inr ⟨by decide, okM_84, aw_280, Or.inl ⟨rfl, aw_379⟩⟩⟩, Or.inr ⟨3, d87_15, rfl, rfl, rfl, trivial, trivial⟩, Or.inr ⟨1, d87_18, rfl, rfl, am_eq9 (by decide +kernel), trivial, trivial⟩, Or.inr ⟨3, d87_19, rfl, rfl, rfl, trivial, trivial⟩, Or.inr ⟨1, d87_22, rfl, rfl, am_eq9 (by decide +kernel), trivial, trivial⟩, Or.inr ⟨1, d87_23, rfl, rfl, trivial, trivial, trivial⟩, trivial⟩
theorem v87 : ∀ pc, am_V9 87 pc ((am_G 87).2.2.2.2.1 pc) := am_all_lc am_V9_0 _ ⟨v87_0, trivial⟩
theorem d88_0 : decode cX7_slotOf 0 = .ok (.iconst 4, 1) := by decide +kernel
theorem d88_1 : decode cX7_slotOf 1 = .ok (.iload_n 0, 1) := by decide +kernel
theorem d88_2 : decode cX7_slotOf 2 = .ok (.imul, 1) := by decide +kernel
theorem d88_3 : decode cX7_slotOf 3 = .ok (.iload_n 1, 1) := by decide +kernel
theorem d88_4 : decode cX7_slotOf 4 = .ok (.iadd, 1) := by decide +kernel
theorem d88_5 : decode cX7_slotOf 5 = .ok (.ireturn, 1) := by decide +kernel
theorem v88_0 : am_all (am_V9 88) am_l88_0 := ⟨Or.inr ⟨1, d88_0, rfl, rfl, am_eq9 (by decide +kernel), trivial, trivial⟩, Or.inr ⟨1, d88_1, rfl, rfl, rfl, trivial, trivial⟩, Or.inr ⟨1, d88_2, rfl, rfl, trivial, trivial, trivial⟩, Or.inr ⟨1, d88_3, rfl, rfl, rfl, trivial, trivial⟩, Or.inr ⟨1, d88_4, rfl, rfl, trivial, trivial, trivial⟩, Or.inr ⟨1, d88_5, rfl, rfl, trivial, trivial, trivial⟩, trivial⟩
theorem v88 : ∀ pc, am_V9 88 pc ((am_G 88).2.2.2.2.1 pc) := am_all_lc am_V9_0 _ ⟨v88_0, trivial⟩
theorem d89_0 : decode cX7_isShape 0 = .ok (.iload_n 0, 1) := by decide +kernel
theorem d89_1 : decode cX7_isShape 1 = .ok (.bipush 101, 2) := by decide +kernel
theorem d89_3 : decode cX7_isShape 3 = .ok (.if_icmp .eq 15, 3) := by decide +kernel
theorem d89_6 : decode cX7_isShape 6 = .ok (.iload_n 0, 1) := by decide +kernel
theorem d89_7 : decode cX7_isShape 7 = .ok (.bipush 98, 2) := by decide +kernel
theorem d89_9 : decode cX7_isShape 9 = .ok (.if_icmp .eq 9, 3) := by decide +kernel
theorem d89_12 : decode cX7_isShape 12 = .ok (.iload_n 0, 1) := by decide +kernel
theorem d89_13 : decode cX7_isShape 13 = .ok (.bipush 118, 2) := by decide +kernel
theorem d89_15 : decode cX7_isShape 15 = .ok (.if_icmp .ne 7, 3) := by decide +kernel
theorem d89_18 : decode cX7_isShape 18 = .ok (.iconst 1, 1) := by decide +kernel
theorem d89_19 : decode cX7_isShape 19 = .ok (.goto 4, 3) := by decide +kernel
theorem d89_22 : decode cX7_isShape 22 = .ok (.iconst 0, 1) := by decide +kernel
theorem d89_23 : decode cX7_isShape 23 = .ok (.ireturn, 1) := by decide +kernel
theorem v89_0 : am_all (am_V9 89) am_l89_0 := ⟨Or.inr ⟨1, d89_0, rfl, rfl, rfl, trivial, trivial⟩, Or.inr ⟨2, d89_1, rfl, rfl, am_eq9 (by decide +kernel), trivial, trivial⟩, Or.inr ⟨3, d89_3, rfl, rfl, rfl, trivial, trivial⟩, Or.inr ⟨1, d89_6, rfl, rfl, rfl, trivial, trivial⟩, Or.inr ⟨2, d89_7, rfl, rfl, am_eq9 (by decide +kernel), trivial, trivial⟩, Or.inr ⟨3, d89_9, rfl, rfl, rfl, trivial, trivial⟩, Or.inr ⟨1, d89_12, rfl, rfl, rfl, trivial, trivial⟩, Or.inr ⟨2, d89_13, rfl, rfl, am_eq9 (by decide +kernel), trivial, trivial⟩, Or.inr ⟨3, d89_15, rfl, rfl, rfl, trivial, trivial⟩, Or.inr ⟨1, d89_18, rfl, rfl, am_eq9 (by decide +kernel), trivial, trivial⟩, Or.inr ⟨3, d89_19, rfl, rfl, rfl, trivial, trivial⟩, Or.inr ⟨1, d89_22, rfl, rfl, am_eq9 (by decide +kernel), trivial, trivial⟩, Or.inr ⟨1, d89_23, rfl, rfl, trivial, trivial, trivial⟩, trivial⟩
theorem v89 : ∀ pc, am_V9 89 pc ((am_G 89).2.2.2.2.1 pc) := am_all_lc am_V9_0 _ ⟨v89_0, trivial⟩
theorem d90_0 : decode cX7_takesShape 0 = .ok (.iload_n 0, 1) := by decide +kernel
theorem d90_1 : decode cX7_takesShape 1 = .ok (.ifCond .ne 15, 3) := by decide +kernel
theorem d90_4 : decode cX7_takesShape 4 = .ok (.iload_n 1, 1) := by decide +kernel
theorem d90_5 : decode cX7_takesShape 5 = .ok (.bipush 101, 2) := by decide +kernel
theorem d90_7 : decode cX7_takesShape 7 = .ok (.if_icmp .ne 7, 3) := by decide +kernel
theorem d90_10 : decode cX7_takesShape 10 = .ok (.iconst 1, 1) := by decide +kernel
theorem d90_11 : decode cX7_takesShape 11 = .ok (.goto 4, 3) := by decide +kernel
theorem d90_14 : decode cX7_takesShape 14 = .ok (.iconst 0, 1) := by decide +kernel
theorem d90_15 : decode cX7_takesShape 15 = .ok (.ireturn, 1) := by decide +kernel
theorem d90_16 : decode cX7_takesShape 16 = .ok (.iload_n 0, 1) := by decide +kernel
theorem d90_17 : decode cX7_takesShape 17 = .ok (.iconst 1, 1) := by decide +kernel
theorem d90_18 : decode cX7_takesShape 18 = .ok (.if_icmp .ne 9, 3) := by decide +kernel
theorem d90_21 : decode cX7_takesShape 21 = .ok (.iload_n 1, 1) := by decide +kernel
theorem d90_22 : decode cX7_takesShape 22 = .ok (.bipush 98, 2) := by decide +kernel
theorem d90_24 : decode cX7_takesShape 24 = .ok (.if_icmp .ne 7, 3) := by decide +kernel
theorem d90_27 : decode cX7_takesShape 27 = .ok (.iconst 1, 1) := by decide +kernel
theorem d90_28 : decode cX7_takesShape 28 = .ok (.goto 4, 3) := by decide +kernel
theorem d90_31 : decode cX7_takesShape 31 = .ok (.iconst 0, 1) := by decide +kernel
theorem d90_32 : decode cX7_takesShape 32 = .ok (.ireturn, 1) := by decide +kernel
theorem v90_0 : am_all (am_V9 90) am_l90_0 := ⟨Or.inr ⟨1, d90_0, rfl, rfl, rfl, trivial, trivial⟩, Or.inr ⟨3, d90_1, rfl, rfl, rfl, trivial, trivial⟩, Or.inr ⟨1, d90_4, rfl, rfl, rfl, trivial, trivial⟩, Or.inr ⟨2, d90_5, rfl, rfl, am_eq9 (by decide +kernel), trivial, trivial⟩, Or.inr ⟨3, d90_7, rfl, rfl, rfl, trivial, trivial⟩, Or.inr ⟨1, d90_10, rfl, rfl, am_eq9 (by decide +kernel), trivial, trivial⟩, Or.inr ⟨3, d90_11, rfl, rfl, rfl, trivial, trivial⟩, Or.inr ⟨1, d90_14, rfl, rfl, am_eq9 (by decide +kernel), trivial, trivial⟩, Or.inr ⟨1, d90_15, rfl, rfl, trivial, trivial, trivial⟩, Or.inr ⟨1, d90_16, rfl, rfl, rfl, trivial, trivial⟩, Or.inr ⟨1, d90_17, rfl, rfl, am_eq9 (by decide +kernel), trivial, trivial⟩, Or.inr ⟨3, d90_18, rfl, rfl, rfl, trivial, trivial⟩, Or.inr ⟨1, d90_21, rfl, rfl, rfl, trivial, trivial⟩, Or.inr ⟨2, d90_22, rfl, rfl, am_eq9 (by decide +kernel), trivial, trivial⟩, Or.inr ⟨3, d90_24, rfl, rfl, rfl, trivial, trivial⟩, Or.inr ⟨1, d90_27, rfl, rfl, am_eq9 (by decide +kernel), trivial, trivial⟩, Or.inr ⟨3, d90_28, rfl, rfl, rfl, trivial, trivial⟩, Or.inr ⟨1, d90_31, rfl, rfl, am_eq9 (by decide +kernel), trivial, trivial⟩, Or.inr ⟨1, d90_32, rfl, rfl, trivial, trivial, trivial⟩, trivial⟩
theorem v90 : ∀ pc, am_V9 90 pc ((am_G 90).2.2.2.2.1 pc) := am_all_lc am_V9_0 _ ⟨v90_0, trivial⟩
theorem d91_0 : decode cX7_isOffsetNumber 0 = .ok (.iload_n 0, 1) := by decide +kernel
theorem d91_1 : decode cX7_isOffsetNumber 1 = .ok (.bipush (-15), 2) := by decide +kernel
theorem d91_3 : decode cX7_isOffsetNumber 3 = .ok (.bipush 15, 2) := by decide +kernel
theorem d91_5 : decode cX7_isOffsetNumber 5 = .ok (.invokestatic 52, 3) := by decide +kernel
theorem d91_8 : decode cX7_isOffsetNumber 8 = .ok (.ireturn, 1) := by decide +kernel
theorem v91_0 : am_all (am_V9 91) am_l91_0 := ⟨Or.inr ⟨1, d91_0, rfl, rfl, rfl, trivial, trivial⟩, Or.inr ⟨2, d91_1, rfl, rfl, am_eq9 (by decide +kernel), trivial, trivial⟩, Or.inr ⟨2, d91_3, rfl, rfl, am_eq9 (by decide +kernel), trivial, trivial⟩, Or.inr ⟨3, d91_5, rfl, rfl, trivial, trivial, Or.inr ⟨by decide, okM_84, aw_280, Or.inl ⟨rfl, aw_379⟩⟩⟩, Or.inr ⟨1, d91_8, rfl, rfl, trivial, trivial, trivial⟩, trivial⟩
theorem v91 : ∀ pc, am_V9 91 pc ((am_G 91).2.2.2.2.1 pc) := am_all_lc am_V9_0 _ ⟨v91_0, trivial⟩
theorem d92_0 : decode cX7_isKind 0 = .ok (.iconst 0, 1) := by decide +kernel
theorem d92_1 : decode cX7_isKind 1 = .ok (.istore_n 1, 1) := by decide +kernel
theorem d92_2 : decode cX7_isKind 2 = .ok (.iload_n 1, 1) := by decide +kernel
theorem d92_3 : decode cX7_isKind 3 = .ok (.getstatic 240, 3) := by decide +kernel
theorem d92_6 : decode cX7_isKind 6 = .ok (.arraylength, 1) := by decide +kernel
theorem d92_7 : decode cX7_isKind 7 = .ok (.if_icmp .ge 20, 3) := by decide +kernel
theorem d92_10 : decode cX7_isKind 10 = .ok (.getstatic 240, 3) := by decide +kernel
theorem d92_13 : decode cX7_isKind 13 = .ok (.iload_n 1, 1) := by decide +kernel
theorem d92_14 : decode cX7_isKind 14 = .ok (.caload, 1) := by decide +kernel
theorem d92_15 : decode cX7_isKind 15 = .ok (.iload_n 0, 1) := by decide +kernel
theorem d92_16 : decode cX7_isKind 16 = .ok (.if_icmp .ne 5, 3) := by decide +kernel
theorem d92_19 : decode cX7_isKind 19 = .ok (.iconst 1, 1) := by decide +kernel
theorem d92_20 : decode cX7_isKind 20 = .ok (.ireturn, 1) := by decide +kernel
theorem d92_21 : decode cX7_isKind 21 = .ok (.iinc 1 1, 3) := by decide +kernel
theorem d92_24 : decode cX7_isKind 24 = .ok (.goto (-22), 3) := by decide +kernel
theorem d92_27 : decode cX7_isKind 27 = .ok (.iconst 0, 1) := by decide +kernel
theorem d92_28 : decode cX7_isKind 28 = .ok (.ireturn, 1) := by decide +kernel
theorem v92_0 : am_all (am_V9 92) am_l92_0 := ⟨Or.inr ⟨1, d92_0, rfl, rfl, am_eq9 (by decide +kernel), trivial, trivial⟩, Or.inr ⟨1, d92_1, rfl, rfl, rfl, trivial, trivial⟩, Or.inr ⟨1, d92_2, rfl, rfl, rfl, trivial, trivial⟩, Or.inr ⟨3, d92_3, rfl, rfl, trivial, ⟨_, _, _, rfl, Or.inl aw_770⟩, trivial⟩, Or.inr ⟨1, d92_6, rfl, rfl, trivial, trivial, trivial⟩, Or.inr ⟨3, d92_7, rfl, rfl, rfl, trivial, trivial⟩, Or.inr ⟨3, d92_10, rfl, rfl, trivial, ⟨_, _, _, rfl, Or.inl aw_770⟩, trivial⟩, Or.inr ⟨1, d92_13, rfl, rfl, rfl, trivial, trivial⟩, Or.inr ⟨1, d92_14, rfl, rfl, trivial, trivial, trivial⟩, Or.inr ⟨1, d92_15, rfl, rfl, rfl, trivial, trivial⟩, Or.inr ⟨3, d92_16, rfl, rfl, rfl, trivial, trivial⟩, Or.inr ⟨1, d92_19, rfl, rfl, am_eq9 (by decide +kernel), trivial, trivial⟩, Or.inr ⟨1, d92_20, rfl, rfl, trivial, trivial, trivial⟩, Or.inr ⟨3, d92_21, rfl, rfl, ⟨rfl, by decide⟩, trivial, trivial⟩, Or.inr ⟨3, d92_24, rfl, rfl, rfl, trivial, trivial⟩, Or.inr ⟨1, d92_27, rfl, rfl, am_eq9 (by decide +kernel), trivial, trivial⟩, Or.inr ⟨1, d92_28, rfl, rfl, trivial, trivial, trivial⟩, trivial⟩
theorem v92 : ∀ pc, am_V9 92 pc ((am_G 92).2.2.2.2.1 pc) := am_all_lc am_V9_0 _ ⟨v92_0, trivial⟩
theorem d93_0 : decode cX7_isTerm 0 = .ok (.iload_n 0, 1) := by decide +kernel
theorem d93_1 : decode cX7_isTerm 1 = .ok (.bipush (-50), 2) := by decide +kernel
theorem d93_3 : decode cX7_isTerm 3 = .ok (.bipush 50, 2) := by decide +kernel
theorem d93_5 : decode cX7_isTerm 5 = .ok (.invokestatic 52, 3) := by decide +kernel
theorem d93_8 : decode cX7_isTerm 8 = .ok (.ifCond .ne 14, 3) := by decide +kernel
theorem d93_11 : decode cX7_isTerm 11 = .ok (.iload_n 0, 1) := by decide +kernel
theorem d93_12 : decode cX7_isTerm 12 = .ok (.bipush 100, 2) := by decide +kernel
theorem d93_14 : decode cX7_isTerm 14 = .ok (.bipush 107, 2) := by decide +kernel
theorem d93_16 : decode cX7_isTerm 16 = .ok (.invokestatic 52, 3) := by decide +kernel
theorem d93_19 : decode cX7_isTerm 19 = .ok (.ifCond .eq 7, 3) := by decide +kernel
theorem d93_22 : decode cX7_isTerm 22 = .ok (.iconst 1, 1) := by decide +kernel
theorem d93_23 : decode cX7_isTerm 23 = .ok (.goto 4, 3) := by decide +kernel
theorem d93_26 : decode cX7_isTerm 26 = .ok (.iconst 0, 1) := by decide +kernel
theorem d93_27 : decode cX7_isTerm 27 = .ok (.ireturn, 1) := by decide +kernel
theorem v93_0 : am_all (am_V9 93) am_l93_0 := ⟨Or.inr ⟨1, d93_0, rfl, rfl, rfl, trivial, trivial⟩, Or.inr ⟨2, d93_1, rfl, rfl, am_eq9 (by decide +kernel), trivial, trivial⟩, Or.inr ⟨2, d93_3, rfl, rfl, am_eq9 (by decide +kernel), trivial, trivial⟩, Or.inr ⟨3, d93_5, rfl, rfl, trivial, trivial, Or.inr ⟨by decide, okM_84, aw_280, Or.inl ⟨rfl, aw_379⟩⟩⟩, Or.inr ⟨3, d93_8, rfl, rfl, rfl, trivial, trivial⟩, Or.inr ⟨1, d93_11, rfl, rfl, rfl, trivial, trivial⟩, Or.inr ⟨2, d93_12, rfl, rfl, am_eq9 (by decide +kernel), trivial, trivial⟩, Or.inr ⟨2, d93_14, rfl, rfl, am_eq9 (by decide +kernel), trivial, trivial⟩, Or.inr ⟨3, d93_16, rfl, rfl, trivial, trivial, Or.inr ⟨by decide, okM_84, aw_280, Or.inl ⟨rfl, aw_379⟩⟩⟩, Or.inr ⟨3, d93_19, rfl, rfl, rfl, trivial, trivial⟩, Or.inr ⟨1, d93_22, rfl, rfl, am_eq9 (by decide +kernel), trivial, trivial⟩, Or.inr ⟨3, d93_23, rfl, rfl, rfl, trivial, trivial⟩, Or.inr ⟨1, d93_26, rfl, rfl, am_eq9 (by decide +kernel), trivial, trivial⟩, Or.inr ⟨1, d93_27, rfl, rfl, trivial, trivial, trivial⟩, trivial⟩
theorem v93 : ∀ pc, am_V9 93 pc ((am_G 93).2.2.2.2.1 pc) := am_all_lc am_V9_0 _ ⟨v93_0, trivial⟩
theorem d94_0 : decode cX7_bitsOf 0 = .ok (.fload_n 0, 1) := by decide +kernel
theorem d94_1 : decode cX7_bitsOf 1 = .ok (.fconst 0, 1) := by decide +kernel
theorem d94_2 : decode cX7_bitsOf 2 = .ok (.fcmp .g, 1) := by decide +kernel
theorem d94_3 : decode cX7_bitsOf 3 = .ok (.ifCond .gt 5, 3) := by decide +kernel
theorem d94_6 : decode cX7_bitsOf 6 = .ok (.iconst 0, 1) := by decide +kernel
theorem d94_7 : decode cX7_bitsOf 7 = .ok (.ireturn, 1) := by decide +kernel
theorem d94_8 : decode cX7_bitsOf 8 = .ok (.fload_n 0, 1) := by decide +kernel
theorem d94_9 : decode cX7_bitsOf 9 = .ok (.fstore_n 1, 1) := by decide +kernel
theorem d94_10 : decode cX7_bitsOf 10 = .ok (.bipush 127, 2) := by decide +kernel
theorem d94_12 : decode cX7_bitsOf 12 = .ok (.istore_n 2, 1) := by decide +kernel
theorem d94_13 : decode cX7_bitsOf 13 = .ok (.iconst 0, 1) := by decide +kernel
theorem d94_14 : decode cX7_bitsOf 14 = .ok (.istore_n 3, 1) := by decide +kernel
theorem d94_15 : decode cX7_bitsOf 15 = .ok (.iload_n 3, 1) := by decide +kernel
theorem d94_16 : decode cX7_bitsOf 16 = .ok (.bipush 127, 2) := by decide +kernel
theorem d94_18 : decode cX7_bitsOf 18 = .ok (.if_icmp .ge 22, 3) := by decide +kernel
theorem d94_21 : decode cX7_bitsOf 21 = .ok (.fload_n 1, 1) := by decide +kernel
theorem d94_22 : decode cX7_bitsOf 22 = .ok (.fconst 2, 1) := by decide +kernel
theorem d94_23 : decode cX7_bitsOf 23 = .ok (.fcmp .l, 1) := by decide +kernel
theorem d94_24 : decode cX7_bitsOf 24 = .ok (.ifCond .lt 16, 3) := by decide +kernel
theorem d94_27 : decode cX7_bitsOf 27 = .ok (.fload_n 1, 1) := by decide +kernel
theorem d94_28 : decode cX7_bitsOf 28 = .ok (.fconst 2, 1) := by decide +kernel
theorem d94_29 : decode cX7_bitsOf 29 = .ok (.fdiv, 1) := by decide +kernel
theorem d94_30 : decode cX7_bitsOf 30 = .ok (.fstore_n 1, 1) := by decide +kernel
theorem d94_31 : decode cX7_bitsOf 31 = .ok (.iinc 2 1, 3) := by decide +kernel
theorem d94_34 : decode cX7_bitsOf 34 = .ok (.iinc 3 1, 3) := by decide +kernel
theorem d94_37 : decode cX7_bitsOf 37 = .ok (.goto (-22), 3) := by decide +kernel
theorem d94_40 : decode cX7_bitsOf 40 = .ok (.iconst 0, 1) := by decide +kernel
theorem d94_41 : decode cX7_bitsOf 41 = .ok (.istore_n 3, 1) := by decide +kernel
theorem d94_42 : decode cX7_bitsOf 42 = .ok (.iload_n 3, 1) := by decide +kernel
theorem d94_43 : decode cX7_bitsOf 43 = .ok (.bipush 126, 2) := by decide +kernel
theorem d94_45 : decode cX7_bitsOf 45 = .ok (.if_icmp .ge 22, 3) := by decide +kernel
theorem d94_48 : decode cX7_bitsOf 48 = .ok (.fload_n 1, 1) := by decide +kernel
theorem d94_49 : decode cX7_bitsOf 49 = .ok (.fconst 1, 1) := by decide +kernel
theorem d94_50 : decode cX7_bitsOf 50 = .ok (.fcmp .g, 1) := by decide +kernel
theorem d94_51 : decode cX7_bitsOf 51 = .ok (.ifCond .ge 16, 3) := by decide +kernel
theorem d94_54 : decode cX7_bitsOf 54 = .ok (.fload_n 1, 1) := by decide +kernel
theorem d94_55 : decode cX7_bitsOf 55 = .ok (.fconst 2, 1) := by decide +kernel
theorem d94_56 : decode cX7_bitsOf 56 = .ok (.fmul, 1) := by decide +kernel
theorem d94_57 : decode cX7_bitsOf 57 = .ok (.fstore_n 1, 1) := by decide +kernel
theorem d94_58 : decode cX7_bitsOf 58 = .ok (.iinc 2 (-1), 3) := by decide +kernel
theorem d94_61 : decode cX7_bitsOf 61 = .ok (.iinc 3 1, 3) := by decide +kernel
theorem d94_64 : decode cX7_bitsOf 64 = .ok (.goto (-22), 3) := by decide +kernel
theorem d94_67 : decode cX7_bitsOf 67 = .ok (.iload_n 2, 1) := by decide +kernel
theorem d94_68 : decode cX7_bitsOf 68 = .ok (.bipush 23, 2) := by decide +kernel
theorem d94_70 : decode cX7_bitsOf 70 = .ok (.ishl, 1) := by decide +kernel
theorem d94_71 : decode cX7_bitsOf 71 = .ok (.fload_n 1, 1) := by decide +kernel
theorem d94_72 : decode cX7_bitsOf 72 = .ok (.fconst 1, 1) := by decide +kernel
theorem d94_73 : decode cX7_bitsOf 73 = .ok (.fsub, 1) := by decide +kernel
theorem d94_74 : decode cX7_bitsOf 74 = .ok (.ldc 244, 2) := by decide +kernel
theorem d94_76 : decode cX7_bitsOf 76 = .ok (.fmul, 1) := by decide +kernel
theorem d94_77 : decode cX7_bitsOf 77 = .ok (.f2i, 1) := by decide +kernel
theorem d94_78 : decode cX7_bitsOf 78 = .ok (.iadd, 1) := by decide +kernel
theorem d94_79 : decode cX7_bitsOf 79 = .ok (.ireturn, 1) := by decide +kernel
theorem v94_0 : am_all (am_V9 94) am_l94_0 := ⟨Or.inr ⟨1, d94_0, rfl, rfl, rfl, trivial, trivial⟩, Or.inr ⟨1, d94_1, rfl, rfl, trivial, trivial, trivial⟩, Or.inr ⟨1, d94_2, rfl, rfl, trivial, trivial, trivial⟩, Or.inr ⟨3, d94_3, rfl, rfl, rfl, trivial, trivial⟩, Or.inr ⟨1, d94_6, rfl, rfl, am_eq9 (by decide +kernel), trivial, trivial⟩, Or.inr ⟨1, d94_7, rfl, rfl, trivial, trivial, trivial⟩, Or.inr ⟨1, d94_8, rfl, rfl, rfl, trivial, trivial⟩, Or.inr ⟨1, d94_9, rfl, rfl, rfl, trivial, trivial⟩, Or.inr ⟨2, d94_10, rfl, rfl, am_eq9 (by decide +kernel), trivial, trivial⟩, Or.inr ⟨1, d94_12, rfl, rfl, rfl, trivial, trivial⟩, Or.inr ⟨1, d94_13, rfl, rfl, am_eq9 (by decide +kernel), trivial, trivial⟩, Or.inr ⟨1, d94_14, rfl, rfl, rfl, trivial, trivial⟩, Or.inr ⟨1, d94_15, rfl, rfl, rfl, trivial, trivial⟩, Or.inr ⟨2, d94_16, rfl, rfl, am_eq9 (by decide +kernel), trivial, trivial⟩, Or.inr ⟨3, d94_18, rfl, rfl, rfl, trivial, trivial⟩, Or.inr ⟨1, d94_21, rfl, rfl, rfl, trivial, trivial⟩, Or.inr ⟨1, d94_22, rfl, rfl, trivial, trivial, trivial⟩, Or.inr ⟨1, d94_23, rfl, rfl, trivial, trivial, trivial⟩, Or.inr ⟨3, d94_24, rfl, rfl, rfl, trivial, trivial⟩, Or.inr ⟨1, d94_27, rfl, rfl, rfl, trivial, trivial⟩, Or.inr ⟨1, d94_28, rfl, rfl, trivial, trivial, trivial⟩, Or.inr ⟨1, d94_29, rfl, rfl, trivial, trivial, trivial⟩, Or.inr ⟨1, d94_30, rfl, rfl, rfl, trivial, trivial⟩, Or.inr ⟨3, d94_31, rfl, rfl, ⟨rfl, by decide⟩, trivial, trivial⟩, trivial⟩
theorem v94_1 : am_all (am_V9 94) am_l94_1 := ⟨Or.inr ⟨3, d94_34, rfl, rfl, ⟨rfl, by decide⟩, trivial, trivial⟩, Or.inr ⟨3, d94_37, rfl, rfl, rfl, trivial, trivial⟩, Or.inr ⟨1, d94_40, rfl, rfl, am_eq9 (by decide +kernel), trivial, trivial⟩, Or.inr ⟨1, d94_41, rfl, rfl, rfl, trivial, trivial⟩, Or.inr ⟨1, d94_42, rfl, rfl, rfl, trivial, trivial⟩, Or.inr ⟨2, d94_43, rfl, rfl, am_eq9 (by decide +kernel), trivial, trivial⟩, Or.inr ⟨3, d94_45, rfl, rfl, rfl, trivial, trivial⟩, Or.inr ⟨1, d94_48, rfl, rfl, rfl, trivial, trivial⟩, Or.inr ⟨1, d94_49, rfl, rfl, trivial, trivial, trivial⟩, Or.inr ⟨1, d94_50, rfl, rfl, trivial, trivial, trivial⟩, Or.inr ⟨3, d94_51, rfl, rfl, rfl, trivial, trivial⟩, Or.inr ⟨1, d94_54, rfl, rfl, rfl, trivial, trivial⟩, Or.inr ⟨1, d94_55, rfl, rfl, trivial, trivial, trivial⟩, Or.inr ⟨1, d94_56, rfl, rfl, trivial, trivial, trivial⟩, Or.inr ⟨1, d94_57, rfl, rfl, rfl, trivial, trivial⟩, Or.inr ⟨3, d94_58, rfl, rfl, ⟨rfl, by decide⟩, trivial, trivial⟩, Or.inr ⟨3, d94_61, rfl, rfl, ⟨rfl, by decide⟩, trivial, trivial⟩, Or.inr ⟨3, d94_64, rfl, rfl, rfl, trivial, trivial⟩, Or.inr ⟨1, d94_67, rfl, rfl, rfl, trivial, trivial⟩, Or.inr ⟨2, d94_68, rfl, rfl, am_eq9 (by decide +kernel), trivial, trivial⟩, Or.inr ⟨1, d94_70, rfl, rfl, trivial, trivial, trivial⟩, Or.inr ⟨1, d94_71, rfl, rfl, rfl, trivial, trivial⟩, Or.inr ⟨1, d94_72, rfl, rfl, trivial, trivial, trivial⟩, Or.inr ⟨1, d94_73, rfl, rfl, trivial, trivial, trivial⟩, trivial⟩
theorem v94_2 : am_all (am_V9 94) am_l94_2 := ⟨Or.inr ⟨2, d94_74, rfl, rfl, ⟨fun h => absurd h (by decide), fun _ => aw_348⟩, trivial, trivial⟩, Or.inr ⟨1, d94_76, rfl, rfl, trivial, trivial, trivial⟩, Or.inr ⟨1, d94_77, rfl, rfl, trivial, trivial, trivial⟩, Or.inr ⟨1, d94_78, rfl, rfl, trivial, trivial, trivial⟩, Or.inr ⟨1, d94_79, rfl, rfl, trivial, trivial, trivial⟩, trivial⟩
theorem v94 : ∀ pc, am_V9 94 pc ((am_G 94).2.2.2.2.1 pc) := am_all_lc am_V9_0 _ ⟨v94_0, v94_1, v94_2, trivial⟩
theorem d95_0 : decode cX8_init 0 = .ok (.aload_n 0, 1) := by decide +kernel
theorem d95_1 : decode cX8_init 1 = .ok (.invokespecial 1, 3) := by decide +kernel
theorem d95_4 : decode cX8_init 4 = .ok (.aload_n 0, 1) := by decide +kernel
theorem d95_5 : decode cX8_init 5 = .ok (.bipush 12, 2) := by decide +kernel
theorem d95_7 : decode cX8_init 7 = .ok (.newarray .char, 2) := by decide +kernel
theorem d95_9 : decode cX8_init 9 = .ok (.putfield 7, 3) := by decide +kernel
theorem d95_12 : decode cX8_init 12 = .ok (.aload_n 0, 1) := by decide +kernel
theorem d95_13 : decode cX8_init 13 = .ok (.bipush 64, 2) := by decide +kernel
theorem d95_15 : decode cX8_init 15 = .ok (.newarray .char, 2) := by decide +kernel
theorem d95_17 : decode cX8_init 17 = .ok (.putfield 13, 3) := by decide +kernel
theorem d95_20 : decode cX8_init 20 = .ok (.aload_n 0, 1) := by decide +kernel
theorem d95_21 : decode cX8_init 21 = .ok (.bipush 12, 2) := by decide +kernel
theorem d95_23 : decode cX8_init 23 = .ok (.newarray .int, 2) := by decide +kernel
theorem d95_25 : decode cX8_init 25 = .ok (.putfield 16, 3) := by decide +kernel
theorem d95_28 : decode cX8_init 28 = .ok (.aload_n 0, 1) := by decide +kernel
theorem d95_29 : decode cX8_init 29 = .ok (.bipush 12, 2) := by decide +kernel
theorem d95_31 : decode cX8_init 31 = .ok (.newarray .int, 2) := by decide +kernel
theorem d95_33 : decode cX8_init 33 = .ok (.putfield 20, 3) := by decide +kernel
theorem d95_36 : decode cX8_init 36 = .ok (.aload_n 0, 1) := by decide +kernel
theorem d95_37 : decode cX8_init 37 = .ok (.bipush 12, 2) := by decide +kernel
theorem d95_39 : decode cX8_init 39 = .ok (.newarray .int, 2) := by decide +kernel
theorem d95_41 : decode cX8_init 41 = .ok (.putfield 23, 3) := by decide +kernel
theorem d95_44 : decode cX8_init 44 = .ok (.aload_n 0, 1) := by decide +kernel
theorem d95_45 : decode cX8_init 45 = .ok (.bipush 64, 2) := by decide +kernel
theorem d95_47 : decode cX8_init 47 = .ok (.newarray .int, 2) := by decide +kernel
theorem d95_49 : decode cX8_init 49 = .ok (.putfield 26, 3) := by decide +kernel
theorem d95_52 : decode cX8_init 52 = .ok (.aload_n 0, 1) := by decide +kernel
theorem d95_53 : decode cX8_init 53 = .ok (.bipush 64, 2) := by decide +kernel
theorem d95_55 : decode cX8_init 55 = .ok (.newarray .int, 2) := by decide +kernel
theorem d95_57 : decode cX8_init 57 = .ok (.putfield 29, 3) := by decide +kernel
theorem d95_60 : decode cX8_init 60 = .ok (.aload_n 0, 1) := by decide +kernel
theorem d95_61 : decode cX8_init 61 = .ok (.bipush 64, 2) := by decide +kernel
theorem d95_63 : decode cX8_init 63 = .ok (.newarray .int, 2) := by decide +kernel
theorem d95_65 : decode cX8_init 65 = .ok (.putfield 32, 3) := by decide +kernel
theorem d95_68 : decode cX8_init 68 = .ok (.aload_n 0, 1) := by decide +kernel
theorem d95_69 : decode cX8_init 69 = .ok (.bipush 64, 2) := by decide +kernel
theorem d95_71 : decode cX8_init 71 = .ok (.newarray .int, 2) := by decide +kernel
theorem d95_73 : decode cX8_init 73 = .ok (.putfield 35, 3) := by decide +kernel
theorem d95_76 : decode cX8_init 76 = .ok (.aload_n 0, 1) := by decide +kernel
theorem d95_77 : decode cX8_init 77 = .ok (.bipush 8, 2) := by decide +kernel
theorem d95_79 : decode cX8_init 79 = .ok (.newarray .int, 2) := by decide +kernel
theorem d95_81 : decode cX8_init 81 = .ok (.putfield 38, 3) := by decide +kernel
theorem d95_84 : decode cX8_init 84 = .ok (.aload_n 0, 1) := by decide +kernel
theorem d95_85 : decode cX8_init 85 = .ok (.bipush 12, 2) := by decide +kernel
theorem d95_87 : decode cX8_init 87 = .ok (.newarray .int, 2) := by decide +kernel
theorem d95_89 : decode cX8_init 89 = .ok (.putfield 41, 3) := by decide +kernel
theorem d95_92 : decode cX8_init 92 = .ok (.aload_n 0, 1) := by decide +kernel
theorem d95_93 : decode cX8_init 93 = .ok (.iconst 3, 1) := by decide +kernel
theorem d95_94 : decode cX8_init 94 = .ok (.newarray .int, 2) := by decide +kernel
theorem d95_96 : decode cX8_init 96 = .ok (.putfield 44, 3) := by decide +kernel
theorem d95_99 : decode cX8_init 99 = .ok (.aload_n 0, 1) := by decide +kernel
theorem d95_100 : decode cX8_init 100 = .ok (.iconst 3, 1) := by decide +kernel
theorem d95_101 : decode cX8_init 101 = .ok (.newarray .int, 2) := by decide +kernel
theorem d95_103 : decode cX8_init 103 = .ok (.putfield 47, 3) := by decide +kernel
theorem d95_106 : decode cX8_init 106 = .ok (.aload_n 0, 1) := by decide +kernel
theorem d95_107 : decode cX8_init 107 = .ok (.sipush 1152, 3) := by decide +kernel
theorem d95_110 : decode cX8_init 110 = .ok (.newarray .boolean, 2) := by decide +kernel
theorem d95_112 : decode cX8_init 112 = .ok (.putfield 50, 3) := by decide +kernel
theorem d95_115 : decode cX8_init 115 = .ok (.aload_n 0, 1) := by decide +kernel
theorem d95_116 : decode cX8_init 116 = .ok (.sipush 1152, 3) := by decide +kernel
theorem d95_119 : decode cX8_init 119 = .ok (.newarray .boolean, 2) := by decide +kernel
theorem d95_121 : decode cX8_init 121 = .ok (.putfield 54, 3) := by decide +kernel
theorem d95_124 : decode cX8_init 124 = .ok (.aload_n 0, 1) := by decide +kernel
theorem d95_125 : decode cX8_init 125 = .ok (.iconst 0, 1) := by decide +kernel
theorem d95_126 : decode cX8_init 126 = .ok (.putfield 57, 3) := by decide +kernel
theorem d95_129 : decode cX8_init 129 = .ok (.aload_n 0, 1) := by decide +kernel
theorem d95_130 : decode cX8_init 130 = .ok (.iconst 0, 1) := by decide +kernel
theorem d95_131 : decode cX8_init 131 = .ok (.putfield 61, 3) := by decide +kernel
theorem d95_134 : decode cX8_init 134 = .ok (.aload_n 0, 1) := by decide +kernel
theorem d95_135 : decode cX8_init 135 = .ok (.iconst 0, 1) := by decide +kernel
theorem d95_136 : decode cX8_init 136 = .ok (.putfield 64, 3) := by decide +kernel
theorem d95_139 : decode cX8_init 139 = .ok (.aload_n 0, 1) := by decide +kernel
theorem d95_140 : decode cX8_init 140 = .ok (.iconst 0, 1) := by decide +kernel
theorem d95_141 : decode cX8_init 141 = .ok (.putfield 67, 3) := by decide +kernel
theorem d95_144 : decode cX8_init 144 = .ok (.aload_n 0, 1) := by decide +kernel
theorem d95_145 : decode cX8_init 145 = .ok (.iconst (-1), 1) := by decide +kernel
theorem d95_146 : decode cX8_init 146 = .ok (.putfield 70, 3) := by decide +kernel
theorem d95_149 : decode cX8_init 149 = .ok (.aload_n 0, 1) := by decide +kernel
theorem d95_150 : decode cX8_init 150 = .ok (.bipush 10, 2) := by decide +kernel
theorem d95_152 : decode cX8_init 152 = .ok (.putfield 73, 3) := by decide +kernel
theorem d95_155 : decode cX8_init 155 = .ok (.aload_n 0, 1) := by decide +kernel
theorem d95_156 : decode cX8_init 156 = .ok (.iconst 0, 1) := by decide +kernel
theorem d95_157 : decode cX8_init 157 = .ok (.putfield 76, 3) := by decide +kernel
theorem d95_160 : decode cX8_init 160 = .ok (.aload_n 0, 1) := by decide +kernel
theorem d95_161 : decode cX8_init 161 = .ok (.iconst 0, 1) := by decide +kernel
theorem d95_162 : decode cX8_init 162 = .ok (.putfield 79, 3) := by decide +kernel
theorem d95_165 : decode cX8_init 165 = .ok (.aload_n 0, 1) := by decide +kernel
theorem d95_166 : decode cX8_init 166 = .ok (.iconst 0, 1) := by decide +kernel
theorem d95_167 : decode cX8_init 167 = .ok (.putfield 83, 3) := by decide +kernel
theorem d95_170 : decode cX8_init 170 = .ok (.aload_n 0, 1) := by decide +kernel
theorem d95_171 : decode cX8_init 171 = .ok (.fconst 0, 1) := by decide +kernel
theorem d95_172 : decode cX8_init 172 = .ok (.putfield 86, 3) := by decide +kernel
theorem d95_175 : decode cX8_init 175 = .ok (.aload_n 0, 1) := by decide +kernel
theorem d95_176 : decode cX8_init 176 = .ok (.bipush 45, 2) := by decide +kernel
theorem d95_178 : decode cX8_init 178 = .ok (.putfield 90, 3) := by decide +kernel
theorem d95_181 : decode cX8_init 181 = .ok (.aload_n 0, 1) := by decide +kernel
theorem d95_182 : decode cX8_init 182 = .ok (.bipush 32, 2) := by decide +kernel
theorem d95_184 : decode cX8_init 184 = .ok (.putfield 94, 3) := by decide +kernel
theorem d95_187 : decode cX8_init 187 = .ok (.iconst 0, 1) := by decide +kernel
theorem d95_188 : decode cX8_init 188 = .ok (.istore_n 1, 1) := by decide +kernel
theorem d95_189 : decode cX8_init 189 = .ok (.iload_n 1, 1) := by decide +kernel
theorem d95_190 : decode cX8_init 190 = .ok (.bipush 12, 2) := by decide +kernel
theorem d95_192 : decode cX8_init 192 = .ok (.if_icmp .ge 17, 3) := by decide +kernel
theorem d95_195 : decode cX8_init 195 = .ok (.aload_n 0, 1) := by decide +kernel
theorem d95_196 : decode cX8_init 196 = .ok (.getfield 7, 3) := by decide +kernel
theorem d95_199 : decode cX8_init 199 = .ok (.iload_n 1, 1) := by decide +kernel
theorem d95_200 : decode cX8_init 200 = .ok (.bipush 45, 2) := by decide +kernel
theorem d95_202 : decode cX8_init 202 = .ok (.castore, 1) := by decide +kernel
theorem d95_203 : decode cX8_init 203 = .ok (.iinc 1 1, 3) := by decide +kernel
theorem d95_206 : decode cX8_init 206 = .ok (.goto (-17), 3) := by decide +kernel
theorem d95_209 : decode cX8_init 209 = .ok (.aload_n 0, 1) := by decide +kernel
theorem d95_210 : decode cX8_init 210 = .ok (.invokevirtual 97, 3) := by decide +kernel
theorem d95_213 : decode cX8_init 213 = .ok (.return_, 1) := by decide +kernel
theorem v95_0 : am_all (am_V9 95) am_l95_0 := ⟨Or.inr ⟨1, d95_0, rfl, rfl, rfl, trivial, trivial⟩, Or.inr ⟨3, d95_1, rfl, rfl, trivial, trivial, Or.inl ⟨rfl, aw_917, aw_31, aw_32⟩⟩, Or.inr ⟨1, d95_4, rfl, rfl, rfl, trivial, trivial⟩, Or.inr ⟨2, d95_5, rfl, rfl, am_eq9 (by decide +kernel), trivial, trivial⟩, Or.inr ⟨2, d95_7, rfl, rfl, trivial, ⟨rfl, aw_58⟩, trivial⟩, Or.inr ⟨3, d95_9, rfl, rfl, trivial, ⟨RX8, TX8, 27, rfl, by decide, aw_922, Or.inr ⟨rfl, rfl, rfl⟩⟩, trivial⟩, Or.inr ⟨1, d95_12, rfl, rfl, rfl, trivial, trivial⟩, Or.inr ⟨2, d95_13, rfl, rfl, am_eq9 (by decide +kernel), trivial, trivial⟩, Or.inr ⟨2, d95_15, rfl, rfl, trivial, ⟨rfl, aw_58⟩, trivial⟩, Or.inr ⟨3, d95_17, rfl, rfl, trivial, ⟨RX8, TX8, 27, rfl, by decide, aw_923, Or.inr ⟨rfl, rfl, rfl⟩⟩, trivial⟩, Or.inr ⟨1, d95_20, rfl, rfl, rfl, trivial, trivial⟩, Or.inr ⟨2, d95_21, rfl, rfl, am_eq9 (by decide +kernel), trivial, trivial⟩, Or.inr ⟨2, d95_23, rfl, rfl, trivial, ⟨rfl, aw_59⟩, trivial⟩, Or.inr ⟨3, d95_25, rfl, rfl, trivial, ⟨RX8, TX8, 27, rfl, by decide, aw_924, Or.inr ⟨rfl, rfl, rfl⟩⟩, trivial⟩, Or.inr ⟨1, d95_28, rfl, rfl, rfl, trivial, trivial⟩, Or.inr ⟨2, d95_29, rfl, rfl, am_eq9 (by decide +kernel), trivial, trivial⟩, Or.inr ⟨2, d95_31, rfl, rfl, trivial, ⟨rfl, aw_59⟩, trivial⟩, Or.inr ⟨3, d95_33, rfl, rfl, trivial, ⟨RX8, TX8, 27, rfl, by decide, aw_925, Or.inr ⟨rfl, rfl, rfl⟩⟩, trivial⟩, Or.inr ⟨1, d95_36, rfl, rfl, rfl, trivial, trivial⟩, Or.inr ⟨2, d95_37, rfl, rfl, am_eq9 (by decide +kernel), trivial, trivial⟩, Or.inr ⟨2, d95_39, rfl, rfl, trivial, ⟨rfl, aw_59⟩, trivial⟩, Or.inr ⟨3, d95_41, rfl, rfl, trivial, ⟨RX8, TX8, 27, rfl, by decide, aw_926, Or.inr ⟨rfl, rfl, rfl⟩⟩, trivial⟩, Or.inr ⟨1, d95_44, rfl, rfl, rfl, trivial, trivial⟩, Or.inr ⟨2, d95_45, rfl, rfl, am_eq9 (by decide +kernel), trivial, trivial⟩, trivial⟩
theorem v95_1 : am_all (am_V9 95) am_l95_1 := ⟨Or.inr ⟨2, d95_47, rfl, rfl, trivial, ⟨rfl, aw_59⟩, trivial⟩, Or.inr ⟨3, d95_49, rfl, rfl, trivial, ⟨RX8, TX8, 27, rfl, by decide, aw_927, Or.inr ⟨rfl, rfl, rfl⟩⟩, trivial⟩, Or.inr ⟨1, d95_52, rfl, rfl, rfl, trivial, trivial⟩, Or.inr ⟨2, d95_53, rfl, rfl, am_eq9 (by decide +kernel), trivial, trivial⟩, Or.inr ⟨2, d95_55, rfl, rfl, trivial, ⟨rfl, aw_59⟩, trivial⟩, Or.inr ⟨3, d95_57, rfl, rfl, trivial, ⟨RX8, TX8, 27, rfl, by decide, aw_928, Or.inr ⟨rfl, rfl, rfl⟩⟩, trivial⟩, Or.inr ⟨1, d95_60, rfl, rfl, rfl, trivial, trivial⟩, Or.inr ⟨2, d95_61, rfl, rfl, am_eq9 (by decide +kernel), trivial, trivial⟩, Or.inr ⟨2, d95_63, rfl, rfl, trivial, ⟨rfl, aw_59⟩, trivial⟩, Or.inr ⟨3, d95_65, rfl, rfl, trivial, ⟨RX8, TX8, 27, rfl, by decide, aw_929, Or.inr ⟨rfl, rfl, rfl⟩⟩, trivial⟩, Or.inr ⟨1, d95_68, rfl, rfl, rfl, trivial, trivial⟩, Or.inr ⟨2, d95_69, rfl, rfl, am_eq9 (by decide +kernel), trivial, trivial⟩, Or.inr ⟨2, d95_71, rfl, rfl, trivial, ⟨rfl, aw_59⟩, trivial⟩, Or.inr ⟨3, d95_73, rfl, rfl, trivial, ⟨RX8, TX8, 27, rfl, by decide, aw_930, Or.inr ⟨rfl, rfl, rfl⟩⟩, trivial⟩, Or.inr ⟨1, d95_76, rfl, rfl, rfl, trivial, trivial⟩, Or.inr ⟨2, d95_77, rfl, rfl, am_eq9 (by decide +kernel), trivial, trivial⟩, Or.inr ⟨2, d95_79, rfl, rfl, trivial, ⟨rfl, aw_59⟩, trivial⟩, Or.inr ⟨3, d95_81, rfl, rfl, trivial, ⟨RX8, TX8, 27, rfl, by decide, aw_931, Or.inr ⟨rfl, rfl, rfl⟩⟩, trivial⟩, Or.inr ⟨1, d95_84, rfl, rfl, rfl, trivial, trivial⟩, Or.inr ⟨2, d95_85, rfl, rfl, am_eq9 (by decide +kernel), trivial, trivial⟩, Or.inr ⟨2, d95_87, rfl, rfl, trivial, ⟨rfl, aw_59⟩, trivial⟩, Or.inr ⟨3, d95_89, rfl, rfl, trivial, ⟨RX8, TX8, 27, rfl, by decide, aw_932, Or.inr ⟨rfl, rfl, rfl⟩⟩, trivial⟩, Or.inr ⟨1, d95_92, rfl, rfl, rfl, trivial, trivial⟩, Or.inr ⟨1, d95_93, rfl, rfl, am_eq9 (by decide +kernel), trivial, trivial⟩, trivial⟩
theorem v95_2 : am_all (am_V9 95) am_l95_2 := ⟨Or.inr ⟨2, d95_94, rfl, rfl, trivial, ⟨rfl, aw_59⟩, trivial⟩, Or.inr ⟨3, d95_96, rfl, rfl, trivial, ⟨RX8, TX8, 27, rfl, by decide, aw_933, Or.inr ⟨rfl, rfl, rfl⟩⟩, trivial⟩, Or.inr ⟨1, d95_99, rfl, rfl, rfl, trivial, trivial⟩, Or.inr ⟨1, d95_100, rfl, rfl, am_eq9 (by decide +kernel), trivial, trivial⟩, Or.inr ⟨2, d95_101, rfl, rfl, trivial, ⟨rfl, aw_59⟩, trivial⟩, Or.inr ⟨3, d95_103, rfl, rfl, trivial, ⟨RX8, TX8, 27, rfl, by decide, aw_934, Or.inr ⟨rfl, rfl, rfl⟩⟩, trivial⟩, Or.inr ⟨1, d95_106, rfl, rfl, rfl, trivial, trivial⟩, Or.inr ⟨3, d95_107, rfl, rfl, am_eq9 (by decide +kernel), trivial, trivial⟩, Or.inr ⟨2, d95_110, rfl, rfl, trivial, ⟨rfl, aw_1004⟩, trivial⟩, Or.inr ⟨3, d95_112, rfl, rfl, trivial, ⟨RX8, TX8, 27, rfl, by decide, aw_935, Or.inr ⟨rfl, rfl, rfl⟩⟩, trivial⟩, Or.inr ⟨1, d95_115, rfl, rfl, rfl, trivial, trivial⟩, Or.inr ⟨3, d95_116, rfl, rfl, am_eq9 (by decide +kernel), trivial, trivial⟩, Or.inr ⟨2, d95_119, rfl, rfl, trivial, ⟨rfl, aw_1004⟩, trivial⟩, Or.inr ⟨3, d95_121, rfl, rfl, trivial, ⟨RX8, TX8, 27, rfl, by decide, aw_936, Or.inr ⟨rfl, rfl, rfl⟩⟩, trivial⟩, Or.inr ⟨1, d95_124, rfl, rfl, rfl, trivial, trivial⟩, Or.inr ⟨1, d95_125, rfl, rfl, am_eq9 (by decide +kernel), trivial, trivial⟩, Or.inr ⟨3, d95_126, rfl, rfl, trivial, ⟨RX8, TX8, 27, rfl, by decide, aw_937, Or.inl rfl⟩, trivial⟩, Or.inr ⟨1, d95_129, rfl, rfl, rfl, trivial, trivial⟩, Or.inr ⟨1, d95_130, rfl, rfl, am_eq9 (by decide +kernel), trivial, trivial⟩, Or.inr ⟨3, d95_131, rfl, rfl, trivial, ⟨RX8, TX8, 27, rfl, by decide, aw_938, Or.inl rfl⟩, trivial⟩, Or.inr ⟨1, d95_134, rfl, rfl, rfl, trivial, trivial⟩, Or.inr ⟨1, d95_135, rfl, rfl, am_eq9 (by decide +kernel), trivial, trivial⟩, Or.inr ⟨3, d95_136, rfl, rfl, trivial, ⟨RX8, TX8, 27, rfl, by decide, aw_939, Or.inl rfl⟩, trivial⟩, Or.inr ⟨1, d95_139, rfl, rfl, rfl, trivial, trivial⟩, trivial⟩
theorem v95_3 : am_all (am_V9 95) am_l95_3 := ⟨Or.inr ⟨1, d95_140, rfl, rfl, am_eq9 (by decide +kernel), trivial, trivial⟩, Or.inr ⟨3, d95_141, rfl, rfl, trivial, ⟨RX8, TX8, 27, rfl, by decide, aw_940, Or.inl rfl⟩, trivial⟩, Or.inr ⟨1, d95_144, rfl, rfl, rfl, trivial, trivial⟩, Or.inr ⟨1, d95_145, rfl, rfl, am_eq9 (by decide +kernel), trivial, trivial⟩, Or.inr ⟨3, d95_146, rfl, rfl, trivial, ⟨RX8, TX8, 27, rfl, by decide, aw_941, Or.inl rfl⟩, trivial⟩, Or.inr ⟨1, d95_149, rfl, rfl, rfl, trivial, trivial⟩, Or.inr ⟨2, d95_150, rfl, rfl, am_eq9 (by decide +kernel), trivial, trivial⟩, Or.inr ⟨3, d95_152, rfl, rfl, trivial, ⟨RX8, TX8, 27, rfl, by decide, aw_942, Or.inl rfl⟩, trivial⟩, Or.inr ⟨1, d95_155, rfl, rfl, rfl, trivial, trivial⟩, Or.inr ⟨1, d95_156, rfl, rfl, am_eq9 (by decide +kernel), trivial, trivial⟩, Or.inr ⟨3, d95_157, rfl, rfl, trivial, ⟨RX8, TX8, 27, rfl, by decide, aw_943, Or.inl rfl⟩, trivial⟩, Or.inr ⟨1, d95_160, rfl, rfl, rfl, trivial, trivial⟩, Or.inr ⟨1, d95_161, rfl, rfl, am_eq9 (by decide +kernel), trivial, trivial⟩, Or.inr ⟨3, d95_162, rfl, rfl, trivial, ⟨RX8, TX8, 27, rfl, by decide, aw_944, Or.inl rfl⟩, trivial⟩, Or.inr ⟨1, d95_165, rfl, rfl, rfl, trivial, trivial⟩, Or.inr ⟨1, d95_166, rfl, rfl, am_eq9 (by decide +kernel), trivial, trivial⟩, Or.inr ⟨3, d95_167, rfl, rfl, trivial, ⟨RX8, TX8, 27, rfl, by decide, aw_945, Or.inl rfl⟩, trivial⟩, Or.inr ⟨1, d95_170, rfl, rfl, rfl, trivial, trivial⟩, Or.inr ⟨1, d95_171, rfl, rfl, trivial, trivial, trivial⟩, Or.inr ⟨3, d95_172, rfl, rfl, trivial, ⟨RX8, TX8, 27, rfl, by decide, aw_946, Or.inl rfl⟩, trivial⟩, Or.inr ⟨1, d95_175, rfl, rfl, rfl, trivial, trivial⟩, Or.inr ⟨2, d95_176, rfl, rfl, am_eq9 (by decide +kernel), trivial, trivial⟩, Or.inr ⟨3, d95_178, rfl, rfl, trivial, ⟨RX8, TX8, 27, rfl, by decide, aw_947, Or.inl rfl⟩, trivial⟩, Or.inr ⟨1, d95_181, rfl, rfl, rfl, trivial, trivial⟩, trivial⟩
theorem v95_4 : am_all (am_V9 95) am_l95_4 := ⟨Or.inr ⟨2, d95_182, rfl, rfl, am_eq9 (by decide +kernel), trivial, trivial⟩, Or.inr ⟨3, d95_184, rfl, rfl, trivial, ⟨RX8, TX8, 27, rfl, by decide, aw_948, Or.inl rfl⟩, trivial⟩, Or.inr ⟨1, d95_187, rfl, rfl, am_eq9 (by decide +kernel), trivial, trivial⟩, Or.inr ⟨1, d95_188, rfl, rfl, rfl, trivial, trivial⟩, Or.inr ⟨1, d95_189, rfl, rfl, rfl, trivial, trivial⟩, Or.inr ⟨2, d95_190, rfl, rfl, am_eq9 (by decide +kernel), trivial, trivial⟩, Or.inr ⟨3, d95_192, rfl, rfl, rfl, trivial, trivial⟩, Or.inr ⟨1, d95_195, rfl, rfl, rfl, trivial, trivial⟩, Or.inr ⟨3, d95_196, rfl, rfl, trivial, ⟨RX8, TX8, 27, rfl, by decide, Or.inl aw_922⟩, trivial⟩, Or.inr ⟨1, d95_199, rfl, rfl, rfl, trivial, trivial⟩, Or.inr ⟨2, d95_200, rfl, rfl, am_eq9 (by decide +kernel), trivial, trivial⟩, Or.inr ⟨1, d95_202, rfl, rfl, trivial, trivial, trivial⟩, Or.inr ⟨3, d95_203, rfl, rfl, ⟨rfl, by decide⟩, trivial, trivial⟩, Or.inr ⟨3, d95_206, rfl, rfl, rfl, trivial, trivial⟩, Or.inr ⟨1, d95_209, rfl, rfl, rfl, trivial, trivial⟩, Or.inr ⟨3, d95_210, rfl, rfl, trivial, trivial, ⟨by decide, ⟨_, TX8, 27, rfl, okM_100, rfl⟩, aw_918, aw_920, as_100⟩⟩, Or.inr ⟨1, d95_213, rfl, rfl, trivial, trivial, trivial⟩, trivial⟩
theorem v95 : ∀ pc, am_V9 95 pc ((am_G 95).2.2.2.2.1 pc) := am_all_lc am_V9_0 _ ⟨v95_0, v95_1, v95_2, v95_3, v95_4, trivial⟩
