/-! The tables' rows, against the bytes. (by gen/tab.py) -/
theorem d127_0 : decode cX8_changes 0 = .ok (.iload_n 1, 1) := by decide +kernel
theorem d127_1 : decode cX8_changes 1 = .ok (.iload_n 2, 1) := by decide +kernel
theorem d127_2 : decode cX8_changes 2 = .ok (.invokestatic 104, 3) := by decide +kernel
theorem d127_5 : decode cX8_changes 5 = .ok (.ifCond .eq 18, 3) := by decide +kernel
theorem d127_8 : decode cX8_changes 8 = .ok (.aload_n 0, 1) := by decide +kernel
theorem d127_9 : decode cX8_changes 9 = .ok (.getfield 7, 3) := by decide +kernel
theorem d127_12 : decode cX8_changes 12 = .ok (.iconst 4, 1) := by decide +kernel
theorem d127_13 : decode cX8_changes 13 = .ok (.iload_n 1, 1) := by decide +kernel
theorem d127_14 : decode cX8_changes 14 = .ok (.imul, 1) := by decide +kernel
theorem d127_15 : decode cX8_changes 15 = .ok (.iload_n 2, 1) := by decide +kernel
theorem d127_16 : decode cX8_changes 16 = .ok (.iadd, 1) := by decide +kernel
theorem d127_17 : decode cX8_changes 17 = .ok (.caload, 1) := by decide +kernel
theorem d127_18 : decode cX8_changes 18 = .ok (.bipush 45, 2) := by decide +kernel
theorem d127_20 : decode cX8_changes 20 = .ok (.if_icmp .ne 6, 3) := by decide +kernel
theorem d127_23 : decode cX8_changes 23 = .ok (.bipush 110, 2) := by decide +kernel
theorem d127_25 : decode cX8_changes 25 = .ok (.ireturn, 1) := by decide +kernel
theorem d127_26 : decode cX8_changes 26 = .ok (.aload_n 0, 1) := by decide +kernel
theorem d127_27 : decode cX8_changes 27 = .ok (.getfield 83, 3) := by decide +kernel
theorem d127_30 : decode cX8_changes 30 = .ok (.ifCond .eq 6, 3) := by decide +kernel
theorem d127_33 : decode cX8_changes 33 = .ok (.bipush 116, 2) := by decide +kernel
theorem d127_35 : decode cX8_changes 35 = .ok (.ireturn, 1) := by decide +kernel
theorem d127_36 : decode cX8_changes 36 = .ok (.iconst 4, 1) := by decide +kernel
theorem d127_37 : decode cX8_changes 37 = .ok (.iload_n 1, 1) := by decide +kernel
theorem d127_38 : decode cX8_changes 38 = .ok (.imul, 1) := by decide +kernel
theorem d127_39 : decode cX8_changes 39 = .ok (.iload_n 2, 1) := by decide +kernel
theorem d127_40 : decode cX8_changes 40 = .ok (.iadd, 1) := by decide +kernel
theorem d127_41 : decode cX8_changes 41 = .ok (.istore_n 3, 1) := by decide +kernel
theorem d127_42 : decode cX8_changes 42 = .ok (.iload_n 3, 1) := by decide +kernel
theorem d127_43 : decode cX8_changes 43 = .ok (.istore 4, 2) := by decide +kernel
theorem d127_45 : decode cX8_changes 45 = .ok (.iload 4, 2) := by decide +kernel
theorem d127_47 : decode cX8_changes 47 = .ok (.iconst 4, 1) := by decide +kernel
theorem d127_48 : decode cX8_changes 48 = .ok (.iload_n 1, 1) := by decide +kernel
theorem d127_49 : decode cX8_changes 49 = .ok (.imul, 1) := by decide +kernel
theorem d127_50 : decode cX8_changes 50 = .ok (.iconst 4, 1) := by decide +kernel
theorem d127_51 : decode cX8_changes 51 = .ok (.iadd, 1) := by decide +kernel
theorem d127_52 : decode cX8_changes 52 = .ok (.if_icmp .ge 50, 3) := by decide +kernel
theorem d127_55 : decode cX8_changes 55 = .ok (.aload_n 0, 1) := by decide +kernel
theorem d127_56 : decode cX8_changes 56 = .ok (.getfield 7, 3) := by decide +kernel
theorem d127_59 : decode cX8_changes 59 = .ok (.iload 4, 2) := by decide +kernel
theorem d127_61 : decode cX8_changes 61 = .ok (.caload, 1) := by decide +kernel
theorem d127_62 : decode cX8_changes 62 = .ok (.aload_n 0, 1) := by decide +kernel
theorem d127_63 : decode cX8_changes 63 = .ok (.getfield 7, 3) := by decide +kernel
theorem d127_66 : decode cX8_changes 66 = .ok (.iload_n 3, 1) := by decide +kernel
theorem d127_67 : decode cX8_changes 67 = .ok (.caload, 1) := by decide +kernel
theorem d127_68 : decode cX8_changes 68 = .ok (.if_icmp .ne 28, 3) := by decide +kernel
theorem d127_71 : decode cX8_changes 71 = .ok (.aload_n 0, 1) := by decide +kernel
theorem d127_72 : decode cX8_changes 72 = .ok (.getfield 16, 3) := by decide +kernel
theorem d127_75 : decode cX8_changes 75 = .ok (.iload 4, 2) := by decide +kernel
theorem d127_77 : decode cX8_changes 77 = .ok (.iaload, 1) := by decide +kernel
theorem d127_78 : decode cX8_changes 78 = .ok (.aload_n 0, 1) := by decide +kernel
theorem d127_79 : decode cX8_changes 79 = .ok (.getfield 16, 3) := by decide +kernel
theorem d127_82 : decode cX8_changes 82 = .ok (.iload_n 3, 1) := by decide +kernel
theorem d127_83 : decode cX8_changes 83 = .ok (.iaload, 1) := by decide +kernel
theorem d127_84 : decode cX8_changes 84 = .ok (.if_icmp .ne 12, 3) := by decide +kernel
theorem d127_87 : decode cX8_changes 87 = .ok (.aload_n 0, 1) := by decide +kernel
theorem d127_88 : decode cX8_changes 88 = .ok (.iload 4, 2) := by decide +kernel
theorem d127_90 : decode cX8_changes 90 = .ok (.invokevirtual 164, 3) := by decide +kernel
theorem d127_93 : decode cX8_changes 93 = .ok (.ifCond .eq 9, 3) := by decide +kernel
theorem d127_96 : decode cX8_changes 96 = .ok (.iinc 4 1, 3) := by decide +kernel
theorem d127_99 : decode cX8_changes 99 = .ok (.goto (-54), 3) := by decide +kernel
theorem d127_102 : decode cX8_changes 102 = .ok (.iload 4, 2) := by decide +kernel
theorem d127_104 : decode cX8_changes 104 = .ok (.iconst 4, 1) := by decide +kernel
theorem d127_105 : decode cX8_changes 105 = .ok (.iload_n 1, 1) := by decide +kernel
theorem d127_106 : decode cX8_changes 106 = .ok (.imul, 1) := by decide +kernel
theorem d127_107 : decode cX8_changes 107 = .ok (.iconst 4, 1) := by decide +kernel
theorem d127_108 : decode cX8_changes 108 = .ok (.iadd, 1) := by decide +kernel
theorem d127_109 : decode cX8_changes 109 = .ok (.if_icmp .ne 6, 3) := by decide +kernel
theorem d127_112 : decode cX8_changes 112 = .ok (.bipush 119, 2) := by decide +kernel
theorem d127_114 : decode cX8_changes 114 = .ok (.ireturn, 1) := by decide +kernel
theorem d127_115 : decode cX8_changes 115 = .ok (.aload_n 0, 1) := by decide +kernel
theorem d127_116 : decode cX8_changes 116 = .ok (.iload 4, 2) := by decide +kernel
theorem d127_118 : decode cX8_changes 118 = .ok (.putfield 70, 3) := by decide +kernel
theorem d127_121 : decode cX8_changes 121 = .ok (.bipush 45, 2) := by decide +kernel
theorem d127_123 : decode cX8_changes 123 = .ok (.ireturn, 1) := by decide +kernel
theorem v127_0 : am_all (am_V9 127) am_l127_0 := ⟨Or.inr ⟨1, d127_0, rfl, rfl, rfl, trivial, trivial⟩, Or.inr ⟨1, d127_1, rfl, rfl, rfl, trivial, trivial⟩, Or.inr ⟨3, d127_2, rfl, rfl, trivial, trivial, Or.inr ⟨by decide, okM_101, aw_1014, Or.inl ⟨rfl, aw_1013⟩⟩⟩, Or.inr ⟨3, d127_5, rfl, rfl, rfl, trivial, trivial⟩, Or.inr ⟨1, d127_8, rfl, rfl, rfl, trivial, trivial⟩, Or.inr ⟨3, d127_9, rfl, rfl, trivial, ⟨RX8, TX8, 27, rfl, by decide, Or.inl aw_922⟩, trivial⟩, Or.inr ⟨1, d127_12, rfl, rfl, am_eq9 (by decide +kernel), trivial, trivial⟩, Or.inr ⟨1, d127_13, rfl, rfl, rfl, trivial, trivial⟩, Or.inr ⟨1, d127_14, rfl, rfl, trivial, trivial, trivial⟩, Or.inr ⟨1, d127_15, rfl, rfl, rfl, trivial, trivial⟩, Or.inr ⟨1, d127_16, rfl, rfl, trivial, trivial, trivial⟩, Or.inr ⟨1, d127_17, rfl, rfl, trivial, trivial, trivial⟩, Or.inr ⟨2, d127_18, rfl, rfl, am_eq9 (by decide +kernel), trivial, trivial⟩, Or.inr ⟨3, d127_20, rfl, rfl, rfl, trivial, trivial⟩, Or.inr ⟨2, d127_23, rfl, rfl, am_eq9 (by decide +kernel), trivial, trivial⟩, Or.inr ⟨1, d127_25, rfl, rfl, trivial, trivial, trivial⟩, Or.inr ⟨1, d127_26, rfl, rfl, rfl, trivial, trivial⟩, Or.inr ⟨3, d127_27, rfl, rfl, trivial, ⟨RX8, TX8, 27, rfl, by decide, Or.inl aw_945⟩, trivial⟩, Or.inr ⟨3, d127_30, rfl, rfl, rfl, trivial, trivial⟩, Or.inr ⟨2, d127_33, rfl, rfl, am_eq9 (by decide +kernel), trivial, trivial⟩, Or.inr ⟨1, d127_35, rfl, rfl, trivial, trivial, trivial⟩, Or.inr ⟨1, d127_36, rfl, rfl, am_eq9 (by decide +kernel), trivial, trivial⟩, Or.inr ⟨1, d127_37, rfl, rfl, rfl, trivial, trivial⟩, Or.inr ⟨1, d127_38, rfl, rfl, trivial, trivial, trivial⟩, trivial⟩
theorem v127_1 : am_all (am_V9 127) am_l127_1 := ⟨Or.inr ⟨1, d127_39, rfl, rfl, rfl, trivial, trivial⟩, Or.inr ⟨1, d127_40, rfl, rfl, trivial, trivial, trivial⟩, Or.inr ⟨1, d127_41, rfl, rfl, rfl, trivial, trivial⟩, Or.inr ⟨1, d127_42, rfl, rfl, rfl, trivial, trivial⟩, Or.inr ⟨2, d127_43, rfl, rfl, rfl, trivial, trivial⟩, Or.inr ⟨2, d127_45, rfl, rfl, rfl, trivial, trivial⟩, Or.inr ⟨1, d127_47, rfl, rfl, am_eq9 (by decide +kernel), trivial, trivial⟩, Or.inr ⟨1, d127_48, rfl, rfl, rfl, trivial, trivial⟩, Or.inr ⟨1, d127_49, rfl, rfl, trivial, trivial, trivial⟩, Or.inr ⟨1, d127_50, rfl, rfl, am_eq9 (by decide +kernel), trivial, trivial⟩, Or.inr ⟨1, d127_51, rfl, rfl, trivial, trivial, trivial⟩, Or.inr ⟨3, d127_52, rfl, rfl, rfl, trivial, trivial⟩, Or.inr ⟨1, d127_55, rfl, rfl, rfl, trivial, trivial⟩, Or.inr ⟨3, d127_56, rfl, rfl, trivial, ⟨RX8, TX8, 27, rfl, by decide, Or.inl aw_922⟩, trivial⟩, Or.inr ⟨2, d127_59, rfl, rfl, rfl, trivial, trivial⟩, Or.inr ⟨1, d127_61, rfl, rfl, trivial, trivial, trivial⟩, Or.inr ⟨1, d127_62, rfl, rfl, rfl, trivial, trivial⟩, Or.inr ⟨3, d127_63, rfl, rfl, trivial, ⟨RX8, TX8, 27, rfl, by decide, Or.inl aw_922⟩, trivial⟩, Or.inr ⟨1, d127_66, rfl, rfl, rfl, trivial, trivial⟩, Or.inr ⟨1, d127_67, rfl, rfl, trivial, trivial, trivial⟩, Or.inr ⟨3, d127_68, rfl, rfl, rfl, trivial, trivial⟩, Or.inr ⟨1, d127_71, rfl, rfl, rfl, trivial, trivial⟩, Or.inr ⟨3, d127_72, rfl, rfl, trivial, ⟨RX8, TX8, 27, rfl, by decide, Or.inl aw_924⟩, trivial⟩, Or.inr ⟨2, d127_75, rfl, rfl, rfl, trivial, trivial⟩, trivial⟩
theorem v127_2 : am_all (am_V9 127) am_l127_2 := ⟨Or.inr ⟨1, d127_77, rfl, rfl, trivial, trivial, trivial⟩, Or.inr ⟨1, d127_78, rfl, rfl, rfl, trivial, trivial⟩, Or.inr ⟨3, d127_79, rfl, rfl, trivial, ⟨RX8, TX8, 27, rfl, by decide, Or.inl aw_924⟩, trivial⟩, Or.inr ⟨1, d127_82, rfl, rfl, rfl, trivial, trivial⟩, Or.inr ⟨1, d127_83, rfl, rfl, trivial, trivial, trivial⟩, Or.inr ⟨3, d127_84, rfl, rfl, rfl, trivial, trivial⟩, Or.inr ⟨1, d127_87, rfl, rfl, rfl, trivial, trivial⟩, Or.inr ⟨2, d127_88, rfl, rfl, rfl, trivial, trivial⟩, Or.inr ⟨3, d127_90, rfl, rfl, trivial, trivial, ⟨by decide, ⟨_, TX8, 27, rfl, okM_125, rfl⟩, aw_1079, aw_1081, as_125⟩⟩, Or.inr ⟨3, d127_93, rfl, rfl, rfl, trivial, trivial⟩, Or.inr ⟨3, d127_96, rfl, rfl, ⟨rfl, by decide⟩, trivial, trivial⟩, Or.inr ⟨3, d127_99, rfl, rfl, rfl, trivial, trivial⟩, Or.inr ⟨2, d127_102, rfl, rfl, rfl, trivial, trivial⟩, Or.inr ⟨1, d127_104, rfl, rfl, am_eq9 (by decide +kernel), trivial, trivial⟩, Or.inr ⟨1, d127_105, rfl, rfl, rfl, trivial, trivial⟩, Or.inr ⟨1, d127_106, rfl, rfl, trivial, trivial, trivial⟩, Or.inr ⟨1, d127_107, rfl, rfl, am_eq9 (by decide +kernel), trivial, trivial⟩, Or.inr ⟨1, d127_108, rfl, rfl, trivial, trivial, trivial⟩, Or.inr ⟨3, d127_109, rfl, rfl, rfl, trivial, trivial⟩, Or.inr ⟨2, d127_112, rfl, rfl, am_eq9 (by decide +kernel), trivial, trivial⟩, Or.inr ⟨1, d127_114, rfl, rfl, trivial, trivial, trivial⟩, Or.inr ⟨1, d127_115, rfl, rfl, rfl, trivial, trivial⟩, Or.inr ⟨2, d127_116, rfl, rfl, rfl, trivial, trivial⟩, Or.inr ⟨3, d127_118, rfl, rfl, trivial, ⟨RX8, TX8, 27, rfl, by decide, aw_941, Or.inl rfl⟩, trivial⟩, trivial⟩
theorem v127_3 : am_all (am_V9 127) am_l127_3 := ⟨Or.inr ⟨2, d127_121, rfl, rfl, am_eq9 (by decide +kernel), trivial, trivial⟩, Or.inr ⟨1, d127_123, rfl, rfl, trivial, trivial, trivial⟩, trivial⟩
theorem v127 : ∀ pc, am_V9 127 pc ((am_G 127).2.2.2.2.1 pc) := am_all_lc am_V9_0 _ ⟨v127_0, v127_1, v127_2, v127_3, trivial⟩
theorem d128_0 : decode cX8_probes 0 = .ok (.iload_n 1, 1) := by decide +kernel
theorem d128_1 : decode cX8_probes 1 = .ok (.iconst 0, 1) := by decide +kernel
theorem d128_2 : decode cX8_probes 2 = .ok (.bipush 7, 2) := by decide +kernel
theorem d128_4 : decode cX8_probes 4 = .ok (.invokestatic 100, 3) := by decide +kernel
theorem d128_7 : decode cX8_probes 7 = .ok (.ifCond .ne 6, 3) := by decide +kernel
theorem d128_10 : decode cX8_probes 10 = .ok (.bipush 110, 2) := by decide +kernel
theorem d128_12 : decode cX8_probes 12 = .ok (.ireturn, 1) := by decide +kernel
theorem d128_13 : decode cX8_probes 13 = .ok (.aload_n 0, 1) := by decide +kernel
theorem d128_14 : decode cX8_probes 14 = .ok (.getfield 70, 3) := by decide +kernel
theorem d128_17 : decode cX8_probes 17 = .ok (.ifCond .ge 6, 3) := by decide +kernel
theorem d128_20 : decode cX8_probes 20 = .ok (.bipush 115, 2) := by decide +kernel
theorem d128_22 : decode cX8_probes 22 = .ok (.ireturn, 1) := by decide +kernel
theorem d128_23 : decode cX8_probes 23 = .ok (.aload_n 0, 1) := by decide +kernel
theorem d128_24 : decode cX8_probes 24 = .ok (.getfield 44, 3) := by decide +kernel
theorem d128_27 : decode cX8_probes 27 = .ok (.iconst 2, 1) := by decide +kernel
theorem d128_28 : decode cX8_probes 28 = .ok (.iaload, 1) := by decide +kernel
theorem d128_29 : decode cX8_probes 29 = .ok (.istore_n 2, 1) := by decide +kernel
theorem d128_30 : decode cX8_probes 30 = .ok (.aload_n 0, 1) := by decide +kernel
theorem d128_31 : decode cX8_probes 31 = .ok (.aload_n 0, 1) := by decide +kernel
theorem d128_32 : decode cX8_probes 32 = .ok (.getfield 44, 3) := by decide +kernel
theorem d128_35 : decode cX8_probes 35 = .ok (.iconst 0, 1) := by decide +kernel
theorem d128_36 : decode cX8_probes 36 = .ok (.iaload, 1) := by decide +kernel
theorem d128_37 : decode cX8_probes 37 = .ok (.aload_n 0, 1) := by decide +kernel
theorem d128_38 : decode cX8_probes 38 = .ok (.getfield 44, 3) := by decide +kernel
theorem d128_41 : decode cX8_probes 41 = .ok (.iconst 1, 1) := by decide +kernel
theorem d128_42 : decode cX8_probes 42 = .ok (.iaload, 1) := by decide +kernel
theorem d128_43 : decode cX8_probes 43 = .ok (.iload_n 2, 1) := by decide +kernel
theorem d128_44 : decode cX8_probes 44 = .ok (.iconst 1, 1) := by decide +kernel
theorem d128_45 : decode cX8_probes 45 = .ok (.iconst 0, 1) := by decide +kernel
theorem d128_46 : decode cX8_probes 46 = .ok (.invokevirtual 145, 3) := by decide +kernel
theorem d128_49 : decode cX8_probes 49 = .ok (.ifCond .le 6, 3) := by decide +kernel
theorem d128_52 : decode cX8_probes 52 = .ok (.bipush 120, 2) := by decide +kernel
theorem d128_54 : decode cX8_probes 54 = .ok (.ireturn, 1) := by decide +kernel
theorem d128_55 : decode cX8_probes 55 = .ok (.iload_n 2, 1) := by decide +kernel
theorem d128_56 : decode cX8_probes 56 = .ok (.ifCond .le 33, 3) := by decide +kernel
theorem d128_59 : decode cX8_probes 59 = .ok (.aload_n 0, 1) := by decide +kernel
theorem d128_60 : decode cX8_probes 60 = .ok (.aload_n 0, 1) := by decide +kernel
theorem d128_61 : decode cX8_probes 61 = .ok (.getfield 44, 3) := by decide +kernel
theorem d128_64 : decode cX8_probes 64 = .ok (.iconst 0, 1) := by decide +kernel
theorem d128_65 : decode cX8_probes 65 = .ok (.iaload, 1) := by decide +kernel
theorem d128_66 : decode cX8_probes 66 = .ok (.aload_n 0, 1) := by decide +kernel
theorem d128_67 : decode cX8_probes 67 = .ok (.getfield 44, 3) := by decide +kernel
theorem d128_70 : decode cX8_probes 70 = .ok (.iconst 1, 1) := by decide +kernel
theorem d128_71 : decode cX8_probes 71 = .ok (.iaload, 1) := by decide +kernel
theorem d128_72 : decode cX8_probes 72 = .ok (.iload_n 2, 1) := by decide +kernel
theorem d128_73 : decode cX8_probes 73 = .ok (.iconst 1, 1) := by decide +kernel
theorem d128_74 : decode cX8_probes 74 = .ok (.isub, 1) := by decide +kernel
theorem d128_75 : decode cX8_probes 75 = .ok (.iconst 1, 1) := by decide +kernel
theorem d128_76 : decode cX8_probes 76 = .ok (.iconst 0, 1) := by decide +kernel
theorem d128_77 : decode cX8_probes 77 = .ok (.invokevirtual 145, 3) := by decide +kernel
theorem d128_80 : decode cX8_probes 80 = .ok (.ifCond .ne 9, 3) := by decide +kernel
theorem d128_83 : decode cX8_probes 83 = .ok (.iinc 2 (-1), 3) := by decide +kernel
theorem d128_86 : decode cX8_probes 86 = .ok (.goto (-31), 3) := by decide +kernel
theorem d128_89 : decode cX8_probes 89 = .ok (.aload_n 0, 1) := by decide +kernel
theorem d128_90 : decode cX8_probes 90 = .ok (.getfield 38, 3) := by decide +kernel
theorem d128_93 : decode cX8_probes 93 = .ok (.iload_n 1, 1) := by decide +kernel
theorem d128_94 : decode cX8_probes 94 = .ok (.iload_n 2, 1) := by decide +kernel
theorem d128_95 : decode cX8_probes 95 = .ok (.iastore, 1) := by decide +kernel
theorem d128_96 : decode cX8_probes 96 = .ok (.bipush 45, 2) := by decide +kernel
theorem d128_98 : decode cX8_probes 98 = .ok (.ireturn, 1) := by decide +kernel
theorem v128_0 : am_all (am_V9 128) am_l128_0 := ⟨Or.inr ⟨1, d128_0, rfl, rfl, rfl, trivial, trivial⟩, Or.inr ⟨1, d128_1, rfl, rfl, am_eq9 (by decide +kernel), trivial, trivial⟩, Or.inr ⟨2, d128_2, rfl, rfl, am_eq9 (by decide +kernel), trivial, trivial⟩, Or.inr ⟨3, d128_4, rfl, rfl, trivial, trivial, Or.inr ⟨by decide, okM_97, aw_1017, Or.inl ⟨rfl, aw_1016⟩⟩⟩, Or.inr ⟨3, d128_7, rfl, rfl, rfl, trivial, trivial⟩, Or.inr ⟨2, d128_10, rfl, rfl, am_eq9 (by decide +kernel), trivial, trivial⟩, Or.inr ⟨1, d128_12, rfl, rfl, trivial, trivial, trivial⟩, Or.inr ⟨1, d128_13, rfl, rfl, rfl, trivial, trivial⟩, Or.inr ⟨3, d128_14, rfl, rfl, trivial, ⟨RX8, TX8, 27, rfl, by decide, Or.inl aw_941⟩, trivial⟩, Or.inr ⟨3, d128_17, rfl, rfl, rfl, trivial, trivial⟩, Or.inr ⟨2, d128_20, rfl, rfl, am_eq9 (by decide +kernel), trivial, trivial⟩, Or.inr ⟨1, d128_22, rfl, rfl, trivial, trivial, trivial⟩, Or.inr ⟨1, d128_23, rfl, rfl, rfl, trivial, trivial⟩, Or.inr ⟨3, d128_24, rfl, rfl, trivial, ⟨RX8, TX8, 27, rfl, by decide, Or.inl aw_933⟩, trivial⟩, Or.inr ⟨1, d128_27, rfl, rfl, am_eq9 (by decide +kernel), trivial, trivial⟩, Or.inr ⟨1, d128_28, rfl, rfl, trivial, trivial, trivial⟩, Or.inr ⟨1, d128_29, rfl, rfl, rfl, trivial, trivial⟩, Or.inr ⟨1, d128_30, rfl, rfl, rfl, trivial, trivial⟩, Or.inr ⟨1, d128_31, rfl, rfl, rfl, trivial, trivial⟩, Or.inr ⟨3, d128_32, rfl, rfl, trivial, ⟨RX8, TX8, 27, rfl, by decide, Or.inl aw_933⟩, trivial⟩, Or.inr ⟨1, d128_35, rfl, rfl, am_eq9 (by decide +kernel), trivial, trivial⟩, Or.inr ⟨1, d128_36, rfl, rfl, trivial, trivial, trivial⟩, Or.inr ⟨1, d128_37, rfl, rfl, rfl, trivial, trivial⟩, Or.inr ⟨3, d128_38, rfl, rfl, trivial, ⟨RX8, TX8, 27, rfl, by decide, Or.inl aw_933⟩, trivial⟩, trivial⟩
theorem v128_1 : am_all (am_V9 128) am_l128_1 := ⟨Or.inr ⟨1, d128_41, rfl, rfl, am_eq9 (by decide +kernel), trivial, trivial⟩, Or.inr ⟨1, d128_42, rfl, rfl, trivial, trivial, trivial⟩, Or.inr ⟨1, d128_43, rfl, rfl, rfl, trivial, trivial⟩, Or.inr ⟨1, d128_44, rfl, rfl, am_eq9 (by decide +kernel), trivial, trivial⟩, Or.inr ⟨1, d128_45, rfl, rfl, am_eq9 (by decide +kernel), trivial, trivial⟩, Or.inr ⟨3, d128_46, rfl, rfl, trivial, trivial, ⟨by decide, ⟨_, TX8, 27, rfl, okM_117, rfl⟩, aw_1101, aw_1103, as_117⟩⟩, Or.inr ⟨3, d128_49, rfl, rfl, rfl, trivial, trivial⟩, Or.inr ⟨2, d128_52, rfl, rfl, am_eq9 (by decide +kernel), trivial, trivial⟩, Or.inr ⟨1, d128_54, rfl, rfl, trivial, trivial, trivial⟩, Or.inr ⟨1, d128_55, rfl, rfl, rfl, trivial, trivial⟩, Or.inr ⟨3, d128_56, rfl, rfl, rfl, trivial, trivial⟩, Or.inr ⟨1, d128_59, rfl, rfl, rfl, trivial, trivial⟩, Or.inr ⟨1, d128_60, rfl, rfl, rfl, trivial, trivial⟩, Or.inr ⟨3, d128_61, rfl, rfl, trivial, ⟨RX8, TX8, 27, rfl, by decide, Or.inl aw_933⟩, trivial⟩, Or.inr ⟨1, d128_64, rfl, rfl, am_eq9 (by decide +kernel), trivial, trivial⟩, Or.inr ⟨1, d128_65, rfl, rfl, trivial, trivial, trivial⟩, Or.inr ⟨1, d128_66, rfl, rfl, rfl, trivial, trivial⟩, Or.inr ⟨3, d128_67, rfl, rfl, trivial, ⟨RX8, TX8, 27, rfl, by decide, Or.inl aw_933⟩, trivial⟩, Or.inr ⟨1, d128_70, rfl, rfl, am_eq9 (by decide +kernel), trivial, trivial⟩, Or.inr ⟨1, d128_71, rfl, rfl, trivial, trivial, trivial⟩, Or.inr ⟨1, d128_72, rfl, rfl, rfl, trivial, trivial⟩, Or.inr ⟨1, d128_73, rfl, rfl, am_eq9 (by decide +kernel), trivial, trivial⟩, Or.inr ⟨1, d128_74, rfl, rfl, trivial, trivial, trivial⟩, Or.inr ⟨1, d128_75, rfl, rfl, am_eq9 (by decide +kernel), trivial, trivial⟩, trivial⟩
theorem v128_2 : am_all (am_V9 128) am_l128_2 := ⟨Or.inr ⟨1, d128_76, rfl, rfl, am_eq9 (by decide +kernel), trivial, trivial⟩, Or.inr ⟨3, d128_77, rfl, rfl, trivial, trivial, ⟨by decide, ⟨_, TX8, 27, rfl, okM_117, rfl⟩, aw_1101, aw_1103, as_117⟩⟩, Or.inr ⟨3, d128_80, rfl, rfl, rfl, trivial, trivial⟩, Or.inr ⟨3, d128_83, rfl, rfl, ⟨rfl, by decide⟩, trivial, trivial⟩, Or.inr ⟨3, d128_86, rfl, rfl, rfl, trivial, trivial⟩, Or.inr ⟨1, d128_89, rfl, rfl, rfl, trivial, trivial⟩, Or.inr ⟨3, d128_90, rfl, rfl, trivial, ⟨RX8, TX8, 27, rfl, by decide, Or.inl aw_931⟩, trivial⟩, Or.inr ⟨1, d128_93, rfl, rfl, rfl, trivial, trivial⟩, Or.inr ⟨1, d128_94, rfl, rfl, rfl, trivial, trivial⟩, Or.inr ⟨1, d128_95, rfl, rfl, trivial, trivial, trivial⟩, Or.inr ⟨2, d128_96, rfl, rfl, am_eq9 (by decide +kernel), trivial, trivial⟩, Or.inr ⟨1, d128_98, rfl, rfl, trivial, trivial, trivial⟩, trivial⟩
theorem v128 : ∀ pc, am_V9 128 pc ((am_G 128).2.2.2.2.1 pc) := am_all_lc am_V9_0 _ ⟨v128_0, v128_1, v128_2, trivial⟩
theorem d129_0 : decode cX8_sets 0 = .ok (.iload_n 1, 1) := by decide +kernel
theorem d129_1 : decode cX8_sets 1 = .ok (.bipush 102, 2) := by decide +kernel
theorem d129_3 : decode cX8_sets 3 = .ok (.if_icmp .ne 8, 3) := by decide +kernel
theorem d129_6 : decode cX8_sets 6 = .ok (.bipush 50, 2) := by decide +kernel
theorem d129_8 : decode cX8_sets 8 = .ok (.goto 25, 3) := by decide +kernel
theorem d129_11 : decode cX8_sets 11 = .ok (.iload_n 1, 1) := by decide +kernel
theorem d129_12 : decode cX8_sets 12 = .ok (.bipush 111, 2) := by decide +kernel
theorem d129_14 : decode cX8_sets 14 = .ok (.if_icmp .ne 7, 3) := by decide +kernel
theorem d129_17 : decode cX8_sets 17 = .ok (.iconst 3, 1) := by decide +kernel
theorem d129_18 : decode cX8_sets 18 = .ok (.goto 15, 3) := by decide +kernel
theorem d129_21 : decode cX8_sets 21 = .ok (.iload_n 1, 1) := by decide +kernel
theorem d129_22 : decode cX8_sets 22 = .ok (.bipush 118, 2) := by decide +kernel
theorem d129_24 : decode cX8_sets 24 = .ok (.if_icmp .ne 8, 3) := by decide +kernel
theorem d129_27 : decode cX8_sets 27 = .ok (.bipush 7, 2) := by decide +kernel
theorem d129_29 : decode cX8_sets 29 = .ok (.goto 4, 3) := by decide +kernel
theorem d129_32 : decode cX8_sets 32 = .ok (.iconst 1, 1) := by decide +kernel
theorem d129_33 : decode cX8_sets 33 = .ok (.istore 5, 2) := by decide +kernel
theorem d129_35 : decode cX8_sets 35 = .ok (.iload_n 2, 1) := by decide +kernel
theorem d129_36 : decode cX8_sets 36 = .ok (.iload_n 1, 1) := by decide +kernel
theorem d129_37 : decode cX8_sets 37 = .ok (.bipush 102, 2) := by decide +kernel
theorem d129_39 : decode cX8_sets 39 = .ok (.if_icmp .ne 7, 3) := by decide +kernel
theorem d129_42 : decode cX8_sets 42 = .ok (.iconst 1, 1) := by decide +kernel
theorem d129_43 : decode cX8_sets 43 = .ok (.goto 4, 3) := by decide +kernel
theorem d129_46 : decode cX8_sets 46 = .ok (.iconst 0, 1) := by decide +kernel
theorem d129_47 : decode cX8_sets 47 = .ok (.iload 5, 2) := by decide +kernel
theorem d129_49 : decode cX8_sets 49 = .ok (.invokestatic 100, 3) := by decide +kernel
theorem d129_52 : decode cX8_sets 52 = .ok (.ifCond .ne 6, 3) := by decide +kernel
theorem d129_55 : decode cX8_sets 55 = .ok (.bipush 110, 2) := by decide +kernel
theorem d129_57 : decode cX8_sets 57 = .ok (.ireturn, 1) := by decide +kernel
theorem d129_58 : decode cX8_sets 58 = .ok (.iload_n 1, 1) := by decide +kernel
theorem d129_59 : decode cX8_sets 59 = .ok (.bipush 115, 2) := by decide +kernel
theorem d129_61 : decode cX8_sets 61 = .ok (.if_icmp .ne 17, 3) := by decide +kernel
theorem d129_64 : decode cX8_sets 64 = .ok (.aload_n 0, 1) := by decide +kernel
theorem d129_65 : decode cX8_sets 65 = .ok (.iload_n 2, 1) := by decide +kernel
theorem d129_66 : decode cX8_sets 66 = .ok (.iconst 1, 1) := by decide +kernel
theorem d129_67 : decode cX8_sets 67 = .ok (.if_icmp .ne 7, 3) := by decide +kernel
theorem d129_70 : decode cX8_sets 70 = .ok (.iconst 1, 1) := by decide +kernel
theorem d129_71 : decode cX8_sets 71 = .ok (.goto 4, 3) := by decide +kernel
theorem d129_74 : decode cX8_sets 74 = .ok (.iconst 0, 1) := by decide +kernel
theorem d129_75 : decode cX8_sets 75 = .ok (.putfield 83, 3) := by decide +kernel
theorem d129_78 : decode cX8_sets 78 = .ok (.iload_n 1, 1) := by decide +kernel
theorem d129_79 : decode cX8_sets 79 = .ok (.bipush 102, 2) := by decide +kernel
theorem d129_81 : decode cX8_sets 81 = .ok (.if_icmp .ne 8, 3) := by decide +kernel
theorem d129_84 : decode cX8_sets 84 = .ok (.aload_n 0, 1) := by decide +kernel
theorem d129_85 : decode cX8_sets 85 = .ok (.iload_n 2, 1) := by decide +kernel
theorem d129_86 : decode cX8_sets 86 = .ok (.putfield 73, 3) := by decide +kernel
theorem d129_89 : decode cX8_sets 89 = .ok (.iload_n 1, 1) := by decide +kernel
theorem d129_90 : decode cX8_sets 90 = .ok (.bipush 109, 2) := by decide +kernel
theorem d129_92 : decode cX8_sets 92 = .ok (.if_icmp .ne 17, 3) := by decide +kernel
theorem d129_95 : decode cX8_sets 95 = .ok (.aload_n 0, 1) := by decide +kernel
theorem d129_96 : decode cX8_sets 96 = .ok (.iload_n 2, 1) := by decide +kernel
theorem d129_97 : decode cX8_sets 97 = .ok (.iconst 1, 1) := by decide +kernel
theorem d129_98 : decode cX8_sets 98 = .ok (.if_icmp .ne 7, 3) := by decide +kernel
theorem d129_101 : decode cX8_sets 101 = .ok (.iconst 1, 1) := by decide +kernel
theorem d129_102 : decode cX8_sets 102 = .ok (.goto 4, 3) := by decide +kernel
theorem d129_105 : decode cX8_sets 105 = .ok (.iconst 0, 1) := by decide +kernel
theorem d129_106 : decode cX8_sets 106 = .ok (.putfield 79, 3) := by decide +kernel
theorem d129_109 : decode cX8_sets 109 = .ok (.iload_n 1, 1) := by decide +kernel
theorem d129_110 : decode cX8_sets 110 = .ok (.bipush 111, 2) := by decide +kernel
theorem d129_112 : decode cX8_sets 112 = .ok (.if_icmp .ne 8, 3) := by decide +kernel
theorem d129_115 : decode cX8_sets 115 = .ok (.aload_n 0, 1) := by decide +kernel
theorem d129_116 : decode cX8_sets 116 = .ok (.iload_n 2, 1) := by decide +kernel
theorem d129_117 : decode cX8_sets 117 = .ok (.putfield 76, 3) := by decide +kernel
theorem d129_120 : decode cX8_sets 120 = .ok (.iload_n 1, 1) := by decide +kernel
theorem d129_121 : decode cX8_sets 121 = .ok (.bipush 118, 2) := by decide +kernel
theorem d129_123 : decode cX8_sets 123 = .ok (.if_icmp .ne 32, 3) := by decide +kernel
theorem d129_126 : decode cX8_sets 126 = .ok (.aload_n 0, 1) := by decide +kernel
theorem d129_127 : decode cX8_sets 127 = .ok (.getfield 38, 3) := by decide +kernel
theorem d129_130 : decode cX8_sets 130 = .ok (.iload_n 2, 1) := by decide +kernel
theorem d129_131 : decode cX8_sets 131 = .ok (.bipush (-50), 2) := by decide +kernel
theorem d129_133 : decode cX8_sets 133 = .ok (.iload_n 3, 1) := by decide +kernel
theorem d129_134 : decode cX8_sets 134 = .ok (.iload 4, 2) := by decide +kernel
theorem d129_136 : decode cX8_sets 136 = .ok (.iadd, 1) := by decide +kernel
theorem d129_137 : decode cX8_sets 137 = .ok (.bipush 50, 2) := by decide +kernel
theorem d129_139 : decode cX8_sets 139 = .ok (.if_icmp .ge 10, 3) := by decide +kernel
theorem d129_142 : decode cX8_sets 142 = .ok (.iload_n 3, 1) := by decide +kernel
theorem d129_143 : decode cX8_sets 143 = .ok (.iload 4, 2) := by decide +kernel
theorem d129_145 : decode cX8_sets 145 = .ok (.iadd, 1) := by decide +kernel
theorem d129_146 : decode cX8_sets 146 = .ok (.goto 5, 3) := by decide +kernel
theorem d129_149 : decode cX8_sets 149 = .ok (.bipush 50, 2) := by decide +kernel
theorem d129_151 : decode cX8_sets 151 = .ok (.invokestatic 141, 3) := by decide +kernel
theorem d129_154 : decode cX8_sets 154 = .ok (.iastore, 1) := by decide +kernel
theorem d129_155 : decode cX8_sets 155 = .ok (.bipush 45, 2) := by decide +kernel
theorem d129_157 : decode cX8_sets 157 = .ok (.ireturn, 1) := by decide +kernel
theorem v129_0 : am_all (am_V9 129) am_l129_0 := ⟨Or.inr ⟨1, d129_0, rfl, rfl, rfl, trivial, trivial⟩, Or.inr ⟨2, d129_1, rfl, rfl, am_eq9 (by decide +kernel), trivial, trivial⟩, Or.inr ⟨3, d129_3, rfl, rfl, rfl, trivial, trivial⟩, Or.inr ⟨2, d129_6, rfl, rfl, am_eq9 (by decide +kernel), trivial, trivial⟩, Or.inr ⟨3, d129_8, rfl, rfl, rfl, trivial, trivial⟩, Or.inr ⟨1, d129_11, rfl, rfl, rfl, trivial, trivial⟩, Or.inr ⟨2, d129_12, rfl, rfl, am_eq9 (by decide +kernel), trivial, trivial⟩, Or.inr ⟨3, d129_14, rfl, rfl, rfl, trivial, trivial⟩, Or.inr ⟨1, d129_17, rfl, rfl, am_eq9 (by decide +kernel), trivial, trivial⟩, Or.inr ⟨3, d129_18, rfl, rfl, rfl, trivial, trivial⟩, Or.inr ⟨1, d129_21, rfl, rfl, rfl, trivial, trivial⟩, Or.inr ⟨2, d129_22, rfl, rfl, am_eq9 (by decide +kernel), trivial, trivial⟩, Or.inr ⟨3, d129_24, rfl, rfl, rfl, trivial, trivial⟩, Or.inr ⟨2, d129_27, rfl, rfl, am_eq9 (by decide +kernel), trivial, trivial⟩, Or.inr ⟨3, d129_29, rfl, rfl, rfl, trivial, trivial⟩, Or.inr ⟨1, d129_32, rfl, rfl, am_eq9 (by decide +kernel), trivial, trivial⟩, Or.inr ⟨2, d129_33, rfl, rfl, rfl, trivial, trivial⟩, Or.inr ⟨1, d129_35, rfl, rfl, rfl, trivial, trivial⟩, Or.inr ⟨1, d129_36, rfl, rfl, rfl, trivial, trivial⟩, Or.inr ⟨2, d129_37, rfl, rfl, am_eq9 (by decide +kernel), trivial, trivial⟩, Or.inr ⟨3, d129_39, rfl, rfl, rfl, trivial, trivial⟩, Or.inr ⟨1, d129_42, rfl, rfl, am_eq9 (by decide +kernel), trivial, trivial⟩, Or.inr ⟨3, d129_43, rfl, rfl, rfl, trivial, trivial⟩, Or.inr ⟨1, d129_46, rfl, rfl, am_eq9 (by decide +kernel), trivial, trivial⟩, trivial⟩
theorem v129_1 : am_all (am_V9 129) am_l129_1 := ⟨Or.inr ⟨2, d129_47, rfl, rfl, rfl, trivial, trivial⟩, Or.inr ⟨3, d129_49, rfl, rfl, trivial, trivial, Or.inr ⟨by decide, okM_97, aw_1017, Or.inl ⟨rfl, aw_1016⟩⟩⟩, Or.inr ⟨3, d129_52, rfl, rfl, rfl, trivial, trivial⟩, Or.inr ⟨2, d129_55, rfl, rfl, am_eq9 (by decide +kernel), trivial, trivial⟩, Or.inr ⟨1, d129_57, rfl, rfl, trivial, trivial, trivial⟩, Or.inr ⟨1, d129_58, rfl, rfl, rfl, trivial, trivial⟩, Or.inr ⟨2, d129_59, rfl, rfl, am_eq9 (by decide +kernel), trivial, trivial⟩, Or.inr ⟨3, d129_61, rfl, rfl, rfl, trivial, trivial⟩, Or.inr ⟨1, d129_64, rfl, rfl, rfl, trivial, trivial⟩, Or.inr ⟨1, d129_65, rfl, rfl, rfl, trivial, trivial⟩, Or.inr ⟨1, d129_66, rfl, rfl, am_eq9 (by decide +kernel), trivial, trivial⟩, Or.inr ⟨3, d129_67, rfl, rfl, rfl, trivial, trivial⟩, Or.inr ⟨1, d129_70, rfl, rfl, am_eq9 (by decide +kernel), trivial, trivial⟩, Or.inr ⟨3, d129_71, rfl, rfl, rfl, trivial, trivial⟩, Or.inr ⟨1, d129_74, rfl, rfl, am_eq9 (by decide +kernel), trivial, trivial⟩, Or.inr ⟨3, d129_75, rfl, rfl, trivial, ⟨RX8, TX8, 27, rfl, by decide, aw_945, Or.inl rfl⟩, trivial⟩, Or.inr ⟨1, d129_78, rfl, rfl, rfl, trivial, trivial⟩, Or.inr ⟨2, d129_79, rfl, rfl, am_eq9 (by decide +kernel), trivial, trivial⟩, Or.inr ⟨3, d129_81, rfl, rfl, rfl, trivial, trivial⟩, Or.inr ⟨1, d129_84, rfl, rfl, rfl, trivial, trivial⟩, Or.inr ⟨1, d129_85, rfl, rfl, rfl, trivial, trivial⟩, Or.inr ⟨3, d129_86, rfl, rfl, trivial, ⟨RX8, TX8, 27, rfl, by decide, aw_942, Or.inl rfl⟩, trivial⟩, Or.inr ⟨1, d129_89, rfl, rfl, rfl, trivial, trivial⟩, Or.inr ⟨2, d129_90, rfl, rfl, am_eq9 (by decide +kernel), trivial, trivial⟩, trivial⟩
theorem v129_2 : am_all (am_V9 129) am_l129_2 := ⟨Or.inr ⟨3, d129_92, rfl, rfl, rfl, trivial, trivial⟩, Or.inr ⟨1, d129_95, rfl, rfl, rfl, trivial, trivial⟩, Or.inr ⟨1, d129_96, rfl, rfl, rfl, trivial, trivial⟩, Or.inr ⟨1, d129_97, rfl, rfl, am_eq9 (by decide +kernel), trivial, trivial⟩, Or.inr ⟨3, d129_98, rfl, rfl, rfl, trivial, trivial⟩, Or.inr ⟨1, d129_101, rfl, rfl, am_eq9 (by decide +kernel), trivial, trivial⟩, Or.inr ⟨3, d129_102, rfl, rfl, rfl, trivial, trivial⟩, Or.inr ⟨1, d129_105, rfl, rfl, am_eq9 (by decide +kernel), trivial, trivial⟩, Or.inr ⟨3, d129_106, rfl, rfl, trivial, ⟨RX8, TX8, 27, rfl, by decide, aw_944, Or.inl rfl⟩, trivial⟩, Or.inr ⟨1, d129_109, rfl, rfl, rfl, trivial, trivial⟩, Or.inr ⟨2, d129_110, rfl, rfl, am_eq9 (by decide +kernel), trivial, trivial⟩, Or.inr ⟨3, d129_112, rfl, rfl, rfl, trivial, trivial⟩, Or.inr ⟨1, d129_115, rfl, rfl, rfl, trivial, trivial⟩, Or.inr ⟨1, d129_116, rfl, rfl, rfl, trivial, trivial⟩, Or.inr ⟨3, d129_117, rfl, rfl, trivial, ⟨RX8, TX8, 27, rfl, by decide, aw_943, Or.inl rfl⟩, trivial⟩, Or.inr ⟨1, d129_120, rfl, rfl, rfl, trivial, trivial⟩, Or.inr ⟨2, d129_121, rfl, rfl, am_eq9 (by decide +kernel), trivial, trivial⟩, Or.inr ⟨3, d129_123, rfl, rfl, rfl, trivial, trivial⟩, Or.inr ⟨1, d129_126, rfl, rfl, rfl, trivial, trivial⟩, Or.inr ⟨3, d129_127, rfl, rfl, trivial, ⟨RX8, TX8, 27, rfl, by decide, Or.inl aw_931⟩, trivial⟩, Or.inr ⟨1, d129_130, rfl, rfl, rfl, trivial, trivial⟩, Or.inr ⟨2, d129_131, rfl, rfl, am_eq9 (by decide +kernel), trivial, trivial⟩, Or.inr ⟨1, d129_133, rfl, rfl, rfl, trivial, trivial⟩, Or.inr ⟨2, d129_134, rfl, rfl, rfl, trivial, trivial⟩, trivial⟩
theorem v129_3 : am_all (am_V9 129) am_l129_3 := ⟨Or.inr ⟨1, d129_136, rfl, rfl, trivial, trivial, trivial⟩, Or.inr ⟨2, d129_137, rfl, rfl, am_eq9 (by decide +kernel), trivial, trivial⟩, Or.inr ⟨3, d129_139, rfl, rfl, rfl, trivial, trivial⟩, Or.inr ⟨1, d129_142, rfl, rfl, rfl, trivial, trivial⟩, Or.inr ⟨2, d129_143, rfl, rfl, rfl, trivial, trivial⟩, Or.inr ⟨1, d129_145, rfl, rfl, trivial, trivial, trivial⟩, Or.inr ⟨3, d129_146, rfl, rfl, rfl, trivial, trivial⟩, Or.inr ⟨2, d129_149, rfl, rfl, am_eq9 (by decide +kernel), trivial, trivial⟩, Or.inr ⟨3, d129_151, rfl, rfl, trivial, trivial, Or.inr ⟨by decide, okM_120, aw_1099, Or.inl ⟨rfl, aw_1098⟩⟩⟩, Or.inr ⟨1, d129_154, rfl, rfl, trivial, trivial, trivial⟩, Or.inr ⟨2, d129_155, rfl, rfl, am_eq9 (by decide +kernel), trivial, trivial⟩, Or.inr ⟨1, d129_157, rfl, rfl, trivial, trivial, trivial⟩, trivial⟩
theorem v129 : ∀ pc, am_V9 129 pc ((am_G 129).2.2.2.2.1 pc) := am_all_lc am_V9_0 _ ⟨v129_0, v129_1, v129_2, v129_3, trivial⟩
theorem d130_0 : decode cX8_branches 0 = .ok (.iload_n 1, 1) := by decide +kernel
theorem d130_1 : decode cX8_branches 1 = .ok (.bipush 114, 2) := by decide +kernel
theorem d130_3 : decode cX8_branches 3 = .ok (.if_icmp .ne 16, 3) := by decide +kernel
theorem d130_6 : decode cX8_branches 6 = .ok (.iload_n 2, 1) := by decide +kernel
theorem d130_7 : decode cX8_branches 7 = .ok (.iconst 0, 1) := by decide +kernel
theorem d130_8 : decode cX8_branches 8 = .ok (.bipush 9, 2) := by decide +kernel
theorem d130_10 : decode cX8_branches 10 = .ok (.invokestatic 100, 3) := by decide +kernel
theorem d130_13 : decode cX8_branches 13 = .ok (.ifCond .ne 6, 3) := by decide +kernel
theorem d130_16 : decode cX8_branches 16 = .ok (.bipush 110, 2) := by decide +kernel
theorem d130_18 : decode cX8_branches 18 = .ok (.ireturn, 1) := by decide +kernel
theorem d130_19 : decode cX8_branches 19 = .ok (.iload_n 1, 1) := by decide +kernel
theorem d130_20 : decode cX8_branches 20 = .ok (.bipush 114, 2) := by decide +kernel
theorem d130_22 : decode cX8_branches 22 = .ok (.if_icmp .ne 15, 3) := by decide +kernel
theorem d130_25 : decode cX8_branches 25 = .ok (.iload_n 2, 1) := by decide +kernel
theorem d130_26 : decode cX8_branches 26 = .ok (.ifCond .le 7, 3) := by decide +kernel
theorem d130_29 : decode cX8_branches 29 = .ok (.iconst 1, 1) := by decide +kernel
theorem d130_30 : decode cX8_branches 30 = .ok (.goto 17, 3) := by decide +kernel
theorem d130_33 : decode cX8_branches 33 = .ok (.iconst 0, 1) := by decide +kernel
theorem d130_34 : decode cX8_branches 34 = .ok (.goto 13, 3) := by decide +kernel
theorem d130_37 : decode cX8_branches 37 = .ok (.iload_n 2, 1) := by decide +kernel
theorem d130_38 : decode cX8_branches 38 = .ok (.iload_n 3, 1) := by decide +kernel
theorem d130_39 : decode cX8_branches 39 = .ok (.if_icmp .le 7, 3) := by decide +kernel
theorem d130_42 : decode cX8_branches 42 = .ok (.iconst 1, 1) := by decide +kernel
theorem d130_43 : decode cX8_branches 43 = .ok (.goto 4, 3) := by decide +kernel
theorem d130_46 : decode cX8_branches 46 = .ok (.iconst 0, 1) := by decide +kernel
theorem d130_47 : decode cX8_branches 47 = .ok (.istore 4, 2) := by decide +kernel
theorem d130_49 : decode cX8_branches 49 = .ok (.aload_n 0, 1) := by decide +kernel
theorem d130_50 : decode cX8_branches 50 = .ok (.getfield 35, 3) := by decide +kernel
theorem d130_53 : decode cX8_branches 53 = .ok (.aload_n 0, 1) := by decide +kernel
theorem d130_54 : decode cX8_branches 54 = .ok (.getfield 64, 3) := by decide +kernel
theorem d130_57 : decode cX8_branches 57 = .ok (.iload_n 2, 1) := by decide +kernel
theorem d130_58 : decode cX8_branches 58 = .ok (.iastore, 1) := by decide +kernel
theorem d130_59 : decode cX8_branches 59 = .ok (.aload_n 0, 1) := by decide +kernel
theorem d130_60 : decode cX8_branches 60 = .ok (.iload 4, 2) := by decide +kernel
theorem d130_62 : decode cX8_branches 62 = .ok (.ifCond .eq 10, 3) := by decide +kernel
theorem d130_65 : decode cX8_branches 65 = .ok (.aload_n 0, 1) := by decide +kernel
theorem d130_66 : decode cX8_branches 66 = .ok (.getfield 64, 3) := by decide +kernel
theorem d130_69 : decode cX8_branches 69 = .ok (.goto 11, 3) := by decide +kernel
theorem d130_72 : decode cX8_branches 72 = .ok (.aload_n 0, 1) := by decide +kernel
theorem d130_73 : decode cX8_branches 73 = .ok (.aload_n 0, 1) := by decide +kernel
theorem d130_74 : decode cX8_branches 74 = .ok (.getfield 64, 3) := by decide +kernel
theorem d130_77 : decode cX8_branches 77 = .ok (.invokevirtual 171, 3) := by decide +kernel
theorem d130_80 : decode cX8_branches 80 = .ok (.putfield 64, 3) := by decide +kernel
theorem d130_83 : decode cX8_branches 83 = .ok (.bipush 45, 2) := by decide +kernel
theorem d130_85 : decode cX8_branches 85 = .ok (.ireturn, 1) := by decide +kernel
theorem v130_0 : am_all (am_V9 130) am_l130_0 := ⟨Or.inr ⟨1, d130_0, rfl, rfl, rfl, trivial, trivial⟩, Or.inr ⟨2, d130_1, rfl, rfl, am_eq9 (by decide +kernel), trivial, trivial⟩, Or.inr ⟨3, d130_3, rfl, rfl, rfl, trivial, trivial⟩, Or.inr ⟨1, d130_6, rfl, rfl, rfl, trivial, trivial⟩, Or.inr ⟨1, d130_7, rfl, rfl, am_eq9 (by decide +kernel), trivial, trivial⟩, Or.inr ⟨2, d130_8, rfl, rfl, am_eq9 (by decide +kernel), trivial, trivial⟩, Or.inr ⟨3, d130_10, rfl, rfl, trivial, trivial, Or.inr ⟨by decide, okM_97, aw_1017, Or.inl ⟨rfl, aw_1016⟩⟩⟩, Or.inr ⟨3, d130_13, rfl, rfl, rfl, trivial, trivial⟩, Or.inr ⟨2, d130_16, rfl, rfl, am_eq9 (by decide +kernel), trivial, trivial⟩, Or.inr ⟨1, d130_18, rfl, rfl, trivial, trivial, trivial⟩, Or.inr ⟨1, d130_19, rfl, rfl, rfl, trivial, trivial⟩, Or.inr ⟨2, d130_20, rfl, rfl, am_eq9 (by decide +kernel), trivial, trivial⟩, Or.inr ⟨3, d130_22, rfl, rfl, rfl, trivial, trivial⟩, Or.inr ⟨1, d130_25, rfl, rfl, rfl, trivial, trivial⟩, Or.inr ⟨3, d130_26, rfl, rfl, rfl, trivial, trivial⟩, Or.inr ⟨1, d130_29, rfl, rfl, am_eq9 (by decide +kernel), trivial, trivial⟩, Or.inr ⟨3, d130_30, rfl, rfl, rfl, trivial, trivial⟩, Or.inr ⟨1, d130_33, rfl, rfl, am_eq9 (by decide +kernel), trivial, trivial⟩, Or.inr ⟨3, d130_34, rfl, rfl, rfl, trivial, trivial⟩, Or.inr ⟨1, d130_37, rfl, rfl, rfl, trivial, trivial⟩, Or.inr ⟨1, d130_38, rfl, rfl, rfl, trivial, trivial⟩, Or.inr ⟨3, d130_39, rfl, rfl, rfl, trivial, trivial⟩, Or.inr ⟨1, d130_42, rfl, rfl, am_eq9 (by decide +kernel), trivial, trivial⟩, Or.inr ⟨3, d130_43, rfl, rfl, rfl, trivial, trivial⟩, trivial⟩
theorem v130_1 : am_all (am_V9 130) am_l130_1 := ⟨Or.inr ⟨1, d130_46, rfl, rfl, am_eq9 (by decide +kernel), trivial, trivial⟩, Or.inr ⟨2, d130_47, rfl, rfl, rfl, trivial, trivial⟩, Or.inr ⟨1, d130_49, rfl, rfl, rfl, trivial, trivial⟩, Or.inr ⟨3, d130_50, rfl, rfl, trivial, ⟨RX8, TX8, 27, rfl, by decide, Or.inl aw_930⟩, trivial⟩, Or.inr ⟨1, d130_53, rfl, rfl, rfl, trivial, trivial⟩, Or.inr ⟨3, d130_54, rfl, rfl, trivial, ⟨RX8, TX8, 27, rfl, by decide, Or.inl aw_939⟩, trivial⟩, Or.inr ⟨1, d130_57, rfl, rfl, rfl, trivial, trivial⟩, Or.inr ⟨1, d130_58, rfl, rfl, trivial, trivial, trivial⟩, Or.inr ⟨1, d130_59, rfl, rfl, rfl, trivial, trivial⟩, Or.inr ⟨2, d130_60, rfl, rfl, rfl, trivial, trivial⟩, Or.inr ⟨3, d130_62, rfl, rfl, rfl, trivial, trivial⟩, Or.inr ⟨1, d130_65, rfl, rfl, rfl, trivial, trivial⟩, Or.inr ⟨3, d130_66, rfl, rfl, trivial, ⟨RX8, TX8, 27, rfl, by decide, Or.inl aw_939⟩, trivial⟩, Or.inr ⟨3, d130_69, rfl, rfl, rfl, trivial, trivial⟩, Or.inr ⟨1, d130_72, rfl, rfl, rfl, trivial, trivial⟩, Or.inr ⟨1, d130_73, rfl, rfl, rfl, trivial, trivial⟩, Or.inr ⟨3, d130_74, rfl, rfl, trivial, ⟨RX8, TX8, 27, rfl, by decide, Or.inl aw_939⟩, trivial⟩, Or.inr ⟨3, d130_77, rfl, rfl, trivial, trivial, ⟨by decide, ⟨_, TX8, 27, rfl, okM_114, rfl⟩, aw_1130, aw_1132, as_114⟩⟩, Or.inr ⟨3, d130_80, rfl, rfl, trivial, ⟨RX8, TX8, 27, rfl, by decide, aw_939, Or.inl rfl⟩, trivial⟩, Or.inr ⟨2, d130_83, rfl, rfl, am_eq9 (by decide +kernel), trivial, trivial⟩, Or.inr ⟨1, d130_85, rfl, rfl, trivial, trivial, trivial⟩, trivial⟩
theorem v130 : ∀ pc, am_V9 130 pc ((am_G 130).2.2.2.2.1 pc) := am_all_lc am_V9_0 _ ⟨v130_0, v130_1, trivial⟩
theorem d131_0 : decode cX8_closes 0 = .ok (.aload_n 0, 1) := by decide +kernel
theorem d131_1 : decode cX8_closes 1 = .ok (.aload_n 0, 1) := by decide +kernel
theorem d131_2 : decode cX8_closes 2 = .ok (.getfield 64, 3) := by decide +kernel
theorem d131_5 : decode cX8_closes 5 = .ok (.invokevirtual 174, 3) := by decide +kernel
theorem d131_8 : decode cX8_closes 8 = .ok (.istore_n 1, 1) := by decide +kernel
theorem d131_9 : decode cX8_closes 9 = .ok (.aload_n 0, 1) := by decide +kernel
theorem d131_10 : decode cX8_closes 10 = .ok (.getfield 13, 3) := by decide +kernel
theorem d131_13 : decode cX8_closes 13 = .ok (.iload_n 1, 1) := by decide +kernel
theorem d131_14 : decode cX8_closes 14 = .ok (.caload, 1) := by decide +kernel
theorem d131_15 : decode cX8_closes 15 = .ok (.bipush 105, 2) := by decide +kernel
theorem d131_17 : decode cX8_closes 17 = .ok (.if_icmp .ne 4, 3) := by decide +kernel
theorem d131_20 : decode cX8_closes 20 = .ok (.return_, 1) := by decide +kernel
theorem d131_21 : decode cX8_closes 21 = .ok (.aload_n 0, 1) := by decide +kernel
theorem d131_22 : decode cX8_closes 22 = .ok (.getfield 35, 3) := by decide +kernel
theorem d131_25 : decode cX8_closes 25 = .ok (.iload_n 1, 1) := by decide +kernel
theorem d131_26 : decode cX8_closes 26 = .ok (.dup2, 1) := by decide +kernel
theorem d131_27 : decode cX8_closes 27 = .ok (.iaload, 1) := by decide +kernel
theorem d131_28 : decode cX8_closes 28 = .ok (.iconst 1, 1) := by decide +kernel
theorem d131_29 : decode cX8_closes 29 = .ok (.isub, 1) := by decide +kernel
theorem d131_30 : decode cX8_closes 30 = .ok (.iastore, 1) := by decide +kernel
theorem d131_31 : decode cX8_closes 31 = .ok (.aload_n 0, 1) := by decide +kernel
theorem d131_32 : decode cX8_closes 32 = .ok (.getfield 35, 3) := by decide +kernel
theorem d131_35 : decode cX8_closes 35 = .ok (.iload_n 1, 1) := by decide +kernel
theorem d131_36 : decode cX8_closes 36 = .ok (.iaload, 1) := by decide +kernel
theorem d131_37 : decode cX8_closes 37 = .ok (.ifCond .le 8, 3) := by decide +kernel
theorem d131_40 : decode cX8_closes 40 = .ok (.aload_n 0, 1) := by decide +kernel
theorem d131_41 : decode cX8_closes 41 = .ok (.iload_n 1, 1) := by decide +kernel
theorem d131_42 : decode cX8_closes 42 = .ok (.putfield 64, 3) := by decide +kernel
theorem d131_45 : decode cX8_closes 45 = .ok (.return_, 1) := by decide +kernel
theorem v131_0 : am_all (am_V9 131) am_l131_0 := ⟨Or.inr ⟨1, d131_0, rfl, rfl, rfl, trivial, trivial⟩, Or.inr ⟨1, d131_1, rfl, rfl, rfl, trivial, trivial⟩, Or.inr ⟨3, d131_2, rfl, rfl, trivial, ⟨RX8, TX8, 27, rfl, by decide, Or.inl aw_939⟩, trivial⟩, Or.inr ⟨3, d131_5, rfl, rfl, trivial, trivial, ⟨by decide, ⟨_, TX8, 27, rfl, okM_115, rfl⟩, aw_1142, aw_1144, as_115⟩⟩, Or.inr ⟨1, d131_8, rfl, rfl, rfl, trivial, trivial⟩, Or.inr ⟨1, d131_9, rfl, rfl, rfl, trivial, trivial⟩, Or.inr ⟨3, d131_10, rfl, rfl, trivial, ⟨RX8, TX8, 27, rfl, by decide, Or.inl aw_923⟩, trivial⟩, Or.inr ⟨1, d131_13, rfl, rfl, rfl, trivial, trivial⟩, Or.inr ⟨1, d131_14, rfl, rfl, trivial, trivial, trivial⟩, Or.inr ⟨2, d131_15, rfl, rfl, am_eq9 (by decide +kernel), trivial, trivial⟩, Or.inr ⟨3, d131_17, rfl, rfl, rfl, trivial, trivial⟩, Or.inr ⟨1, d131_20, rfl, rfl, trivial, trivial, trivial⟩, Or.inr ⟨1, d131_21, rfl, rfl, rfl, trivial, trivial⟩, Or.inr ⟨3, d131_22, rfl, rfl, trivial, ⟨RX8, TX8, 27, rfl, by decide, Or.inl aw_930⟩, trivial⟩, Or.inr ⟨1, d131_25, rfl, rfl, rfl, trivial, trivial⟩, Or.inr ⟨1, d131_26, rfl, rfl, trivial, trivial, trivial⟩, Or.inr ⟨1, d131_27, rfl, rfl, trivial, trivial, trivial⟩, Or.inr ⟨1, d131_28, rfl, rfl, am_eq9 (by decide +kernel), trivial, trivial⟩, Or.inr ⟨1, d131_29, rfl, rfl, trivial, trivial, trivial⟩, Or.inr ⟨1, d131_30, rfl, rfl, trivial, trivial, trivial⟩, Or.inr ⟨1, d131_31, rfl, rfl, rfl, trivial, trivial⟩, Or.inr ⟨3, d131_32, rfl, rfl, trivial, ⟨RX8, TX8, 27, rfl, by decide, Or.inl aw_930⟩, trivial⟩, Or.inr ⟨1, d131_35, rfl, rfl, rfl, trivial, trivial⟩, Or.inr ⟨1, d131_36, rfl, rfl, trivial, trivial, trivial⟩, trivial⟩
theorem v131_1 : am_all (am_V9 131) am_l131_1 := ⟨Or.inr ⟨3, d131_37, rfl, rfl, rfl, trivial, trivial⟩, Or.inr ⟨1, d131_40, rfl, rfl, rfl, trivial, trivial⟩, Or.inr ⟨1, d131_41, rfl, rfl, rfl, trivial, trivial⟩, Or.inr ⟨3, d131_42, rfl, rfl, trivial, ⟨RX8, TX8, 27, rfl, by decide, aw_939, Or.inl rfl⟩, trivial⟩, Or.inr ⟨1, d131_45, rfl, rfl, trivial, trivial, trivial⟩, trivial⟩
theorem v131 : ∀ pc, am_V9 131 pc ((am_G 131).2.2.2.2.1 pc) := am_all_lc am_V9_0 _ ⟨v131_0, v131_1, trivial⟩
theorem d132_0 : decode cX8_value 0 = .ok (.iload_n 1, 1) := by decide +kernel
theorem d132_1 : decode cX8_value 1 = .ok (.bipush 100, 2) := by decide +kernel
theorem d132_3 : decode cX8_value 3 = .ok (.if_icmp .lt 15, 3) := by decide +kernel
theorem d132_6 : decode cX8_value 6 = .ok (.aload_n 0, 1) := by decide +kernel
theorem d132_7 : decode cX8_value 7 = .ok (.getfield 38, 3) := by decide +kernel
theorem d132_10 : decode cX8_value 10 = .ok (.iload_n 1, 1) := by decide +kernel
theorem d132_11 : decode cX8_value 11 = .ok (.bipush 100, 2) := by decide +kernel
theorem d132_13 : decode cX8_value 13 = .ok (.isub, 1) := by decide +kernel
theorem d132_14 : decode cX8_value 14 = .ok (.iaload, 1) := by decide +kernel
theorem d132_15 : decode cX8_value 15 = .ok (.goto 4, 3) := by decide +kernel
theorem d132_18 : decode cX8_value 18 = .ok (.iload_n 1, 1) := by decide +kernel
theorem d132_19 : decode cX8_value 19 = .ok (.ireturn, 1) := by decide +kernel
theorem v132_0 : am_all (am_V9 132) am_l132_0 := ⟨Or.inr ⟨1, d132_0, rfl, rfl, rfl, trivial, trivial⟩, Or.inr ⟨2, d132_1, rfl, rfl, am_eq9 (by decide +kernel), trivial, trivial⟩, Or.inr ⟨3, d132_3, rfl, rfl, rfl, trivial, trivial⟩, Or.inr ⟨1, d132_6, rfl, rfl, rfl, trivial, trivial⟩, Or.inr ⟨3, d132_7, rfl, rfl, trivial, ⟨RX8, TX8, 27, rfl, by decide, Or.inl aw_931⟩, trivial⟩, Or.inr ⟨1, d132_10, rfl, rfl, rfl, trivial, trivial⟩, Or.inr ⟨2, d132_11, rfl, rfl, am_eq9 (by decide +kernel), trivial, trivial⟩, Or.inr ⟨1, d132_13, rfl, rfl, trivial, trivial, trivial⟩, Or.inr ⟨1, d132_14, rfl, rfl, trivial, trivial, trivial⟩, Or.inr ⟨3, d132_15, rfl, rfl, rfl, trivial, trivial⟩, Or.inr ⟨1, d132_18, rfl, rfl, rfl, trivial, trivial⟩, Or.inr ⟨1, d132_19, rfl, rfl, trivial, trivial, trivial⟩, trivial⟩
theorem v132 : ∀ pc, am_V9 132 pc ((am_G 132).2.2.2.2.1 pc) := am_all_lc am_V9_0 _ ⟨v132_0, trivial⟩
theorem d133_0 : decode cX8_carries 0 = .ok (.aload_n 0, 1) := by decide +kernel
theorem d133_1 : decode cX8_carries 1 = .ok (.getfield 13, 3) := by decide +kernel
theorem d133_4 : decode cX8_carries 4 = .ok (.aload_n 0, 1) := by decide +kernel
theorem d133_5 : decode cX8_carries 5 = .ok (.getfield 64, 3) := by decide +kernel
theorem d133_8 : decode cX8_carries 8 = .ok (.caload, 1) := by decide +kernel
theorem d133_9 : decode cX8_carries 9 = .ok (.istore_n 1, 1) := by decide +kernel
theorem d133_10 : decode cX8_carries 10 = .ok (.aload_n 0, 1) := by decide +kernel
theorem d133_11 : decode cX8_carries 11 = .ok (.aload_n 0, 1) := by decide +kernel
theorem d133_12 : decode cX8_carries 12 = .ok (.getfield 26, 3) := by decide +kernel
theorem d133_15 : decode cX8_carries 15 = .ok (.aload_n 0, 1) := by decide +kernel
theorem d133_16 : decode cX8_carries 16 = .ok (.getfield 64, 3) := by decide +kernel
theorem d133_19 : decode cX8_carries 19 = .ok (.iaload, 1) := by decide +kernel
theorem d133_20 : decode cX8_carries 20 = .ok (.invokevirtual 177, 3) := by decide +kernel
theorem d133_23 : decode cX8_carries 23 = .ok (.istore_n 2, 1) := by decide +kernel
theorem d133_24 : decode cX8_carries 24 = .ok (.aload_n 0, 1) := by decide +kernel
theorem d133_25 : decode cX8_carries 25 = .ok (.aload_n 0, 1) := by decide +kernel
theorem d133_26 : decode cX8_carries 26 = .ok (.getfield 29, 3) := by decide +kernel
theorem d133_29 : decode cX8_carries 29 = .ok (.aload_n 0, 1) := by decide +kernel
theorem d133_30 : decode cX8_carries 30 = .ok (.getfield 64, 3) := by decide +kernel
theorem d133_33 : decode cX8_carries 33 = .ok (.iaload, 1) := by decide +kernel
theorem d133_34 : decode cX8_carries 34 = .ok (.invokevirtual 177, 3) := by decide +kernel
theorem d133_37 : decode cX8_carries 37 = .ok (.istore_n 3, 1) := by decide +kernel
theorem d133_38 : decode cX8_carries 38 = .ok (.aload_n 0, 1) := by decide +kernel
theorem d133_39 : decode cX8_carries 39 = .ok (.aload_n 0, 1) := by decide +kernel
theorem d133_40 : decode cX8_carries 40 = .ok (.getfield 32, 3) := by decide +kernel
theorem d133_43 : decode cX8_carries 43 = .ok (.aload_n 0, 1) := by decide +kernel
theorem d133_44 : decode cX8_carries 44 = .ok (.getfield 64, 3) := by decide +kernel
theorem d133_47 : decode cX8_carries 47 = .ok (.iaload, 1) := by decide +kernel
theorem d133_48 : decode cX8_carries 48 = .ok (.invokevirtual 177, 3) := by decide +kernel
theorem d133_51 : decode cX8_carries 51 = .ok (.istore 4, 2) := by decide +kernel
theorem d133_53 : decode cX8_carries 53 = .ok (.iload_n 1, 1) := by decide +kernel
theorem d133_54 : decode cX8_carries 54 = .ok (.bipush 103, 2) := by decide +kernel
theorem d133_56 : decode cX8_carries 56 = .ok (.if_icmp .eq 21, 3) := by decide +kernel
theorem d133_59 : decode cX8_carries 59 = .ok (.iload_n 1, 1) := by decide +kernel
theorem d133_60 : decode cX8_carries 60 = .ok (.bipush 108, 2) := by decide +kernel
theorem d133_62 : decode cX8_carries 62 = .ok (.if_icmp .eq 15, 3) := by decide +kernel
theorem d133_65 : decode cX8_carries 65 = .ok (.iload_n 1, 1) := by decide +kernel
theorem d133_66 : decode cX8_carries 66 = .ok (.bipush 100, 2) := by decide +kernel
theorem d133_68 : decode cX8_carries 68 = .ok (.if_icmp .eq 9, 3) := by decide +kernel
theorem d133_71 : decode cX8_carries 71 = .ok (.iload_n 1, 1) := by decide +kernel
theorem d133_72 : decode cX8_carries 72 = .ok (.bipush 112, 2) := by decide +kernel
theorem d133_74 : decode cX8_carries 74 = .ok (.if_icmp .ne 13, 3) := by decide +kernel
theorem d133_77 : decode cX8_carries 77 = .ok (.aload_n 0, 1) := by decide +kernel
theorem d133_78 : decode cX8_carries 78 = .ok (.iload_n 1, 1) := by decide +kernel
theorem d133_79 : decode cX8_carries 79 = .ok (.iload_n 2, 1) := by decide +kernel
theorem d133_80 : decode cX8_carries 80 = .ok (.iload_n 3, 1) := by decide +kernel
theorem d133_81 : decode cX8_carries 81 = .ok (.iload 4, 2) := by decide +kernel
theorem d133_83 : decode cX8_carries 83 = .ok (.invokevirtual 180, 3) := by decide +kernel
theorem d133_86 : decode cX8_carries 86 = .ok (.ireturn, 1) := by decide +kernel
theorem d133_87 : decode cX8_carries 87 = .ok (.iload_n 1, 1) := by decide +kernel
theorem d133_88 : decode cX8_carries 88 = .ok (.bipush 116, 2) := by decide +kernel
theorem d133_90 : decode cX8_carries 90 = .ok (.if_icmp .ne 10, 3) := by decide +kernel
theorem d133_93 : decode cX8_carries 93 = .ok (.aload_n 0, 1) := by decide +kernel
theorem d133_94 : decode cX8_carries 94 = .ok (.iload_n 2, 1) := by decide +kernel
theorem d133_95 : decode cX8_carries 95 = .ok (.iload_n 3, 1) := by decide +kernel
theorem d133_96 : decode cX8_carries 96 = .ok (.invokevirtual 184, 3) := by decide +kernel
theorem d133_99 : decode cX8_carries 99 = .ok (.ireturn, 1) := by decide +kernel
theorem d133_100 : decode cX8_carries 100 = .ok (.iload_n 1, 1) := by decide +kernel
theorem d133_101 : decode cX8_carries 101 = .ok (.bipush 120, 2) := by decide +kernel
theorem d133_103 : decode cX8_carries 103 = .ok (.if_icmp .ne 9, 3) := by decide +kernel
theorem d133_106 : decode cX8_carries 106 = .ok (.aload_n 0, 1) := by decide +kernel
theorem d133_107 : decode cX8_carries 107 = .ok (.iload_n 2, 1) := by decide +kernel
theorem d133_108 : decode cX8_carries 108 = .ok (.invokevirtual 188, 3) := by decide +kernel
theorem d133_111 : decode cX8_carries 111 = .ok (.ireturn, 1) := by decide +kernel
theorem d133_112 : decode cX8_carries 112 = .ok (.iload_n 1, 1) := by decide +kernel
theorem d133_113 : decode cX8_carries 113 = .ok (.bipush 114, 2) := by decide +kernel
theorem d133_115 : decode cX8_carries 115 = .ok (.if_icmp .eq 9, 3) := by decide +kernel
theorem d133_118 : decode cX8_carries 118 = .ok (.iload_n 1, 1) := by decide +kernel
theorem d133_119 : decode cX8_carries 119 = .ok (.bipush 105, 2) := by decide +kernel
theorem d133_121 : decode cX8_carries 121 = .ok (.if_icmp .ne 11, 3) := by decide +kernel
theorem d133_124 : decode cX8_carries 124 = .ok (.aload_n 0, 1) := by decide +kernel
theorem d133_125 : decode cX8_carries 125 = .ok (.iload_n 1, 1) := by decide +kernel
theorem d133_126 : decode cX8_carries 126 = .ok (.iload_n 2, 1) := by decide +kernel
theorem d133_127 : decode cX8_carries 127 = .ok (.iload_n 3, 1) := by decide +kernel
theorem d133_128 : decode cX8_carries 128 = .ok (.invokevirtual 192, 3) := by decide +kernel
theorem d133_131 : decode cX8_carries 131 = .ok (.ireturn, 1) := by decide +kernel
theorem d133_132 : decode cX8_carries 132 = .ok (.iload_n 1, 1) := by decide +kernel
theorem d133_133 : decode cX8_carries 133 = .ok (.bipush 113, 2) := by decide +kernel
theorem d133_135 : decode cX8_carries 135 = .ok (.if_icmp .ne 6, 3) := by decide +kernel
theorem d133_138 : decode cX8_carries 138 = .ok (.bipush 45, 2) := by decide +kernel
theorem d133_140 : decode cX8_carries 140 = .ok (.ireturn, 1) := by decide +kernel
theorem d133_141 : decode cX8_carries 141 = .ok (.iload_n 1, 1) := by decide +kernel
theorem d133_142 : decode cX8_carries 142 = .ok (.bipush 101, 2) := by decide +kernel
theorem d133_144 : decode cX8_carries 144 = .ok (.if_icmp .eq 13, 3) := by decide +kernel
theorem d133_147 : decode cX8_carries 147 = .ok (.aload_n 0, 1) := by decide +kernel
theorem d133_148 : decode cX8_carries 148 = .ok (.iload_n 1, 1) := by decide +kernel
theorem d133_149 : decode cX8_carries 149 = .ok (.iload_n 2, 1) := by decide +kernel
theorem d133_150 : decode cX8_carries 150 = .ok (.iload_n 3, 1) := by decide +kernel
theorem d133_151 : decode cX8_carries 151 = .ok (.iload 4, 2) := by decide +kernel
theorem d133_153 : decode cX8_carries 153 = .ok (.invokevirtual 196, 3) := by decide +kernel
theorem d133_156 : decode cX8_carries 156 = .ok (.ireturn, 1) := by decide +kernel
theorem d133_157 : decode cX8_carries 157 = .ok (.aload_n 0, 1) := by decide +kernel
theorem d133_158 : decode cX8_carries 158 = .ok (.invokevirtual 199, 3) := by decide +kernel
theorem d133_161 : decode cX8_carries 161 = .ok (.bipush 45, 2) := by decide +kernel
theorem d133_163 : decode cX8_carries 163 = .ok (.ireturn, 1) := by decide +kernel
theorem v133_0 : am_all (am_V9 133) am_l133_0 := ⟨Or.inr ⟨1, d133_0, rfl, rfl, rfl, trivial, trivial⟩, Or.inr ⟨3, d133_1, rfl, rfl, trivial, ⟨RX8, TX8, 27, rfl, by decide, Or.inl aw_923⟩, trivial⟩, Or.inr ⟨1, d133_4, rfl, rfl, rfl, trivial, trivial⟩, Or.inr ⟨3, d133_5, rfl, rfl, trivial, ⟨RX8, TX8, 27, rfl, by decide, Or.inl aw_939⟩, trivial⟩, Or.inr ⟨1, d133_8, rfl, rfl, trivial, trivial, trivial⟩, Or.inr ⟨1, d133_9, rfl, rfl, rfl, trivial, trivial⟩, Or.inr ⟨1, d133_10, rfl, rfl, rfl, trivial, trivial⟩, Or.inr ⟨1, d133_11, rfl, rfl, rfl, trivial, trivial⟩, Or.inr ⟨3, d133_12, rfl, rfl, trivial, ⟨RX8, TX8, 27, rfl, by decide, Or.inl aw_927⟩, trivial⟩, Or.inr ⟨1, d133_15, rfl, rfl, rfl, trivial, trivial⟩, Or.inr ⟨3, d133_16, rfl, rfl, trivial, ⟨RX8, TX8, 27, rfl, by decide, Or.inl aw_939⟩, trivial⟩, Or.inr ⟨1, d133_19, rfl, rfl, trivial, trivial, trivial⟩, Or.inr ⟨3, d133_20, rfl, rfl, trivial, trivial, ⟨by decide, ⟨_, TX8, 27, rfl, okM_132, rfl⟩, aw_1071, aw_1073, as_132⟩⟩, Or.inr ⟨1, d133_23, rfl, rfl, rfl, trivial, trivial⟩, Or.inr ⟨1, d133_24, rfl, rfl, rfl, trivial, trivial⟩, Or.inr ⟨1, d133_25, rfl, rfl, rfl, trivial, trivial⟩, Or.inr ⟨3, d133_26, rfl, rfl, trivial, ⟨RX8, TX8, 27, rfl, by decide, Or.inl aw_928⟩, trivial⟩, Or.inr ⟨1, d133_29, rfl, rfl, rfl, trivial, trivial⟩, Or.inr ⟨3, d133_30, rfl, rfl, trivial, ⟨RX8, TX8, 27, rfl, by decide, Or.inl aw_939⟩, trivial⟩, Or.inr ⟨1, d133_33, rfl, rfl, trivial, trivial, trivial⟩, Or.inr ⟨3, d133_34, rfl, rfl, trivial, trivial, ⟨by decide, ⟨_, TX8, 27, rfl, okM_132, rfl⟩, aw_1071, aw_1073, as_132⟩⟩, Or.inr ⟨1, d133_37, rfl, rfl, rfl, trivial, trivial⟩, Or.inr ⟨1, d133_38, rfl, rfl, rfl, trivial, trivial⟩, Or.inr ⟨1, d133_39, rfl, rfl, rfl, trivial, trivial⟩, trivial⟩
theorem v133_1 : am_all (am_V9 133) am_l133_1 := ⟨Or.inr ⟨3, d133_40, rfl, rfl, trivial, ⟨RX8, TX8, 27, rfl, by decide, Or.inl aw_929⟩, trivial⟩, Or.inr ⟨1, d133_43, rfl, rfl, rfl, trivial, trivial⟩, Or.inr ⟨3, d133_44, rfl, rfl, trivial, ⟨RX8, TX8, 27, rfl, by decide, Or.inl aw_939⟩, trivial⟩, Or.inr ⟨1, d133_47, rfl, rfl, trivial, trivial, trivial⟩, Or.inr ⟨3, d133_48, rfl, rfl, trivial, trivial, ⟨by decide, ⟨_, TX8, 27, rfl, okM_132, rfl⟩, aw_1071, aw_1073, as_132⟩⟩, Or.inr ⟨2, d133_51, rfl, rfl, rfl, trivial, trivial⟩, Or.inr ⟨1, d133_53, rfl, rfl, rfl, trivial, trivial⟩, Or.inr ⟨2, d133_54, rfl, rfl, am_eq9 (by decide +kernel), trivial, trivial⟩, Or.inr ⟨3, d133_56, rfl, rfl, rfl, trivial, trivial⟩, Or.inr ⟨1, d133_59, rfl, rfl, rfl, trivial, trivial⟩, Or.inr ⟨2, d133_60, rfl, rfl, am_eq9 (by decide +kernel), trivial, trivial⟩, Or.inr ⟨3, d133_62, rfl, rfl, rfl, trivial, trivial⟩, Or.inr ⟨1, d133_65, rfl, rfl, rfl, trivial, trivial⟩, Or.inr ⟨2, d133_66, rfl, rfl, am_eq9 (by decide +kernel), trivial, trivial⟩, Or.inr ⟨3, d133_68, rfl, rfl, rfl, trivial, trivial⟩, Or.inr ⟨1, d133_71, rfl, rfl, rfl, trivial, trivial⟩, Or.inr ⟨2, d133_72, rfl, rfl, am_eq9 (by decide +kernel), trivial, trivial⟩, Or.inr ⟨3, d133_74, rfl, rfl, rfl, trivial, trivial⟩, Or.inr ⟨1, d133_77, rfl, rfl, rfl, trivial, trivial⟩, Or.inr ⟨1, d133_78, rfl, rfl, rfl, trivial, trivial⟩, Or.inr ⟨1, d133_79, rfl, rfl, rfl, trivial, trivial⟩, Or.inr ⟨1, d133_80, rfl, rfl, rfl, trivial, trivial⟩, Or.inr ⟨2, d133_81, rfl, rfl, rfl, trivial, trivial⟩, Or.inr ⟨3, d133_83, rfl, rfl, trivial, trivial, ⟨by decide, ⟨_, TX8, 27, rfl, okM_126, rfl⟩, aw_1075, aw_1077, as_126⟩⟩, trivial⟩
theorem v133_2 : am_all (am_V9 133) am_l133_2 := ⟨Or.inr ⟨1, d133_86, rfl, rfl, trivial, trivial, trivial⟩, Or.inr ⟨1, d133_87, rfl, rfl, rfl, trivial, trivial⟩, Or.inr ⟨2, d133_88, rfl, rfl, am_eq9 (by decide +kernel), trivial, trivial⟩, Or.inr ⟨3, d133_90, rfl, rfl, rfl, trivial, trivial⟩, Or.inr ⟨1, d133_93, rfl, rfl, rfl, trivial, trivial⟩, Or.inr ⟨1, d133_94, rfl, rfl, rfl, trivial, trivial⟩, Or.inr ⟨1, d133_95, rfl, rfl, rfl, trivial, trivial⟩, Or.inr ⟨3, d133_96, rfl, rfl, trivial, trivial, ⟨by decide, ⟨_, TX8, 27, rfl, okM_127, rfl⟩, aw_1118, aw_1120, as_127⟩⟩, Or.inr ⟨1, d133_99, rfl, rfl, trivial, trivial, trivial⟩, Or.inr ⟨1, d133_100, rfl, rfl, rfl, trivial, trivial⟩, Or.inr ⟨2, d133_101, rfl, rfl, am_eq9 (by decide +kernel), trivial, trivial⟩, Or.inr ⟨3, d133_103, rfl, rfl, rfl, trivial, trivial⟩, Or.inr ⟨1, d133_106, rfl, rfl, rfl, trivial, trivial⟩, Or.inr ⟨1, d133_107, rfl, rfl, rfl, trivial, trivial⟩, Or.inr ⟨3, d133_108, rfl, rfl, trivial, trivial, ⟨by decide, ⟨_, TX8, 27, rfl, okM_128, rfl⟩, aw_1122, aw_1124, as_128⟩⟩, Or.inr ⟨1, d133_111, rfl, rfl, trivial, trivial, trivial⟩, Or.inr ⟨1, d133_112, rfl, rfl, rfl, trivial, trivial⟩, Or.inr ⟨2, d133_113, rfl, rfl, am_eq9 (by decide +kernel), trivial, trivial⟩, Or.inr ⟨3, d133_115, rfl, rfl, rfl, trivial, trivial⟩, Or.inr ⟨1, d133_118, rfl, rfl, rfl, trivial, trivial⟩, Or.inr ⟨2, d133_119, rfl, rfl, am_eq9 (by decide +kernel), trivial, trivial⟩, Or.inr ⟨3, d133_121, rfl, rfl, rfl, trivial, trivial⟩, Or.inr ⟨1, d133_124, rfl, rfl, rfl, trivial, trivial⟩, Or.inr ⟨1, d133_125, rfl, rfl, rfl, trivial, trivial⟩, trivial⟩
theorem v133_3 : am_all (am_V9 133) am_l133_3 := ⟨Or.inr ⟨1, d133_126, rfl, rfl, rfl, trivial, trivial⟩, Or.inr ⟨1, d133_127, rfl, rfl, rfl, trivial, trivial⟩, Or.inr ⟨3, d133_128, rfl, rfl, trivial, trivial, ⟨by decide, ⟨_, TX8, 27, rfl, okM_130, rfl⟩, aw_1126, aw_1128, as_130⟩⟩, Or.inr ⟨1, d133_131, rfl, rfl, trivial, trivial, trivial⟩, Or.inr ⟨1, d133_132, rfl, rfl, rfl, trivial, trivial⟩, Or.inr ⟨2, d133_133, rfl, rfl, am_eq9 (by decide +kernel), trivial, trivial⟩, Or.inr ⟨3, d133_135, rfl, rfl, rfl, trivial, trivial⟩, Or.inr ⟨2, d133_138, rfl, rfl, am_eq9 (by decide +kernel), trivial, trivial⟩, Or.inr ⟨1, d133_140, rfl, rfl, trivial, trivial, trivial⟩, Or.inr ⟨1, d133_141, rfl, rfl, rfl, trivial, trivial⟩, Or.inr ⟨2, d133_142, rfl, rfl, am_eq9 (by decide +kernel), trivial, trivial⟩, Or.inr ⟨3, d133_144, rfl, rfl, rfl, trivial, trivial⟩, Or.inr ⟨1, d133_147, rfl, rfl, rfl, trivial, trivial⟩, Or.inr ⟨1, d133_148, rfl, rfl, rfl, trivial, trivial⟩, Or.inr ⟨1, d133_149, rfl, rfl, rfl, trivial, trivial⟩, Or.inr ⟨1, d133_150, rfl, rfl, rfl, trivial, trivial⟩, Or.inr ⟨2, d133_151, rfl, rfl, rfl, trivial, trivial⟩, Or.inr ⟨3, d133_153, rfl, rfl, trivial, trivial, ⟨by decide, ⟨_, TX8, 27, rfl, okM_129, rfl⟩, aw_1134, aw_1136, as_129⟩⟩, Or.inr ⟨1, d133_156, rfl, rfl, trivial, trivial, trivial⟩, Or.inr ⟨1, d133_157, rfl, rfl, rfl, trivial, trivial⟩, Or.inr ⟨3, d133_158, rfl, rfl, trivial, trivial, ⟨by decide, ⟨_, TX8, 27, rfl, okM_131, rfl⟩, aw_1138, aw_1140, as_131⟩⟩, Or.inr ⟨2, d133_161, rfl, rfl, am_eq9 (by decide +kernel), trivial, trivial⟩, Or.inr ⟨1, d133_163, rfl, rfl, trivial, trivial, trivial⟩, trivial⟩
theorem v133 : ∀ pc, am_V9 133 pc ((am_G 133).2.2.2.2.1 pc) := am_all_lc am_V9_0 _ ⟨v133_0, v133_1, v133_2, v133_3, trivial⟩
theorem d134_0 : decode cX8_run 0 = .ok (.aload_n 0, 1) := by decide +kernel
theorem d134_1 : decode cX8_run 1 = .ok (.iload_n 1, 1) := by decide +kernel
theorem d134_2 : decode cX8_run 2 = .ok (.iconst 1, 1) := by decide +kernel
theorem d134_3 : decode cX8_run 3 = .ok (.bipush 100, 2) := by decide +kernel
theorem d134_5 : decode cX8_run 5 = .ok (.invokestatic 100, 3) := by decide +kernel
theorem d134_8 : decode cX8_run 8 = .ok (.ifCond .ne 7, 3) := by decide +kernel
theorem d134_11 : decode cX8_run 11 = .ok (.iconst 1, 1) := by decide +kernel
theorem d134_12 : decode cX8_run 12 = .ok (.goto 15, 3) := by decide +kernel
theorem d134_15 : decode cX8_run 15 = .ok (.aload_n 0, 1) := by decide +kernel
theorem d134_16 : decode cX8_run 16 = .ok (.invokevirtual 130, 3) := by decide +kernel
theorem d134_19 : decode cX8_run 19 = .ok (.ifCond .ne 7, 3) := by decide +kernel
theorem d134_22 : decode cX8_run 22 = .ok (.iconst 2, 1) := by decide +kernel
theorem d134_23 : decode cX8_run 23 = .ok (.goto 4, 3) := by decide +kernel
theorem d134_26 : decode cX8_run 26 = .ok (.iconst 0, 1) := by decide +kernel
theorem d134_27 : decode cX8_run 27 = .ok (.putfield 57, 3) := by decide +kernel
theorem d134_30 : decode cX8_run 30 = .ok (.aload_n 0, 1) := by decide +kernel
theorem d134_31 : decode cX8_run 31 = .ok (.getfield 57, 3) := by decide +kernel
theorem d134_34 : decode cX8_run 34 = .ok (.ifCond .le 5, 3) := by decide +kernel
theorem d134_37 : decode cX8_run 37 = .ok (.iconst 0, 1) := by decide +kernel
theorem d134_38 : decode cX8_run 38 = .ok (.ireturn, 1) := by decide +kernel
theorem d134_39 : decode cX8_run 39 = .ok (.aload_n 0, 1) := by decide +kernel
theorem d134_40 : decode cX8_run 40 = .ok (.bipush 45, 2) := by decide +kernel
theorem d134_42 : decode cX8_run 42 = .ok (.putfield 90, 3) := by decide +kernel
theorem d134_45 : decode cX8_run 45 = .ok (.iconst 0, 1) := by decide +kernel
theorem d134_46 : decode cX8_run 46 = .ok (.istore_n 2, 1) := by decide +kernel
theorem d134_47 : decode cX8_run 47 = .ok (.iconst 0, 1) := by decide +kernel
theorem d134_48 : decode cX8_run 48 = .ok (.istore_n 3, 1) := by decide +kernel
theorem d134_49 : decode cX8_run 49 = .ok (.iload_n 2, 1) := by decide +kernel
theorem d134_50 : decode cX8_run 50 = .ok (.iload_n 1, 1) := by decide +kernel
theorem d134_51 : decode cX8_run 51 = .ok (.if_icmp .ge 93, 3) := by decide +kernel
theorem d134_54 : decode cX8_run 54 = .ok (.aload_n 0, 1) := by decide +kernel
theorem d134_55 : decode cX8_run 55 = .ok (.getfield 64, 3) := by decide +kernel
theorem d134_58 : decode cX8_run 58 = .ok (.aload_n 0, 1) := by decide +kernel
theorem d134_59 : decode cX8_run 59 = .ok (.getfield 61, 3) := by decide +kernel
theorem d134_62 : decode cX8_run 62 = .ok (.if_icmp .ge 82, 3) := by decide +kernel
theorem d134_65 : decode cX8_run 65 = .ok (.aload_n 0, 1) := by decide +kernel
theorem d134_66 : decode cX8_run 66 = .ok (.getfield 90, 3) := by decide +kernel
theorem d134_69 : decode cX8_run 69 = .ok (.bipush 45, 2) := by decide +kernel
theorem d134_71 : decode cX8_run 71 = .ok (.if_icmp .ne 73, 3) := by decide +kernel
theorem d134_74 : decode cX8_run 74 = .ok (.iload_n 3, 1) := by decide +kernel
theorem d134_75 : decode cX8_run 75 = .ok (.ifCond .ne 69, 3) := by decide +kernel
theorem d134_78 : decode cX8_run 78 = .ok (.aload_n 0, 1) := by decide +kernel
theorem d134_79 : decode cX8_run 79 = .ok (.getfield 13, 3) := by decide +kernel
theorem d134_82 : decode cX8_run 82 = .ok (.aload_n 0, 1) := by decide +kernel
theorem d134_83 : decode cX8_run 83 = .ok (.getfield 64, 3) := by decide +kernel
theorem d134_86 : decode cX8_run 86 = .ok (.caload, 1) := by decide +kernel
theorem d134_87 : decode cX8_run 87 = .ok (.bipush 113, 2) := by decide +kernel
theorem d134_89 : decode cX8_run 89 = .ok (.if_icmp .ne 7, 3) := by decide +kernel
theorem d134_92 : decode cX8_run 92 = .ok (.iconst 1, 1) := by decide +kernel
theorem d134_93 : decode cX8_run 93 = .ok (.goto 4, 3) := by decide +kernel
theorem d134_96 : decode cX8_run 96 = .ok (.iconst 0, 1) := by decide +kernel
theorem d134_97 : decode cX8_run 97 = .ok (.istore_n 3, 1) := by decide +kernel
theorem d134_98 : decode cX8_run 98 = .ok (.aload_n 0, 1) := by decide +kernel
theorem d134_99 : decode cX8_run 99 = .ok (.aload_n 0, 1) := by decide +kernel
theorem d134_100 : decode cX8_run 100 = .ok (.invokevirtual 202, 3) := by decide +kernel
theorem d134_103 : decode cX8_run 103 = .ok (.putfield 90, 3) := by decide +kernel
theorem d134_106 : decode cX8_run 106 = .ok (.aload_n 0, 1) := by decide +kernel
theorem d134_107 : decode cX8_run 107 = .ok (.getfield 90, 3) := by decide +kernel
theorem d134_110 : decode cX8_run 110 = .ok (.bipush 45, 2) := by decide +kernel
theorem d134_112 : decode cX8_run 112 = .ok (.if_icmp .eq 6, 3) := by decide +kernel
theorem d134_115 : decode cX8_run 115 = .ok (.goto (-66), 3) := by decide +kernel
theorem d134_118 : decode cX8_run 118 = .ok (.aload_n 0, 1) := by decide +kernel
theorem d134_119 : decode cX8_run 119 = .ok (.dup, 1) := by decide +kernel
theorem d134_120 : decode cX8_run 120 = .ok (.getfield 64, 3) := by decide +kernel
theorem d134_123 : decode cX8_run 123 = .ok (.iconst 1, 1) := by decide +kernel
theorem d134_124 : decode cX8_run 124 = .ok (.iadd, 1) := by decide +kernel
theorem d134_125 : decode cX8_run 125 = .ok (.putfield 64, 3) := by decide +kernel
theorem d134_128 : decode cX8_run 128 = .ok (.aload_n 0, 1) := by decide +kernel
theorem d134_129 : decode cX8_run 129 = .ok (.dup, 1) := by decide +kernel
theorem d134_130 : decode cX8_run 130 = .ok (.getfield 67, 3) := by decide +kernel
theorem d134_133 : decode cX8_run 133 = .ok (.iconst 1, 1) := by decide +kernel
theorem d134_134 : decode cX8_run 134 = .ok (.iadd, 1) := by decide +kernel
theorem d134_135 : decode cX8_run 135 = .ok (.putfield 67, 3) := by decide +kernel
theorem d134_138 : decode cX8_run 138 = .ok (.iinc 2 1, 3) := by decide +kernel
theorem d134_141 : decode cX8_run 141 = .ok (.goto (-92), 3) := by decide +kernel
theorem d134_144 : decode cX8_run 144 = .ok (.iload_n 2, 1) := by decide +kernel
theorem d134_145 : decode cX8_run 145 = .ok (.ireturn, 1) := by decide +kernel
theorem v134_0 : am_all (am_V9 134) am_l134_0 := ⟨Or.inr ⟨1, d134_0, rfl, rfl, rfl, trivial, trivial⟩, Or.inr ⟨1, d134_1, rfl, rfl, rfl, trivial, trivial⟩, Or.inr ⟨1, d134_2, rfl, rfl, am_eq9 (by decide +kernel), trivial, trivial⟩, Or.inr ⟨2, d134_3, rfl, rfl, am_eq9 (by decide +kernel), trivial, trivial⟩, Or.inr ⟨3, d134_5, rfl, rfl, trivial, trivial, Or.inr ⟨by decide, okM_97, aw_1017, Or.inl ⟨rfl, aw_1016⟩⟩⟩, Or.inr ⟨3, d134_8, rfl, rfl, rfl, trivial, trivial⟩, Or.inr ⟨1, d134_11, rfl, rfl, am_eq9 (by decide +kernel), trivial, trivial⟩, Or.inr ⟨3, d134_12, rfl, rfl, rfl, trivial, trivial⟩, Or.inr ⟨1, d134_15, rfl, rfl, rfl, trivial, trivial⟩, Or.inr ⟨3, d134_16, rfl, rfl, trivial, trivial, ⟨by decide, ⟨_, TX8, 27, rfl, okM_112, rfl⟩, aw_1055, aw_1057, as_112⟩⟩, Or.inr ⟨3, d134_19, rfl, rfl, rfl, trivial, trivial⟩, Or.inr ⟨1, d134_22, rfl, rfl, am_eq9 (by decide +kernel), trivial, trivial⟩, Or.inr ⟨3, d134_23, rfl, rfl, rfl, trivial, trivial⟩, Or.inr ⟨1, d134_26, rfl, rfl, am_eq9 (by decide +kernel), trivial, trivial⟩, Or.inr ⟨3, d134_27, rfl, rfl, trivial, ⟨RX8, TX8, 27, rfl, by decide, aw_937, Or.inl rfl⟩, trivial⟩, Or.inr ⟨1, d134_30, rfl, rfl, rfl, trivial, trivial⟩, Or.inr ⟨3, d134_31, rfl, rfl, trivial, ⟨RX8, TX8, 27, rfl, by decide, Or.inl aw_937⟩, trivial⟩, Or.inr ⟨3, d134_34, rfl, rfl, rfl, trivial, trivial⟩, Or.inr ⟨1, d134_37, rfl, rfl, am_eq9 (by decide +kernel), trivial, trivial⟩, Or.inr ⟨1, d134_38, rfl, rfl, trivial, trivial, trivial⟩, Or.inr ⟨1, d134_39, rfl, rfl, rfl, trivial, trivial⟩, Or.inr ⟨2, d134_40, rfl, rfl, am_eq9 (by decide +kernel), trivial, trivial⟩, Or.inr ⟨3, d134_42, rfl, rfl, trivial, ⟨RX8, TX8, 27, rfl, by decide, aw_947, Or.inl rfl⟩, trivial⟩, Or.inr ⟨1, d134_45, rfl, rfl, am_eq9 (by decide +kernel), trivial, trivial⟩, trivial⟩
theorem v134_1 : am_all (am_V9 134) am_l134_1 := ⟨Or.inr ⟨1, d134_46, rfl, rfl, rfl, trivial, trivial⟩, Or.inr ⟨1, d134_47, rfl, rfl, am_eq9 (by decide +kernel), trivial, trivial⟩, Or.inr ⟨1, d134_48, rfl, rfl, rfl, trivial, trivial⟩, Or.inr ⟨1, d134_49, rfl, rfl, rfl, trivial, trivial⟩, Or.inr ⟨1, d134_50, rfl, rfl, rfl, trivial, trivial⟩, Or.inr ⟨3, d134_51, rfl, rfl, rfl, trivial, trivial⟩, Or.inr ⟨1, d134_54, rfl, rfl, rfl, trivial, trivial⟩, Or.inr ⟨3, d134_55, rfl, rfl, trivial, ⟨RX8, TX8, 27, rfl, by decide, Or.inl aw_939⟩, trivial⟩, Or.inr ⟨1, d134_58, rfl, rfl, rfl, trivial, trivial⟩, Or.inr ⟨3, d134_59, rfl, rfl, trivial, ⟨RX8, TX8, 27, rfl, by decide, Or.inl aw_938⟩, trivial⟩, Or.inr ⟨3, d134_62, rfl, rfl, rfl, trivial, trivial⟩, Or.inr ⟨1, d134_65, rfl, rfl, rfl, trivial, trivial⟩, Or.inr ⟨3, d134_66, rfl, rfl, trivial, ⟨RX8, TX8, 27, rfl, by decide, Or.inl aw_947⟩, trivial⟩, Or.inr ⟨2, d134_69, rfl, rfl, am_eq9 (by decide +kernel), trivial, trivial⟩, Or.inr ⟨3, d134_71, rfl, rfl, rfl, trivial, trivial⟩, Or.inr ⟨1, d134_74, rfl, rfl, rfl, trivial, trivial⟩, Or.inr ⟨3, d134_75, rfl, rfl, rfl, trivial, trivial⟩, Or.inr ⟨1, d134_78, rfl, rfl, rfl, trivial, trivial⟩, Or.inr ⟨3, d134_79, rfl, rfl, trivial, ⟨RX8, TX8, 27, rfl, by decide, Or.inl aw_923⟩, trivial⟩, Or.inr ⟨1, d134_82, rfl, rfl, rfl, trivial, trivial⟩, Or.inr ⟨3, d134_83, rfl, rfl, trivial, ⟨RX8, TX8, 27, rfl, by decide, Or.inl aw_939⟩, trivial⟩, Or.inr ⟨1, d134_86, rfl, rfl, trivial, trivial, trivial⟩, Or.inr ⟨2, d134_87, rfl, rfl, am_eq9 (by decide +kernel), trivial, trivial⟩, Or.inr ⟨3, d134_89, rfl, rfl, rfl, trivial, trivial⟩, trivial⟩
theorem v134_2 : am_all (am_V9 134) am_l134_2 := ⟨Or.inr ⟨1, d134_92, rfl, rfl, am_eq9 (by decide +kernel), trivial, trivial⟩, Or.inr ⟨3, d134_93, rfl, rfl, rfl, trivial, trivial⟩, Or.inr ⟨1, d134_96, rfl, rfl, am_eq9 (by decide +kernel), trivial, trivial⟩, Or.inr ⟨1, d134_97, rfl, rfl, rfl, trivial, trivial⟩, Or.inr ⟨1, d134_98, rfl, rfl, rfl, trivial, trivial⟩, Or.inr ⟨1, d134_99, rfl, rfl, rfl, trivial, trivial⟩, Or.inr ⟨3, d134_100, rfl, rfl, trivial, trivial, ⟨by decide, ⟨_, TX8, 27, rfl, okM_133, rfl⟩, aw_1067, aw_1069, as_133⟩⟩, Or.inr ⟨3, d134_103, rfl, rfl, trivial, ⟨RX8, TX8, 27, rfl, by decide, aw_947, Or.inl rfl⟩, trivial⟩, Or.inr ⟨1, d134_106, rfl, rfl, rfl, trivial, trivial⟩, Or.inr ⟨3, d134_107, rfl, rfl, trivial, ⟨RX8, TX8, 27, rfl, by decide, Or.inl aw_947⟩, trivial⟩, Or.inr ⟨2, d134_110, rfl, rfl, am_eq9 (by decide +kernel), trivial, trivial⟩, Or.inr ⟨3, d134_112, rfl, rfl, rfl, trivial, trivial⟩, Or.inr ⟨3, d134_115, rfl, rfl, rfl, trivial, trivial⟩, Or.inr ⟨1, d134_118, rfl, rfl, rfl, trivial, trivial⟩, Or.inr ⟨1, d134_119, rfl, rfl, trivial, trivial, trivial⟩, Or.inr ⟨3, d134_120, rfl, rfl, trivial, ⟨RX8, TX8, 27, rfl, by decide, Or.inl aw_939⟩, trivial⟩, Or.inr ⟨1, d134_123, rfl, rfl, am_eq9 (by decide +kernel), trivial, trivial⟩, Or.inr ⟨1, d134_124, rfl, rfl, trivial, trivial, trivial⟩, Or.inr ⟨3, d134_125, rfl, rfl, trivial, ⟨RX8, TX8, 27, rfl, by decide, aw_939, Or.inl rfl⟩, trivial⟩, Or.inr ⟨1, d134_128, rfl, rfl, rfl, trivial, trivial⟩, Or.inr ⟨1, d134_129, rfl, rfl, trivial, trivial, trivial⟩, Or.inr ⟨3, d134_130, rfl, rfl, trivial, ⟨RX8, TX8, 27, rfl, by decide, Or.inl aw_940⟩, trivial⟩, Or.inr ⟨1, d134_133, rfl, rfl, am_eq9 (by decide +kernel), trivial, trivial⟩, Or.inr ⟨1, d134_134, rfl, rfl, trivial, trivial, trivial⟩, trivial⟩
theorem v134_3 : am_all (am_V9 134) am_l134_3 := ⟨Or.inr ⟨3, d134_135, rfl, rfl, trivial, ⟨RX8, TX8, 27, rfl, by decide, aw_940, Or.inl rfl⟩, trivial⟩, Or.inr ⟨3, d134_138, rfl, rfl, ⟨rfl, by decide⟩, trivial, trivial⟩, Or.inr ⟨3, d134_141, rfl, rfl, rfl, trivial, trivial⟩, Or.inr ⟨1, d134_144, rfl, rfl, rfl, trivial, trivial⟩, Or.inr ⟨1, d134_145, rfl, rfl, trivial, trivial, trivial⟩, trivial⟩
theorem v134 : ∀ pc, am_V9 134 pc ((am_G 134).2.2.2.2.1 pc) := am_all_lc am_V9_0 _ ⟨v134_0, v134_1, v134_2, v134_3, trivial⟩
theorem d135_0 : decode cX8_reset 0 = .ok (.aload_n 0, 1) := by decide +kernel
theorem d135_1 : decode cX8_reset 1 = .ok (.getfield 67, 3) := by decide +kernel
theorem d135_4 : decode cX8_reset 4 = .ok (.istore_n 1, 1) := by decide +kernel
theorem d135_5 : decode cX8_reset 5 = .ok (.aload_n 0, 1) := by decide +kernel
theorem d135_6 : decode cX8_reset 6 = .ok (.invokevirtual 97, 3) := by decide +kernel
theorem d135_9 : decode cX8_reset 9 = .ok (.aload_n 0, 1) := by decide +kernel
theorem d135_10 : decode cX8_reset 10 = .ok (.iload_n 1, 1) := by decide +kernel
theorem d135_11 : decode cX8_reset 11 = .ok (.invokevirtual 206, 3) := by decide +kernel
theorem d135_14 : decode cX8_reset 14 = .ok (.ireturn, 1) := by decide +kernel
theorem v135_0 : am_all (am_V9 135) am_l135_0 := ⟨Or.inr ⟨1, d135_0, rfl, rfl, rfl, trivial, trivial⟩, Or.inr ⟨3, d135_1, rfl, rfl, trivial, ⟨RX8, TX8, 27, rfl, by decide, Or.inl aw_940⟩, trivial⟩, Or.inr ⟨1, d135_4, rfl, rfl, rfl, trivial, trivial⟩, Or.inr ⟨1, d135_5, rfl, rfl, rfl, trivial, trivial⟩, Or.inr ⟨3, d135_6, rfl, rfl, trivial, trivial, ⟨by decide, ⟨_, TX8, 27, rfl, okM_100, rfl⟩, aw_918, aw_920, as_100⟩⟩, Or.inr ⟨1, d135_9, rfl, rfl, rfl, trivial, trivial⟩, Or.inr ⟨1, d135_10, rfl, rfl, rfl, trivial, trivial⟩, Or.inr ⟨3, d135_11, rfl, rfl, trivial, trivial, ⟨by decide, ⟨_, TX8, 27, rfl, okM_98, rfl⟩, aw_1150, aw_1152, as_98⟩⟩, Or.inr ⟨1, d135_14, rfl, rfl, trivial, trivial, trivial⟩, trivial⟩
theorem v135 : ∀ pc, am_V9 135 pc ((am_G 135).2.2.2.2.1 pc) := am_all_lc am_V9_0 _ ⟨v135_0, trivial⟩
theorem d136_0 : decode cX8_alarm 0 = .ok (.aload_n 0, 1) := by decide +kernel
theorem d136_1 : decode cX8_alarm 1 = .ok (.iconst 0, 1) := by decide +kernel
theorem d136_2 : decode cX8_alarm 2 = .ok (.putfield 57, 3) := by decide +kernel
theorem d136_5 : decode cX8_alarm 5 = .ok (.aload_n 0, 1) := by decide +kernel
theorem d136_6 : decode cX8_alarm 6 = .ok (.getfield 90, 3) := by decide +kernel
theorem d136_9 : decode cX8_alarm 9 = .ok (.ireturn, 1) := by decide +kernel
theorem v136_0 : am_all (am_V9 136) am_l136_0 := ⟨Or.inr ⟨1, d136_0, rfl, rfl, rfl, trivial, trivial⟩, Or.inr ⟨1, d136_1, rfl, rfl, am_eq9 (by decide +kernel), trivial, trivial⟩, Or.inr ⟨3, d136_2, rfl, rfl, trivial, ⟨RX8, TX8, 27, rfl, by decide, aw_937, Or.inl rfl⟩, trivial⟩, Or.inr ⟨1, d136_5, rfl, rfl, rfl, trivial, trivial⟩, Or.inr ⟨3, d136_6, rfl, rfl, trivial, ⟨RX8, TX8, 27, rfl, by decide, Or.inl aw_947⟩, trivial⟩, Or.inr ⟨1, d136_9, rfl, rfl, trivial, trivial, trivial⟩, trivial⟩
theorem v136 : ∀ pc, am_V9 136 pc ((am_G 136).2.2.2.2.1 pc) := am_all_lc am_V9_0 _ ⟨v136_0, trivial⟩
theorem d137_0 : decode cX8_isOver 0 = .ok (.aload_n 0, 1) := by decide +kernel
theorem d137_1 : decode cX8_isOver 1 = .ok (.iconst 0, 1) := by decide +kernel
theorem d137_2 : decode cX8_isOver 2 = .ok (.putfield 57, 3) := by decide +kernel
theorem d137_5 : decode cX8_isOver 5 = .ok (.aload_n 0, 1) := by decide +kernel
theorem d137_6 : decode cX8_isOver 6 = .ok (.getfield 64, 3) := by decide +kernel
theorem d137_9 : decode cX8_isOver 9 = .ok (.aload_n 0, 1) := by decide +kernel
theorem d137_10 : decode cX8_isOver 10 = .ok (.getfield 61, 3) := by decide +kernel
theorem d137_13 : decode cX8_isOver 13 = .ok (.if_icmp .ne 7, 3) := by decide +kernel
theorem d137_16 : decode cX8_isOver 16 = .ok (.iconst 1, 1) := by decide +kernel
theorem d137_17 : decode cX8_isOver 17 = .ok (.goto 4, 3) := by decide +kernel
theorem d137_20 : decode cX8_isOver 20 = .ok (.iconst 0, 1) := by decide +kernel
theorem d137_21 : decode cX8_isOver 21 = .ok (.ireturn, 1) := by decide +kernel
theorem v137_0 : am_all (am_V9 137) am_l137_0 := ⟨Or.inr ⟨1, d137_0, rfl, rfl, rfl, trivial, trivial⟩, Or.inr ⟨1, d137_1, rfl, rfl, am_eq9 (by decide +kernel), trivial, trivial⟩, Or.inr ⟨3, d137_2, rfl, rfl, trivial, ⟨RX8, TX8, 27, rfl, by decide, aw_937, Or.inl rfl⟩, trivial⟩, Or.inr ⟨1, d137_5, rfl, rfl, rfl, trivial, trivial⟩, Or.inr ⟨3, d137_6, rfl, rfl, trivial, ⟨RX8, TX8, 27, rfl, by decide, Or.inl aw_939⟩, trivial⟩, Or.inr ⟨1, d137_9, rfl, rfl, rfl, trivial, trivial⟩, Or.inr ⟨3, d137_10, rfl, rfl, trivial, ⟨RX8, TX8, 27, rfl, by decide, Or.inl aw_938⟩, trivial⟩, Or.inr ⟨3, d137_13, rfl, rfl, rfl, trivial, trivial⟩, Or.inr ⟨1, d137_16, rfl, rfl, am_eq9 (by decide +kernel), trivial, trivial⟩, Or.inr ⟨3, d137_17, rfl, rfl, rfl, trivial, trivial⟩, Or.inr ⟨1, d137_20, rfl, rfl, am_eq9 (by decide +kernel), trivial, trivial⟩, Or.inr ⟨1, d137_21, rfl, rfl, trivial, trivial, trivial⟩, trivial⟩
theorem v137 : ∀ pc, am_V9 137 pc ((am_G 137).2.2.2.2.1 pc) := am_all_lc am_V9_0 _ ⟨v137_0, trivial⟩
theorem d138_0 : decode cX8_next 0 = .ok (.aload_n 0, 1) := by decide +kernel
theorem d138_1 : decode cX8_next 1 = .ok (.aload_n 0, 1) := by decide +kernel
theorem d138_2 : decode cX8_next 2 = .ok (.getfield 64, 3) := by decide +kernel
theorem d138_5 : decode cX8_next 5 = .ok (.invokevirtual 206, 3) := by decide +kernel
theorem d138_8 : decode cX8_next 8 = .ok (.ireturn, 1) := by decide +kernel
theorem v138_0 : am_all (am_V9 138) am_l138_0 := ⟨Or.inr ⟨1, d138_0, rfl, rfl, rfl, trivial, trivial⟩, Or.inr ⟨1, d138_1, rfl, rfl, rfl, trivial, trivial⟩, Or.inr ⟨3, d138_2, rfl, rfl, trivial, ⟨RX8, TX8, 27, rfl, by decide, Or.inl aw_939⟩, trivial⟩, Or.inr ⟨3, d138_5, rfl, rfl, trivial, trivial, ⟨by decide, ⟨_, TX8, 27, rfl, okM_98, rfl⟩, aw_1150, aw_1152, as_98⟩⟩, Or.inr ⟨1, d138_8, rfl, rfl, trivial, trivial, trivial⟩, trivial⟩
theorem v138 : ∀ pc, am_V9 138 pc ((am_G 138).2.2.2.2.1 pc) := am_all_lc am_V9_0 _ ⟨v138_0, trivial⟩
theorem d139_0 : decode cX8_done 0 = .ok (.aload_n 0, 1) := by decide +kernel
theorem d139_1 : decode cX8_done 1 = .ok (.aload_n 0, 1) := by decide +kernel
theorem d139_2 : decode cX8_done 2 = .ok (.getfield 67, 3) := by decide +kernel
theorem d139_5 : decode cX8_done 5 = .ok (.invokevirtual 206, 3) := by decide +kernel
theorem d139_8 : decode cX8_done 8 = .ok (.ireturn, 1) := by decide +kernel
theorem v139_0 : am_all (am_V9 139) am_l139_0 := ⟨Or.inr ⟨1, d139_0, rfl, rfl, rfl, trivial, trivial⟩, Or.inr ⟨1, d139_1, rfl, rfl, rfl, trivial, trivial⟩, Or.inr ⟨3, d139_2, rfl, rfl, trivial, ⟨RX8, TX8, 27, rfl, by decide, Or.inl aw_940⟩, trivial⟩, Or.inr ⟨3, d139_5, rfl, rfl, trivial, trivial, ⟨by decide, ⟨_, TX8, 27, rfl, okM_98, rfl⟩, aw_1150, aw_1152, as_98⟩⟩, Or.inr ⟨1, d139_8, rfl, rfl, trivial, trivial, trivial⟩, trivial⟩
theorem v139 : ∀ pc, am_V9 139 pc ((am_G 139).2.2.2.2.1 pc) := am_all_lc am_V9_0 _ ⟨v139_0, trivial⟩
theorem d140_0 : decode cX8_variable 0 = .ok (.aload_n 0, 1) := by decide +kernel
theorem d140_1 : decode cX8_variable 1 = .ok (.iload_n 1, 1) := by decide +kernel
theorem d140_2 : decode cX8_variable 2 = .ok (.iconst 0, 1) := by decide +kernel
theorem d140_3 : decode cX8_variable 3 = .ok (.bipush 7, 2) := by decide +kernel
theorem d140_5 : decode cX8_variable 5 = .ok (.invokestatic 100, 3) := by decide +kernel
theorem d140_8 : decode cX8_variable 8 = .ok (.invokevirtual 111, 3) := by decide +kernel
theorem d140_11 : decode cX8_variable 11 = .ok (.ifCond .le 7, 3) := by decide +kernel
theorem d140_14 : decode cX8_variable 14 = .ok (.iconst 0, 1) := by decide +kernel
theorem d140_15 : decode cX8_variable 15 = .ok (.goto 9, 3) := by decide +kernel
theorem d140_18 : decode cX8_variable 18 = .ok (.aload_n 0, 1) := by decide +kernel
theorem d140_19 : decode cX8_variable 19 = .ok (.getfield 38, 3) := by decide +kernel
theorem d140_22 : decode cX8_variable 22 = .ok (.iload_n 1, 1) := by decide +kernel
theorem d140_23 : decode cX8_variable 23 = .ok (.iaload, 1) := by decide +kernel
theorem d140_24 : decode cX8_variable 24 = .ok (.ireturn, 1) := by decide +kernel
theorem v140_0 : am_all (am_V9 140) am_l140_0 := ⟨Or.inr ⟨1, d140_0, rfl, rfl, rfl, trivial, trivial⟩, Or.inr ⟨1, d140_1, rfl, rfl, rfl, trivial, trivial⟩, Or.inr ⟨1, d140_2, rfl, rfl, am_eq9 (by decide +kernel), trivial, trivial⟩, Or.inr ⟨2, d140_3, rfl, rfl, am_eq9 (by decide +kernel), trivial, trivial⟩, Or.inr ⟨3, d140_5, rfl, rfl, trivial, trivial, Or.inr ⟨by decide, okM_97, aw_1017, Or.inl ⟨rfl, aw_1016⟩⟩⟩, Or.inr ⟨3, d140_8, rfl, rfl, trivial, trivial, ⟨by decide, ⟨_, TX8, 27, rfl, okM_99, rfl⟩, aw_1026, aw_1028, as_99⟩⟩, Or.inr ⟨3, d140_11, rfl, rfl, rfl, trivial, trivial⟩, Or.inr ⟨1, d140_14, rfl, rfl, am_eq9 (by decide +kernel), trivial, trivial⟩, Or.inr ⟨3, d140_15, rfl, rfl, rfl, trivial, trivial⟩, Or.inr ⟨1, d140_18, rfl, rfl, rfl, trivial, trivial⟩, Or.inr ⟨3, d140_19, rfl, rfl, trivial, ⟨RX8, TX8, 27, rfl, by decide, Or.inl aw_931⟩, trivial⟩, Or.inr ⟨1, d140_22, rfl, rfl, rfl, trivial, trivial⟩, Or.inr ⟨1, d140_23, rfl, rfl, trivial, trivial, trivial⟩, Or.inr ⟨1, d140_24, rfl, rfl, trivial, trivial, trivial⟩, trivial⟩
theorem v140 : ∀ pc, am_V9 140 pc ((am_G 140).2.2.2.2.1 pc) := am_all_lc am_V9_0 _ ⟨v140_0, trivial⟩
theorem d141_0 : decode cX8_at 0 = .ok (.aload_n 0, 1) := by decide +kernel
theorem d141_1 : decode cX8_at 1 = .ok (.iload_n 1, 1) := by decide +kernel
theorem d141_2 : decode cX8_at 2 = .ok (.iconst 0, 1) := by decide +kernel
theorem d141_3 : decode cX8_at 3 = .ok (.iconst 2, 1) := by decide +kernel
theorem d141_4 : decode cX8_at 4 = .ok (.invokestatic 100, 3) := by decide +kernel
theorem d141_7 : decode cX8_at 7 = .ok (.invokevirtual 111, 3) := by decide +kernel
theorem d141_10 : decode cX8_at 10 = .ok (.ifCond .le 7, 3) := by decide +kernel
theorem d141_13 : decode cX8_at 13 = .ok (.iconst 0, 1) := by decide +kernel
theorem d141_14 : decode cX8_at 14 = .ok (.goto 9, 3) := by decide +kernel
theorem d141_17 : decode cX8_at 17 = .ok (.aload_n 0, 1) := by decide +kernel
theorem d141_18 : decode cX8_at 18 = .ok (.getfield 44, 3) := by decide +kernel
theorem d141_21 : decode cX8_at 21 = .ok (.iload_n 1, 1) := by decide +kernel
theorem d141_22 : decode cX8_at 22 = .ok (.iaload, 1) := by decide +kernel
theorem d141_23 : decode cX8_at 23 = .ok (.ireturn, 1) := by decide +kernel
theorem v141_0 : am_all (am_V9 141) am_l141_0 := ⟨Or.inr ⟨1, d141_0, rfl, rfl, rfl, trivial, trivial⟩, Or.inr ⟨1, d141_1, rfl, rfl, rfl, trivial, trivial⟩, Or.inr ⟨1, d141_2, rfl, rfl, am_eq9 (by decide +kernel), trivial, trivial⟩, Or.inr ⟨1, d141_3, rfl, rfl, am_eq9 (by decide +kernel), trivial, trivial⟩, Or.inr ⟨3, d141_4, rfl, rfl, trivial, trivial, Or.inr ⟨by decide, okM_97, aw_1017, Or.inl ⟨rfl, aw_1016⟩⟩⟩, Or.inr ⟨3, d141_7, rfl, rfl, trivial, trivial, ⟨by decide, ⟨_, TX8, 27, rfl, okM_99, rfl⟩, aw_1026, aw_1028, as_99⟩⟩, Or.inr ⟨3, d141_10, rfl, rfl, rfl, trivial, trivial⟩, Or.inr ⟨1, d141_13, rfl, rfl, am_eq9 (by decide +kernel), trivial, trivial⟩, Or.inr ⟨3, d141_14, rfl, rfl, rfl, trivial, trivial⟩, Or.inr ⟨1, d141_17, rfl, rfl, rfl, trivial, trivial⟩, Or.inr ⟨3, d141_18, rfl, rfl, trivial, ⟨RX8, TX8, 27, rfl, by decide, Or.inl aw_933⟩, trivial⟩, Or.inr ⟨1, d141_21, rfl, rfl, rfl, trivial, trivial⟩, Or.inr ⟨1, d141_22, rfl, rfl, trivial, trivial, trivial⟩, Or.inr ⟨1, d141_23, rfl, rfl, trivial, trivial, trivial⟩, trivial⟩
theorem v141 : ∀ pc, am_V9 141 pc ((am_G 141).2.2.2.2.1 pc) := am_all_lc am_V9_0 _ ⟨v141_0, trivial⟩
theorem d142_0 : decode cX8_cutter 0 = .ok (.aload_n 0, 1) := by decide +kernel
theorem d142_1 : decode cX8_cutter 1 = .ok (.aload_n 0, 1) := by decide +kernel
theorem d142_2 : decode cX8_cutter 2 = .ok (.getfield 70, 3) := by decide +kernel
theorem d142_5 : decode cX8_cutter 5 = .ok (.invokevirtual 206, 3) := by decide +kernel
theorem d142_8 : decode cX8_cutter 8 = .ok (.ireturn, 1) := by decide +kernel
theorem v142_0 : am_all (am_V9 142) am_l142_0 := ⟨Or.inr ⟨1, d142_0, rfl, rfl, rfl, trivial, trivial⟩, Or.inr ⟨1, d142_1, rfl, rfl, rfl, trivial, trivial⟩, Or.inr ⟨3, d142_2, rfl, rfl, trivial, ⟨RX8, TX8, 27, rfl, by decide, Or.inl aw_941⟩, trivial⟩, Or.inr ⟨3, d142_5, rfl, rfl, trivial, trivial, ⟨by decide, ⟨_, TX8, 27, rfl, okM_98, rfl⟩, aw_1150, aw_1152, as_98⟩⟩, Or.inr ⟨1, d142_8, rfl, rfl, trivial, trivial, trivial⟩, trivial⟩
theorem v142 : ∀ pc, am_V9 142 pc ((am_G 142).2.2.2.2.1 pc) := am_all_lc am_V9_0 _ ⟨v142_0, trivial⟩
theorem d143_0 : decode cX8_used 0 = .ok (.aload_n 0, 1) := by decide +kernel
theorem d143_1 : decode cX8_used 1 = .ok (.iload_n 1, 1) := by decide +kernel
theorem d143_2 : decode cX8_used 2 = .ok (.iload_n 2, 1) := by decide +kernel
theorem d143_3 : decode cX8_used 3 = .ok (.invokestatic 104, 3) := by decide +kernel
theorem d143_6 : decode cX8_used 6 = .ok (.ifCond .ne 7, 3) := by decide +kernel
theorem d143_9 : decode cX8_used 9 = .ok (.iconst 1, 1) := by decide +kernel
theorem d143_10 : decode cX8_used 10 = .ok (.goto 23, 3) := by decide +kernel
theorem d143_13 : decode cX8_used 13 = .ok (.aload_n 0, 1) := by decide +kernel
theorem d143_14 : decode cX8_used 14 = .ok (.getfield 7, 3) := by decide +kernel
theorem d143_17 : decode cX8_used 17 = .ok (.iconst 4, 1) := by decide +kernel
theorem d143_18 : decode cX8_used 18 = .ok (.iload_n 1, 1) := by decide +kernel
theorem d143_19 : decode cX8_used 19 = .ok (.imul, 1) := by decide +kernel
theorem d143_20 : decode cX8_used 20 = .ok (.iload_n 2, 1) := by decide +kernel
theorem d143_21 : decode cX8_used 21 = .ok (.iadd, 1) := by decide +kernel
theorem d143_22 : decode cX8_used 22 = .ok (.caload, 1) := by decide +kernel
theorem d143_23 : decode cX8_used 23 = .ok (.bipush 45, 2) := by decide +kernel
theorem d143_25 : decode cX8_used 25 = .ok (.if_icmp .ne 7, 3) := by decide +kernel
theorem d143_28 : decode cX8_used 28 = .ok (.iconst 2, 1) := by decide +kernel
theorem d143_29 : decode cX8_used 29 = .ok (.goto 4, 3) := by decide +kernel
theorem d143_32 : decode cX8_used 32 = .ok (.iconst 0, 1) := by decide +kernel
theorem d143_33 : decode cX8_used 33 = .ok (.putfield 57, 3) := by decide +kernel
theorem d143_36 : decode cX8_used 36 = .ok (.aload_n 0, 1) := by decide +kernel
theorem d143_37 : decode cX8_used 37 = .ok (.getfield 57, 3) := by decide +kernel
theorem d143_40 : decode cX8_used 40 = .ok (.ifCond .le 7, 3) := by decide +kernel
theorem d143_43 : decode cX8_used 43 = .ok (.iconst 0, 1) := by decide +kernel
theorem d143_44 : decode cX8_used 44 = .ok (.goto 13, 3) := by decide +kernel
theorem d143_47 : decode cX8_used 47 = .ok (.aload_n 0, 1) := by decide +kernel
theorem d143_48 : decode cX8_used 48 = .ok (.getfield 23, 3) := by decide +kernel
theorem d143_51 : decode cX8_used 51 = .ok (.iconst 4, 1) := by decide +kernel
theorem d143_52 : decode cX8_used 52 = .ok (.iload_n 1, 1) := by decide +kernel
theorem d143_53 : decode cX8_used 53 = .ok (.imul, 1) := by decide +kernel
theorem d143_54 : decode cX8_used 54 = .ok (.iload_n 2, 1) := by decide +kernel
theorem d143_55 : decode cX8_used 55 = .ok (.iadd, 1) := by decide +kernel
theorem d143_56 : decode cX8_used 56 = .ok (.iaload, 1) := by decide +kernel
theorem d143_57 : decode cX8_used 57 = .ok (.ireturn, 1) := by decide +kernel
theorem v143_0 : am_all (am_V9 143) am_l143_0 := ⟨Or.inr ⟨1, d143_0, rfl, rfl, rfl, trivial, trivial⟩, Or.inr ⟨1, d143_1, rfl, rfl, rfl, trivial, trivial⟩, Or.inr ⟨1, d143_2, rfl, rfl, rfl, trivial, trivial⟩, Or.inr ⟨3, d143_3, rfl, rfl, trivial, trivial, Or.inr ⟨by decide, okM_101, aw_1014, Or.inl ⟨rfl, aw_1013⟩⟩⟩, Or.inr ⟨3, d143_6, rfl, rfl, rfl, trivial, trivial⟩, Or.inr ⟨1, d143_9, rfl, rfl, am_eq9 (by decide +kernel), trivial, trivial⟩, Or.inr ⟨3, d143_10, rfl, rfl, rfl, trivial, trivial⟩, Or.inr ⟨1, d143_13, rfl, rfl, rfl, trivial, trivial⟩, Or.inr ⟨3, d143_14, rfl, rfl, trivial, ⟨RX8, TX8, 27, rfl, by decide, Or.inl aw_922⟩, trivial⟩, Or.inr ⟨1, d143_17, rfl, rfl, am_eq9 (by decide +kernel), trivial, trivial⟩, Or.inr ⟨1, d143_18, rfl, rfl, rfl, trivial, trivial⟩, Or.inr ⟨1, d143_19, rfl, rfl, trivial, trivial, trivial⟩, Or.inr ⟨1, d143_20, rfl, rfl, rfl, trivial, trivial⟩, Or.inr ⟨1, d143_21, rfl, rfl, trivial, trivial, trivial⟩, Or.inr ⟨1, d143_22, rfl, rfl, trivial, trivial, trivial⟩, Or.inr ⟨2, d143_23, rfl, rfl, am_eq9 (by decide +kernel), trivial, trivial⟩, Or.inr ⟨3, d143_25, rfl, rfl, rfl, trivial, trivial⟩, Or.inr ⟨1, d143_28, rfl, rfl, am_eq9 (by decide +kernel), trivial, trivial⟩, Or.inr ⟨3, d143_29, rfl, rfl, rfl, trivial, trivial⟩, Or.inr ⟨1, d143_32, rfl, rfl, am_eq9 (by decide +kernel), trivial, trivial⟩, Or.inr ⟨3, d143_33, rfl, rfl, trivial, ⟨RX8, TX8, 27, rfl, by decide, aw_937, Or.inl rfl⟩, trivial⟩, Or.inr ⟨1, d143_36, rfl, rfl, rfl, trivial, trivial⟩, Or.inr ⟨3, d143_37, rfl, rfl, trivial, ⟨RX8, TX8, 27, rfl, by decide, Or.inl aw_937⟩, trivial⟩, Or.inr ⟨3, d143_40, rfl, rfl, rfl, trivial, trivial⟩, trivial⟩
theorem v143_1 : am_all (am_V9 143) am_l143_1 := ⟨Or.inr ⟨1, d143_43, rfl, rfl, am_eq9 (by decide +kernel), trivial, trivial⟩, Or.inr ⟨3, d143_44, rfl, rfl, rfl, trivial, trivial⟩, Or.inr ⟨1, d143_47, rfl, rfl, rfl, trivial, trivial⟩, Or.inr ⟨3, d143_48, rfl, rfl, trivial, ⟨RX8, TX8, 27, rfl, by decide, Or.inl aw_926⟩, trivial⟩, Or.inr ⟨1, d143_51, rfl, rfl, am_eq9 (by decide +kernel), trivial, trivial⟩, Or.inr ⟨1, d143_52, rfl, rfl, rfl, trivial, trivial⟩, Or.inr ⟨1, d143_53, rfl, rfl, trivial, trivial, trivial⟩, Or.inr ⟨1, d143_54, rfl, rfl, rfl, trivial, trivial⟩, Or.inr ⟨1, d143_55, rfl, rfl, trivial, trivial, trivial⟩, Or.inr ⟨1, d143_56, rfl, rfl, trivial, trivial, trivial⟩, Or.inr ⟨1, d143_57, rfl, rfl, trivial, trivial, trivial⟩, trivial⟩
theorem v143 : ∀ pc, am_V9 143 pc ((am_G 143).2.2.2.2.1 pc) := am_all_lc am_V9_0 _ ⟨v143_0, v143_1, trivial⟩
theorem d144_0 : decode cX8_has 0 = .ok (.aload_n 0, 1) := by decide +kernel
theorem d144_1 : decode cX8_has 1 = .ok (.iload_n 1, 1) := by decide +kernel
theorem d144_2 : decode cX8_has 2 = .ok (.iload_n 2, 1) := by decide +kernel
theorem d144_3 : decode cX8_has 3 = .ok (.iload_n 3, 1) := by decide +kernel
theorem d144_4 : decode cX8_has 4 = .ok (.invokestatic 108, 3) := by decide +kernel
theorem d144_7 : decode cX8_has 7 = .ok (.invokevirtual 111, 3) := by decide +kernel
theorem d144_10 : decode cX8_has 10 = .ok (.ifCond .ne 21, 3) := by decide +kernel
theorem d144_13 : decode cX8_has 13 = .ok (.aload_n 0, 1) := by decide +kernel
theorem d144_14 : decode cX8_has 14 = .ok (.getfield 54, 3) := by decide +kernel
theorem d144_17 : decode cX8_has 17 = .ok (.iload_n 1, 1) := by decide +kernel
theorem d144_18 : decode cX8_has 18 = .ok (.iload_n 2, 1) := by decide +kernel
theorem d144_19 : decode cX8_has 19 = .ok (.iload_n 3, 1) := by decide +kernel
theorem d144_20 : decode cX8_has 20 = .ok (.invokestatic 115, 3) := by decide +kernel
theorem d144_23 : decode cX8_has 23 = .ok (.baload, 1) := by decide +kernel
theorem d144_24 : decode cX8_has 24 = .ok (.ifCond .ne 7, 3) := by decide +kernel
theorem d144_27 : decode cX8_has 27 = .ok (.iconst 1, 1) := by decide +kernel
theorem d144_28 : decode cX8_has 28 = .ok (.goto 4, 3) := by decide +kernel
theorem d144_31 : decode cX8_has 31 = .ok (.iconst 0, 1) := by decide +kernel
theorem d144_32 : decode cX8_has 32 = .ok (.ireturn, 1) := by decide +kernel
theorem v144_0 : am_all (am_V9 144) am_l144_0 := ⟨Or.inr ⟨1, d144_0, rfl, rfl, rfl, trivial, trivial⟩, Or.inr ⟨1, d144_1, rfl, rfl, rfl, trivial, trivial⟩, Or.inr ⟨1, d144_2, rfl, rfl, rfl, trivial, trivial⟩, Or.inr ⟨1, d144_3, rfl, rfl, rfl, trivial, trivial⟩, Or.inr ⟨3, d144_4, rfl, rfl, trivial, trivial, Or.inr ⟨by decide, okM_103, aw_1024, Or.inl ⟨rfl, aw_1023⟩⟩⟩, Or.inr ⟨3, d144_7, rfl, rfl, trivial, trivial, ⟨by decide, ⟨_, TX8, 27, rfl, okM_99, rfl⟩, aw_1026, aw_1028, as_99⟩⟩, Or.inr ⟨3, d144_10, rfl, rfl, rfl, trivial, trivial⟩, Or.inr ⟨1, d144_13, rfl, rfl, rfl, trivial, trivial⟩, Or.inr ⟨3, d144_14, rfl, rfl, trivial, ⟨RX8, TX8, 27, rfl, by decide, Or.inl aw_936⟩, trivial⟩, Or.inr ⟨1, d144_17, rfl, rfl, rfl, trivial, trivial⟩, Or.inr ⟨1, d144_18, rfl, rfl, rfl, trivial, trivial⟩, Or.inr ⟨1, d144_19, rfl, rfl, rfl, trivial, trivial⟩, Or.inr ⟨3, d144_20, rfl, rfl, trivial, trivial, Or.inr ⟨by decide, okM_104, aw_1031, Or.inl ⟨rfl, aw_1030⟩⟩⟩, Or.inr ⟨1, d144_23, rfl, rfl, trivial, trivial, trivial⟩, Or.inr ⟨3, d144_24, rfl, rfl, rfl, trivial, trivial⟩, Or.inr ⟨1, d144_27, rfl, rfl, am_eq9 (by decide +kernel), trivial, trivial⟩, Or.inr ⟨3, d144_28, rfl, rfl, rfl, trivial, trivial⟩, Or.inr ⟨1, d144_31, rfl, rfl, am_eq9 (by decide +kernel), trivial, trivial⟩, Or.inr ⟨1, d144_32, rfl, rfl, trivial, trivial, trivial⟩, trivial⟩
theorem v144 : ∀ pc, am_V9 144 pc ((am_G 144).2.2.2.2.1 pc) := am_all_lc am_V9_0 _ ⟨v144_0, trivial⟩
theorem d145_0 : decode cX8_hasAnew 0 = .ok (.aload_n 0, 1) := by decide +kernel
theorem d145_1 : decode cX8_hasAnew 1 = .ok (.iload_n 1, 1) := by decide +kernel
theorem d145_2 : decode cX8_hasAnew 2 = .ok (.iload_n 2, 1) := by decide +kernel
theorem d145_3 : decode cX8_hasAnew 3 = .ok (.iload_n 3, 1) := by decide +kernel
theorem d145_4 : decode cX8_hasAnew 4 = .ok (.invokevirtual 209, 3) := by decide +kernel
theorem d145_7 : decode cX8_hasAnew 7 = .ok (.ireturn, 1) := by decide +kernel
theorem v145_0 : am_all (am_V9 145) am_l145_0 := ⟨Or.inr ⟨1, d145_0, rfl, rfl, rfl, trivial, trivial⟩, Or.inr ⟨1, d145_1, rfl, rfl, rfl, trivial, trivial⟩, Or.inr ⟨1, d145_2, rfl, rfl, rfl, trivial, trivial⟩, Or.inr ⟨1, d145_3, rfl, rfl, rfl, trivial, trivial⟩, Or.inr ⟨3, d145_4, rfl, rfl, trivial, trivial, ⟨by decide, ⟨_, TX8, 27, rfl, okM_144, rfl⟩, aw_1194, aw_1187, aw_1188⟩⟩, Or.inr ⟨1, d145_7, rfl, rfl, trivial, trivial, trivial⟩, trivial⟩
theorem v145 : ∀ pc, am_V9 145 pc ((am_G 145).2.2.2.2.1 pc) := am_all_lc am_V9_0 _ ⟨v145_0, trivial⟩
theorem d146_0 : decode cX8_manyLeft 0 = .ok (.iconst 0, 1) := by decide +kernel
theorem d146_1 : decode cX8_manyLeft 1 = .ok (.istore_n 1, 1) := by decide +kernel
theorem d146_2 : decode cX8_manyLeft 2 = .ok (.iconst 0, 1) := by decide +kernel
theorem d146_3 : decode cX8_manyLeft 3 = .ok (.istore_n 2, 1) := by decide +kernel
theorem d146_4 : decode cX8_manyLeft 4 = .ok (.iload_n 2, 1) := by decide +kernel
theorem d146_5 : decode cX8_manyLeft 5 = .ok (.sipush 1152, 3) := by decide +kernel
theorem d146_8 : decode cX8_manyLeft 8 = .ok (.if_icmp .ge 26, 3) := by decide +kernel
theorem d146_11 : decode cX8_manyLeft 11 = .ok (.iload_n 1, 1) := by decide +kernel
theorem d146_12 : decode cX8_manyLeft 12 = .ok (.aload_n 0, 1) := by decide +kernel
theorem d146_13 : decode cX8_manyLeft 13 = .ok (.getfield 54, 3) := by decide +kernel
theorem d146_16 : decode cX8_manyLeft 16 = .ok (.iload_n 2, 1) := by decide +kernel
theorem d146_17 : decode cX8_manyLeft 17 = .ok (.baload, 1) := by decide +kernel
theorem d146_18 : decode cX8_manyLeft 18 = .ok (.ifCond .eq 7, 3) := by decide +kernel
theorem d146_21 : decode cX8_manyLeft 21 = .ok (.iconst 0, 1) := by decide +kernel
theorem d146_22 : decode cX8_manyLeft 22 = .ok (.goto 4, 3) := by decide +kernel
theorem d146_25 : decode cX8_manyLeft 25 = .ok (.iconst 1, 1) := by decide +kernel
theorem d146_26 : decode cX8_manyLeft 26 = .ok (.iadd, 1) := by decide +kernel
theorem d146_27 : decode cX8_manyLeft 27 = .ok (.istore_n 1, 1) := by decide +kernel
theorem d146_28 : decode cX8_manyLeft 28 = .ok (.iinc 2 1, 3) := by decide +kernel
theorem d146_31 : decode cX8_manyLeft 31 = .ok (.goto (-27), 3) := by decide +kernel
theorem d146_34 : decode cX8_manyLeft 34 = .ok (.iload_n 1, 1) := by decide +kernel
theorem d146_35 : decode cX8_manyLeft 35 = .ok (.ireturn, 1) := by decide +kernel
theorem v146_0 : am_all (am_V9 146) am_l146_0 := ⟨Or.inr ⟨1, d146_0, rfl, rfl, am_eq9 (by decide +kernel), trivial, trivial⟩, Or.inr ⟨1, d146_1, rfl, rfl, rfl, trivial, trivial⟩, Or.inr ⟨1, d146_2, rfl, rfl, am_eq9 (by decide +kernel), trivial, trivial⟩, Or.inr ⟨1, d146_3, rfl, rfl, rfl, trivial, trivial⟩, Or.inr ⟨1, d146_4, rfl, rfl, rfl, trivial, trivial⟩, Or.inr ⟨3, d146_5, rfl, rfl, am_eq9 (by decide +kernel), trivial, trivial⟩, Or.inr ⟨3, d146_8, rfl, rfl, rfl, trivial, trivial⟩, Or.inr ⟨1, d146_11, rfl, rfl, rfl, trivial, trivial⟩, Or.inr ⟨1, d146_12, rfl, rfl, rfl, trivial, trivial⟩, Or.inr ⟨3, d146_13, rfl, rfl, trivial, ⟨RX8, TX8, 27, rfl, by decide, Or.inl aw_936⟩, trivial⟩, Or.inr ⟨1, d146_16, rfl, rfl, rfl, trivial, trivial⟩, Or.inr ⟨1, d146_17, rfl, rfl, trivial, trivial, trivial⟩, Or.inr ⟨3, d146_18, rfl, rfl, rfl, trivial, trivial⟩, Or.inr ⟨1, d146_21, rfl, rfl, am_eq9 (by decide +kernel), trivial, trivial⟩, Or.inr ⟨3, d146_22, rfl, rfl, rfl, trivial, trivial⟩, Or.inr ⟨1, d146_25, rfl, rfl, am_eq9 (by decide +kernel), trivial, trivial⟩, Or.inr ⟨1, d146_26, rfl, rfl, trivial, trivial, trivial⟩, Or.inr ⟨1, d146_27, rfl, rfl, rfl, trivial, trivial⟩, Or.inr ⟨3, d146_28, rfl, rfl, ⟨rfl, by decide⟩, trivial, trivial⟩, Or.inr ⟨3, d146_31, rfl, rfl, rfl, trivial, trivial⟩, Or.inr ⟨1, d146_34, rfl, rfl, rfl, trivial, trivial⟩, Or.inr ⟨1, d146_35, rfl, rfl, trivial, trivial, trivial⟩, trivial⟩
theorem v146 : ∀ pc, am_V9 146 pc ((am_G 146).2.2.2.2.1 pc) := am_all_lc am_V9_0 _ ⟨v146_0, trivial⟩
theorem d147_0 : decode cX8_stock 0 = .ok (.aload_n 0, 1) := by decide +kernel
theorem d147_1 : decode cX8_stock 1 = .ok (.aload_n 0, 1) := by decide +kernel
theorem d147_2 : decode cX8_stock 2 = .ok (.invokevirtual 212, 3) := by decide +kernel
theorem d147_5 : decode cX8_stock 5 = .ok (.invokevirtual 206, 3) := by decide +kernel
theorem d147_8 : decode cX8_stock 8 = .ok (.ireturn, 1) := by decide +kernel
theorem v147_0 : am_all (am_V9 147) am_l147_0 := ⟨Or.inr ⟨1, d147_0, rfl, rfl, rfl, trivial, trivial⟩, Or.inr ⟨1, d147_1, rfl, rfl, rfl, trivial, trivial⟩, Or.inr ⟨3, d147_2, rfl, rfl, trivial, trivial, ⟨by decide, ⟨_, TX8, 27, rfl, okM_146, rfl⟩, aw_1199, aw_1201, as_146⟩⟩, Or.inr ⟨3, d147_5, rfl, rfl, trivial, trivial, ⟨by decide, ⟨_, TX8, 27, rfl, okM_98, rfl⟩, aw_1150, aw_1152, as_98⟩⟩, Or.inr ⟨1, d147_8, rfl, rfl, trivial, trivial, trivial⟩, trivial⟩
theorem v147 : ∀ pc, am_V9 147 pc ((am_G 147).2.2.2.2.1 pc) := am_all_lc am_V9_0 _ ⟨v147_0, trivial⟩
theorem d148_0 : decode cX8_height 0 = .ok (.aload_n 0, 1) := by decide +kernel
theorem d148_1 : decode cX8_height 1 = .ok (.iload_n 1, 1) := by decide +kernel
theorem d148_2 : decode cX8_height 2 = .ok (.iload_n 2, 1) := by decide +kernel
theorem d148_3 : decode cX8_height 3 = .ok (.iconst 0, 1) := by decide +kernel
theorem d148_4 : decode cX8_height 4 = .ok (.invokestatic 108, 3) := by decide +kernel
theorem d148_7 : decode cX8_height 7 = .ok (.invokevirtual 111, 3) := by decide +kernel
theorem d148_10 : decode cX8_height 10 = .ok (.ifCond .le 5, 3) := by decide +kernel
theorem d148_13 : decode cX8_height 13 = .ok (.iconst 0, 1) := by decide +kernel
theorem d148_14 : decode cX8_height 14 = .ok (.ireturn, 1) := by decide +kernel
theorem d148_15 : decode cX8_height 15 = .ok (.bipush 6, 2) := by decide +kernel
theorem d148_17 : decode cX8_height 17 = .ok (.istore_n 3, 1) := by decide +kernel
theorem d148_18 : decode cX8_height 18 = .ok (.iload_n 3, 1) := by decide +kernel
theorem d148_19 : decode cX8_height 19 = .ok (.ifCond .le 25, 3) := by decide +kernel
theorem d148_22 : decode cX8_height 22 = .ok (.aload_n 0, 1) := by decide +kernel
theorem d148_23 : decode cX8_height 23 = .ok (.getfield 54, 3) := by decide +kernel
theorem d148_26 : decode cX8_height 26 = .ok (.iload_n 1, 1) := by decide +kernel
theorem d148_27 : decode cX8_height 27 = .ok (.iload_n 2, 1) := by decide +kernel
theorem d148_28 : decode cX8_height 28 = .ok (.iload_n 3, 1) := by decide +kernel
theorem d148_29 : decode cX8_height 29 = .ok (.iconst 1, 1) := by decide +kernel
theorem d148_30 : decode cX8_height 30 = .ok (.isub, 1) := by decide +kernel
theorem d148_31 : decode cX8_height 31 = .ok (.invokestatic 115, 3) := by decide +kernel
theorem d148_34 : decode cX8_height 34 = .ok (.baload, 1) := by decide +kernel
theorem d148_35 : decode cX8_height 35 = .ok (.ifCond .eq 9, 3) := by decide +kernel
theorem d148_38 : decode cX8_height 38 = .ok (.iinc 3 (-1), 3) := by decide +kernel
theorem d148_41 : decode cX8_height 41 = .ok (.goto (-23), 3) := by decide +kernel
theorem d148_44 : decode cX8_height 44 = .ok (.iload_n 3, 1) := by decide +kernel
theorem d148_45 : decode cX8_height 45 = .ok (.ireturn, 1) := by decide +kernel
theorem v148_0 : am_all (am_V9 148) am_l148_0 := ⟨Or.inr ⟨1, d148_0, rfl, rfl, rfl, trivial, trivial⟩, Or.inr ⟨1, d148_1, rfl, rfl, rfl, trivial, trivial⟩, Or.inr ⟨1, d148_2, rfl, rfl, rfl, trivial, trivial⟩, Or.inr ⟨1, d148_3, rfl, rfl, am_eq9 (by decide +kernel), trivial, trivial⟩, Or.inr ⟨3, d148_4, rfl, rfl, trivial, trivial, Or.inr ⟨by decide, okM_103, aw_1024, Or.inl ⟨rfl, aw_1023⟩⟩⟩, Or.inr ⟨3, d148_7, rfl, rfl, trivial, trivial, ⟨by decide, ⟨_, TX8, 27, rfl, okM_99, rfl⟩, aw_1026, aw_1028, as_99⟩⟩, Or.inr ⟨3, d148_10, rfl, rfl, rfl, trivial, trivial⟩, Or.inr ⟨1, d148_13, rfl, rfl, am_eq9 (by decide +kernel), trivial, trivial⟩, Or.inr ⟨1, d148_14, rfl, rfl, trivial, trivial, trivial⟩, Or.inr ⟨2, d148_15, rfl, rfl, am_eq9 (by decide +kernel), trivial, trivial⟩, Or.inr ⟨1, d148_17, rfl, rfl, rfl, trivial, trivial⟩, Or.inr ⟨1, d148_18, rfl, rfl, rfl, trivial, trivial⟩, Or.inr ⟨3, d148_19, rfl, rfl, rfl, trivial, trivial⟩, Or.inr ⟨1, d148_22, rfl, rfl, rfl, trivial, trivial⟩, Or.inr ⟨3, d148_23, rfl, rfl, trivial, ⟨RX8, TX8, 27, rfl, by decide, Or.inl aw_936⟩, trivial⟩, Or.inr ⟨1, d148_26, rfl, rfl, rfl, trivial, trivial⟩, Or.inr ⟨1, d148_27, rfl, rfl, rfl, trivial, trivial⟩, Or.inr ⟨1, d148_28, rfl, rfl, rfl, trivial, trivial⟩, Or.inr ⟨1, d148_29, rfl, rfl, am_eq9 (by decide +kernel), trivial, trivial⟩, Or.inr ⟨1, d148_30, rfl, rfl, trivial, trivial, trivial⟩, Or.inr ⟨3, d148_31, rfl, rfl, trivial, trivial, Or.inr ⟨by decide, okM_104, aw_1031, Or.inl ⟨rfl, aw_1030⟩⟩⟩, Or.inr ⟨1, d148_34, rfl, rfl, trivial, trivial, trivial⟩, Or.inr ⟨3, d148_35, rfl, rfl, rfl, trivial, trivial⟩, Or.inr ⟨3, d148_38, rfl, rfl, ⟨rfl, by decide⟩, trivial, trivial⟩, trivial⟩
theorem v148_1 : am_all (am_V9 148) am_l148_1 := ⟨Or.inr ⟨3, d148_41, rfl, rfl, rfl, trivial, trivial⟩, Or.inr ⟨1, d148_44, rfl, rfl, rfl, trivial, trivial⟩, Or.inr ⟨1, d148_45, rfl, rfl, trivial, trivial, trivial⟩, trivial⟩
theorem v148 : ∀ pc, am_V9 148 pc ((am_G 148).2.2.2.2.1 pc) := am_all_lc am_V9_0 _ ⟨v148_0, v148_1, trivial⟩
theorem d149_0 : decode cX8_checksum 0 = .ok (.lconst 0, 1) := by decide +kernel
theorem d149_1 : decode cX8_checksum 1 = .ok (.lstore_n 1, 1) := by decide +kernel
theorem d149_2 : decode cX8_checksum 2 = .ok (.iconst 0, 1) := by decide +kernel
theorem d149_3 : decode cX8_checksum 3 = .ok (.istore_n 3, 1) := by decide +kernel
theorem d149_4 : decode cX8_checksum 4 = .ok (.iload_n 3, 1) := by decide +kernel
theorem d149_5 : decode cX8_checksum 5 = .ok (.sipush 1152, 3) := by decide +kernel
theorem d149_8 : decode cX8_checksum 8 = .ok (.if_icmp .ge 34, 3) := by decide +kernel
theorem d149_11 : decode cX8_checksum 11 = .ok (.lload_n 1, 1) := by decide +kernel
theorem d149_12 : decode cX8_checksum 12 = .ok (.aload_n 0, 1) := by decide +kernel
theorem d149_13 : decode cX8_checksum 13 = .ok (.getfield 54, 3) := by decide +kernel
theorem d149_16 : decode cX8_checksum 16 = .ok (.iload_n 3, 1) := by decide +kernel
theorem d149_17 : decode cX8_checksum 17 = .ok (.baload, 1) := by decide +kernel
theorem d149_18 : decode cX8_checksum 18 = .ok (.ifCond .eq 7, 3) := by decide +kernel
theorem d149_21 : decode cX8_checksum 21 = .ok (.lconst 0, 1) := by decide +kernel
theorem d149_22 : decode cX8_checksum 22 = .ok (.goto 12, 3) := by decide +kernel
theorem d149_25 : decode cX8_checksum 25 = .ok (.iload_n 3, 1) := by decide +kernel
theorem d149_26 : decode cX8_checksum 26 = .ok (.i2l, 1) := by decide +kernel
theorem d149_27 : decode cX8_checksum 27 = .ok (.lconst 1, 1) := by decide +kernel
theorem d149_28 : decode cX8_checksum 28 = .ok (.ladd, 1) := by decide +kernel
theorem d149_29 : decode cX8_checksum 29 = .ok (.iload_n 3, 1) := by decide +kernel
theorem d149_30 : decode cX8_checksum 30 = .ok (.i2l, 1) := by decide +kernel
theorem d149_31 : decode cX8_checksum 31 = .ok (.lconst 1, 1) := by decide +kernel
theorem d149_32 : decode cX8_checksum 32 = .ok (.ladd, 1) := by decide +kernel
theorem d149_33 : decode cX8_checksum 33 = .ok (.lmul, 1) := by decide +kernel
theorem d149_34 : decode cX8_checksum 34 = .ok (.ladd, 1) := by decide +kernel
theorem d149_35 : decode cX8_checksum 35 = .ok (.lstore_n 1, 1) := by decide +kernel
theorem d149_36 : decode cX8_checksum 36 = .ok (.iinc 3 1, 3) := by decide +kernel
theorem d149_39 : decode cX8_checksum 39 = .ok (.goto (-35), 3) := by decide +kernel
theorem d149_42 : decode cX8_checksum 42 = .ok (.aload_n 0, 1) := by decide +kernel
theorem d149_43 : decode cX8_checksum 43 = .ok (.iconst 0, 1) := by decide +kernel
theorem d149_44 : decode cX8_checksum 44 = .ok (.putfield 57, 3) := by decide +kernel
theorem d149_47 : decode cX8_checksum 47 = .ok (.lload_n 1, 1) := by decide +kernel
theorem d149_48 : decode cX8_checksum 48 = .ok (.lreturn, 1) := by decide +kernel
theorem v149_0 : am_all (am_V9 149) am_l149_0 := ⟨Or.inr ⟨1, d149_0, rfl, rfl, rfl, trivial, trivial⟩, Or.inr ⟨1, d149_1, rfl, rfl, rfl, trivial, trivial⟩, Or.inr ⟨1, d149_2, rfl, rfl, am_eq9 (by decide +kernel), trivial, trivial⟩, Or.inr ⟨1, d149_3, rfl, rfl, rfl, trivial, trivial⟩, Or.inr ⟨1, d149_4, rfl, rfl, rfl, trivial, trivial⟩, Or.inr ⟨3, d149_5, rfl, rfl, am_eq9 (by decide +kernel), trivial, trivial⟩, Or.inr ⟨3, d149_8, rfl, rfl, rfl, trivial, trivial⟩, Or.inr ⟨1, d149_11, rfl, rfl, rfl, trivial, trivial⟩, Or.inr ⟨1, d149_12, rfl, rfl, rfl, trivial, trivial⟩, Or.inr ⟨3, d149_13, rfl, rfl, trivial, ⟨RX8, TX8, 27, rfl, by decide, Or.inl aw_936⟩, trivial⟩, Or.inr ⟨1, d149_16, rfl, rfl, rfl, trivial, trivial⟩, Or.inr ⟨1, d149_17, rfl, rfl, trivial, trivial, trivial⟩, Or.inr ⟨3, d149_18, rfl, rfl, rfl, trivial, trivial⟩, Or.inr ⟨1, d149_21, rfl, rfl, rfl, trivial, trivial⟩, Or.inr ⟨3, d149_22, rfl, rfl, rfl, trivial, trivial⟩, Or.inr ⟨1, d149_25, rfl, rfl, rfl, trivial, trivial⟩, Or.inr ⟨1, d149_26, rfl, rfl, trivial, trivial, trivial⟩, Or.inr ⟨1, d149_27, rfl, rfl, rfl, trivial, trivial⟩, Or.inr ⟨1, d149_28, rfl, rfl, trivial, trivial, trivial⟩, Or.inr ⟨1, d149_29, rfl, rfl, rfl, trivial, trivial⟩, Or.inr ⟨1, d149_30, rfl, rfl, trivial, trivial, trivial⟩, Or.inr ⟨1, d149_31, rfl, rfl, rfl, trivial, trivial⟩, Or.inr ⟨1, d149_32, rfl, rfl, trivial, trivial, trivial⟩, Or.inr ⟨1, d149_33, rfl, rfl, trivial, trivial, trivial⟩, trivial⟩
theorem v149_1 : am_all (am_V9 149) am_l149_1 := ⟨Or.inr ⟨1, d149_34, rfl, rfl, trivial, trivial, trivial⟩, Or.inr ⟨1, d149_35, rfl, rfl, rfl, trivial, trivial⟩, Or.inr ⟨3, d149_36, rfl, rfl, ⟨rfl, by decide⟩, trivial, trivial⟩, Or.inr ⟨3, d149_39, rfl, rfl, rfl, trivial, trivial⟩, Or.inr ⟨1, d149_42, rfl, rfl, rfl, trivial, trivial⟩, Or.inr ⟨1, d149_43, rfl, rfl, am_eq9 (by decide +kernel), trivial, trivial⟩, Or.inr ⟨3, d149_44, rfl, rfl, trivial, ⟨RX8, TX8, 27, rfl, by decide, aw_937, Or.inl rfl⟩, trivial⟩, Or.inr ⟨1, d149_47, rfl, rfl, rfl, trivial, trivial⟩, Or.inr ⟨1, d149_48, rfl, rfl, trivial, trivial, trivial⟩, trivial⟩
theorem v149 : ∀ pc, am_V9 149 pc ((am_G 149).2.2.2.2.1 pc) := am_all_lc am_V9_0 _ ⟨v149_0, v149_1, trivial⟩
theorem d150_0 : decode cX8_time 0 = .ok (.aload_n 0, 1) := by decide +kernel
theorem d150_1 : decode cX8_time 1 = .ok (.iconst 0, 1) := by decide +kernel
theorem d150_2 : decode cX8_time 2 = .ok (.putfield 57, 3) := by decide +kernel
theorem d150_5 : decode cX8_time 5 = .ok (.aload_n 0, 1) := by decide +kernel
theorem d150_6 : decode cX8_time 6 = .ok (.getfield 86, 3) := by decide +kernel
theorem d150_9 : decode cX8_time 9 = .ok (.freturn, 1) := by decide +kernel
theorem v150_0 : am_all (am_V9 150) am_l150_0 := ⟨Or.inr ⟨1, d150_0, rfl, rfl, rfl, trivial, trivial⟩, Or.inr ⟨1, d150_1, rfl, rfl, am_eq9 (by decide +kernel), trivial, trivial⟩, Or.inr ⟨3, d150_2, rfl, rfl, trivial, ⟨RX8, TX8, 27, rfl, by decide, aw_937, Or.inl rfl⟩, trivial⟩, Or.inr ⟨1, d150_5, rfl, rfl, rfl, trivial, trivial⟩, Or.inr ⟨3, d150_6, rfl, rfl, trivial, ⟨RX8, TX8, 27, rfl, by decide, Or.inl aw_946⟩, trivial⟩, Or.inr ⟨1, d150_9, rfl, rfl, trivial, trivial, trivial⟩, trivial⟩
theorem v150 : ∀ pc, am_V9 150 pc ((am_G 150).2.2.2.2.1 pc) := am_all_lc am_V9_0 _ ⟨v150_0, trivial⟩
theorem d151_0 : decode cX8_timeBits 0 = .ok (.aload_n 0, 1) := by decide +kernel
theorem d151_1 : decode cX8_timeBits 1 = .ok (.aload_n 0, 1) := by decide +kernel
theorem d151_2 : decode cX8_timeBits 2 = .ok (.getfield 86, 3) := by decide +kernel
theorem d151_5 : decode cX8_timeBits 5 = .ok (.invokestatic 216, 3) := by decide +kernel
theorem d151_8 : decode cX8_timeBits 8 = .ok (.invokevirtual 206, 3) := by decide +kernel
theorem d151_11 : decode cX8_timeBits 11 = .ok (.ireturn, 1) := by decide +kernel
theorem v151_0 : am_all (am_V9 151) am_l151_0 := ⟨Or.inr ⟨1, d151_0, rfl, rfl, rfl, trivial, trivial⟩, Or.inr ⟨1, d151_1, rfl, rfl, rfl, trivial, trivial⟩, Or.inr ⟨3, d151_2, rfl, rfl, trivial, ⟨RX8, TX8, 27, rfl, by decide, Or.inl aw_946⟩, trivial⟩, Or.inr ⟨3, d151_5, rfl, rfl, trivial, trivial, Or.inr ⟨by decide, okM_156, aw_1220, Or.inl ⟨rfl, aw_1219⟩⟩⟩, Or.inr ⟨3, d151_8, rfl, rfl, trivial, trivial, ⟨by decide, ⟨_, TX8, 27, rfl, okM_98, rfl⟩, aw_1150, aw_1152, as_98⟩⟩, Or.inr ⟨1, d151_11, rfl, rfl, trivial, trivial, trivial⟩, trivial⟩
theorem v151 : ∀ pc, am_V9 151 pc ((am_G 151).2.2.2.2.1 pc) := am_all_lc am_V9_0 _ ⟨v151_0, trivial⟩
theorem d152_0 : decode cX8_meanUse 0 = .ok (.iconst 0, 1) := by decide +kernel
theorem d152_1 : decode cX8_meanUse 1 = .ok (.istore_n 1, 1) := by decide +kernel
theorem d152_2 : decode cX8_meanUse 2 = .ok (.iconst 0, 1) := by decide +kernel
theorem d152_3 : decode cX8_meanUse 3 = .ok (.istore_n 2, 1) := by decide +kernel
theorem d152_4 : decode cX8_meanUse 4 = .ok (.iconst 0, 1) := by decide +kernel
theorem d152_5 : decode cX8_meanUse 5 = .ok (.istore_n 3, 1) := by decide +kernel
theorem d152_6 : decode cX8_meanUse 6 = .ok (.iload_n 3, 1) := by decide +kernel
theorem d152_7 : decode cX8_meanUse 7 = .ok (.bipush 12, 2) := by decide +kernel
theorem d152_9 : decode cX8_meanUse 9 = .ok (.if_icmp .ge 37, 3) := by decide +kernel
theorem d152_12 : decode cX8_meanUse 12 = .ok (.iload_n 1, 1) := by decide +kernel
theorem d152_13 : decode cX8_meanUse 13 = .ok (.aload_n 0, 1) := by decide +kernel
theorem d152_14 : decode cX8_meanUse 14 = .ok (.getfield 7, 3) := by decide +kernel
theorem d152_17 : decode cX8_meanUse 17 = .ok (.iload_n 3, 1) := by decide +kernel
theorem d152_18 : decode cX8_meanUse 18 = .ok (.caload, 1) := by decide +kernel
theorem d152_19 : decode cX8_meanUse 19 = .ok (.bipush 45, 2) := by decide +kernel
theorem d152_21 : decode cX8_meanUse 21 = .ok (.if_icmp .ne 7, 3) := by decide +kernel
theorem d152_24 : decode cX8_meanUse 24 = .ok (.iconst 0, 1) := by decide +kernel
theorem d152_25 : decode cX8_meanUse 25 = .ok (.goto 4, 3) := by decide +kernel
theorem d152_28 : decode cX8_meanUse 28 = .ok (.iconst 1, 1) := by decide +kernel
theorem d152_29 : decode cX8_meanUse 29 = .ok (.iadd, 1) := by decide +kernel
theorem d152_30 : decode cX8_meanUse 30 = .ok (.istore_n 1, 1) := by decide +kernel
theorem d152_31 : decode cX8_meanUse 31 = .ok (.iload_n 2, 1) := by decide +kernel
theorem d152_32 : decode cX8_meanUse 32 = .ok (.aload_n 0, 1) := by decide +kernel
theorem d152_33 : decode cX8_meanUse 33 = .ok (.getfield 23, 3) := by decide +kernel
theorem d152_36 : decode cX8_meanUse 36 = .ok (.iload_n 3, 1) := by decide +kernel
theorem d152_37 : decode cX8_meanUse 37 = .ok (.iaload, 1) := by decide +kernel
theorem d152_38 : decode cX8_meanUse 38 = .ok (.iadd, 1) := by decide +kernel
theorem d152_39 : decode cX8_meanUse 39 = .ok (.istore_n 2, 1) := by decide +kernel
theorem d152_40 : decode cX8_meanUse 40 = .ok (.iinc 3 1, 3) := by decide +kernel
theorem d152_43 : decode cX8_meanUse 43 = .ok (.goto (-37), 3) := by decide +kernel
theorem d152_46 : decode cX8_meanUse 46 = .ok (.aload_n 0, 1) := by decide +kernel
theorem d152_47 : decode cX8_meanUse 47 = .ok (.iload_n 1, 1) := by decide +kernel
theorem d152_48 : decode cX8_meanUse 48 = .ok (.ifCond .le 7, 3) := by decide +kernel
theorem d152_51 : decode cX8_meanUse 51 = .ok (.iconst 1, 1) := by decide +kernel
theorem d152_52 : decode cX8_meanUse 52 = .ok (.goto 4, 3) := by decide +kernel
theorem d152_55 : decode cX8_meanUse 55 = .ok (.iconst 0, 1) := by decide +kernel
theorem d152_56 : decode cX8_meanUse 56 = .ok (.invokevirtual 111, 3) := by decide +kernel
theorem d152_59 : decode cX8_meanUse 59 = .ok (.ifCond .le 7, 3) := by decide +kernel
theorem d152_62 : decode cX8_meanUse 62 = .ok (.dconst 0, 1) := by decide +kernel
theorem d152_63 : decode cX8_meanUse 63 = .ok (.goto 8, 3) := by decide +kernel
theorem d152_66 : decode cX8_meanUse 66 = .ok (.iload_n 2, 1) := by decide +kernel
theorem d152_67 : decode cX8_meanUse 67 = .ok (.i2d, 1) := by decide +kernel
theorem d152_68 : decode cX8_meanUse 68 = .ok (.iload_n 1, 1) := by decide +kernel
theorem d152_69 : decode cX8_meanUse 69 = .ok (.i2d, 1) := by decide +kernel
theorem d152_70 : decode cX8_meanUse 70 = .ok (.ddiv, 1) := by decide +kernel
theorem d152_71 : decode cX8_meanUse 71 = .ok (.dreturn, 1) := by decide +kernel
theorem v152_0 : am_all (am_V9 152) am_l152_0 := ⟨Or.inr ⟨1, d152_0, rfl, rfl, am_eq9 (by decide +kernel), trivial, trivial⟩, Or.inr ⟨1, d152_1, rfl, rfl, rfl, trivial, trivial⟩, Or.inr ⟨1, d152_2, rfl, rfl, am_eq9 (by decide +kernel), trivial, trivial⟩, Or.inr ⟨1, d152_3, rfl, rfl, rfl, trivial, trivial⟩, Or.inr ⟨1, d152_4, rfl, rfl, am_eq9 (by decide +kernel), trivial, trivial⟩, Or.inr ⟨1, d152_5, rfl, rfl, rfl, trivial, trivial⟩, Or.inr ⟨1, d152_6, rfl, rfl, rfl, trivial, trivial⟩, Or.inr ⟨2, d152_7, rfl, rfl, am_eq9 (by decide +kernel), trivial, trivial⟩, Or.inr ⟨3, d152_9, rfl, rfl, rfl, trivial, trivial⟩, Or.inr ⟨1, d152_12, rfl, rfl, rfl, trivial, trivial⟩, Or.inr ⟨1, d152_13, rfl, rfl, rfl, trivial, trivial⟩, Or.inr ⟨3, d152_14, rfl, rfl, trivial, ⟨RX8, TX8, 27, rfl, by decide, Or.inl aw_922⟩, trivial⟩, Or.inr ⟨1, d152_17, rfl, rfl, rfl, trivial, trivial⟩, Or.inr ⟨1, d152_18, rfl, rfl, trivial, trivial, trivial⟩, Or.inr ⟨2, d152_19, rfl, rfl, am_eq9 (by decide +kernel), trivial, trivial⟩, Or.inr ⟨3, d152_21, rfl, rfl, rfl, trivial, trivial⟩, Or.inr ⟨1, d152_24, rfl, rfl, am_eq9 (by decide +kernel), trivial, trivial⟩, Or.inr ⟨3, d152_25, rfl, rfl, rfl, trivial, trivial⟩, Or.inr ⟨1, d152_28, rfl, rfl, am_eq9 (by decide +kernel), trivial, trivial⟩, Or.inr ⟨1, d152_29, rfl, rfl, trivial, trivial, trivial⟩, Or.inr ⟨1, d152_30, rfl, rfl, rfl, trivial, trivial⟩, Or.inr ⟨1, d152_31, rfl, rfl, rfl, trivial, trivial⟩, Or.inr ⟨1, d152_32, rfl, rfl, rfl, trivial, trivial⟩, Or.inr ⟨3, d152_33, rfl, rfl, trivial, ⟨RX8, TX8, 27, rfl, by decide, Or.inl aw_926⟩, trivial⟩, trivial⟩
theorem v152_1 : am_all (am_V9 152) am_l152_1 := ⟨Or.inr ⟨1, d152_36, rfl, rfl, rfl, trivial, trivial⟩, Or.inr ⟨1, d152_37, rfl, rfl, trivial, trivial, trivial⟩, Or.inr ⟨1, d152_38, rfl, rfl, trivial, trivial, trivial⟩, Or.inr ⟨1, d152_39, rfl, rfl, rfl, trivial, trivial⟩, Or.inr ⟨3, d152_40, rfl, rfl, ⟨rfl, by decide⟩, trivial, trivial⟩, Or.inr ⟨3, d152_43, rfl, rfl, rfl, trivial, trivial⟩, Or.inr ⟨1, d152_46, rfl, rfl, rfl, trivial, trivial⟩, Or.inr ⟨1, d152_47, rfl, rfl, rfl, trivial, trivial⟩, Or.inr ⟨3, d152_48, rfl, rfl, rfl, trivial, trivial⟩, Or.inr ⟨1, d152_51, rfl, rfl, am_eq9 (by decide +kernel), trivial, trivial⟩, Or.inr ⟨3, d152_52, rfl, rfl, rfl, trivial, trivial⟩, Or.inr ⟨1, d152_55, rfl, rfl, am_eq9 (by decide +kernel), trivial, trivial⟩, Or.inr ⟨3, d152_56, rfl, rfl, trivial, trivial, ⟨by decide, ⟨_, TX8, 27, rfl, okM_99, rfl⟩, aw_1026, aw_1028, as_99⟩⟩, Or.inr ⟨3, d152_59, rfl, rfl, rfl, trivial, trivial⟩, Or.inr ⟨1, d152_62, rfl, rfl, trivial, trivial, trivial⟩, Or.inr ⟨3, d152_63, rfl, rfl, rfl, trivial, trivial⟩, Or.inr ⟨1, d152_66, rfl, rfl, rfl, trivial, trivial⟩, Or.inr ⟨1, d152_67, rfl, rfl, trivial, trivial, trivial⟩, Or.inr ⟨1, d152_68, rfl, rfl, rfl, trivial, trivial⟩, Or.inr ⟨1, d152_69, rfl, rfl, trivial, trivial, trivial⟩, Or.inr ⟨1, d152_70, rfl, rfl, trivial, trivial, trivial⟩, Or.inr ⟨1, d152_71, rfl, rfl, trivial, trivial, trivial⟩, trivial⟩
theorem v152 : ∀ pc, am_V9 152 pc ((am_G 152).2.2.2.2.1 pc) := am_all_lc am_V9_0 _ ⟨v152_0, v152_1, trivial⟩
theorem d153_0 : decode cX8_taken 0 = .ok (.aload_n 0, 1) := by decide +kernel
theorem d153_1 : decode cX8_taken 1 = .ok (.iconst 0, 1) := by decide +kernel
theorem d153_2 : decode cX8_taken 2 = .ok (.putfield 57, 3) := by decide +kernel
theorem d153_5 : decode cX8_taken 5 = .ok (.sipush 1152, 3) := by decide +kernel
theorem d153_8 : decode cX8_taken 8 = .ok (.aload_n 0, 1) := by decide +kernel
theorem d153_9 : decode cX8_taken 9 = .ok (.invokevirtual 212, 3) := by decide +kernel
theorem d153_12 : decode cX8_taken 12 = .ok (.isub, 1) := by decide +kernel
theorem d153_13 : decode cX8_taken 13 = .ok (.istore_n 1, 1) := by decide +kernel
theorem d153_14 : decode cX8_taken 14 = .ok (.iload_n 1, 1) := by decide +kernel
theorem d153_15 : decode cX8_taken 15 = .ok (.i2f, 1) := by decide +kernel
theorem d153_16 : decode cX8_taken 16 = .ok (.ldc 222, 2) := by decide +kernel
theorem d153_18 : decode cX8_taken 18 = .ok (.fdiv, 1) := by decide +kernel
theorem d153_19 : decode cX8_taken 19 = .ok (.fstore_n 2, 1) := by decide +kernel
theorem d153_20 : decode cX8_taken 20 = .ok (.aload_n 0, 1) := by decide +kernel
theorem d153_21 : decode cX8_taken 21 = .ok (.invokevirtual 212, 3) := by decide +kernel
theorem d153_24 : decode cX8_taken 24 = .ok (.iload_n 1, 1) := by decide +kernel
theorem d153_25 : decode cX8_taken 25 = .ok (.if_icmp .ge 8, 3) := by decide +kernel
theorem d153_28 : decode cX8_taken 28 = .ok (.fload_n 2, 1) := by decide +kernel
theorem d153_29 : decode cX8_taken 29 = .ok (.fneg, 1) := by decide +kernel
theorem d153_30 : decode cX8_taken 30 = .ok (.goto 4, 3) := by decide +kernel
theorem d153_33 : decode cX8_taken 33 = .ok (.fload_n 2, 1) := by decide +kernel
theorem d153_34 : decode cX8_taken 34 = .ok (.freturn, 1) := by decide +kernel
theorem v153_0 : am_all (am_V9 153) am_l153_0 := ⟨Or.inr ⟨1, d153_0, rfl, rfl, rfl, trivial, trivial⟩, Or.inr ⟨1, d153_1, rfl, rfl, am_eq9 (by decide +kernel), trivial, trivial⟩, Or.inr ⟨3, d153_2, rfl, rfl, trivial, ⟨RX8, TX8, 27, rfl, by decide, aw_937, Or.inl rfl⟩, trivial⟩, Or.inr ⟨3, d153_5, rfl, rfl, am_eq9 (by decide +kernel), trivial, trivial⟩, Or.inr ⟨1, d153_8, rfl, rfl, rfl, trivial, trivial⟩, Or.inr ⟨3, d153_9, rfl, rfl, trivial, trivial, ⟨by decide, ⟨_, TX8, 27, rfl, okM_146, rfl⟩, aw_1199, aw_1201, as_146⟩⟩, Or.inr ⟨1, d153_12, rfl, rfl, trivial, trivial, trivial⟩, Or.inr ⟨1, d153_13, rfl, rfl, rfl, trivial, trivial⟩, Or.inr ⟨1, d153_14, rfl, rfl, rfl, trivial, trivial⟩, Or.inr ⟨1, d153_15, rfl, rfl, trivial, trivial, trivial⟩, Or.inr ⟨2, d153_16, rfl, rfl, ⟨fun h => absurd h (by decide), fun _ => aw_1237⟩, trivial, trivial⟩, Or.inr ⟨1, d153_18, rfl, rfl, trivial, trivial, trivial⟩, Or.inr ⟨1, d153_19, rfl, rfl, rfl, trivial, trivial⟩, Or.inr ⟨1, d153_20, rfl, rfl, rfl, trivial, trivial⟩, Or.inr ⟨3, d153_21, rfl, rfl, trivial, trivial, ⟨by decide, ⟨_, TX8, 27, rfl, okM_146, rfl⟩, aw_1199, aw_1201, as_146⟩⟩, Or.inr ⟨1, d153_24, rfl, rfl, rfl, trivial, trivial⟩, Or.inr ⟨3, d153_25, rfl, rfl, rfl, trivial, trivial⟩, Or.inr ⟨1, d153_28, rfl, rfl, rfl, trivial, trivial⟩, Or.inr ⟨1, d153_29, rfl, rfl, trivial, trivial, trivial⟩, Or.inr ⟨3, d153_30, rfl, rfl, rfl, trivial, trivial⟩, Or.inr ⟨1, d153_33, rfl, rfl, rfl, trivial, trivial⟩, Or.inr ⟨1, d153_34, rfl, rfl, trivial, trivial, trivial⟩, trivial⟩
theorem v153 : ∀ pc, am_V9 153 pc ((am_G 153).2.2.2.2.1 pc) := am_all_lc am_V9_0 _ ⟨v153_0, trivial⟩
theorem d154_0 : decode cX8_isSound 0 = .ok (.aload_n 0, 1) := by decide +kernel
theorem d154_1 : decode cX8_isSound 1 = .ok (.iconst 0, 1) := by decide +kernel
theorem d154_2 : decode cX8_isSound 2 = .ok (.putfield 57, 3) := by decide +kernel
theorem d154_5 : decode cX8_isSound 5 = .ok (.iconst 1, 1) := by decide +kernel
theorem d154_6 : decode cX8_isSound 6 = .ok (.ireturn, 1) := by decide +kernel
theorem v154_0 : am_all (am_V9 154) am_l154_0 := ⟨Or.inr ⟨1, d154_0, rfl, rfl, rfl, trivial, trivial⟩, Or.inr ⟨1, d154_1, rfl, rfl, am_eq9 (by decide +kernel), trivial, trivial⟩, Or.inr ⟨3, d154_2, rfl, rfl, trivial, ⟨RX8, TX8, 27, rfl, by decide, aw_937, Or.inl rfl⟩, trivial⟩, Or.inr ⟨1, d154_5, rfl, rfl, am_eq9 (by decide +kernel), trivial, trivial⟩, Or.inr ⟨1, d154_6, rfl, rfl, trivial, trivial, trivial⟩, trivial⟩
theorem v154 : ∀ pc, am_V9 154 pc ((am_G 154).2.2.2.2.1 pc) := am_all_lc am_V9_0 _ ⟨v154_0, trivial⟩
theorem d155_0 : decode cJxf58ca_isNaN_12338 0 = .ok (.fload_n 0, 1) := by decide +kernel
theorem d155_1 : decode cJxf58ca_isNaN_12338 1 = .ok (.fload_n 0, 1) := by decide +kernel
theorem d155_2 : decode cJxf58ca_isNaN_12338 2 = .ok (.fcmp .l, 1) := by decide +kernel
theorem d155_3 : decode cJxf58ca_isNaN_12338 3 = .ok (.ifCond .eq 7, 3) := by decide +kernel
theorem d155_6 : decode cJxf58ca_isNaN_12338 6 = .ok (.iconst 1, 1) := by decide +kernel
theorem d155_7 : decode cJxf58ca_isNaN_12338 7 = .ok (.goto 4, 3) := by decide +kernel
theorem d155_10 : decode cJxf58ca_isNaN_12338 10 = .ok (.iconst 0, 1) := by decide +kernel
theorem d155_11 : decode cJxf58ca_isNaN_12338 11 = .ok (.ireturn, 1) := by decide +kernel
theorem v155_0 : am_all (am_V9 155) am_l155_0 := ⟨Or.inr ⟨1, d155_0, rfl, rfl, rfl, trivial, trivial⟩, Or.inr ⟨1, d155_1, rfl, rfl, rfl, trivial, trivial⟩, Or.inr ⟨1, d155_2, rfl, rfl, trivial, trivial, trivial⟩, Or.inr ⟨3, d155_3, rfl, rfl, rfl, trivial, trivial⟩, Or.inr ⟨1, d155_6, rfl, rfl, am_eq9 (by decide +kernel), trivial, trivial⟩, Or.inr ⟨3, d155_7, rfl, rfl, rfl, trivial, trivial⟩, Or.inr ⟨1, d155_10, rfl, rfl, am_eq9 (by decide +kernel), trivial, trivial⟩, Or.inr ⟨1, d155_11, rfl, rfl, trivial, trivial, trivial⟩, trivial⟩
theorem v155 : ∀ pc, am_V9 155 pc ((am_G 155).2.2.2.2.1 pc) := am_all_lc am_V9_0 _ ⟨v155_0, trivial⟩
theorem d156_0 : decode cJxf58ca_floatToIntBits_5c35a 0 = .ok (.fload_n 0, 1) := by decide +kernel
theorem d156_1 : decode cJxf58ca_floatToIntBits_5c35a 1 = .ok (.invokestatic 59, 3) := by decide +kernel
theorem d156_4 : decode cJxf58ca_floatToIntBits_5c35a 4 = .ok (.ifCond .ne 8, 3) := by decide +kernel
theorem d156_7 : decode cJxf58ca_floatToIntBits_5c35a 7 = .ok (.fload_n 0, 1) := by decide +kernel
theorem d156_8 : decode cJxf58ca_floatToIntBits_5c35a 8 = .ok (.invokestatic 74, 3) := by decide +kernel
theorem d156_11 : decode cJxf58ca_floatToIntBits_5c35a 11 = .ok (.ireturn, 1) := by decide +kernel
theorem d156_12 : decode cJxf58ca_floatToIntBits_5c35a 12 = .ok (.ldc 77, 2) := by decide +kernel
theorem d156_14 : decode cJxf58ca_floatToIntBits_5c35a 14 = .ok (.ireturn, 1) := by decide +kernel
theorem v156_0 : am_all (am_V9 156) am_l156_0 := ⟨Or.inr ⟨1, d156_0, rfl, rfl, rfl, trivial, trivial⟩, Or.inr ⟨3, d156_1, rfl, rfl, trivial, trivial, Or.inr ⟨by decide, okM_155, aw_1223, Or.inl ⟨rfl, aw_1222⟩⟩⟩, Or.inr ⟨3, d156_4, rfl, rfl, rfl, trivial, trivial⟩, Or.inr ⟨1, d156_7, rfl, rfl, rfl, trivial, trivial⟩, Or.inr ⟨3, d156_8, rfl, rfl, trivial, trivial, Or.inl ⟨rfl, aw_1225, aw_1227, aw_1226, aw_23⟩⟩, Or.inr ⟨1, d156_11, rfl, rfl, trivial, trivial, trivial⟩, Or.inr ⟨2, d156_12, rfl, rfl, ⟨fun _ => aw_1228, fun h => absurd h (by decide)⟩, trivial, trivial⟩, Or.inr ⟨1, d156_14, rfl, rfl, trivial, trivial, trivial⟩, trivial⟩
theorem v156 : ∀ pc, am_V9 156 pc ((am_G 156).2.2.2.2.1 pc) := am_all_lc am_V9_0 _ ⟨v156_0, trivial⟩
theorem d157_0 : decode cJ6_bitCount_0f7a4 0 = .ok (.iload_n 0, 1) := by decide +kernel
theorem d157_1 : decode cJ6_bitCount_0f7a4 1 = .ok (.iload_n 0, 1) := by decide +kernel
theorem d157_2 : decode cJ6_bitCount_0f7a4 2 = .ok (.iconst 1, 1) := by decide +kernel
theorem d157_3 : decode cJ6_bitCount_0f7a4 3 = .ok (.iushr, 1) := by decide +kernel
theorem d157_4 : decode cJ6_bitCount_0f7a4 4 = .ok (.ldc_w 265, 3) := by decide +kernel
theorem d157_7 : decode cJ6_bitCount_0f7a4 7 = .ok (.iand, 1) := by decide +kernel
theorem d157_8 : decode cJ6_bitCount_0f7a4 8 = .ok (.isub, 1) := by decide +kernel
theorem d157_9 : decode cJ6_bitCount_0f7a4 9 = .ok (.istore_n 0, 1) := by decide +kernel
theorem d157_10 : decode cJ6_bitCount_0f7a4 10 = .ok (.iload_n 0, 1) := by decide +kernel
theorem d157_11 : decode cJ6_bitCount_0f7a4 11 = .ok (.ldc_w 266, 3) := by decide +kernel
theorem d157_14 : decode cJ6_bitCount_0f7a4 14 = .ok (.iand, 1) := by decide +kernel
theorem d157_15 : decode cJ6_bitCount_0f7a4 15 = .ok (.iload_n 0, 1) := by decide +kernel
theorem d157_16 : decode cJ6_bitCount_0f7a4 16 = .ok (.iconst 2, 1) := by decide +kernel
theorem d157_17 : decode cJ6_bitCount_0f7a4 17 = .ok (.iushr, 1) := by decide +kernel
theorem d157_18 : decode cJ6_bitCount_0f7a4 18 = .ok (.ldc_w 266, 3) := by decide +kernel
theorem d157_21 : decode cJ6_bitCount_0f7a4 21 = .ok (.iand, 1) := by decide +kernel
theorem d157_22 : decode cJ6_bitCount_0f7a4 22 = .ok (.iadd, 1) := by decide +kernel
theorem d157_23 : decode cJ6_bitCount_0f7a4 23 = .ok (.istore_n 0, 1) := by decide +kernel
theorem d157_24 : decode cJ6_bitCount_0f7a4 24 = .ok (.iload_n 0, 1) := by decide +kernel
theorem d157_25 : decode cJ6_bitCount_0f7a4 25 = .ok (.iload_n 0, 1) := by decide +kernel
theorem d157_26 : decode cJ6_bitCount_0f7a4 26 = .ok (.iconst 4, 1) := by decide +kernel
theorem d157_27 : decode cJ6_bitCount_0f7a4 27 = .ok (.iushr, 1) := by decide +kernel
theorem d157_28 : decode cJ6_bitCount_0f7a4 28 = .ok (.iadd, 1) := by decide +kernel
theorem d157_29 : decode cJ6_bitCount_0f7a4 29 = .ok (.ldc_w 267, 3) := by decide +kernel
theorem d157_32 : decode cJ6_bitCount_0f7a4 32 = .ok (.iand, 1) := by decide +kernel
theorem d157_33 : decode cJ6_bitCount_0f7a4 33 = .ok (.istore_n 0, 1) := by decide +kernel
theorem d157_34 : decode cJ6_bitCount_0f7a4 34 = .ok (.iload_n 0, 1) := by decide +kernel
theorem d157_35 : decode cJ6_bitCount_0f7a4 35 = .ok (.iload_n 0, 1) := by decide +kernel
theorem d157_36 : decode cJ6_bitCount_0f7a4 36 = .ok (.bipush 8, 2) := by decide +kernel
theorem d157_38 : decode cJ6_bitCount_0f7a4 38 = .ok (.iushr, 1) := by decide +kernel
theorem d157_39 : decode cJ6_bitCount_0f7a4 39 = .ok (.iadd, 1) := by decide +kernel
theorem d157_40 : decode cJ6_bitCount_0f7a4 40 = .ok (.istore_n 0, 1) := by decide +kernel
theorem d157_41 : decode cJ6_bitCount_0f7a4 41 = .ok (.iload_n 0, 1) := by decide +kernel
theorem d157_42 : decode cJ6_bitCount_0f7a4 42 = .ok (.iload_n 0, 1) := by decide +kernel
theorem d157_43 : decode cJ6_bitCount_0f7a4 43 = .ok (.bipush 16, 2) := by decide +kernel
theorem d157_45 : decode cJ6_bitCount_0f7a4 45 = .ok (.iushr, 1) := by decide +kernel
theorem d157_46 : decode cJ6_bitCount_0f7a4 46 = .ok (.iadd, 1) := by decide +kernel
theorem d157_47 : decode cJ6_bitCount_0f7a4 47 = .ok (.istore_n 0, 1) := by decide +kernel
theorem d157_48 : decode cJ6_bitCount_0f7a4 48 = .ok (.iload_n 0, 1) := by decide +kernel
theorem d157_49 : decode cJ6_bitCount_0f7a4 49 = .ok (.bipush 63, 2) := by decide +kernel
theorem d157_51 : decode cJ6_bitCount_0f7a4 51 = .ok (.iand, 1) := by decide +kernel
theorem d157_52 : decode cJ6_bitCount_0f7a4 52 = .ok (.ireturn, 1) := by decide +kernel
theorem v157_0 : am_all (am_V9 157) am_l157_0 := ⟨Or.inr ⟨1, d157_0, rfl, rfl, rfl, trivial, trivial⟩, Or.inr ⟨1, d157_1, rfl, rfl, rfl, trivial, trivial⟩, Or.inr ⟨1, d157_2, rfl, rfl, am_eq9 (by decide +kernel), trivial, trivial⟩, Or.inr ⟨1, d157_3, rfl, rfl, trivial, trivial, trivial⟩, Or.inr ⟨3, d157_4, rfl, rfl, aw_326, trivial, trivial⟩, Or.inr ⟨1, d157_7, rfl, rfl, trivial, trivial, trivial⟩, Or.inr ⟨1, d157_8, rfl, rfl, trivial, trivial, trivial⟩, Or.inr ⟨1, d157_9, rfl, rfl, rfl, trivial, trivial⟩, Or.inr ⟨1, d157_10, rfl, rfl, rfl, trivial, trivial⟩, Or.inr ⟨3, d157_11, rfl, rfl, aw_327, trivial, trivial⟩, Or.inr ⟨1, d157_14, rfl, rfl, trivial, trivial, trivial⟩, Or.inr ⟨1, d157_15, rfl, rfl, rfl, trivial, trivial⟩, Or.inr ⟨1, d157_16, rfl, rfl, am_eq9 (by decide +kernel), trivial, trivial⟩, Or.inr ⟨1, d157_17, rfl, rfl, trivial, trivial, trivial⟩, Or.inr ⟨3, d157_18, rfl, rfl, aw_327, trivial, trivial⟩, Or.inr ⟨1, d157_21, rfl, rfl, trivial, trivial, trivial⟩, Or.inr ⟨1, d157_22, rfl, rfl, trivial, trivial, trivial⟩, Or.inr ⟨1, d157_23, rfl, rfl, rfl, trivial, trivial⟩, Or.inr ⟨1, d157_24, rfl, rfl, rfl, trivial, trivial⟩, Or.inr ⟨1, d157_25, rfl, rfl, rfl, trivial, trivial⟩, Or.inr ⟨1, d157_26, rfl, rfl, am_eq9 (by decide +kernel), trivial, trivial⟩, Or.inr ⟨1, d157_27, rfl, rfl, trivial, trivial, trivial⟩, Or.inr ⟨1, d157_28, rfl, rfl, trivial, trivial, trivial⟩, Or.inr ⟨3, d157_29, rfl, rfl, aw_328, trivial, trivial⟩, trivial⟩
theorem v157_1 : am_all (am_V9 157) am_l157_1 := ⟨Or.inr ⟨1, d157_32, rfl, rfl, trivial, trivial, trivial⟩, Or.inr ⟨1, d157_33, rfl, rfl, rfl, trivial, trivial⟩, Or.inr ⟨1, d157_34, rfl, rfl, rfl, trivial, trivial⟩, Or.inr ⟨1, d157_35, rfl, rfl, rfl, trivial, trivial⟩, Or.inr ⟨2, d157_36, rfl, rfl, am_eq9 (by decide +kernel), trivial, trivial⟩, Or.inr ⟨1, d157_38, rfl, rfl, trivial, trivial, trivial⟩, Or.inr ⟨1, d157_39, rfl, rfl, trivial, trivial, trivial⟩, Or.inr ⟨1, d157_40, rfl, rfl, rfl, trivial, trivial⟩, Or.inr ⟨1, d157_41, rfl, rfl, rfl, trivial, trivial⟩, Or.inr ⟨1, d157_42, rfl, rfl, rfl, trivial, trivial⟩, Or.inr ⟨2, d157_43, rfl, rfl, am_eq9 (by decide +kernel), trivial, trivial⟩, Or.inr ⟨1, d157_45, rfl, rfl, trivial, trivial, trivial⟩, Or.inr ⟨1, d157_46, rfl, rfl, trivial, trivial, trivial⟩, Or.inr ⟨1, d157_47, rfl, rfl, rfl, trivial, trivial⟩, Or.inr ⟨1, d157_48, rfl, rfl, rfl, trivial, trivial⟩, Or.inr ⟨2, d157_49, rfl, rfl, am_eq9 (by decide +kernel), trivial, trivial⟩, Or.inr ⟨1, d157_51, rfl, rfl, trivial, trivial, trivial⟩, Or.inr ⟨1, d157_52, rfl, rfl, trivial, trivial, trivial⟩, trivial⟩
theorem v157 : ∀ pc, am_V9 157 pc ((am_G 157).2.2.2.2.1 pc) := am_all_lc am_V9_0 _ ⟨v157_0, v157_1, trivial⟩
theorem d158_0 : decode cJ9_abs_0f7a4 0 = .ok (.iload_n 0, 1) := by decide +kernel
theorem d158_1 : decode cJ9_abs_0f7a4 1 = .ok (.ifCond .ge 8, 3) := by decide +kernel
theorem d158_4 : decode cJ9_abs_0f7a4 4 = .ok (.iload_n 0, 1) := by decide +kernel
theorem d158_5 : decode cJ9_abs_0f7a4 5 = .ok (.ineg, 1) := by decide +kernel
theorem d158_6 : decode cJ9_abs_0f7a4 6 = .ok (.goto 4, 3) := by decide +kernel
theorem d158_9 : decode cJ9_abs_0f7a4 9 = .ok (.iload_n 0, 1) := by decide +kernel
theorem d158_10 : decode cJ9_abs_0f7a4 10 = .ok (.ireturn, 1) := by decide +kernel
theorem v158_0 : am_all (am_V9 158) am_l158_0 := ⟨Or.inr ⟨1, d158_0, rfl, rfl, rfl, trivial, trivial⟩, Or.inr ⟨3, d158_1, rfl, rfl, rfl, trivial, trivial⟩, Or.inr ⟨1, d158_4, rfl, rfl, rfl, trivial, trivial⟩, Or.inr ⟨1, d158_5, rfl, rfl, trivial, trivial, trivial⟩, Or.inr ⟨3, d158_6, rfl, rfl, rfl, trivial, trivial⟩, Or.inr ⟨1, d158_9, rfl, rfl, rfl, trivial, trivial⟩, Or.inr ⟨1, d158_10, rfl, rfl, trivial, trivial, trivial⟩, trivial⟩
theorem v158 : ∀ pc, am_V9 158 pc ((am_G 158).2.2.2.2.1 pc) := am_all_lc am_V9_0 _ ⟨v158_0, trivial⟩
theorem d159_0 : decode cJ9_max_7cf53 0 = .ok (.iload_n 0, 1) := by decide +kernel
theorem d159_1 : decode cJ9_max_7cf53 1 = .ok (.iload_n 1, 1) := by decide +kernel
theorem d159_2 : decode cJ9_max_7cf53 2 = .ok (.if_icmp .lt 7, 3) := by decide +kernel
theorem d159_5 : decode cJ9_max_7cf53 5 = .ok (.iload_n 0, 1) := by decide +kernel
theorem d159_6 : decode cJ9_max_7cf53 6 = .ok (.goto 4, 3) := by decide +kernel
theorem d159_9 : decode cJ9_max_7cf53 9 = .ok (.iload_n 1, 1) := by decide +kernel
theorem d159_10 : decode cJ9_max_7cf53 10 = .ok (.ireturn, 1) := by decide +kernel
theorem v159_0 : am_all (am_V9 159) am_l159_0 := ⟨Or.inr ⟨1, d159_0, rfl, rfl, rfl, trivial, trivial⟩, Or.inr ⟨1, d159_1, rfl, rfl, rfl, trivial, trivial⟩, Or.inr ⟨3, d159_2, rfl, rfl, rfl, trivial, trivial⟩, Or.inr ⟨1, d159_5, rfl, rfl, rfl, trivial, trivial⟩, Or.inr ⟨3, d159_6, rfl, rfl, rfl, trivial, trivial⟩, Or.inr ⟨1, d159_9, rfl, rfl, rfl, trivial, trivial⟩, Or.inr ⟨1, d159_10, rfl, rfl, trivial, trivial, trivial⟩, trivial⟩
theorem v159 : ∀ pc, am_V9 159 pc ((am_G 159).2.2.2.2.1 pc) := am_all_lc am_V9_0 _ ⟨v159_0, trivial⟩
theorem d160_0 : decode cJ9_min_7cf53 0 = .ok (.iload_n 0, 1) := by decide +kernel
theorem d160_1 : decode cJ9_min_7cf53 1 = .ok (.iload_n 1, 1) := by decide +kernel
theorem d160_2 : decode cJ9_min_7cf53 2 = .ok (.if_icmp .gt 7, 3) := by decide +kernel
theorem d160_5 : decode cJ9_min_7cf53 5 = .ok (.iload_n 0, 1) := by decide +kernel
theorem d160_6 : decode cJ9_min_7cf53 6 = .ok (.goto 4, 3) := by decide +kernel
theorem d160_9 : decode cJ9_min_7cf53 9 = .ok (.iload_n 1, 1) := by decide +kernel
theorem d160_10 : decode cJ9_min_7cf53 10 = .ok (.ireturn, 1) := by decide +kernel
theorem v160_0 : am_all (am_V9 160) am_l160_0 := ⟨Or.inr ⟨1, d160_0, rfl, rfl, rfl, trivial, trivial⟩, Or.inr ⟨1, d160_1, rfl, rfl, rfl, trivial, trivial⟩, Or.inr ⟨3, d160_2, rfl, rfl, rfl, trivial, trivial⟩, Or.inr ⟨1, d160_5, rfl, rfl, rfl, trivial, trivial⟩, Or.inr ⟨3, d160_6, rfl, rfl, rfl, trivial, trivial⟩, Or.inr ⟨1, d160_9, rfl, rfl, rfl, trivial, trivial⟩, Or.inr ⟨1, d160_10, rfl, rfl, trivial, trivial, trivial⟩, trivial⟩
theorem v160 : ∀ pc, am_V9 160 pc ((am_G 160).2.2.2.2.1 pc) := am_all_lc am_V9_0 _ ⟨v160_0, trivial⟩
theorem d161_0 : decode cX4_partnerOf 0 = .ok (.aload_n 0, 1) := by decide +kernel
theorem d161_1 : decode cX4_partnerOf 1 = .ok (.iload_n 1, 1) := by decide +kernel
theorem d161_2 : decode cX4_partnerOf 2 = .ok (.invokevirtual 38, 3) := by decide +kernel
theorem d161_5 : decode cX4_partnerOf 5 = .ok (.ifCond .eq 12, 3) := by decide +kernel
theorem d161_8 : decode cX4_partnerOf 8 = .ok (.aload_n 0, 1) := by decide +kernel
theorem d161_9 : decode cX4_partnerOf 9 = .ok (.getfield 24, 3) := by decide +kernel
theorem d161_12 : decode cX4_partnerOf 12 = .ok (.iload_n 1, 1) := by decide +kernel
theorem d161_13 : decode cX4_partnerOf 13 = .ok (.iaload, 1) := by decide +kernel
theorem d161_14 : decode cX4_partnerOf 14 = .ok (.goto 4, 3) := by decide +kernel
theorem d161_17 : decode cX4_partnerOf 17 = .ok (.iconst (-1), 1) := by decide +kernel
theorem d161_18 : decode cX4_partnerOf 18 = .ok (.ireturn, 1) := by decide +kernel
theorem v161_0 : am_all (am_V9 161) am_l161_0 := ⟨Or.inr ⟨1, d161_0, rfl, rfl, rfl, trivial, trivial⟩, Or.inr ⟨1, d161_1, rfl, rfl, rfl, trivial, trivial⟩, Or.inr ⟨3, d161_2, rfl, rfl, trivial, trivial, ⟨by decide, ⟨_, TX4, 6, rfl, okM_54, rfl⟩, aw_275, aw_276, aw_277⟩⟩, Or.inr ⟨3, d161_5, rfl, rfl, rfl, trivial, trivial⟩, Or.inr ⟨1, d161_8, rfl, rfl, rfl, trivial, trivial⟩, Or.inr ⟨3, d161_9, rfl, rfl, trivial, ⟨RX4, TX4, 6, rfl, by decide, Or.inl aw_84⟩, trivial⟩, Or.inr ⟨1, d161_12, rfl, rfl, rfl, trivial, trivial⟩, Or.inr ⟨1, d161_13, rfl, rfl, trivial, trivial, trivial⟩, Or.inr ⟨3, d161_14, rfl, rfl, rfl, trivial, trivial⟩, Or.inr ⟨1, d161_17, rfl, rfl, am_eq9 (by decide +kernel), trivial, trivial⟩, Or.inr ⟨1, d161_18, rfl, rfl, trivial, trivial, trivial⟩, trivial⟩
theorem v161 : ∀ pc, am_V9 161 pc ((am_G 161).2.2.2.2.1 pc) := am_all_lc am_V9_0 _ ⟨v161_0, trivial⟩
