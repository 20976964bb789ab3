/-! The tables' rows, against the bytes. (by gen/tab.py) -/
theorem d96_0 : decode cX8_thrown 0 = .ok (.aload_n 0, 1) := by decide +kernel
theorem d96_1 : decode cX8_thrown 1 = .ok (.getfield 57, 3) := by decide +kernel
theorem d96_4 : decode cX8_thrown 4 = .ok (.ireturn, 1) := by decide +kernel
theorem v96_0 : am_all (am_V9 96) am_l96_0 := ⟨Or.inr ⟨1, d96_0, rfl, rfl, rfl, trivial, trivial⟩, Or.inr ⟨3, d96_1, rfl, rfl, trivial, ⟨RX8, TX8, 27, rfl, by decide, Or.inl aw_937⟩, trivial⟩, Or.inr ⟨1, d96_4, rfl, rfl, trivial, trivial, trivial⟩, trivial⟩
theorem v96 : ∀ pc, am_V9 96 pc ((am_G 96).2.2.2.2.1 pc) := am_all_lc am_V9_0 _ ⟨v96_0, trivial⟩
theorem d97_0 : decode cX8_in 0 = .ok (.iload_n 0, 1) := by decide +kernel
theorem d97_1 : decode cX8_in 1 = .ok (.iload_n 1, 1) := by decide +kernel
theorem d97_2 : decode cX8_in 2 = .ok (.if_icmp .lt 12, 3) := by decide +kernel
theorem d97_5 : decode cX8_in 5 = .ok (.iload_n 0, 1) := by decide +kernel
theorem d97_6 : decode cX8_in 6 = .ok (.iload_n 2, 1) := by decide +kernel
theorem d97_7 : decode cX8_in 7 = .ok (.if_icmp .gt 7, 3) := by decide +kernel
theorem d97_10 : decode cX8_in 10 = .ok (.iconst 1, 1) := by decide +kernel
theorem d97_11 : decode cX8_in 11 = .ok (.goto 4, 3) := by decide +kernel
theorem d97_14 : decode cX8_in 14 = .ok (.iconst 0, 1) := by decide +kernel
theorem d97_15 : decode cX8_in 15 = .ok (.ireturn, 1) := by decide +kernel
theorem v97_0 : am_all (am_V9 97) am_l97_0 := ⟨Or.inr ⟨1, d97_0, rfl, rfl, rfl, trivial, trivial⟩, Or.inr ⟨1, d97_1, rfl, rfl, rfl, trivial, trivial⟩, Or.inr ⟨3, d97_2, rfl, rfl, rfl, trivial, trivial⟩, Or.inr ⟨1, d97_5, rfl, rfl, rfl, trivial, trivial⟩, Or.inr ⟨1, d97_6, rfl, rfl, rfl, trivial, trivial⟩, Or.inr ⟨3, d97_7, rfl, rfl, rfl, trivial, trivial⟩, Or.inr ⟨1, d97_10, rfl, rfl, am_eq9 (by decide +kernel), trivial, trivial⟩, Or.inr ⟨3, d97_11, rfl, rfl, rfl, trivial, trivial⟩, Or.inr ⟨1, d97_14, rfl, rfl, am_eq9 (by decide +kernel), trivial, trivial⟩, Or.inr ⟨1, d97_15, rfl, rfl, trivial, trivial, trivial⟩, trivial⟩
theorem v97 : ∀ pc, am_V9 97 pc ((am_G 97).2.2.2.2.1 pc) := am_all_lc am_V9_0 _ ⟨v97_0, trivial⟩
theorem d98_0 : decode cX8_plain 0 = .ok (.aload_n 0, 1) := by decide +kernel
theorem d98_1 : decode cX8_plain 1 = .ok (.iconst 0, 1) := by decide +kernel
theorem d98_2 : decode cX8_plain 2 = .ok (.putfield 57, 3) := by decide +kernel
theorem d98_5 : decode cX8_plain 5 = .ok (.iload_n 1, 1) := by decide +kernel
theorem d98_6 : decode cX8_plain 6 = .ok (.ireturn, 1) := by decide +kernel
theorem v98_0 : am_all (am_V9 98) am_l98_0 := ⟨Or.inr ⟨1, d98_0, rfl, rfl, rfl, trivial, trivial⟩, Or.inr ⟨1, d98_1, rfl, rfl, am_eq9 (by decide +kernel), trivial, trivial⟩, Or.inr ⟨3, d98_2, rfl, rfl, trivial, ⟨RX8, TX8, 27, rfl, by decide, aw_937, Or.inl rfl⟩, trivial⟩, Or.inr ⟨1, d98_5, rfl, rfl, rfl, trivial, trivial⟩, Or.inr ⟨1, d98_6, rfl, rfl, trivial, trivial, trivial⟩, trivial⟩
theorem v98 : ∀ pc, am_V9 98 pc ((am_G 98).2.2.2.2.1 pc) := am_all_lc am_V9_0 _ ⟨v98_0, trivial⟩
theorem d99_0 : decode cX8_checked 0 = .ok (.aload_n 0, 1) := by decide +kernel
theorem d99_1 : decode cX8_checked 1 = .ok (.iload_n 1, 1) := by decide +kernel
theorem d99_2 : decode cX8_checked 2 = .ok (.ifCond .eq 7, 3) := by decide +kernel
theorem d99_5 : decode cX8_checked 5 = .ok (.iconst 0, 1) := by decide +kernel
theorem d99_6 : decode cX8_checked 6 = .ok (.goto 4, 3) := by decide +kernel
theorem d99_9 : decode cX8_checked 9 = .ok (.iconst 1, 1) := by decide +kernel
theorem d99_10 : decode cX8_checked 10 = .ok (.putfield 57, 3) := by decide +kernel
theorem d99_13 : decode cX8_checked 13 = .ok (.aload_n 0, 1) := by decide +kernel
theorem d99_14 : decode cX8_checked 14 = .ok (.getfield 57, 3) := by decide +kernel
theorem d99_17 : decode cX8_checked 17 = .ok (.ireturn, 1) := by decide +kernel
theorem v99_0 : am_all (am_V9 99) am_l99_0 := ⟨Or.inr ⟨1, d99_0, rfl, rfl, rfl, trivial, trivial⟩, Or.inr ⟨1, d99_1, rfl, rfl, rfl, trivial, trivial⟩, Or.inr ⟨3, d99_2, rfl, rfl, rfl, trivial, trivial⟩, Or.inr ⟨1, d99_5, rfl, rfl, am_eq9 (by decide +kernel), trivial, trivial⟩, Or.inr ⟨3, d99_6, rfl, rfl, rfl, trivial, trivial⟩, Or.inr ⟨1, d99_9, rfl, rfl, am_eq9 (by decide +kernel), trivial, trivial⟩, Or.inr ⟨3, d99_10, rfl, rfl, trivial, ⟨RX8, TX8, 27, rfl, by decide, aw_937, Or.inl rfl⟩, trivial⟩, Or.inr ⟨1, d99_13, rfl, rfl, rfl, trivial, trivial⟩, Or.inr ⟨3, d99_14, rfl, rfl, trivial, ⟨RX8, TX8, 27, rfl, by decide, Or.inl aw_937⟩, trivial⟩, Or.inr ⟨1, d99_17, rfl, rfl, trivial, trivial, trivial⟩, trivial⟩
theorem v99 : ∀ pc, am_V9 99 pc ((am_G 99).2.2.2.2.1 pc) := am_all_lc am_V9_0 _ ⟨v99_0, trivial⟩
theorem d100_0 : decode cX8_begins 0 = .ok (.iconst 0, 1) := by decide +kernel
theorem d100_1 : decode cX8_begins 1 = .ok (.istore_n 1, 1) := by decide +kernel
theorem d100_2 : decode cX8_begins 2 = .ok (.iload_n 1, 1) := by decide +kernel
theorem d100_3 : decode cX8_begins 3 = .ok (.sipush 1152, 3) := by decide +kernel
theorem d100_6 : decode cX8_begins 6 = .ok (.if_icmp .ge 16, 3) := by decide +kernel
theorem d100_9 : decode cX8_begins 9 = .ok (.aload_n 0, 1) := by decide +kernel
theorem d100_10 : decode cX8_begins 10 = .ok (.getfield 54, 3) := by decide +kernel
theorem d100_13 : decode cX8_begins 13 = .ok (.iload_n 1, 1) := by decide +kernel
theorem d100_14 : decode cX8_begins 14 = .ok (.iconst 0, 1) := by decide +kernel
theorem d100_15 : decode cX8_begins 15 = .ok (.bastore, 1) := by decide +kernel
theorem d100_16 : decode cX8_begins 16 = .ok (.iinc 1 1, 3) := by decide +kernel
theorem d100_19 : decode cX8_begins 19 = .ok (.goto (-17), 3) := by decide +kernel
theorem d100_22 : decode cX8_begins 22 = .ok (.iconst 0, 1) := by decide +kernel
theorem d100_23 : decode cX8_begins 23 = .ok (.istore_n 1, 1) := by decide +kernel
theorem d100_24 : decode cX8_begins 24 = .ok (.iload_n 1, 1) := by decide +kernel
theorem d100_25 : decode cX8_begins 25 = .ok (.bipush 12, 2) := by decide +kernel
theorem d100_27 : decode cX8_begins 27 = .ok (.if_icmp .ge 16, 3) := by decide +kernel
theorem d100_30 : decode cX8_begins 30 = .ok (.aload_n 0, 1) := by decide +kernel
theorem d100_31 : decode cX8_begins 31 = .ok (.getfield 23, 3) := by decide +kernel
theorem d100_34 : decode cX8_begins 34 = .ok (.iload_n 1, 1) := by decide +kernel
theorem d100_35 : decode cX8_begins 35 = .ok (.iconst 0, 1) := by decide +kernel
theorem d100_36 : decode cX8_begins 36 = .ok (.iastore, 1) := by decide +kernel
theorem d100_37 : decode cX8_begins 37 = .ok (.iinc 1 1, 3) := by decide +kernel
theorem d100_40 : decode cX8_begins 40 = .ok (.goto (-16), 3) := by decide +kernel
theorem d100_43 : decode cX8_begins 43 = .ok (.iconst 0, 1) := by decide +kernel
theorem d100_44 : decode cX8_begins 44 = .ok (.istore_n 1, 1) := by decide +kernel
theorem d100_45 : decode cX8_begins 45 = .ok (.iload_n 1, 1) := by decide +kernel
theorem d100_46 : decode cX8_begins 46 = .ok (.bipush 8, 2) := by decide +kernel
theorem d100_48 : decode cX8_begins 48 = .ok (.if_icmp .ge 16, 3) := by decide +kernel
theorem d100_51 : decode cX8_begins 51 = .ok (.aload_n 0, 1) := by decide +kernel
theorem d100_52 : decode cX8_begins 52 = .ok (.getfield 38, 3) := by decide +kernel
theorem d100_55 : decode cX8_begins 55 = .ok (.iload_n 1, 1) := by decide +kernel
theorem d100_56 : decode cX8_begins 56 = .ok (.iconst 0, 1) := by decide +kernel
theorem d100_57 : decode cX8_begins 57 = .ok (.iastore, 1) := by decide +kernel
theorem d100_58 : decode cX8_begins 58 = .ok (.iinc 1 1, 3) := by decide +kernel
theorem d100_61 : decode cX8_begins 61 = .ok (.goto (-16), 3) := by decide +kernel
theorem d100_64 : decode cX8_begins 64 = .ok (.aload_n 0, 1) := by decide +kernel
theorem d100_65 : decode cX8_begins 65 = .ok (.getfield 44, 3) := by decide +kernel
theorem d100_68 : decode cX8_begins 68 = .ok (.iconst 0, 1) := by decide +kernel
theorem d100_69 : decode cX8_begins 69 = .ok (.iconst 0, 1) := by decide +kernel
theorem d100_70 : decode cX8_begins 70 = .ok (.iastore, 1) := by decide +kernel
theorem d100_71 : decode cX8_begins 71 = .ok (.aload_n 0, 1) := by decide +kernel
theorem d100_72 : decode cX8_begins 72 = .ok (.getfield 44, 3) := by decide +kernel
theorem d100_75 : decode cX8_begins 75 = .ok (.iconst 1, 1) := by decide +kernel
theorem d100_76 : decode cX8_begins 76 = .ok (.iconst 0, 1) := by decide +kernel
theorem d100_77 : decode cX8_begins 77 = .ok (.iastore, 1) := by decide +kernel
theorem d100_78 : decode cX8_begins 78 = .ok (.aload_n 0, 1) := by decide +kernel
theorem d100_79 : decode cX8_begins 79 = .ok (.getfield 44, 3) := by decide +kernel
theorem d100_82 : decode cX8_begins 82 = .ok (.iconst 2, 1) := by decide +kernel
theorem d100_83 : decode cX8_begins 83 = .ok (.bipush 9, 2) := by decide +kernel
theorem d100_85 : decode cX8_begins 85 = .ok (.iastore, 1) := by decide +kernel
theorem d100_86 : decode cX8_begins 86 = .ok (.aload_n 0, 1) := by decide +kernel
theorem d100_87 : decode cX8_begins 87 = .ok (.iconst 0, 1) := by decide +kernel
theorem d100_88 : decode cX8_begins 88 = .ok (.putfield 64, 3) := by decide +kernel
theorem d100_91 : decode cX8_begins 91 = .ok (.aload_n 0, 1) := by decide +kernel
theorem d100_92 : decode cX8_begins 92 = .ok (.iconst 0, 1) := by decide +kernel
theorem d100_93 : decode cX8_begins 93 = .ok (.putfield 67, 3) := by decide +kernel
theorem d100_96 : decode cX8_begins 96 = .ok (.aload_n 0, 1) := by decide +kernel
theorem d100_97 : decode cX8_begins 97 = .ok (.iconst (-1), 1) := by decide +kernel
theorem d100_98 : decode cX8_begins 98 = .ok (.putfield 70, 3) := by decide +kernel
theorem d100_101 : decode cX8_begins 101 = .ok (.aload_n 0, 1) := by decide +kernel
theorem d100_102 : decode cX8_begins 102 = .ok (.bipush 10, 2) := by decide +kernel
theorem d100_104 : decode cX8_begins 104 = .ok (.putfield 73, 3) := by decide +kernel
theorem d100_107 : decode cX8_begins 107 = .ok (.aload_n 0, 1) := by decide +kernel
theorem d100_108 : decode cX8_begins 108 = .ok (.iconst 0, 1) := by decide +kernel
theorem d100_109 : decode cX8_begins 109 = .ok (.putfield 76, 3) := by decide +kernel
theorem d100_112 : decode cX8_begins 112 = .ok (.aload_n 0, 1) := by decide +kernel
theorem d100_113 : decode cX8_begins 113 = .ok (.iconst 0, 1) := by decide +kernel
theorem d100_114 : decode cX8_begins 114 = .ok (.putfield 79, 3) := by decide +kernel
theorem d100_117 : decode cX8_begins 117 = .ok (.aload_n 0, 1) := by decide +kernel
theorem d100_118 : decode cX8_begins 118 = .ok (.iconst 0, 1) := by decide +kernel
theorem d100_119 : decode cX8_begins 119 = .ok (.putfield 83, 3) := by decide +kernel
theorem d100_122 : decode cX8_begins 122 = .ok (.aload_n 0, 1) := by decide +kernel
theorem d100_123 : decode cX8_begins 123 = .ok (.fconst 0, 1) := by decide +kernel
theorem d100_124 : decode cX8_begins 124 = .ok (.putfield 86, 3) := by decide +kernel
theorem d100_127 : decode cX8_begins 127 = .ok (.aload_n 0, 1) := by decide +kernel
theorem d100_128 : decode cX8_begins 128 = .ok (.bipush 45, 2) := by decide +kernel
theorem d100_130 : decode cX8_begins 130 = .ok (.putfield 90, 3) := by decide +kernel
theorem d100_133 : decode cX8_begins 133 = .ok (.return_, 1) := by decide +kernel
theorem v100_0 : am_all (am_V9 100) am_l100_0 := ⟨Or.inr ⟨1, d100_0, rfl, rfl, am_eq9 (by decide +kernel), trivial, trivial⟩, Or.inr ⟨1, d100_1, rfl, rfl, rfl, trivial, trivial⟩, Or.inr ⟨1, d100_2, rfl, rfl, rfl, trivial, trivial⟩, Or.inr ⟨3, d100_3, rfl, rfl, am_eq9 (by decide +kernel), trivial, trivial⟩, Or.inr ⟨3, d100_6, rfl, rfl, rfl, trivial, trivial⟩, Or.inr ⟨1, d100_9, rfl, rfl, rfl, trivial, trivial⟩, Or.inr ⟨3, d100_10, rfl, rfl, trivial, ⟨RX8, TX8, 27, rfl, by decide, Or.inl aw_936⟩, trivial⟩, Or.inr ⟨1, d100_13, rfl, rfl, rfl, trivial, trivial⟩, Or.inr ⟨1, d100_14, rfl, rfl, am_eq9 (by decide +kernel), trivial, trivial⟩, Or.inr ⟨1, d100_15, rfl, rfl, trivial, trivial, trivial⟩, Or.inr ⟨3, d100_16, rfl, rfl, ⟨rfl, by decide⟩, trivial, trivial⟩, Or.inr ⟨3, d100_19, rfl, rfl, rfl, trivial, trivial⟩, Or.inr ⟨1, d100_22, rfl, rfl, am_eq9 (by decide +kernel), trivial, trivial⟩, Or.inr ⟨1, d100_23, rfl, rfl, rfl, trivial, trivial⟩, Or.inr ⟨1, d100_24, rfl, rfl, rfl, trivial, trivial⟩, Or.inr ⟨2, d100_25, rfl, rfl, am_eq9 (by decide +kernel), trivial, trivial⟩, Or.inr ⟨3, d100_27, rfl, rfl, rfl, trivial, trivial⟩, Or.inr ⟨1, d100_30, rfl, rfl, rfl, trivial, trivial⟩, Or.inr ⟨3, d100_31, rfl, rfl, trivial, ⟨RX8, TX8, 27, rfl, by decide, Or.inl aw_926⟩, trivial⟩, Or.inr ⟨1, d100_34, rfl, rfl, rfl, trivial, trivial⟩, Or.inr ⟨1, d100_35, rfl, rfl, am_eq9 (by decide +kernel), trivial, trivial⟩, Or.inr ⟨1, d100_36, rfl, rfl, trivial, trivial, trivial⟩, Or.inr ⟨3, d100_37, rfl, rfl, ⟨rfl, by decide⟩, trivial, trivial⟩, Or.inr ⟨3, d100_40, rfl, rfl, rfl, trivial, trivial⟩, trivial⟩
theorem v100_1 : am_all (am_V9 100) am_l100_1 := ⟨Or.inr ⟨1, d100_43, rfl, rfl, am_eq9 (by decide +kernel), trivial, trivial⟩, Or.inr ⟨1, d100_44, rfl, rfl, rfl, trivial, trivial⟩, Or.inr ⟨1, d100_45, rfl, rfl, rfl, trivial, trivial⟩, Or.inr ⟨2, d100_46, rfl, rfl, am_eq9 (by decide +kernel), trivial, trivial⟩, Or.inr ⟨3, d100_48, rfl, rfl, rfl, trivial, trivial⟩, Or.inr ⟨1, d100_51, rfl, rfl, rfl, trivial, trivial⟩, Or.inr ⟨3, d100_52, rfl, rfl, trivial, ⟨RX8, TX8, 27, rfl, by decide, Or.inl aw_931⟩, trivial⟩, Or.inr ⟨1, d100_55, rfl, rfl, rfl, trivial, trivial⟩, Or.inr ⟨1, d100_56, rfl, rfl, am_eq9 (by decide +kernel), trivial, trivial⟩, Or.inr ⟨1, d100_57, rfl, rfl, trivial, trivial, trivial⟩, Or.inr ⟨3, d100_58, rfl, rfl, ⟨rfl, by decide⟩, trivial, trivial⟩, Or.inr ⟨3, d100_61, rfl, rfl, rfl, trivial, trivial⟩, Or.inr ⟨1, d100_64, rfl, rfl, rfl, trivial, trivial⟩, Or.inr ⟨3, d100_65, rfl, rfl, trivial, ⟨RX8, TX8, 27, rfl, by decide, Or.inl aw_933⟩, trivial⟩, Or.inr ⟨1, d100_68, rfl, rfl, am_eq9 (by decide +kernel), trivial, trivial⟩, Or.inr ⟨1, d100_69, rfl, rfl, am_eq9 (by decide +kernel), trivial, trivial⟩, Or.inr ⟨1, d100_70, rfl, rfl, trivial, trivial, trivial⟩, Or.inr ⟨1, d100_71, rfl, rfl, rfl, trivial, trivial⟩, Or.inr ⟨3, d100_72, rfl, rfl, trivial, ⟨RX8, TX8, 27, rfl, by decide, Or.inl aw_933⟩, trivial⟩, Or.inr ⟨1, d100_75, rfl, rfl, am_eq9 (by decide +kernel), trivial, trivial⟩, Or.inr ⟨1, d100_76, rfl, rfl, am_eq9 (by decide +kernel), trivial, trivial⟩, Or.inr ⟨1, d100_77, rfl, rfl, trivial, trivial, trivial⟩, Or.inr ⟨1, d100_78, rfl, rfl, rfl, trivial, trivial⟩, Or.inr ⟨3, d100_79, rfl, rfl, trivial, ⟨RX8, TX8, 27, rfl, by decide, Or.inl aw_933⟩, trivial⟩, trivial⟩
theorem v100_2 : am_all (am_V9 100) am_l100_2 := ⟨Or.inr ⟨1, d100_82, rfl, rfl, am_eq9 (by decide +kernel), trivial, trivial⟩, Or.inr ⟨2, d100_83, rfl, rfl, am_eq9 (by decide +kernel), trivial, trivial⟩, Or.inr ⟨1, d100_85, rfl, rfl, trivial, trivial, trivial⟩, Or.inr ⟨1, d100_86, rfl, rfl, rfl, trivial, trivial⟩, Or.inr ⟨1, d100_87, rfl, rfl, am_eq9 (by decide +kernel), trivial, trivial⟩, Or.inr ⟨3, d100_88, rfl, rfl, trivial, ⟨RX8, TX8, 27, rfl, by decide, aw_939, Or.inl rfl⟩, trivial⟩, Or.inr ⟨1, d100_91, rfl, rfl, rfl, trivial, trivial⟩, Or.inr ⟨1, d100_92, rfl, rfl, am_eq9 (by decide +kernel), trivial, trivial⟩, Or.inr ⟨3, d100_93, rfl, rfl, trivial, ⟨RX8, TX8, 27, rfl, by decide, aw_940, Or.inl rfl⟩, trivial⟩, Or.inr ⟨1, d100_96, rfl, rfl, rfl, trivial, trivial⟩, Or.inr ⟨1, d100_97, rfl, rfl, am_eq9 (by decide +kernel), trivial, trivial⟩, Or.inr ⟨3, d100_98, rfl, rfl, trivial, ⟨RX8, TX8, 27, rfl, by decide, aw_941, Or.inl rfl⟩, trivial⟩, Or.inr ⟨1, d100_101, rfl, rfl, rfl, trivial, trivial⟩, Or.inr ⟨2, d100_102, rfl, rfl, am_eq9 (by decide +kernel), trivial, trivial⟩, Or.inr ⟨3, d100_104, rfl, rfl, trivial, ⟨RX8, TX8, 27, rfl, by decide, aw_942, Or.inl rfl⟩, trivial⟩, Or.inr ⟨1, d100_107, rfl, rfl, rfl, trivial, trivial⟩, Or.inr ⟨1, d100_108, rfl, rfl, am_eq9 (by decide +kernel), trivial, trivial⟩, Or.inr ⟨3, d100_109, rfl, rfl, trivial, ⟨RX8, TX8, 27, rfl, by decide, aw_943, Or.inl rfl⟩, trivial⟩, Or.inr ⟨1, d100_112, rfl, rfl, rfl, trivial, trivial⟩, Or.inr ⟨1, d100_113, rfl, rfl, am_eq9 (by decide +kernel), trivial, trivial⟩, Or.inr ⟨3, d100_114, rfl, rfl, trivial, ⟨RX8, TX8, 27, rfl, by decide, aw_944, Or.inl rfl⟩, trivial⟩, Or.inr ⟨1, d100_117, rfl, rfl, rfl, trivial, trivial⟩, Or.inr ⟨1, d100_118, rfl, rfl, am_eq9 (by decide +kernel), trivial, trivial⟩, Or.inr ⟨3, d100_119, rfl, rfl, trivial, ⟨RX8, TX8, 27, rfl, by decide, aw_945, Or.inl rfl⟩, trivial⟩, trivial⟩
theorem v100_3 : am_all (am_V9 100) am_l100_3 := ⟨Or.inr ⟨1, d100_122, rfl, rfl, rfl, trivial, trivial⟩, Or.inr ⟨1, d100_123, rfl, rfl, trivial, trivial, trivial⟩, Or.inr ⟨3, d100_124, rfl, rfl, trivial, ⟨RX8, TX8, 27, rfl, by decide, aw_946, Or.inl rfl⟩, trivial⟩, Or.inr ⟨1, d100_127, rfl, rfl, rfl, trivial, trivial⟩, Or.inr ⟨2, d100_128, rfl, rfl, am_eq9 (by decide +kernel), trivial, trivial⟩, Or.inr ⟨3, d100_130, rfl, rfl, trivial, ⟨RX8, TX8, 27, rfl, by decide, aw_947, Or.inl rfl⟩, trivial⟩, Or.inr ⟨1, d100_133, rfl, rfl, trivial, trivial, trivial⟩, trivial⟩
theorem v100 : ∀ pc, am_V9 100 pc ((am_G 100).2.2.2.2.1 pc) := am_all_lc am_V9_0 _ ⟨v100_0, v100_1, v100_2, v100_3, trivial⟩
theorem d101_0 : decode cX8_isPlace 0 = .ok (.iload_n 0, 1) := by decide +kernel
theorem d101_1 : decode cX8_isPlace 1 = .ok (.iconst 0, 1) := by decide +kernel
theorem d101_2 : decode cX8_isPlace 2 = .ok (.iconst 2, 1) := by decide +kernel
theorem d101_3 : decode cX8_isPlace 3 = .ok (.invokestatic 100, 3) := by decide +kernel
theorem d101_6 : decode cX8_isPlace 6 = .ok (.ifCond .eq 16, 3) := by decide +kernel
theorem d101_9 : decode cX8_isPlace 9 = .ok (.iload_n 1, 1) := by decide +kernel
theorem d101_10 : decode cX8_isPlace 10 = .ok (.iconst 0, 1) := by decide +kernel
theorem d101_11 : decode cX8_isPlace 11 = .ok (.iconst 3, 1) := by decide +kernel
theorem d101_12 : decode cX8_isPlace 12 = .ok (.invokestatic 100, 3) := by decide +kernel
theorem d101_15 : decode cX8_isPlace 15 = .ok (.ifCond .eq 7, 3) := by decide +kernel
theorem d101_18 : decode cX8_isPlace 18 = .ok (.iconst 1, 1) := by decide +kernel
theorem d101_19 : decode cX8_isPlace 19 = .ok (.goto 4, 3) := by decide +kernel
theorem d101_22 : decode cX8_isPlace 22 = .ok (.iconst 0, 1) := by decide +kernel
theorem d101_23 : decode cX8_isPlace 23 = .ok (.ireturn, 1) := by decide +kernel
theorem v101_0 : am_all (am_V9 101) am_l101_0 := ⟨Or.inr ⟨1, d101_0, rfl, rfl, rfl, trivial, trivial⟩, Or.inr ⟨1, d101_1, rfl, rfl, am_eq9 (by decide +kernel), trivial, trivial⟩, Or.inr ⟨1, d101_2, rfl, rfl, am_eq9 (by decide +kernel), trivial, trivial⟩, Or.inr ⟨3, d101_3, rfl, rfl, trivial, trivial, Or.inr ⟨by decide, okM_97, aw_1017, Or.inl ⟨rfl, aw_1016⟩⟩⟩, Or.inr ⟨3, d101_6, rfl, rfl, rfl, trivial, trivial⟩, Or.inr ⟨1, d101_9, rfl, rfl, rfl, trivial, trivial⟩, Or.inr ⟨1, d101_10, rfl, rfl, am_eq9 (by decide +kernel), trivial, trivial⟩, Or.inr ⟨1, d101_11, rfl, rfl, am_eq9 (by decide +kernel), trivial, trivial⟩, Or.inr ⟨3, d101_12, rfl, rfl, trivial, trivial, Or.inr ⟨by decide, okM_97, aw_1017, Or.inl ⟨rfl, aw_1016⟩⟩⟩, Or.inr ⟨3, d101_15, rfl, rfl, rfl, trivial, trivial⟩, Or.inr ⟨1, d101_18, rfl, rfl, am_eq9 (by decide +kernel), trivial, trivial⟩, Or.inr ⟨3, d101_19, rfl, rfl, rfl, trivial, trivial⟩, Or.inr ⟨1, d101_22, rfl, rfl, am_eq9 (by decide +kernel), trivial, trivial⟩, Or.inr ⟨1, d101_23, rfl, rfl, trivial, trivial, trivial⟩, trivial⟩
theorem v101 : ∀ pc, am_V9 101 pc ((am_G 101).2.2.2.2.1 pc) := am_all_lc am_V9_0 _ ⟨v101_0, trivial⟩
theorem d102_0 : decode cX8_putCutter 0 = .ok (.iload_n 3, 1) := by decide +kernel
theorem d102_1 : decode cX8_putCutter 1 = .ok (.bipush 101, 2) := by decide +kernel
theorem d102_3 : decode cX8_putCutter 3 = .ok (.if_icmp .eq 15, 3) := by decide +kernel
theorem d102_6 : decode cX8_putCutter 6 = .ok (.iload_n 3, 1) := by decide +kernel
theorem d102_7 : decode cX8_putCutter 7 = .ok (.bipush 98, 2) := by decide +kernel
theorem d102_9 : decode cX8_putCutter 9 = .ok (.if_icmp .eq 9, 3) := by decide +kernel
theorem d102_12 : decode cX8_putCutter 12 = .ok (.iload_n 3, 1) := by decide +kernel
theorem d102_13 : decode cX8_putCutter 13 = .ok (.bipush 118, 2) := by decide +kernel
theorem d102_15 : decode cX8_putCutter 15 = .ok (.if_icmp .ne 7, 3) := by decide +kernel
theorem d102_18 : decode cX8_putCutter 18 = .ok (.iconst 1, 1) := by decide +kernel
theorem d102_19 : decode cX8_putCutter 19 = .ok (.goto 4, 3) := by decide +kernel
theorem d102_22 : decode cX8_putCutter 22 = .ok (.iconst 0, 1) := by decide +kernel
theorem d102_23 : decode cX8_putCutter 23 = .ok (.istore 6, 2) := by decide +kernel
theorem d102_25 : decode cX8_putCutter 25 = .ok (.iload_n 1, 1) := by decide +kernel
theorem d102_26 : decode cX8_putCutter 26 = .ok (.iconst 2, 1) := by decide +kernel
theorem d102_27 : decode cX8_putCutter 27 = .ok (.if_icmp .eq 18, 3) := by decide +kernel
theorem d102_30 : decode cX8_putCutter 30 = .ok (.iload_n 3, 1) := by decide +kernel
theorem d102_31 : decode cX8_putCutter 31 = .ok (.iload_n 1, 1) := by decide +kernel
theorem d102_32 : decode cX8_putCutter 32 = .ok (.ifCond .ne 8, 3) := by decide +kernel
theorem d102_35 : decode cX8_putCutter 35 = .ok (.bipush 101, 2) := by decide +kernel
theorem d102_37 : decode cX8_putCutter 37 = .ok (.goto 5, 3) := by decide +kernel
theorem d102_40 : decode cX8_putCutter 40 = .ok (.bipush 98, 2) := by decide +kernel
theorem d102_42 : decode cX8_putCutter 42 = .ok (.if_icmp .ne 7, 3) := by decide +kernel
theorem d102_45 : decode cX8_putCutter 45 = .ok (.iconst 1, 1) := by decide +kernel
theorem d102_46 : decode cX8_putCutter 46 = .ok (.goto 4, 3) := by decide +kernel
theorem d102_49 : decode cX8_putCutter 49 = .ok (.iconst 0, 1) := by decide +kernel
theorem d102_50 : decode cX8_putCutter 50 = .ok (.istore 7, 2) := by decide +kernel
theorem d102_52 : decode cX8_putCutter 52 = .ok (.aload_n 0, 1) := by decide +kernel
theorem d102_53 : decode cX8_putCutter 53 = .ok (.iload_n 1, 1) := by decide +kernel
theorem d102_54 : decode cX8_putCutter 54 = .ok (.iload_n 2, 1) := by decide +kernel
theorem d102_55 : decode cX8_putCutter 55 = .ok (.invokestatic 104, 3) := by decide +kernel
theorem d102_58 : decode cX8_putCutter 58 = .ok (.ifCond .ne 7, 3) := by decide +kernel
theorem d102_61 : decode cX8_putCutter 61 = .ok (.iconst 1, 1) := by decide +kernel
theorem d102_62 : decode cX8_putCutter 62 = .ok (.goto 44, 3) := by decide +kernel
theorem d102_65 : decode cX8_putCutter 65 = .ok (.iload 6, 2) := by decide +kernel
theorem d102_67 : decode cX8_putCutter 67 = .ok (.ifCond .eq 25, 3) := by decide +kernel
theorem d102_70 : decode cX8_putCutter 70 = .ok (.iload 4, 2) := by decide +kernel
theorem d102_72 : decode cX8_putCutter 72 = .ok (.iconst 0, 1) := by decide +kernel
theorem d102_73 : decode cX8_putCutter 73 = .ok (.iconst 3, 1) := by decide +kernel
theorem d102_74 : decode cX8_putCutter 74 = .ok (.invokestatic 100, 3) := by decide +kernel
theorem d102_77 : decode cX8_putCutter 77 = .ok (.ifCond .eq 15, 3) := by decide +kernel
theorem d102_80 : decode cX8_putCutter 80 = .ok (.iload 5, 2) := by decide +kernel
theorem d102_82 : decode cX8_putCutter 82 = .ok (.iconst 1, 1) := by decide +kernel
theorem d102_83 : decode cX8_putCutter 83 = .ok (.sipush 999, 3) := by decide +kernel
theorem d102_86 : decode cX8_putCutter 86 = .ok (.invokestatic 100, 3) := by decide +kernel
theorem d102_89 : decode cX8_putCutter 89 = .ok (.ifCond .ne 7, 3) := by decide +kernel
theorem d102_92 : decode cX8_putCutter 92 = .ok (.iconst 2, 1) := by decide +kernel
theorem d102_93 : decode cX8_putCutter 93 = .ok (.goto 13, 3) := by decide +kernel
theorem d102_96 : decode cX8_putCutter 96 = .ok (.iload 7, 2) := by decide +kernel
theorem d102_98 : decode cX8_putCutter 98 = .ok (.ifCond .ne 7, 3) := by decide +kernel
theorem d102_101 : decode cX8_putCutter 101 = .ok (.iconst 3, 1) := by decide +kernel
theorem d102_102 : decode cX8_putCutter 102 = .ok (.goto 4, 3) := by decide +kernel
theorem d102_105 : decode cX8_putCutter 105 = .ok (.iconst 0, 1) := by decide +kernel
theorem d102_106 : decode cX8_putCutter 106 = .ok (.putfield 57, 3) := by decide +kernel
theorem d102_109 : decode cX8_putCutter 109 = .ok (.aload_n 0, 1) := by decide +kernel
theorem d102_110 : decode cX8_putCutter 110 = .ok (.getfield 57, 3) := by decide +kernel
theorem d102_113 : decode cX8_putCutter 113 = .ok (.ifCond .le 5, 3) := by decide +kernel
theorem d102_116 : decode cX8_putCutter 116 = .ok (.iconst 0, 1) := by decide +kernel
theorem d102_117 : decode cX8_putCutter 117 = .ok (.ireturn, 1) := by decide +kernel
theorem d102_118 : decode cX8_putCutter 118 = .ok (.iconst 4, 1) := by decide +kernel
theorem d102_119 : decode cX8_putCutter 119 = .ok (.iload_n 1, 1) := by decide +kernel
theorem d102_120 : decode cX8_putCutter 120 = .ok (.imul, 1) := by decide +kernel
theorem d102_121 : decode cX8_putCutter 121 = .ok (.iload_n 2, 1) := by decide +kernel
theorem d102_122 : decode cX8_putCutter 122 = .ok (.iadd, 1) := by decide +kernel
theorem d102_123 : decode cX8_putCutter 123 = .ok (.istore 8, 2) := by decide +kernel
theorem d102_125 : decode cX8_putCutter 125 = .ok (.aload_n 0, 1) := by decide +kernel
theorem d102_126 : decode cX8_putCutter 126 = .ok (.getfield 7, 3) := by decide +kernel
theorem d102_129 : decode cX8_putCutter 129 = .ok (.iload 8, 2) := by decide +kernel
theorem d102_131 : decode cX8_putCutter 131 = .ok (.iload_n 3, 1) := by decide +kernel
theorem d102_132 : decode cX8_putCutter 132 = .ok (.castore, 1) := by decide +kernel
theorem d102_133 : decode cX8_putCutter 133 = .ok (.aload_n 0, 1) := by decide +kernel
theorem d102_134 : decode cX8_putCutter 134 = .ok (.getfield 16, 3) := by decide +kernel
theorem d102_137 : decode cX8_putCutter 137 = .ok (.iload 8, 2) := by decide +kernel
theorem d102_139 : decode cX8_putCutter 139 = .ok (.iload 4, 2) := by decide +kernel
theorem d102_141 : decode cX8_putCutter 141 = .ok (.iastore, 1) := by decide +kernel
theorem d102_142 : decode cX8_putCutter 142 = .ok (.aload_n 0, 1) := by decide +kernel
theorem d102_143 : decode cX8_putCutter 143 = .ok (.getfield 20, 3) := by decide +kernel
theorem d102_146 : decode cX8_putCutter 146 = .ok (.iload 8, 2) := by decide +kernel
theorem d102_148 : decode cX8_putCutter 148 = .ok (.iload 5, 2) := by decide +kernel
theorem d102_150 : decode cX8_putCutter 150 = .ok (.iastore, 1) := by decide +kernel
theorem d102_151 : decode cX8_putCutter 151 = .ok (.aload_n 0, 1) := by decide +kernel
theorem d102_152 : decode cX8_putCutter 152 = .ok (.invokevirtual 97, 3) := by decide +kernel
theorem d102_155 : decode cX8_putCutter 155 = .ok (.iconst 0, 1) := by decide +kernel
theorem d102_156 : decode cX8_putCutter 156 = .ok (.istore 9, 2) := by decide +kernel
theorem d102_158 : decode cX8_putCutter 158 = .ok (.iconst 4, 1) := by decide +kernel
theorem d102_159 : decode cX8_putCutter 159 = .ok (.iload_n 1, 1) := by decide +kernel
theorem d102_160 : decode cX8_putCutter 160 = .ok (.imul, 1) := by decide +kernel
theorem d102_161 : decode cX8_putCutter 161 = .ok (.istore 10, 2) := by decide +kernel
theorem d102_163 : decode cX8_putCutter 163 = .ok (.iload 10, 2) := by decide +kernel
theorem d102_165 : decode cX8_putCutter 165 = .ok (.iconst 4, 1) := by decide +kernel
theorem d102_166 : decode cX8_putCutter 166 = .ok (.iload_n 1, 1) := by decide +kernel
theorem d102_167 : decode cX8_putCutter 167 = .ok (.imul, 1) := by decide +kernel
theorem d102_168 : decode cX8_putCutter 168 = .ok (.iconst 4, 1) := by decide +kernel
theorem d102_169 : decode cX8_putCutter 169 = .ok (.iadd, 1) := by decide +kernel
theorem d102_170 : decode cX8_putCutter 170 = .ok (.if_icmp .ge 31, 3) := by decide +kernel
theorem d102_173 : decode cX8_putCutter 173 = .ok (.iload 9, 2) := by decide +kernel
theorem d102_175 : decode cX8_putCutter 175 = .ok (.aload_n 0, 1) := by decide +kernel
theorem d102_176 : decode cX8_putCutter 176 = .ok (.getfield 7, 3) := by decide +kernel
theorem d102_179 : decode cX8_putCutter 179 = .ok (.iload 10, 2) := by decide +kernel
theorem d102_181 : decode cX8_putCutter 181 = .ok (.caload, 1) := by decide +kernel
theorem d102_182 : decode cX8_putCutter 182 = .ok (.bipush 45, 2) := by decide +kernel
theorem d102_184 : decode cX8_putCutter 184 = .ok (.if_icmp .ne 7, 3) := by decide +kernel
theorem d102_187 : decode cX8_putCutter 187 = .ok (.iconst 0, 1) := by decide +kernel
theorem d102_188 : decode cX8_putCutter 188 = .ok (.goto 4, 3) := by decide +kernel
theorem d102_191 : decode cX8_putCutter 191 = .ok (.iconst 1, 1) := by decide +kernel
theorem d102_192 : decode cX8_putCutter 192 = .ok (.iadd, 1) := by decide +kernel
theorem d102_193 : decode cX8_putCutter 193 = .ok (.istore 9, 2) := by decide +kernel
theorem d102_195 : decode cX8_putCutter 195 = .ok (.iinc 10 1, 3) := by decide +kernel
theorem d102_198 : decode cX8_putCutter 198 = .ok (.goto (-35), 3) := by decide +kernel
theorem d102_201 : decode cX8_putCutter 201 = .ok (.iload 9, 2) := by decide +kernel
theorem d102_203 : decode cX8_putCutter 203 = .ok (.ireturn, 1) := by decide +kernel
theorem v102_0 : am_all (am_V9 102) am_l102_0 := ⟨Or.inr ⟨1, d102_0, rfl, rfl, rfl, trivial, trivial⟩, Or.inr ⟨2, d102_1, rfl, rfl, am_eq9 (by decide +kernel), trivial, trivial⟩, Or.inr ⟨3, d102_3, rfl, rfl, rfl, trivial, trivial⟩, Or.inr ⟨1, d102_6, rfl, rfl, rfl, trivial, trivial⟩, Or.inr ⟨2, d102_7, rfl, rfl, am_eq9 (by decide +kernel), trivial, trivial⟩, Or.inr ⟨3, d102_9, rfl, rfl, rfl, trivial, trivial⟩, Or.inr ⟨1, d102_12, rfl, rfl, rfl, trivial, trivial⟩, Or.inr ⟨2, d102_13, rfl, rfl, am_eq9 (by decide +kernel), trivial, trivial⟩, Or.inr ⟨3, d102_15, rfl, rfl, rfl, trivial, trivial⟩, Or.inr ⟨1, d102_18, rfl, rfl, am_eq9 (by decide +kernel), trivial, trivial⟩, Or.inr ⟨3, d102_19, rfl, rfl, rfl, trivial, trivial⟩, Or.inr ⟨1, d102_22, rfl, rfl, am_eq9 (by decide +kernel), trivial, trivial⟩, Or.inr ⟨2, d102_23, rfl, rfl, rfl, trivial, trivial⟩, Or.inr ⟨1, d102_25, rfl, rfl, rfl, trivial, trivial⟩, Or.inr ⟨1, d102_26, rfl, rfl, am_eq9 (by decide +kernel), trivial, trivial⟩, Or.inr ⟨3, d102_27, rfl, rfl, rfl, trivial, trivial⟩, Or.inr ⟨1, d102_30, rfl, rfl, rfl, trivial, trivial⟩, Or.inr ⟨1, d102_31, rfl, rfl, rfl, trivial, trivial⟩, Or.inr ⟨3, d102_32, rfl, rfl, rfl, trivial, trivial⟩, Or.inr ⟨2, d102_35, rfl, rfl, am_eq9 (by decide +kernel), trivial, trivial⟩, Or.inr ⟨3, d102_37, rfl, rfl, rfl, trivial, trivial⟩, Or.inr ⟨2, d102_40, rfl, rfl, am_eq9 (by decide +kernel), trivial, trivial⟩, Or.inr ⟨3, d102_42, rfl, rfl, rfl, trivial, trivial⟩, Or.inr ⟨1, d102_45, rfl, rfl, am_eq9 (by decide +kernel), trivial, trivial⟩, trivial⟩
theorem v102_1 : am_all (am_V9 102) am_l102_1 := ⟨Or.inr ⟨3, d102_46, rfl, rfl, rfl, trivial, trivial⟩, Or.inr ⟨1, d102_49, rfl, rfl, am_eq9 (by decide +kernel), trivial, trivial⟩, Or.inr ⟨2, d102_50, rfl, rfl, rfl, trivial, trivial⟩, Or.inr ⟨1, d102_52, rfl, rfl, rfl, trivial, trivial⟩, Or.inr ⟨1, d102_53, rfl, rfl, rfl, trivial, trivial⟩, Or.inr ⟨1, d102_54, rfl, rfl, rfl, trivial, trivial⟩, Or.inr ⟨3, d102_55, rfl, rfl, trivial, trivial, Or.inr ⟨by decide, okM_101, aw_1014, Or.inl ⟨rfl, aw_1013⟩⟩⟩, Or.inr ⟨3, d102_58, rfl, rfl, rfl, trivial, trivial⟩, Or.inr ⟨1, d102_61, rfl, rfl, am_eq9 (by decide +kernel), trivial, trivial⟩, Or.inr ⟨3, d102_62, rfl, rfl, rfl, trivial, trivial⟩, Or.inr ⟨2, d102_65, rfl, rfl, rfl, trivial, trivial⟩, Or.inr ⟨3, d102_67, rfl, rfl, rfl, trivial, trivial⟩, Or.inr ⟨2, d102_70, rfl, rfl, rfl, trivial, trivial⟩, Or.inr ⟨1, d102_72, rfl, rfl, am_eq9 (by decide +kernel), trivial, trivial⟩, Or.inr ⟨1, d102_73, rfl, rfl, am_eq9 (by decide +kernel), trivial, trivial⟩, Or.inr ⟨3, d102_74, rfl, rfl, trivial, trivial, Or.inr ⟨by decide, okM_97, aw_1017, Or.inl ⟨rfl, aw_1016⟩⟩⟩, Or.inr ⟨3, d102_77, rfl, rfl, rfl, trivial, trivial⟩, Or.inr ⟨2, d102_80, rfl, rfl, rfl, trivial, trivial⟩, Or.inr ⟨1, d102_82, rfl, rfl, am_eq9 (by decide +kernel), trivial, trivial⟩, Or.inr ⟨3, d102_83, rfl, rfl, am_eq9 (by decide +kernel), trivial, trivial⟩, Or.inr ⟨3, d102_86, rfl, rfl, trivial, trivial, Or.inr ⟨by decide, okM_97, aw_1017, Or.inl ⟨rfl, aw_1016⟩⟩⟩, Or.inr ⟨3, d102_89, rfl, rfl, rfl, trivial, trivial⟩, Or.inr ⟨1, d102_92, rfl, rfl, am_eq9 (by decide +kernel), trivial, trivial⟩, Or.inr ⟨3, d102_93, rfl, rfl, rfl, trivial, trivial⟩, trivial⟩
theorem v102_2 : am_all (am_V9 102) am_l102_2 := ⟨Or.inr ⟨2, d102_96, rfl, rfl, rfl, trivial, trivial⟩, Or.inr ⟨3, d102_98, rfl, rfl, rfl, trivial, trivial⟩, Or.inr ⟨1, d102_101, rfl, rfl, am_eq9 (by decide +kernel), trivial, trivial⟩, Or.inr ⟨3, d102_102, rfl, rfl, rfl, trivial, trivial⟩, Or.inr ⟨1, d102_105, rfl, rfl, am_eq9 (by decide +kernel), trivial, trivial⟩, Or.inr ⟨3, d102_106, rfl, rfl, trivial, ⟨RX8, TX8, 27, rfl, by decide, aw_937, Or.inl rfl⟩, trivial⟩, Or.inr ⟨1, d102_109, rfl, rfl, rfl, trivial, trivial⟩, Or.inr ⟨3, d102_110, rfl, rfl, trivial, ⟨RX8, TX8, 27, rfl, by decide, Or.inl aw_937⟩, trivial⟩, Or.inr ⟨3, d102_113, rfl, rfl, rfl, trivial, trivial⟩, Or.inr ⟨1, d102_116, rfl, rfl, am_eq9 (by decide +kernel), trivial, trivial⟩, Or.inr ⟨1, d102_117, rfl, rfl, trivial, trivial, trivial⟩, Or.inr ⟨1, d102_118, rfl, rfl, am_eq9 (by decide +kernel), trivial, trivial⟩, Or.inr ⟨1, d102_119, rfl, rfl, rfl, trivial, trivial⟩, Or.inr ⟨1, d102_120, rfl, rfl, trivial, trivial, trivial⟩, Or.inr ⟨1, d102_121, rfl, rfl, rfl, trivial, trivial⟩, Or.inr ⟨1, d102_122, rfl, rfl, trivial, trivial, trivial⟩, Or.inr ⟨2, d102_123, rfl, rfl, rfl, trivial, trivial⟩, Or.inr ⟨1, d102_125, rfl, rfl, rfl, trivial, trivial⟩, Or.inr ⟨3, d102_126, rfl, rfl, trivial, ⟨RX8, TX8, 27, rfl, by decide, Or.inl aw_922⟩, trivial⟩, Or.inr ⟨2, d102_129, rfl, rfl, rfl, trivial, trivial⟩, Or.inr ⟨1, d102_131, rfl, rfl, rfl, trivial, trivial⟩, Or.inr ⟨1, d102_132, rfl, rfl, trivial, trivial, trivial⟩, Or.inr ⟨1, d102_133, rfl, rfl, rfl, trivial, trivial⟩, Or.inr ⟨3, d102_134, rfl, rfl, trivial, ⟨RX8, TX8, 27, rfl, by decide, Or.inl aw_924⟩, trivial⟩, trivial⟩
theorem v102_3 : am_all (am_V9 102) am_l102_3 := ⟨Or.inr ⟨2, d102_137, rfl, rfl, rfl, trivial, trivial⟩, Or.inr ⟨2, d102_139, rfl, rfl, rfl, trivial, trivial⟩, Or.inr ⟨1, d102_141, rfl, rfl, trivial, trivial, trivial⟩, Or.inr ⟨1, d102_142, rfl, rfl, rfl, trivial, trivial⟩, Or.inr ⟨3, d102_143, rfl, rfl, trivial, ⟨RX8, TX8, 27, rfl, by decide, Or.inl aw_925⟩, trivial⟩, Or.inr ⟨2, d102_146, rfl, rfl, rfl, trivial, trivial⟩, Or.inr ⟨2, d102_148, rfl, rfl, rfl, trivial, trivial⟩, Or.inr ⟨1, d102_150, rfl, rfl, trivial, trivial, trivial⟩, Or.inr ⟨1, d102_151, rfl, rfl, rfl, trivial, trivial⟩, Or.inr ⟨3, d102_152, rfl, rfl, trivial, trivial, ⟨by decide, ⟨_, TX8, 27, rfl, okM_100, rfl⟩, aw_918, aw_920, as_100⟩⟩, Or.inr ⟨1, d102_155, rfl, rfl, am_eq9 (by decide +kernel), trivial, trivial⟩, Or.inr ⟨2, d102_156, rfl, rfl, rfl, trivial, trivial⟩, Or.inr ⟨1, d102_158, rfl, rfl, am_eq9 (by decide +kernel), trivial, trivial⟩, Or.inr ⟨1, d102_159, rfl, rfl, rfl, trivial, trivial⟩, Or.inr ⟨1, d102_160, rfl, rfl, trivial, trivial, trivial⟩, Or.inr ⟨2, d102_161, rfl, rfl, rfl, trivial, trivial⟩, Or.inr ⟨2, d102_163, rfl, rfl, rfl, trivial, trivial⟩, Or.inr ⟨1, d102_165, rfl, rfl, am_eq9 (by decide +kernel), trivial, trivial⟩, Or.inr ⟨1, d102_166, rfl, rfl, rfl, trivial, trivial⟩, Or.inr ⟨1, d102_167, rfl, rfl, trivial, trivial, trivial⟩, Or.inr ⟨1, d102_168, rfl, rfl, am_eq9 (by decide +kernel), trivial, trivial⟩, Or.inr ⟨1, d102_169, rfl, rfl, trivial, trivial, trivial⟩, Or.inr ⟨3, d102_170, rfl, rfl, rfl, trivial, trivial⟩, Or.inr ⟨2, d102_173, rfl, rfl, rfl, trivial, trivial⟩, trivial⟩
theorem v102_4 : am_all (am_V9 102) am_l102_4 := ⟨Or.inr ⟨1, d102_175, rfl, rfl, rfl, trivial, trivial⟩, Or.inr ⟨3, d102_176, rfl, rfl, trivial, ⟨RX8, TX8, 27, rfl, by decide, Or.inl aw_922⟩, trivial⟩, Or.inr ⟨2, d102_179, rfl, rfl, rfl, trivial, trivial⟩, Or.inr ⟨1, d102_181, rfl, rfl, trivial, trivial, trivial⟩, Or.inr ⟨2, d102_182, rfl, rfl, am_eq9 (by decide +kernel), trivial, trivial⟩, Or.inr ⟨3, d102_184, rfl, rfl, rfl, trivial, trivial⟩, Or.inr ⟨1, d102_187, rfl, rfl, am_eq9 (by decide +kernel), trivial, trivial⟩, Or.inr ⟨3, d102_188, rfl, rfl, rfl, trivial, trivial⟩, Or.inr ⟨1, d102_191, rfl, rfl, am_eq9 (by decide +kernel), trivial, trivial⟩, Or.inr ⟨1, d102_192, rfl, rfl, trivial, trivial, trivial⟩, Or.inr ⟨2, d102_193, rfl, rfl, rfl, trivial, trivial⟩, Or.inr ⟨3, d102_195, rfl, rfl, ⟨rfl, by decide⟩, trivial, trivial⟩, Or.inr ⟨3, d102_198, rfl, rfl, rfl, trivial, trivial⟩, Or.inr ⟨2, d102_201, rfl, rfl, rfl, trivial, trivial⟩, Or.inr ⟨1, d102_203, rfl, rfl, trivial, trivial, trivial⟩, trivial⟩
theorem v102 : ∀ pc, am_V9 102 pc ((am_G 102).2.2.2.2.1 pc) := am_all_lc am_V9_0 _ ⟨v102_0, v102_1, v102_2, v102_3, v102_4, trivial⟩
theorem d103_0 : decode cX8_isCell 0 = .ok (.iload_n 0, 1) := by decide +kernel
theorem d103_1 : decode cX8_isCell 1 = .ok (.iconst 0, 1) := by decide +kernel
theorem d103_2 : decode cX8_isCell 2 = .ok (.bipush 15, 2) := by decide +kernel
theorem d103_4 : decode cX8_isCell 4 = .ok (.invokestatic 100, 3) := by decide +kernel
theorem d103_7 : decode cX8_isCell 7 = .ok (.ifCond .eq 26, 3) := by decide +kernel
theorem d103_10 : decode cX8_isCell 10 = .ok (.iload_n 1, 1) := by decide +kernel
theorem d103_11 : decode cX8_isCell 11 = .ok (.iconst 0, 1) := by decide +kernel
theorem d103_12 : decode cX8_isCell 12 = .ok (.bipush 11, 2) := by decide +kernel
theorem d103_14 : decode cX8_isCell 14 = .ok (.invokestatic 100, 3) := by decide +kernel
theorem d103_17 : decode cX8_isCell 17 = .ok (.ifCond .eq 16, 3) := by decide +kernel
theorem d103_20 : decode cX8_isCell 20 = .ok (.iload_n 2, 1) := by decide +kernel
theorem d103_21 : decode cX8_isCell 21 = .ok (.iconst 0, 1) := by decide +kernel
theorem d103_22 : decode cX8_isCell 22 = .ok (.iconst 5, 1) := by decide +kernel
theorem d103_23 : decode cX8_isCell 23 = .ok (.invokestatic 100, 3) := by decide +kernel
theorem d103_26 : decode cX8_isCell 26 = .ok (.ifCond .eq 7, 3) := by decide +kernel
theorem d103_29 : decode cX8_isCell 29 = .ok (.iconst 1, 1) := by decide +kernel
theorem d103_30 : decode cX8_isCell 30 = .ok (.goto 4, 3) := by decide +kernel
theorem d103_33 : decode cX8_isCell 33 = .ok (.iconst 0, 1) := by decide +kernel
theorem d103_34 : decode cX8_isCell 34 = .ok (.ireturn, 1) := by decide +kernel
theorem v103_0 : am_all (am_V9 103) am_l103_0 := ⟨Or.inr ⟨1, d103_0, rfl, rfl, rfl, trivial, trivial⟩, Or.inr ⟨1, d103_1, rfl, rfl, am_eq9 (by decide +kernel), trivial, trivial⟩, Or.inr ⟨2, d103_2, rfl, rfl, am_eq9 (by decide +kernel), trivial, trivial⟩, Or.inr ⟨3, d103_4, rfl, rfl, trivial, trivial, Or.inr ⟨by decide, okM_97, aw_1017, Or.inl ⟨rfl, aw_1016⟩⟩⟩, Or.inr ⟨3, d103_7, rfl, rfl, rfl, trivial, trivial⟩, Or.inr ⟨1, d103_10, rfl, rfl, rfl, trivial, trivial⟩, Or.inr ⟨1, d103_11, rfl, rfl, am_eq9 (by decide +kernel), trivial, trivial⟩, Or.inr ⟨2, d103_12, rfl, rfl, am_eq9 (by decide +kernel), trivial, trivial⟩, Or.inr ⟨3, d103_14, rfl, rfl, trivial, trivial, Or.inr ⟨by decide, okM_97, aw_1017, Or.inl ⟨rfl, aw_1016⟩⟩⟩, Or.inr ⟨3, d103_17, rfl, rfl, rfl, trivial, trivial⟩, Or.inr ⟨1, d103_20, rfl, rfl, rfl, trivial, trivial⟩, Or.inr ⟨1, d103_21, rfl, rfl, am_eq9 (by decide +kernel), trivial, trivial⟩, Or.inr ⟨1, d103_22, rfl, rfl, am_eq9 (by decide +kernel), trivial, trivial⟩, Or.inr ⟨3, d103_23, rfl, rfl, trivial, trivial, Or.inr ⟨by decide, okM_97, aw_1017, Or.inl ⟨rfl, aw_1016⟩⟩⟩, Or.inr ⟨3, d103_26, rfl, rfl, rfl, trivial, trivial⟩, Or.inr ⟨1, d103_29, rfl, rfl, am_eq9 (by decide +kernel), trivial, trivial⟩, Or.inr ⟨3, d103_30, rfl, rfl, rfl, trivial, trivial⟩, Or.inr ⟨1, d103_33, rfl, rfl, am_eq9 (by decide +kernel), trivial, trivial⟩, Or.inr ⟨1, d103_34, rfl, rfl, trivial, trivial, trivial⟩, trivial⟩
theorem v103 : ∀ pc, am_V9 103 pc ((am_G 103).2.2.2.2.1 pc) := am_all_lc am_V9_0 _ ⟨v103_0, trivial⟩
theorem d104_0 : decode cX8_cell 0 = .ok (.iload_n 0, 1) := by decide +kernel
theorem d104_1 : decode cX8_cell 1 = .ok (.bipush 16, 2) := by decide +kernel
theorem d104_3 : decode cX8_cell 3 = .ok (.iload_n 1, 1) := by decide +kernel
theorem d104_4 : decode cX8_cell 4 = .ok (.imul, 1) := by decide +kernel
theorem d104_5 : decode cX8_cell 5 = .ok (.iadd, 1) := by decide +kernel
theorem d104_6 : decode cX8_cell 6 = .ok (.sipush 192, 3) := by decide +kernel
theorem d104_9 : decode cX8_cell 9 = .ok (.iload_n 2, 1) := by decide +kernel
theorem d104_10 : decode cX8_cell 10 = .ok (.imul, 1) := by decide +kernel
theorem d104_11 : decode cX8_cell 11 = .ok (.iadd, 1) := by decide +kernel
theorem d104_12 : decode cX8_cell 12 = .ok (.ireturn, 1) := by decide +kernel
theorem v104_0 : am_all (am_V9 104) am_l104_0 := ⟨Or.inr ⟨1, d104_0, rfl, rfl, rfl, trivial, trivial⟩, Or.inr ⟨2, d104_1, rfl, rfl, am_eq9 (by decide +kernel), trivial, trivial⟩, Or.inr ⟨1, d104_3, rfl, rfl, rfl, trivial, trivial⟩, Or.inr ⟨1, d104_4, rfl, rfl, trivial, trivial, trivial⟩, Or.inr ⟨1, d104_5, rfl, rfl, trivial, trivial, trivial⟩, Or.inr ⟨3, d104_6, rfl, rfl, am_eq9 (by decide +kernel), trivial, trivial⟩, Or.inr ⟨1, d104_9, rfl, rfl, rfl, trivial, trivial⟩, Or.inr ⟨1, d104_10, rfl, rfl, trivial, trivial, trivial⟩, Or.inr ⟨1, d104_11, rfl, rfl, trivial, trivial, trivial⟩, Or.inr ⟨1, d104_12, rfl, rfl, trivial, trivial, trivial⟩, trivial⟩
theorem v104 : ∀ pc, am_V9 104 pc ((am_G 104).2.2.2.2.1 pc) := am_all_lc am_V9_0 _ ⟨v104_0, trivial⟩
theorem d105_0 : decode cX8_setFixture 0 = .ok (.aload_n 0, 1) := by decide +kernel
theorem d105_1 : decode cX8_setFixture 1 = .ok (.iload_n 1, 1) := by decide +kernel
theorem d105_2 : decode cX8_setFixture 2 = .ok (.iload_n 2, 1) := by decide +kernel
theorem d105_3 : decode cX8_setFixture 3 = .ok (.iload_n 3, 1) := by decide +kernel
theorem d105_4 : decode cX8_setFixture 4 = .ok (.invokestatic 108, 3) := by decide +kernel
theorem d105_7 : decode cX8_setFixture 7 = .ok (.invokevirtual 111, 3) := by decide +kernel
theorem d105_10 : decode cX8_setFixture 10 = .ok (.ifCond .le 5, 3) := by decide +kernel
theorem d105_13 : decode cX8_setFixture 13 = .ok (.iconst 0, 1) := by decide +kernel
theorem d105_14 : decode cX8_setFixture 14 = .ok (.ireturn, 1) := by decide +kernel
theorem d105_15 : decode cX8_setFixture 15 = .ok (.aload_n 0, 1) := by decide +kernel
theorem d105_16 : decode cX8_setFixture 16 = .ok (.getfield 50, 3) := by decide +kernel
theorem d105_19 : decode cX8_setFixture 19 = .ok (.iload_n 1, 1) := by decide +kernel
theorem d105_20 : decode cX8_setFixture 20 = .ok (.iload_n 2, 1) := by decide +kernel
theorem d105_21 : decode cX8_setFixture 21 = .ok (.iload_n 3, 1) := by decide +kernel
theorem d105_22 : decode cX8_setFixture 22 = .ok (.invokestatic 115, 3) := by decide +kernel
theorem d105_25 : decode cX8_setFixture 25 = .ok (.baload, 1) := by decide +kernel
theorem d105_26 : decode cX8_setFixture 26 = .ok (.istore 5, 2) := by decide +kernel
theorem d105_28 : decode cX8_setFixture 28 = .ok (.aload_n 0, 1) := by decide +kernel
theorem d105_29 : decode cX8_setFixture 29 = .ok (.getfield 50, 3) := by decide +kernel
theorem d105_32 : decode cX8_setFixture 32 = .ok (.iload_n 1, 1) := by decide +kernel
theorem d105_33 : decode cX8_setFixture 33 = .ok (.iload_n 2, 1) := by decide +kernel
theorem d105_34 : decode cX8_setFixture 34 = .ok (.iload_n 3, 1) := by decide +kernel
theorem d105_35 : decode cX8_setFixture 35 = .ok (.invokestatic 115, 3) := by decide +kernel
theorem d105_38 : decode cX8_setFixture 38 = .ok (.iload 4, 2) := by decide +kernel
theorem d105_40 : decode cX8_setFixture 40 = .ok (.bastore, 1) := by decide +kernel
theorem d105_41 : decode cX8_setFixture 41 = .ok (.aload_n 0, 1) := by decide +kernel
theorem d105_42 : decode cX8_setFixture 42 = .ok (.invokevirtual 97, 3) := by decide +kernel
theorem d105_45 : decode cX8_setFixture 45 = .ok (.iload 5, 2) := by decide +kernel
theorem d105_47 : decode cX8_setFixture 47 = .ok (.ireturn, 1) := by decide +kernel
theorem v105_0 : am_all (am_V9 105) am_l105_0 := ⟨Or.inr ⟨1, d105_0, rfl, rfl, rfl, trivial, trivial⟩, Or.inr ⟨1, d105_1, rfl, rfl, rfl, trivial, trivial⟩, Or.inr ⟨1, d105_2, rfl, rfl, rfl, trivial, trivial⟩, Or.inr ⟨1, d105_3, rfl, rfl, rfl, trivial, trivial⟩, Or.inr ⟨3, d105_4, rfl, rfl, trivial, trivial, Or.inr ⟨by decide, okM_103, aw_1024, Or.inl ⟨rfl, aw_1023⟩⟩⟩, Or.inr ⟨3, d105_7, rfl, rfl, trivial, trivial, ⟨by decide, ⟨_, TX8, 27, rfl, okM_99, rfl⟩, aw_1026, aw_1028, as_99⟩⟩, Or.inr ⟨3, d105_10, rfl, rfl, rfl, trivial, trivial⟩, Or.inr ⟨1, d105_13, rfl, rfl, am_eq9 (by decide +kernel), trivial, trivial⟩, Or.inr ⟨1, d105_14, rfl, rfl, trivial, trivial, trivial⟩, Or.inr ⟨1, d105_15, rfl, rfl, rfl, trivial, trivial⟩, Or.inr ⟨3, d105_16, rfl, rfl, trivial, ⟨RX8, TX8, 27, rfl, by decide, Or.inl aw_935⟩, trivial⟩, Or.inr ⟨1, d105_19, rfl, rfl, rfl, trivial, trivial⟩, Or.inr ⟨1, d105_20, rfl, rfl, rfl, trivial, trivial⟩, Or.inr ⟨1, d105_21, rfl, rfl, rfl, trivial, trivial⟩, Or.inr ⟨3, d105_22, rfl, rfl, trivial, trivial, Or.inr ⟨by decide, okM_104, aw_1031, Or.inl ⟨rfl, aw_1030⟩⟩⟩, Or.inr ⟨1, d105_25, rfl, rfl, trivial, trivial, trivial⟩, Or.inr ⟨2, d105_26, rfl, rfl, rfl, trivial, trivial⟩, Or.inr ⟨1, d105_28, rfl, rfl, rfl, trivial, trivial⟩, Or.inr ⟨3, d105_29, rfl, rfl, trivial, ⟨RX8, TX8, 27, rfl, by decide, Or.inl aw_935⟩, trivial⟩, Or.inr ⟨1, d105_32, rfl, rfl, rfl, trivial, trivial⟩, Or.inr ⟨1, d105_33, rfl, rfl, rfl, trivial, trivial⟩, Or.inr ⟨1, d105_34, rfl, rfl, rfl, trivial, trivial⟩, Or.inr ⟨3, d105_35, rfl, rfl, trivial, trivial, Or.inr ⟨by decide, okM_104, aw_1031, Or.inl ⟨rfl, aw_1030⟩⟩⟩, Or.inr ⟨2, d105_38, rfl, rfl, rfl, trivial, trivial⟩, trivial⟩
theorem v105_1 : am_all (am_V9 105) am_l105_1 := ⟨Or.inr ⟨1, d105_40, rfl, rfl, trivial, trivial, trivial⟩, Or.inr ⟨1, d105_41, rfl, rfl, rfl, trivial, trivial⟩, Or.inr ⟨3, d105_42, rfl, rfl, trivial, trivial, ⟨by decide, ⟨_, TX8, 27, rfl, okM_100, rfl⟩, aw_918, aw_920, as_100⟩⟩, Or.inr ⟨2, d105_45, rfl, rfl, rfl, trivial, trivial⟩, Or.inr ⟨1, d105_47, rfl, rfl, trivial, trivial, trivial⟩, trivial⟩
theorem v105 : ∀ pc, am_V9 105 pc ((am_G 105).2.2.2.2.1 pc) := am_all_lc am_V9_0 _ ⟨v105_0, v105_1, trivial⟩
theorem d106_0 : decode cX8_setOffset 0 = .ok (.aload_n 0, 1) := by decide +kernel
theorem d106_1 : decode cX8_setOffset 1 = .ok (.iload_n 1, 1) := by decide +kernel
theorem d106_2 : decode cX8_setOffset 2 = .ok (.iconst 0, 1) := by decide +kernel
theorem d106_3 : decode cX8_setOffset 3 = .ok (.iconst 3, 1) := by decide +kernel
theorem d106_4 : decode cX8_setOffset 4 = .ok (.invokestatic 100, 3) := by decide +kernel
theorem d106_7 : decode cX8_setOffset 7 = .ok (.ifCond .eq 41, 3) := by decide +kernel
theorem d106_10 : decode cX8_setOffset 10 = .ok (.iload_n 2, 1) := by decide +kernel
theorem d106_11 : decode cX8_setOffset 11 = .ok (.bipush (-15), 2) := by decide +kernel
theorem d106_13 : decode cX8_setOffset 13 = .ok (.bipush 15, 2) := by decide +kernel
theorem d106_15 : decode cX8_setOffset 15 = .ok (.invokestatic 100, 3) := by decide +kernel
theorem d106_18 : decode cX8_setOffset 18 = .ok (.ifCond .eq 30, 3) := by decide +kernel
theorem d106_21 : decode cX8_setOffset 21 = .ok (.iload_n 3, 1) := by decide +kernel
theorem d106_22 : decode cX8_setOffset 22 = .ok (.bipush (-15), 2) := by decide +kernel
theorem d106_24 : decode cX8_setOffset 24 = .ok (.bipush 15, 2) := by decide +kernel
theorem d106_26 : decode cX8_setOffset 26 = .ok (.invokestatic 100, 3) := by decide +kernel
theorem d106_29 : decode cX8_setOffset 29 = .ok (.ifCond .eq 19, 3) := by decide +kernel
theorem d106_32 : decode cX8_setOffset 32 = .ok (.iload 4, 2) := by decide +kernel
theorem d106_34 : decode cX8_setOffset 34 = .ok (.bipush (-15), 2) := by decide +kernel
theorem d106_36 : decode cX8_setOffset 36 = .ok (.bipush 15, 2) := by decide +kernel
theorem d106_38 : decode cX8_setOffset 38 = .ok (.invokestatic 100, 3) := by decide +kernel
theorem d106_41 : decode cX8_setOffset 41 = .ok (.ifCond .eq 7, 3) := by decide +kernel
theorem d106_44 : decode cX8_setOffset 44 = .ok (.iconst 1, 1) := by decide +kernel
theorem d106_45 : decode cX8_setOffset 45 = .ok (.goto 4, 3) := by decide +kernel
theorem d106_48 : decode cX8_setOffset 48 = .ok (.iconst 0, 1) := by decide +kernel
theorem d106_49 : decode cX8_setOffset 49 = .ok (.invokevirtual 111, 3) := by decide +kernel
theorem d106_52 : decode cX8_setOffset 52 = .ok (.ifCond .le 5, 3) := by decide +kernel
theorem d106_55 : decode cX8_setOffset 55 = .ok (.iconst 0, 1) := by decide +kernel
theorem d106_56 : decode cX8_setOffset 56 = .ok (.ireturn, 1) := by decide +kernel
theorem d106_57 : decode cX8_setOffset 57 = .ok (.aload_n 0, 1) := by decide +kernel
theorem d106_58 : decode cX8_setOffset 58 = .ok (.getfield 41, 3) := by decide +kernel
theorem d106_61 : decode cX8_setOffset 61 = .ok (.iconst 3, 1) := by decide +kernel
theorem d106_62 : decode cX8_setOffset 62 = .ok (.iload_n 1, 1) := by decide +kernel
theorem d106_63 : decode cX8_setOffset 63 = .ok (.imul, 1) := by decide +kernel
theorem d106_64 : decode cX8_setOffset 64 = .ok (.iaload, 1) := by decide +kernel
theorem d106_65 : decode cX8_setOffset 65 = .ok (.istore 5, 2) := by decide +kernel
theorem d106_67 : decode cX8_setOffset 67 = .ok (.aload_n 0, 1) := by decide +kernel
theorem d106_68 : decode cX8_setOffset 68 = .ok (.getfield 41, 3) := by decide +kernel
theorem d106_71 : decode cX8_setOffset 71 = .ok (.iconst 3, 1) := by decide +kernel
theorem d106_72 : decode cX8_setOffset 72 = .ok (.iload_n 1, 1) := by decide +kernel
theorem d106_73 : decode cX8_setOffset 73 = .ok (.imul, 1) := by decide +kernel
theorem d106_74 : decode cX8_setOffset 74 = .ok (.iload_n 2, 1) := by decide +kernel
theorem d106_75 : decode cX8_setOffset 75 = .ok (.iastore, 1) := by decide +kernel
theorem d106_76 : decode cX8_setOffset 76 = .ok (.aload_n 0, 1) := by decide +kernel
theorem d106_77 : decode cX8_setOffset 77 = .ok (.getfield 41, 3) := by decide +kernel
theorem d106_80 : decode cX8_setOffset 80 = .ok (.iconst 3, 1) := by decide +kernel
theorem d106_81 : decode cX8_setOffset 81 = .ok (.iload_n 1, 1) := by decide +kernel
theorem d106_82 : decode cX8_setOffset 82 = .ok (.imul, 1) := by decide +kernel
theorem d106_83 : decode cX8_setOffset 83 = .ok (.iconst 1, 1) := by decide +kernel
theorem d106_84 : decode cX8_setOffset 84 = .ok (.iadd, 1) := by decide +kernel
theorem d106_85 : decode cX8_setOffset 85 = .ok (.iload_n 3, 1) := by decide +kernel
theorem d106_86 : decode cX8_setOffset 86 = .ok (.iastore, 1) := by decide +kernel
theorem d106_87 : decode cX8_setOffset 87 = .ok (.aload_n 0, 1) := by decide +kernel
theorem d106_88 : decode cX8_setOffset 88 = .ok (.getfield 41, 3) := by decide +kernel
theorem d106_91 : decode cX8_setOffset 91 = .ok (.iconst 3, 1) := by decide +kernel
theorem d106_92 : decode cX8_setOffset 92 = .ok (.iload_n 1, 1) := by decide +kernel
theorem d106_93 : decode cX8_setOffset 93 = .ok (.imul, 1) := by decide +kernel
theorem d106_94 : decode cX8_setOffset 94 = .ok (.iconst 2, 1) := by decide +kernel
theorem d106_95 : decode cX8_setOffset 95 = .ok (.iadd, 1) := by decide +kernel
theorem d106_96 : decode cX8_setOffset 96 = .ok (.iload 4, 2) := by decide +kernel
theorem d106_98 : decode cX8_setOffset 98 = .ok (.iastore, 1) := by decide +kernel
theorem d106_99 : decode cX8_setOffset 99 = .ok (.aload_n 0, 1) := by decide +kernel
theorem d106_100 : decode cX8_setOffset 100 = .ok (.invokevirtual 97, 3) := by decide +kernel
theorem d106_103 : decode cX8_setOffset 103 = .ok (.iload 5, 2) := by decide +kernel
theorem d106_105 : decode cX8_setOffset 105 = .ok (.ireturn, 1) := by decide +kernel
theorem v106_0 : am_all (am_V9 106) am_l106_0 := ⟨Or.inr ⟨1, d106_0, rfl, rfl, rfl, trivial, trivial⟩, Or.inr ⟨1, d106_1, rfl, rfl, rfl, trivial, trivial⟩, Or.inr ⟨1, d106_2, rfl, rfl, am_eq9 (by decide +kernel), trivial, trivial⟩, Or.inr ⟨1, d106_3, rfl, rfl, am_eq9 (by decide +kernel), trivial, trivial⟩, Or.inr ⟨3, d106_4, rfl, rfl, trivial, trivial, Or.inr ⟨by decide, okM_97, aw_1017, Or.inl ⟨rfl, aw_1016⟩⟩⟩, Or.inr ⟨3, d106_7, rfl, rfl, rfl, trivial, trivial⟩, Or.inr ⟨1, d106_10, rfl, rfl, rfl, trivial, trivial⟩, Or.inr ⟨2, d106_11, rfl, rfl, am_eq9 (by decide +kernel), trivial, trivial⟩, Or.inr ⟨2, d106_13, rfl, rfl, am_eq9 (by decide +kernel), trivial, trivial⟩, Or.inr ⟨3, d106_15, rfl, rfl, trivial, trivial, Or.inr ⟨by decide, okM_97, aw_1017, Or.inl ⟨rfl, aw_1016⟩⟩⟩, Or.inr ⟨3, d106_18, rfl, rfl, rfl, trivial, trivial⟩, Or.inr ⟨1, d106_21, rfl, rfl, rfl, trivial, trivial⟩, Or.inr ⟨2, d106_22, rfl, rfl, am_eq9 (by decide +kernel), trivial, trivial⟩, Or.inr ⟨2, d106_24, rfl, rfl, am_eq9 (by decide +kernel), trivial, trivial⟩, Or.inr ⟨3, d106_26, rfl, rfl, trivial, trivial, Or.inr ⟨by decide, okM_97, aw_1017, Or.inl ⟨rfl, aw_1016⟩⟩⟩, Or.inr ⟨3, d106_29, rfl, rfl, rfl, trivial, trivial⟩, Or.inr ⟨2, d106_32, rfl, rfl, rfl, trivial, trivial⟩, Or.inr ⟨2, d106_34, rfl, rfl, am_eq9 (by decide +kernel), trivial, trivial⟩, Or.inr ⟨2, d106_36, rfl, rfl, am_eq9 (by decide +kernel), trivial, trivial⟩, Or.inr ⟨3, d106_38, rfl, rfl, trivial, trivial, Or.inr ⟨by decide, okM_97, aw_1017, Or.inl ⟨rfl, aw_1016⟩⟩⟩, Or.inr ⟨3, d106_41, rfl, rfl, rfl, trivial, trivial⟩, Or.inr ⟨1, d106_44, rfl, rfl, am_eq9 (by decide +kernel), trivial, trivial⟩, Or.inr ⟨3, d106_45, rfl, rfl, rfl, trivial, trivial⟩, Or.inr ⟨1, d106_48, rfl, rfl, am_eq9 (by decide +kernel), trivial, trivial⟩, trivial⟩
theorem v106_1 : am_all (am_V9 106) am_l106_1 := ⟨Or.inr ⟨3, d106_49, rfl, rfl, trivial, trivial, ⟨by decide, ⟨_, TX8, 27, rfl, okM_99, rfl⟩, aw_1026, aw_1028, as_99⟩⟩, Or.inr ⟨3, d106_52, rfl, rfl, rfl, trivial, trivial⟩, Or.inr ⟨1, d106_55, rfl, rfl, am_eq9 (by decide +kernel), trivial, trivial⟩, Or.inr ⟨1, d106_56, rfl, rfl, trivial, trivial, trivial⟩, Or.inr ⟨1, d106_57, rfl, rfl, rfl, trivial, trivial⟩, Or.inr ⟨3, d106_58, rfl, rfl, trivial, ⟨RX8, TX8, 27, rfl, by decide, Or.inl aw_932⟩, trivial⟩, Or.inr ⟨1, d106_61, rfl, rfl, am_eq9 (by decide +kernel), trivial, trivial⟩, Or.inr ⟨1, d106_62, rfl, rfl, rfl, trivial, trivial⟩, Or.inr ⟨1, d106_63, rfl, rfl, trivial, trivial, trivial⟩, Or.inr ⟨1, d106_64, rfl, rfl, trivial, trivial, trivial⟩, Or.inr ⟨2, d106_65, rfl, rfl, rfl, trivial, trivial⟩, Or.inr ⟨1, d106_67, rfl, rfl, rfl, trivial, trivial⟩, Or.inr ⟨3, d106_68, rfl, rfl, trivial, ⟨RX8, TX8, 27, rfl, by decide, Or.inl aw_932⟩, trivial⟩, Or.inr ⟨1, d106_71, rfl, rfl, am_eq9 (by decide +kernel), trivial, trivial⟩, Or.inr ⟨1, d106_72, rfl, rfl, rfl, trivial, trivial⟩, Or.inr ⟨1, d106_73, rfl, rfl, trivial, trivial, trivial⟩, Or.inr ⟨1, d106_74, rfl, rfl, rfl, trivial, trivial⟩, Or.inr ⟨1, d106_75, rfl, rfl, trivial, trivial, trivial⟩, Or.inr ⟨1, d106_76, rfl, rfl, rfl, trivial, trivial⟩, Or.inr ⟨3, d106_77, rfl, rfl, trivial, ⟨RX8, TX8, 27, rfl, by decide, Or.inl aw_932⟩, trivial⟩, Or.inr ⟨1, d106_80, rfl, rfl, am_eq9 (by decide +kernel), trivial, trivial⟩, Or.inr ⟨1, d106_81, rfl, rfl, rfl, trivial, trivial⟩, Or.inr ⟨1, d106_82, rfl, rfl, trivial, trivial, trivial⟩, Or.inr ⟨1, d106_83, rfl, rfl, am_eq9 (by decide +kernel), trivial, trivial⟩, trivial⟩
theorem v106_2 : am_all (am_V9 106) am_l106_2 := ⟨Or.inr ⟨1, d106_84, rfl, rfl, trivial, trivial, trivial⟩, Or.inr ⟨1, d106_85, rfl, rfl, rfl, trivial, trivial⟩, Or.inr ⟨1, d106_86, rfl, rfl, trivial, trivial, trivial⟩, Or.inr ⟨1, d106_87, rfl, rfl, rfl, trivial, trivial⟩, Or.inr ⟨3, d106_88, rfl, rfl, trivial, ⟨RX8, TX8, 27, rfl, by decide, Or.inl aw_932⟩, trivial⟩, Or.inr ⟨1, d106_91, rfl, rfl, am_eq9 (by decide +kernel), trivial, trivial⟩, Or.inr ⟨1, d106_92, rfl, rfl, rfl, trivial, trivial⟩, Or.inr ⟨1, d106_93, rfl, rfl, trivial, trivial, trivial⟩, Or.inr ⟨1, d106_94, rfl, rfl, am_eq9 (by decide +kernel), trivial, trivial⟩, Or.inr ⟨1, d106_95, rfl, rfl, trivial, trivial, trivial⟩, Or.inr ⟨2, d106_96, rfl, rfl, rfl, trivial, trivial⟩, Or.inr ⟨1, d106_98, rfl, rfl, trivial, trivial, trivial⟩, Or.inr ⟨1, d106_99, rfl, rfl, rfl, trivial, trivial⟩, Or.inr ⟨3, d106_100, rfl, rfl, trivial, trivial, ⟨by decide, ⟨_, TX8, 27, rfl, okM_100, rfl⟩, aw_918, aw_920, as_100⟩⟩, Or.inr ⟨2, d106_103, rfl, rfl, rfl, trivial, trivial⟩, Or.inr ⟨1, d106_105, rfl, rfl, trivial, trivial, trivial⟩, trivial⟩
theorem v106 : ∀ pc, am_V9 106 pc ((am_G 106).2.2.2.2.1 pc) := am_all_lc am_V9_0 _ ⟨v106_0, v106_1, v106_2, trivial⟩
theorem d107_0 : decode cX8_isTerm 0 = .ok (.iload_n 0, 1) := by decide +kernel
theorem d107_1 : decode cX8_isTerm 1 = .ok (.bipush (-50), 2) := by decide +kernel
theorem d107_3 : decode cX8_isTerm 3 = .ok (.bipush 50, 2) := by decide +kernel
theorem d107_5 : decode cX8_isTerm 5 = .ok (.invokestatic 100, 3) := by decide +kernel
theorem d107_8 : decode cX8_isTerm 8 = .ok (.ifCond .ne 14, 3) := by decide +kernel
theorem d107_11 : decode cX8_isTerm 11 = .ok (.iload_n 0, 1) := by decide +kernel
theorem d107_12 : decode cX8_isTerm 12 = .ok (.bipush 100, 2) := by decide +kernel
theorem d107_14 : decode cX8_isTerm 14 = .ok (.bipush 107, 2) := by decide +kernel
theorem d107_16 : decode cX8_isTerm 16 = .ok (.invokestatic 100, 3) := by decide +kernel
theorem d107_19 : decode cX8_isTerm 19 = .ok (.ifCond .eq 7, 3) := by decide +kernel
theorem d107_22 : decode cX8_isTerm 22 = .ok (.iconst 1, 1) := by decide +kernel
theorem d107_23 : decode cX8_isTerm 23 = .ok (.goto 4, 3) := by decide +kernel
theorem d107_26 : decode cX8_isTerm 26 = .ok (.iconst 0, 1) := by decide +kernel
theorem d107_27 : decode cX8_isTerm 27 = .ok (.ireturn, 1) := by decide +kernel
theorem v107_0 : am_all (am_V9 107) am_l107_0 := ⟨Or.inr ⟨1, d107_0, rfl, rfl, rfl, trivial, trivial⟩, Or.inr ⟨2, d107_1, rfl, rfl, am_eq9 (by decide +kernel), trivial, trivial⟩, Or.inr ⟨2, d107_3, rfl, rfl, am_eq9 (by decide +kernel), trivial, trivial⟩, Or.inr ⟨3, d107_5, rfl, rfl, trivial, trivial, Or.inr ⟨by decide, okM_97, aw_1017, Or.inl ⟨rfl, aw_1016⟩⟩⟩, Or.inr ⟨3, d107_8, rfl, rfl, rfl, trivial, trivial⟩, Or.inr ⟨1, d107_11, rfl, rfl, rfl, trivial, trivial⟩, Or.inr ⟨2, d107_12, rfl, rfl, am_eq9 (by decide +kernel), trivial, trivial⟩, Or.inr ⟨2, d107_14, rfl, rfl, am_eq9 (by decide +kernel), trivial, trivial⟩, Or.inr ⟨3, d107_16, rfl, rfl, trivial, trivial, Or.inr ⟨by decide, okM_97, aw_1017, Or.inl ⟨rfl, aw_1016⟩⟩⟩, Or.inr ⟨3, d107_19, rfl, rfl, rfl, trivial, trivial⟩, Or.inr ⟨1, d107_22, rfl, rfl, am_eq9 (by decide +kernel), trivial, trivial⟩, Or.inr ⟨3, d107_23, rfl, rfl, rfl, trivial, trivial⟩, Or.inr ⟨1, d107_26, rfl, rfl, am_eq9 (by decide +kernel), trivial, trivial⟩, Or.inr ⟨1, d107_27, rfl, rfl, trivial, trivial, trivial⟩, trivial⟩
theorem v107 : ∀ pc, am_V9 107 pc ((am_G 107).2.2.2.2.1 pc) := am_all_lc am_V9_0 _ ⟨v107_0, trivial⟩
theorem d108_0 : decode cX8_isKind 0 = .ok (.iload_n 0, 1) := by decide +kernel
theorem d108_1 : decode cX8_isKind 1 = .ok (.bipush 103, 2) := by decide +kernel
theorem d108_3 : decode cX8_isKind 3 = .ok (.if_icmp .eq 27, 3) := by decide +kernel
theorem d108_6 : decode cX8_isKind 6 = .ok (.iload_n 0, 1) := by decide +kernel
theorem d108_7 : decode cX8_isKind 7 = .ok (.bipush 108, 2) := by decide +kernel
theorem d108_9 : decode cX8_isKind 9 = .ok (.if_icmp .eq 21, 3) := by decide +kernel
theorem d108_12 : decode cX8_isKind 12 = .ok (.iload_n 0, 1) := by decide +kernel
theorem d108_13 : decode cX8_isKind 13 = .ok (.bipush 100, 2) := by decide +kernel
theorem d108_15 : decode cX8_isKind 15 = .ok (.if_icmp .eq 15, 3) := by decide +kernel
theorem d108_18 : decode cX8_isKind 18 = .ok (.iload_n 0, 1) := by decide +kernel
theorem d108_19 : decode cX8_isKind 19 = .ok (.bipush 112, 2) := by decide +kernel
theorem d108_21 : decode cX8_isKind 21 = .ok (.if_icmp .eq 9, 3) := by decide +kernel
theorem d108_24 : decode cX8_isKind 24 = .ok (.iload_n 0, 1) := by decide +kernel
theorem d108_25 : decode cX8_isKind 25 = .ok (.bipush 116, 2) := by decide +kernel
theorem d108_27 : decode cX8_isKind 27 = .ok (.if_icmp .ne 5, 3) := by decide +kernel
theorem d108_30 : decode cX8_isKind 30 = .ok (.iconst 1, 1) := by decide +kernel
theorem d108_31 : decode cX8_isKind 31 = .ok (.ireturn, 1) := by decide +kernel
theorem d108_32 : decode cX8_isKind 32 = .ok (.iload_n 0, 1) := by decide +kernel
theorem d108_33 : decode cX8_isKind 33 = .ok (.bipush 115, 2) := by decide +kernel
theorem d108_35 : decode cX8_isKind 35 = .ok (.if_icmp .eq 27, 3) := by decide +kernel
theorem d108_38 : decode cX8_isKind 38 = .ok (.iload_n 0, 1) := by decide +kernel
theorem d108_39 : decode cX8_isKind 39 = .ok (.bipush 102, 2) := by decide +kernel
theorem d108_41 : decode cX8_isKind 41 = .ok (.if_icmp .eq 21, 3) := by decide +kernel
theorem d108_44 : decode cX8_isKind 44 = .ok (.iload_n 0, 1) := by decide +kernel
theorem d108_45 : decode cX8_isKind 45 = .ok (.bipush 109, 2) := by decide +kernel
theorem d108_47 : decode cX8_isKind 47 = .ok (.if_icmp .eq 15, 3) := by decide +kernel
theorem d108_50 : decode cX8_isKind 50 = .ok (.iload_n 0, 1) := by decide +kernel
theorem d108_51 : decode cX8_isKind 51 = .ok (.bipush 111, 2) := by decide +kernel
theorem d108_53 : decode cX8_isKind 53 = .ok (.if_icmp .eq 9, 3) := by decide +kernel
theorem d108_56 : decode cX8_isKind 56 = .ok (.iload_n 0, 1) := by decide +kernel
theorem d108_57 : decode cX8_isKind 57 = .ok (.bipush 118, 2) := by decide +kernel
theorem d108_59 : decode cX8_isKind 59 = .ok (.if_icmp .ne 5, 3) := by decide +kernel
theorem d108_62 : decode cX8_isKind 62 = .ok (.iconst 1, 1) := by decide +kernel
theorem d108_63 : decode cX8_isKind 63 = .ok (.ireturn, 1) := by decide +kernel
theorem d108_64 : decode cX8_isKind 64 = .ok (.iload_n 0, 1) := by decide +kernel
theorem d108_65 : decode cX8_isKind 65 = .ok (.bipush 120, 2) := by decide +kernel
theorem d108_67 : decode cX8_isKind 67 = .ok (.if_icmp .eq 27, 3) := by decide +kernel
theorem d108_70 : decode cX8_isKind 70 = .ok (.iload_n 0, 1) := by decide +kernel
theorem d108_71 : decode cX8_isKind 71 = .ok (.bipush 114, 2) := by decide +kernel
theorem d108_73 : decode cX8_isKind 73 = .ok (.if_icmp .eq 21, 3) := by decide +kernel
theorem d108_76 : decode cX8_isKind 76 = .ok (.iload_n 0, 1) := by decide +kernel
theorem d108_77 : decode cX8_isKind 77 = .ok (.bipush 105, 2) := by decide +kernel
theorem d108_79 : decode cX8_isKind 79 = .ok (.if_icmp .eq 15, 3) := by decide +kernel
theorem d108_82 : decode cX8_isKind 82 = .ok (.iload_n 0, 1) := by decide +kernel
theorem d108_83 : decode cX8_isKind 83 = .ok (.bipush 101, 2) := by decide +kernel
theorem d108_85 : decode cX8_isKind 85 = .ok (.if_icmp .eq 9, 3) := by decide +kernel
theorem d108_88 : decode cX8_isKind 88 = .ok (.iload_n 0, 1) := by decide +kernel
theorem d108_89 : decode cX8_isKind 89 = .ok (.bipush 113, 2) := by decide +kernel
theorem d108_91 : decode cX8_isKind 91 = .ok (.if_icmp .ne 7, 3) := by decide +kernel
theorem d108_94 : decode cX8_isKind 94 = .ok (.iconst 1, 1) := by decide +kernel
theorem d108_95 : decode cX8_isKind 95 = .ok (.goto 4, 3) := by decide +kernel
theorem d108_98 : decode cX8_isKind 98 = .ok (.iconst 0, 1) := by decide +kernel
theorem d108_99 : decode cX8_isKind 99 = .ok (.ireturn, 1) := by decide +kernel
theorem v108_0 : am_all (am_V9 108) am_l108_0 := ⟨Or.inr ⟨1, d108_0, rfl, rfl, rfl, trivial, trivial⟩, Or.inr ⟨2, d108_1, rfl, rfl, am_eq9 (by decide +kernel), trivial, trivial⟩, Or.inr ⟨3, d108_3, rfl, rfl, rfl, trivial, trivial⟩, Or.inr ⟨1, d108_6, rfl, rfl, rfl, trivial, trivial⟩, Or.inr ⟨2, d108_7, rfl, rfl, am_eq9 (by decide +kernel), trivial, trivial⟩, Or.inr ⟨3, d108_9, rfl, rfl, rfl, trivial, trivial⟩, Or.inr ⟨1, d108_12, rfl, rfl, rfl, trivial, trivial⟩, Or.inr ⟨2, d108_13, rfl, rfl, am_eq9 (by decide +kernel), trivial, trivial⟩, Or.inr ⟨3, d108_15, rfl, rfl, rfl, trivial, trivial⟩, Or.inr ⟨1, d108_18, rfl, rfl, rfl, trivial, trivial⟩, Or.inr ⟨2, d108_19, rfl, rfl, am_eq9 (by decide +kernel), trivial, trivial⟩, Or.inr ⟨3, d108_21, rfl, rfl, rfl, trivial, trivial⟩, Or.inr ⟨1, d108_24, rfl, rfl, rfl, trivial, trivial⟩, Or.inr ⟨2, d108_25, rfl, rfl, am_eq9 (by decide +kernel), trivial, trivial⟩, Or.inr ⟨3, d108_27, rfl, rfl, rfl, trivial, trivial⟩, Or.inr ⟨1, d108_30, rfl, rfl, am_eq9 (by decide +kernel), trivial, trivial⟩, Or.inr ⟨1, d108_31, rfl, rfl, trivial, trivial, trivial⟩, Or.inr ⟨1, d108_32, rfl, rfl, rfl, trivial, trivial⟩, Or.inr ⟨2, d108_33, rfl, rfl, am_eq9 (by decide +kernel), trivial, trivial⟩, Or.inr ⟨3, d108_35, rfl, rfl, rfl, trivial, trivial⟩, Or.inr ⟨1, d108_38, rfl, rfl, rfl, trivial, trivial⟩, Or.inr ⟨2, d108_39, rfl, rfl, am_eq9 (by decide +kernel), trivial, trivial⟩, Or.inr ⟨3, d108_41, rfl, rfl, rfl, trivial, trivial⟩, Or.inr ⟨1, d108_44, rfl, rfl, rfl, trivial, trivial⟩, trivial⟩
theorem v108_1 : am_all (am_V9 108) am_l108_1 := ⟨Or.inr ⟨2, d108_45, rfl, rfl, am_eq9 (by decide +kernel), trivial, trivial⟩, Or.inr ⟨3, d108_47, rfl, rfl, rfl, trivial, trivial⟩, Or.inr ⟨1, d108_50, rfl, rfl, rfl, trivial, trivial⟩, Or.inr ⟨2, d108_51, rfl, rfl, am_eq9 (by decide +kernel), trivial, trivial⟩, Or.inr ⟨3, d108_53, rfl, rfl, rfl, trivial, trivial⟩, Or.inr ⟨1, d108_56, rfl, rfl, rfl, trivial, trivial⟩, Or.inr ⟨2, d108_57, rfl, rfl, am_eq9 (by decide +kernel), trivial, trivial⟩, Or.inr ⟨3, d108_59, rfl, rfl, rfl, trivial, trivial⟩, Or.inr ⟨1, d108_62, rfl, rfl, am_eq9 (by decide +kernel), trivial, trivial⟩, Or.inr ⟨1, d108_63, rfl, rfl, trivial, trivial, trivial⟩, Or.inr ⟨1, d108_64, rfl, rfl, rfl, trivial, trivial⟩, Or.inr ⟨2, d108_65, rfl, rfl, am_eq9 (by decide +kernel), trivial, trivial⟩, Or.inr ⟨3, d108_67, rfl, rfl, rfl, trivial, trivial⟩, Or.inr ⟨1, d108_70, rfl, rfl, rfl, trivial, trivial⟩, Or.inr ⟨2, d108_71, rfl, rfl, am_eq9 (by decide +kernel), trivial, trivial⟩, Or.inr ⟨3, d108_73, rfl, rfl, rfl, trivial, trivial⟩, Or.inr ⟨1, d108_76, rfl, rfl, rfl, trivial, trivial⟩, Or.inr ⟨2, d108_77, rfl, rfl, am_eq9 (by decide +kernel), trivial, trivial⟩, Or.inr ⟨3, d108_79, rfl, rfl, rfl, trivial, trivial⟩, Or.inr ⟨1, d108_82, rfl, rfl, rfl, trivial, trivial⟩, Or.inr ⟨2, d108_83, rfl, rfl, am_eq9 (by decide +kernel), trivial, trivial⟩, Or.inr ⟨3, d108_85, rfl, rfl, rfl, trivial, trivial⟩, Or.inr ⟨1, d108_88, rfl, rfl, rfl, trivial, trivial⟩, Or.inr ⟨2, d108_89, rfl, rfl, am_eq9 (by decide +kernel), trivial, trivial⟩, trivial⟩
theorem v108_2 : am_all (am_V9 108) am_l108_2 := ⟨Or.inr ⟨3, d108_91, rfl, rfl, rfl, trivial, trivial⟩, Or.inr ⟨1, d108_94, rfl, rfl, am_eq9 (by decide +kernel), trivial, trivial⟩, Or.inr ⟨3, d108_95, rfl, rfl, rfl, trivial, trivial⟩, Or.inr ⟨1, d108_98, rfl, rfl, am_eq9 (by decide +kernel), trivial, trivial⟩, Or.inr ⟨1, d108_99, rfl, rfl, trivial, trivial, trivial⟩, trivial⟩
theorem v108 : ∀ pc, am_V9 108 pc ((am_G 108).2.2.2.2.1 pc) := am_all_lc am_V9_0 _ ⟨v108_0, v108_1, v108_2, trivial⟩
theorem d109_0 : decode cX8_addBlock 0 = .ok (.aload_n 0, 1) := by decide +kernel
theorem d109_1 : decode cX8_addBlock 1 = .ok (.iload_n 1, 1) := by decide +kernel
theorem d109_2 : decode cX8_addBlock 2 = .ok (.invokestatic 119, 3) := by decide +kernel
theorem d109_5 : decode cX8_addBlock 5 = .ok (.ifCond .eq 25, 3) := by decide +kernel
theorem d109_8 : decode cX8_addBlock 8 = .ok (.iload_n 2, 1) := by decide +kernel
theorem d109_9 : decode cX8_addBlock 9 = .ok (.invokestatic 123, 3) := by decide +kernel
theorem d109_12 : decode cX8_addBlock 12 = .ok (.ifCond .eq 18, 3) := by decide +kernel
theorem d109_15 : decode cX8_addBlock 15 = .ok (.iload_n 3, 1) := by decide +kernel
theorem d109_16 : decode cX8_addBlock 16 = .ok (.invokestatic 123, 3) := by decide +kernel
theorem d109_19 : decode cX8_addBlock 19 = .ok (.ifCond .eq 11, 3) := by decide +kernel
theorem d109_22 : decode cX8_addBlock 22 = .ok (.iload 4, 2) := by decide +kernel
theorem d109_24 : decode cX8_addBlock 24 = .ok (.invokestatic 123, 3) := by decide +kernel
theorem d109_27 : decode cX8_addBlock 27 = .ok (.ifCond .ne 7, 3) := by decide +kernel
theorem d109_30 : decode cX8_addBlock 30 = .ok (.iconst 1, 1) := by decide +kernel
theorem d109_31 : decode cX8_addBlock 31 = .ok (.goto 17, 3) := by decide +kernel
theorem d109_34 : decode cX8_addBlock 34 = .ok (.aload_n 0, 1) := by decide +kernel
theorem d109_35 : decode cX8_addBlock 35 = .ok (.getfield 61, 3) := by decide +kernel
theorem d109_38 : decode cX8_addBlock 38 = .ok (.bipush 64, 2) := by decide +kernel
theorem d109_40 : decode cX8_addBlock 40 = .ok (.if_icmp .ne 7, 3) := by decide +kernel
theorem d109_43 : decode cX8_addBlock 43 = .ok (.iconst 2, 1) := by decide +kernel
theorem d109_44 : decode cX8_addBlock 44 = .ok (.goto 4, 3) := by decide +kernel
theorem d109_47 : decode cX8_addBlock 47 = .ok (.iconst 0, 1) := by decide +kernel
theorem d109_48 : decode cX8_addBlock 48 = .ok (.putfield 57, 3) := by decide +kernel
theorem d109_51 : decode cX8_addBlock 51 = .ok (.aload_n 0, 1) := by decide +kernel
theorem d109_52 : decode cX8_addBlock 52 = .ok (.getfield 57, 3) := by decide +kernel
theorem d109_55 : decode cX8_addBlock 55 = .ok (.ifCond .le 5, 3) := by decide +kernel
theorem d109_58 : decode cX8_addBlock 58 = .ok (.iconst 0, 1) := by decide +kernel
theorem d109_59 : decode cX8_addBlock 59 = .ok (.ireturn, 1) := by decide +kernel
theorem d109_60 : decode cX8_addBlock 60 = .ok (.aload_n 0, 1) := by decide +kernel
theorem d109_61 : decode cX8_addBlock 61 = .ok (.getfield 13, 3) := by decide +kernel
theorem d109_64 : decode cX8_addBlock 64 = .ok (.aload_n 0, 1) := by decide +kernel
theorem d109_65 : decode cX8_addBlock 65 = .ok (.getfield 61, 3) := by decide +kernel
theorem d109_68 : decode cX8_addBlock 68 = .ok (.iload_n 1, 1) := by decide +kernel
theorem d109_69 : decode cX8_addBlock 69 = .ok (.castore, 1) := by decide +kernel
theorem d109_70 : decode cX8_addBlock 70 = .ok (.aload_n 0, 1) := by decide +kernel
theorem d109_71 : decode cX8_addBlock 71 = .ok (.getfield 26, 3) := by decide +kernel
theorem d109_74 : decode cX8_addBlock 74 = .ok (.aload_n 0, 1) := by decide +kernel
theorem d109_75 : decode cX8_addBlock 75 = .ok (.getfield 61, 3) := by decide +kernel
theorem d109_78 : decode cX8_addBlock 78 = .ok (.iload_n 2, 1) := by decide +kernel
theorem d109_79 : decode cX8_addBlock 79 = .ok (.iastore, 1) := by decide +kernel
theorem d109_80 : decode cX8_addBlock 80 = .ok (.aload_n 0, 1) := by decide +kernel
theorem d109_81 : decode cX8_addBlock 81 = .ok (.getfield 29, 3) := by decide +kernel
theorem d109_84 : decode cX8_addBlock 84 = .ok (.aload_n 0, 1) := by decide +kernel
theorem d109_85 : decode cX8_addBlock 85 = .ok (.getfield 61, 3) := by decide +kernel
theorem d109_88 : decode cX8_addBlock 88 = .ok (.iload_n 3, 1) := by decide +kernel
theorem d109_89 : decode cX8_addBlock 89 = .ok (.iastore, 1) := by decide +kernel
theorem d109_90 : decode cX8_addBlock 90 = .ok (.aload_n 0, 1) := by decide +kernel
theorem d109_91 : decode cX8_addBlock 91 = .ok (.getfield 32, 3) := by decide +kernel
theorem d109_94 : decode cX8_addBlock 94 = .ok (.aload_n 0, 1) := by decide +kernel
theorem d109_95 : decode cX8_addBlock 95 = .ok (.getfield 61, 3) := by decide +kernel
theorem d109_98 : decode cX8_addBlock 98 = .ok (.iload 4, 2) := by decide +kernel
theorem d109_100 : decode cX8_addBlock 100 = .ok (.iastore, 1) := by decide +kernel
theorem d109_101 : decode cX8_addBlock 101 = .ok (.aload_n 0, 1) := by decide +kernel
theorem d109_102 : decode cX8_addBlock 102 = .ok (.dup, 1) := by decide +kernel
theorem d109_103 : decode cX8_addBlock 103 = .ok (.getfield 61, 3) := by decide +kernel
theorem d109_106 : decode cX8_addBlock 106 = .ok (.iconst 1, 1) := by decide +kernel
theorem d109_107 : decode cX8_addBlock 107 = .ok (.iadd, 1) := by decide +kernel
theorem d109_108 : decode cX8_addBlock 108 = .ok (.putfield 61, 3) := by decide +kernel
theorem d109_111 : decode cX8_addBlock 111 = .ok (.aload_n 0, 1) := by decide +kernel
theorem d109_112 : decode cX8_addBlock 112 = .ok (.invokevirtual 97, 3) := by decide +kernel
theorem d109_115 : decode cX8_addBlock 115 = .ok (.aload_n 0, 1) := by decide +kernel
theorem d109_116 : decode cX8_addBlock 116 = .ok (.getfield 61, 3) := by decide +kernel
theorem d109_119 : decode cX8_addBlock 119 = .ok (.iconst 1, 1) := by decide +kernel
theorem d109_120 : decode cX8_addBlock 120 = .ok (.isub, 1) := by decide +kernel
theorem d109_121 : decode cX8_addBlock 121 = .ok (.ireturn, 1) := by decide +kernel
theorem v109_0 : am_all (am_V9 109) am_l109_0 := ⟨Or.inr ⟨1, d109_0, rfl, rfl, rfl, trivial, trivial⟩, Or.inr ⟨1, d109_1, rfl, rfl, rfl, trivial, trivial⟩, Or.inr ⟨3, d109_2, rfl, rfl, trivial, trivial, Or.inr ⟨by decide, okM_108, aw_1042, Or.inl ⟨rfl, aw_1041⟩⟩⟩, Or.inr ⟨3, d109_5, rfl, rfl, rfl, trivial, trivial⟩, Or.inr ⟨1, d109_8, rfl, rfl, rfl, trivial, trivial⟩, Or.inr ⟨3, d109_9, rfl, rfl, trivial, trivial, Or.inr ⟨by decide, okM_107, aw_1045, Or.inl ⟨rfl, aw_1044⟩⟩⟩, Or.inr ⟨3, d109_12, rfl, rfl, rfl, trivial, trivial⟩, Or.inr ⟨1, d109_15, rfl, rfl, rfl, trivial, trivial⟩, Or.inr ⟨3, d109_16, rfl, rfl, trivial, trivial, Or.inr ⟨by decide, okM_107, aw_1045, Or.inl ⟨rfl, aw_1044⟩⟩⟩, Or.inr ⟨3, d109_19, rfl, rfl, rfl, trivial, trivial⟩, Or.inr ⟨2, d109_22, rfl, rfl, rfl, trivial, trivial⟩, Or.inr ⟨3, d109_24, rfl, rfl, trivial, trivial, Or.inr ⟨by decide, okM_107, aw_1045, Or.inl ⟨rfl, aw_1044⟩⟩⟩, Or.inr ⟨3, d109_27, rfl, rfl, rfl, trivial, trivial⟩, Or.inr ⟨1, d109_30, rfl, rfl, am_eq9 (by decide +kernel), trivial, trivial⟩, Or.inr ⟨3, d109_31, rfl, rfl, rfl, trivial, trivial⟩, Or.inr ⟨1, d109_34, rfl, rfl, rfl, trivial, trivial⟩, Or.inr ⟨3, d109_35, rfl, rfl, trivial, ⟨RX8, TX8, 27, rfl, by decide, Or.inl aw_938⟩, trivial⟩, Or.inr ⟨2, d109_38, rfl, rfl, am_eq9 (by decide +kernel), trivial, trivial⟩, Or.inr ⟨3, d109_40, rfl, rfl, rfl, trivial, trivial⟩, Or.inr ⟨1, d109_43, rfl, rfl, am_eq9 (by decide +kernel), trivial, trivial⟩, Or.inr ⟨3, d109_44, rfl, rfl, rfl, trivial, trivial⟩, Or.inr ⟨1, d109_47, rfl, rfl, am_eq9 (by decide +kernel), trivial, trivial⟩, Or.inr ⟨3, d109_48, rfl, rfl, trivial, ⟨RX8, TX8, 27, rfl, by decide, aw_937, Or.inl rfl⟩, trivial⟩, Or.inr ⟨1, d109_51, rfl, rfl, rfl, trivial, trivial⟩, trivial⟩
theorem v109_1 : am_all (am_V9 109) am_l109_1 := ⟨Or.inr ⟨3, d109_52, rfl, rfl, trivial, ⟨RX8, TX8, 27, rfl, by decide, Or.inl aw_937⟩, trivial⟩, Or.inr ⟨3, d109_55, rfl, rfl, rfl, trivial, trivial⟩, Or.inr ⟨1, d109_58, rfl, rfl, am_eq9 (by decide +kernel), trivial, trivial⟩, Or.inr ⟨1, d109_59, rfl, rfl, trivial, trivial, trivial⟩, Or.inr ⟨1, d109_60, rfl, rfl, rfl, trivial, trivial⟩, Or.inr ⟨3, d109_61, rfl, rfl, trivial, ⟨RX8, TX8, 27, rfl, by decide, Or.inl aw_923⟩, trivial⟩, Or.inr ⟨1, d109_64, rfl, rfl, rfl, trivial, trivial⟩, Or.inr ⟨3, d109_65, rfl, rfl, trivial, ⟨RX8, TX8, 27, rfl, by decide, Or.inl aw_938⟩, trivial⟩, Or.inr ⟨1, d109_68, rfl, rfl, rfl, trivial, trivial⟩, Or.inr ⟨1, d109_69, rfl, rfl, trivial, trivial, trivial⟩, Or.inr ⟨1, d109_70, rfl, rfl, rfl, trivial, trivial⟩, Or.inr ⟨3, d109_71, rfl, rfl, trivial, ⟨RX8, TX8, 27, rfl, by decide, Or.inl aw_927⟩, trivial⟩, Or.inr ⟨1, d109_74, rfl, rfl, rfl, trivial, trivial⟩, Or.inr ⟨3, d109_75, rfl, rfl, trivial, ⟨RX8, TX8, 27, rfl, by decide, Or.inl aw_938⟩, trivial⟩, Or.inr ⟨1, d109_78, rfl, rfl, rfl, trivial, trivial⟩, Or.inr ⟨1, d109_79, rfl, rfl, trivial, trivial, trivial⟩, Or.inr ⟨1, d109_80, rfl, rfl, rfl, trivial, trivial⟩, Or.inr ⟨3, d109_81, rfl, rfl, trivial, ⟨RX8, TX8, 27, rfl, by decide, Or.inl aw_928⟩, trivial⟩, Or.inr ⟨1, d109_84, rfl, rfl, rfl, trivial, trivial⟩, Or.inr ⟨3, d109_85, rfl, rfl, trivial, ⟨RX8, TX8, 27, rfl, by decide, Or.inl aw_938⟩, trivial⟩, Or.inr ⟨1, d109_88, rfl, rfl, rfl, trivial, trivial⟩, Or.inr ⟨1, d109_89, rfl, rfl, trivial, trivial, trivial⟩, Or.inr ⟨1, d109_90, rfl, rfl, rfl, trivial, trivial⟩, Or.inr ⟨3, d109_91, rfl, rfl, trivial, ⟨RX8, TX8, 27, rfl, by decide, Or.inl aw_929⟩, trivial⟩, trivial⟩
theorem v109_2 : am_all (am_V9 109) am_l109_2 := ⟨Or.inr ⟨1, d109_94, rfl, rfl, rfl, trivial, trivial⟩, Or.inr ⟨3, d109_95, rfl, rfl, trivial, ⟨RX8, TX8, 27, rfl, by decide, Or.inl aw_938⟩, trivial⟩, Or.inr ⟨2, d109_98, rfl, rfl, rfl, trivial, trivial⟩, Or.inr ⟨1, d109_100, rfl, rfl, trivial, trivial, trivial⟩, Or.inr ⟨1, d109_101, rfl, rfl, rfl, trivial, trivial⟩, Or.inr ⟨1, d109_102, rfl, rfl, trivial, trivial, trivial⟩, Or.inr ⟨3, d109_103, rfl, rfl, trivial, ⟨RX8, TX8, 27, rfl, by decide, Or.inl aw_938⟩, trivial⟩, Or.inr ⟨1, d109_106, rfl, rfl, am_eq9 (by decide +kernel), trivial, trivial⟩, Or.inr ⟨1, d109_107, rfl, rfl, trivial, trivial, trivial⟩, Or.inr ⟨3, d109_108, rfl, rfl, trivial, ⟨RX8, TX8, 27, rfl, by decide, aw_938, Or.inl rfl⟩, trivial⟩, Or.inr ⟨1, d109_111, rfl, rfl, rfl, trivial, trivial⟩, Or.inr ⟨3, d109_112, rfl, rfl, trivial, trivial, ⟨by decide, ⟨_, TX8, 27, rfl, okM_100, rfl⟩, aw_918, aw_920, as_100⟩⟩, Or.inr ⟨1, d109_115, rfl, rfl, rfl, trivial, trivial⟩, Or.inr ⟨3, d109_116, rfl, rfl, trivial, ⟨RX8, TX8, 27, rfl, by decide, Or.inl aw_938⟩, trivial⟩, Or.inr ⟨1, d109_119, rfl, rfl, am_eq9 (by decide +kernel), trivial, trivial⟩, Or.inr ⟨1, d109_120, rfl, rfl, trivial, trivial, trivial⟩, Or.inr ⟨1, d109_121, rfl, rfl, trivial, trivial, trivial⟩, trivial⟩
theorem v109 : ∀ pc, am_V9 109 pc ((am_G 109).2.2.2.2.1 pc) := am_all_lc am_V9_0 _ ⟨v109_0, v109_1, v109_2, trivial⟩
theorem d110_0 : decode cX8_dropBlock 0 = .ok (.aload_n 0, 1) := by decide +kernel
theorem d110_1 : decode cX8_dropBlock 1 = .ok (.aload_n 0, 1) := by decide +kernel
theorem d110_2 : decode cX8_dropBlock 2 = .ok (.getfield 61, 3) := by decide +kernel
theorem d110_5 : decode cX8_dropBlock 5 = .ok (.ifCond .le 7, 3) := by decide +kernel
theorem d110_8 : decode cX8_dropBlock 8 = .ok (.iconst 1, 1) := by decide +kernel
theorem d110_9 : decode cX8_dropBlock 9 = .ok (.goto 4, 3) := by decide +kernel
theorem d110_12 : decode cX8_dropBlock 12 = .ok (.iconst 0, 1) := by decide +kernel
theorem d110_13 : decode cX8_dropBlock 13 = .ok (.invokevirtual 111, 3) := by decide +kernel
theorem d110_16 : decode cX8_dropBlock 16 = .ok (.ifCond .le 5, 3) := by decide +kernel
theorem d110_19 : decode cX8_dropBlock 19 = .ok (.iconst 0, 1) := by decide +kernel
theorem d110_20 : decode cX8_dropBlock 20 = .ok (.ireturn, 1) := by decide +kernel
theorem d110_21 : decode cX8_dropBlock 21 = .ok (.aload_n 0, 1) := by decide +kernel
theorem d110_22 : decode cX8_dropBlock 22 = .ok (.dup, 1) := by decide +kernel
theorem d110_23 : decode cX8_dropBlock 23 = .ok (.getfield 61, 3) := by decide +kernel
theorem d110_26 : decode cX8_dropBlock 26 = .ok (.iconst 1, 1) := by decide +kernel
theorem d110_27 : decode cX8_dropBlock 27 = .ok (.isub, 1) := by decide +kernel
theorem d110_28 : decode cX8_dropBlock 28 = .ok (.putfield 61, 3) := by decide +kernel
theorem d110_31 : decode cX8_dropBlock 31 = .ok (.aload_n 0, 1) := by decide +kernel
theorem d110_32 : decode cX8_dropBlock 32 = .ok (.invokevirtual 97, 3) := by decide +kernel
theorem d110_35 : decode cX8_dropBlock 35 = .ok (.aload_n 0, 1) := by decide +kernel
theorem d110_36 : decode cX8_dropBlock 36 = .ok (.getfield 61, 3) := by decide +kernel
theorem d110_39 : decode cX8_dropBlock 39 = .ok (.ireturn, 1) := by decide +kernel
theorem v110_0 : am_all (am_V9 110) am_l110_0 := ⟨Or.inr ⟨1, d110_0, rfl, rfl, rfl, trivial, trivial⟩, Or.inr ⟨1, d110_1, rfl, rfl, rfl, trivial, trivial⟩, Or.inr ⟨3, d110_2, rfl, rfl, trivial, ⟨RX8, TX8, 27, rfl, by decide, Or.inl aw_938⟩, trivial⟩, Or.inr ⟨3, d110_5, rfl, rfl, rfl, trivial, trivial⟩, Or.inr ⟨1, d110_8, rfl, rfl, am_eq9 (by decide +kernel), trivial, trivial⟩, Or.inr ⟨3, d110_9, rfl, rfl, rfl, trivial, trivial⟩, Or.inr ⟨1, d110_12, rfl, rfl, am_eq9 (by decide +kernel), trivial, trivial⟩, Or.inr ⟨3, d110_13, rfl, rfl, trivial, trivial, ⟨by decide, ⟨_, TX8, 27, rfl, okM_99, rfl⟩, aw_1026, aw_1028, as_99⟩⟩, Or.inr ⟨3, d110_16, rfl, rfl, rfl, trivial, trivial⟩, Or.inr ⟨1, d110_19, rfl, rfl, am_eq9 (by decide +kernel), trivial, trivial⟩, Or.inr ⟨1, d110_20, rfl, rfl, trivial, trivial, trivial⟩, Or.inr ⟨1, d110_21, rfl, rfl, rfl, trivial, trivial⟩, Or.inr ⟨1, d110_22, rfl, rfl, trivial, trivial, trivial⟩, Or.inr ⟨3, d110_23, rfl, rfl, trivial, ⟨RX8, TX8, 27, rfl, by decide, Or.inl aw_938⟩, trivial⟩, Or.inr ⟨1, d110_26, rfl, rfl, am_eq9 (by decide +kernel), trivial, trivial⟩, Or.inr ⟨1, d110_27, rfl, rfl, trivial, trivial, trivial⟩, Or.inr ⟨3, d110_28, rfl, rfl, trivial, ⟨RX8, TX8, 27, rfl, by decide, aw_938, Or.inl rfl⟩, trivial⟩, Or.inr ⟨1, d110_31, rfl, rfl, rfl, trivial, trivial⟩, Or.inr ⟨3, d110_32, rfl, rfl, trivial, trivial, ⟨by decide, ⟨_, TX8, 27, rfl, okM_100, rfl⟩, aw_918, aw_920, as_100⟩⟩, Or.inr ⟨1, d110_35, rfl, rfl, rfl, trivial, trivial⟩, Or.inr ⟨3, d110_36, rfl, rfl, trivial, ⟨RX8, TX8, 27, rfl, by decide, Or.inl aw_938⟩, trivial⟩, Or.inr ⟨1, d110_39, rfl, rfl, trivial, trivial, trivial⟩, trivial⟩
theorem v110 : ∀ pc, am_V9 110 pc ((am_G 110).2.2.2.2.1 pc) := am_all_lc am_V9_0 _ ⟨v110_0, trivial⟩
theorem d111_0 : decode cX8_opens 0 = .ok (.aload_n 0, 1) := by decide +kernel
theorem d111_1 : decode cX8_opens 1 = .ok (.getfield 13, 3) := by decide +kernel
theorem d111_4 : decode cX8_opens 4 = .ok (.iload_n 1, 1) := by decide +kernel
theorem d111_5 : decode cX8_opens 5 = .ok (.caload, 1) := by decide +kernel
theorem d111_6 : decode cX8_opens 6 = .ok (.bipush 114, 2) := by decide +kernel
theorem d111_8 : decode cX8_opens 8 = .ok (.if_icmp .eq 14, 3) := by decide +kernel
theorem d111_11 : decode cX8_opens 11 = .ok (.aload_n 0, 1) := by decide +kernel
theorem d111_12 : decode cX8_opens 12 = .ok (.getfield 13, 3) := by decide +kernel
theorem d111_15 : decode cX8_opens 15 = .ok (.iload_n 1, 1) := by decide +kernel
theorem d111_16 : decode cX8_opens 16 = .ok (.caload, 1) := by decide +kernel
theorem d111_17 : decode cX8_opens 17 = .ok (.bipush 105, 2) := by decide +kernel
theorem d111_19 : decode cX8_opens 19 = .ok (.if_icmp .ne 7, 3) := by decide +kernel
theorem d111_22 : decode cX8_opens 22 = .ok (.iconst 1, 1) := by decide +kernel
theorem d111_23 : decode cX8_opens 23 = .ok (.goto 4, 3) := by decide +kernel
theorem d111_26 : decode cX8_opens 26 = .ok (.iconst 0, 1) := by decide +kernel
theorem d111_27 : decode cX8_opens 27 = .ok (.ireturn, 1) := by decide +kernel
theorem v111_0 : am_all (am_V9 111) am_l111_0 := ⟨Or.inr ⟨1, d111_0, rfl, rfl, rfl, trivial, trivial⟩, Or.inr ⟨3, d111_1, rfl, rfl, trivial, ⟨RX8, TX8, 27, rfl, by decide, Or.inl aw_923⟩, trivial⟩, Or.inr ⟨1, d111_4, rfl, rfl, rfl, trivial, trivial⟩, Or.inr ⟨1, d111_5, rfl, rfl, trivial, trivial, trivial⟩, Or.inr ⟨2, d111_6, rfl, rfl, am_eq9 (by decide +kernel), trivial, trivial⟩, Or.inr ⟨3, d111_8, rfl, rfl, rfl, trivial, trivial⟩, Or.inr ⟨1, d111_11, rfl, rfl, rfl, trivial, trivial⟩, Or.inr ⟨3, d111_12, rfl, rfl, trivial, ⟨RX8, TX8, 27, rfl, by decide, Or.inl aw_923⟩, trivial⟩, Or.inr ⟨1, d111_15, rfl, rfl, rfl, trivial, trivial⟩, Or.inr ⟨1, d111_16, rfl, rfl, trivial, trivial, trivial⟩, Or.inr ⟨2, d111_17, rfl, rfl, am_eq9 (by decide +kernel), trivial, trivial⟩, Or.inr ⟨3, d111_19, rfl, rfl, rfl, trivial, trivial⟩, Or.inr ⟨1, d111_22, rfl, rfl, am_eq9 (by decide +kernel), trivial, trivial⟩, Or.inr ⟨3, d111_23, rfl, rfl, rfl, trivial, trivial⟩, Or.inr ⟨1, d111_26, rfl, rfl, am_eq9 (by decide +kernel), trivial, trivial⟩, Or.inr ⟨1, d111_27, rfl, rfl, trivial, trivial, trivial⟩, trivial⟩
theorem v111 : ∀ pc, am_V9 111 pc ((am_G 111).2.2.2.2.1 pc) := am_all_lc am_V9_0 _ ⟨v111_0, trivial⟩
theorem d112_0 : decode cX8_isWhole 0 = .ok (.iconst 0, 1) := by decide +kernel
theorem d112_1 : decode cX8_isWhole 1 = .ok (.istore_n 1, 1) := by decide +kernel
theorem d112_2 : decode cX8_isWhole 2 = .ok (.iconst 0, 1) := by decide +kernel
theorem d112_3 : decode cX8_isWhole 3 = .ok (.istore_n 2, 1) := by decide +kernel
theorem d112_4 : decode cX8_isWhole 4 = .ok (.iload_n 2, 1) := by decide +kernel
theorem d112_5 : decode cX8_isWhole 5 = .ok (.aload_n 0, 1) := by decide +kernel
theorem d112_6 : decode cX8_isWhole 6 = .ok (.getfield 61, 3) := by decide +kernel
theorem d112_9 : decode cX8_isWhole 9 = .ok (.if_icmp .ge 45, 3) := by decide +kernel
theorem d112_12 : decode cX8_isWhole 12 = .ok (.aload_n 0, 1) := by decide +kernel
theorem d112_13 : decode cX8_isWhole 13 = .ok (.iload_n 2, 1) := by decide +kernel
theorem d112_14 : decode cX8_isWhole 14 = .ok (.invokevirtual 127, 3) := by decide +kernel
theorem d112_17 : decode cX8_isWhole 17 = .ok (.ifCond .eq 6, 3) := by decide +kernel
theorem d112_20 : decode cX8_isWhole 20 = .ok (.iinc 1 1, 3) := by decide +kernel
theorem d112_23 : decode cX8_isWhole 23 = .ok (.aload_n 0, 1) := by decide +kernel
theorem d112_24 : decode cX8_isWhole 24 = .ok (.getfield 13, 3) := by decide +kernel
theorem d112_27 : decode cX8_isWhole 27 = .ok (.iload_n 2, 1) := by decide +kernel
theorem d112_28 : decode cX8_isWhole 28 = .ok (.caload, 1) := by decide +kernel
theorem d112_29 : decode cX8_isWhole 29 = .ok (.bipush 101, 2) := by decide +kernel
theorem d112_31 : decode cX8_isWhole 31 = .ok (.if_icmp .ne 6, 3) := by decide +kernel
theorem d112_34 : decode cX8_isWhole 34 = .ok (.iinc 1 (-1), 3) := by decide +kernel
theorem d112_37 : decode cX8_isWhole 37 = .ok (.iload_n 1, 1) := by decide +kernel
theorem d112_38 : decode cX8_isWhole 38 = .ok (.ifCond .lt 8, 3) := by decide +kernel
theorem d112_41 : decode cX8_isWhole 41 = .ok (.iload_n 1, 1) := by decide +kernel
theorem d112_42 : decode cX8_isWhole 42 = .ok (.iconst 3, 1) := by decide +kernel
theorem d112_43 : decode cX8_isWhole 43 = .ok (.if_icmp .le 5, 3) := by decide +kernel
theorem d112_46 : decode cX8_isWhole 46 = .ok (.iconst 0, 1) := by decide +kernel
theorem d112_47 : decode cX8_isWhole 47 = .ok (.ireturn, 1) := by decide +kernel
theorem d112_48 : decode cX8_isWhole 48 = .ok (.iinc 2 1, 3) := by decide +kernel
theorem d112_51 : decode cX8_isWhole 51 = .ok (.goto (-47), 3) := by decide +kernel
theorem d112_54 : decode cX8_isWhole 54 = .ok (.iload_n 1, 1) := by decide +kernel
theorem d112_55 : decode cX8_isWhole 55 = .ok (.ifCond .ne 7, 3) := by decide +kernel
theorem d112_58 : decode cX8_isWhole 58 = .ok (.iconst 1, 1) := by decide +kernel
theorem d112_59 : decode cX8_isWhole 59 = .ok (.goto 4, 3) := by decide +kernel
theorem d112_62 : decode cX8_isWhole 62 = .ok (.iconst 0, 1) := by decide +kernel
theorem d112_63 : decode cX8_isWhole 63 = .ok (.ireturn, 1) := by decide +kernel
theorem v112_0 : am_all (am_V9 112) am_l112_0 := ⟨Or.inr ⟨1, d112_0, rfl, rfl, am_eq9 (by decide +kernel), trivial, trivial⟩, Or.inr ⟨1, d112_1, rfl, rfl, rfl, trivial, trivial⟩, Or.inr ⟨1, d112_2, rfl, rfl, am_eq9 (by decide +kernel), trivial, trivial⟩, Or.inr ⟨1, d112_3, rfl, rfl, rfl, trivial, trivial⟩, Or.inr ⟨1, d112_4, rfl, rfl, rfl, trivial, trivial⟩, Or.inr ⟨1, d112_5, rfl, rfl, rfl, trivial, trivial⟩, Or.inr ⟨3, d112_6, rfl, rfl, trivial, ⟨RX8, TX8, 27, rfl, by decide, Or.inl aw_938⟩, trivial⟩, Or.inr ⟨3, d112_9, rfl, rfl, rfl, trivial, trivial⟩, Or.inr ⟨1, d112_12, rfl, rfl, rfl, trivial, trivial⟩, Or.inr ⟨1, d112_13, rfl, rfl, rfl, trivial, trivial⟩, Or.inr ⟨3, d112_14, rfl, rfl, trivial, trivial, ⟨by decide, ⟨_, TX8, 27, rfl, okM_111, rfl⟩, aw_1059, aw_1061, as_111⟩⟩, Or.inr ⟨3, d112_17, rfl, rfl, rfl, trivial, trivial⟩, Or.inr ⟨3, d112_20, rfl, rfl, ⟨rfl, by decide⟩, trivial, trivial⟩, Or.inr ⟨1, d112_23, rfl, rfl, rfl, trivial, trivial⟩, Or.inr ⟨3, d112_24, rfl, rfl, trivial, ⟨RX8, TX8, 27, rfl, by decide, Or.inl aw_923⟩, trivial⟩, Or.inr ⟨1, d112_27, rfl, rfl, rfl, trivial, trivial⟩, Or.inr ⟨1, d112_28, rfl, rfl, trivial, trivial, trivial⟩, Or.inr ⟨2, d112_29, rfl, rfl, am_eq9 (by decide +kernel), trivial, trivial⟩, Or.inr ⟨3, d112_31, rfl, rfl, rfl, trivial, trivial⟩, Or.inr ⟨3, d112_34, rfl, rfl, ⟨rfl, by decide⟩, trivial, trivial⟩, Or.inr ⟨1, d112_37, rfl, rfl, rfl, trivial, trivial⟩, Or.inr ⟨3, d112_38, rfl, rfl, rfl, trivial, trivial⟩, Or.inr ⟨1, d112_41, rfl, rfl, rfl, trivial, trivial⟩, Or.inr ⟨1, d112_42, rfl, rfl, am_eq9 (by decide +kernel), trivial, trivial⟩, trivial⟩
theorem v112_1 : am_all (am_V9 112) am_l112_1 := ⟨Or.inr ⟨3, d112_43, rfl, rfl, rfl, trivial, trivial⟩, Or.inr ⟨1, d112_46, rfl, rfl, am_eq9 (by decide +kernel), trivial, trivial⟩, Or.inr ⟨1, d112_47, rfl, rfl, trivial, trivial, trivial⟩, Or.inr ⟨3, d112_48, rfl, rfl, ⟨rfl, by decide⟩, trivial, trivial⟩, Or.inr ⟨3, d112_51, rfl, rfl, rfl, trivial, trivial⟩, Or.inr ⟨1, d112_54, rfl, rfl, rfl, trivial, trivial⟩, Or.inr ⟨3, d112_55, rfl, rfl, rfl, trivial, trivial⟩, Or.inr ⟨1, d112_58, rfl, rfl, am_eq9 (by decide +kernel), trivial, trivial⟩, Or.inr ⟨3, d112_59, rfl, rfl, rfl, trivial, trivial⟩, Or.inr ⟨1, d112_62, rfl, rfl, am_eq9 (by decide +kernel), trivial, trivial⟩, Or.inr ⟨1, d112_63, rfl, rfl, trivial, trivial, trivial⟩, trivial⟩
theorem v112 : ∀ pc, am_V9 112 pc ((am_G 112).2.2.2.2.1 pc) := am_all_lc am_V9_0 _ ⟨v112_0, v112_1, trivial⟩
theorem d113_0 : decode cX8_isClosed 0 = .ok (.aload_n 0, 1) := by decide +kernel
theorem d113_1 : decode cX8_isClosed 1 = .ok (.iconst 0, 1) := by decide +kernel
theorem d113_2 : decode cX8_isClosed 2 = .ok (.putfield 57, 3) := by decide +kernel
theorem d113_5 : decode cX8_isClosed 5 = .ok (.aload_n 0, 1) := by decide +kernel
theorem d113_6 : decode cX8_isClosed 6 = .ok (.invokevirtual 130, 3) := by decide +kernel
theorem d113_9 : decode cX8_isClosed 9 = .ok (.ireturn, 1) := by decide +kernel
theorem v113_0 : am_all (am_V9 113) am_l113_0 := ⟨Or.inr ⟨1, d113_0, rfl, rfl, rfl, trivial, trivial⟩, Or.inr ⟨1, d113_1, rfl, rfl, am_eq9 (by decide +kernel), trivial, trivial⟩, Or.inr ⟨3, d113_2, rfl, rfl, trivial, ⟨RX8, TX8, 27, rfl, by decide, aw_937, Or.inl rfl⟩, trivial⟩, Or.inr ⟨1, d113_5, rfl, rfl, rfl, trivial, trivial⟩, Or.inr ⟨3, d113_6, rfl, rfl, trivial, trivial, ⟨by decide, ⟨_, TX8, 27, rfl, okM_112, rfl⟩, aw_1055, aw_1057, as_112⟩⟩, Or.inr ⟨1, d113_9, rfl, rfl, trivial, trivial, trivial⟩, trivial⟩
theorem v113 : ∀ pc, am_V9 113 pc ((am_G 113).2.2.2.2.1 pc) := am_all_lc am_V9_0 _ ⟨v113_0, trivial⟩
theorem d114_0 : decode cX8_closing 0 = .ok (.iconst 1, 1) := by decide +kernel
theorem d114_1 : decode cX8_closing 1 = .ok (.istore_n 2, 1) := by decide +kernel
theorem d114_2 : decode cX8_closing 2 = .ok (.iload_n 1, 1) := by decide +kernel
theorem d114_3 : decode cX8_closing 3 = .ok (.istore_n 3, 1) := by decide +kernel
theorem d114_4 : decode cX8_closing 4 = .ok (.iload_n 2, 1) := by decide +kernel
theorem d114_5 : decode cX8_closing 5 = .ok (.ifCond .le 40, 3) := by decide +kernel
theorem d114_8 : decode cX8_closing 8 = .ok (.iinc 3 1, 3) := by decide +kernel
theorem d114_11 : decode cX8_closing 11 = .ok (.iload_n 2, 1) := by decide +kernel
theorem d114_12 : decode cX8_closing 12 = .ok (.aload_n 0, 1) := by decide +kernel
theorem d114_13 : decode cX8_closing 13 = .ok (.iload_n 3, 1) := by decide +kernel
theorem d114_14 : decode cX8_closing 14 = .ok (.invokevirtual 127, 3) := by decide +kernel
theorem d114_17 : decode cX8_closing 17 = .ok (.ifCond .eq 7, 3) := by decide +kernel
theorem d114_20 : decode cX8_closing 20 = .ok (.iconst 1, 1) := by decide +kernel
theorem d114_21 : decode cX8_closing 21 = .ok (.goto 19, 3) := by decide +kernel
theorem d114_24 : decode cX8_closing 24 = .ok (.aload_n 0, 1) := by decide +kernel
theorem d114_25 : decode cX8_closing 25 = .ok (.getfield 13, 3) := by decide +kernel
theorem d114_28 : decode cX8_closing 28 = .ok (.iload_n 3, 1) := by decide +kernel
theorem d114_29 : decode cX8_closing 29 = .ok (.caload, 1) := by decide +kernel
theorem d114_30 : decode cX8_closing 30 = .ok (.bipush 101, 2) := by decide +kernel
theorem d114_32 : decode cX8_closing 32 = .ok (.if_icmp .ne 7, 3) := by decide +kernel
theorem d114_35 : decode cX8_closing 35 = .ok (.iconst (-1), 1) := by decide +kernel
theorem d114_36 : decode cX8_closing 36 = .ok (.goto 4, 3) := by decide +kernel
theorem d114_39 : decode cX8_closing 39 = .ok (.iconst 0, 1) := by decide +kernel
theorem d114_40 : decode cX8_closing 40 = .ok (.iadd, 1) := by decide +kernel
theorem d114_41 : decode cX8_closing 41 = .ok (.istore_n 2, 1) := by decide +kernel
theorem d114_42 : decode cX8_closing 42 = .ok (.goto (-38), 3) := by decide +kernel
theorem d114_45 : decode cX8_closing 45 = .ok (.iload_n 3, 1) := by decide +kernel
theorem d114_46 : decode cX8_closing 46 = .ok (.ireturn, 1) := by decide +kernel
theorem v114_0 : am_all (am_V9 114) am_l114_0 := ⟨Or.inr ⟨1, d114_0, rfl, rfl, am_eq9 (by decide +kernel), trivial, trivial⟩, Or.inr ⟨1, d114_1, rfl, rfl, rfl, trivial, trivial⟩, Or.inr ⟨1, d114_2, rfl, rfl, rfl, trivial, trivial⟩, Or.inr ⟨1, d114_3, rfl, rfl, rfl, trivial, trivial⟩, Or.inr ⟨1, d114_4, rfl, rfl, rfl, trivial, trivial⟩, Or.inr ⟨3, d114_5, rfl, rfl, rfl, trivial, trivial⟩, Or.inr ⟨3, d114_8, rfl, rfl, ⟨rfl, by decide⟩, trivial, trivial⟩, Or.inr ⟨1, d114_11, rfl, rfl, rfl, trivial, trivial⟩, Or.inr ⟨1, d114_12, rfl, rfl, rfl, trivial, trivial⟩, Or.inr ⟨1, d114_13, rfl, rfl, rfl, trivial, trivial⟩, Or.inr ⟨3, d114_14, rfl, rfl, trivial, trivial, ⟨by decide, ⟨_, TX8, 27, rfl, okM_111, rfl⟩, aw_1059, aw_1061, as_111⟩⟩, Or.inr ⟨3, d114_17, rfl, rfl, rfl, trivial, trivial⟩, Or.inr ⟨1, d114_20, rfl, rfl, am_eq9 (by decide +kernel), trivial, trivial⟩, Or.inr ⟨3, d114_21, rfl, rfl, rfl, trivial, trivial⟩, Or.inr ⟨1, d114_24, rfl, rfl, rfl, trivial, trivial⟩, Or.inr ⟨3, d114_25, rfl, rfl, trivial, ⟨RX8, TX8, 27, rfl, by decide, Or.inl aw_923⟩, trivial⟩, Or.inr ⟨1, d114_28, rfl, rfl, rfl, trivial, trivial⟩, Or.inr ⟨1, d114_29, rfl, rfl, trivial, trivial, trivial⟩, Or.inr ⟨2, d114_30, rfl, rfl, am_eq9 (by decide +kernel), trivial, trivial⟩, Or.inr ⟨3, d114_32, rfl, rfl, rfl, trivial, trivial⟩, Or.inr ⟨1, d114_35, rfl, rfl, am_eq9 (by decide +kernel), trivial, trivial⟩, Or.inr ⟨3, d114_36, rfl, rfl, rfl, trivial, trivial⟩, Or.inr ⟨1, d114_39, rfl, rfl, am_eq9 (by decide +kernel), trivial, trivial⟩, Or.inr ⟨1, d114_40, rfl, rfl, trivial, trivial, trivial⟩, trivial⟩
theorem v114_1 : am_all (am_V9 114) am_l114_1 := ⟨Or.inr ⟨1, d114_41, rfl, rfl, rfl, trivial, trivial⟩, Or.inr ⟨3, d114_42, rfl, rfl, rfl, trivial, trivial⟩, Or.inr ⟨1, d114_45, rfl, rfl, rfl, trivial, trivial⟩, Or.inr ⟨1, d114_46, rfl, rfl, trivial, trivial, trivial⟩, trivial⟩
theorem v114 : ∀ pc, am_V9 114 pc ((am_G 114).2.2.2.2.1 pc) := am_all_lc am_V9_0 _ ⟨v114_0, v114_1, trivial⟩
theorem d115_0 : decode cX8_opening 0 = .ok (.iconst 1, 1) := by decide +kernel
theorem d115_1 : decode cX8_opening 1 = .ok (.istore_n 2, 1) := by decide +kernel
theorem d115_2 : decode cX8_opening 2 = .ok (.iload_n 1, 1) := by decide +kernel
theorem d115_3 : decode cX8_opening 3 = .ok (.istore_n 3, 1) := by decide +kernel
theorem d115_4 : decode cX8_opening 4 = .ok (.iload_n 2, 1) := by decide +kernel
theorem d115_5 : decode cX8_opening 5 = .ok (.ifCond .le 40, 3) := by decide +kernel
theorem d115_8 : decode cX8_opening 8 = .ok (.iinc 3 (-1), 3) := by decide +kernel
theorem d115_11 : decode cX8_opening 11 = .ok (.iload_n 2, 1) := by decide +kernel
theorem d115_12 : decode cX8_opening 12 = .ok (.aload_n 0, 1) := by decide +kernel
theorem d115_13 : decode cX8_opening 13 = .ok (.getfield 13, 3) := by decide +kernel
theorem d115_16 : decode cX8_opening 16 = .ok (.iload_n 3, 1) := by decide +kernel
theorem d115_17 : decode cX8_opening 17 = .ok (.caload, 1) := by decide +kernel
theorem d115_18 : decode cX8_opening 18 = .ok (.bipush 101, 2) := by decide +kernel
theorem d115_20 : decode cX8_opening 20 = .ok (.if_icmp .ne 7, 3) := by decide +kernel
theorem d115_23 : decode cX8_opening 23 = .ok (.iconst 1, 1) := by decide +kernel
theorem d115_24 : decode cX8_opening 24 = .ok (.goto 16, 3) := by decide +kernel
theorem d115_27 : decode cX8_opening 27 = .ok (.aload_n 0, 1) := by decide +kernel
theorem d115_28 : decode cX8_opening 28 = .ok (.iload_n 3, 1) := by decide +kernel
theorem d115_29 : decode cX8_opening 29 = .ok (.invokevirtual 127, 3) := by decide +kernel
theorem d115_32 : decode cX8_opening 32 = .ok (.ifCond .eq 7, 3) := by decide +kernel
theorem d115_35 : decode cX8_opening 35 = .ok (.iconst (-1), 1) := by decide +kernel
theorem d115_36 : decode cX8_opening 36 = .ok (.goto 4, 3) := by decide +kernel
theorem d115_39 : decode cX8_opening 39 = .ok (.iconst 0, 1) := by decide +kernel
theorem d115_40 : decode cX8_opening 40 = .ok (.iadd, 1) := by decide +kernel
theorem d115_41 : decode cX8_opening 41 = .ok (.istore_n 2, 1) := by decide +kernel
theorem d115_42 : decode cX8_opening 42 = .ok (.goto (-38), 3) := by decide +kernel
theorem d115_45 : decode cX8_opening 45 = .ok (.iload_n 3, 1) := by decide +kernel
theorem d115_46 : decode cX8_opening 46 = .ok (.ireturn, 1) := by decide +kernel
theorem v115_0 : am_all (am_V9 115) am_l115_0 := ⟨Or.inr ⟨1, d115_0, rfl, rfl, am_eq9 (by decide +kernel), trivial, trivial⟩, Or.inr ⟨1, d115_1, rfl, rfl, rfl, trivial, trivial⟩, Or.inr ⟨1, d115_2, rfl, rfl, rfl, trivial, trivial⟩, Or.inr ⟨1, d115_3, rfl, rfl, rfl, trivial, trivial⟩, Or.inr ⟨1, d115_4, rfl, rfl, rfl, trivial, trivial⟩, Or.inr ⟨3, d115_5, rfl, rfl, rfl, trivial, trivial⟩, Or.inr ⟨3, d115_8, rfl, rfl, ⟨rfl, by decide⟩, trivial, trivial⟩, Or.inr ⟨1, d115_11, rfl, rfl, rfl, trivial, trivial⟩, Or.inr ⟨1, d115_12, rfl, rfl, rfl, trivial, trivial⟩, Or.inr ⟨3, d115_13, rfl, rfl, trivial, ⟨RX8, TX8, 27, rfl, by decide, Or.inl aw_923⟩, trivial⟩, Or.inr ⟨1, d115_16, rfl, rfl, rfl, trivial, trivial⟩, Or.inr ⟨1, d115_17, rfl, rfl, trivial, trivial, trivial⟩, Or.inr ⟨2, d115_18, rfl, rfl, am_eq9 (by decide +kernel), trivial, trivial⟩, Or.inr ⟨3, d115_20, rfl, rfl, rfl, trivial, trivial⟩, Or.inr ⟨1, d115_23, rfl, rfl, am_eq9 (by decide +kernel), trivial, trivial⟩, Or.inr ⟨3, d115_24, rfl, rfl, rfl, trivial, trivial⟩, Or.inr ⟨1, d115_27, rfl, rfl, rfl, trivial, trivial⟩, Or.inr ⟨1, d115_28, rfl, rfl, rfl, trivial, trivial⟩, Or.inr ⟨3, d115_29, rfl, rfl, trivial, trivial, ⟨by decide, ⟨_, TX8, 27, rfl, okM_111, rfl⟩, aw_1059, aw_1061, as_111⟩⟩, Or.inr ⟨3, d115_32, rfl, rfl, rfl, trivial, trivial⟩, Or.inr ⟨1, d115_35, rfl, rfl, am_eq9 (by decide +kernel), trivial, trivial⟩, Or.inr ⟨3, d115_36, rfl, rfl, rfl, trivial, trivial⟩, Or.inr ⟨1, d115_39, rfl, rfl, am_eq9 (by decide +kernel), trivial, trivial⟩, Or.inr ⟨1, d115_40, rfl, rfl, trivial, trivial, trivial⟩, trivial⟩
theorem v115_1 : am_all (am_V9 115) am_l115_1 := ⟨Or.inr ⟨1, d115_41, rfl, rfl, rfl, trivial, trivial⟩, Or.inr ⟨3, d115_42, rfl, rfl, rfl, trivial, trivial⟩, Or.inr ⟨1, d115_45, rfl, rfl, rfl, trivial, trivial⟩, Or.inr ⟨1, d115_46, rfl, rfl, trivial, trivial, trivial⟩, trivial⟩
theorem v115 : ∀ pc, am_V9 115 pc ((am_G 115).2.2.2.2.1 pc) := am_all_lc am_V9_0 _ ⟨v115_0, v115_1, trivial⟩
theorem d116_0 : decode cX8_reaches 0 = .ok (.iload_n 1, 1) := by decide +kernel
theorem d116_1 : decode cX8_reaches 1 = .ok (.iload_n 1, 1) := by decide +kernel
theorem d116_2 : decode cX8_reaches 2 = .ok (.imul, 1) := by decide +kernel
theorem d116_3 : decode cX8_reaches 3 = .ok (.iload_n 2, 1) := by decide +kernel
theorem d116_4 : decode cX8_reaches 4 = .ok (.iload_n 2, 1) := by decide +kernel
theorem d116_5 : decode cX8_reaches 5 = .ok (.imul, 1) := by decide +kernel
theorem d116_6 : decode cX8_reaches 6 = .ok (.iadd, 1) := by decide +kernel
theorem d116_7 : decode cX8_reaches 7 = .ok (.istore 4, 2) := by decide +kernel
theorem d116_9 : decode cX8_reaches 9 = .ok (.aload_n 0, 1) := by decide +kernel
theorem d116_10 : decode cX8_reaches 10 = .ok (.getfield 16, 3) := by decide +kernel
theorem d116_13 : decode cX8_reaches 13 = .ok (.aload_n 0, 1) := by decide +kernel
theorem d116_14 : decode cX8_reaches 14 = .ok (.getfield 70, 3) := by decide +kernel
theorem d116_17 : decode cX8_reaches 17 = .ok (.iaload, 1) := by decide +kernel
theorem d116_18 : decode cX8_reaches 18 = .ok (.istore 5, 2) := by decide +kernel
theorem d116_20 : decode cX8_reaches 20 = .ok (.iload_n 3, 1) := by decide +kernel
theorem d116_21 : decode cX8_reaches 21 = .ok (.ifCond .ge 5, 3) := by decide +kernel
theorem d116_24 : decode cX8_reaches 24 = .ok (.iconst 0, 1) := by decide +kernel
theorem d116_25 : decode cX8_reaches 25 = .ok (.ireturn, 1) := by decide +kernel
theorem d116_26 : decode cX8_reaches 26 = .ok (.aload_n 0, 1) := by decide +kernel
theorem d116_27 : decode cX8_reaches 27 = .ok (.getfield 7, 3) := by decide +kernel
theorem d116_30 : decode cX8_reaches 30 = .ok (.aload_n 0, 1) := by decide +kernel
theorem d116_31 : decode cX8_reaches 31 = .ok (.getfield 70, 3) := by decide +kernel
theorem d116_34 : decode cX8_reaches 34 = .ok (.caload, 1) := by decide +kernel
theorem d116_35 : decode cX8_reaches 35 = .ok (.bipush 101, 2) := by decide +kernel
theorem d116_37 : decode cX8_reaches 37 = .ok (.if_icmp .ne 19, 3) := by decide +kernel
theorem d116_40 : decode cX8_reaches 40 = .ok (.iload 4, 2) := by decide +kernel
theorem d116_42 : decode cX8_reaches 42 = .ok (.iload 5, 2) := by decide +kernel
theorem d116_44 : decode cX8_reaches 44 = .ok (.iload 5, 2) := by decide +kernel
theorem d116_46 : decode cX8_reaches 46 = .ok (.imul, 1) := by decide +kernel
theorem d116_47 : decode cX8_reaches 47 = .ok (.if_icmp .gt 7, 3) := by decide +kernel
theorem d116_50 : decode cX8_reaches 50 = .ok (.iconst 1, 1) := by decide +kernel
theorem d116_51 : decode cX8_reaches 51 = .ok (.goto 4, 3) := by decide +kernel
theorem d116_54 : decode cX8_reaches 54 = .ok (.iconst 0, 1) := by decide +kernel
theorem d116_55 : decode cX8_reaches 55 = .ok (.ireturn, 1) := by decide +kernel
theorem d116_56 : decode cX8_reaches 56 = .ok (.iload_n 3, 1) := by decide +kernel
theorem d116_57 : decode cX8_reaches 57 = .ok (.iload 5, 2) := by decide +kernel
theorem d116_59 : decode cX8_reaches 59 = .ok (.if_icmp .ge 7, 3) := by decide +kernel
theorem d116_62 : decode cX8_reaches 62 = .ok (.iload_n 3, 1) := by decide +kernel
theorem d116_63 : decode cX8_reaches 63 = .ok (.goto 5, 3) := by decide +kernel
theorem d116_66 : decode cX8_reaches 66 = .ok (.iload 5, 2) := by decide +kernel
theorem d116_68 : decode cX8_reaches 68 = .ok (.istore 6, 2) := by decide +kernel
theorem d116_70 : decode cX8_reaches 70 = .ok (.aload_n 0, 1) := by decide +kernel
theorem d116_71 : decode cX8_reaches 71 = .ok (.getfield 7, 3) := by decide +kernel
theorem d116_74 : decode cX8_reaches 74 = .ok (.aload_n 0, 1) := by decide +kernel
theorem d116_75 : decode cX8_reaches 75 = .ok (.getfield 70, 3) := by decide +kernel
theorem d116_78 : decode cX8_reaches 78 = .ok (.caload, 1) := by decide +kernel
theorem d116_79 : decode cX8_reaches 79 = .ok (.bipush 98, 2) := by decide +kernel
theorem d116_81 : decode cX8_reaches 81 = .ok (.if_icmp .ne 33, 3) := by decide +kernel
theorem d116_84 : decode cX8_reaches 84 = .ok (.iload 4, 2) := by decide +kernel
theorem d116_86 : decode cX8_reaches 86 = .ok (.iload 5, 2) := by decide +kernel
theorem d116_88 : decode cX8_reaches 88 = .ok (.iload 6, 2) := by decide +kernel
theorem d116_90 : decode cX8_reaches 90 = .ok (.isub, 1) := by decide +kernel
theorem d116_91 : decode cX8_reaches 91 = .ok (.iload 5, 2) := by decide +kernel
theorem d116_93 : decode cX8_reaches 93 = .ok (.iload 6, 2) := by decide +kernel
theorem d116_95 : decode cX8_reaches 95 = .ok (.isub, 1) := by decide +kernel
theorem d116_96 : decode cX8_reaches 96 = .ok (.imul, 1) := by decide +kernel
theorem d116_97 : decode cX8_reaches 97 = .ok (.iadd, 1) := by decide +kernel
theorem d116_98 : decode cX8_reaches 98 = .ok (.iload 5, 2) := by decide +kernel
theorem d116_100 : decode cX8_reaches 100 = .ok (.iload 5, 2) := by decide +kernel
theorem d116_102 : decode cX8_reaches 102 = .ok (.imul, 1) := by decide +kernel
theorem d116_103 : decode cX8_reaches 103 = .ok (.if_icmp .gt 7, 3) := by decide +kernel
theorem d116_106 : decode cX8_reaches 106 = .ok (.iconst 1, 1) := by decide +kernel
theorem d116_107 : decode cX8_reaches 107 = .ok (.goto 22, 3) := by decide +kernel
theorem d116_110 : decode cX8_reaches 110 = .ok (.iconst 0, 1) := by decide +kernel
theorem d116_111 : decode cX8_reaches 111 = .ok (.goto 18, 3) := by decide +kernel
theorem d116_114 : decode cX8_reaches 114 = .ok (.iload 4, 2) := by decide +kernel
theorem d116_116 : decode cX8_reaches 116 = .ok (.iload 6, 2) := by decide +kernel
theorem d116_118 : decode cX8_reaches 118 = .ok (.iload 6, 2) := by decide +kernel
theorem d116_120 : decode cX8_reaches 120 = .ok (.imul, 1) := by decide +kernel
theorem d116_121 : decode cX8_reaches 121 = .ok (.if_icmp .gt 7, 3) := by decide +kernel
theorem d116_124 : decode cX8_reaches 124 = .ok (.iconst 1, 1) := by decide +kernel
theorem d116_125 : decode cX8_reaches 125 = .ok (.goto 4, 3) := by decide +kernel
theorem d116_128 : decode cX8_reaches 128 = .ok (.iconst 0, 1) := by decide +kernel
theorem d116_129 : decode cX8_reaches 129 = .ok (.ireturn, 1) := by decide +kernel
theorem v116_0 : am_all (am_V9 116) am_l116_0 := ⟨Or.inr ⟨1, d116_0, rfl, rfl, rfl, trivial, trivial⟩, Or.inr ⟨1, d116_1, rfl, rfl, rfl, trivial, trivial⟩, Or.inr ⟨1, d116_2, rfl, rfl, trivial, trivial, trivial⟩, Or.inr ⟨1, d116_3, rfl, rfl, rfl, trivial, trivial⟩, Or.inr ⟨1, d116_4, rfl, rfl, rfl, trivial, trivial⟩, Or.inr ⟨1, d116_5, rfl, rfl, trivial, trivial, trivial⟩, Or.inr ⟨1, d116_6, rfl, rfl, trivial, trivial, trivial⟩, Or.inr ⟨2, d116_7, rfl, rfl, rfl, trivial, trivial⟩, Or.inr ⟨1, d116_9, rfl, rfl, rfl, trivial, trivial⟩, Or.inr ⟨3, d116_10, rfl, rfl, trivial, ⟨RX8, TX8, 27, rfl, by decide, Or.inl aw_924⟩, trivial⟩, Or.inr ⟨1, d116_13, rfl, rfl, rfl, trivial, trivial⟩, Or.inr ⟨3, d116_14, rfl, rfl, trivial, ⟨RX8, TX8, 27, rfl, by decide, Or.inl aw_941⟩, trivial⟩, Or.inr ⟨1, d116_17, rfl, rfl, trivial, trivial, trivial⟩, Or.inr ⟨2, d116_18, rfl, rfl, rfl, trivial, trivial⟩, Or.inr ⟨1, d116_20, rfl, rfl, rfl, trivial, trivial⟩, Or.inr ⟨3, d116_21, rfl, rfl, rfl, trivial, trivial⟩, Or.inr ⟨1, d116_24, rfl, rfl, am_eq9 (by decide +kernel), trivial, trivial⟩, Or.inr ⟨1, d116_25, rfl, rfl, trivial, trivial, trivial⟩, Or.inr ⟨1, d116_26, rfl, rfl, rfl, trivial, trivial⟩, Or.inr ⟨3, d116_27, rfl, rfl, trivial, ⟨RX8, TX8, 27, rfl, by decide, Or.inl aw_922⟩, trivial⟩, Or.inr ⟨1, d116_30, rfl, rfl, rfl, trivial, trivial⟩, Or.inr ⟨3, d116_31, rfl, rfl, trivial, ⟨RX8, TX8, 27, rfl, by decide, Or.inl aw_941⟩, trivial⟩, Or.inr ⟨1, d116_34, rfl, rfl, trivial, trivial, trivial⟩, Or.inr ⟨2, d116_35, rfl, rfl, am_eq9 (by decide +kernel), trivial, trivial⟩, trivial⟩
theorem v116_1 : am_all (am_V9 116) am_l116_1 := ⟨Or.inr ⟨3, d116_37, rfl, rfl, rfl, trivial, trivial⟩, Or.inr ⟨2, d116_40, rfl, rfl, rfl, trivial, trivial⟩, Or.inr ⟨2, d116_42, rfl, rfl, rfl, trivial, trivial⟩, Or.inr ⟨2, d116_44, rfl, rfl, rfl, trivial, trivial⟩, Or.inr ⟨1, d116_46, rfl, rfl, trivial, trivial, trivial⟩, Or.inr ⟨3, d116_47, rfl, rfl, rfl, trivial, trivial⟩, Or.inr ⟨1, d116_50, rfl, rfl, am_eq9 (by decide +kernel), trivial, trivial⟩, Or.inr ⟨3, d116_51, rfl, rfl, rfl, trivial, trivial⟩, Or.inr ⟨1, d116_54, rfl, rfl, am_eq9 (by decide +kernel), trivial, trivial⟩, Or.inr ⟨1, d116_55, rfl, rfl, trivial, trivial, trivial⟩, Or.inr ⟨1, d116_56, rfl, rfl, rfl, trivial, trivial⟩, Or.inr ⟨2, d116_57, rfl, rfl, rfl, trivial, trivial⟩, Or.inr ⟨3, d116_59, rfl, rfl, rfl, trivial, trivial⟩, Or.inr ⟨1, d116_62, rfl, rfl, rfl, trivial, trivial⟩, Or.inr ⟨3, d116_63, rfl, rfl, rfl, trivial, trivial⟩, Or.inr ⟨2, d116_66, rfl, rfl, rfl, trivial, trivial⟩, Or.inr ⟨2, d116_68, rfl, rfl, rfl, trivial, trivial⟩, Or.inr ⟨1, d116_70, rfl, rfl, rfl, trivial, trivial⟩, Or.inr ⟨3, d116_71, rfl, rfl, trivial, ⟨RX8, TX8, 27, rfl, by decide, Or.inl aw_922⟩, trivial⟩, Or.inr ⟨1, d116_74, rfl, rfl, rfl, trivial, trivial⟩, Or.inr ⟨3, d116_75, rfl, rfl, trivial, ⟨RX8, TX8, 27, rfl, by decide, Or.inl aw_941⟩, trivial⟩, Or.inr ⟨1, d116_78, rfl, rfl, trivial, trivial, trivial⟩, Or.inr ⟨2, d116_79, rfl, rfl, am_eq9 (by decide +kernel), trivial, trivial⟩, Or.inr ⟨3, d116_81, rfl, rfl, rfl, trivial, trivial⟩, trivial⟩
theorem v116_2 : am_all (am_V9 116) am_l116_2 := ⟨Or.inr ⟨2, d116_84, rfl, rfl, rfl, trivial, trivial⟩, Or.inr ⟨2, d116_86, rfl, rfl, rfl, trivial, trivial⟩, Or.inr ⟨2, d116_88, rfl, rfl, rfl, trivial, trivial⟩, Or.inr ⟨1, d116_90, rfl, rfl, trivial, trivial, trivial⟩, Or.inr ⟨2, d116_91, rfl, rfl, rfl, trivial, trivial⟩, Or.inr ⟨2, d116_93, rfl, rfl, rfl, trivial, trivial⟩, Or.inr ⟨1, d116_95, rfl, rfl, trivial, trivial, trivial⟩, Or.inr ⟨1, d116_96, rfl, rfl, trivial, trivial, trivial⟩, Or.inr ⟨1, d116_97, rfl, rfl, trivial, trivial, trivial⟩, Or.inr ⟨2, d116_98, rfl, rfl, rfl, trivial, trivial⟩, Or.inr ⟨2, d116_100, rfl, rfl, rfl, trivial, trivial⟩, Or.inr ⟨1, d116_102, rfl, rfl, trivial, trivial, trivial⟩, Or.inr ⟨3, d116_103, rfl, rfl, rfl, trivial, trivial⟩, Or.inr ⟨1, d116_106, rfl, rfl, am_eq9 (by decide +kernel), trivial, trivial⟩, Or.inr ⟨3, d116_107, rfl, rfl, rfl, trivial, trivial⟩, Or.inr ⟨1, d116_110, rfl, rfl, am_eq9 (by decide +kernel), trivial, trivial⟩, Or.inr ⟨3, d116_111, rfl, rfl, rfl, trivial, trivial⟩, Or.inr ⟨2, d116_114, rfl, rfl, rfl, trivial, trivial⟩, Or.inr ⟨2, d116_116, rfl, rfl, rfl, trivial, trivial⟩, Or.inr ⟨2, d116_118, rfl, rfl, rfl, trivial, trivial⟩, Or.inr ⟨1, d116_120, rfl, rfl, trivial, trivial, trivial⟩, Or.inr ⟨3, d116_121, rfl, rfl, rfl, trivial, trivial⟩, Or.inr ⟨1, d116_124, rfl, rfl, am_eq9 (by decide +kernel), trivial, trivial⟩, Or.inr ⟨3, d116_125, rfl, rfl, rfl, trivial, trivial⟩, trivial⟩
theorem v116_3 : am_all (am_V9 116) am_l116_3 := ⟨Or.inr ⟨1, d116_128, rfl, rfl, am_eq9 (by decide +kernel), trivial, trivial⟩, Or.inr ⟨1, d116_129, rfl, rfl, trivial, trivial, trivial⟩, trivial⟩
theorem v116 : ∀ pc, am_V9 116 pc ((am_G 116).2.2.2.2.1 pc) := am_all_lc am_V9_0 _ ⟨v116_0, v116_1, v116_2, v116_3, trivial⟩
theorem d117_0 : decode cX8_met 0 = .ok (.iconst 0, 1) := by decide +kernel
theorem d117_1 : decode cX8_met 1 = .ok (.istore 6, 2) := by decide +kernel
theorem d117_3 : decode cX8_met 3 = .ok (.iconst 0, 1) := by decide +kernel
theorem d117_4 : decode cX8_met 4 = .ok (.istore 7, 2) := by decide +kernel
theorem d117_6 : decode cX8_met 6 = .ok (.iload 7, 2) := by decide +kernel
theorem d117_8 : decode cX8_met 8 = .ok (.sipush 1152, 3) := by decide +kernel
theorem d117_11 : decode cX8_met 11 = .ok (.if_icmp .ge 100, 3) := by decide +kernel
theorem d117_14 : decode cX8_met 14 = .ok (.aload_n 0, 1) := by decide +kernel
theorem d117_15 : decode cX8_met 15 = .ok (.getfield 70, 3) := by decide +kernel
theorem d117_18 : decode cX8_met 18 = .ok (.ifCond .lt 93, 3) := by decide +kernel
theorem d117_21 : decode cX8_met 21 = .ok (.iload 4, 2) := by decide +kernel
theorem d117_23 : decode cX8_met 23 = .ok (.ifCond .eq 13, 3) := by decide +kernel
theorem d117_26 : decode cX8_met 26 = .ok (.aload_n 0, 1) := by decide +kernel
theorem d117_27 : decode cX8_met 27 = .ok (.getfield 54, 3) := by decide +kernel
theorem d117_30 : decode cX8_met 30 = .ok (.iload 7, 2) := by decide +kernel
theorem d117_32 : decode cX8_met 32 = .ok (.baload, 1) := by decide +kernel
theorem d117_33 : decode cX8_met 33 = .ok (.ifCond .eq 18, 3) := by decide +kernel
theorem d117_36 : decode cX8_met 36 = .ok (.iload 5, 2) := by decide +kernel
theorem d117_38 : decode cX8_met 38 = .ok (.ifCond .eq 17, 3) := by decide +kernel
theorem d117_41 : decode cX8_met 41 = .ok (.aload_n 0, 1) := by decide +kernel
theorem d117_42 : decode cX8_met 42 = .ok (.getfield 50, 3) := by decide +kernel
theorem d117_45 : decode cX8_met 45 = .ok (.iload 7, 2) := by decide +kernel
theorem d117_47 : decode cX8_met 47 = .ok (.baload, 1) := by decide +kernel
theorem d117_48 : decode cX8_met 48 = .ok (.ifCond .eq 7, 3) := by decide +kernel
theorem d117_51 : decode cX8_met 51 = .ok (.iconst 1, 1) := by decide +kernel
theorem d117_52 : decode cX8_met 52 = .ok (.goto 4, 3) := by decide +kernel
theorem d117_55 : decode cX8_met 55 = .ok (.iconst 0, 1) := by decide +kernel
theorem d117_56 : decode cX8_met 56 = .ok (.istore 8, 2) := by decide +kernel
theorem d117_58 : decode cX8_met 58 = .ok (.iload 6, 2) := by decide +kernel
theorem d117_60 : decode cX8_met 60 = .ok (.iload 8, 2) := by decide +kernel
theorem d117_62 : decode cX8_met 62 = .ok (.ifCond .eq 39, 3) := by decide +kernel
theorem d117_65 : decode cX8_met 65 = .ok (.aload_n 0, 1) := by decide +kernel
theorem d117_66 : decode cX8_met 66 = .ok (.iload 7, 2) := by decide +kernel
theorem d117_68 : decode cX8_met 68 = .ok (.bipush 16, 2) := by decide +kernel
theorem d117_70 : decode cX8_met 70 = .ok (.irem, 1) := by decide +kernel
theorem d117_71 : decode cX8_met 71 = .ok (.iload_n 1, 1) := by decide +kernel
theorem d117_72 : decode cX8_met 72 = .ok (.isub, 1) := by decide +kernel
theorem d117_73 : decode cX8_met 73 = .ok (.iload 7, 2) := by decide +kernel
theorem d117_75 : decode cX8_met 75 = .ok (.bipush 16, 2) := by decide +kernel
theorem d117_77 : decode cX8_met 77 = .ok (.idiv, 1) := by decide +kernel
theorem d117_78 : decode cX8_met 78 = .ok (.bipush 12, 2) := by decide +kernel
theorem d117_80 : decode cX8_met 80 = .ok (.irem, 1) := by decide +kernel
theorem d117_81 : decode cX8_met 81 = .ok (.iload_n 2, 1) := by decide +kernel
theorem d117_82 : decode cX8_met 82 = .ok (.isub, 1) := by decide +kernel
theorem d117_83 : decode cX8_met 83 = .ok (.iload 7, 2) := by decide +kernel
theorem d117_85 : decode cX8_met 85 = .ok (.sipush 192, 3) := by decide +kernel
theorem d117_88 : decode cX8_met 88 = .ok (.idiv, 1) := by decide +kernel
theorem d117_89 : decode cX8_met 89 = .ok (.iload_n 3, 1) := by decide +kernel
theorem d117_90 : decode cX8_met 90 = .ok (.isub, 1) := by decide +kernel
theorem d117_91 : decode cX8_met 91 = .ok (.invokevirtual 134, 3) := by decide +kernel
theorem d117_94 : decode cX8_met 94 = .ok (.ifCond .eq 7, 3) := by decide +kernel
theorem d117_97 : decode cX8_met 97 = .ok (.iconst 1, 1) := by decide +kernel
theorem d117_98 : decode cX8_met 98 = .ok (.goto 4, 3) := by decide +kernel
theorem d117_101 : decode cX8_met 101 = .ok (.iconst 0, 1) := by decide +kernel
theorem d117_102 : decode cX8_met 102 = .ok (.iadd, 1) := by decide +kernel
theorem d117_103 : decode cX8_met 103 = .ok (.istore 6, 2) := by decide +kernel
theorem d117_105 : decode cX8_met 105 = .ok (.iinc 7 1, 3) := by decide +kernel
theorem d117_108 : decode cX8_met 108 = .ok (.goto (-102), 3) := by decide +kernel
theorem d117_111 : decode cX8_met 111 = .ok (.iload 6, 2) := by decide +kernel
theorem d117_113 : decode cX8_met 113 = .ok (.ireturn, 1) := by decide +kernel
theorem v117_0 : am_all (am_V9 117) am_l117_0 := ⟨Or.inr ⟨1, d117_0, rfl, rfl, am_eq9 (by decide +kernel), trivial, trivial⟩, Or.inr ⟨2, d117_1, rfl, rfl, rfl, trivial, trivial⟩, Or.inr ⟨1, d117_3, rfl, rfl, am_eq9 (by decide +kernel), trivial, trivial⟩, Or.inr ⟨2, d117_4, rfl, rfl, rfl, trivial, trivial⟩, Or.inr ⟨2, d117_6, rfl, rfl, rfl, trivial, trivial⟩, Or.inr ⟨3, d117_8, rfl, rfl, am_eq9 (by decide +kernel), trivial, trivial⟩, Or.inr ⟨3, d117_11, rfl, rfl, rfl, trivial, trivial⟩, Or.inr ⟨1, d117_14, rfl, rfl, rfl, trivial, trivial⟩, Or.inr ⟨3, d117_15, rfl, rfl, trivial, ⟨RX8, TX8, 27, rfl, by decide, Or.inl aw_941⟩, trivial⟩, Or.inr ⟨3, d117_18, rfl, rfl, rfl, trivial, trivial⟩, Or.inr ⟨2, d117_21, rfl, rfl, rfl, trivial, trivial⟩, Or.inr ⟨3, d117_23, rfl, rfl, rfl, trivial, trivial⟩, Or.inr ⟨1, d117_26, rfl, rfl, rfl, trivial, trivial⟩, Or.inr ⟨3, d117_27, rfl, rfl, trivial, ⟨RX8, TX8, 27, rfl, by decide, Or.inl aw_936⟩, trivial⟩, Or.inr ⟨2, d117_30, rfl, rfl, rfl, trivial, trivial⟩, Or.inr ⟨1, d117_32, rfl, rfl, trivial, trivial, trivial⟩, Or.inr ⟨3, d117_33, rfl, rfl, rfl, trivial, trivial⟩, Or.inr ⟨2, d117_36, rfl, rfl, rfl, trivial, trivial⟩, Or.inr ⟨3, d117_38, rfl, rfl, rfl, trivial, trivial⟩, Or.inr ⟨1, d117_41, rfl, rfl, rfl, trivial, trivial⟩, Or.inr ⟨3, d117_42, rfl, rfl, trivial, ⟨RX8, TX8, 27, rfl, by decide, Or.inl aw_935⟩, trivial⟩, Or.inr ⟨2, d117_45, rfl, rfl, rfl, trivial, trivial⟩, Or.inr ⟨1, d117_47, rfl, rfl, trivial, trivial, trivial⟩, Or.inr ⟨3, d117_48, rfl, rfl, rfl, trivial, trivial⟩, trivial⟩
theorem v117_1 : am_all (am_V9 117) am_l117_1 := ⟨Or.inr ⟨1, d117_51, rfl, rfl, am_eq9 (by decide +kernel), trivial, trivial⟩, Or.inr ⟨3, d117_52, rfl, rfl, rfl, trivial, trivial⟩, Or.inr ⟨1, d117_55, rfl, rfl, am_eq9 (by decide +kernel), trivial, trivial⟩, Or.inr ⟨2, d117_56, rfl, rfl, rfl, trivial, trivial⟩, Or.inr ⟨2, d117_58, rfl, rfl, rfl, trivial, trivial⟩, Or.inr ⟨2, d117_60, rfl, rfl, rfl, trivial, trivial⟩, Or.inr ⟨3, d117_62, rfl, rfl, rfl, trivial, trivial⟩, Or.inr ⟨1, d117_65, rfl, rfl, rfl, trivial, trivial⟩, Or.inr ⟨2, d117_66, rfl, rfl, rfl, trivial, trivial⟩, Or.inr ⟨2, d117_68, rfl, rfl, am_eq9 (by decide +kernel), trivial, trivial⟩, Or.inr ⟨1, d117_70, rfl, rfl, trivial, trivial, trivial⟩, Or.inr ⟨1, d117_71, rfl, rfl, rfl, trivial, trivial⟩, Or.inr ⟨1, d117_72, rfl, rfl, trivial, trivial, trivial⟩, Or.inr ⟨2, d117_73, rfl, rfl, rfl, trivial, trivial⟩, Or.inr ⟨2, d117_75, rfl, rfl, am_eq9 (by decide +kernel), trivial, trivial⟩, Or.inr ⟨1, d117_77, rfl, rfl, trivial, trivial, trivial⟩, Or.inr ⟨2, d117_78, rfl, rfl, am_eq9 (by decide +kernel), trivial, trivial⟩, Or.inr ⟨1, d117_80, rfl, rfl, trivial, trivial, trivial⟩, Or.inr ⟨1, d117_81, rfl, rfl, rfl, trivial, trivial⟩, Or.inr ⟨1, d117_82, rfl, rfl, trivial, trivial, trivial⟩, Or.inr ⟨2, d117_83, rfl, rfl, rfl, trivial, trivial⟩, Or.inr ⟨3, d117_85, rfl, rfl, am_eq9 (by decide +kernel), trivial, trivial⟩, Or.inr ⟨1, d117_88, rfl, rfl, trivial, trivial, trivial⟩, Or.inr ⟨1, d117_89, rfl, rfl, rfl, trivial, trivial⟩, trivial⟩
theorem v117_2 : am_all (am_V9 117) am_l117_2 := ⟨Or.inr ⟨1, d117_90, rfl, rfl, trivial, trivial, trivial⟩, Or.inr ⟨3, d117_91, rfl, rfl, trivial, trivial, ⟨by decide, ⟨_, TX8, 27, rfl, okM_116, rfl⟩, aw_1105, aw_1107, as_116⟩⟩, Or.inr ⟨3, d117_94, rfl, rfl, rfl, trivial, trivial⟩, Or.inr ⟨1, d117_97, rfl, rfl, am_eq9 (by decide +kernel), trivial, trivial⟩, Or.inr ⟨3, d117_98, rfl, rfl, rfl, trivial, trivial⟩, Or.inr ⟨1, d117_101, rfl, rfl, am_eq9 (by decide +kernel), trivial, trivial⟩, Or.inr ⟨1, d117_102, rfl, rfl, trivial, trivial, trivial⟩, Or.inr ⟨2, d117_103, rfl, rfl, rfl, trivial, trivial⟩, Or.inr ⟨3, d117_105, rfl, rfl, ⟨rfl, by decide⟩, trivial, trivial⟩, Or.inr ⟨3, d117_108, rfl, rfl, rfl, trivial, trivial⟩, Or.inr ⟨2, d117_111, rfl, rfl, rfl, trivial, trivial⟩, Or.inr ⟨1, d117_113, rfl, rfl, trivial, trivial, trivial⟩, trivial⟩
theorem v117 : ∀ pc, am_V9 117 pc ((am_G 117).2.2.2.2.1 pc) := am_all_lc am_V9_0 _ ⟨v117_0, v117_1, v117_2, trivial⟩
theorem d118_0 : decode cX8_takes 0 = .ok (.iconst 0, 1) := by decide +kernel
theorem d118_1 : decode cX8_takes 1 = .ok (.istore 4, 2) := by decide +kernel
theorem d118_3 : decode cX8_takes 3 = .ok (.iload 4, 2) := by decide +kernel
theorem d118_5 : decode cX8_takes 5 = .ok (.sipush 1152, 3) := by decide +kernel
theorem d118_8 : decode cX8_takes 8 = .ok (.if_icmp .ge 75, 3) := by decide +kernel
theorem d118_11 : decode cX8_takes 11 = .ok (.aload_n 0, 1) := by decide +kernel
theorem d118_12 : decode cX8_takes 12 = .ok (.getfield 54, 3) := by decide +kernel
theorem d118_15 : decode cX8_takes 15 = .ok (.iload 4, 2) := by decide +kernel
theorem d118_17 : decode cX8_takes 17 = .ok (.baload, 1) := by decide +kernel
theorem d118_18 : decode cX8_takes 18 = .ok (.ifCond .ne 59, 3) := by decide +kernel
theorem d118_21 : decode cX8_takes 21 = .ok (.aload_n 0, 1) := by decide +kernel
theorem d118_22 : decode cX8_takes 22 = .ok (.iload 4, 2) := by decide +kernel
theorem d118_24 : decode cX8_takes 24 = .ok (.bipush 16, 2) := by decide +kernel
theorem d118_26 : decode cX8_takes 26 = .ok (.irem, 1) := by decide +kernel
theorem d118_27 : decode cX8_takes 27 = .ok (.iload_n 1, 1) := by decide +kernel
theorem d118_28 : decode cX8_takes 28 = .ok (.isub, 1) := by decide +kernel
theorem d118_29 : decode cX8_takes 29 = .ok (.iload 4, 2) := by decide +kernel
theorem d118_31 : decode cX8_takes 31 = .ok (.bipush 16, 2) := by decide +kernel
theorem d118_33 : decode cX8_takes 33 = .ok (.idiv, 1) := by decide +kernel
theorem d118_34 : decode cX8_takes 34 = .ok (.bipush 12, 2) := by decide +kernel
theorem d118_36 : decode cX8_takes 36 = .ok (.irem, 1) := by decide +kernel
theorem d118_37 : decode cX8_takes 37 = .ok (.iload_n 2, 1) := by decide +kernel
theorem d118_38 : decode cX8_takes 38 = .ok (.isub, 1) := by decide +kernel
theorem d118_39 : decode cX8_takes 39 = .ok (.iload 4, 2) := by decide +kernel
theorem d118_41 : decode cX8_takes 41 = .ok (.sipush 192, 3) := by decide +kernel
theorem d118_44 : decode cX8_takes 44 = .ok (.idiv, 1) := by decide +kernel
theorem d118_45 : decode cX8_takes 45 = .ok (.iload_n 3, 1) := by decide +kernel
theorem d118_46 : decode cX8_takes 46 = .ok (.isub, 1) := by decide +kernel
theorem d118_47 : decode cX8_takes 47 = .ok (.invokevirtual 134, 3) := by decide +kernel
theorem d118_50 : decode cX8_takes 50 = .ok (.ifCond .ne 6, 3) := by decide +kernel
theorem d118_53 : decode cX8_takes 53 = .ok (.goto 24, 3) := by decide +kernel
theorem d118_56 : decode cX8_takes 56 = .ok (.aload_n 0, 1) := by decide +kernel
theorem d118_57 : decode cX8_takes 57 = .ok (.getfield 54, 3) := by decide +kernel
theorem d118_60 : decode cX8_takes 60 = .ok (.iload 4, 2) := by decide +kernel
theorem d118_62 : decode cX8_takes 62 = .ok (.iconst 1, 1) := by decide +kernel
theorem d118_63 : decode cX8_takes 63 = .ok (.bastore, 1) := by decide +kernel
theorem d118_64 : decode cX8_takes 64 = .ok (.aload_n 0, 1) := by decide +kernel
theorem d118_65 : decode cX8_takes 65 = .ok (.getfield 23, 3) := by decide +kernel
theorem d118_68 : decode cX8_takes 68 = .ok (.aload_n 0, 1) := by decide +kernel
theorem d118_69 : decode cX8_takes 69 = .ok (.getfield 70, 3) := by decide +kernel
theorem d118_72 : decode cX8_takes 72 = .ok (.dup2, 1) := by decide +kernel
theorem d118_73 : decode cX8_takes 73 = .ok (.iaload, 1) := by decide +kernel
theorem d118_74 : decode cX8_takes 74 = .ok (.iconst 1, 1) := by decide +kernel
theorem d118_75 : decode cX8_takes 75 = .ok (.iadd, 1) := by decide +kernel
theorem d118_76 : decode cX8_takes 76 = .ok (.iastore, 1) := by decide +kernel
theorem d118_77 : decode cX8_takes 77 = .ok (.iinc 4 1, 3) := by decide +kernel
theorem d118_80 : decode cX8_takes 80 = .ok (.goto (-77), 3) := by decide +kernel
theorem d118_83 : decode cX8_takes 83 = .ok (.return_, 1) := by decide +kernel
theorem v118_0 : am_all (am_V9 118) am_l118_0 := ⟨Or.inr ⟨1, d118_0, rfl, rfl, am_eq9 (by decide +kernel), trivial, trivial⟩, Or.inr ⟨2, d118_1, rfl, rfl, rfl, trivial, trivial⟩, Or.inr ⟨2, d118_3, rfl, rfl, rfl, trivial, trivial⟩, Or.inr ⟨3, d118_5, rfl, rfl, am_eq9 (by decide +kernel), trivial, trivial⟩, Or.inr ⟨3, d118_8, rfl, rfl, rfl, trivial, trivial⟩, Or.inr ⟨1, d118_11, rfl, rfl, rfl, trivial, trivial⟩, Or.inr ⟨3, d118_12, rfl, rfl, trivial, ⟨RX8, TX8, 27, rfl, by decide, Or.inl aw_936⟩, trivial⟩, Or.inr ⟨2, d118_15, rfl, rfl, rfl, trivial, trivial⟩, Or.inr ⟨1, d118_17, rfl, rfl, trivial, trivial, trivial⟩, Or.inr ⟨3, d118_18, rfl, rfl, rfl, trivial, trivial⟩, Or.inr ⟨1, d118_21, rfl, rfl, rfl, trivial, trivial⟩, Or.inr ⟨2, d118_22, rfl, rfl, rfl, trivial, trivial⟩, Or.inr ⟨2, d118_24, rfl, rfl, am_eq9 (by decide +kernel), trivial, trivial⟩, Or.inr ⟨1, d118_26, rfl, rfl, trivial, trivial, trivial⟩, Or.inr ⟨1, d118_27, rfl, rfl, rfl, trivial, trivial⟩, Or.inr ⟨1, d118_28, rfl, rfl, trivial, trivial, trivial⟩, Or.inr ⟨2, d118_29, rfl, rfl, rfl, trivial, trivial⟩, Or.inr ⟨2, d118_31, rfl, rfl, am_eq9 (by decide +kernel), trivial, trivial⟩, Or.inr ⟨1, d118_33, rfl, rfl, trivial, trivial, trivial⟩, Or.inr ⟨2, d118_34, rfl, rfl, am_eq9 (by decide +kernel), trivial, trivial⟩, Or.inr ⟨1, d118_36, rfl, rfl, trivial, trivial, trivial⟩, Or.inr ⟨1, d118_37, rfl, rfl, rfl, trivial, trivial⟩, Or.inr ⟨1, d118_38, rfl, rfl, trivial, trivial, trivial⟩, Or.inr ⟨2, d118_39, rfl, rfl, rfl, trivial, trivial⟩, trivial⟩
theorem v118_1 : am_all (am_V9 118) am_l118_1 := ⟨Or.inr ⟨3, d118_41, rfl, rfl, am_eq9 (by decide +kernel), trivial, trivial⟩, Or.inr ⟨1, d118_44, rfl, rfl, trivial, trivial, trivial⟩, Or.inr ⟨1, d118_45, rfl, rfl, rfl, trivial, trivial⟩, Or.inr ⟨1, d118_46, rfl, rfl, trivial, trivial, trivial⟩, Or.inr ⟨3, d118_47, rfl, rfl, trivial, trivial, ⟨by decide, ⟨_, TX8, 27, rfl, okM_116, rfl⟩, aw_1105, aw_1107, as_116⟩⟩, Or.inr ⟨3, d118_50, rfl, rfl, rfl, trivial, trivial⟩, Or.inr ⟨3, d118_53, rfl, rfl, rfl, trivial, trivial⟩, Or.inr ⟨1, d118_56, rfl, rfl, rfl, trivial, trivial⟩, Or.inr ⟨3, d118_57, rfl, rfl, trivial, ⟨RX8, TX8, 27, rfl, by decide, Or.inl aw_936⟩, trivial⟩, Or.inr ⟨2, d118_60, rfl, rfl, rfl, trivial, trivial⟩, Or.inr ⟨1, d118_62, rfl, rfl, am_eq9 (by decide +kernel), trivial, trivial⟩, Or.inr ⟨1, d118_63, rfl, rfl, trivial, trivial, trivial⟩, Or.inr ⟨1, d118_64, rfl, rfl, rfl, trivial, trivial⟩, Or.inr ⟨3, d118_65, rfl, rfl, trivial, ⟨RX8, TX8, 27, rfl, by decide, Or.inl aw_926⟩, trivial⟩, Or.inr ⟨1, d118_68, rfl, rfl, rfl, trivial, trivial⟩, Or.inr ⟨3, d118_69, rfl, rfl, trivial, ⟨RX8, TX8, 27, rfl, by decide, Or.inl aw_941⟩, trivial⟩, Or.inr ⟨1, d118_72, rfl, rfl, trivial, trivial, trivial⟩, Or.inr ⟨1, d118_73, rfl, rfl, trivial, trivial, trivial⟩, Or.inr ⟨1, d118_74, rfl, rfl, am_eq9 (by decide +kernel), trivial, trivial⟩, Or.inr ⟨1, d118_75, rfl, rfl, trivial, trivial, trivial⟩, Or.inr ⟨1, d118_76, rfl, rfl, trivial, trivial, trivial⟩, Or.inr ⟨3, d118_77, rfl, rfl, ⟨rfl, by decide⟩, trivial, trivial⟩, Or.inr ⟨3, d118_80, rfl, rfl, rfl, trivial, trivial⟩, Or.inr ⟨1, d118_83, rfl, rfl, trivial, trivial, trivial⟩, trivial⟩
theorem v118 : ∀ pc, am_V9 118 pc ((am_G 118).2.2.2.2.1 pc) := am_all_lc am_V9_0 _ ⟨v118_0, v118_1, trivial⟩
theorem d119_0 : decode cX8_abs 0 = .ok (.iload_n 0, 1) := by decide +kernel
theorem d119_1 : decode cX8_abs 1 = .ok (.ifCond .ge 8, 3) := by decide +kernel
theorem d119_4 : decode cX8_abs 4 = .ok (.iload_n 0, 1) := by decide +kernel
theorem d119_5 : decode cX8_abs 5 = .ok (.ineg, 1) := by decide +kernel
theorem d119_6 : decode cX8_abs 6 = .ok (.goto 4, 3) := by decide +kernel
theorem d119_9 : decode cX8_abs 9 = .ok (.iload_n 0, 1) := by decide +kernel
theorem d119_10 : decode cX8_abs 10 = .ok (.ireturn, 1) := by decide +kernel
theorem v119_0 : am_all (am_V9 119) am_l119_0 := ⟨Or.inr ⟨1, d119_0, rfl, rfl, rfl, trivial, trivial⟩, Or.inr ⟨3, d119_1, rfl, rfl, rfl, trivial, trivial⟩, Or.inr ⟨1, d119_4, rfl, rfl, rfl, trivial, trivial⟩, Or.inr ⟨1, d119_5, rfl, rfl, trivial, trivial, trivial⟩, Or.inr ⟨3, d119_6, rfl, rfl, rfl, trivial, trivial⟩, Or.inr ⟨1, d119_9, rfl, rfl, rfl, trivial, trivial⟩, Or.inr ⟨1, d119_10, rfl, rfl, trivial, trivial, trivial⟩, trivial⟩
theorem v119 : ∀ pc, am_V9 119 pc ((am_G 119).2.2.2.2.1 pc) := am_all_lc am_V9_0 _ ⟨v119_0, trivial⟩
theorem d120_0 : decode cX8_greater 0 = .ok (.iload_n 0, 1) := by decide +kernel
theorem d120_1 : decode cX8_greater 1 = .ok (.iload_n 1, 1) := by decide +kernel
theorem d120_2 : decode cX8_greater 2 = .ok (.if_icmp .le 7, 3) := by decide +kernel
theorem d120_5 : decode cX8_greater 5 = .ok (.iload_n 0, 1) := by decide +kernel
theorem d120_6 : decode cX8_greater 6 = .ok (.goto 4, 3) := by decide +kernel
theorem d120_9 : decode cX8_greater 9 = .ok (.iload_n 1, 1) := by decide +kernel
theorem d120_10 : decode cX8_greater 10 = .ok (.ireturn, 1) := by decide +kernel
theorem v120_0 : am_all (am_V9 120) am_l120_0 := ⟨Or.inr ⟨1, d120_0, rfl, rfl, rfl, trivial, trivial⟩, Or.inr ⟨1, d120_1, rfl, rfl, rfl, trivial, trivial⟩, Or.inr ⟨3, d120_2, rfl, rfl, rfl, trivial, trivial⟩, Or.inr ⟨1, d120_5, rfl, rfl, rfl, trivial, trivial⟩, Or.inr ⟨3, d120_6, rfl, rfl, rfl, trivial, trivial⟩, Or.inr ⟨1, d120_9, rfl, rfl, rfl, trivial, trivial⟩, Or.inr ⟨1, d120_10, rfl, rfl, trivial, trivial, trivial⟩, trivial⟩
theorem v120 : ∀ pc, am_V9 120 pc ((am_G 120).2.2.2.2.1 pc) := am_all_lc am_V9_0 _ ⟨v120_0, trivial⟩
theorem d121_0 : decode cX8_goes 0 = .ok (.iload 4, 2) := by decide +kernel
theorem d121_2 : decode cX8_goes 2 = .ok (.invokestatic 137, 3) := by decide +kernel
theorem d121_5 : decode cX8_goes 5 = .ok (.iload 5, 2) := by decide +kernel
theorem d121_7 : decode cX8_goes 7 = .ok (.invokestatic 137, 3) := by decide +kernel
theorem d121_10 : decode cX8_goes 10 = .ok (.iload 6, 2) := by decide +kernel
theorem d121_12 : decode cX8_goes 12 = .ok (.invokestatic 137, 3) := by decide +kernel
theorem d121_15 : decode cX8_goes 15 = .ok (.invokestatic 141, 3) := by decide +kernel
theorem d121_18 : decode cX8_goes 18 = .ok (.invokestatic 141, 3) := by decide +kernel
theorem d121_21 : decode cX8_goes 21 = .ok (.istore 8, 2) := by decide +kernel
theorem d121_23 : decode cX8_goes 23 = .ok (.iconst 1, 1) := by decide +kernel
theorem d121_24 : decode cX8_goes 24 = .ok (.istore 9, 2) := by decide +kernel
theorem d121_26 : decode cX8_goes 26 = .ok (.iload 9, 2) := by decide +kernel
theorem d121_28 : decode cX8_goes 28 = .ok (.iload 8, 2) := by decide +kernel
theorem d121_30 : decode cX8_goes 30 = .ok (.if_icmp .gt 148, 3) := by decide +kernel
theorem d121_33 : decode cX8_goes 33 = .ok (.iload_n 1, 1) := by decide +kernel
theorem d121_34 : decode cX8_goes 34 = .ok (.iload 4, 2) := by decide +kernel
theorem d121_36 : decode cX8_goes 36 = .ok (.iload 9, 2) := by decide +kernel
theorem d121_38 : decode cX8_goes 38 = .ok (.imul, 1) := by decide +kernel
theorem d121_39 : decode cX8_goes 39 = .ok (.iload 8, 2) := by decide +kernel
theorem d121_41 : decode cX8_goes 41 = .ok (.idiv, 1) := by decide +kernel
theorem d121_42 : decode cX8_goes 42 = .ok (.iadd, 1) := by decide +kernel
theorem d121_43 : decode cX8_goes 43 = .ok (.istore 10, 2) := by decide +kernel
theorem d121_45 : decode cX8_goes 45 = .ok (.iload_n 2, 1) := by decide +kernel
theorem d121_46 : decode cX8_goes 46 = .ok (.iload 5, 2) := by decide +kernel
theorem d121_48 : decode cX8_goes 48 = .ok (.iload 9, 2) := by decide +kernel
theorem d121_50 : decode cX8_goes 50 = .ok (.imul, 1) := by decide +kernel
theorem d121_51 : decode cX8_goes 51 = .ok (.iload 8, 2) := by decide +kernel
theorem d121_53 : decode cX8_goes 53 = .ok (.idiv, 1) := by decide +kernel
theorem d121_54 : decode cX8_goes 54 = .ok (.iadd, 1) := by decide +kernel
theorem d121_55 : decode cX8_goes 55 = .ok (.istore 11, 2) := by decide +kernel
theorem d121_57 : decode cX8_goes 57 = .ok (.iload_n 3, 1) := by decide +kernel
theorem d121_58 : decode cX8_goes 58 = .ok (.iload 6, 2) := by decide +kernel
theorem d121_60 : decode cX8_goes 60 = .ok (.iload 9, 2) := by decide +kernel
theorem d121_62 : decode cX8_goes 62 = .ok (.imul, 1) := by decide +kernel
theorem d121_63 : decode cX8_goes 63 = .ok (.iload 8, 2) := by decide +kernel
theorem d121_65 : decode cX8_goes 65 = .ok (.idiv, 1) := by decide +kernel
theorem d121_66 : decode cX8_goes 66 = .ok (.iadd, 1) := by decide +kernel
theorem d121_67 : decode cX8_goes 67 = .ok (.istore 12, 2) := by decide +kernel
theorem d121_69 : decode cX8_goes 69 = .ok (.aload_n 0, 1) := by decide +kernel
theorem d121_70 : decode cX8_goes 70 = .ok (.getfield 94, 3) := by decide +kernel
theorem d121_73 : decode cX8_goes 73 = .ok (.bipush 108, 2) := by decide +kernel
theorem d121_75 : decode cX8_goes 75 = .ok (.if_icmp .ne 38, 3) := by decide +kernel
theorem d121_78 : decode cX8_goes 78 = .ok (.iload 10, 2) := by decide +kernel
theorem d121_80 : decode cX8_goes 80 = .ok (.iconst 0, 1) := by decide +kernel
theorem d121_81 : decode cX8_goes 81 = .ok (.bipush 15, 2) := by decide +kernel
theorem d121_83 : decode cX8_goes 83 = .ok (.invokestatic 100, 3) := by decide +kernel
theorem d121_86 : decode cX8_goes 86 = .ok (.ifCond .eq 25, 3) := by decide +kernel
theorem d121_89 : decode cX8_goes 89 = .ok (.iload 11, 2) := by decide +kernel
theorem d121_91 : decode cX8_goes 91 = .ok (.iconst 0, 1) := by decide +kernel
theorem d121_92 : decode cX8_goes 92 = .ok (.bipush 11, 2) := by decide +kernel
theorem d121_94 : decode cX8_goes 94 = .ok (.invokestatic 100, 3) := by decide +kernel
theorem d121_97 : decode cX8_goes 97 = .ok (.ifCond .eq 14, 3) := by decide +kernel
theorem d121_100 : decode cX8_goes 100 = .ok (.iload 12, 2) := by decide +kernel
theorem d121_102 : decode cX8_goes 102 = .ok (.iconst 0, 1) := by decide +kernel
theorem d121_103 : decode cX8_goes 103 = .ok (.bipush 9, 2) := by decide +kernel
theorem d121_105 : decode cX8_goes 105 = .ok (.invokestatic 100, 3) := by decide +kernel
theorem d121_108 : decode cX8_goes 108 = .ok (.ifCond .ne 5, 3) := by decide +kernel
theorem d121_111 : decode cX8_goes 111 = .ok (.iconst 0, 1) := by decide +kernel
theorem d121_112 : decode cX8_goes 112 = .ok (.ireturn, 1) := by decide +kernel
theorem d121_113 : decode cX8_goes 113 = .ok (.aload_n 0, 1) := by decide +kernel
theorem d121_114 : decode cX8_goes 114 = .ok (.getfield 94, 3) := by decide +kernel
theorem d121_117 : decode cX8_goes 117 = .ok (.bipush 99, 2) := by decide +kernel
theorem d121_119 : decode cX8_goes 119 = .ok (.if_icmp .ne 29, 3) := by decide +kernel
theorem d121_122 : decode cX8_goes 122 = .ok (.aload_n 0, 1) := by decide +kernel
theorem d121_123 : decode cX8_goes 123 = .ok (.iload 10, 2) := by decide +kernel
theorem d121_125 : decode cX8_goes 125 = .ok (.iload 11, 2) := by decide +kernel
theorem d121_127 : decode cX8_goes 127 = .ok (.iload 12, 2) := by decide +kernel
theorem d121_129 : decode cX8_goes 129 = .ok (.iload 7, 2) := by decide +kernel
theorem d121_131 : decode cX8_goes 131 = .ok (.ifCond .ne 7, 3) := by decide +kernel
theorem d121_134 : decode cX8_goes 134 = .ok (.iconst 1, 1) := by decide +kernel
theorem d121_135 : decode cX8_goes 135 = .ok (.goto 4, 3) := by decide +kernel
theorem d121_138 : decode cX8_goes 138 = .ok (.iconst 0, 1) := by decide +kernel
theorem d121_139 : decode cX8_goes 139 = .ok (.iconst 1, 1) := by decide +kernel
theorem d121_140 : decode cX8_goes 140 = .ok (.invokevirtual 145, 3) := by decide +kernel
theorem d121_143 : decode cX8_goes 143 = .ok (.ifCond .le 5, 3) := by decide +kernel
theorem d121_146 : decode cX8_goes 146 = .ok (.iconst 0, 1) := by decide +kernel
theorem d121_147 : decode cX8_goes 147 = .ok (.ireturn, 1) := by decide +kernel
theorem d121_148 : decode cX8_goes 148 = .ok (.aload_n 0, 1) := by decide +kernel
theorem d121_149 : decode cX8_goes 149 = .ok (.getfield 94, 3) := by decide +kernel
theorem d121_152 : decode cX8_goes 152 = .ok (.bipush 100, 2) := by decide +kernel
theorem d121_154 : decode cX8_goes 154 = .ok (.if_icmp .ne 18, 3) := by decide +kernel
theorem d121_157 : decode cX8_goes 157 = .ok (.iload 7, 2) := by decide +kernel
theorem d121_159 : decode cX8_goes 159 = .ok (.ifCond .eq 13, 3) := by decide +kernel
theorem d121_162 : decode cX8_goes 162 = .ok (.aload_n 0, 1) := by decide +kernel
theorem d121_163 : decode cX8_goes 163 = .ok (.iload 10, 2) := by decide +kernel
theorem d121_165 : decode cX8_goes 165 = .ok (.iload 11, 2) := by decide +kernel
theorem d121_167 : decode cX8_goes 167 = .ok (.iload 12, 2) := by decide +kernel
theorem d121_169 : decode cX8_goes 169 = .ok (.invokevirtual 149, 3) := by decide +kernel
theorem d121_172 : decode cX8_goes 172 = .ok (.iinc 9 1, 3) := by decide +kernel
theorem d121_175 : decode cX8_goes 175 = .ok (.goto (-149), 3) := by decide +kernel
theorem d121_178 : decode cX8_goes 178 = .ok (.aload_n 0, 1) := by decide +kernel
theorem d121_179 : decode cX8_goes 179 = .ok (.getfield 94, 3) := by decide +kernel
theorem d121_182 : decode cX8_goes 182 = .ok (.bipush 100, 2) := by decide +kernel
theorem d121_184 : decode cX8_goes 184 = .ok (.if_icmp .ne 33, 3) := by decide +kernel
theorem d121_187 : decode cX8_goes 187 = .ok (.aload_n 0, 1) := by decide +kernel
theorem d121_188 : decode cX8_goes 188 = .ok (.dup, 1) := by decide +kernel
theorem d121_189 : decode cX8_goes 189 = .ok (.getfield 86, 3) := by decide +kernel
theorem d121_192 : decode cX8_goes 192 = .ok (.iload 8, 2) := by decide +kernel
theorem d121_194 : decode cX8_goes 194 = .ok (.i2f, 1) := by decide +kernel
theorem d121_195 : decode cX8_goes 195 = .ok (.fconst 1, 1) := by decide +kernel
theorem d121_196 : decode cX8_goes 196 = .ok (.iload 7, 2) := by decide +kernel
theorem d121_198 : decode cX8_goes 198 = .ok (.ifCond .eq 11, 3) := by decide +kernel
theorem d121_201 : decode cX8_goes 201 = .ok (.aload_n 0, 1) := by decide +kernel
theorem d121_202 : decode cX8_goes 202 = .ok (.getfield 73, 3) := by decide +kernel
theorem d121_205 : decode cX8_goes 205 = .ok (.i2f, 1) := by decide +kernel
theorem d121_206 : decode cX8_goes 206 = .ok (.goto 5, 3) := by decide +kernel
theorem d121_209 : decode cX8_goes 209 = .ok (.ldc 153, 2) := by decide +kernel
theorem d121_211 : decode cX8_goes 211 = .ok (.fdiv, 1) := by decide +kernel
theorem d121_212 : decode cX8_goes 212 = .ok (.fmul, 1) := by decide +kernel
theorem d121_213 : decode cX8_goes 213 = .ok (.fadd, 1) := by decide +kernel
theorem d121_214 : decode cX8_goes 214 = .ok (.putfield 86, 3) := by decide +kernel
theorem d121_217 : decode cX8_goes 217 = .ok (.aload_n 0, 1) := by decide +kernel
theorem d121_218 : decode cX8_goes 218 = .ok (.getfield 47, 3) := by decide +kernel
theorem d121_221 : decode cX8_goes 221 = .ok (.iconst 0, 1) := by decide +kernel
theorem d121_222 : decode cX8_goes 222 = .ok (.iload_n 1, 1) := by decide +kernel
theorem d121_223 : decode cX8_goes 223 = .ok (.iload 4, 2) := by decide +kernel
theorem d121_225 : decode cX8_goes 225 = .ok (.iadd, 1) := by decide +kernel
theorem d121_226 : decode cX8_goes 226 = .ok (.iastore, 1) := by decide +kernel
theorem d121_227 : decode cX8_goes 227 = .ok (.aload_n 0, 1) := by decide +kernel
theorem d121_228 : decode cX8_goes 228 = .ok (.getfield 47, 3) := by decide +kernel
theorem d121_231 : decode cX8_goes 231 = .ok (.iconst 1, 1) := by decide +kernel
theorem d121_232 : decode cX8_goes 232 = .ok (.iload_n 2, 1) := by decide +kernel
theorem d121_233 : decode cX8_goes 233 = .ok (.iload 5, 2) := by decide +kernel
theorem d121_235 : decode cX8_goes 235 = .ok (.iadd, 1) := by decide +kernel
theorem d121_236 : decode cX8_goes 236 = .ok (.iastore, 1) := by decide +kernel
theorem d121_237 : decode cX8_goes 237 = .ok (.aload_n 0, 1) := by decide +kernel
theorem d121_238 : decode cX8_goes 238 = .ok (.getfield 47, 3) := by decide +kernel
theorem d121_241 : decode cX8_goes 241 = .ok (.iconst 2, 1) := by decide +kernel
theorem d121_242 : decode cX8_goes 242 = .ok (.iload_n 3, 1) := by decide +kernel
theorem d121_243 : decode cX8_goes 243 = .ok (.iload 6, 2) := by decide +kernel
theorem d121_245 : decode cX8_goes 245 = .ok (.iadd, 1) := by decide +kernel
theorem d121_246 : decode cX8_goes 246 = .ok (.iastore, 1) := by decide +kernel
theorem d121_247 : decode cX8_goes 247 = .ok (.iconst 1, 1) := by decide +kernel
theorem d121_248 : decode cX8_goes 248 = .ok (.ireturn, 1) := by decide +kernel
theorem v121_0 : am_all (am_V9 121) am_l121_0 := ⟨Or.inr ⟨2, d121_0, rfl, rfl, rfl, trivial, trivial⟩, Or.inr ⟨3, d121_2, rfl, rfl, trivial, trivial, Or.inr ⟨by decide, okM_119, aw_1096, Or.inl ⟨rfl, aw_1095⟩⟩⟩, Or.inr ⟨2, d121_5, rfl, rfl, rfl, trivial, trivial⟩, Or.inr ⟨3, d121_7, rfl, rfl, trivial, trivial, Or.inr ⟨by decide, okM_119, aw_1096, Or.inl ⟨rfl, aw_1095⟩⟩⟩, Or.inr ⟨2, d121_10, rfl, rfl, rfl, trivial, trivial⟩, Or.inr ⟨3, d121_12, rfl, rfl, trivial, trivial, Or.inr ⟨by decide, okM_119, aw_1096, Or.inl ⟨rfl, aw_1095⟩⟩⟩, Or.inr ⟨3, d121_15, rfl, rfl, trivial, trivial, Or.inr ⟨by decide, okM_120, aw_1099, Or.inl ⟨rfl, aw_1098⟩⟩⟩, Or.inr ⟨3, d121_18, rfl, rfl, trivial, trivial, Or.inr ⟨by decide, okM_120, aw_1099, Or.inl ⟨rfl, aw_1098⟩⟩⟩, Or.inr ⟨2, d121_21, rfl, rfl, rfl, trivial, trivial⟩, Or.inr ⟨1, d121_23, rfl, rfl, am_eq9 (by decide +kernel), trivial, trivial⟩, Or.inr ⟨2, d121_24, rfl, rfl, rfl, trivial, trivial⟩, Or.inr ⟨2, d121_26, rfl, rfl, rfl, trivial, trivial⟩, Or.inr ⟨2, d121_28, rfl, rfl, rfl, trivial, trivial⟩, Or.inr ⟨3, d121_30, rfl, rfl, rfl, trivial, trivial⟩, Or.inr ⟨1, d121_33, rfl, rfl, rfl, trivial, trivial⟩, Or.inr ⟨2, d121_34, rfl, rfl, rfl, trivial, trivial⟩, Or.inr ⟨2, d121_36, rfl, rfl, rfl, trivial, trivial⟩, Or.inr ⟨1, d121_38, rfl, rfl, trivial, trivial, trivial⟩, Or.inr ⟨2, d121_39, rfl, rfl, rfl, trivial, trivial⟩, Or.inr ⟨1, d121_41, rfl, rfl, trivial, trivial, trivial⟩, Or.inr ⟨1, d121_42, rfl, rfl, trivial, trivial, trivial⟩, Or.inr ⟨2, d121_43, rfl, rfl, rfl, trivial, trivial⟩, Or.inr ⟨1, d121_45, rfl, rfl, rfl, trivial, trivial⟩, Or.inr ⟨2, d121_46, rfl, rfl, rfl, trivial, trivial⟩, trivial⟩
theorem v121_1 : am_all (am_V9 121) am_l121_1 := ⟨Or.inr ⟨2, d121_48, rfl, rfl, rfl, trivial, trivial⟩, Or.inr ⟨1, d121_50, rfl, rfl, trivial, trivial, trivial⟩, Or.inr ⟨2, d121_51, rfl, rfl, rfl, trivial, trivial⟩, Or.inr ⟨1, d121_53, rfl, rfl, trivial, trivial, trivial⟩, Or.inr ⟨1, d121_54, rfl, rfl, trivial, trivial, trivial⟩, Or.inr ⟨2, d121_55, rfl, rfl, rfl, trivial, trivial⟩, Or.inr ⟨1, d121_57, rfl, rfl, rfl, trivial, trivial⟩, Or.inr ⟨2, d121_58, rfl, rfl, rfl, trivial, trivial⟩, Or.inr ⟨2, d121_60, rfl, rfl, rfl, trivial, trivial⟩, Or.inr ⟨1, d121_62, rfl, rfl, trivial, trivial, trivial⟩, Or.inr ⟨2, d121_63, rfl, rfl, rfl, trivial, trivial⟩, Or.inr ⟨1, d121_65, rfl, rfl, trivial, trivial, trivial⟩, Or.inr ⟨1, d121_66, rfl, rfl, trivial, trivial, trivial⟩, Or.inr ⟨2, d121_67, rfl, rfl, rfl, trivial, trivial⟩, Or.inr ⟨1, d121_69, rfl, rfl, rfl, trivial, trivial⟩, Or.inr ⟨3, d121_70, rfl, rfl, trivial, ⟨RX8, TX8, 27, rfl, by decide, Or.inl aw_948⟩, trivial⟩, Or.inr ⟨2, d121_73, rfl, rfl, am_eq9 (by decide +kernel), trivial, trivial⟩, Or.inr ⟨3, d121_75, rfl, rfl, rfl, trivial, trivial⟩, Or.inr ⟨2, d121_78, rfl, rfl, rfl, trivial, trivial⟩, Or.inr ⟨1, d121_80, rfl, rfl, am_eq9 (by decide +kernel), trivial, trivial⟩, Or.inr ⟨2, d121_81, rfl, rfl, am_eq9 (by decide +kernel), trivial, trivial⟩, Or.inr ⟨3, d121_83, rfl, rfl, trivial, trivial, Or.inr ⟨by decide, okM_97, aw_1017, Or.inl ⟨rfl, aw_1016⟩⟩⟩, Or.inr ⟨3, d121_86, rfl, rfl, rfl, trivial, trivial⟩, Or.inr ⟨2, d121_89, rfl, rfl, rfl, trivial, trivial⟩, trivial⟩
theorem v121_2 : am_all (am_V9 121) am_l121_2 := ⟨Or.inr ⟨1, d121_91, rfl, rfl, am_eq9 (by decide +kernel), trivial, trivial⟩, Or.inr ⟨2, d121_92, rfl, rfl, am_eq9 (by decide +kernel), trivial, trivial⟩, Or.inr ⟨3, d121_94, rfl, rfl, trivial, trivial, Or.inr ⟨by decide, okM_97, aw_1017, Or.inl ⟨rfl, aw_1016⟩⟩⟩, Or.inr ⟨3, d121_97, rfl, rfl, rfl, trivial, trivial⟩, Or.inr ⟨2, d121_100, rfl, rfl, rfl, trivial, trivial⟩, Or.inr ⟨1, d121_102, rfl, rfl, am_eq9 (by decide +kernel), trivial, trivial⟩, Or.inr ⟨2, d121_103, rfl, rfl, am_eq9 (by decide +kernel), trivial, trivial⟩, Or.inr ⟨3, d121_105, rfl, rfl, trivial, trivial, Or.inr ⟨by decide, okM_97, aw_1017, Or.inl ⟨rfl, aw_1016⟩⟩⟩, Or.inr ⟨3, d121_108, rfl, rfl, rfl, trivial, trivial⟩, Or.inr ⟨1, d121_111, rfl, rfl, am_eq9 (by decide +kernel), trivial, trivial⟩, Or.inr ⟨1, d121_112, rfl, rfl, trivial, trivial, trivial⟩, Or.inr ⟨1, d121_113, rfl, rfl, rfl, trivial, trivial⟩, Or.inr ⟨3, d121_114, rfl, rfl, trivial, ⟨RX8, TX8, 27, rfl, by decide, Or.inl aw_948⟩, trivial⟩, Or.inr ⟨2, d121_117, rfl, rfl, am_eq9 (by decide +kernel), trivial, trivial⟩, Or.inr ⟨3, d121_119, rfl, rfl, rfl, trivial, trivial⟩, Or.inr ⟨1, d121_122, rfl, rfl, rfl, trivial, trivial⟩, Or.inr ⟨2, d121_123, rfl, rfl, rfl, trivial, trivial⟩, Or.inr ⟨2, d121_125, rfl, rfl, rfl, trivial, trivial⟩, Or.inr ⟨2, d121_127, rfl, rfl, rfl, trivial, trivial⟩, Or.inr ⟨2, d121_129, rfl, rfl, rfl, trivial, trivial⟩, Or.inr ⟨3, d121_131, rfl, rfl, rfl, trivial, trivial⟩, Or.inr ⟨1, d121_134, rfl, rfl, am_eq9 (by decide +kernel), trivial, trivial⟩, Or.inr ⟨3, d121_135, rfl, rfl, rfl, trivial, trivial⟩, Or.inr ⟨1, d121_138, rfl, rfl, am_eq9 (by decide +kernel), trivial, trivial⟩, trivial⟩
theorem v121_3 : am_all (am_V9 121) am_l121_3 := ⟨Or.inr ⟨1, d121_139, rfl, rfl, am_eq9 (by decide +kernel), trivial, trivial⟩, Or.inr ⟨3, d121_140, rfl, rfl, trivial, trivial, ⟨by decide, ⟨_, TX8, 27, rfl, okM_117, rfl⟩, aw_1101, aw_1103, as_117⟩⟩, Or.inr ⟨3, d121_143, rfl, rfl, rfl, trivial, trivial⟩, Or.inr ⟨1, d121_146, rfl, rfl, am_eq9 (by decide +kernel), trivial, trivial⟩, Or.inr ⟨1, d121_147, rfl, rfl, trivial, trivial, trivial⟩, Or.inr ⟨1, d121_148, rfl, rfl, rfl, trivial, trivial⟩, Or.inr ⟨3, d121_149, rfl, rfl, trivial, ⟨RX8, TX8, 27, rfl, by decide, Or.inl aw_948⟩, trivial⟩, Or.inr ⟨2, d121_152, rfl, rfl, am_eq9 (by decide +kernel), trivial, trivial⟩, Or.inr ⟨3, d121_154, rfl, rfl, rfl, trivial, trivial⟩, Or.inr ⟨2, d121_157, rfl, rfl, rfl, trivial, trivial⟩, Or.inr ⟨3, d121_159, rfl, rfl, rfl, trivial, trivial⟩, Or.inr ⟨1, d121_162, rfl, rfl, rfl, trivial, trivial⟩, Or.inr ⟨2, d121_163, rfl, rfl, rfl, trivial, trivial⟩, Or.inr ⟨2, d121_165, rfl, rfl, rfl, trivial, trivial⟩, Or.inr ⟨2, d121_167, rfl, rfl, rfl, trivial, trivial⟩, Or.inr ⟨3, d121_169, rfl, rfl, trivial, trivial, ⟨by decide, ⟨_, TX8, 27, rfl, okM_118, rfl⟩, aw_1109, aw_1111, as_118⟩⟩, Or.inr ⟨3, d121_172, rfl, rfl, ⟨rfl, by decide⟩, trivial, trivial⟩, Or.inr ⟨3, d121_175, rfl, rfl, rfl, trivial, trivial⟩, Or.inr ⟨1, d121_178, rfl, rfl, rfl, trivial, trivial⟩, Or.inr ⟨3, d121_179, rfl, rfl, trivial, ⟨RX8, TX8, 27, rfl, by decide, Or.inl aw_948⟩, trivial⟩, Or.inr ⟨2, d121_182, rfl, rfl, am_eq9 (by decide +kernel), trivial, trivial⟩, Or.inr ⟨3, d121_184, rfl, rfl, rfl, trivial, trivial⟩, Or.inr ⟨1, d121_187, rfl, rfl, rfl, trivial, trivial⟩, Or.inr ⟨1, d121_188, rfl, rfl, trivial, trivial, trivial⟩, trivial⟩
theorem v121_4 : am_all (am_V9 121) am_l121_4 := ⟨Or.inr ⟨3, d121_189, rfl, rfl, trivial, ⟨RX8, TX8, 27, rfl, by decide, Or.inl aw_946⟩, trivial⟩, Or.inr ⟨2, d121_192, rfl, rfl, rfl, trivial, trivial⟩, Or.inr ⟨1, d121_194, rfl, rfl, trivial, trivial, trivial⟩, Or.inr ⟨1, d121_195, rfl, rfl, trivial, trivial, trivial⟩, Or.inr ⟨2, d121_196, rfl, rfl, rfl, trivial, trivial⟩, Or.inr ⟨3, d121_198, rfl, rfl, rfl, trivial, trivial⟩, Or.inr ⟨1, d121_201, rfl, rfl, rfl, trivial, trivial⟩, Or.inr ⟨3, d121_202, rfl, rfl, trivial, ⟨RX8, TX8, 27, rfl, by decide, Or.inl aw_942⟩, trivial⟩, Or.inr ⟨1, d121_205, rfl, rfl, trivial, trivial, trivial⟩, Or.inr ⟨3, d121_206, rfl, rfl, rfl, trivial, trivial⟩, Or.inr ⟨2, d121_209, rfl, rfl, ⟨fun h => absurd h (by decide), fun _ => aw_1113⟩, trivial, trivial⟩, Or.inr ⟨1, d121_211, rfl, rfl, trivial, trivial, trivial⟩, Or.inr ⟨1, d121_212, rfl, rfl, trivial, trivial, trivial⟩, Or.inr ⟨1, d121_213, rfl, rfl, trivial, trivial, trivial⟩, Or.inr ⟨3, d121_214, rfl, rfl, trivial, ⟨RX8, TX8, 27, rfl, by decide, aw_946, Or.inl rfl⟩, trivial⟩, Or.inr ⟨1, d121_217, rfl, rfl, rfl, trivial, trivial⟩, Or.inr ⟨3, d121_218, rfl, rfl, trivial, ⟨RX8, TX8, 27, rfl, by decide, Or.inl aw_934⟩, trivial⟩, Or.inr ⟨1, d121_221, rfl, rfl, am_eq9 (by decide +kernel), trivial, trivial⟩, Or.inr ⟨1, d121_222, rfl, rfl, rfl, trivial, trivial⟩, Or.inr ⟨2, d121_223, rfl, rfl, rfl, trivial, trivial⟩, Or.inr ⟨1, d121_225, rfl, rfl, trivial, trivial, trivial⟩, Or.inr ⟨1, d121_226, rfl, rfl, trivial, trivial, trivial⟩, Or.inr ⟨1, d121_227, rfl, rfl, rfl, trivial, trivial⟩, Or.inr ⟨3, d121_228, rfl, rfl, trivial, ⟨RX8, TX8, 27, rfl, by decide, Or.inl aw_934⟩, trivial⟩, trivial⟩
theorem v121_5 : am_all (am_V9 121) am_l121_5 := ⟨Or.inr ⟨1, d121_231, rfl, rfl, am_eq9 (by decide +kernel), trivial, trivial⟩, Or.inr ⟨1, d121_232, rfl, rfl, rfl, trivial, trivial⟩, Or.inr ⟨2, d121_233, rfl, rfl, rfl, trivial, trivial⟩, Or.inr ⟨1, d121_235, rfl, rfl, trivial, trivial, trivial⟩, Or.inr ⟨1, d121_236, rfl, rfl, trivial, trivial, trivial⟩, Or.inr ⟨1, d121_237, rfl, rfl, rfl, trivial, trivial⟩, Or.inr ⟨3, d121_238, rfl, rfl, trivial, ⟨RX8, TX8, 27, rfl, by decide, Or.inl aw_934⟩, trivial⟩, Or.inr ⟨1, d121_241, rfl, rfl, am_eq9 (by decide +kernel), trivial, trivial⟩, Or.inr ⟨1, d121_242, rfl, rfl, rfl, trivial, trivial⟩, Or.inr ⟨2, d121_243, rfl, rfl, rfl, trivial, trivial⟩, Or.inr ⟨1, d121_245, rfl, rfl, trivial, trivial, trivial⟩, Or.inr ⟨1, d121_246, rfl, rfl, trivial, trivial, trivial⟩, Or.inr ⟨1, d121_247, rfl, rfl, am_eq9 (by decide +kernel), trivial, trivial⟩, Or.inr ⟨1, d121_248, rfl, rfl, trivial, trivial, trivial⟩, trivial⟩
theorem v121 : ∀ pc, am_V9 121 pc ((am_G 121).2.2.2.2.1 pc) := am_all_lc am_V9_0 _ ⟨v121_0, v121_1, v121_2, v121_3, v121_4, v121_5, trivial⟩
theorem d122_0 : decode cX8_deepens 0 = .ok (.iload_n 2, 1) := by decide +kernel
theorem d122_1 : decode cX8_deepens 1 = .ok (.istore_n 3, 1) := by decide +kernel
theorem d122_2 : decode cX8_deepens 2 = .ok (.iload_n 3, 1) := by decide +kernel
theorem d122_3 : decode cX8_deepens 3 = .ok (.iload_n 1, 1) := by decide +kernel
theorem d122_4 : decode cX8_deepens 4 = .ok (.if_icmp .ge 42, 3) := by decide +kernel
theorem d122_7 : decode cX8_deepens 7 = .ok (.aload_n 0, 1) := by decide +kernel
theorem d122_8 : decode cX8_deepens 8 = .ok (.aload_n 0, 1) := by decide +kernel
theorem d122_9 : decode cX8_deepens 9 = .ok (.getfield 44, 3) := by decide +kernel
theorem d122_12 : decode cX8_deepens 12 = .ok (.iconst 0, 1) := by decide +kernel
theorem d122_13 : decode cX8_deepens 13 = .ok (.iaload, 1) := by decide +kernel
theorem d122_14 : decode cX8_deepens 14 = .ok (.aload_n 0, 1) := by decide +kernel
theorem d122_15 : decode cX8_deepens 15 = .ok (.getfield 44, 3) := by decide +kernel
theorem d122_18 : decode cX8_deepens 18 = .ok (.iconst 1, 1) := by decide +kernel
theorem d122_19 : decode cX8_deepens 19 = .ok (.iaload, 1) := by decide +kernel
theorem d122_20 : decode cX8_deepens 20 = .ok (.aload_n 0, 1) := by decide +kernel
theorem d122_21 : decode cX8_deepens 21 = .ok (.getfield 44, 3) := by decide +kernel
theorem d122_24 : decode cX8_deepens 24 = .ok (.iconst 2, 1) := by decide +kernel
theorem d122_25 : decode cX8_deepens 25 = .ok (.iaload, 1) := by decide +kernel
theorem d122_26 : decode cX8_deepens 26 = .ok (.iconst 0, 1) := by decide +kernel
theorem d122_27 : decode cX8_deepens 27 = .ok (.iconst 0, 1) := by decide +kernel
theorem d122_28 : decode cX8_deepens 28 = .ok (.iload_n 3, 1) := by decide +kernel
theorem d122_29 : decode cX8_deepens 29 = .ok (.ineg, 1) := by decide +kernel
theorem d122_30 : decode cX8_deepens 30 = .ok (.iconst 1, 1) := by decide +kernel
theorem d122_31 : decode cX8_deepens 31 = .ok (.invokevirtual 154, 3) := by decide +kernel
theorem d122_34 : decode cX8_deepens 34 = .ok (.ifCond .ne 5, 3) := by decide +kernel
theorem d122_37 : decode cX8_deepens 37 = .ok (.iconst 0, 1) := by decide +kernel
theorem d122_38 : decode cX8_deepens 38 = .ok (.ireturn, 1) := by decide +kernel
theorem d122_39 : decode cX8_deepens 39 = .ok (.iload_n 3, 1) := by decide +kernel
theorem d122_40 : decode cX8_deepens 40 = .ok (.iload_n 2, 1) := by decide +kernel
theorem d122_41 : decode cX8_deepens 41 = .ok (.iadd, 1) := by decide +kernel
theorem d122_42 : decode cX8_deepens 42 = .ok (.istore_n 3, 1) := by decide +kernel
theorem d122_43 : decode cX8_deepens 43 = .ok (.goto (-41), 3) := by decide +kernel
theorem d122_46 : decode cX8_deepens 46 = .ok (.aload_n 0, 1) := by decide +kernel
theorem d122_47 : decode cX8_deepens 47 = .ok (.aload_n 0, 1) := by decide +kernel
theorem d122_48 : decode cX8_deepens 48 = .ok (.getfield 44, 3) := by decide +kernel
theorem d122_51 : decode cX8_deepens 51 = .ok (.iconst 0, 1) := by decide +kernel
theorem d122_52 : decode cX8_deepens 52 = .ok (.iaload, 1) := by decide +kernel
theorem d122_53 : decode cX8_deepens 53 = .ok (.aload_n 0, 1) := by decide +kernel
theorem d122_54 : decode cX8_deepens 54 = .ok (.getfield 44, 3) := by decide +kernel
theorem d122_57 : decode cX8_deepens 57 = .ok (.iconst 1, 1) := by decide +kernel
theorem d122_58 : decode cX8_deepens 58 = .ok (.iaload, 1) := by decide +kernel
theorem d122_59 : decode cX8_deepens 59 = .ok (.aload_n 0, 1) := by decide +kernel
theorem d122_60 : decode cX8_deepens 60 = .ok (.getfield 44, 3) := by decide +kernel
theorem d122_63 : decode cX8_deepens 63 = .ok (.iconst 2, 1) := by decide +kernel
theorem d122_64 : decode cX8_deepens 64 = .ok (.iaload, 1) := by decide +kernel
theorem d122_65 : decode cX8_deepens 65 = .ok (.iconst 0, 1) := by decide +kernel
theorem d122_66 : decode cX8_deepens 66 = .ok (.iconst 0, 1) := by decide +kernel
theorem d122_67 : decode cX8_deepens 67 = .ok (.iload_n 1, 1) := by decide +kernel
theorem d122_68 : decode cX8_deepens 68 = .ok (.ineg, 1) := by decide +kernel
theorem d122_69 : decode cX8_deepens 69 = .ok (.iconst 1, 1) := by decide +kernel
theorem d122_70 : decode cX8_deepens 70 = .ok (.invokevirtual 154, 3) := by decide +kernel
theorem d122_73 : decode cX8_deepens 73 = .ok (.ifCond .ne 5, 3) := by decide +kernel
theorem d122_76 : decode cX8_deepens 76 = .ok (.iconst 0, 1) := by decide +kernel
theorem d122_77 : decode cX8_deepens 77 = .ok (.ireturn, 1) := by decide +kernel
theorem d122_78 : decode cX8_deepens 78 = .ok (.aload_n 0, 1) := by decide +kernel
theorem d122_79 : decode cX8_deepens 79 = .ok (.getfield 47, 3) := by decide +kernel
theorem d122_82 : decode cX8_deepens 82 = .ok (.iconst 2, 1) := by decide +kernel
theorem d122_83 : decode cX8_deepens 83 = .ok (.aload_n 0, 1) := by decide +kernel
theorem d122_84 : decode cX8_deepens 84 = .ok (.getfield 44, 3) := by decide +kernel
theorem d122_87 : decode cX8_deepens 87 = .ok (.iconst 2, 1) := by decide +kernel
theorem d122_88 : decode cX8_deepens 88 = .ok (.iaload, 1) := by decide +kernel
theorem d122_89 : decode cX8_deepens 89 = .ok (.iastore, 1) := by decide +kernel
theorem d122_90 : decode cX8_deepens 90 = .ok (.iconst 1, 1) := by decide +kernel
theorem d122_91 : decode cX8_deepens 91 = .ok (.ireturn, 1) := by decide +kernel
theorem v122_0 : am_all (am_V9 122) am_l122_0 := ⟨Or.inr ⟨1, d122_0, rfl, rfl, rfl, trivial, trivial⟩, Or.inr ⟨1, d122_1, rfl, rfl, rfl, trivial, trivial⟩, Or.inr ⟨1, d122_2, rfl, rfl, rfl, trivial, trivial⟩, Or.inr ⟨1, d122_3, rfl, rfl, rfl, trivial, trivial⟩, Or.inr ⟨3, d122_4, rfl, rfl, rfl, trivial, trivial⟩, Or.inr ⟨1, d122_7, rfl, rfl, rfl, trivial, trivial⟩, Or.inr ⟨1, d122_8, rfl, rfl, rfl, trivial, trivial⟩, Or.inr ⟨3, d122_9, rfl, rfl, trivial, ⟨RX8, TX8, 27, rfl, by decide, Or.inl aw_933⟩, trivial⟩, Or.inr ⟨1, d122_12, rfl, rfl, am_eq9 (by decide +kernel), trivial, trivial⟩, Or.inr ⟨1, d122_13, rfl, rfl, trivial, trivial, trivial⟩, Or.inr ⟨1, d122_14, rfl, rfl, rfl, trivial, trivial⟩, Or.inr ⟨3, d122_15, rfl, rfl, trivial, ⟨RX8, TX8, 27, rfl, by decide, Or.inl aw_933⟩, trivial⟩, Or.inr ⟨1, d122_18, rfl, rfl, am_eq9 (by decide +kernel), trivial, trivial⟩, Or.inr ⟨1, d122_19, rfl, rfl, trivial, trivial, trivial⟩, Or.inr ⟨1, d122_20, rfl, rfl, rfl, trivial, trivial⟩, Or.inr ⟨3, d122_21, rfl, rfl, trivial, ⟨RX8, TX8, 27, rfl, by decide, Or.inl aw_933⟩, trivial⟩, Or.inr ⟨1, d122_24, rfl, rfl, am_eq9 (by decide +kernel), trivial, trivial⟩, Or.inr ⟨1, d122_25, rfl, rfl, trivial, trivial, trivial⟩, Or.inr ⟨1, d122_26, rfl, rfl, am_eq9 (by decide +kernel), trivial, trivial⟩, Or.inr ⟨1, d122_27, rfl, rfl, am_eq9 (by decide +kernel), trivial, trivial⟩, Or.inr ⟨1, d122_28, rfl, rfl, rfl, trivial, trivial⟩, Or.inr ⟨1, d122_29, rfl, rfl, trivial, trivial, trivial⟩, Or.inr ⟨1, d122_30, rfl, rfl, am_eq9 (by decide +kernel), trivial, trivial⟩, Or.inr ⟨3, d122_31, rfl, rfl, trivial, trivial, ⟨by decide, ⟨_, TX8, 27, rfl, okM_121, rfl⟩, aw_1091, aw_1093, as_121⟩⟩, trivial⟩
theorem v122_1 : am_all (am_V9 122) am_l122_1 := ⟨Or.inr ⟨3, d122_34, rfl, rfl, rfl, trivial, trivial⟩, Or.inr ⟨1, d122_37, rfl, rfl, am_eq9 (by decide +kernel), trivial, trivial⟩, Or.inr ⟨1, d122_38, rfl, rfl, trivial, trivial, trivial⟩, Or.inr ⟨1, d122_39, rfl, rfl, rfl, trivial, trivial⟩, Or.inr ⟨1, d122_40, rfl, rfl, rfl, trivial, trivial⟩, Or.inr ⟨1, d122_41, rfl, rfl, trivial, trivial, trivial⟩, Or.inr ⟨1, d122_42, rfl, rfl, rfl, trivial, trivial⟩, Or.inr ⟨3, d122_43, rfl, rfl, rfl, trivial, trivial⟩, Or.inr ⟨1, d122_46, rfl, rfl, rfl, trivial, trivial⟩, Or.inr ⟨1, d122_47, rfl, rfl, rfl, trivial, trivial⟩, Or.inr ⟨3, d122_48, rfl, rfl, trivial, ⟨RX8, TX8, 27, rfl, by decide, Or.inl aw_933⟩, trivial⟩, Or.inr ⟨1, d122_51, rfl, rfl, am_eq9 (by decide +kernel), trivial, trivial⟩, Or.inr ⟨1, d122_52, rfl, rfl, trivial, trivial, trivial⟩, Or.inr ⟨1, d122_53, rfl, rfl, rfl, trivial, trivial⟩, Or.inr ⟨3, d122_54, rfl, rfl, trivial, ⟨RX8, TX8, 27, rfl, by decide, Or.inl aw_933⟩, trivial⟩, Or.inr ⟨1, d122_57, rfl, rfl, am_eq9 (by decide +kernel), trivial, trivial⟩, Or.inr ⟨1, d122_58, rfl, rfl, trivial, trivial, trivial⟩, Or.inr ⟨1, d122_59, rfl, rfl, rfl, trivial, trivial⟩, Or.inr ⟨3, d122_60, rfl, rfl, trivial, ⟨RX8, TX8, 27, rfl, by decide, Or.inl aw_933⟩, trivial⟩, Or.inr ⟨1, d122_63, rfl, rfl, am_eq9 (by decide +kernel), trivial, trivial⟩, Or.inr ⟨1, d122_64, rfl, rfl, trivial, trivial, trivial⟩, Or.inr ⟨1, d122_65, rfl, rfl, am_eq9 (by decide +kernel), trivial, trivial⟩, Or.inr ⟨1, d122_66, rfl, rfl, am_eq9 (by decide +kernel), trivial, trivial⟩, Or.inr ⟨1, d122_67, rfl, rfl, rfl, trivial, trivial⟩, trivial⟩
theorem v122_2 : am_all (am_V9 122) am_l122_2 := ⟨Or.inr ⟨1, d122_68, rfl, rfl, trivial, trivial, trivial⟩, Or.inr ⟨1, d122_69, rfl, rfl, am_eq9 (by decide +kernel), trivial, trivial⟩, Or.inr ⟨3, d122_70, rfl, rfl, trivial, trivial, ⟨by decide, ⟨_, TX8, 27, rfl, okM_121, rfl⟩, aw_1091, aw_1093, as_121⟩⟩, Or.inr ⟨3, d122_73, rfl, rfl, rfl, trivial, trivial⟩, Or.inr ⟨1, d122_76, rfl, rfl, am_eq9 (by decide +kernel), trivial, trivial⟩, Or.inr ⟨1, d122_77, rfl, rfl, trivial, trivial, trivial⟩, Or.inr ⟨1, d122_78, rfl, rfl, rfl, trivial, trivial⟩, Or.inr ⟨3, d122_79, rfl, rfl, trivial, ⟨RX8, TX8, 27, rfl, by decide, Or.inl aw_934⟩, trivial⟩, Or.inr ⟨1, d122_82, rfl, rfl, am_eq9 (by decide +kernel), trivial, trivial⟩, Or.inr ⟨1, d122_83, rfl, rfl, rfl, trivial, trivial⟩, Or.inr ⟨3, d122_84, rfl, rfl, trivial, ⟨RX8, TX8, 27, rfl, by decide, Or.inl aw_933⟩, trivial⟩, Or.inr ⟨1, d122_87, rfl, rfl, am_eq9 (by decide +kernel), trivial, trivial⟩, Or.inr ⟨1, d122_88, rfl, rfl, trivial, trivial, trivial⟩, Or.inr ⟨1, d122_89, rfl, rfl, trivial, trivial, trivial⟩, Or.inr ⟨1, d122_90, rfl, rfl, am_eq9 (by decide +kernel), trivial, trivial⟩, Or.inr ⟨1, d122_91, rfl, rfl, trivial, trivial, trivial⟩, trivial⟩
theorem v122 : ∀ pc, am_V9 122 pc ((am_G 122).2.2.2.2.1 pc) := am_all_lc am_V9_0 _ ⟨v122_0, v122_1, v122_2, trivial⟩
theorem d123_0 : decode cX8_clears 0 = .ok (.aload_n 0, 1) := by decide +kernel
theorem d123_1 : decode cX8_clears 1 = .ok (.aload_n 0, 1) := by decide +kernel
theorem d123_2 : decode cX8_clears 2 = .ok (.getfield 44, 3) := by decide +kernel
theorem d123_5 : decode cX8_clears 5 = .ok (.iconst 0, 1) := by decide +kernel
theorem d123_6 : decode cX8_clears 6 = .ok (.iaload, 1) := by decide +kernel
theorem d123_7 : decode cX8_clears 7 = .ok (.aload_n 0, 1) := by decide +kernel
theorem d123_8 : decode cX8_clears 8 = .ok (.getfield 44, 3) := by decide +kernel
theorem d123_11 : decode cX8_clears 11 = .ok (.iconst 1, 1) := by decide +kernel
theorem d123_12 : decode cX8_clears 12 = .ok (.iaload, 1) := by decide +kernel
theorem d123_13 : decode cX8_clears 13 = .ok (.aload_n 0, 1) := by decide +kernel
theorem d123_14 : decode cX8_clears 14 = .ok (.getfield 44, 3) := by decide +kernel
theorem d123_17 : decode cX8_clears 17 = .ok (.iconst 2, 1) := by decide +kernel
theorem d123_18 : decode cX8_clears 18 = .ok (.iaload, 1) := by decide +kernel
theorem d123_19 : decode cX8_clears 19 = .ok (.iconst 0, 1) := by decide +kernel
theorem d123_20 : decode cX8_clears 20 = .ok (.iconst 0, 1) := by decide +kernel
theorem d123_21 : decode cX8_clears 21 = .ok (.iload_n 3, 1) := by decide +kernel
theorem d123_22 : decode cX8_clears 22 = .ok (.ineg, 1) := by decide +kernel
theorem d123_23 : decode cX8_clears 23 = .ok (.iconst 1, 1) := by decide +kernel
theorem d123_24 : decode cX8_clears 24 = .ok (.invokevirtual 154, 3) := by decide +kernel
theorem d123_27 : decode cX8_clears 27 = .ok (.ifCond .ne 5, 3) := by decide +kernel
theorem d123_30 : decode cX8_clears 30 = .ok (.iconst 0, 1) := by decide +kernel
theorem d123_31 : decode cX8_clears 31 = .ok (.ireturn, 1) := by decide +kernel
theorem d123_32 : decode cX8_clears 32 = .ok (.aload_n 0, 1) := by decide +kernel
theorem d123_33 : decode cX8_clears 33 = .ok (.getfield 47, 3) := by decide +kernel
theorem d123_36 : decode cX8_clears 36 = .ok (.iconst 2, 1) := by decide +kernel
theorem d123_37 : decode cX8_clears 37 = .ok (.iaload, 1) := by decide +kernel
theorem d123_38 : decode cX8_clears 38 = .ok (.istore 4, 2) := by decide +kernel
theorem d123_40 : decode cX8_clears 40 = .ok (.aload_n 0, 1) := by decide +kernel
theorem d123_41 : decode cX8_clears 41 = .ok (.aload_n 0, 1) := by decide +kernel
theorem d123_42 : decode cX8_clears 42 = .ok (.getfield 47, 3) := by decide +kernel
theorem d123_45 : decode cX8_clears 45 = .ok (.iconst 0, 1) := by decide +kernel
theorem d123_46 : decode cX8_clears 46 = .ok (.iaload, 1) := by decide +kernel
theorem d123_47 : decode cX8_clears 47 = .ok (.aload_n 0, 1) := by decide +kernel
theorem d123_48 : decode cX8_clears 48 = .ok (.getfield 47, 3) := by decide +kernel
theorem d123_51 : decode cX8_clears 51 = .ok (.iconst 1, 1) := by decide +kernel
theorem d123_52 : decode cX8_clears 52 = .ok (.iaload, 1) := by decide +kernel
theorem d123_53 : decode cX8_clears 53 = .ok (.iload 4, 2) := by decide +kernel
theorem d123_55 : decode cX8_clears 55 = .ok (.iload_n 1, 1) := by decide +kernel
theorem d123_56 : decode cX8_clears 56 = .ok (.iconst 0, 1) := by decide +kernel
theorem d123_57 : decode cX8_clears 57 = .ok (.iconst 0, 1) := by decide +kernel
theorem d123_58 : decode cX8_clears 58 = .ok (.iconst 1, 1) := by decide +kernel
theorem d123_59 : decode cX8_clears 59 = .ok (.invokevirtual 154, 3) := by decide +kernel
theorem d123_62 : decode cX8_clears 62 = .ok (.ifCond .ne 5, 3) := by decide +kernel
theorem d123_65 : decode cX8_clears 65 = .ok (.iconst 0, 1) := by decide +kernel
theorem d123_66 : decode cX8_clears 66 = .ok (.ireturn, 1) := by decide +kernel
theorem d123_67 : decode cX8_clears 67 = .ok (.iconst 0, 1) := by decide +kernel
theorem d123_68 : decode cX8_clears 68 = .ok (.istore 5, 2) := by decide +kernel
theorem d123_70 : decode cX8_clears 70 = .ok (.iload 5, 2) := by decide +kernel
theorem d123_72 : decode cX8_clears 72 = .ok (.iload_n 2, 1) := by decide +kernel
theorem d123_73 : decode cX8_clears 73 = .ok (.if_icmp .ge 75, 3) := by decide +kernel
theorem d123_76 : decode cX8_clears 76 = .ok (.aload_n 0, 1) := by decide +kernel
theorem d123_77 : decode cX8_clears 77 = .ok (.aload_n 0, 1) := by decide +kernel
theorem d123_78 : decode cX8_clears 78 = .ok (.getfield 47, 3) := by decide +kernel
theorem d123_81 : decode cX8_clears 81 = .ok (.iconst 0, 1) := by decide +kernel
theorem d123_82 : decode cX8_clears 82 = .ok (.iaload, 1) := by decide +kernel
theorem d123_83 : decode cX8_clears 83 = .ok (.aload_n 0, 1) := by decide +kernel
theorem d123_84 : decode cX8_clears 84 = .ok (.getfield 47, 3) := by decide +kernel
theorem d123_87 : decode cX8_clears 87 = .ok (.iconst 1, 1) := by decide +kernel
theorem d123_88 : decode cX8_clears 88 = .ok (.iaload, 1) := by decide +kernel
theorem d123_89 : decode cX8_clears 89 = .ok (.iload 4, 2) := by decide +kernel
theorem d123_91 : decode cX8_clears 91 = .ok (.iconst 0, 1) := by decide +kernel
theorem d123_92 : decode cX8_clears 92 = .ok (.iconst 1, 1) := by decide +kernel
theorem d123_93 : decode cX8_clears 93 = .ok (.iconst 0, 1) := by decide +kernel
theorem d123_94 : decode cX8_clears 94 = .ok (.iconst 1, 1) := by decide +kernel
theorem d123_95 : decode cX8_clears 95 = .ok (.invokevirtual 154, 3) := by decide +kernel
theorem d123_98 : decode cX8_clears 98 = .ok (.ifCond .ne 5, 3) := by decide +kernel
theorem d123_101 : decode cX8_clears 101 = .ok (.iconst 0, 1) := by decide +kernel
theorem d123_102 : decode cX8_clears 102 = .ok (.ireturn, 1) := by decide +kernel
theorem d123_103 : decode cX8_clears 103 = .ok (.aload_n 0, 1) := by decide +kernel
theorem d123_104 : decode cX8_clears 104 = .ok (.aload_n 0, 1) := by decide +kernel
theorem d123_105 : decode cX8_clears 105 = .ok (.getfield 47, 3) := by decide +kernel
theorem d123_108 : decode cX8_clears 108 = .ok (.iconst 0, 1) := by decide +kernel
theorem d123_109 : decode cX8_clears 109 = .ok (.iaload, 1) := by decide +kernel
theorem d123_110 : decode cX8_clears 110 = .ok (.aload_n 0, 1) := by decide +kernel
theorem d123_111 : decode cX8_clears 111 = .ok (.getfield 47, 3) := by decide +kernel
theorem d123_114 : decode cX8_clears 114 = .ok (.iconst 1, 1) := by decide +kernel
theorem d123_115 : decode cX8_clears 115 = .ok (.iaload, 1) := by decide +kernel
theorem d123_116 : decode cX8_clears 116 = .ok (.iload 4, 2) := by decide +kernel
theorem d123_118 : decode cX8_clears 118 = .ok (.iload 5, 2) := by decide +kernel
theorem d123_120 : decode cX8_clears 120 = .ok (.iconst 2, 1) := by decide +kernel
theorem d123_121 : decode cX8_clears 121 = .ok (.irem, 1) := by decide +kernel
theorem d123_122 : decode cX8_clears 122 = .ok (.ifCond .ne 8, 3) := by decide +kernel
theorem d123_125 : decode cX8_clears 125 = .ok (.iload_n 1, 1) := by decide +kernel
theorem d123_126 : decode cX8_clears 126 = .ok (.ineg, 1) := by decide +kernel
theorem d123_127 : decode cX8_clears 127 = .ok (.goto 4, 3) := by decide +kernel
theorem d123_130 : decode cX8_clears 130 = .ok (.iload_n 1, 1) := by decide +kernel
theorem d123_131 : decode cX8_clears 131 = .ok (.iconst 0, 1) := by decide +kernel
theorem d123_132 : decode cX8_clears 132 = .ok (.iconst 0, 1) := by decide +kernel
theorem d123_133 : decode cX8_clears 133 = .ok (.iconst 1, 1) := by decide +kernel
theorem d123_134 : decode cX8_clears 134 = .ok (.invokevirtual 154, 3) := by decide +kernel
theorem d123_137 : decode cX8_clears 137 = .ok (.ifCond .ne 5, 3) := by decide +kernel
theorem d123_140 : decode cX8_clears 140 = .ok (.iconst 0, 1) := by decide +kernel
theorem d123_141 : decode cX8_clears 141 = .ok (.ireturn, 1) := by decide +kernel
theorem d123_142 : decode cX8_clears 142 = .ok (.iinc 5 1, 3) := by decide +kernel
theorem d123_145 : decode cX8_clears 145 = .ok (.goto (-75), 3) := by decide +kernel
theorem d123_148 : decode cX8_clears 148 = .ok (.aload_n 0, 1) := by decide +kernel
theorem d123_149 : decode cX8_clears 149 = .ok (.getfield 47, 3) := by decide +kernel
theorem d123_152 : decode cX8_clears 152 = .ok (.iconst 2, 1) := by decide +kernel
theorem d123_153 : decode cX8_clears 153 = .ok (.aload_n 0, 1) := by decide +kernel
theorem d123_154 : decode cX8_clears 154 = .ok (.getfield 44, 3) := by decide +kernel
theorem d123_157 : decode cX8_clears 157 = .ok (.iconst 2, 1) := by decide +kernel
theorem d123_158 : decode cX8_clears 158 = .ok (.iaload, 1) := by decide +kernel
theorem d123_159 : decode cX8_clears 159 = .ok (.iastore, 1) := by decide +kernel
theorem d123_160 : decode cX8_clears 160 = .ok (.iconst 1, 1) := by decide +kernel
theorem d123_161 : decode cX8_clears 161 = .ok (.ireturn, 1) := by decide +kernel
theorem v123_0 : am_all (am_V9 123) am_l123_0 := ⟨Or.inr ⟨1, d123_0, rfl, rfl, rfl, trivial, trivial⟩, Or.inr ⟨1, d123_1, rfl, rfl, rfl, trivial, trivial⟩, Or.inr ⟨3, d123_2, rfl, rfl, trivial, ⟨RX8, TX8, 27, rfl, by decide, Or.inl aw_933⟩, trivial⟩, Or.inr ⟨1, d123_5, rfl, rfl, am_eq9 (by decide +kernel), trivial, trivial⟩, Or.inr ⟨1, d123_6, rfl, rfl, trivial, trivial, trivial⟩, Or.inr ⟨1, d123_7, rfl, rfl, rfl, trivial, trivial⟩, Or.inr ⟨3, d123_8, rfl, rfl, trivial, ⟨RX8, TX8, 27, rfl, by decide, Or.inl aw_933⟩, trivial⟩, Or.inr ⟨1, d123_11, rfl, rfl, am_eq9 (by decide +kernel), trivial, trivial⟩, Or.inr ⟨1, d123_12, rfl, rfl, trivial, trivial, trivial⟩, Or.inr ⟨1, d123_13, rfl, rfl, rfl, trivial, trivial⟩, Or.inr ⟨3, d123_14, rfl, rfl, trivial, ⟨RX8, TX8, 27, rfl, by decide, Or.inl aw_933⟩, trivial⟩, Or.inr ⟨1, d123_17, rfl, rfl, am_eq9 (by decide +kernel), trivial, trivial⟩, Or.inr ⟨1, d123_18, rfl, rfl, trivial, trivial, trivial⟩, Or.inr ⟨1, d123_19, rfl, rfl, am_eq9 (by decide +kernel), trivial, trivial⟩, Or.inr ⟨1, d123_20, rfl, rfl, am_eq9 (by decide +kernel), trivial, trivial⟩, Or.inr ⟨1, d123_21, rfl, rfl, rfl, trivial, trivial⟩, Or.inr ⟨1, d123_22, rfl, rfl, trivial, trivial, trivial⟩, Or.inr ⟨1, d123_23, rfl, rfl, am_eq9 (by decide +kernel), trivial, trivial⟩, Or.inr ⟨3, d123_24, rfl, rfl, trivial, trivial, ⟨by decide, ⟨_, TX8, 27, rfl, okM_121, rfl⟩, aw_1091, aw_1093, as_121⟩⟩, Or.inr ⟨3, d123_27, rfl, rfl, rfl, trivial, trivial⟩, Or.inr ⟨1, d123_30, rfl, rfl, am_eq9 (by decide +kernel), trivial, trivial⟩, Or.inr ⟨1, d123_31, rfl, rfl, trivial, trivial, trivial⟩, Or.inr ⟨1, d123_32, rfl, rfl, rfl, trivial, trivial⟩, Or.inr ⟨3, d123_33, rfl, rfl, trivial, ⟨RX8, TX8, 27, rfl, by decide, Or.inl aw_934⟩, trivial⟩, trivial⟩
theorem v123_1 : am_all (am_V9 123) am_l123_1 := ⟨Or.inr ⟨1, d123_36, rfl, rfl, am_eq9 (by decide +kernel), trivial, trivial⟩, Or.inr ⟨1, d123_37, rfl, rfl, trivial, trivial, trivial⟩, Or.inr ⟨2, d123_38, rfl, rfl, rfl, trivial, trivial⟩, Or.inr ⟨1, d123_40, rfl, rfl, rfl, trivial, trivial⟩, Or.inr ⟨1, d123_41, rfl, rfl, rfl, trivial, trivial⟩, Or.inr ⟨3, d123_42, rfl, rfl, trivial, ⟨RX8, TX8, 27, rfl, by decide, Or.inl aw_934⟩, trivial⟩, Or.inr ⟨1, d123_45, rfl, rfl, am_eq9 (by decide +kernel), trivial, trivial⟩, Or.inr ⟨1, d123_46, rfl, rfl, trivial, trivial, trivial⟩, Or.inr ⟨1, d123_47, rfl, rfl, rfl, trivial, trivial⟩, Or.inr ⟨3, d123_48, rfl, rfl, trivial, ⟨RX8, TX8, 27, rfl, by decide, Or.inl aw_934⟩, trivial⟩, Or.inr ⟨1, d123_51, rfl, rfl, am_eq9 (by decide +kernel), trivial, trivial⟩, Or.inr ⟨1, d123_52, rfl, rfl, trivial, trivial, trivial⟩, Or.inr ⟨2, d123_53, rfl, rfl, rfl, trivial, trivial⟩, Or.inr ⟨1, d123_55, rfl, rfl, rfl, trivial, trivial⟩, Or.inr ⟨1, d123_56, rfl, rfl, am_eq9 (by decide +kernel), trivial, trivial⟩, Or.inr ⟨1, d123_57, rfl, rfl, am_eq9 (by decide +kernel), trivial, trivial⟩, Or.inr ⟨1, d123_58, rfl, rfl, am_eq9 (by decide +kernel), trivial, trivial⟩, Or.inr ⟨3, d123_59, rfl, rfl, trivial, trivial, ⟨by decide, ⟨_, TX8, 27, rfl, okM_121, rfl⟩, aw_1091, aw_1093, as_121⟩⟩, Or.inr ⟨3, d123_62, rfl, rfl, rfl, trivial, trivial⟩, Or.inr ⟨1, d123_65, rfl, rfl, am_eq9 (by decide +kernel), trivial, trivial⟩, Or.inr ⟨1, d123_66, rfl, rfl, trivial, trivial, trivial⟩, Or.inr ⟨1, d123_67, rfl, rfl, am_eq9 (by decide +kernel), trivial, trivial⟩, Or.inr ⟨2, d123_68, rfl, rfl, rfl, trivial, trivial⟩, Or.inr ⟨2, d123_70, rfl, rfl, rfl, trivial, trivial⟩, trivial⟩
theorem v123_2 : am_all (am_V9 123) am_l123_2 := ⟨Or.inr ⟨1, d123_72, rfl, rfl, rfl, trivial, trivial⟩, Or.inr ⟨3, d123_73, rfl, rfl, rfl, trivial, trivial⟩, Or.inr ⟨1, d123_76, rfl, rfl, rfl, trivial, trivial⟩, Or.inr ⟨1, d123_77, rfl, rfl, rfl, trivial, trivial⟩, Or.inr ⟨3, d123_78, rfl, rfl, trivial, ⟨RX8, TX8, 27, rfl, by decide, Or.inl aw_934⟩, trivial⟩, Or.inr ⟨1, d123_81, rfl, rfl, am_eq9 (by decide +kernel), trivial, trivial⟩, Or.inr ⟨1, d123_82, rfl, rfl, trivial, trivial, trivial⟩, Or.inr ⟨1, d123_83, rfl, rfl, rfl, trivial, trivial⟩, Or.inr ⟨3, d123_84, rfl, rfl, trivial, ⟨RX8, TX8, 27, rfl, by decide, Or.inl aw_934⟩, trivial⟩, Or.inr ⟨1, d123_87, rfl, rfl, am_eq9 (by decide +kernel), trivial, trivial⟩, Or.inr ⟨1, d123_88, rfl, rfl, trivial, trivial, trivial⟩, Or.inr ⟨2, d123_89, rfl, rfl, rfl, trivial, trivial⟩, Or.inr ⟨1, d123_91, rfl, rfl, am_eq9 (by decide +kernel), trivial, trivial⟩, Or.inr ⟨1, d123_92, rfl, rfl, am_eq9 (by decide +kernel), trivial, trivial⟩, Or.inr ⟨1, d123_93, rfl, rfl, am_eq9 (by decide +kernel), trivial, trivial⟩, Or.inr ⟨1, d123_94, rfl, rfl, am_eq9 (by decide +kernel), trivial, trivial⟩, Or.inr ⟨3, d123_95, rfl, rfl, trivial, trivial, ⟨by decide, ⟨_, TX8, 27, rfl, okM_121, rfl⟩, aw_1091, aw_1093, as_121⟩⟩, Or.inr ⟨3, d123_98, rfl, rfl, rfl, trivial, trivial⟩, Or.inr ⟨1, d123_101, rfl, rfl, am_eq9 (by decide +kernel), trivial, trivial⟩, Or.inr ⟨1, d123_102, rfl, rfl, trivial, trivial, trivial⟩, Or.inr ⟨1, d123_103, rfl, rfl, rfl, trivial, trivial⟩, Or.inr ⟨1, d123_104, rfl, rfl, rfl, trivial, trivial⟩, Or.inr ⟨3, d123_105, rfl, rfl, trivial, ⟨RX8, TX8, 27, rfl, by decide, Or.inl aw_934⟩, trivial⟩, Or.inr ⟨1, d123_108, rfl, rfl, am_eq9 (by decide +kernel), trivial, trivial⟩, trivial⟩
theorem v123_3 : am_all (am_V9 123) am_l123_3 := ⟨Or.inr ⟨1, d123_109, rfl, rfl, trivial, trivial, trivial⟩, Or.inr ⟨1, d123_110, rfl, rfl, rfl, trivial, trivial⟩, Or.inr ⟨3, d123_111, rfl, rfl, trivial, ⟨RX8, TX8, 27, rfl, by decide, Or.inl aw_934⟩, trivial⟩, Or.inr ⟨1, d123_114, rfl, rfl, am_eq9 (by decide +kernel), trivial, trivial⟩, Or.inr ⟨1, d123_115, rfl, rfl, trivial, trivial, trivial⟩, Or.inr ⟨2, d123_116, rfl, rfl, rfl, trivial, trivial⟩, Or.inr ⟨2, d123_118, rfl, rfl, rfl, trivial, trivial⟩, Or.inr ⟨1, d123_120, rfl, rfl, am_eq9 (by decide +kernel), trivial, trivial⟩, Or.inr ⟨1, d123_121, rfl, rfl, trivial, trivial, trivial⟩, Or.inr ⟨3, d123_122, rfl, rfl, rfl, trivial, trivial⟩, Or.inr ⟨1, d123_125, rfl, rfl, rfl, trivial, trivial⟩, Or.inr ⟨1, d123_126, rfl, rfl, trivial, trivial, trivial⟩, Or.inr ⟨3, d123_127, rfl, rfl, rfl, trivial, trivial⟩, Or.inr ⟨1, d123_130, rfl, rfl, rfl, trivial, trivial⟩, Or.inr ⟨1, d123_131, rfl, rfl, am_eq9 (by decide +kernel), trivial, trivial⟩, Or.inr ⟨1, d123_132, rfl, rfl, am_eq9 (by decide +kernel), trivial, trivial⟩, Or.inr ⟨1, d123_133, rfl, rfl, am_eq9 (by decide +kernel), trivial, trivial⟩, Or.inr ⟨3, d123_134, rfl, rfl, trivial, trivial, ⟨by decide, ⟨_, TX8, 27, rfl, okM_121, rfl⟩, aw_1091, aw_1093, as_121⟩⟩, Or.inr ⟨3, d123_137, rfl, rfl, rfl, trivial, trivial⟩, Or.inr ⟨1, d123_140, rfl, rfl, am_eq9 (by decide +kernel), trivial, trivial⟩, Or.inr ⟨1, d123_141, rfl, rfl, trivial, trivial, trivial⟩, Or.inr ⟨3, d123_142, rfl, rfl, ⟨rfl, by decide⟩, trivial, trivial⟩, Or.inr ⟨3, d123_145, rfl, rfl, rfl, trivial, trivial⟩, Or.inr ⟨1, d123_148, rfl, rfl, rfl, trivial, trivial⟩, trivial⟩
theorem v123_4 : am_all (am_V9 123) am_l123_4 := ⟨Or.inr ⟨3, d123_149, rfl, rfl, trivial, ⟨RX8, TX8, 27, rfl, by decide, Or.inl aw_934⟩, trivial⟩, Or.inr ⟨1, d123_152, rfl, rfl, am_eq9 (by decide +kernel), trivial, trivial⟩, Or.inr ⟨1, d123_153, rfl, rfl, rfl, trivial, trivial⟩, Or.inr ⟨3, d123_154, rfl, rfl, trivial, ⟨RX8, TX8, 27, rfl, by decide, Or.inl aw_933⟩, trivial⟩, Or.inr ⟨1, d123_157, rfl, rfl, am_eq9 (by decide +kernel), trivial, trivial⟩, Or.inr ⟨1, d123_158, rfl, rfl, trivial, trivial, trivial⟩, Or.inr ⟨1, d123_159, rfl, rfl, trivial, trivial, trivial⟩, Or.inr ⟨1, d123_160, rfl, rfl, am_eq9 (by decide +kernel), trivial, trivial⟩, Or.inr ⟨1, d123_161, rfl, rfl, trivial, trivial, trivial⟩, trivial⟩
theorem v123 : ∀ pc, am_V9 123 pc ((am_G 123).2.2.2.2.1 pc) := am_all_lc am_V9_0 _ ⟨v123_0, v123_1, v123_2, v123_3, v123_4, trivial⟩
theorem d124_0 : decode cX8_moves 0 = .ok (.iload_n 1, 1) := by decide +kernel
theorem d124_1 : decode cX8_moves 1 = .ok (.bipush 100, 2) := by decide +kernel
theorem d124_3 : decode cX8_moves 3 = .ok (.if_icmp .ne 10, 3) := by decide +kernel
theorem d124_6 : decode cX8_moves 6 = .ok (.aload_n 0, 1) := by decide +kernel
theorem d124_7 : decode cX8_moves 7 = .ok (.iload_n 2, 1) := by decide +kernel
theorem d124_8 : decode cX8_moves 8 = .ok (.iload_n 3, 1) := by decide +kernel
theorem d124_9 : decode cX8_moves 9 = .ok (.invokevirtual 158, 3) := by decide +kernel
theorem d124_12 : decode cX8_moves 12 = .ok (.ireturn, 1) := by decide +kernel
theorem d124_13 : decode cX8_moves 13 = .ok (.iload_n 1, 1) := by decide +kernel
theorem d124_14 : decode cX8_moves 14 = .ok (.bipush 112, 2) := by decide +kernel
theorem d124_16 : decode cX8_moves 16 = .ok (.if_icmp .ne 12, 3) := by decide +kernel
theorem d124_19 : decode cX8_moves 19 = .ok (.aload_n 0, 1) := by decide +kernel
theorem d124_20 : decode cX8_moves 20 = .ok (.iload_n 2, 1) := by decide +kernel
theorem d124_21 : decode cX8_moves 21 = .ok (.iload_n 3, 1) := by decide +kernel
theorem d124_22 : decode cX8_moves 22 = .ok (.iload 4, 2) := by decide +kernel
theorem d124_24 : decode cX8_moves 24 = .ok (.invokevirtual 161, 3) := by decide +kernel
theorem d124_27 : decode cX8_moves 27 = .ok (.ireturn, 1) := by decide +kernel
theorem d124_28 : decode cX8_moves 28 = .ok (.aload_n 0, 1) := by decide +kernel
theorem d124_29 : decode cX8_moves 29 = .ok (.getfield 79, 3) := by decide +kernel
theorem d124_32 : decode cX8_moves 32 = .ok (.ifCond .eq 7, 3) := by decide +kernel
theorem d124_35 : decode cX8_moves 35 = .ok (.iload_n 2, 1) := by decide +kernel
theorem d124_36 : decode cX8_moves 36 = .ok (.goto 23, 3) := by decide +kernel
theorem d124_39 : decode cX8_moves 39 = .ok (.iload_n 2, 1) := by decide +kernel
theorem d124_40 : decode cX8_moves 40 = .ok (.aload_n 0, 1) := by decide +kernel
theorem d124_41 : decode cX8_moves 41 = .ok (.getfield 41, 3) := by decide +kernel
theorem d124_44 : decode cX8_moves 44 = .ok (.iconst 3, 1) := by decide +kernel
theorem d124_45 : decode cX8_moves 45 = .ok (.aload_n 0, 1) := by decide +kernel
theorem d124_46 : decode cX8_moves 46 = .ok (.getfield 76, 3) := by decide +kernel
theorem d124_49 : decode cX8_moves 49 = .ok (.imul, 1) := by decide +kernel
theorem d124_50 : decode cX8_moves 50 = .ok (.iaload, 1) := by decide +kernel
theorem d124_51 : decode cX8_moves 51 = .ok (.iadd, 1) := by decide +kernel
theorem d124_52 : decode cX8_moves 52 = .ok (.aload_n 0, 1) := by decide +kernel
theorem d124_53 : decode cX8_moves 53 = .ok (.getfield 44, 3) := by decide +kernel
theorem d124_56 : decode cX8_moves 56 = .ok (.iconst 0, 1) := by decide +kernel
theorem d124_57 : decode cX8_moves 57 = .ok (.iaload, 1) := by decide +kernel
theorem d124_58 : decode cX8_moves 58 = .ok (.isub, 1) := by decide +kernel
theorem d124_59 : decode cX8_moves 59 = .ok (.istore 5, 2) := by decide +kernel
theorem d124_61 : decode cX8_moves 61 = .ok (.aload_n 0, 1) := by decide +kernel
theorem d124_62 : decode cX8_moves 62 = .ok (.getfield 79, 3) := by decide +kernel
theorem d124_65 : decode cX8_moves 65 = .ok (.ifCond .eq 7, 3) := by decide +kernel
theorem d124_68 : decode cX8_moves 68 = .ok (.iload_n 3, 1) := by decide +kernel
theorem d124_69 : decode cX8_moves 69 = .ok (.goto 25, 3) := by decide +kernel
theorem d124_72 : decode cX8_moves 72 = .ok (.iload_n 3, 1) := by decide +kernel
theorem d124_73 : decode cX8_moves 73 = .ok (.aload_n 0, 1) := by decide +kernel
theorem d124_74 : decode cX8_moves 74 = .ok (.getfield 41, 3) := by decide +kernel
theorem d124_77 : decode cX8_moves 77 = .ok (.iconst 3, 1) := by decide +kernel
theorem d124_78 : decode cX8_moves 78 = .ok (.aload_n 0, 1) := by decide +kernel
theorem d124_79 : decode cX8_moves 79 = .ok (.getfield 76, 3) := by decide +kernel
theorem d124_82 : decode cX8_moves 82 = .ok (.imul, 1) := by decide +kernel
theorem d124_83 : decode cX8_moves 83 = .ok (.iconst 1, 1) := by decide +kernel
theorem d124_84 : decode cX8_moves 84 = .ok (.iadd, 1) := by decide +kernel
theorem d124_85 : decode cX8_moves 85 = .ok (.iaload, 1) := by decide +kernel
theorem d124_86 : decode cX8_moves 86 = .ok (.iadd, 1) := by decide +kernel
theorem d124_87 : decode cX8_moves 87 = .ok (.aload_n 0, 1) := by decide +kernel
theorem d124_88 : decode cX8_moves 88 = .ok (.getfield 44, 3) := by decide +kernel
theorem d124_91 : decode cX8_moves 91 = .ok (.iconst 1, 1) := by decide +kernel
theorem d124_92 : decode cX8_moves 92 = .ok (.iaload, 1) := by decide +kernel
theorem d124_93 : decode cX8_moves 93 = .ok (.isub, 1) := by decide +kernel
theorem d124_94 : decode cX8_moves 94 = .ok (.istore 6, 2) := by decide +kernel
theorem d124_96 : decode cX8_moves 96 = .ok (.aload_n 0, 1) := by decide +kernel
theorem d124_97 : decode cX8_moves 97 = .ok (.getfield 79, 3) := by decide +kernel
theorem d124_100 : decode cX8_moves 100 = .ok (.ifCond .eq 8, 3) := by decide +kernel
theorem d124_103 : decode cX8_moves 103 = .ok (.iload 4, 2) := by decide +kernel
theorem d124_105 : decode cX8_moves 105 = .ok (.goto 26, 3) := by decide +kernel
theorem d124_108 : decode cX8_moves 108 = .ok (.iload 4, 2) := by decide +kernel
theorem d124_110 : decode cX8_moves 110 = .ok (.aload_n 0, 1) := by decide +kernel
theorem d124_111 : decode cX8_moves 111 = .ok (.getfield 41, 3) := by decide +kernel
theorem d124_114 : decode cX8_moves 114 = .ok (.iconst 3, 1) := by decide +kernel
theorem d124_115 : decode cX8_moves 115 = .ok (.aload_n 0, 1) := by decide +kernel
theorem d124_116 : decode cX8_moves 116 = .ok (.getfield 76, 3) := by decide +kernel
theorem d124_119 : decode cX8_moves 119 = .ok (.imul, 1) := by decide +kernel
theorem d124_120 : decode cX8_moves 120 = .ok (.iconst 2, 1) := by decide +kernel
theorem d124_121 : decode cX8_moves 121 = .ok (.iadd, 1) := by decide +kernel
theorem d124_122 : decode cX8_moves 122 = .ok (.iaload, 1) := by decide +kernel
theorem d124_123 : decode cX8_moves 123 = .ok (.iadd, 1) := by decide +kernel
theorem d124_124 : decode cX8_moves 124 = .ok (.aload_n 0, 1) := by decide +kernel
theorem d124_125 : decode cX8_moves 125 = .ok (.getfield 44, 3) := by decide +kernel
theorem d124_128 : decode cX8_moves 128 = .ok (.iconst 2, 1) := by decide +kernel
theorem d124_129 : decode cX8_moves 129 = .ok (.iaload, 1) := by decide +kernel
theorem d124_130 : decode cX8_moves 130 = .ok (.isub, 1) := by decide +kernel
theorem d124_131 : decode cX8_moves 131 = .ok (.istore 7, 2) := by decide +kernel
theorem d124_133 : decode cX8_moves 133 = .ok (.aload_n 0, 1) := by decide +kernel
theorem d124_134 : decode cX8_moves 134 = .ok (.aload_n 0, 1) := by decide +kernel
theorem d124_135 : decode cX8_moves 135 = .ok (.getfield 44, 3) := by decide +kernel
theorem d124_138 : decode cX8_moves 138 = .ok (.iconst 0, 1) := by decide +kernel
theorem d124_139 : decode cX8_moves 139 = .ok (.iaload, 1) := by decide +kernel
theorem d124_140 : decode cX8_moves 140 = .ok (.aload_n 0, 1) := by decide +kernel
theorem d124_141 : decode cX8_moves 141 = .ok (.getfield 44, 3) := by decide +kernel
theorem d124_144 : decode cX8_moves 144 = .ok (.iconst 1, 1) := by decide +kernel
theorem d124_145 : decode cX8_moves 145 = .ok (.iaload, 1) := by decide +kernel
theorem d124_146 : decode cX8_moves 146 = .ok (.aload_n 0, 1) := by decide +kernel
theorem d124_147 : decode cX8_moves 147 = .ok (.getfield 44, 3) := by decide +kernel
theorem d124_150 : decode cX8_moves 150 = .ok (.iconst 2, 1) := by decide +kernel
theorem d124_151 : decode cX8_moves 151 = .ok (.iaload, 1) := by decide +kernel
theorem d124_152 : decode cX8_moves 152 = .ok (.iload 5, 2) := by decide +kernel
theorem d124_154 : decode cX8_moves 154 = .ok (.iload 6, 2) := by decide +kernel
theorem d124_156 : decode cX8_moves 156 = .ok (.iload 7, 2) := by decide +kernel
theorem d124_158 : decode cX8_moves 158 = .ok (.iload_n 1, 1) := by decide +kernel
theorem d124_159 : decode cX8_moves 159 = .ok (.bipush 108, 2) := by decide +kernel
theorem d124_161 : decode cX8_moves 161 = .ok (.if_icmp .ne 7, 3) := by decide +kernel
theorem d124_164 : decode cX8_moves 164 = .ok (.iconst 1, 1) := by decide +kernel
theorem d124_165 : decode cX8_moves 165 = .ok (.goto 4, 3) := by decide +kernel
theorem d124_168 : decode cX8_moves 168 = .ok (.iconst 0, 1) := by decide +kernel
theorem d124_169 : decode cX8_moves 169 = .ok (.invokevirtual 154, 3) := by decide +kernel
theorem d124_172 : decode cX8_moves 172 = .ok (.ireturn, 1) := by decide +kernel
theorem v124_0 : am_all (am_V9 124) am_l124_0 := ⟨Or.inr ⟨1, d124_0, rfl, rfl, rfl, trivial, trivial⟩, Or.inr ⟨2, d124_1, rfl, rfl, am_eq9 (by decide +kernel), trivial, trivial⟩, Or.inr ⟨3, d124_3, rfl, rfl, rfl, trivial, trivial⟩, Or.inr ⟨1, d124_6, rfl, rfl, rfl, trivial, trivial⟩, Or.inr ⟨1, d124_7, rfl, rfl, rfl, trivial, trivial⟩, Or.inr ⟨1, d124_8, rfl, rfl, rfl, trivial, trivial⟩, Or.inr ⟨3, d124_9, rfl, rfl, trivial, trivial, ⟨by decide, ⟨_, TX8, 27, rfl, okM_122, rfl⟩, aw_1087, aw_1089, as_122⟩⟩, Or.inr ⟨1, d124_12, rfl, rfl, trivial, trivial, trivial⟩, Or.inr ⟨1, d124_13, rfl, rfl, rfl, trivial, trivial⟩, Or.inr ⟨2, d124_14, rfl, rfl, am_eq9 (by decide +kernel), trivial, trivial⟩, Or.inr ⟨3, d124_16, rfl, rfl, rfl, trivial, trivial⟩, Or.inr ⟨1, d124_19, rfl, rfl, rfl, trivial, trivial⟩, Or.inr ⟨1, d124_20, rfl, rfl, rfl, trivial, trivial⟩, Or.inr ⟨1, d124_21, rfl, rfl, rfl, trivial, trivial⟩, Or.inr ⟨2, d124_22, rfl, rfl, rfl, trivial, trivial⟩, Or.inr ⟨3, d124_24, rfl, rfl, trivial, trivial, ⟨by decide, ⟨_, TX8, 27, rfl, okM_123, rfl⟩, aw_1114, aw_1116, as_123⟩⟩, Or.inr ⟨1, d124_27, rfl, rfl, trivial, trivial, trivial⟩, Or.inr ⟨1, d124_28, rfl, rfl, rfl, trivial, trivial⟩, Or.inr ⟨3, d124_29, rfl, rfl, trivial, ⟨RX8, TX8, 27, rfl, by decide, Or.inl aw_944⟩, trivial⟩, Or.inr ⟨3, d124_32, rfl, rfl, rfl, trivial, trivial⟩, Or.inr ⟨1, d124_35, rfl, rfl, rfl, trivial, trivial⟩, Or.inr ⟨3, d124_36, rfl, rfl, rfl, trivial, trivial⟩, Or.inr ⟨1, d124_39, rfl, rfl, rfl, trivial, trivial⟩, Or.inr ⟨1, d124_40, rfl, rfl, rfl, trivial, trivial⟩, trivial⟩
theorem v124_1 : am_all (am_V9 124) am_l124_1 := ⟨Or.inr ⟨3, d124_41, rfl, rfl, trivial, ⟨RX8, TX8, 27, rfl, by decide, Or.inl aw_932⟩, trivial⟩, Or.inr ⟨1, d124_44, rfl, rfl, am_eq9 (by decide +kernel), trivial, trivial⟩, Or.inr ⟨1, d124_45, rfl, rfl, rfl, trivial, trivial⟩, Or.inr ⟨3, d124_46, rfl, rfl, trivial, ⟨RX8, TX8, 27, rfl, by decide, Or.inl aw_943⟩, trivial⟩, Or.inr ⟨1, d124_49, rfl, rfl, trivial, trivial, trivial⟩, Or.inr ⟨1, d124_50, rfl, rfl, trivial, trivial, trivial⟩, Or.inr ⟨1, d124_51, rfl, rfl, trivial, trivial, trivial⟩, Or.inr ⟨1, d124_52, rfl, rfl, rfl, trivial, trivial⟩, Or.inr ⟨3, d124_53, rfl, rfl, trivial, ⟨RX8, TX8, 27, rfl, by decide, Or.inl aw_933⟩, trivial⟩, Or.inr ⟨1, d124_56, rfl, rfl, am_eq9 (by decide +kernel), trivial, trivial⟩, Or.inr ⟨1, d124_57, rfl, rfl, trivial, trivial, trivial⟩, Or.inr ⟨1, d124_58, rfl, rfl, trivial, trivial, trivial⟩, Or.inr ⟨2, d124_59, rfl, rfl, rfl, trivial, trivial⟩, Or.inr ⟨1, d124_61, rfl, rfl, rfl, trivial, trivial⟩, Or.inr ⟨3, d124_62, rfl, rfl, trivial, ⟨RX8, TX8, 27, rfl, by decide, Or.inl aw_944⟩, trivial⟩, Or.inr ⟨3, d124_65, rfl, rfl, rfl, trivial, trivial⟩, Or.inr ⟨1, d124_68, rfl, rfl, rfl, trivial, trivial⟩, Or.inr ⟨3, d124_69, rfl, rfl, rfl, trivial, trivial⟩, Or.inr ⟨1, d124_72, rfl, rfl, rfl, trivial, trivial⟩, Or.inr ⟨1, d124_73, rfl, rfl, rfl, trivial, trivial⟩, Or.inr ⟨3, d124_74, rfl, rfl, trivial, ⟨RX8, TX8, 27, rfl, by decide, Or.inl aw_932⟩, trivial⟩, Or.inr ⟨1, d124_77, rfl, rfl, am_eq9 (by decide +kernel), trivial, trivial⟩, Or.inr ⟨1, d124_78, rfl, rfl, rfl, trivial, trivial⟩, Or.inr ⟨3, d124_79, rfl, rfl, trivial, ⟨RX8, TX8, 27, rfl, by decide, Or.inl aw_943⟩, trivial⟩, trivial⟩
theorem v124_2 : am_all (am_V9 124) am_l124_2 := ⟨Or.inr ⟨1, d124_82, rfl, rfl, trivial, trivial, trivial⟩, Or.inr ⟨1, d124_83, rfl, rfl, am_eq9 (by decide +kernel), trivial, trivial⟩, Or.inr ⟨1, d124_84, rfl, rfl, trivial, trivial, trivial⟩, Or.inr ⟨1, d124_85, rfl, rfl, trivial, trivial, trivial⟩, Or.inr ⟨1, d124_86, rfl, rfl, trivial, trivial, trivial⟩, Or.inr ⟨1, d124_87, rfl, rfl, rfl, trivial, trivial⟩, Or.inr ⟨3, d124_88, rfl, rfl, trivial, ⟨RX8, TX8, 27, rfl, by decide, Or.inl aw_933⟩, trivial⟩, Or.inr ⟨1, d124_91, rfl, rfl, am_eq9 (by decide +kernel), trivial, trivial⟩, Or.inr ⟨1, d124_92, rfl, rfl, trivial, trivial, trivial⟩, Or.inr ⟨1, d124_93, rfl, rfl, trivial, trivial, trivial⟩, Or.inr ⟨2, d124_94, rfl, rfl, rfl, trivial, trivial⟩, Or.inr ⟨1, d124_96, rfl, rfl, rfl, trivial, trivial⟩, Or.inr ⟨3, d124_97, rfl, rfl, trivial, ⟨RX8, TX8, 27, rfl, by decide, Or.inl aw_944⟩, trivial⟩, Or.inr ⟨3, d124_100, rfl, rfl, rfl, trivial, trivial⟩, Or.inr ⟨2, d124_103, rfl, rfl, rfl, trivial, trivial⟩, Or.inr ⟨3, d124_105, rfl, rfl, rfl, trivial, trivial⟩, Or.inr ⟨2, d124_108, rfl, rfl, rfl, trivial, trivial⟩, Or.inr ⟨1, d124_110, rfl, rfl, rfl, trivial, trivial⟩, Or.inr ⟨3, d124_111, rfl, rfl, trivial, ⟨RX8, TX8, 27, rfl, by decide, Or.inl aw_932⟩, trivial⟩, Or.inr ⟨1, d124_114, rfl, rfl, am_eq9 (by decide +kernel), trivial, trivial⟩, Or.inr ⟨1, d124_115, rfl, rfl, rfl, trivial, trivial⟩, Or.inr ⟨3, d124_116, rfl, rfl, trivial, ⟨RX8, TX8, 27, rfl, by decide, Or.inl aw_943⟩, trivial⟩, Or.inr ⟨1, d124_119, rfl, rfl, trivial, trivial, trivial⟩, Or.inr ⟨1, d124_120, rfl, rfl, am_eq9 (by decide +kernel), trivial, trivial⟩, trivial⟩
theorem v124_3 : am_all (am_V9 124) am_l124_3 := ⟨Or.inr ⟨1, d124_121, rfl, rfl, trivial, trivial, trivial⟩, Or.inr ⟨1, d124_122, rfl, rfl, trivial, trivial, trivial⟩, Or.inr ⟨1, d124_123, rfl, rfl, trivial, trivial, trivial⟩, Or.inr ⟨1, d124_124, rfl, rfl, rfl, trivial, trivial⟩, Or.inr ⟨3, d124_125, rfl, rfl, trivial, ⟨RX8, TX8, 27, rfl, by decide, Or.inl aw_933⟩, trivial⟩, Or.inr ⟨1, d124_128, rfl, rfl, am_eq9 (by decide +kernel), trivial, trivial⟩, Or.inr ⟨1, d124_129, rfl, rfl, trivial, trivial, trivial⟩, Or.inr ⟨1, d124_130, rfl, rfl, trivial, trivial, trivial⟩, Or.inr ⟨2, d124_131, rfl, rfl, rfl, trivial, trivial⟩, Or.inr ⟨1, d124_133, rfl, rfl, rfl, trivial, trivial⟩, Or.inr ⟨1, d124_134, rfl, rfl, rfl, trivial, trivial⟩, Or.inr ⟨3, d124_135, rfl, rfl, trivial, ⟨RX8, TX8, 27, rfl, by decide, Or.inl aw_933⟩, trivial⟩, Or.inr ⟨1, d124_138, rfl, rfl, am_eq9 (by decide +kernel), trivial, trivial⟩, Or.inr ⟨1, d124_139, rfl, rfl, trivial, trivial, trivial⟩, Or.inr ⟨1, d124_140, rfl, rfl, rfl, trivial, trivial⟩, Or.inr ⟨3, d124_141, rfl, rfl, trivial, ⟨RX8, TX8, 27, rfl, by decide, Or.inl aw_933⟩, trivial⟩, Or.inr ⟨1, d124_144, rfl, rfl, am_eq9 (by decide +kernel), trivial, trivial⟩, Or.inr ⟨1, d124_145, rfl, rfl, trivial, trivial, trivial⟩, Or.inr ⟨1, d124_146, rfl, rfl, rfl, trivial, trivial⟩, Or.inr ⟨3, d124_147, rfl, rfl, trivial, ⟨RX8, TX8, 27, rfl, by decide, Or.inl aw_933⟩, trivial⟩, Or.inr ⟨1, d124_150, rfl, rfl, am_eq9 (by decide +kernel), trivial, trivial⟩, Or.inr ⟨1, d124_151, rfl, rfl, trivial, trivial, trivial⟩, Or.inr ⟨2, d124_152, rfl, rfl, rfl, trivial, trivial⟩, Or.inr ⟨2, d124_154, rfl, rfl, rfl, trivial, trivial⟩, trivial⟩
theorem v124_4 : am_all (am_V9 124) am_l124_4 := ⟨Or.inr ⟨2, d124_156, rfl, rfl, rfl, trivial, trivial⟩, Or.inr ⟨1, d124_158, rfl, rfl, rfl, trivial, trivial⟩, Or.inr ⟨2, d124_159, rfl, rfl, am_eq9 (by decide +kernel), trivial, trivial⟩, Or.inr ⟨3, d124_161, rfl, rfl, rfl, trivial, trivial⟩, Or.inr ⟨1, d124_164, rfl, rfl, am_eq9 (by decide +kernel), trivial, trivial⟩, Or.inr ⟨3, d124_165, rfl, rfl, rfl, trivial, trivial⟩, Or.inr ⟨1, d124_168, rfl, rfl, am_eq9 (by decide +kernel), trivial, trivial⟩, Or.inr ⟨3, d124_169, rfl, rfl, trivial, trivial, ⟨by decide, ⟨_, TX8, 27, rfl, okM_121, rfl⟩, aw_1091, aw_1093, as_121⟩⟩, Or.inr ⟨1, d124_172, rfl, rfl, trivial, trivial, trivial⟩, trivial⟩
theorem v124 : ∀ pc, am_V9 124 pc ((am_G 124).2.2.2.2.1 pc) := am_all_lc am_V9_0 _ ⟨v124_0, v124_1, v124_2, v124_3, v124_4, trivial⟩
theorem d125_0 : decode cX8_isWorn 0 = .ok (.aload_n 0, 1) := by decide +kernel
theorem d125_1 : decode cX8_isWorn 1 = .ok (.getfield 23, 3) := by decide +kernel
theorem d125_4 : decode cX8_isWorn 4 = .ok (.iload_n 1, 1) := by decide +kernel
theorem d125_5 : decode cX8_isWorn 5 = .ok (.iaload, 1) := by decide +kernel
theorem d125_6 : decode cX8_isWorn 6 = .ok (.aload_n 0, 1) := by decide +kernel
theorem d125_7 : decode cX8_isWorn 7 = .ok (.getfield 20, 3) := by decide +kernel
theorem d125_10 : decode cX8_isWorn 10 = .ok (.iload_n 1, 1) := by decide +kernel
theorem d125_11 : decode cX8_isWorn 11 = .ok (.iaload, 1) := by decide +kernel
theorem d125_12 : decode cX8_isWorn 12 = .ok (.if_icmp .lt 7, 3) := by decide +kernel
theorem d125_15 : decode cX8_isWorn 15 = .ok (.iconst 1, 1) := by decide +kernel
theorem d125_16 : decode cX8_isWorn 16 = .ok (.goto 4, 3) := by decide +kernel
theorem d125_19 : decode cX8_isWorn 19 = .ok (.iconst 0, 1) := by decide +kernel
theorem d125_20 : decode cX8_isWorn 20 = .ok (.ireturn, 1) := by decide +kernel
theorem v125_0 : am_all (am_V9 125) am_l125_0 := ⟨Or.inr ⟨1, d125_0, rfl, rfl, rfl, trivial, trivial⟩, Or.inr ⟨3, d125_1, rfl, rfl, trivial, ⟨RX8, TX8, 27, rfl, by decide, Or.inl aw_926⟩, trivial⟩, Or.inr ⟨1, d125_4, rfl, rfl, rfl, trivial, trivial⟩, Or.inr ⟨1, d125_5, rfl, rfl, trivial, trivial, trivial⟩, Or.inr ⟨1, d125_6, rfl, rfl, rfl, trivial, trivial⟩, Or.inr ⟨3, d125_7, rfl, rfl, trivial, ⟨RX8, TX8, 27, rfl, by decide, Or.inl aw_925⟩, trivial⟩, Or.inr ⟨1, d125_10, rfl, rfl, rfl, trivial, trivial⟩, Or.inr ⟨1, d125_11, rfl, rfl, trivial, trivial, trivial⟩, Or.inr ⟨3, d125_12, rfl, rfl, rfl, trivial, trivial⟩, Or.inr ⟨1, d125_15, rfl, rfl, am_eq9 (by decide +kernel), trivial, trivial⟩, Or.inr ⟨3, d125_16, rfl, rfl, rfl, trivial, trivial⟩, Or.inr ⟨1, d125_19, rfl, rfl, am_eq9 (by decide +kernel), trivial, trivial⟩, Or.inr ⟨1, d125_20, rfl, rfl, trivial, trivial, trivial⟩, trivial⟩
theorem v125 : ∀ pc, am_V9 125 pc ((am_G 125).2.2.2.2.1 pc) := am_all_lc am_V9_0 _ ⟨v125_0, trivial⟩
theorem d126_0 : decode cX8_movesByBlock 0 = .ok (.iload_n 1, 1) := by decide +kernel
theorem d126_1 : decode cX8_movesByBlock 1 = .ok (.bipush 100, 2) := by decide +kernel
theorem d126_3 : decode cX8_movesByBlock 3 = .ok (.if_icmp .ne 12, 3) := by decide +kernel
theorem d126_6 : decode cX8_movesByBlock 6 = .ok (.iload_n 2, 1) := by decide +kernel
theorem d126_7 : decode cX8_movesByBlock 7 = .ok (.ifCond .lt 27, 3) := by decide +kernel
theorem d126_10 : decode cX8_movesByBlock 10 = .ok (.iload_n 3, 1) := by decide +kernel
theorem d126_11 : decode cX8_movesByBlock 11 = .ok (.iconst 1, 1) := by decide +kernel
theorem d126_12 : decode cX8_movesByBlock 12 = .ok (.if_icmp .lt 22, 3) := by decide +kernel
theorem d126_15 : decode cX8_movesByBlock 15 = .ok (.iload_n 1, 1) := by decide +kernel
theorem d126_16 : decode cX8_movesByBlock 16 = .ok (.bipush 112, 2) := by decide +kernel
theorem d126_18 : decode cX8_movesByBlock 18 = .ok (.if_icmp .ne 19, 3) := by decide +kernel
theorem d126_21 : decode cX8_movesByBlock 21 = .ok (.iload_n 2, 1) := by decide +kernel
theorem d126_22 : decode cX8_movesByBlock 22 = .ok (.ifCond .lt 12, 3) := by decide +kernel
theorem d126_25 : decode cX8_movesByBlock 25 = .ok (.iload_n 3, 1) := by decide +kernel
theorem d126_26 : decode cX8_movesByBlock 26 = .ok (.ifCond .lt 8, 3) := by decide +kernel
theorem d126_29 : decode cX8_movesByBlock 29 = .ok (.iload 4, 2) := by decide +kernel
theorem d126_31 : decode cX8_movesByBlock 31 = .ok (.ifCond .ge 6, 3) := by decide +kernel
theorem d126_34 : decode cX8_movesByBlock 34 = .ok (.bipush 110, 2) := by decide +kernel
theorem d126_36 : decode cX8_movesByBlock 36 = .ok (.ireturn, 1) := by decide +kernel
theorem d126_37 : decode cX8_movesByBlock 37 = .ok (.iload_n 1, 1) := by decide +kernel
theorem d126_38 : decode cX8_movesByBlock 38 = .ok (.bipush 103, 2) := by decide +kernel
theorem d126_40 : decode cX8_movesByBlock 40 = .ok (.if_icmp .eq 24, 3) := by decide +kernel
theorem d126_43 : decode cX8_movesByBlock 43 = .ok (.aload_n 0, 1) := by decide +kernel
theorem d126_44 : decode cX8_movesByBlock 44 = .ok (.getfield 70, 3) := by decide +kernel
theorem d126_47 : decode cX8_movesByBlock 47 = .ok (.ifCond .lt 17, 3) := by decide +kernel
theorem d126_50 : decode cX8_movesByBlock 50 = .ok (.aload_n 0, 1) := by decide +kernel
theorem d126_51 : decode cX8_movesByBlock 51 = .ok (.aload_n 0, 1) := by decide +kernel
theorem d126_52 : decode cX8_movesByBlock 52 = .ok (.getfield 70, 3) := by decide +kernel
theorem d126_55 : decode cX8_movesByBlock 55 = .ok (.invokevirtual 164, 3) := by decide +kernel
theorem d126_58 : decode cX8_movesByBlock 58 = .ok (.ifCond .eq 6, 3) := by decide +kernel
theorem d126_61 : decode cX8_movesByBlock 61 = .ok (.bipush 119, 2) := by decide +kernel
theorem d126_63 : decode cX8_movesByBlock 63 = .ok (.ireturn, 1) := by decide +kernel
theorem d126_64 : decode cX8_movesByBlock 64 = .ok (.iload_n 1, 1) := by decide +kernel
theorem d126_65 : decode cX8_movesByBlock 65 = .ok (.bipush 103, 2) := by decide +kernel
theorem d126_67 : decode cX8_movesByBlock 67 = .ok (.if_icmp .eq 20, 3) := by decide +kernel
theorem d126_70 : decode cX8_movesByBlock 70 = .ok (.aload_n 0, 1) := by decide +kernel
theorem d126_71 : decode cX8_movesByBlock 71 = .ok (.getfield 70, 3) := by decide +kernel
theorem d126_74 : decode cX8_movesByBlock 74 = .ok (.ifCond .lt 10, 3) := by decide +kernel
theorem d126_77 : decode cX8_movesByBlock 77 = .ok (.aload_n 0, 1) := by decide +kernel
theorem d126_78 : decode cX8_movesByBlock 78 = .ok (.getfield 83, 3) := by decide +kernel
theorem d126_81 : decode cX8_movesByBlock 81 = .ok (.ifCond .ne 6, 3) := by decide +kernel
theorem d126_84 : decode cX8_movesByBlock 84 = .ok (.bipush 115, 2) := by decide +kernel
theorem d126_86 : decode cX8_movesByBlock 86 = .ok (.ireturn, 1) := by decide +kernel
theorem d126_87 : decode cX8_movesByBlock 87 = .ok (.aload_n 0, 1) := by decide +kernel
theorem d126_88 : decode cX8_movesByBlock 88 = .ok (.bipush 108, 2) := by decide +kernel
theorem d126_90 : decode cX8_movesByBlock 90 = .ok (.putfield 94, 3) := by decide +kernel
theorem d126_93 : decode cX8_movesByBlock 93 = .ok (.aload_n 0, 1) := by decide +kernel
theorem d126_94 : decode cX8_movesByBlock 94 = .ok (.iload_n 1, 1) := by decide +kernel
theorem d126_95 : decode cX8_movesByBlock 95 = .ok (.iload_n 2, 1) := by decide +kernel
theorem d126_96 : decode cX8_movesByBlock 96 = .ok (.iload_n 3, 1) := by decide +kernel
theorem d126_97 : decode cX8_movesByBlock 97 = .ok (.iload 4, 2) := by decide +kernel
theorem d126_99 : decode cX8_movesByBlock 99 = .ok (.invokevirtual 167, 3) := by decide +kernel
theorem d126_102 : decode cX8_movesByBlock 102 = .ok (.ifCond .ne 6, 3) := by decide +kernel
theorem d126_105 : decode cX8_movesByBlock 105 = .ok (.bipush 108, 2) := by decide +kernel
theorem d126_107 : decode cX8_movesByBlock 107 = .ok (.ireturn, 1) := by decide +kernel
theorem d126_108 : decode cX8_movesByBlock 108 = .ok (.aload_n 0, 1) := by decide +kernel
theorem d126_109 : decode cX8_movesByBlock 109 = .ok (.bipush 99, 2) := by decide +kernel
theorem d126_111 : decode cX8_movesByBlock 111 = .ok (.putfield 94, 3) := by decide +kernel
theorem d126_114 : decode cX8_movesByBlock 114 = .ok (.aload_n 0, 1) := by decide +kernel
theorem d126_115 : decode cX8_movesByBlock 115 = .ok (.iload_n 1, 1) := by decide +kernel
theorem d126_116 : decode cX8_movesByBlock 116 = .ok (.iload_n 2, 1) := by decide +kernel
theorem d126_117 : decode cX8_movesByBlock 117 = .ok (.iload_n 3, 1) := by decide +kernel
theorem d126_118 : decode cX8_movesByBlock 118 = .ok (.iload 4, 2) := by decide +kernel
theorem d126_120 : decode cX8_movesByBlock 120 = .ok (.invokevirtual 167, 3) := by decide +kernel
theorem d126_123 : decode cX8_movesByBlock 123 = .ok (.ifCond .ne 6, 3) := by decide +kernel
theorem d126_126 : decode cX8_movesByBlock 126 = .ok (.bipush 99, 2) := by decide +kernel
theorem d126_128 : decode cX8_movesByBlock 128 = .ok (.ireturn, 1) := by decide +kernel
theorem d126_129 : decode cX8_movesByBlock 129 = .ok (.aload_n 0, 1) := by decide +kernel
theorem d126_130 : decode cX8_movesByBlock 130 = .ok (.bipush 100, 2) := by decide +kernel
theorem d126_132 : decode cX8_movesByBlock 132 = .ok (.putfield 94, 3) := by decide +kernel
theorem d126_135 : decode cX8_movesByBlock 135 = .ok (.aload_n 0, 1) := by decide +kernel
theorem d126_136 : decode cX8_movesByBlock 136 = .ok (.iload_n 1, 1) := by decide +kernel
theorem d126_137 : decode cX8_movesByBlock 137 = .ok (.iload_n 2, 1) := by decide +kernel
theorem d126_138 : decode cX8_movesByBlock 138 = .ok (.iload_n 3, 1) := by decide +kernel
theorem d126_139 : decode cX8_movesByBlock 139 = .ok (.iload 4, 2) := by decide +kernel
theorem d126_141 : decode cX8_movesByBlock 141 = .ok (.invokevirtual 167, 3) := by decide +kernel
theorem d126_144 : decode cX8_movesByBlock 144 = .ok (.ifCond .eq 32, 3) := by decide +kernel
theorem d126_147 : decode cX8_movesByBlock 147 = .ok (.iconst 0, 1) := by decide +kernel
theorem d126_148 : decode cX8_movesByBlock 148 = .ok (.istore 5, 2) := by decide +kernel
theorem d126_150 : decode cX8_movesByBlock 150 = .ok (.iload 5, 2) := by decide +kernel
theorem d126_152 : decode cX8_movesByBlock 152 = .ok (.iconst 3, 1) := by decide +kernel
theorem d126_153 : decode cX8_movesByBlock 153 = .ok (.if_icmp .ge 23, 3) := by decide +kernel
theorem d126_156 : decode cX8_movesByBlock 156 = .ok (.aload_n 0, 1) := by decide +kernel
theorem d126_157 : decode cX8_movesByBlock 157 = .ok (.getfield 44, 3) := by decide +kernel
theorem d126_160 : decode cX8_movesByBlock 160 = .ok (.iload 5, 2) := by decide +kernel
theorem d126_162 : decode cX8_movesByBlock 162 = .ok (.aload_n 0, 1) := by decide +kernel
theorem d126_163 : decode cX8_movesByBlock 163 = .ok (.getfield 47, 3) := by decide +kernel
theorem d126_166 : decode cX8_movesByBlock 166 = .ok (.iload 5, 2) := by decide +kernel
theorem d126_168 : decode cX8_movesByBlock 168 = .ok (.iaload, 1) := by decide +kernel
theorem d126_169 : decode cX8_movesByBlock 169 = .ok (.iastore, 1) := by decide +kernel
theorem d126_170 : decode cX8_movesByBlock 170 = .ok (.iinc 5 1, 3) := by decide +kernel
theorem d126_173 : decode cX8_movesByBlock 173 = .ok (.goto (-23), 3) := by decide +kernel
theorem d126_176 : decode cX8_movesByBlock 176 = .ok (.bipush 45, 2) := by decide +kernel
theorem d126_178 : decode cX8_movesByBlock 178 = .ok (.ireturn, 1) := by decide +kernel
theorem v126_0 : am_all (am_V9 126) am_l126_0 := ⟨Or.inr ⟨1, d126_0, rfl, rfl, rfl, trivial, trivial⟩, Or.inr ⟨2, d126_1, rfl, rfl, am_eq9 (by decide +kernel), trivial, trivial⟩, Or.inr ⟨3, d126_3, rfl, rfl, rfl, trivial, trivial⟩, Or.inr ⟨1, d126_6, rfl, rfl, rfl, trivial, trivial⟩, Or.inr ⟨3, d126_7, rfl, rfl, rfl, trivial, trivial⟩, Or.inr ⟨1, d126_10, rfl, rfl, rfl, trivial, trivial⟩, Or.inr ⟨1, d126_11, rfl, rfl, am_eq9 (by decide +kernel), trivial, trivial⟩, Or.inr ⟨3, d126_12, rfl, rfl, rfl, trivial, trivial⟩, Or.inr ⟨1, d126_15, rfl, rfl, rfl, trivial, trivial⟩, Or.inr ⟨2, d126_16, rfl, rfl, am_eq9 (by decide +kernel), trivial, trivial⟩, Or.inr ⟨3, d126_18, rfl, rfl, rfl, trivial, trivial⟩, Or.inr ⟨1, d126_21, rfl, rfl, rfl, trivial, trivial⟩, Or.inr ⟨3, d126_22, rfl, rfl, rfl, trivial, trivial⟩, Or.inr ⟨1, d126_25, rfl, rfl, rfl, trivial, trivial⟩, Or.inr ⟨3, d126_26, rfl, rfl, rfl, trivial, trivial⟩, Or.inr ⟨2, d126_29, rfl, rfl, rfl, trivial, trivial⟩, Or.inr ⟨3, d126_31, rfl, rfl, rfl, trivial, trivial⟩, Or.inr ⟨2, d126_34, rfl, rfl, am_eq9 (by decide +kernel), trivial, trivial⟩, Or.inr ⟨1, d126_36, rfl, rfl, trivial, trivial, trivial⟩, Or.inr ⟨1, d126_37, rfl, rfl, rfl, trivial, trivial⟩, Or.inr ⟨2, d126_38, rfl, rfl, am_eq9 (by decide +kernel), trivial, trivial⟩, Or.inr ⟨3, d126_40, rfl, rfl, rfl, trivial, trivial⟩, Or.inr ⟨1, d126_43, rfl, rfl, rfl, trivial, trivial⟩, Or.inr ⟨3, d126_44, rfl, rfl, trivial, ⟨RX8, TX8, 27, rfl, by decide, Or.inl aw_941⟩, trivial⟩, trivial⟩
theorem v126_1 : am_all (am_V9 126) am_l126_1 := ⟨Or.inr ⟨3, d126_47, rfl, rfl, rfl, trivial, trivial⟩, Or.inr ⟨1, d126_50, rfl, rfl, rfl, trivial, trivial⟩, Or.inr ⟨1, d126_51, rfl, rfl, rfl, trivial, trivial⟩, Or.inr ⟨3, d126_52, rfl, rfl, trivial, ⟨RX8, TX8, 27, rfl, by decide, Or.inl aw_941⟩, trivial⟩, Or.inr ⟨3, d126_55, rfl, rfl, trivial, trivial, ⟨by decide, ⟨_, TX8, 27, rfl, okM_125, rfl⟩, aw_1079, aw_1081, as_125⟩⟩, Or.inr ⟨3, d126_58, rfl, rfl, rfl, trivial, trivial⟩, Or.inr ⟨2, d126_61, rfl, rfl, am_eq9 (by decide +kernel), trivial, trivial⟩, Or.inr ⟨1, d126_63, rfl, rfl, trivial, trivial, trivial⟩, Or.inr ⟨1, d126_64, rfl, rfl, rfl, trivial, trivial⟩, Or.inr ⟨2, d126_65, rfl, rfl, am_eq9 (by decide +kernel), trivial, trivial⟩, Or.inr ⟨3, d126_67, rfl, rfl, rfl, trivial, trivial⟩, Or.inr ⟨1, d126_70, rfl, rfl, rfl, trivial, trivial⟩, Or.inr ⟨3, d126_71, rfl, rfl, trivial, ⟨RX8, TX8, 27, rfl, by decide, Or.inl aw_941⟩, trivial⟩, Or.inr ⟨3, d126_74, rfl, rfl, rfl, trivial, trivial⟩, Or.inr ⟨1, d126_77, rfl, rfl, rfl, trivial, trivial⟩, Or.inr ⟨3, d126_78, rfl, rfl, trivial, ⟨RX8, TX8, 27, rfl, by decide, Or.inl aw_945⟩, trivial⟩, Or.inr ⟨3, d126_81, rfl, rfl, rfl, trivial, trivial⟩, Or.inr ⟨2, d126_84, rfl, rfl, am_eq9 (by decide +kernel), trivial, trivial⟩, Or.inr ⟨1, d126_86, rfl, rfl, trivial, trivial, trivial⟩, Or.inr ⟨1, d126_87, rfl, rfl, rfl, trivial, trivial⟩, Or.inr ⟨2, d126_88, rfl, rfl, am_eq9 (by decide +kernel), trivial, trivial⟩, Or.inr ⟨3, d126_90, rfl, rfl, trivial, ⟨RX8, TX8, 27, rfl, by decide, aw_948, Or.inl rfl⟩, trivial⟩, Or.inr ⟨1, d126_93, rfl, rfl, rfl, trivial, trivial⟩, Or.inr ⟨1, d126_94, rfl, rfl, rfl, trivial, trivial⟩, trivial⟩
theorem v126_2 : am_all (am_V9 126) am_l126_2 := ⟨Or.inr ⟨1, d126_95, rfl, rfl, rfl, trivial, trivial⟩, Or.inr ⟨1, d126_96, rfl, rfl, rfl, trivial, trivial⟩, Or.inr ⟨2, d126_97, rfl, rfl, rfl, trivial, trivial⟩, Or.inr ⟨3, d126_99, rfl, rfl, trivial, trivial, ⟨by decide, ⟨_, TX8, 27, rfl, okM_124, rfl⟩, aw_1083, aw_1085, as_124⟩⟩, Or.inr ⟨3, d126_102, rfl, rfl, rfl, trivial, trivial⟩, Or.inr ⟨2, d126_105, rfl, rfl, am_eq9 (by decide +kernel), trivial, trivial⟩, Or.inr ⟨1, d126_107, rfl, rfl, trivial, trivial, trivial⟩, Or.inr ⟨1, d126_108, rfl, rfl, rfl, trivial, trivial⟩, Or.inr ⟨2, d126_109, rfl, rfl, am_eq9 (by decide +kernel), trivial, trivial⟩, Or.inr ⟨3, d126_111, rfl, rfl, trivial, ⟨RX8, TX8, 27, rfl, by decide, aw_948, Or.inl rfl⟩, trivial⟩, Or.inr ⟨1, d126_114, rfl, rfl, rfl, trivial, trivial⟩, Or.inr ⟨1, d126_115, rfl, rfl, rfl, trivial, trivial⟩, Or.inr ⟨1, d126_116, rfl, rfl, rfl, trivial, trivial⟩, Or.inr ⟨1, d126_117, rfl, rfl, rfl, trivial, trivial⟩, Or.inr ⟨2, d126_118, rfl, rfl, rfl, trivial, trivial⟩, Or.inr ⟨3, d126_120, rfl, rfl, trivial, trivial, ⟨by decide, ⟨_, TX8, 27, rfl, okM_124, rfl⟩, aw_1083, aw_1085, as_124⟩⟩, Or.inr ⟨3, d126_123, rfl, rfl, rfl, trivial, trivial⟩, Or.inr ⟨2, d126_126, rfl, rfl, am_eq9 (by decide +kernel), trivial, trivial⟩, Or.inr ⟨1, d126_128, rfl, rfl, trivial, trivial, trivial⟩, Or.inr ⟨1, d126_129, rfl, rfl, rfl, trivial, trivial⟩, Or.inr ⟨2, d126_130, rfl, rfl, am_eq9 (by decide +kernel), trivial, trivial⟩, Or.inr ⟨3, d126_132, rfl, rfl, trivial, ⟨RX8, TX8, 27, rfl, by decide, aw_948, Or.inl rfl⟩, trivial⟩, Or.inr ⟨1, d126_135, rfl, rfl, rfl, trivial, trivial⟩, Or.inr ⟨1, d126_136, rfl, rfl, rfl, trivial, trivial⟩, trivial⟩
theorem v126_3 : am_all (am_V9 126) am_l126_3 := ⟨Or.inr ⟨1, d126_137, rfl, rfl, rfl, trivial, trivial⟩, Or.inr ⟨1, d126_138, rfl, rfl, rfl, trivial, trivial⟩, Or.inr ⟨2, d126_139, rfl, rfl, rfl, trivial, trivial⟩, Or.inr ⟨3, d126_141, rfl, rfl, trivial, trivial, ⟨by decide, ⟨_, TX8, 27, rfl, okM_124, rfl⟩, aw_1083, aw_1085, as_124⟩⟩, Or.inr ⟨3, d126_144, rfl, rfl, rfl, trivial, trivial⟩, Or.inr ⟨1, d126_147, rfl, rfl, am_eq9 (by decide +kernel), trivial, trivial⟩, Or.inr ⟨2, d126_148, rfl, rfl, rfl, trivial, trivial⟩, Or.inr ⟨2, d126_150, rfl, rfl, rfl, trivial, trivial⟩, Or.inr ⟨1, d126_152, rfl, rfl, am_eq9 (by decide +kernel), trivial, trivial⟩, Or.inr ⟨3, d126_153, rfl, rfl, rfl, trivial, trivial⟩, Or.inr ⟨1, d126_156, rfl, rfl, rfl, trivial, trivial⟩, Or.inr ⟨3, d126_157, rfl, rfl, trivial, ⟨RX8, TX8, 27, rfl, by decide, Or.inl aw_933⟩, trivial⟩, Or.inr ⟨2, d126_160, rfl, rfl, rfl, trivial, trivial⟩, Or.inr ⟨1, d126_162, rfl, rfl, rfl, trivial, trivial⟩, Or.inr ⟨3, d126_163, rfl, rfl, trivial, ⟨RX8, TX8, 27, rfl, by decide, Or.inl aw_934⟩, trivial⟩, Or.inr ⟨2, d126_166, rfl, rfl, rfl, trivial, trivial⟩, Or.inr ⟨1, d126_168, rfl, rfl, trivial, trivial, trivial⟩, Or.inr ⟨1, d126_169, rfl, rfl, trivial, trivial, trivial⟩, Or.inr ⟨3, d126_170, rfl, rfl, ⟨rfl, by decide⟩, trivial, trivial⟩, Or.inr ⟨3, d126_173, rfl, rfl, rfl, trivial, trivial⟩, Or.inr ⟨2, d126_176, rfl, rfl, am_eq9 (by decide +kernel), trivial, trivial⟩, Or.inr ⟨1, d126_178, rfl, rfl, trivial, trivial, trivial⟩, trivial⟩
theorem v126 : ∀ pc, am_V9 126 pc ((am_G 126).2.2.2.2.1 pc) := am_all_lc am_V9_0 _ ⟨v126_0, v126_1, v126_2, v126_3, trivial⟩
