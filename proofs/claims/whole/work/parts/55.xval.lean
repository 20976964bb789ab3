/-! These tables are those of the bytes. (by gen/tabx.py) -/
theorem xm_tab1 {i : Nat} {w : Jvm.Cond} (h : tables_1[i]? = some w) (hg : goodWord w = true) : w ∈ am_ts := List.mem_filter.mpr ⟨List.mem_append_right _ (List.mem_of_getElem? h), hg⟩
theorem xm_hats {L : List Jvm.Cond} (ps qs : List Nat) (h1 : L.filter goodWord = ps.filterMap (fun i => tables_1[i]?)) (h2 : L.filter (fun w => !goodWord w) = qs.filterMap (fun i => xm_xn[i]?)) : ∀ w ∈ L, w ∈ am_ts ∨ w ∈ xm_xn := by
  intro w hw
  cases hg : goodWord w with
  | true =>
    have h9 : w ∈ L.filter goodWord := List.mem_filter.mpr ⟨hw, hg⟩
    rw [h1] at h9
    obtain ⟨i, -, hi⟩ := List.mem_filterMap.mp h9
    exact Or.inl (xm_tab1 hi hg)
  | false =>
    have h9 : w ∈ L.filter (fun w => !goodWord w) := List.mem_filter.mpr ⟨hw, by rw [hg]; rfl⟩
    rw [h2] at h9
    obtain ⟨i, -, hi⟩ := List.mem_filterMap.mp h9
    exact Or.inr (List.mem_of_getElem? hi)
theorem xm_xn_ok : ∀ w ∈ xm_xn, xm_isX w = true := by decide +kernel
theorem bw_0 : (Jvm.Cond.initialized "ToolrestMillLaw") ∈ am_ts := am_mem am_sub1 0 (by decide +kernel) (by decide +kernel)
theorem bw_13 : (Jvm.Cond.initialized "java/lang/IndexOutOfBoundsException") ∈ am_ts := am_mem am_sub1 13 (by decide +kernel) (by decide +kernel)
theorem bw_16 : (Jvm.Cond.initialized "java/lang/IllegalArgumentException") ∈ am_ts := am_mem am_sub1 16 (by decide +kernel) (by decide +kernel)
theorem bw_17 : (Jvm.Cond.initialized "java/lang/UnsupportedOperationException") ∈ am_ts := am_mem am_sub1 17 (by decide +kernel) (by decide +kernel)
theorem bw_18 : (Jvm.Cond.initialized "java/lang/IllegalStateException") ∈ am_ts := am_mem am_sub1 18 (by decide +kernel) (by decide +kernel)
theorem bw_22 : (Jvm.Cond.initialized "java/util/NoSuchElementException") ∈ am_ts := am_mem am_sub1 22 (by decide +kernel) (by decide +kernel)
theorem bw_24 : (Jvm.Cond.initialized "java/lang/ArithmeticException") ∈ am_ts := am_mem am_sub1 24 (by decide +kernel) (by decide +kernel)
theorem bw_25 : (Jvm.Cond.classLink "ToolrestMillLaw" (8 : Nat) "ToolrestMill") ∈ am_ts := am_mem am_sub1 25 (by decide +kernel) (by decide +kernel)
theorem bw_26 : (Jvm.Cond.instantiable "ToolrestMill" (4 : Nat)) ∈ am_ts := am_mem am_sub1 26 (by decide +kernel) (by decide +kernel)
theorem bw_27 : (Jvm.Cond.methodLink "ToolrestMillLaw" (69 : Nat) ({ cls := "ToolrestMill", name := "<init>", desc := "()V" } : Jvm.MethodName)) ∈ am_ts := am_mem am_sub1 27 (by decide +kernel) (by decide +kernel)
theorem bw_28 : (Jvm.Cond.instanceMethod ({ cls := "ToolrestMill", name := "<init>", desc := "()V" } : Jvm.MethodName)) ∈ am_ts := am_mem am_sub1 28 (by decide +kernel) (by decide +kernel)
theorem bw_87 : (Jvm.Cond.fieldLink "ToolrestMill" (126 : Nat) "ToolrestMill$Program" "size" "I") ∈ am_ts := am_mem am_sub1 87 (by decide +kernel) (by decide +kernel)
theorem bw_102 : (Jvm.Cond.fieldLink "ToolrestMill" (67 : Nat) "ToolrestMill$House" "racks" "LToolrestMill$Racks;") ∈ am_ts := am_mem am_sub1 102 (by decide +kernel) (by decide +kernel)
theorem bw_108 : (Jvm.Cond.fieldLink "ToolrestMill" (110 : Nat) "ToolrestMill$House" "offsets" "[I") ∈ am_ts := am_mem am_sub1 108 (by decide +kernel) (by decide +kernel)
theorem bw_185 : (Jvm.Cond.fieldLink "ToolrestMill" (191 : Nat) "ToolrestMill$Controller" "uses" "[I") ∈ am_ts := am_mem am_sub1 185 (by decide +kernel) (by decide +kernel)
theorem bw_187 : (Jvm.Cond.fieldLink "ToolrestMill" (172 : Nat) "ToolrestMill$Controller" "variables" "[I") ∈ am_ts := am_mem am_sub1 187 (by decide +kernel) (by decide +kernel)
theorem bw_189 : (Jvm.Cond.fieldLink "ToolrestMill" (177 : Nat) "ToolrestMill$Controller" "place" "[I") ∈ am_ts := am_mem am_sub1 189 (by decide +kernel) (by decide +kernel)
theorem bw_263 : (Jvm.Cond.methodLink "ToolrestMillLaw" (98 : Nat) ({ cls := "ToolrestMill", name := "isClosed", desc := "()Z" } : Jvm.MethodName)) ∈ am_ts := am_mem am_sub2 23 (by decide +kernel) (by decide +kernel)
theorem bw_264 : (Jvm.Cond.instanceMethod ({ cls := "ToolrestMill", name := "isClosed", desc := "()Z" } : Jvm.MethodName)) ∈ am_ts := am_mem am_sub2 24 (by decide +kernel) (by decide +kernel)
theorem bw_265 : (Jvm.Cond.selects "ToolrestMill" ({ cls := "ToolrestMill", name := "isClosed", desc := "()Z" } : Jvm.MethodName) ({ cls := "ToolrestMill", name := "isClosed", desc := "()Z" } : Jvm.MethodName)) ∈ am_ts := am_mem am_sub2 25 (by decide +kernel) (by decide +kernel)
theorem bw_282 : (Jvm.Cond.methodLink "ToolrestMillLaw" (107 : Nat) ({ cls := "ToolrestMill", name := "reset", desc := "()I" } : Jvm.MethodName)) ∈ am_ts := am_mem am_sub2 42 (by decide +kernel) (by decide +kernel)
theorem bw_283 : (Jvm.Cond.instanceMethod ({ cls := "ToolrestMill", name := "reset", desc := "()I" } : Jvm.MethodName)) ∈ am_ts := am_mem am_sub2 43 (by decide +kernel) (by decide +kernel)
theorem bw_284 : (Jvm.Cond.selects "ToolrestMill" ({ cls := "ToolrestMill", name := "reset", desc := "()I" } : Jvm.MethodName) ({ cls := "ToolrestMill", name := "reset", desc := "()I" } : Jvm.MethodName)) ∈ am_ts := am_mem am_sub2 44 (by decide +kernel) (by decide +kernel)
theorem bw_291 : (Jvm.Cond.methodLink "ToolrestMillLaw" (111 : Nat) ({ cls := "ToolrestMill", name := "alarm", desc := "()C" } : Jvm.MethodName)) ∈ am_ts := am_mem am_sub2 51 (by decide +kernel) (by decide +kernel)
theorem bw_292 : (Jvm.Cond.instanceMethod ({ cls := "ToolrestMill", name := "alarm", desc := "()C" } : Jvm.MethodName)) ∈ am_ts := am_mem am_sub2 52 (by decide +kernel) (by decide +kernel)
theorem bw_293 : (Jvm.Cond.selects "ToolrestMill" ({ cls := "ToolrestMill", name := "alarm", desc := "()C" } : Jvm.MethodName) ({ cls := "ToolrestMill", name := "alarm", desc := "()C" } : Jvm.MethodName)) ∈ am_ts := am_mem am_sub2 53 (by decide +kernel) (by decide +kernel)
theorem bw_295 : (Jvm.Cond.methodLink "ToolrestMillLaw" (116 : Nat) ({ cls := "ToolrestMill", name := "isOver", desc := "()Z" } : Jvm.MethodName)) ∈ am_ts := am_mem am_sub2 55 (by decide +kernel) (by decide +kernel)
theorem bw_296 : (Jvm.Cond.instanceMethod ({ cls := "ToolrestMill", name := "isOver", desc := "()Z" } : Jvm.MethodName)) ∈ am_ts := am_mem am_sub2 56 (by decide +kernel) (by decide +kernel)
theorem bw_297 : (Jvm.Cond.selects "ToolrestMill" ({ cls := "ToolrestMill", name := "isOver", desc := "()Z" } : Jvm.MethodName) ({ cls := "ToolrestMill", name := "isOver", desc := "()Z" } : Jvm.MethodName)) ∈ am_ts := am_mem am_sub2 57 (by decide +kernel) (by decide +kernel)
theorem bw_303 : (Jvm.Cond.methodLink "ToolrestMillLaw" (120 : Nat) ({ cls := "ToolrestMill", name := "next", desc := "()I" } : Jvm.MethodName)) ∈ am_ts := am_mem am_sub2 63 (by decide +kernel) (by decide +kernel)
theorem bw_304 : (Jvm.Cond.instanceMethod ({ cls := "ToolrestMill", name := "next", desc := "()I" } : Jvm.MethodName)) ∈ am_ts := am_mem am_sub2 64 (by decide +kernel) (by decide +kernel)
theorem bw_305 : (Jvm.Cond.selects "ToolrestMill" ({ cls := "ToolrestMill", name := "next", desc := "()I" } : Jvm.MethodName) ({ cls := "ToolrestMill", name := "next", desc := "()I" } : Jvm.MethodName)) ∈ am_ts := am_mem am_sub2 65 (by decide +kernel) (by decide +kernel)
theorem bw_307 : (Jvm.Cond.methodLink "ToolrestMillLaw" (124 : Nat) ({ cls := "ToolrestMill", name := "done", desc := "()I" } : Jvm.MethodName)) ∈ am_ts := am_mem am_sub2 67 (by decide +kernel) (by decide +kernel)
theorem bw_308 : (Jvm.Cond.instanceMethod ({ cls := "ToolrestMill", name := "done", desc := "()I" } : Jvm.MethodName)) ∈ am_ts := am_mem am_sub2 68 (by decide +kernel) (by decide +kernel)
theorem bw_309 : (Jvm.Cond.selects "ToolrestMill" ({ cls := "ToolrestMill", name := "done", desc := "()I" } : Jvm.MethodName) ({ cls := "ToolrestMill", name := "done", desc := "()I" } : Jvm.MethodName)) ∈ am_ts := am_mem am_sub2 69 (by decide +kernel) (by decide +kernel)
theorem bw_311 : (Jvm.Cond.methodLink "ToolrestMillLaw" (134 : Nat) ({ cls := "ToolrestMill", name := "cutter", desc := "()I" } : Jvm.MethodName)) ∈ am_ts := am_mem am_sub2 71 (by decide +kernel) (by decide +kernel)
theorem bw_312 : (Jvm.Cond.instanceMethod ({ cls := "ToolrestMill", name := "cutter", desc := "()I" } : Jvm.MethodName)) ∈ am_ts := am_mem am_sub2 72 (by decide +kernel) (by decide +kernel)
theorem bw_313 : (Jvm.Cond.selects "ToolrestMill" ({ cls := "ToolrestMill", name := "cutter", desc := "()I" } : Jvm.MethodName) ({ cls := "ToolrestMill", name := "cutter", desc := "()I" } : Jvm.MethodName)) ∈ am_ts := am_mem am_sub2 73 (by decide +kernel) (by decide +kernel)
theorem bw_315 : (Jvm.Cond.methodLink "ToolrestMillLaw" (149 : Nat) ({ cls := "ToolrestMill", name := "stock", desc := "()I" } : Jvm.MethodName)) ∈ am_ts := am_mem am_sub2 75 (by decide +kernel) (by decide +kernel)
theorem bw_316 : (Jvm.Cond.instanceMethod ({ cls := "ToolrestMill", name := "stock", desc := "()I" } : Jvm.MethodName)) ∈ am_ts := am_mem am_sub2 76 (by decide +kernel) (by decide +kernel)
theorem bw_317 : (Jvm.Cond.selects "ToolrestMill" ({ cls := "ToolrestMill", name := "stock", desc := "()I" } : Jvm.MethodName) ({ cls := "ToolrestMill", name := "stock", desc := "()I" } : Jvm.MethodName)) ∈ am_ts := am_mem am_sub2 77 (by decide +kernel) (by decide +kernel)
theorem bw_329 : (Jvm.Cond.methodLink "ToolrestMillLaw" (156 : Nat) ({ cls := "ToolrestMill", name := "checksum", desc := "()J" } : Jvm.MethodName)) ∈ am_ts := am_mem am_sub2 89 (by decide +kernel) (by decide +kernel)
theorem bw_330 : (Jvm.Cond.instanceMethod ({ cls := "ToolrestMill", name := "checksum", desc := "()J" } : Jvm.MethodName)) ∈ am_ts := am_mem am_sub2 90 (by decide +kernel) (by decide +kernel)
theorem bw_331 : (Jvm.Cond.selects "ToolrestMill" ({ cls := "ToolrestMill", name := "checksum", desc := "()J" } : Jvm.MethodName) ({ cls := "ToolrestMill", name := "checksum", desc := "()J" } : Jvm.MethodName)) ∈ am_ts := am_mem am_sub2 91 (by decide +kernel) (by decide +kernel)
theorem bw_337 : (Jvm.Cond.methodLink "ToolrestMillLaw" (161 : Nat) ({ cls := "ToolrestMill", name := "time", desc := "()F" } : Jvm.MethodName)) ∈ am_ts := am_mem am_sub2 97 (by decide +kernel) (by decide +kernel)
theorem bw_338 : (Jvm.Cond.instanceMethod ({ cls := "ToolrestMill", name := "time", desc := "()F" } : Jvm.MethodName)) ∈ am_ts := am_mem am_sub2 98 (by decide +kernel) (by decide +kernel)
theorem bw_339 : (Jvm.Cond.selects "ToolrestMill" ({ cls := "ToolrestMill", name := "time", desc := "()F" } : Jvm.MethodName) ({ cls := "ToolrestMill", name := "time", desc := "()F" } : Jvm.MethodName)) ∈ am_ts := am_mem am_sub2 99 (by decide +kernel) (by decide +kernel)
theorem bw_341 : (Jvm.Cond.methodLink "ToolrestMillLaw" (166 : Nat) ({ cls := "ToolrestMill", name := "timeBits", desc := "()I" } : Jvm.MethodName)) ∈ am_ts := am_mem am_sub2 101 (by decide +kernel) (by decide +kernel)
theorem bw_342 : (Jvm.Cond.instanceMethod ({ cls := "ToolrestMill", name := "timeBits", desc := "()I" } : Jvm.MethodName)) ∈ am_ts := am_mem am_sub2 102 (by decide +kernel) (by decide +kernel)
theorem bw_343 : (Jvm.Cond.selects "ToolrestMill" ({ cls := "ToolrestMill", name := "timeBits", desc := "()I" } : Jvm.MethodName) ({ cls := "ToolrestMill", name := "timeBits", desc := "()I" } : Jvm.MethodName)) ∈ am_ts := am_mem am_sub2 103 (by decide +kernel) (by decide +kernel)
theorem bw_349 : (Jvm.Cond.methodLink "ToolrestMillLaw" (174 : Nat) ({ cls := "ToolrestMill", name := "taken", desc := "()F" } : Jvm.MethodName)) ∈ am_ts := am_mem am_sub2 109 (by decide +kernel) (by decide +kernel)
theorem bw_350 : (Jvm.Cond.instanceMethod ({ cls := "ToolrestMill", name := "taken", desc := "()F" } : Jvm.MethodName)) ∈ am_ts := am_mem am_sub2 110 (by decide +kernel) (by decide +kernel)
theorem bw_351 : (Jvm.Cond.selects "ToolrestMill" ({ cls := "ToolrestMill", name := "taken", desc := "()F" } : Jvm.MethodName) ({ cls := "ToolrestMill", name := "taken", desc := "()F" } : Jvm.MethodName)) ∈ am_ts := am_mem am_sub2 111 (by decide +kernel) (by decide +kernel)
theorem bw_354 : (Jvm.Cond.methodLink "ToolrestMillLaw" (178 : Nat) ({ cls := "ToolrestMill", name := "isSound", desc := "()Z" } : Jvm.MethodName)) ∈ am_ts := am_mem am_sub2 114 (by decide +kernel) (by decide +kernel)
theorem bw_355 : (Jvm.Cond.instanceMethod ({ cls := "ToolrestMill", name := "isSound", desc := "()Z" } : Jvm.MethodName)) ∈ am_ts := am_mem am_sub2 115 (by decide +kernel) (by decide +kernel)
theorem bw_356 : (Jvm.Cond.selects "ToolrestMill" ({ cls := "ToolrestMill", name := "isSound", desc := "()Z" } : Jvm.MethodName) ({ cls := "ToolrestMill", name := "isSound", desc := "()Z" } : Jvm.MethodName)) ∈ am_ts := am_mem am_sub2 116 (by decide +kernel) (by decide +kernel)
theorem bw_573 : (Jvm.Cond.methodLink "ToolrestMillLaw" (73 : Nat) ({ cls := "ToolrestMillLaw", name := "putCutter", desc := "(LToolrestMill;IICII[J)I" } : Jvm.MethodName)) ∈ am_ts := am_mem am_sub3 93 (by decide +kernel) (by decide +kernel)
theorem bw_574 : (Jvm.Cond.static ({ cls := "ToolrestMillLaw", name := "putCutter", desc := "(LToolrestMill;IICII[J)I" } : Jvm.MethodName)) ∈ am_ts := am_mem am_sub3 94 (by decide +kernel) (by decide +kernel)
theorem bw_575 : (Jvm.Cond.codeWith ({ cls := "ToolrestMillLaw", name := "putCutter", desc := "(LToolrestMill;IICII[J)I" } : Jvm.MethodName) method_3_code (8 : Nat) (Option.some Jvm.ClassFile.FieldType.int) [((0 : Nat), (16 : Nat), (19 : Nat), (13 : Nat)), ((0 : Nat), (16 : Nat), (23 : Nat), (15 : Nat)), ((0 : Nat), (16 : Nat), (27 : Nat), (17 : Nat))]) ∈ am_ts := am_mem am_sub3 95 (by decide +kernel) (by decide +kernel)
theorem bw_576 : (Jvm.Cond.classLink "ToolrestMillLaw" (13 : Nat) "java/lang/IndexOutOfBoundsException") ∈ am_ts := am_mem am_sub3 96 (by decide +kernel) (by decide +kernel)
theorem bw_656 : (Jvm.Cond.classLink "ToolrestMillLaw" (15 : Nat) "java/lang/IllegalArgumentException") ∈ am_ts := am_mem am_sub3 176 (by decide +kernel) (by decide +kernel)
theorem bw_657 : (Jvm.Cond.classLink "ToolrestMillLaw" (17 : Nat) "java/lang/UnsupportedOperationException") ∈ am_ts := am_mem am_sub3 177 (by decide +kernel) (by decide +kernel)
theorem bw_658 : (Jvm.Cond.methodLink "ToolrestMillLaw" (7 : Nat) ({ cls := "ToolrestMill", name := "putCutter", desc := "(IICII)I" } : Jvm.MethodName)) ∈ am_ts := am_mem am_sub3 178 (by decide +kernel) (by decide +kernel)
theorem bw_659 : (Jvm.Cond.instanceMethod ({ cls := "ToolrestMill", name := "putCutter", desc := "(IICII)I" } : Jvm.MethodName)) ∈ am_ts := am_mem am_sub3 179 (by decide +kernel) (by decide +kernel)
theorem bw_660 : (Jvm.Cond.selects "ToolrestMill" ({ cls := "ToolrestMill", name := "putCutter", desc := "(IICII)I" } : Jvm.MethodName) ({ cls := "ToolrestMill", name := "putCutter", desc := "(IICII)I" } : Jvm.MethodName)) ∈ am_ts := am_mem am_sub3 180 (by decide +kernel) (by decide +kernel)
theorem bw_661 : (Jvm.Cond.code ({ cls := "ToolrestMill", name := "putCutter", desc := "(IICII)I" } : Jvm.MethodName) prog_1_method_2_code (6 : Nat) (Option.some Jvm.ClassFile.FieldType.int)) ∈ am_ts := am_mem am_sub3 181 (by decide +kernel) (by decide +kernel)
theorem bw_662 : (Jvm.Cond.methodLink "ToolrestMill" (32 : Nat) ({ cls := "ToolrestMill", name := "isSlot", desc := "(II)Z" } : Jvm.MethodName)) ∈ am_ts := am_mem am_sub3 182 (by decide +kernel) (by decide +kernel)
theorem bw_663 : (Jvm.Cond.classLink "ToolrestMill" (36 : Nat) "java/lang/IndexOutOfBoundsException") ∈ am_ts := am_mem am_sub3 183 (by decide +kernel) (by decide +kernel)
theorem bw_676 : (Jvm.Cond.methodLink "ToolrestMill" (43 : Nat) ({ cls := "ToolrestMill", name := "isShape", desc := "(C)Z" } : Jvm.MethodName)) ∈ am_ts := am_mem am_sub3 196 (by decide +kernel) (by decide +kernel)
theorem bw_677 : (Jvm.Cond.static ({ cls := "ToolrestMill", name := "isShape", desc := "(C)Z" } : Jvm.MethodName)) ∈ am_ts := am_mem am_sub3 197 (by decide +kernel) (by decide +kernel)
theorem bw_679 : (Jvm.Cond.classLink "ToolrestMill" (47 : Nat) "java/lang/IllegalArgumentException") ∈ am_ts := am_mem am_sub3 199 (by decide +kernel) (by decide +kernel)
theorem bw_696 : (Jvm.Cond.methodLink "ToolrestMill" (58 : Nat) ({ cls := "ToolrestMill", name := "takesShape", desc := "(IC)Z" } : Jvm.MethodName)) ∈ am_ts := am_mem am_sub3 216 (by decide +kernel) (by decide +kernel)
theorem bw_697 : (Jvm.Cond.static ({ cls := "ToolrestMill", name := "takesShape", desc := "(IC)Z" } : Jvm.MethodName)) ∈ am_ts := am_mem am_sub3 217 (by decide +kernel) (by decide +kernel)
theorem bw_699 : (Jvm.Cond.classLink "ToolrestMill" (62 : Nat) "java/lang/UnsupportedOperationException") ∈ am_ts := am_mem am_sub3 219 (by decide +kernel) (by decide +kernel)
theorem bw_715 : (Jvm.Cond.methodLink "ToolrestMill" (71 : Nat) ({ cls := "ToolrestMill", name := "slotOf", desc := "(II)I" } : Jvm.MethodName)) ∈ am_ts := am_mem am_sub3 235 (by decide +kernel) (by decide +kernel)
theorem bw_716 : (Jvm.Cond.methodLink "ToolrestMill" (75 : Nat) ({ cls := "ToolrestMill$Racks", name := "fill", desc := "(ICII)V" } : Jvm.MethodName)) ∈ am_ts := am_mem am_sub3 236 (by decide +kernel) (by decide +kernel)
theorem bw_717 : (Jvm.Cond.instanceMethod ({ cls := "ToolrestMill$Racks", name := "fill", desc := "(ICII)V" } : Jvm.MethodName)) ∈ am_ts := am_mem am_sub3 237 (by decide +kernel) (by decide +kernel)
theorem bw_718 : (Jvm.Cond.selects "ToolrestMill$Racks" ({ cls := "ToolrestMill$Racks", name := "fill", desc := "(ICII)V" } : Jvm.MethodName) ({ cls := "ToolrestMill$Racks", name := "fill", desc := "(ICII)V" } : Jvm.MethodName)) ∈ am_ts := am_mem am_sub3 238 (by decide +kernel) (by decide +kernel)
theorem bw_720 : (Jvm.Cond.methodLink "ToolrestMill" (84 : Nat) ({ cls := "ToolrestMill$Racks", name := "countFrom", desc := "(II)I" } : Jvm.MethodName)) ∈ am_ts := am_mem am_sub4 0 (by decide +kernel) (by decide +kernel)
theorem bw_721 : (Jvm.Cond.instanceMethod ({ cls := "ToolrestMill$Racks", name := "countFrom", desc := "(II)I" } : Jvm.MethodName)) ∈ am_ts := am_mem am_sub4 1 (by decide +kernel) (by decide +kernel)
theorem bw_722 : (Jvm.Cond.selects "ToolrestMill$Racks" ({ cls := "ToolrestMill$Racks", name := "countFrom", desc := "(II)I" } : Jvm.MethodName) ({ cls := "ToolrestMill$Racks", name := "countFrom", desc := "(II)I" } : Jvm.MethodName)) ∈ am_ts := am_mem am_sub4 2 (by decide +kernel) (by decide +kernel)
theorem bw_725 : (Jvm.Cond.methodLink "ToolrestMillLaw" (82 : Nat) ({ cls := "ToolrestMillLaw", name := "setFixture", desc := "(LToolrestMill;IIIZ[J)I" } : Jvm.MethodName)) ∈ am_ts := am_mem am_sub4 5 (by decide +kernel) (by decide +kernel)
theorem bw_726 : (Jvm.Cond.static ({ cls := "ToolrestMillLaw", name := "setFixture", desc := "(LToolrestMill;IIIZ[J)I" } : Jvm.MethodName)) ∈ am_ts := am_mem am_sub4 6 (by decide +kernel) (by decide +kernel)
theorem bw_727 : (Jvm.Cond.codeWith ({ cls := "ToolrestMillLaw", name := "setFixture", desc := "(LToolrestMill;IIIZ[J)I" } : Jvm.MethodName) method_4_code (7 : Nat) (Option.some Jvm.ClassFile.FieldType.int) [((0 : Nat), (21 : Nat), (24 : Nat), (13 : Nat))]) ∈ am_ts := am_mem am_sub4 7 (by decide +kernel) (by decide +kernel)
theorem bw_728 : (Jvm.Cond.methodLink "ToolrestMillLaw" (19 : Nat) ({ cls := "ToolrestMill", name := "setFixture", desc := "(IIIZ)Z" } : Jvm.MethodName)) ∈ am_ts := am_mem am_sub4 8 (by decide +kernel) (by decide +kernel)
theorem bw_729 : (Jvm.Cond.instanceMethod ({ cls := "ToolrestMill", name := "setFixture", desc := "(IIIZ)Z" } : Jvm.MethodName)) ∈ am_ts := am_mem am_sub4 9 (by decide +kernel) (by decide +kernel)
theorem bw_730 : (Jvm.Cond.selects "ToolrestMill" ({ cls := "ToolrestMill", name := "setFixture", desc := "(IIIZ)Z" } : Jvm.MethodName) ({ cls := "ToolrestMill", name := "setFixture", desc := "(IIIZ)Z" } : Jvm.MethodName)) ∈ am_ts := am_mem am_sub4 10 (by decide +kernel) (by decide +kernel)
theorem bw_731 : (Jvm.Cond.code ({ cls := "ToolrestMill", name := "setFixture", desc := "(IIIZ)Z" } : Jvm.MethodName) prog_1_method_3_code (6 : Nat) (Option.some Jvm.ClassFile.FieldType.boolean)) ∈ am_ts := am_mem am_sub4 11 (by decide +kernel) (by decide +kernel)
theorem bw_732 : (Jvm.Cond.methodLink "ToolrestMill" (87 : Nat) ({ cls := "ToolrestMill", name := "requireCell", desc := "(III)V" } : Jvm.MethodName)) ∈ am_ts := am_mem am_sub4 12 (by decide +kernel) (by decide +kernel)
theorem bw_733 : (Jvm.Cond.static ({ cls := "ToolrestMill", name := "requireCell", desc := "(III)V" } : Jvm.MethodName)) ∈ am_ts := am_mem am_sub4 13 (by decide +kernel) (by decide +kernel)
theorem bw_734 : (Jvm.Cond.code ({ cls := "ToolrestMill", name := "requireCell", desc := "(III)V" } : Jvm.MethodName) prog_1_method_29_code (3 : Nat) (Option.none : Option Jvm.ClassFile.FieldType)) ∈ am_ts := am_mem am_sub4 14 (by decide +kernel) (by decide +kernel)
theorem bw_735 : (Jvm.Cond.methodLink "ToolrestMill" (235 : Nat) ({ cls := "ToolrestMill", name := "isCell", desc := "(III)Z" } : Jvm.MethodName)) ∈ am_ts := am_mem am_sub4 15 (by decide +kernel) (by decide +kernel)
theorem bw_739 : (Jvm.Cond.methodLink "ToolrestMill" (95 : Nat) ({ cls := "ToolrestMill$Cells", name := "holds", desc := "(III)Z" } : Jvm.MethodName)) ∈ am_ts := am_mem am_sub4 19 (by decide +kernel) (by decide +kernel)
theorem bw_740 : (Jvm.Cond.instanceMethod ({ cls := "ToolrestMill$Cells", name := "holds", desc := "(III)Z" } : Jvm.MethodName)) ∈ am_ts := am_mem am_sub4 20 (by decide +kernel) (by decide +kernel)
theorem bw_741 : (Jvm.Cond.selects "ToolrestMill$Cells" ({ cls := "ToolrestMill$Cells", name := "holds", desc := "(III)Z" } : Jvm.MethodName) ({ cls := "ToolrestMill$Cells", name := "holds", desc := "(III)Z" } : Jvm.MethodName)) ∈ am_ts := am_mem am_sub4 21 (by decide +kernel) (by decide +kernel)
theorem bw_744 : (Jvm.Cond.methodLink "ToolrestMill" (100 : Nat) ({ cls := "ToolrestMill$Cells", name := "mark", desc := "(IIIZ)V" } : Jvm.MethodName)) ∈ am_ts := am_mem am_sub4 24 (by decide +kernel) (by decide +kernel)
theorem bw_745 : (Jvm.Cond.instanceMethod ({ cls := "ToolrestMill$Cells", name := "mark", desc := "(IIIZ)V" } : Jvm.MethodName)) ∈ am_ts := am_mem am_sub4 25 (by decide +kernel) (by decide +kernel)
theorem bw_746 : (Jvm.Cond.selects "ToolrestMill$Cells" ({ cls := "ToolrestMill$Cells", name := "mark", desc := "(IIIZ)V" } : Jvm.MethodName) ({ cls := "ToolrestMill$Cells", name := "mark", desc := "(IIIZ)V" } : Jvm.MethodName)) ∈ am_ts := am_mem am_sub4 26 (by decide +kernel) (by decide +kernel)
theorem bw_748 : (Jvm.Cond.methodLink "ToolrestMillLaw" (86 : Nat) ({ cls := "ToolrestMillLaw", name := "setOffset", desc := "(LToolrestMill;IIII[J)I" } : Jvm.MethodName)) ∈ am_ts := am_mem am_sub4 28 (by decide +kernel) (by decide +kernel)
theorem bw_749 : (Jvm.Cond.static ({ cls := "ToolrestMillLaw", name := "setOffset", desc := "(LToolrestMill;IIII[J)I" } : Jvm.MethodName)) ∈ am_ts := am_mem am_sub4 29 (by decide +kernel) (by decide +kernel)
theorem bw_750 : (Jvm.Cond.codeWith ({ cls := "ToolrestMillLaw", name := "setOffset", desc := "(LToolrestMill;IIII[J)I" } : Jvm.MethodName) method_5_code (7 : Nat) (Option.some Jvm.ClassFile.FieldType.int) [((0 : Nat), (14 : Nat), (17 : Nat), (15 : Nat))]) ∈ am_ts := am_mem am_sub4 30 (by decide +kernel) (by decide +kernel)
theorem bw_751 : (Jvm.Cond.methodLink "ToolrestMillLaw" (23 : Nat) ({ cls := "ToolrestMill", name := "setOffset", desc := "(IIII)I" } : Jvm.MethodName)) ∈ am_ts := am_mem am_sub4 31 (by decide +kernel) (by decide +kernel)
theorem bw_752 : (Jvm.Cond.instanceMethod ({ cls := "ToolrestMill", name := "setOffset", desc := "(IIII)I" } : Jvm.MethodName)) ∈ am_ts := am_mem am_sub4 32 (by decide +kernel) (by decide +kernel)
theorem bw_753 : (Jvm.Cond.selects "ToolrestMill" ({ cls := "ToolrestMill", name := "setOffset", desc := "(IIII)I" } : Jvm.MethodName) ({ cls := "ToolrestMill", name := "setOffset", desc := "(IIII)I" } : Jvm.MethodName)) ∈ am_ts := am_mem am_sub4 33 (by decide +kernel) (by decide +kernel)
theorem bw_754 : (Jvm.Cond.code ({ cls := "ToolrestMill", name := "setOffset", desc := "(IIII)I" } : Jvm.MethodName) prog_1_method_4_code (6 : Nat) (Option.some Jvm.ClassFile.FieldType.int)) ∈ am_ts := am_mem am_sub4 34 (by decide +kernel) (by decide +kernel)
theorem bw_755 : (Jvm.Cond.methodLink "ToolrestMill" (104 : Nat) ({ cls := "ToolrestMill", name := "isOffsetNumber", desc := "(I)Z" } : Jvm.MethodName)) ∈ am_ts := am_mem am_sub4 35 (by decide +kernel) (by decide +kernel)
theorem bw_756 : (Jvm.Cond.static ({ cls := "ToolrestMill", name := "isOffsetNumber", desc := "(I)Z" } : Jvm.MethodName)) ∈ am_ts := am_mem am_sub4 36 (by decide +kernel) (by decide +kernel)
theorem bw_759 : (Jvm.Cond.methodLink "ToolrestMillLaw" (90 : Nat) ({ cls := "ToolrestMillLaw", name := "addBlock", desc := "(LToolrestMill;CIII[J)I" } : Jvm.MethodName)) ∈ am_ts := am_mem am_sub4 39 (by decide +kernel) (by decide +kernel)
theorem bw_760 : (Jvm.Cond.static ({ cls := "ToolrestMillLaw", name := "addBlock", desc := "(LToolrestMill;CIII[J)I" } : Jvm.MethodName)) ∈ am_ts := am_mem am_sub4 40 (by decide +kernel) (by decide +kernel)
theorem bw_761 : (Jvm.Cond.codeWith ({ cls := "ToolrestMillLaw", name := "addBlock", desc := "(LToolrestMill;CIII[J)I" } : Jvm.MethodName) method_6_code (7 : Nat) (Option.some Jvm.ClassFile.FieldType.int) [((0 : Nat), (14 : Nat), (17 : Nat), (15 : Nat)), ((0 : Nat), (14 : Nat), (21 : Nat), (31 : Nat))]) ∈ am_ts := am_mem am_sub4 41 (by decide +kernel) (by decide +kernel)
theorem bw_762 : (Jvm.Cond.classLink "ToolrestMillLaw" (31 : Nat) "java/lang/IllegalStateException") ∈ am_ts := am_mem am_sub4 42 (by decide +kernel) (by decide +kernel)
theorem bw_763 : (Jvm.Cond.methodLink "ToolrestMillLaw" (27 : Nat) ({ cls := "ToolrestMill", name := "addBlock", desc := "(CIII)I" } : Jvm.MethodName)) ∈ am_ts := am_mem am_sub4 43 (by decide +kernel) (by decide +kernel)
theorem bw_764 : (Jvm.Cond.instanceMethod ({ cls := "ToolrestMill", name := "addBlock", desc := "(CIII)I" } : Jvm.MethodName)) ∈ am_ts := am_mem am_sub4 44 (by decide +kernel) (by decide +kernel)
theorem bw_765 : (Jvm.Cond.selects "ToolrestMill" ({ cls := "ToolrestMill", name := "addBlock", desc := "(CIII)I" } : Jvm.MethodName) ({ cls := "ToolrestMill", name := "addBlock", desc := "(CIII)I" } : Jvm.MethodName)) ∈ am_ts := am_mem am_sub4 45 (by decide +kernel) (by decide +kernel)
theorem bw_766 : (Jvm.Cond.code ({ cls := "ToolrestMill", name := "addBlock", desc := "(CIII)I" } : Jvm.MethodName) prog_1_method_5_code (5 : Nat) (Option.some Jvm.ClassFile.FieldType.int)) ∈ am_ts := am_mem am_sub4 46 (by decide +kernel) (by decide +kernel)
theorem bw_767 : (Jvm.Cond.methodLink "ToolrestMill" (114 : Nat) ({ cls := "ToolrestMill", name := "isKind", desc := "(C)Z" } : Jvm.MethodName)) ∈ am_ts := am_mem am_sub4 47 (by decide +kernel) (by decide +kernel)
theorem bw_768 : (Jvm.Cond.static ({ cls := "ToolrestMill", name := "isKind", desc := "(C)Z" } : Jvm.MethodName)) ∈ am_ts := am_mem am_sub4 48 (by decide +kernel) (by decide +kernel)
theorem bw_772 : (Jvm.Cond.methodLink "ToolrestMill" (117 : Nat) ({ cls := "ToolrestMill", name := "isTerm", desc := "(I)Z" } : Jvm.MethodName)) ∈ am_ts := am_mem am_sub4 52 (by decide +kernel) (by decide +kernel)
theorem bw_773 : (Jvm.Cond.static ({ cls := "ToolrestMill", name := "isTerm", desc := "(I)Z" } : Jvm.MethodName)) ∈ am_ts := am_mem am_sub4 53 (by decide +kernel) (by decide +kernel)
theorem bw_776 : (Jvm.Cond.classLink "ToolrestMill" (132 : Nat) "java/lang/IllegalStateException") ∈ am_ts := am_mem am_sub4 56 (by decide +kernel) (by decide +kernel)
theorem bw_792 : (Jvm.Cond.methodLink "ToolrestMill" (137 : Nat) ({ cls := "ToolrestMill$Program", name := "append", desc := "(CIII)V" } : Jvm.MethodName)) ∈ am_ts := am_mem am_sub4 72 (by decide +kernel) (by decide +kernel)
theorem bw_793 : (Jvm.Cond.instanceMethod ({ cls := "ToolrestMill$Program", name := "append", desc := "(CIII)V" } : Jvm.MethodName)) ∈ am_ts := am_mem am_sub4 73 (by decide +kernel) (by decide +kernel)
theorem bw_794 : (Jvm.Cond.selects "ToolrestMill$Program" ({ cls := "ToolrestMill$Program", name := "append", desc := "(CIII)V" } : Jvm.MethodName) ({ cls := "ToolrestMill$Program", name := "append", desc := "(CIII)V" } : Jvm.MethodName)) ∈ am_ts := am_mem am_sub4 74 (by decide +kernel) (by decide +kernel)
theorem bw_800 : (Jvm.Cond.methodLink "ToolrestMillLaw" (94 : Nat) ({ cls := "ToolrestMillLaw", name := "dropBlock", desc := "(LToolrestMill;[J)I" } : Jvm.MethodName)) ∈ am_ts := am_mem am_sub4 80 (by decide +kernel) (by decide +kernel)
theorem bw_801 : (Jvm.Cond.static ({ cls := "ToolrestMillLaw", name := "dropBlock", desc := "(LToolrestMill;[J)I" } : Jvm.MethodName)) ∈ am_ts := am_mem am_sub4 81 (by decide +kernel) (by decide +kernel)
theorem bw_802 : (Jvm.Cond.codeWith ({ cls := "ToolrestMillLaw", name := "dropBlock", desc := "(LToolrestMill;[J)I" } : Jvm.MethodName) method_7_code (3 : Nat) (Option.some Jvm.ClassFile.FieldType.int) [((0 : Nat), (8 : Nat), (11 : Nat), (31 : Nat))]) ∈ am_ts := am_mem am_sub4 82 (by decide +kernel) (by decide +kernel)
theorem bw_803 : (Jvm.Cond.methodLink "ToolrestMillLaw" (33 : Nat) ({ cls := "ToolrestMill", name := "dropBlock", desc := "()I" } : Jvm.MethodName)) ∈ am_ts := am_mem am_sub4 83 (by decide +kernel) (by decide +kernel)
theorem bw_804 : (Jvm.Cond.instanceMethod ({ cls := "ToolrestMill", name := "dropBlock", desc := "()I" } : Jvm.MethodName)) ∈ am_ts := am_mem am_sub4 84 (by decide +kernel) (by decide +kernel)
theorem bw_805 : (Jvm.Cond.selects "ToolrestMill" ({ cls := "ToolrestMill", name := "dropBlock", desc := "()I" } : Jvm.MethodName) ({ cls := "ToolrestMill", name := "dropBlock", desc := "()I" } : Jvm.MethodName)) ∈ am_ts := am_mem am_sub4 85 (by decide +kernel) (by decide +kernel)
theorem bw_806 : (Jvm.Cond.code ({ cls := "ToolrestMill", name := "dropBlock", desc := "()I" } : Jvm.MethodName) prog_1_method_6_code (1 : Nat) (Option.some Jvm.ClassFile.FieldType.int)) ∈ am_ts := am_mem am_sub4 86 (by decide +kernel) (by decide +kernel)
theorem bw_808 : (Jvm.Cond.methodLink "ToolrestMill" (143 : Nat) ({ cls := "ToolrestMill$Program", name := "removeLast", desc := "()V" } : Jvm.MethodName)) ∈ am_ts := am_mem am_sub4 88 (by decide +kernel) (by decide +kernel)
theorem bw_809 : (Jvm.Cond.instanceMethod ({ cls := "ToolrestMill$Program", name := "removeLast", desc := "()V" } : Jvm.MethodName)) ∈ am_ts := am_mem am_sub4 89 (by decide +kernel) (by decide +kernel)
theorem bw_810 : (Jvm.Cond.selects "ToolrestMill$Program" ({ cls := "ToolrestMill$Program", name := "removeLast", desc := "()V" } : Jvm.MethodName) ({ cls := "ToolrestMill$Program", name := "removeLast", desc := "()V" } : Jvm.MethodName)) ∈ am_ts := am_mem am_sub4 90 (by decide +kernel) (by decide +kernel)
theorem bw_812 : (Jvm.Cond.methodLink "ToolrestMillLaw" (103 : Nat) ({ cls := "ToolrestMillLaw", name := "run", desc := "(LToolrestMill;I[J)I" } : Jvm.MethodName)) ∈ am_ts := am_mem am_sub4 92 (by decide +kernel) (by decide +kernel)
theorem bw_813 : (Jvm.Cond.static ({ cls := "ToolrestMillLaw", name := "run", desc := "(LToolrestMill;I[J)I" } : Jvm.MethodName)) ∈ am_ts := am_mem am_sub4 93 (by decide +kernel) (by decide +kernel)
theorem bw_814 : (Jvm.Cond.codeWith ({ cls := "ToolrestMillLaw", name := "run", desc := "(LToolrestMill;I[J)I" } : Jvm.MethodName) method_8_code (4 : Nat) (Option.some Jvm.ClassFile.FieldType.int) [((0 : Nat), (9 : Nat), (12 : Nat), (15 : Nat)), ((0 : Nat), (9 : Nat), (15 : Nat), (31 : Nat))]) ∈ am_ts := am_mem am_sub4 94 (by decide +kernel) (by decide +kernel)
theorem bw_815 : (Jvm.Cond.methodLink "ToolrestMillLaw" (37 : Nat) ({ cls := "ToolrestMill", name := "run", desc := "(I)I" } : Jvm.MethodName)) ∈ am_ts := am_mem am_sub4 95 (by decide +kernel) (by decide +kernel)
theorem bw_816 : (Jvm.Cond.instanceMethod ({ cls := "ToolrestMill", name := "run", desc := "(I)I" } : Jvm.MethodName)) ∈ am_ts := am_mem am_sub4 96 (by decide +kernel) (by decide +kernel)
theorem bw_817 : (Jvm.Cond.selects "ToolrestMill" ({ cls := "ToolrestMill", name := "run", desc := "(I)I" } : Jvm.MethodName) ({ cls := "ToolrestMill", name := "run", desc := "(I)I" } : Jvm.MethodName)) ∈ am_ts := am_mem am_sub4 97 (by decide +kernel) (by decide +kernel)
theorem bw_818 : (Jvm.Cond.code ({ cls := "ToolrestMill", name := "run", desc := "(I)I" } : Jvm.MethodName) prog_1_method_8_code (3 : Nat) (Option.some Jvm.ClassFile.FieldType.int)) ∈ am_ts := am_mem am_sub4 98 (by decide +kernel) (by decide +kernel)
theorem bw_821 : (Jvm.Cond.methodLink "ToolrestMill" (157 : Nat) ({ cls := "ToolrestMill$Controller", name := "carryOutNext", desc := "()C" } : Jvm.MethodName)) ∈ am_ts := am_mem am_sub4 101 (by decide +kernel) (by decide +kernel)
theorem bw_822 : (Jvm.Cond.methodLink "ToolrestMill" (161 : Nat) ({ cls := "ToolrestMill$Controller", name := "isAtStop", desc := "()Z" } : Jvm.MethodName)) ∈ am_ts := am_mem am_sub4 102 (by decide +kernel) (by decide +kernel)
theorem bw_823 : (Jvm.Cond.instanceMethod ({ cls := "ToolrestMill$Controller", name := "isAtStop", desc := "()Z" } : Jvm.MethodName)) ∈ am_ts := am_mem am_sub4 103 (by decide +kernel) (by decide +kernel)
theorem bw_824 : (Jvm.Cond.selects "ToolrestMill$Controller" ({ cls := "ToolrestMill$Controller", name := "isAtStop", desc := "()Z" } : Jvm.MethodName) ({ cls := "ToolrestMill$Controller", name := "isAtStop", desc := "()Z" } : Jvm.MethodName)) ∈ am_ts := am_mem am_sub4 104 (by decide +kernel) (by decide +kernel)
theorem bw_826 : (Jvm.Cond.methodLink "ToolrestMillLaw" (128 : Nat) ({ cls := "ToolrestMillLaw", name := "variable", desc := "(LToolrestMill;I[J)I" } : Jvm.MethodName)) ∈ am_ts := am_mem am_sub4 106 (by decide +kernel) (by decide +kernel)
theorem bw_827 : (Jvm.Cond.static ({ cls := "ToolrestMillLaw", name := "variable", desc := "(LToolrestMill;I[J)I" } : Jvm.MethodName)) ∈ am_ts := am_mem am_sub4 107 (by decide +kernel) (by decide +kernel)
theorem bw_828 : (Jvm.Cond.codeWith ({ cls := "ToolrestMillLaw", name := "variable", desc := "(LToolrestMill;I[J)I" } : Jvm.MethodName) method_9_code (4 : Nat) (Option.some Jvm.ClassFile.FieldType.int) [((0 : Nat), (9 : Nat), (12 : Nat), (15 : Nat))]) ∈ am_ts := am_mem am_sub4 108 (by decide +kernel) (by decide +kernel)
theorem bw_829 : (Jvm.Cond.methodLink "ToolrestMillLaw" (41 : Nat) ({ cls := "ToolrestMill", name := "variable", desc := "(I)I" } : Jvm.MethodName)) ∈ am_ts := am_mem am_sub4 109 (by decide +kernel) (by decide +kernel)
theorem bw_830 : (Jvm.Cond.instanceMethod ({ cls := "ToolrestMill", name := "variable", desc := "(I)I" } : Jvm.MethodName)) ∈ am_ts := am_mem am_sub4 110 (by decide +kernel) (by decide +kernel)
theorem bw_831 : (Jvm.Cond.selects "ToolrestMill" ({ cls := "ToolrestMill", name := "variable", desc := "(I)I" } : Jvm.MethodName) ({ cls := "ToolrestMill", name := "variable", desc := "(I)I" } : Jvm.MethodName)) ∈ am_ts := am_mem am_sub4 111 (by decide +kernel) (by decide +kernel)
theorem bw_832 : (Jvm.Cond.code ({ cls := "ToolrestMill", name := "variable", desc := "(I)I" } : Jvm.MethodName) prog_1_method_14_code (2 : Nat) (Option.some Jvm.ClassFile.FieldType.int)) ∈ am_ts := am_mem am_sub4 112 (by decide +kernel) (by decide +kernel)
theorem bw_834 : (Jvm.Cond.methodLink "ToolrestMillLaw" (131 : Nat) ({ cls := "ToolrestMillLaw", name := "at", desc := "(LToolrestMill;I[J)I" } : Jvm.MethodName)) ∈ am_ts := am_mem am_sub4 114 (by decide +kernel) (by decide +kernel)
theorem bw_835 : (Jvm.Cond.static ({ cls := "ToolrestMillLaw", name := "at", desc := "(LToolrestMill;I[J)I" } : Jvm.MethodName)) ∈ am_ts := am_mem am_sub4 115 (by decide +kernel) (by decide +kernel)
theorem bw_836 : (Jvm.Cond.codeWith ({ cls := "ToolrestMillLaw", name := "at", desc := "(LToolrestMill;I[J)I" } : Jvm.MethodName) method_10_code (4 : Nat) (Option.some Jvm.ClassFile.FieldType.int) [((0 : Nat), (9 : Nat), (12 : Nat), (15 : Nat))]) ∈ am_ts := am_mem am_sub4 116 (by decide +kernel) (by decide +kernel)
theorem bw_837 : (Jvm.Cond.methodLink "ToolrestMillLaw" (44 : Nat) ({ cls := "ToolrestMill", name := "at", desc := "(I)I" } : Jvm.MethodName)) ∈ am_ts := am_mem am_sub4 117 (by decide +kernel) (by decide +kernel)
theorem bw_838 : (Jvm.Cond.instanceMethod ({ cls := "ToolrestMill", name := "at", desc := "(I)I" } : Jvm.MethodName)) ∈ am_ts := am_mem am_sub4 118 (by decide +kernel) (by decide +kernel)
theorem bw_839 : (Jvm.Cond.selects "ToolrestMill" ({ cls := "ToolrestMill", name := "at", desc := "(I)I" } : Jvm.MethodName) ({ cls := "ToolrestMill", name := "at", desc := "(I)I" } : Jvm.MethodName)) ∈ am_ts := am_mem am_sub4 119 (by decide +kernel) (by decide +kernel)
theorem bw_840 : (Jvm.Cond.code ({ cls := "ToolrestMill", name := "at", desc := "(I)I" } : Jvm.MethodName) prog_1_method_15_code (2 : Nat) (Option.some Jvm.ClassFile.FieldType.int)) ∈ am_ts := am_mem am_sub4 120 (by decide +kernel) (by decide +kernel)
theorem bw_842 : (Jvm.Cond.methodLink "ToolrestMillLaw" (138 : Nat) ({ cls := "ToolrestMillLaw", name := "used", desc := "(LToolrestMill;II[J)I" } : Jvm.MethodName)) ∈ am_ts := am_mem am_sub4 122 (by decide +kernel) (by decide +kernel)
theorem bw_843 : (Jvm.Cond.static ({ cls := "ToolrestMillLaw", name := "used", desc := "(LToolrestMill;II[J)I" } : Jvm.MethodName)) ∈ am_ts := am_mem am_sub4 123 (by decide +kernel) (by decide +kernel)
theorem bw_844 : (Jvm.Cond.codeWith ({ cls := "ToolrestMillLaw", name := "used", desc := "(LToolrestMill;II[J)I" } : Jvm.MethodName) method_11_code (5 : Nat) (Option.some Jvm.ClassFile.FieldType.int) [((0 : Nat), (10 : Nat), (13 : Nat), (13 : Nat)), ((0 : Nat), (10 : Nat), (17 : Nat), (51 : Nat))]) ∈ am_ts := am_mem am_sub4 124 (by decide +kernel) (by decide +kernel)
theorem bw_845 : (Jvm.Cond.classLink "ToolrestMillLaw" (51 : Nat) "java/util/NoSuchElementException") ∈ am_ts := am_mem am_sub4 125 (by decide +kernel) (by decide +kernel)
theorem bw_846 : (Jvm.Cond.methodLink "ToolrestMillLaw" (47 : Nat) ({ cls := "ToolrestMill", name := "used", desc := "(II)I" } : Jvm.MethodName)) ∈ am_ts := am_mem am_sub4 126 (by decide +kernel) (by decide +kernel)
theorem bw_847 : (Jvm.Cond.instanceMethod ({ cls := "ToolrestMill", name := "used", desc := "(II)I" } : Jvm.MethodName)) ∈ am_ts := am_mem am_sub4 127 (by decide +kernel) (by decide +kernel)
theorem bw_848 : (Jvm.Cond.selects "ToolrestMill" ({ cls := "ToolrestMill", name := "used", desc := "(II)I" } : Jvm.MethodName) ({ cls := "ToolrestMill", name := "used", desc := "(II)I" } : Jvm.MethodName)) ∈ am_ts := am_mem am_sub4 128 (by decide +kernel) (by decide +kernel)
theorem bw_849 : (Jvm.Cond.code ({ cls := "ToolrestMill", name := "used", desc := "(II)I" } : Jvm.MethodName) prog_1_method_17_code (4 : Nat) (Option.some Jvm.ClassFile.FieldType.int)) ∈ am_ts := am_mem am_sub4 129 (by decide +kernel) (by decide +kernel)
theorem bw_850 : (Jvm.Cond.methodLink "ToolrestMill" (183 : Nat) ({ cls := "ToolrestMill$Racks", name := "isFilled", desc := "(I)Z" } : Jvm.MethodName)) ∈ am_ts := am_mem am_sub4 130 (by decide +kernel) (by decide +kernel)
theorem bw_851 : (Jvm.Cond.classLink "ToolrestMill" (186 : Nat) "java/util/NoSuchElementException") ∈ am_ts := am_mem am_sub4 131 (by decide +kernel) (by decide +kernel)
theorem bw_867 : (Jvm.Cond.methodLink "ToolrestMillLaw" (142 : Nat) ({ cls := "ToolrestMillLaw", name := "has", desc := "(LToolrestMill;III[J)I" } : Jvm.MethodName)) ∈ am_ts := am_mem am_sub4 147 (by decide +kernel) (by decide +kernel)
theorem bw_868 : (Jvm.Cond.static ({ cls := "ToolrestMillLaw", name := "has", desc := "(LToolrestMill;III[J)I" } : Jvm.MethodName)) ∈ am_ts := am_mem am_sub4 148 (by decide +kernel) (by decide +kernel)
theorem bw_869 : (Jvm.Cond.codeWith ({ cls := "ToolrestMillLaw", name := "has", desc := "(LToolrestMill;III[J)I" } : Jvm.MethodName) method_12_code (6 : Nat) (Option.some Jvm.ClassFile.FieldType.int) [((0 : Nat), (19 : Nat), (22 : Nat), (13 : Nat))]) ∈ am_ts := am_mem am_sub4 149 (by decide +kernel) (by decide +kernel)
theorem bw_870 : (Jvm.Cond.methodLink "ToolrestMillLaw" (53 : Nat) ({ cls := "ToolrestMill", name := "has", desc := "(III)Z" } : Jvm.MethodName)) ∈ am_ts := am_mem am_sub4 150 (by decide +kernel) (by decide +kernel)
theorem bw_871 : (Jvm.Cond.instanceMethod ({ cls := "ToolrestMill", name := "has", desc := "(III)Z" } : Jvm.MethodName)) ∈ am_ts := am_mem am_sub4 151 (by decide +kernel) (by decide +kernel)
theorem bw_872 : (Jvm.Cond.selects "ToolrestMill" ({ cls := "ToolrestMill", name := "has", desc := "(III)Z" } : Jvm.MethodName) ({ cls := "ToolrestMill", name := "has", desc := "(III)Z" } : Jvm.MethodName)) ∈ am_ts := am_mem am_sub4 152 (by decide +kernel) (by decide +kernel)
theorem bw_873 : (Jvm.Cond.code ({ cls := "ToolrestMill", name := "has", desc := "(III)Z" } : Jvm.MethodName) prog_1_method_18_code (4 : Nat) (Option.some Jvm.ClassFile.FieldType.boolean)) ∈ am_ts := am_mem am_sub4 153 (by decide +kernel) (by decide +kernel)
theorem bw_874 : (Jvm.Cond.methodLink "ToolrestMillLaw" (146 : Nat) ({ cls := "ToolrestMillLaw", name := "hasAnew", desc := "(LToolrestMill;III[J)I" } : Jvm.MethodName)) ∈ am_ts := am_mem am_sub4 154 (by decide +kernel) (by decide +kernel)
theorem bw_875 : (Jvm.Cond.static ({ cls := "ToolrestMillLaw", name := "hasAnew", desc := "(LToolrestMill;III[J)I" } : Jvm.MethodName)) ∈ am_ts := am_mem am_sub4 155 (by decide +kernel) (by decide +kernel)
theorem bw_876 : (Jvm.Cond.codeWith ({ cls := "ToolrestMillLaw", name := "hasAnew", desc := "(LToolrestMill;III[J)I" } : Jvm.MethodName) method_13_code (6 : Nat) (Option.some Jvm.ClassFile.FieldType.int) [((0 : Nat), (19 : Nat), (22 : Nat), (13 : Nat))]) ∈ am_ts := am_mem am_sub4 156 (by decide +kernel) (by decide +kernel)
theorem bw_877 : (Jvm.Cond.methodLink "ToolrestMillLaw" (57 : Nat) ({ cls := "ToolrestMill", name := "hasAnew", desc := "(III)Z" } : Jvm.MethodName)) ∈ am_ts := am_mem am_sub4 157 (by decide +kernel) (by decide +kernel)
theorem bw_878 : (Jvm.Cond.instanceMethod ({ cls := "ToolrestMill", name := "hasAnew", desc := "(III)Z" } : Jvm.MethodName)) ∈ am_ts := am_mem am_sub4 158 (by decide +kernel) (by decide +kernel)
theorem bw_879 : (Jvm.Cond.selects "ToolrestMill" ({ cls := "ToolrestMill", name := "hasAnew", desc := "(III)Z" } : Jvm.MethodName) ({ cls := "ToolrestMill", name := "hasAnew", desc := "(III)Z" } : Jvm.MethodName)) ∈ am_ts := am_mem am_sub4 159 (by decide +kernel) (by decide +kernel)
theorem bw_880 : (Jvm.Cond.code ({ cls := "ToolrestMill", name := "hasAnew", desc := "(III)Z" } : Jvm.MethodName) prog_1_method_19_code (4 : Nat) (Option.some Jvm.ClassFile.FieldType.boolean)) ∈ am_ts := am_mem am_sub4 160 (by decide +kernel) (by decide +kernel)
theorem bw_881 : (Jvm.Cond.methodLink "ToolrestMillLaw" (153 : Nat) ({ cls := "ToolrestMillLaw", name := "height", desc := "(LToolrestMill;II[J)I" } : Jvm.MethodName)) ∈ am_ts := am_mem am_sub4 161 (by decide +kernel) (by decide +kernel)
theorem bw_882 : (Jvm.Cond.static ({ cls := "ToolrestMillLaw", name := "height", desc := "(LToolrestMill;II[J)I" } : Jvm.MethodName)) ∈ am_ts := am_mem am_sub4 162 (by decide +kernel) (by decide +kernel)
theorem bw_883 : (Jvm.Cond.codeWith ({ cls := "ToolrestMillLaw", name := "height", desc := "(LToolrestMill;II[J)I" } : Jvm.MethodName) method_14_code (5 : Nat) (Option.some Jvm.ClassFile.FieldType.int) [((0 : Nat), (10 : Nat), (13 : Nat), (13 : Nat))]) ∈ am_ts := am_mem am_sub4 163 (by decide +kernel) (by decide +kernel)
theorem bw_884 : (Jvm.Cond.methodLink "ToolrestMillLaw" (60 : Nat) ({ cls := "ToolrestMill", name := "height", desc := "(II)I" } : Jvm.MethodName)) ∈ am_ts := am_mem am_sub4 164 (by decide +kernel) (by decide +kernel)
theorem bw_885 : (Jvm.Cond.instanceMethod ({ cls := "ToolrestMill", name := "height", desc := "(II)I" } : Jvm.MethodName)) ∈ am_ts := am_mem am_sub4 165 (by decide +kernel) (by decide +kernel)
theorem bw_886 : (Jvm.Cond.selects "ToolrestMill" ({ cls := "ToolrestMill", name := "height", desc := "(II)I" } : Jvm.MethodName) ({ cls := "ToolrestMill", name := "height", desc := "(II)I" } : Jvm.MethodName)) ∈ am_ts := am_mem am_sub4 166 (by decide +kernel) (by decide +kernel)
theorem bw_887 : (Jvm.Cond.code ({ cls := "ToolrestMill", name := "height", desc := "(II)I" } : Jvm.MethodName) prog_1_method_21_code (4 : Nat) (Option.some Jvm.ClassFile.FieldType.int)) ∈ am_ts := am_mem am_sub4 167 (by decide +kernel) (by decide +kernel)
theorem bw_888 : (Jvm.Cond.methodLink "ToolrestMillLaw" (170 : Nat) ({ cls := "ToolrestMillLaw", name := "meanUse", desc := "(LToolrestMill;[D)I" } : Jvm.MethodName)) ∈ am_ts := am_mem am_sub4 168 (by decide +kernel) (by decide +kernel)
theorem bw_889 : (Jvm.Cond.static ({ cls := "ToolrestMillLaw", name := "meanUse", desc := "(LToolrestMill;[D)I" } : Jvm.MethodName)) ∈ am_ts := am_mem am_sub4 169 (by decide +kernel) (by decide +kernel)
theorem bw_890 : (Jvm.Cond.codeWith ({ cls := "ToolrestMillLaw", name := "meanUse", desc := "(LToolrestMill;[D)I" } : Jvm.MethodName) method_15_code (3 : Nat) (Option.some Jvm.ClassFile.FieldType.int) [((0 : Nat), (7 : Nat), (10 : Nat), (67 : Nat))]) ∈ am_ts := am_mem am_sub4 170 (by decide +kernel) (by decide +kernel)
theorem bw_891 : (Jvm.Cond.classLink "ToolrestMillLaw" (67 : Nat) "java/lang/ArithmeticException") ∈ am_ts := am_mem am_sub4 171 (by decide +kernel) (by decide +kernel)
theorem bw_905 : (Jvm.Cond.methodLink "ToolrestMillLaw" (63 : Nat) ({ cls := "ToolrestMill", name := "meanUse", desc := "()D" } : Jvm.MethodName)) ∈ am_ts := am_mem am_sub4 185 (by decide +kernel) (by decide +kernel)
theorem bw_906 : (Jvm.Cond.instanceMethod ({ cls := "ToolrestMill", name := "meanUse", desc := "()D" } : Jvm.MethodName)) ∈ am_ts := am_mem am_sub4 186 (by decide +kernel) (by decide +kernel)
theorem bw_907 : (Jvm.Cond.selects "ToolrestMill" ({ cls := "ToolrestMill", name := "meanUse", desc := "()D" } : Jvm.MethodName) ({ cls := "ToolrestMill", name := "meanUse", desc := "()D" } : Jvm.MethodName)) ∈ am_ts := am_mem am_sub4 187 (by decide +kernel) (by decide +kernel)
theorem bw_908 : (Jvm.Cond.code ({ cls := "ToolrestMill", name := "meanUse", desc := "()D" } : Jvm.MethodName) prog_1_method_25_code (2 : Nat) (Option.some Jvm.ClassFile.FieldType.double)) ∈ am_ts := am_mem am_sub4 188 (by decide +kernel) (by decide +kernel)
theorem bw_909 : (Jvm.Cond.classLink "ToolrestMill" (216 : Nat) "java/lang/ArithmeticException") ∈ am_ts := am_mem am_sub4 189 (by decide +kernel) (by decide +kernel)
theorem bw_912 : (Jvm.Cond.classLink "ToolrestMillLaw" (70 : Nat) "ToolrestMillModel") ∈ am_ts := am_mem am_sub4 192 (by decide +kernel) (by decide +kernel)
theorem bw_913 : (Jvm.Cond.instantiable "ToolrestMillModel" (27 : Nat)) ∈ am_ts := am_mem am_sub4 193 (by decide +kernel) (by decide +kernel)
theorem bw_914 : (Jvm.Cond.methodLink "ToolrestMillLaw" (72 : Nat) ({ cls := "ToolrestMillModel", name := "<init>", desc := "()V" } : Jvm.MethodName)) ∈ am_ts := am_mem am_sub4 194 (by decide +kernel) (by decide +kernel)
theorem bw_915 : (Jvm.Cond.instanceMethod ({ cls := "ToolrestMillModel", name := "<init>", desc := "()V" } : Jvm.MethodName)) ∈ am_ts := am_mem am_sub4 195 (by decide +kernel) (by decide +kernel)
theorem bw_1005 : (Jvm.Cond.methodLink "ToolrestMillLaw" (79 : Nat) ({ cls := "ToolrestMillModel", name := "thrown", desc := "()I" } : Jvm.MethodName)) ∈ am_ts := am_mem am_sub5 45 (by decide +kernel) (by decide +kernel)
theorem bw_1006 : (Jvm.Cond.instanceMethod ({ cls := "ToolrestMillModel", name := "thrown", desc := "()I" } : Jvm.MethodName)) ∈ am_ts := am_mem am_sub5 46 (by decide +kernel) (by decide +kernel)
theorem bw_1007 : (Jvm.Cond.selects "ToolrestMillModel" ({ cls := "ToolrestMillModel", name := "thrown", desc := "()I" } : Jvm.MethodName) ({ cls := "ToolrestMillModel", name := "thrown", desc := "()I" } : Jvm.MethodName)) ∈ am_ts := am_mem am_sub5 47 (by decide +kernel) (by decide +kernel)
theorem bw_1009 : (Jvm.Cond.methodLink "ToolrestMillLaw" (78 : Nat) ({ cls := "ToolrestMillModel", name := "putCutter", desc := "(IICII)I" } : Jvm.MethodName)) ∈ am_ts := am_mem am_sub5 49 (by decide +kernel) (by decide +kernel)
theorem bw_1010 : (Jvm.Cond.instanceMethod ({ cls := "ToolrestMillModel", name := "putCutter", desc := "(IICII)I" } : Jvm.MethodName)) ∈ am_ts := am_mem am_sub5 50 (by decide +kernel) (by decide +kernel)
theorem bw_1011 : (Jvm.Cond.selects "ToolrestMillModel" ({ cls := "ToolrestMillModel", name := "putCutter", desc := "(IICII)I" } : Jvm.MethodName) ({ cls := "ToolrestMillModel", name := "putCutter", desc := "(IICII)I" } : Jvm.MethodName)) ∈ am_ts := am_mem am_sub5 51 (by decide +kernel) (by decide +kernel)
theorem bw_1019 : (Jvm.Cond.methodLink "ToolrestMillLaw" (85 : Nat) ({ cls := "ToolrestMillModel", name := "setFixture", desc := "(IIIZ)Z" } : Jvm.MethodName)) ∈ am_ts := am_mem am_sub5 59 (by decide +kernel) (by decide +kernel)
theorem bw_1020 : (Jvm.Cond.instanceMethod ({ cls := "ToolrestMillModel", name := "setFixture", desc := "(IIIZ)Z" } : Jvm.MethodName)) ∈ am_ts := am_mem am_sub5 60 (by decide +kernel) (by decide +kernel)
theorem bw_1021 : (Jvm.Cond.selects "ToolrestMillModel" ({ cls := "ToolrestMillModel", name := "setFixture", desc := "(IIIZ)Z" } : Jvm.MethodName) ({ cls := "ToolrestMillModel", name := "setFixture", desc := "(IIIZ)Z" } : Jvm.MethodName)) ∈ am_ts := am_mem am_sub5 61 (by decide +kernel) (by decide +kernel)
theorem bw_1033 : (Jvm.Cond.methodLink "ToolrestMillLaw" (89 : Nat) ({ cls := "ToolrestMillModel", name := "setOffset", desc := "(IIII)I" } : Jvm.MethodName)) ∈ am_ts := am_mem am_sub5 73 (by decide +kernel) (by decide +kernel)
theorem bw_1034 : (Jvm.Cond.instanceMethod ({ cls := "ToolrestMillModel", name := "setOffset", desc := "(IIII)I" } : Jvm.MethodName)) ∈ am_ts := am_mem am_sub5 74 (by decide +kernel) (by decide +kernel)
theorem bw_1035 : (Jvm.Cond.selects "ToolrestMillModel" ({ cls := "ToolrestMillModel", name := "setOffset", desc := "(IIII)I" } : Jvm.MethodName) ({ cls := "ToolrestMillModel", name := "setOffset", desc := "(IIII)I" } : Jvm.MethodName)) ∈ am_ts := am_mem am_sub5 75 (by decide +kernel) (by decide +kernel)
theorem bw_1037 : (Jvm.Cond.methodLink "ToolrestMillLaw" (93 : Nat) ({ cls := "ToolrestMillModel", name := "addBlock", desc := "(CIII)I" } : Jvm.MethodName)) ∈ am_ts := am_mem am_sub5 77 (by decide +kernel) (by decide +kernel)
theorem bw_1038 : (Jvm.Cond.instanceMethod ({ cls := "ToolrestMillModel", name := "addBlock", desc := "(CIII)I" } : Jvm.MethodName)) ∈ am_ts := am_mem am_sub5 78 (by decide +kernel) (by decide +kernel)
theorem bw_1039 : (Jvm.Cond.selects "ToolrestMillModel" ({ cls := "ToolrestMillModel", name := "addBlock", desc := "(CIII)I" } : Jvm.MethodName) ({ cls := "ToolrestMillModel", name := "addBlock", desc := "(CIII)I" } : Jvm.MethodName)) ∈ am_ts := am_mem am_sub5 79 (by decide +kernel) (by decide +kernel)
theorem bw_1047 : (Jvm.Cond.methodLink "ToolrestMillLaw" (97 : Nat) ({ cls := "ToolrestMillModel", name := "dropBlock", desc := "()I" } : Jvm.MethodName)) ∈ am_ts := am_mem am_sub5 87 (by decide +kernel) (by decide +kernel)
theorem bw_1048 : (Jvm.Cond.instanceMethod ({ cls := "ToolrestMillModel", name := "dropBlock", desc := "()I" } : Jvm.MethodName)) ∈ am_ts := am_mem am_sub5 88 (by decide +kernel) (by decide +kernel)
theorem bw_1049 : (Jvm.Cond.selects "ToolrestMillModel" ({ cls := "ToolrestMillModel", name := "dropBlock", desc := "()I" } : Jvm.MethodName) ({ cls := "ToolrestMillModel", name := "dropBlock", desc := "()I" } : Jvm.MethodName)) ∈ am_ts := am_mem am_sub5 89 (by decide +kernel) (by decide +kernel)
theorem bw_1051 : (Jvm.Cond.methodLink "ToolrestMillLaw" (102 : Nat) ({ cls := "ToolrestMillModel", name := "isClosed", desc := "()Z" } : Jvm.MethodName)) ∈ am_ts := am_mem am_sub5 91 (by decide +kernel) (by decide +kernel)
theorem bw_1052 : (Jvm.Cond.instanceMethod ({ cls := "ToolrestMillModel", name := "isClosed", desc := "()Z" } : Jvm.MethodName)) ∈ am_ts := am_mem am_sub5 92 (by decide +kernel) (by decide +kernel)
theorem bw_1053 : (Jvm.Cond.selects "ToolrestMillModel" ({ cls := "ToolrestMillModel", name := "isClosed", desc := "()Z" } : Jvm.MethodName) ({ cls := "ToolrestMillModel", name := "isClosed", desc := "()Z" } : Jvm.MethodName)) ∈ am_ts := am_mem am_sub5 93 (by decide +kernel) (by decide +kernel)
theorem bw_1063 : (Jvm.Cond.methodLink "ToolrestMillLaw" (106 : Nat) ({ cls := "ToolrestMillModel", name := "run", desc := "(I)I" } : Jvm.MethodName)) ∈ am_ts := am_mem am_sub5 103 (by decide +kernel) (by decide +kernel)
theorem bw_1064 : (Jvm.Cond.instanceMethod ({ cls := "ToolrestMillModel", name := "run", desc := "(I)I" } : Jvm.MethodName)) ∈ am_ts := am_mem am_sub5 104 (by decide +kernel) (by decide +kernel)
theorem bw_1065 : (Jvm.Cond.selects "ToolrestMillModel" ({ cls := "ToolrestMillModel", name := "run", desc := "(I)I" } : Jvm.MethodName) ({ cls := "ToolrestMillModel", name := "run", desc := "(I)I" } : Jvm.MethodName)) ∈ am_ts := am_mem am_sub5 105 (by decide +kernel) (by decide +kernel)
theorem bw_1146 : (Jvm.Cond.methodLink "ToolrestMillLaw" (110 : Nat) ({ cls := "ToolrestMillModel", name := "reset", desc := "()I" } : Jvm.MethodName)) ∈ am_ts := am_mem am_sub5 186 (by decide +kernel) (by decide +kernel)
theorem bw_1147 : (Jvm.Cond.instanceMethod ({ cls := "ToolrestMillModel", name := "reset", desc := "()I" } : Jvm.MethodName)) ∈ am_ts := am_mem am_sub5 187 (by decide +kernel) (by decide +kernel)
theorem bw_1148 : (Jvm.Cond.selects "ToolrestMillModel" ({ cls := "ToolrestMillModel", name := "reset", desc := "()I" } : Jvm.MethodName) ({ cls := "ToolrestMillModel", name := "reset", desc := "()I" } : Jvm.MethodName)) ∈ am_ts := am_mem am_sub5 188 (by decide +kernel) (by decide +kernel)
theorem bw_1154 : (Jvm.Cond.methodLink "ToolrestMillLaw" (115 : Nat) ({ cls := "ToolrestMillModel", name := "alarm", desc := "()C" } : Jvm.MethodName)) ∈ am_ts := am_mem am_sub5 194 (by decide +kernel) (by decide +kernel)
theorem bw_1155 : (Jvm.Cond.instanceMethod ({ cls := "ToolrestMillModel", name := "alarm", desc := "()C" } : Jvm.MethodName)) ∈ am_ts := am_mem am_sub5 195 (by decide +kernel) (by decide +kernel)
theorem bw_1156 : (Jvm.Cond.selects "ToolrestMillModel" ({ cls := "ToolrestMillModel", name := "alarm", desc := "()C" } : Jvm.MethodName) ({ cls := "ToolrestMillModel", name := "alarm", desc := "()C" } : Jvm.MethodName)) ∈ am_ts := am_mem am_sub5 196 (by decide +kernel) (by decide +kernel)
theorem bw_1158 : (Jvm.Cond.methodLink "ToolrestMillLaw" (119 : Nat) ({ cls := "ToolrestMillModel", name := "isOver", desc := "()Z" } : Jvm.MethodName)) ∈ am_ts := am_mem am_sub5 198 (by decide +kernel) (by decide +kernel)
theorem bw_1159 : (Jvm.Cond.instanceMethod ({ cls := "ToolrestMillModel", name := "isOver", desc := "()Z" } : Jvm.MethodName)) ∈ am_ts := am_mem am_sub5 199 (by decide +kernel) (by decide +kernel)
theorem bw_1160 : (Jvm.Cond.selects "ToolrestMillModel" ({ cls := "ToolrestMillModel", name := "isOver", desc := "()Z" } : Jvm.MethodName) ({ cls := "ToolrestMillModel", name := "isOver", desc := "()Z" } : Jvm.MethodName)) ∈ am_ts := am_mem am_sub5 200 (by decide +kernel) (by decide +kernel)
theorem bw_1162 : (Jvm.Cond.methodLink "ToolrestMillLaw" (123 : Nat) ({ cls := "ToolrestMillModel", name := "next", desc := "()I" } : Jvm.MethodName)) ∈ am_ts := am_mem am_sub5 202 (by decide +kernel) (by decide +kernel)
theorem bw_1163 : (Jvm.Cond.instanceMethod ({ cls := "ToolrestMillModel", name := "next", desc := "()I" } : Jvm.MethodName)) ∈ am_ts := am_mem am_sub5 203 (by decide +kernel) (by decide +kernel)
theorem bw_1164 : (Jvm.Cond.selects "ToolrestMillModel" ({ cls := "ToolrestMillModel", name := "next", desc := "()I" } : Jvm.MethodName) ({ cls := "ToolrestMillModel", name := "next", desc := "()I" } : Jvm.MethodName)) ∈ am_ts := am_mem am_sub5 204 (by decide +kernel) (by decide +kernel)
theorem bw_1166 : (Jvm.Cond.methodLink "ToolrestMillLaw" (127 : Nat) ({ cls := "ToolrestMillModel", name := "done", desc := "()I" } : Jvm.MethodName)) ∈ am_ts := am_mem am_sub5 206 (by decide +kernel) (by decide +kernel)
theorem bw_1167 : (Jvm.Cond.instanceMethod ({ cls := "ToolrestMillModel", name := "done", desc := "()I" } : Jvm.MethodName)) ∈ am_ts := am_mem am_sub5 207 (by decide +kernel) (by decide +kernel)
theorem bw_1168 : (Jvm.Cond.selects "ToolrestMillModel" ({ cls := "ToolrestMillModel", name := "done", desc := "()I" } : Jvm.MethodName) ({ cls := "ToolrestMillModel", name := "done", desc := "()I" } : Jvm.MethodName)) ∈ am_ts := am_mem am_sub5 208 (by decide +kernel) (by decide +kernel)
theorem bw_1170 : (Jvm.Cond.methodLink "ToolrestMillLaw" (130 : Nat) ({ cls := "ToolrestMillModel", name := "variable", desc := "(I)I" } : Jvm.MethodName)) ∈ am_ts := am_mem am_sub5 210 (by decide +kernel) (by decide +kernel)
theorem bw_1171 : (Jvm.Cond.instanceMethod ({ cls := "ToolrestMillModel", name := "variable", desc := "(I)I" } : Jvm.MethodName)) ∈ am_ts := am_mem am_sub5 211 (by decide +kernel) (by decide +kernel)
theorem bw_1172 : (Jvm.Cond.selects "ToolrestMillModel" ({ cls := "ToolrestMillModel", name := "variable", desc := "(I)I" } : Jvm.MethodName) ({ cls := "ToolrestMillModel", name := "variable", desc := "(I)I" } : Jvm.MethodName)) ∈ am_ts := am_mem am_sub5 212 (by decide +kernel) (by decide +kernel)
theorem bw_1174 : (Jvm.Cond.methodLink "ToolrestMillLaw" (133 : Nat) ({ cls := "ToolrestMillModel", name := "at", desc := "(I)I" } : Jvm.MethodName)) ∈ am_ts := am_mem am_sub5 214 (by decide +kernel) (by decide +kernel)
theorem bw_1175 : (Jvm.Cond.instanceMethod ({ cls := "ToolrestMillModel", name := "at", desc := "(I)I" } : Jvm.MethodName)) ∈ am_ts := am_mem am_sub5 215 (by decide +kernel) (by decide +kernel)
theorem bw_1176 : (Jvm.Cond.selects "ToolrestMillModel" ({ cls := "ToolrestMillModel", name := "at", desc := "(I)I" } : Jvm.MethodName) ({ cls := "ToolrestMillModel", name := "at", desc := "(I)I" } : Jvm.MethodName)) ∈ am_ts := am_mem am_sub5 216 (by decide +kernel) (by decide +kernel)
theorem bw_1178 : (Jvm.Cond.methodLink "ToolrestMillLaw" (137 : Nat) ({ cls := "ToolrestMillModel", name := "cutter", desc := "()I" } : Jvm.MethodName)) ∈ am_ts := am_mem am_sub5 218 (by decide +kernel) (by decide +kernel)
theorem bw_1179 : (Jvm.Cond.instanceMethod ({ cls := "ToolrestMillModel", name := "cutter", desc := "()I" } : Jvm.MethodName)) ∈ am_ts := am_mem am_sub5 219 (by decide +kernel) (by decide +kernel)
theorem bw_1180 : (Jvm.Cond.selects "ToolrestMillModel" ({ cls := "ToolrestMillModel", name := "cutter", desc := "()I" } : Jvm.MethodName) ({ cls := "ToolrestMillModel", name := "cutter", desc := "()I" } : Jvm.MethodName)) ∈ am_ts := am_mem am_sub5 220 (by decide +kernel) (by decide +kernel)
theorem bw_1182 : (Jvm.Cond.methodLink "ToolrestMillLaw" (141 : Nat) ({ cls := "ToolrestMillModel", name := "used", desc := "(II)I" } : Jvm.MethodName)) ∈ am_ts := am_mem am_sub5 222 (by decide +kernel) (by decide +kernel)
theorem bw_1183 : (Jvm.Cond.instanceMethod ({ cls := "ToolrestMillModel", name := "used", desc := "(II)I" } : Jvm.MethodName)) ∈ am_ts := am_mem am_sub5 223 (by decide +kernel) (by decide +kernel)
theorem bw_1184 : (Jvm.Cond.selects "ToolrestMillModel" ({ cls := "ToolrestMillModel", name := "used", desc := "(II)I" } : Jvm.MethodName) ({ cls := "ToolrestMillModel", name := "used", desc := "(II)I" } : Jvm.MethodName)) ∈ am_ts := am_mem am_sub5 224 (by decide +kernel) (by decide +kernel)
theorem bw_1186 : (Jvm.Cond.methodLink "ToolrestMillLaw" (145 : Nat) ({ cls := "ToolrestMillModel", name := "has", desc := "(III)Z" } : Jvm.MethodName)) ∈ am_ts := am_mem am_sub5 226 (by decide +kernel) (by decide +kernel)
theorem bw_1190 : (Jvm.Cond.methodLink "ToolrestMillLaw" (148 : Nat) ({ cls := "ToolrestMillModel", name := "hasAnew", desc := "(III)Z" } : Jvm.MethodName)) ∈ am_ts := am_mem am_sub5 230 (by decide +kernel) (by decide +kernel)
theorem bw_1191 : (Jvm.Cond.instanceMethod ({ cls := "ToolrestMillModel", name := "hasAnew", desc := "(III)Z" } : Jvm.MethodName)) ∈ am_ts := am_mem am_sub5 231 (by decide +kernel) (by decide +kernel)
theorem bw_1192 : (Jvm.Cond.selects "ToolrestMillModel" ({ cls := "ToolrestMillModel", name := "hasAnew", desc := "(III)Z" } : Jvm.MethodName) ({ cls := "ToolrestMillModel", name := "hasAnew", desc := "(III)Z" } : Jvm.MethodName)) ∈ am_ts := am_mem am_sub5 232 (by decide +kernel) (by decide +kernel)
theorem bw_1195 : (Jvm.Cond.methodLink "ToolrestMillLaw" (152 : Nat) ({ cls := "ToolrestMillModel", name := "stock", desc := "()I" } : Jvm.MethodName)) ∈ am_ts := am_mem am_sub5 235 (by decide +kernel) (by decide +kernel)
theorem bw_1196 : (Jvm.Cond.instanceMethod ({ cls := "ToolrestMillModel", name := "stock", desc := "()I" } : Jvm.MethodName)) ∈ am_ts := am_mem am_sub5 236 (by decide +kernel) (by decide +kernel)
theorem bw_1197 : (Jvm.Cond.selects "ToolrestMillModel" ({ cls := "ToolrestMillModel", name := "stock", desc := "()I" } : Jvm.MethodName) ({ cls := "ToolrestMillModel", name := "stock", desc := "()I" } : Jvm.MethodName)) ∈ am_ts := am_mem am_sub5 237 (by decide +kernel) (by decide +kernel)
theorem bw_1203 : (Jvm.Cond.methodLink "ToolrestMillLaw" (155 : Nat) ({ cls := "ToolrestMillModel", name := "height", desc := "(II)I" } : Jvm.MethodName)) ∈ am_ts := am_mem am_sub6 3 (by decide +kernel) (by decide +kernel)
theorem bw_1204 : (Jvm.Cond.instanceMethod ({ cls := "ToolrestMillModel", name := "height", desc := "(II)I" } : Jvm.MethodName)) ∈ am_ts := am_mem am_sub6 4 (by decide +kernel) (by decide +kernel)
theorem bw_1205 : (Jvm.Cond.selects "ToolrestMillModel" ({ cls := "ToolrestMillModel", name := "height", desc := "(II)I" } : Jvm.MethodName) ({ cls := "ToolrestMillModel", name := "height", desc := "(II)I" } : Jvm.MethodName)) ∈ am_ts := am_mem am_sub6 5 (by decide +kernel) (by decide +kernel)
theorem bw_1207 : (Jvm.Cond.methodLink "ToolrestMillLaw" (160 : Nat) ({ cls := "ToolrestMillModel", name := "checksum", desc := "()J" } : Jvm.MethodName)) ∈ am_ts := am_mem am_sub6 7 (by decide +kernel) (by decide +kernel)
theorem bw_1208 : (Jvm.Cond.instanceMethod ({ cls := "ToolrestMillModel", name := "checksum", desc := "()J" } : Jvm.MethodName)) ∈ am_ts := am_mem am_sub6 8 (by decide +kernel) (by decide +kernel)
theorem bw_1209 : (Jvm.Cond.selects "ToolrestMillModel" ({ cls := "ToolrestMillModel", name := "checksum", desc := "()J" } : Jvm.MethodName) ({ cls := "ToolrestMillModel", name := "checksum", desc := "()J" } : Jvm.MethodName)) ∈ am_ts := am_mem am_sub6 9 (by decide +kernel) (by decide +kernel)
theorem bw_1211 : (Jvm.Cond.methodLink "ToolrestMillLaw" (165 : Nat) ({ cls := "ToolrestMillModel", name := "time", desc := "()F" } : Jvm.MethodName)) ∈ am_ts := am_mem am_sub6 11 (by decide +kernel) (by decide +kernel)
theorem bw_1212 : (Jvm.Cond.instanceMethod ({ cls := "ToolrestMillModel", name := "time", desc := "()F" } : Jvm.MethodName)) ∈ am_ts := am_mem am_sub6 12 (by decide +kernel) (by decide +kernel)
theorem bw_1213 : (Jvm.Cond.selects "ToolrestMillModel" ({ cls := "ToolrestMillModel", name := "time", desc := "()F" } : Jvm.MethodName) ({ cls := "ToolrestMillModel", name := "time", desc := "()F" } : Jvm.MethodName)) ∈ am_ts := am_mem am_sub6 13 (by decide +kernel) (by decide +kernel)
theorem bw_1215 : (Jvm.Cond.methodLink "ToolrestMillLaw" (169 : Nat) ({ cls := "ToolrestMillModel", name := "timeBits", desc := "()I" } : Jvm.MethodName)) ∈ am_ts := am_mem am_sub6 15 (by decide +kernel) (by decide +kernel)
theorem bw_1216 : (Jvm.Cond.instanceMethod ({ cls := "ToolrestMillModel", name := "timeBits", desc := "()I" } : Jvm.MethodName)) ∈ am_ts := am_mem am_sub6 16 (by decide +kernel) (by decide +kernel)
theorem bw_1217 : (Jvm.Cond.selects "ToolrestMillModel" ({ cls := "ToolrestMillModel", name := "timeBits", desc := "()I" } : Jvm.MethodName) ({ cls := "ToolrestMillModel", name := "timeBits", desc := "()I" } : Jvm.MethodName)) ∈ am_ts := am_mem am_sub6 17 (by decide +kernel) (by decide +kernel)
theorem bw_1229 : (Jvm.Cond.methodLink "ToolrestMillLaw" (173 : Nat) ({ cls := "ToolrestMillModel", name := "meanUse", desc := "()D" } : Jvm.MethodName)) ∈ am_ts := am_mem am_sub6 29 (by decide +kernel) (by decide +kernel)
theorem bw_1230 : (Jvm.Cond.instanceMethod ({ cls := "ToolrestMillModel", name := "meanUse", desc := "()D" } : Jvm.MethodName)) ∈ am_ts := am_mem am_sub6 30 (by decide +kernel) (by decide +kernel)
theorem bw_1231 : (Jvm.Cond.selects "ToolrestMillModel" ({ cls := "ToolrestMillModel", name := "meanUse", desc := "()D" } : Jvm.MethodName) ({ cls := "ToolrestMillModel", name := "meanUse", desc := "()D" } : Jvm.MethodName)) ∈ am_ts := am_mem am_sub6 31 (by decide +kernel) (by decide +kernel)
theorem bw_1233 : (Jvm.Cond.methodLink "ToolrestMillLaw" (177 : Nat) ({ cls := "ToolrestMillModel", name := "taken", desc := "()F" } : Jvm.MethodName)) ∈ am_ts := am_mem am_sub6 33 (by decide +kernel) (by decide +kernel)
theorem bw_1234 : (Jvm.Cond.instanceMethod ({ cls := "ToolrestMillModel", name := "taken", desc := "()F" } : Jvm.MethodName)) ∈ am_ts := am_mem am_sub6 34 (by decide +kernel) (by decide +kernel)
theorem bw_1235 : (Jvm.Cond.selects "ToolrestMillModel" ({ cls := "ToolrestMillModel", name := "taken", desc := "()F" } : Jvm.MethodName) ({ cls := "ToolrestMillModel", name := "taken", desc := "()F" } : Jvm.MethodName)) ∈ am_ts := am_mem am_sub6 35 (by decide +kernel) (by decide +kernel)
theorem bw_1238 : (Jvm.Cond.methodLink "ToolrestMillLaw" (181 : Nat) ({ cls := "ToolrestMillModel", name := "isSound", desc := "()Z" } : Jvm.MethodName)) ∈ am_ts := am_mem am_sub6 38 (by decide +kernel) (by decide +kernel)
theorem bw_1239 : (Jvm.Cond.instanceMethod ({ cls := "ToolrestMillModel", name := "isSound", desc := "()Z" } : Jvm.MethodName)) ∈ am_ts := am_mem am_sub6 39 (by decide +kernel) (by decide +kernel)
theorem bw_1240 : (Jvm.Cond.selects "ToolrestMillModel" ({ cls := "ToolrestMillModel", name := "isSound", desc := "()Z" } : Jvm.MethodName) ({ cls := "ToolrestMillModel", name := "isSound", desc := "()Z" } : Jvm.MethodName)) ∈ am_ts := am_mem am_sub6 40 (by decide +kernel) (by decide +kernel)
theorem bw_1242 : (Jvm.Cond.arrayClass Jvm.ClassFile.FieldType.long) ∈ am_ts := am_mem am_sub6 42 (by decide +kernel) (by decide +kernel)
theorem bw_1243 : (Jvm.Cond.arrayClass Jvm.ClassFile.FieldType.double) ∈ am_ts := am_mem am_sub6 43 (by decide +kernel) (by decide +kernel)
theorem xkM_0 : xm_okM am_ts (xm_G 0) 3 := ⟨bw_734, ⟨by decide +kernel, by decide +kernel⟩, by decide +kernel, by decide, by decide +kernel, aw_1⟩
theorem xkM_1 : xm_okM am_ts (xm_G 1) 5 := ⟨bw_661, ⟨by decide +kernel, by decide +kernel⟩, by decide +kernel, by decide, by decide +kernel, aw_1⟩
theorem xkM_2 : xm_okM am_ts (xm_G 2) 4 := ⟨bw_731, ⟨by decide +kernel, by decide +kernel⟩, by decide +kernel, by decide, by decide +kernel, aw_1⟩
theorem xkM_3 : xm_okM am_ts (xm_G 3) 4 := ⟨bw_754, ⟨by decide +kernel, by decide +kernel⟩, by decide +kernel, by decide, by decide +kernel, aw_1⟩
theorem xkM_4 : xm_okM am_ts (xm_G 4) 4 := ⟨bw_766, ⟨by decide +kernel, by decide +kernel⟩, by decide +kernel, by decide, by decide +kernel, aw_1⟩
theorem xkM_5 : xm_okM am_ts (xm_G 5) 0 := ⟨bw_806, ⟨by decide +kernel, by decide +kernel⟩, by decide +kernel, by decide, by decide +kernel, aw_1⟩
theorem xkM_6 : xm_okM am_ts (xm_G 6) 1 := ⟨bw_818, ⟨by decide +kernel, by decide +kernel⟩, by decide +kernel, by decide, by decide +kernel, aw_1⟩
theorem xkM_7 : xm_okM am_ts (xm_G 7) 1 := ⟨bw_832, ⟨by decide +kernel, by decide +kernel⟩, by decide +kernel, by decide, by decide +kernel, aw_1⟩
theorem xkM_8 : xm_okM am_ts (xm_G 8) 1 := ⟨bw_840, ⟨by decide +kernel, by decide +kernel⟩, by decide +kernel, by decide, by decide +kernel, aw_1⟩
theorem xkM_9 : xm_okM am_ts (xm_G 9) 2 := ⟨bw_849, ⟨by decide +kernel, by decide +kernel⟩, by decide +kernel, by decide, by decide +kernel, aw_1⟩
theorem xkM_10 : xm_okM am_ts (xm_G 10) 3 := ⟨bw_873, ⟨by decide +kernel, by decide +kernel⟩, by decide +kernel, by decide, by decide +kernel, aw_1⟩
theorem xkM_11 : xm_okM am_ts (xm_G 11) 3 := ⟨bw_880, ⟨by decide +kernel, by decide +kernel⟩, by decide +kernel, by decide, by decide +kernel, aw_1⟩
theorem xkM_12 : xm_okM am_ts (xm_G 12) 2 := ⟨bw_887, ⟨by decide +kernel, by decide +kernel⟩, by decide +kernel, by decide, by decide +kernel, aw_1⟩
theorem xkM_13 : xm_okM am_ts (xm_G 13) 0 := ⟨bw_908, ⟨by decide +kernel, by decide +kernel⟩, by decide +kernel, by decide, by decide +kernel, aw_1⟩
theorem xkM_14 : xm_okM am_ts (xm_G 14) 7 := ⟨bw_575, ⟨by decide +kernel, by decide +kernel⟩, by decide +kernel, by decide, by decide +kernel, bw_0⟩
theorem xkM_15 : xm_okM am_ts (xm_G 15) 6 := ⟨bw_727, ⟨by decide +kernel, by decide +kernel⟩, by decide +kernel, by decide, by decide +kernel, bw_0⟩
theorem xkM_16 : xm_okM am_ts (xm_G 16) 6 := ⟨bw_750, ⟨by decide +kernel, by decide +kernel⟩, by decide +kernel, by decide, by decide +kernel, bw_0⟩
theorem xkM_17 : xm_okM am_ts (xm_G 17) 6 := ⟨bw_761, ⟨by decide +kernel, by decide +kernel⟩, by decide +kernel, by decide, by decide +kernel, bw_0⟩
theorem xkM_18 : xm_okM am_ts (xm_G 18) 2 := ⟨bw_802, ⟨by decide +kernel, by decide +kernel⟩, by decide +kernel, by decide, by decide +kernel, bw_0⟩
theorem xkM_19 : xm_okM am_ts (xm_G 19) 3 := ⟨bw_814, ⟨by decide +kernel, by decide +kernel⟩, by decide +kernel, by decide, by decide +kernel, bw_0⟩
theorem xkM_20 : xm_okM am_ts (xm_G 20) 3 := ⟨bw_828, ⟨by decide +kernel, by decide +kernel⟩, by decide +kernel, by decide, by decide +kernel, bw_0⟩
theorem xkM_21 : xm_okM am_ts (xm_G 21) 3 := ⟨bw_836, ⟨by decide +kernel, by decide +kernel⟩, by decide +kernel, by decide, by decide +kernel, bw_0⟩
theorem xkM_22 : xm_okM am_ts (xm_G 22) 4 := ⟨bw_844, ⟨by decide +kernel, by decide +kernel⟩, by decide +kernel, by decide, by decide +kernel, bw_0⟩
theorem xkM_23 : xm_okM am_ts (xm_G 23) 5 := ⟨bw_869, ⟨by decide +kernel, by decide +kernel⟩, by decide +kernel, by decide, by decide +kernel, bw_0⟩
theorem xkM_24 : xm_okM am_ts (xm_G 24) 5 := ⟨bw_876, ⟨by decide +kernel, by decide +kernel⟩, by decide +kernel, by decide, by decide +kernel, bw_0⟩
theorem xkM_25 : xm_okM am_ts (xm_G 25) 4 := ⟨bw_883, ⟨by decide +kernel, by decide +kernel⟩, by decide +kernel, by decide, by decide +kernel, bw_0⟩
theorem xkM_26 : xm_okM am_ts (xm_G 26) 2 := ⟨bw_890, ⟨by decide +kernel, by decide +kernel⟩, by decide +kernel, by decide, by decide +kernel, bw_0⟩
theorem xh_0 : ∀ w ∈ xv_at "ToolrestMill" 40 "java/lang/IndexOutOfBoundsException" 7 Bundle.six "java/lang/RuntimeException" ["java/lang/Exception"], w ∈ am_ts ∨ w ∈ xm_xn := xm_hats [10, 647, 598, 607, 610, 612, 648, 649, 31, 32, 592, 597, 608, 615, 641, 616, 642, 617, 643, 593, 595, 644, 590, 591, 614, 644, 581, 582, 583, 584, 584, 585, 586, 587, 587, 588, 589, 590, 673, 664, 666, 604, 667, 668, 669, 670, 646, 645, 671] [0, 1, 2, 3] (by decide +kernel) (by decide +kernel)
theorem xh_1 : ∀ w ∈ xv_at "ToolrestMill" 51 "java/lang/IllegalArgumentException" 7 Bundle.six "java/lang/RuntimeException" ["java/lang/Exception"], w ∈ am_ts ∨ w ∈ xm_xn := xm_hats [10, 647, 598, 607, 610, 612, 648, 649, 31, 32, 592, 597, 608, 615, 641, 616, 642, 617, 643, 593, 595, 644, 590, 591, 614, 644, 690, 691, 692, 584, 584, 585, 586, 587, 587, 588, 589, 590, 689, 680, 682, 602, 683, 684, 685, 686, 646, 645, 687] [0, 1, 2, 4] (by decide +kernel) (by decide +kernel)
theorem xh_2 : ∀ w ∈ xv_at "ToolrestMill" 66 "java/lang/UnsupportedOperationException" 7 Bundle.six "java/lang/RuntimeException" ["java/lang/Exception"], w ∈ am_ts ∨ w ∈ xm_xn := xm_hats [10, 647, 598, 607, 610, 612, 648, 649, 31, 32, 592, 597, 608, 615, 641, 616, 642, 617, 643, 593, 595, 644, 590, 591, 614, 644, 710, 711, 712, 584, 584, 585, 586, 587, 587, 588, 589, 590, 709, 700, 702, 605, 703, 704, 705, 706, 646, 645, 707] [0, 1, 2, 5] (by decide +kernel) (by decide +kernel)
theorem xh_3 : ∀ w ∈ xv_at "ToolrestMill" 136 "java/lang/IllegalStateException" 7 Bundle.six "java/lang/RuntimeException" ["java/lang/Exception"], w ∈ am_ts ∨ w ∈ xm_xn := xm_hats [10, 647, 598, 607, 610, 612, 648, 649, 31, 32, 592, 597, 608, 615, 641, 616, 642, 617, 643, 593, 595, 644, 590, 591, 614, 644, 787, 788, 789, 584, 584, 585, 586, 587, 587, 588, 589, 590, 786, 777, 779, 603, 780, 781, 782, 783, 646, 645, 784] [0, 1, 2, 6] (by decide +kernel) (by decide +kernel)
theorem xh_4 : ∀ w ∈ xv_at "ToolrestMill" 190 "java/util/NoSuchElementException" 13 prog_29_method_4_code "java/lang/RuntimeException" ["java/lang/Exception"], w ∈ am_ts ∨ w ∈ xm_xn := xm_hats [10, 647, 598, 607, 610, 612, 648, 649, 31, 32, 592, 597, 608, 615, 641, 616, 642, 617, 643, 593, 595, 644, 590, 591, 614, 644, 862, 863, 864, 584, 584, 585, 586, 587, 587, 588, 589, 590, 861, 852, 854, 606, 855, 856, 857, 858, 646, 645, 859] [0, 1, 2, 7] (by decide +kernel) (by decide +kernel)
theorem xh_5 : ∀ w ∈ xv_at "ToolrestMill" 220 "java/lang/ArithmeticException" 7 Bundle.six "java/lang/RuntimeException" ["java/lang/Exception"], w ∈ am_ts ∨ w ∈ xm_xn := xm_hats [10, 647, 598, 607, 610, 612, 648, 649, 31, 32, 592, 597, 608, 615, 641, 616, 642, 617, 643, 593, 595, 644, 590, 591, 614, 644, 893, 894, 895, 584, 584, 585, 586, 587, 587, 588, 589, 590, 911, 892, 904, 600, 898, 899, 901, 897, 646, 645, 896] [0, 1, 2, 8] (by decide +kernel) (by decide +kernel)
abbrev xm_V9 (M : xm_M) : Nat → am_R → Prop := fun pc w => xm_okR am_cl9 am_sts am_ts am_nest xm_xn xm_xnc xm_strs am_G am_nM xm_G xm_nX M pc w
theorem xm_V9_0 {M : xm_M} : ∀ pc, xm_V9 M pc (.nop, 0, 0, 0) := fun _ => Or.inl rfl
theorem e0_0 : decode cX7_requireCell 0 = .ok (.iload_n 0, 1) := by decide +kernel
theorem e0_1 : decode cX7_requireCell 1 = .ok (.iload_n 1, 1) := by decide +kernel
theorem e0_2 : decode cX7_requireCell 2 = .ok (.iload_n 2, 1) := by decide +kernel
theorem e0_3 : decode cX7_requireCell 3 = .ok (.invokestatic 235, 3) := by decide +kernel
theorem e0_6 : decode cX7_requireCell 6 = .ok (.ifCond .ne 13, 3) := by decide +kernel
theorem e0_9 : decode cX7_requireCell 9 = .ok (.new 36, 3) := by decide +kernel
theorem e0_12 : decode cX7_requireCell 12 = .ok (.dup, 1) := by decide +kernel
theorem e0_13 : decode cX7_requireCell 13 = .ok (.ldc 238, 2) := by decide +kernel
theorem e0_15 : decode cX7_requireCell 15 = .ok (.invokespecial 40, 3) := by decide +kernel
theorem e0_18 : decode cX7_requireCell 18 = .ok (.athrow, 1) := by decide +kernel
theorem e0_19 : decode cX7_requireCell 19 = .ok (.return_, 1) := by decide +kernel
theorem w0_0 : am_all (xm_V9 (xm_G 0)) xm_l0_0 := ⟨Or.inr (Or.inl ⟨rfl, 1, e0_0, rfl, rfl, rfl, trivial, trivial⟩), Or.inr (Or.inl ⟨rfl, 1, e0_1, rfl, rfl, rfl, trivial, trivial⟩), Or.inr (Or.inl ⟨rfl, 1, e0_2, rfl, rfl, rfl, trivial, trivial⟩), Or.inr (Or.inl ⟨rfl, 3, e0_3, rfl, rfl, trivial, trivial, Or.inr ⟨by decide, okM_85, aw_736, Or.inl ⟨rfl, bw_735⟩⟩⟩), Or.inr (Or.inl ⟨rfl, 3, e0_6, rfl, rfl, rfl, trivial, trivial⟩), Or.inr (Or.inr (Or.inl ⟨rfl, 36, 238, 40, 7, "there is no such cell", "java/lang/RuntimeException", ["java/lang/Exception"], Bundle.six, rfl, ⟨e0_9, e0_12, e0_13, e0_15, e0_18⟩, ⟨by decide +kernel, by decide +kernel, by decide +kernel, by decide +kernel⟩, by decide +kernel, by decide +kernel, by decide +kernel, by decide, bw_663, bw_13, xh_0, List.mem_of_getElem? (i := 0) rfl⟩)), Or.inr (Or.inl ⟨rfl, 1, e0_19, rfl, rfl, trivial, trivial, trivial⟩), trivial⟩
theorem w0 : ∀ pc, xm_V9 (xm_G 0) pc ((xm_G 0).1.2.2.2.2.1 pc) := am_all_lc xm_V9_0 _ ⟨w0_0, trivial⟩
theorem e1_0 : decode cX7_putCutter 0 = .ok (.iload_n 1, 1) := by decide +kernel
theorem e1_1 : decode cX7_putCutter 1 = .ok (.iload_n 2, 1) := by decide +kernel
theorem e1_2 : decode cX7_putCutter 2 = .ok (.invokestatic 32, 3) := by decide +kernel
theorem e1_5 : decode cX7_putCutter 5 = .ok (.ifCond .ne 13, 3) := by decide +kernel
theorem e1_8 : decode cX7_putCutter 8 = .ok (.new 36, 3) := by decide +kernel
theorem e1_11 : decode cX7_putCutter 11 = .ok (.dup, 1) := by decide +kernel
theorem e1_12 : decode cX7_putCutter 12 = .ok (.ldc 38, 2) := by decide +kernel
theorem e1_14 : decode cX7_putCutter 14 = .ok (.invokespecial 40, 3) := by decide +kernel
theorem e1_17 : decode cX7_putCutter 17 = .ok (.athrow, 1) := by decide +kernel
theorem e1_18 : decode cX7_putCutter 18 = .ok (.iload_n 3, 1) := by decide +kernel
theorem e1_19 : decode cX7_putCutter 19 = .ok (.invokestatic 43, 3) := by decide +kernel
theorem e1_22 : decode cX7_putCutter 22 = .ok (.ifCond .ne 13, 3) := by decide +kernel
theorem e1_25 : decode cX7_putCutter 25 = .ok (.new 47, 3) := by decide +kernel
theorem e1_28 : decode cX7_putCutter 28 = .ok (.dup, 1) := by decide +kernel
theorem e1_29 : decode cX7_putCutter 29 = .ok (.ldc 49, 2) := by decide +kernel
theorem e1_31 : decode cX7_putCutter 31 = .ok (.invokespecial 51, 3) := by decide +kernel
theorem e1_34 : decode cX7_putCutter 34 = .ok (.athrow, 1) := by decide +kernel
theorem e1_35 : decode cX7_putCutter 35 = .ok (.iload 4, 2) := by decide +kernel
theorem e1_37 : decode cX7_putCutter 37 = .ok (.iconst 0, 1) := by decide +kernel
theorem e1_38 : decode cX7_putCutter 38 = .ok (.iconst 3, 1) := by decide +kernel
theorem e1_39 : decode cX7_putCutter 39 = .ok (.invokestatic 52, 3) := by decide +kernel
theorem e1_42 : decode cX7_putCutter 42 = .ok (.ifCond .eq 15, 3) := by decide +kernel
theorem e1_45 : decode cX7_putCutter 45 = .ok (.iload 5, 2) := by decide +kernel
theorem e1_47 : decode cX7_putCutter 47 = .ok (.iconst 1, 1) := by decide +kernel
theorem e1_48 : decode cX7_putCutter 48 = .ok (.sipush 999, 3) := by decide +kernel
theorem e1_51 : decode cX7_putCutter 51 = .ok (.invokestatic 52, 3) := by decide +kernel
theorem e1_54 : decode cX7_putCutter 54 = .ok (.ifCond .ne 13, 3) := by decide +kernel
theorem e1_57 : decode cX7_putCutter 57 = .ok (.new 47, 3) := by decide +kernel
theorem e1_60 : decode cX7_putCutter 60 = .ok (.dup, 1) := by decide +kernel
theorem e1_61 : decode cX7_putCutter 61 = .ok (.ldc 56, 2) := by decide +kernel
theorem e1_63 : decode cX7_putCutter 63 = .ok (.invokespecial 51, 3) := by decide +kernel
theorem e1_66 : decode cX7_putCutter 66 = .ok (.athrow, 1) := by decide +kernel
theorem e1_67 : decode cX7_putCutter 67 = .ok (.iload_n 1, 1) := by decide +kernel
theorem e1_68 : decode cX7_putCutter 68 = .ok (.iload_n 3, 1) := by decide +kernel
theorem e1_69 : decode cX7_putCutter 69 = .ok (.invokestatic 58, 3) := by decide +kernel
theorem e1_72 : decode cX7_putCutter 72 = .ok (.ifCond .ne 13, 3) := by decide +kernel
theorem e1_75 : decode cX7_putCutter 75 = .ok (.new 62, 3) := by decide +kernel
theorem e1_78 : decode cX7_putCutter 78 = .ok (.dup, 1) := by decide +kernel
theorem e1_79 : decode cX7_putCutter 79 = .ok (.ldc 64, 2) := by decide +kernel
theorem e1_81 : decode cX7_putCutter 81 = .ok (.invokespecial 66, 3) := by decide +kernel
theorem e1_84 : decode cX7_putCutter 84 = .ok (.athrow, 1) := by decide +kernel
theorem e1_85 : decode cX7_putCutter 85 = .ok (.aload_n 0, 1) := by decide +kernel
theorem e1_86 : decode cX7_putCutter 86 = .ok (.getfield 12, 3) := by decide +kernel
theorem e1_89 : decode cX7_putCutter 89 = .ok (.getfield 67, 3) := by decide +kernel
theorem e1_92 : decode cX7_putCutter 92 = .ok (.iload_n 1, 1) := by decide +kernel
theorem e1_93 : decode cX7_putCutter 93 = .ok (.iload_n 2, 1) := by decide +kernel
theorem e1_94 : decode cX7_putCutter 94 = .ok (.invokestatic 71, 3) := by decide +kernel
theorem e1_97 : decode cX7_putCutter 97 = .ok (.iload_n 3, 1) := by decide +kernel
theorem e1_98 : decode cX7_putCutter 98 = .ok (.iload 4, 2) := by decide +kernel
theorem e1_100 : decode cX7_putCutter 100 = .ok (.iload 5, 2) := by decide +kernel
theorem e1_102 : decode cX7_putCutter 102 = .ok (.invokevirtual 75, 3) := by decide +kernel
theorem e1_105 : decode cX7_putCutter 105 = .ok (.aload_n 0, 1) := by decide +kernel
theorem e1_106 : decode cX7_putCutter 106 = .ok (.invokevirtual 81, 3) := by decide +kernel
theorem e1_109 : decode cX7_putCutter 109 = .ok (.aload_n 0, 1) := by decide +kernel
theorem e1_110 : decode cX7_putCutter 110 = .ok (.getfield 12, 3) := by decide +kernel
theorem e1_113 : decode cX7_putCutter 113 = .ok (.getfield 67, 3) := by decide +kernel
theorem e1_116 : decode cX7_putCutter 116 = .ok (.iload_n 1, 1) := by decide +kernel
theorem e1_117 : decode cX7_putCutter 117 = .ok (.iconst 0, 1) := by decide +kernel
theorem e1_118 : decode cX7_putCutter 118 = .ok (.invokestatic 71, 3) := by decide +kernel
theorem e1_121 : decode cX7_putCutter 121 = .ok (.iconst 4, 1) := by decide +kernel
theorem e1_122 : decode cX7_putCutter 122 = .ok (.invokevirtual 84, 3) := by decide +kernel
theorem e1_125 : decode cX7_putCutter 125 = .ok (.ireturn, 1) := by decide +kernel
theorem w1_0 : am_all (xm_V9 (xm_G 1)) xm_l1_0 := ⟨Or.inr (Or.inl ⟨rfl, 1, e1_0, rfl, rfl, rfl, trivial, trivial⟩), Or.inr (Or.inl ⟨rfl, 1, e1_1, rfl, rfl, rfl, trivial, trivial⟩), Or.inr (Or.inl ⟨rfl, 3, e1_2, rfl, rfl, trivial, trivial, Or.inr ⟨by decide, okM_87, aw_377, Or.inl ⟨rfl, bw_662⟩⟩⟩), Or.inr (Or.inl ⟨rfl, 3, e1_5, rfl, rfl, rfl, trivial, trivial⟩), Or.inr (Or.inr (Or.inl ⟨rfl, 36, 38, 40, 7, "there is no such rack or place", "java/lang/RuntimeException", ["java/lang/Exception"], Bundle.six, rfl, ⟨e1_8, e1_11, e1_12, e1_14, e1_17⟩, ⟨by decide +kernel, by decide +kernel, by decide +kernel, by decide +kernel⟩, by decide +kernel, by decide +kernel, by decide +kernel, by decide, bw_663, bw_13, xh_0, List.mem_of_getElem? (i := 1) rfl⟩)), Or.inr (Or.inl ⟨rfl, 1, e1_18, rfl, rfl, rfl, trivial, trivial⟩), Or.inr (Or.inl ⟨rfl, 3, e1_19, rfl, rfl, trivial, trivial, Or.inr ⟨by decide, okM_89, bw_677, Or.inl ⟨rfl, bw_676⟩⟩⟩), Or.inr (Or.inl ⟨rfl, 3, e1_22, rfl, rfl, rfl, trivial, trivial⟩), Or.inr (Or.inr (Or.inl ⟨rfl, 47, 49, 51, 7, "there is no such shape", "java/lang/RuntimeException", ["java/lang/Exception"], Bundle.six, rfl, ⟨e1_25, e1_28, e1_29, e1_31, e1_34⟩, ⟨by decide +kernel, by decide +kernel, by decide +kernel, by decide +kernel⟩, by decide +kernel, by decide +kernel, by decide +kernel, by decide, bw_679, bw_16, xh_1, List.mem_of_getElem? (i := 2) rfl⟩)), Or.inr (Or.inl ⟨rfl, 2, e1_35, rfl, rfl, rfl, trivial, trivial⟩), Or.inr (Or.inl ⟨rfl, 1, e1_37, rfl, rfl, am_eq9 (by decide +kernel), trivial, trivial⟩), Or.inr (Or.inl ⟨rfl, 1, e1_38, rfl, rfl, am_eq9 (by decide +kernel), trivial, trivial⟩), Or.inr (Or.inl ⟨rfl, 3, e1_39, rfl, rfl, trivial, trivial, Or.inr ⟨by decide, okM_84, aw_280, Or.inl ⟨rfl, aw_379⟩⟩⟩), Or.inr (Or.inl ⟨rfl, 3, e1_42, rfl, rfl, rfl, trivial, trivial⟩), Or.inr (Or.inl ⟨rfl, 2, e1_45, rfl, rfl, rfl, trivial, trivial⟩), Or.inr (Or.inl ⟨rfl, 1, e1_47, rfl, rfl, am_eq9 (by decide +kernel), trivial, trivial⟩), Or.inr (Or.inl ⟨rfl, 3, e1_48, rfl, rfl, am_eq9 (by decide +kernel), trivial, trivial⟩), Or.inr (Or.inl ⟨rfl, 3, e1_51, rfl, rfl, trivial, trivial, Or.inr ⟨by decide, okM_84, aw_280, Or.inl ⟨rfl, aw_379⟩⟩⟩), Or.inr (Or.inl ⟨rfl, 3, e1_54, rfl, rfl, rfl, trivial, trivial⟩), Or.inr (Or.inr (Or.inl ⟨rfl, 47, 56, 51, 7, "the radius or the life is out of range", "java/lang/RuntimeException", ["java/lang/Exception"], Bundle.six, rfl, ⟨e1_57, e1_60, e1_61, e1_63, e1_66⟩, ⟨by decide +kernel, by decide +kernel, by decide +kernel, by decide +kernel⟩, by decide +kernel, by decide +kernel, by decide +kernel, by decide, bw_679, bw_16, xh_1, List.mem_of_getElem? (i := 3) rfl⟩)), Or.inr (Or.inl ⟨rfl, 1, e1_67, rfl, rfl, rfl, trivial, trivial⟩), Or.inr (Or.inl ⟨rfl, 1, e1_68, rfl, rfl, rfl, trivial, trivial⟩), Or.inr (Or.inl ⟨rfl, 3, e1_69, rfl, rfl, trivial, trivial, Or.inr ⟨by decide, okM_90, bw_697, Or.inl ⟨rfl, bw_696⟩⟩⟩), Or.inr (Or.inl ⟨rfl, 3, e1_72, rfl, rfl, rfl, trivial, trivial⟩), trivial⟩
theorem w1_1 : am_all (xm_V9 (xm_G 1)) xm_l1_1 := ⟨Or.inr (Or.inr (Or.inl ⟨rfl, 62, 64, 66, 7, "the rack does not take this shape", "java/lang/RuntimeException", ["java/lang/Exception"], Bundle.six, rfl, ⟨e1_75, e1_78, e1_79, e1_81, e1_84⟩, ⟨by decide +kernel, by decide +kernel, by decide +kernel, by decide +kernel⟩, by decide +kernel, by decide +kernel, by decide +kernel, by decide, bw_699, bw_17, xh_2, List.mem_of_getElem? (i := 4) rfl⟩)), Or.inr (Or.inl ⟨rfl, 1, e1_85, rfl, rfl, rfl, trivial, trivial⟩), Or.inr (Or.inl ⟨rfl, 3, e1_86, rfl, rfl, trivial, ⟨RX7, TX7, 4, rfl, by decide, Or.inl aw_250⟩, trivial⟩), Or.inr (Or.inl ⟨rfl, 3, e1_89, rfl, rfl, trivial, ⟨RX2, TX2, 4, rfl, by decide, Or.inl bw_102⟩, trivial⟩), Or.inr (Or.inl ⟨rfl, 1, e1_92, rfl, rfl, rfl, trivial, trivial⟩), Or.inr (Or.inl ⟨rfl, 1, e1_93, rfl, rfl, rfl, trivial, trivial⟩), Or.inr (Or.inl ⟨rfl, 3, e1_94, rfl, rfl, trivial, trivial, Or.inr ⟨by decide, okM_88, aw_381, Or.inl ⟨rfl, bw_715⟩⟩⟩), Or.inr (Or.inl ⟨rfl, 1, e1_97, rfl, rfl, rfl, trivial, trivial⟩), Or.inr (Or.inl ⟨rfl, 2, e1_98, rfl, rfl, rfl, trivial, trivial⟩), Or.inr (Or.inl ⟨rfl, 2, e1_100, rfl, rfl, rfl, trivial, trivial⟩), Or.inr (Or.inl ⟨rfl, 3, e1_102, rfl, rfl, trivial, trivial, ⟨by decide, ⟨_, TX5, 3, rfl, okM_57, rfl⟩, bw_716, bw_717, bw_718⟩⟩), Or.inr (Or.inl ⟨rfl, 1, e1_105, rfl, rfl, rfl, trivial, trivial⟩), Or.inr (Or.inl ⟨rfl, 3, e1_106, rfl, rfl, trivial, trivial, ⟨by decide, ⟨_, TX7, 4, rfl, okM_83, rfl⟩, aw_286, aw_288, as_83⟩⟩), Or.inr (Or.inl ⟨rfl, 1, e1_109, rfl, rfl, rfl, trivial, trivial⟩), Or.inr (Or.inl ⟨rfl, 3, e1_110, rfl, rfl, trivial, ⟨RX7, TX7, 4, rfl, by decide, Or.inl aw_250⟩, trivial⟩), Or.inr (Or.inl ⟨rfl, 3, e1_113, rfl, rfl, trivial, ⟨RX2, TX2, 4, rfl, by decide, Or.inl bw_102⟩, trivial⟩), Or.inr (Or.inl ⟨rfl, 1, e1_116, rfl, rfl, rfl, trivial, trivial⟩), Or.inr (Or.inl ⟨rfl, 1, e1_117, rfl, rfl, am_eq9 (by decide +kernel), trivial, trivial⟩), Or.inr (Or.inl ⟨rfl, 3, e1_118, rfl, rfl, trivial, trivial, Or.inr ⟨by decide, okM_88, aw_381, Or.inl ⟨rfl, bw_715⟩⟩⟩), Or.inr (Or.inl ⟨rfl, 1, e1_121, rfl, rfl, am_eq9 (by decide +kernel), trivial, trivial⟩), Or.inr (Or.inl ⟨rfl, 3, e1_122, rfl, rfl, trivial, trivial, ⟨by decide, ⟨_, TX5, 3, rfl, okM_59, rfl⟩, bw_720, bw_721, bw_722⟩⟩), Or.inr (Or.inl ⟨rfl, 1, e1_125, rfl, rfl, trivial, trivial, trivial⟩), trivial⟩
theorem w1 : ∀ pc, xm_V9 (xm_G 1) pc ((xm_G 1).1.2.2.2.2.1 pc) := am_all_lc xm_V9_0 _ ⟨w1_0, w1_1, trivial⟩
theorem e2_0 : decode cX7_setFixture 0 = .ok (.iload_n 1, 1) := by decide +kernel
theorem e2_1 : decode cX7_setFixture 1 = .ok (.iload_n 2, 1) := by decide +kernel
theorem e2_2 : decode cX7_setFixture 2 = .ok (.iload_n 3, 1) := by decide +kernel
theorem e2_3 : decode cX7_setFixture 3 = .ok (.invokestatic 87, 3) := by decide +kernel
theorem e2_6 : decode cX7_setFixture 6 = .ok (.aload_n 0, 1) := by decide +kernel
theorem e2_7 : decode cX7_setFixture 7 = .ok (.getfield 12, 3) := by decide +kernel
theorem e2_10 : decode cX7_setFixture 10 = .ok (.getfield 91, 3) := by decide +kernel
theorem e2_13 : decode cX7_setFixture 13 = .ok (.iload_n 1, 1) := by decide +kernel
theorem e2_14 : decode cX7_setFixture 14 = .ok (.iload_n 2, 1) := by decide +kernel
theorem e2_15 : decode cX7_setFixture 15 = .ok (.iload_n 3, 1) := by decide +kernel
theorem e2_16 : decode cX7_setFixture 16 = .ok (.invokevirtual 95, 3) := by decide +kernel
theorem e2_19 : decode cX7_setFixture 19 = .ok (.istore 5, 2) := by decide +kernel
theorem e2_21 : decode cX7_setFixture 21 = .ok (.aload_n 0, 1) := by decide +kernel
theorem e2_22 : decode cX7_setFixture 22 = .ok (.getfield 12, 3) := by decide +kernel
theorem e2_25 : decode cX7_setFixture 25 = .ok (.getfield 91, 3) := by decide +kernel
theorem e2_28 : decode cX7_setFixture 28 = .ok (.iload_n 1, 1) := by decide +kernel
theorem e2_29 : decode cX7_setFixture 29 = .ok (.iload_n 2, 1) := by decide +kernel
theorem e2_30 : decode cX7_setFixture 30 = .ok (.iload_n 3, 1) := by decide +kernel
theorem e2_31 : decode cX7_setFixture 31 = .ok (.iload 4, 2) := by decide +kernel
theorem e2_33 : decode cX7_setFixture 33 = .ok (.invokevirtual 100, 3) := by decide +kernel
theorem e2_36 : decode cX7_setFixture 36 = .ok (.aload_n 0, 1) := by decide +kernel
theorem e2_37 : decode cX7_setFixture 37 = .ok (.invokevirtual 81, 3) := by decide +kernel
theorem e2_40 : decode cX7_setFixture 40 = .ok (.iload 5, 2) := by decide +kernel
theorem e2_42 : decode cX7_setFixture 42 = .ok (.ireturn, 1) := by decide +kernel
theorem w2_0 : am_all (xm_V9 (xm_G 2)) xm_l2_0 := ⟨Or.inr (Or.inl ⟨rfl, 1, e2_0, rfl, rfl, rfl, trivial, trivial⟩), Or.inr (Or.inl ⟨rfl, 1, e2_1, rfl, rfl, rfl, trivial, trivial⟩), Or.inr (Or.inl ⟨rfl, 1, e2_2, rfl, rfl, rfl, trivial, trivial⟩), Or.inr (Or.inr (Or.inr ⟨⟨87, e2_3, rfl, by decide, xkM_0, bw_733, bw_732⟩, fun q h => absurd h List.not_mem_nil⟩)), Or.inr (Or.inl ⟨rfl, 1, e2_6, rfl, rfl, rfl, trivial, trivial⟩), Or.inr (Or.inl ⟨rfl, 3, e2_7, rfl, rfl, trivial, ⟨RX7, TX7, 4, rfl, by decide, Or.inl aw_250⟩, trivial⟩), Or.inr (Or.inl ⟨rfl, 3, e2_10, rfl, rfl, trivial, ⟨RX2, TX2, 4, rfl, by decide, Or.inl aw_105⟩, trivial⟩), Or.inr (Or.inl ⟨rfl, 1, e2_13, rfl, rfl, rfl, trivial, trivial⟩), Or.inr (Or.inl ⟨rfl, 1, e2_14, rfl, rfl, rfl, trivial, trivial⟩), Or.inr (Or.inl ⟨rfl, 1, e2_15, rfl, rfl, rfl, trivial, trivial⟩), Or.inr (Or.inl ⟨rfl, 3, e2_16, rfl, rfl, trivial, trivial, ⟨by decide, ⟨_, TX0, 1, rfl, okM_2, rfl⟩, bw_739, bw_740, bw_741⟩⟩), Or.inr (Or.inl ⟨rfl, 2, e2_19, rfl, rfl, rfl, trivial, trivial⟩), Or.inr (Or.inl ⟨rfl, 1, e2_21, rfl, rfl, rfl, trivial, trivial⟩), Or.inr (Or.inl ⟨rfl, 3, e2_22, rfl, rfl, trivial, ⟨RX7, TX7, 4, rfl, by decide, Or.inl aw_250⟩, trivial⟩), Or.inr (Or.inl ⟨rfl, 3, e2_25, rfl, rfl, trivial, ⟨RX2, TX2, 4, rfl, by decide, Or.inl aw_105⟩, trivial⟩), Or.inr (Or.inl ⟨rfl, 1, e2_28, rfl, rfl, rfl, trivial, trivial⟩), Or.inr (Or.inl ⟨rfl, 1, e2_29, rfl, rfl, rfl, trivial, trivial⟩), Or.inr (Or.inl ⟨rfl, 1, e2_30, rfl, rfl, rfl, trivial, trivial⟩), Or.inr (Or.inl ⟨rfl, 2, e2_31, rfl, rfl, rfl, trivial, trivial⟩), Or.inr (Or.inl ⟨rfl, 3, e2_33, rfl, rfl, trivial, trivial, ⟨by decide, ⟨_, TX0, 1, rfl, okM_3, rfl⟩, bw_744, bw_745, bw_746⟩⟩), Or.inr (Or.inl ⟨rfl, 1, e2_36, rfl, rfl, rfl, trivial, trivial⟩), Or.inr (Or.inl ⟨rfl, 3, e2_37, rfl, rfl, trivial, trivial, ⟨by decide, ⟨_, TX7, 4, rfl, okM_83, rfl⟩, aw_286, aw_288, as_83⟩⟩), Or.inr (Or.inl ⟨rfl, 2, e2_40, rfl, rfl, rfl, trivial, trivial⟩), Or.inr (Or.inl ⟨rfl, 1, e2_42, rfl, rfl, trivial, trivial, trivial⟩), trivial⟩
theorem w2 : ∀ pc, xm_V9 (xm_G 2) pc ((xm_G 2).1.2.2.2.2.1 pc) := am_all_lc xm_V9_0 _ ⟨w2_0, trivial⟩
theorem e3_0 : decode cX7_setOffset 0 = .ok (.iload_n 1, 1) := by decide +kernel
theorem e3_1 : decode cX7_setOffset 1 = .ok (.iconst 0, 1) := by decide +kernel
theorem e3_2 : decode cX7_setOffset 2 = .ok (.iconst 3, 1) := by decide +kernel
theorem e3_3 : decode cX7_setOffset 3 = .ok (.invokestatic 52, 3) := by decide +kernel
theorem e3_6 : decode cX7_setOffset 6 = .ok (.ifCond .eq 25, 3) := by decide +kernel
theorem e3_9 : decode cX7_setOffset 9 = .ok (.iload_n 2, 1) := by decide +kernel
theorem e3_10 : decode cX7_setOffset 10 = .ok (.invokestatic 104, 3) := by decide +kernel
theorem e3_13 : decode cX7_setOffset 13 = .ok (.ifCond .eq 18, 3) := by decide +kernel
theorem e3_16 : decode cX7_setOffset 16 = .ok (.iload_n 3, 1) := by decide +kernel
theorem e3_17 : decode cX7_setOffset 17 = .ok (.invokestatic 104, 3) := by decide +kernel
theorem e3_20 : decode cX7_setOffset 20 = .ok (.ifCond .eq 11, 3) := by decide +kernel
theorem e3_23 : decode cX7_setOffset 23 = .ok (.iload 4, 2) := by decide +kernel
theorem e3_25 : decode cX7_setOffset 25 = .ok (.invokestatic 104, 3) := by decide +kernel
theorem e3_28 : decode cX7_setOffset 28 = .ok (.ifCond .ne 13, 3) := by decide +kernel
theorem e3_31 : decode cX7_setOffset 31 = .ok (.new 47, 3) := by decide +kernel
theorem e3_34 : decode cX7_setOffset 34 = .ok (.dup, 1) := by decide +kernel
theorem e3_35 : decode cX7_setOffset 35 = .ok (.ldc 108, 2) := by decide +kernel
theorem e3_37 : decode cX7_setOffset 37 = .ok (.invokespecial 51, 3) := by decide +kernel
theorem e3_40 : decode cX7_setOffset 40 = .ok (.athrow, 1) := by decide +kernel
theorem e3_41 : decode cX7_setOffset 41 = .ok (.aload_n 0, 1) := by decide +kernel
theorem e3_42 : decode cX7_setOffset 42 = .ok (.getfield 12, 3) := by decide +kernel
theorem e3_45 : decode cX7_setOffset 45 = .ok (.getfield 110, 3) := by decide +kernel
theorem e3_48 : decode cX7_setOffset 48 = .ok (.iload_n 1, 1) := by decide +kernel
theorem e3_49 : decode cX7_setOffset 49 = .ok (.iconst 3, 1) := by decide +kernel
theorem e3_50 : decode cX7_setOffset 50 = .ok (.imul, 1) := by decide +kernel
theorem e3_51 : decode cX7_setOffset 51 = .ok (.iaload, 1) := by decide +kernel
theorem e3_52 : decode cX7_setOffset 52 = .ok (.istore 5, 2) := by decide +kernel
theorem e3_54 : decode cX7_setOffset 54 = .ok (.aload_n 0, 1) := by decide +kernel
theorem e3_55 : decode cX7_setOffset 55 = .ok (.getfield 12, 3) := by decide +kernel
theorem e3_58 : decode cX7_setOffset 58 = .ok (.getfield 110, 3) := by decide +kernel
theorem e3_61 : decode cX7_setOffset 61 = .ok (.iload_n 1, 1) := by decide +kernel
theorem e3_62 : decode cX7_setOffset 62 = .ok (.iconst 3, 1) := by decide +kernel
theorem e3_63 : decode cX7_setOffset 63 = .ok (.imul, 1) := by decide +kernel
theorem e3_64 : decode cX7_setOffset 64 = .ok (.iload_n 2, 1) := by decide +kernel
theorem e3_65 : decode cX7_setOffset 65 = .ok (.iastore, 1) := by decide +kernel
theorem e3_66 : decode cX7_setOffset 66 = .ok (.aload_n 0, 1) := by decide +kernel
theorem e3_67 : decode cX7_setOffset 67 = .ok (.getfield 12, 3) := by decide +kernel
theorem e3_70 : decode cX7_setOffset 70 = .ok (.getfield 110, 3) := by decide +kernel
theorem e3_73 : decode cX7_setOffset 73 = .ok (.iload_n 1, 1) := by decide +kernel
theorem e3_74 : decode cX7_setOffset 74 = .ok (.iconst 3, 1) := by decide +kernel
theorem e3_75 : decode cX7_setOffset 75 = .ok (.imul, 1) := by decide +kernel
theorem e3_76 : decode cX7_setOffset 76 = .ok (.iconst 1, 1) := by decide +kernel
theorem e3_77 : decode cX7_setOffset 77 = .ok (.iadd, 1) := by decide +kernel
theorem e3_78 : decode cX7_setOffset 78 = .ok (.iload_n 3, 1) := by decide +kernel
theorem e3_79 : decode cX7_setOffset 79 = .ok (.iastore, 1) := by decide +kernel
theorem e3_80 : decode cX7_setOffset 80 = .ok (.aload_n 0, 1) := by decide +kernel
theorem e3_81 : decode cX7_setOffset 81 = .ok (.getfield 12, 3) := by decide +kernel
theorem e3_84 : decode cX7_setOffset 84 = .ok (.getfield 110, 3) := by decide +kernel
theorem e3_87 : decode cX7_setOffset 87 = .ok (.iload_n 1, 1) := by decide +kernel
theorem e3_88 : decode cX7_setOffset 88 = .ok (.iconst 3, 1) := by decide +kernel
theorem e3_89 : decode cX7_setOffset 89 = .ok (.imul, 1) := by decide +kernel
theorem e3_90 : decode cX7_setOffset 90 = .ok (.iconst 2, 1) := by decide +kernel
theorem e3_91 : decode cX7_setOffset 91 = .ok (.iadd, 1) := by decide +kernel
theorem e3_92 : decode cX7_setOffset 92 = .ok (.iload 4, 2) := by decide +kernel
theorem e3_94 : decode cX7_setOffset 94 = .ok (.iastore, 1) := by decide +kernel
theorem e3_95 : decode cX7_setOffset 95 = .ok (.aload_n 0, 1) := by decide +kernel
theorem e3_96 : decode cX7_setOffset 96 = .ok (.invokevirtual 81, 3) := by decide +kernel
theorem e3_99 : decode cX7_setOffset 99 = .ok (.iload 5, 2) := by decide +kernel
theorem e3_101 : decode cX7_setOffset 101 = .ok (.ireturn, 1) := by decide +kernel
theorem w3_0 : am_all (xm_V9 (xm_G 3)) xm_l3_0 := ⟨Or.inr (Or.inl ⟨rfl, 1, e3_0, rfl, rfl, rfl, trivial, trivial⟩), Or.inr (Or.inl ⟨rfl, 1, e3_1, rfl, rfl, am_eq9 (by decide +kernel), trivial, trivial⟩), Or.inr (Or.inl ⟨rfl, 1, e3_2, rfl, rfl, am_eq9 (by decide +kernel), trivial, trivial⟩), Or.inr (Or.inl ⟨rfl, 3, e3_3, rfl, rfl, trivial, trivial, Or.inr ⟨by decide, okM_84, aw_280, Or.inl ⟨rfl, aw_379⟩⟩⟩), Or.inr (Or.inl ⟨rfl, 3, e3_6, rfl, rfl, rfl, trivial, trivial⟩), Or.inr (Or.inl ⟨rfl, 1, e3_9, rfl, rfl, rfl, trivial, trivial⟩), Or.inr (Or.inl ⟨rfl, 3, e3_10, rfl, rfl, trivial, trivial, Or.inr ⟨by decide, okM_91, bw_756, Or.inl ⟨rfl, bw_755⟩⟩⟩), Or.inr (Or.inl ⟨rfl, 3, e3_13, rfl, rfl, rfl, trivial, trivial⟩), Or.inr (Or.inl ⟨rfl, 1, e3_16, rfl, rfl, rfl, trivial, trivial⟩), Or.inr (Or.inl ⟨rfl, 3, e3_17, rfl, rfl, trivial, trivial, Or.inr ⟨by decide, okM_91, bw_756, Or.inl ⟨rfl, bw_755⟩⟩⟩), Or.inr (Or.inl ⟨rfl, 3, e3_20, rfl, rfl, rfl, trivial, trivial⟩), Or.inr (Or.inl ⟨rfl, 2, e3_23, rfl, rfl, rfl, trivial, trivial⟩), Or.inr (Or.inl ⟨rfl, 3, e3_25, rfl, rfl, trivial, trivial, Or.inr ⟨by decide, okM_91, bw_756, Or.inl ⟨rfl, bw_755⟩⟩⟩), Or.inr (Or.inl ⟨rfl, 3, e3_28, rfl, rfl, rfl, trivial, trivial⟩), Or.inr (Or.inr (Or.inl ⟨rfl, 47, 108, 51, 7, "a number is out of range", "java/lang/RuntimeException", ["java/lang/Exception"], Bundle.six, rfl, ⟨e3_31, e3_34, e3_35, e3_37, e3_40⟩, ⟨by decide +kernel, by decide +kernel, by decide +kernel, by decide +kernel⟩, by decide +kernel, by decide +kernel, by decide +kernel, by decide, bw_679, bw_16, xh_1, List.mem_of_getElem? (i := 5) rfl⟩)), Or.inr (Or.inl ⟨rfl, 1, e3_41, rfl, rfl, rfl, trivial, trivial⟩), Or.inr (Or.inl ⟨rfl, 3, e3_42, rfl, rfl, trivial, ⟨RX7, TX7, 4, rfl, by decide, Or.inl aw_250⟩, trivial⟩), Or.inr (Or.inl ⟨rfl, 3, e3_45, rfl, rfl, trivial, ⟨RX2, TX2, 4, rfl, by decide, Or.inl bw_108⟩, trivial⟩), Or.inr (Or.inl ⟨rfl, 1, e3_48, rfl, rfl, rfl, trivial, trivial⟩), Or.inr (Or.inl ⟨rfl, 1, e3_49, rfl, rfl, am_eq9 (by decide +kernel), trivial, trivial⟩), Or.inr (Or.inl ⟨rfl, 1, e3_50, rfl, rfl, trivial, trivial, trivial⟩), Or.inr (Or.inl ⟨rfl, 1, e3_51, rfl, rfl, trivial, trivial, trivial⟩), Or.inr (Or.inl ⟨rfl, 2, e3_52, rfl, rfl, rfl, trivial, trivial⟩), Or.inr (Or.inl ⟨rfl, 1, e3_54, rfl, rfl, rfl, trivial, trivial⟩), trivial⟩
theorem w3_1 : am_all (xm_V9 (xm_G 3)) xm_l3_1 := ⟨Or.inr (Or.inl ⟨rfl, 3, e3_55, rfl, rfl, trivial, ⟨RX7, TX7, 4, rfl, by decide, Or.inl aw_250⟩, trivial⟩), Or.inr (Or.inl ⟨rfl, 3, e3_58, rfl, rfl, trivial, ⟨RX2, TX2, 4, rfl, by decide, Or.inl bw_108⟩, trivial⟩), Or.inr (Or.inl ⟨rfl, 1, e3_61, rfl, rfl, rfl, trivial, trivial⟩), Or.inr (Or.inl ⟨rfl, 1, e3_62, rfl, rfl, am_eq9 (by decide +kernel), trivial, trivial⟩), Or.inr (Or.inl ⟨rfl, 1, e3_63, rfl, rfl, trivial, trivial, trivial⟩), Or.inr (Or.inl ⟨rfl, 1, e3_64, rfl, rfl, rfl, trivial, trivial⟩), Or.inr (Or.inl ⟨rfl, 1, e3_65, rfl, rfl, trivial, trivial, trivial⟩), Or.inr (Or.inl ⟨rfl, 1, e3_66, rfl, rfl, rfl, trivial, trivial⟩), Or.inr (Or.inl ⟨rfl, 3, e3_67, rfl, rfl, trivial, ⟨RX7, TX7, 4, rfl, by decide, Or.inl aw_250⟩, trivial⟩), Or.inr (Or.inl ⟨rfl, 3, e3_70, rfl, rfl, trivial, ⟨RX2, TX2, 4, rfl, by decide, Or.inl bw_108⟩, trivial⟩), Or.inr (Or.inl ⟨rfl, 1, e3_73, rfl, rfl, rfl, trivial, trivial⟩), Or.inr (Or.inl ⟨rfl, 1, e3_74, rfl, rfl, am_eq9 (by decide +kernel), trivial, trivial⟩), Or.inr (Or.inl ⟨rfl, 1, e3_75, rfl, rfl, trivial, trivial, trivial⟩), Or.inr (Or.inl ⟨rfl, 1, e3_76, rfl, rfl, am_eq9 (by decide +kernel), trivial, trivial⟩), Or.inr (Or.inl ⟨rfl, 1, e3_77, rfl, rfl, trivial, trivial, trivial⟩), Or.inr (Or.inl ⟨rfl, 1, e3_78, rfl, rfl, rfl, trivial, trivial⟩), Or.inr (Or.inl ⟨rfl, 1, e3_79, rfl, rfl, trivial, trivial, trivial⟩), Or.inr (Or.inl ⟨rfl, 1, e3_80, rfl, rfl, rfl, trivial, trivial⟩), Or.inr (Or.inl ⟨rfl, 3, e3_81, rfl, rfl, trivial, ⟨RX7, TX7, 4, rfl, by decide, Or.inl aw_250⟩, trivial⟩), Or.inr (Or.inl ⟨rfl, 3, e3_84, rfl, rfl, trivial, ⟨RX2, TX2, 4, rfl, by decide, Or.inl bw_108⟩, trivial⟩), Or.inr (Or.inl ⟨rfl, 1, e3_87, rfl, rfl, rfl, trivial, trivial⟩), Or.inr (Or.inl ⟨rfl, 1, e3_88, rfl, rfl, am_eq9 (by decide +kernel), trivial, trivial⟩), Or.inr (Or.inl ⟨rfl, 1, e3_89, rfl, rfl, trivial, trivial, trivial⟩), Or.inr (Or.inl ⟨rfl, 1, e3_90, rfl, rfl, am_eq9 (by decide +kernel), trivial, trivial⟩), trivial⟩
theorem w3_2 : am_all (xm_V9 (xm_G 3)) xm_l3_2 := ⟨Or.inr (Or.inl ⟨rfl, 1, e3_91, rfl, rfl, trivial, trivial, trivial⟩), Or.inr (Or.inl ⟨rfl, 2, e3_92, rfl, rfl, rfl, trivial, trivial⟩), Or.inr (Or.inl ⟨rfl, 1, e3_94, rfl, rfl, trivial, trivial, trivial⟩), Or.inr (Or.inl ⟨rfl, 1, e3_95, rfl, rfl, rfl, trivial, trivial⟩), Or.inr (Or.inl ⟨rfl, 3, e3_96, rfl, rfl, trivial, trivial, ⟨by decide, ⟨_, TX7, 4, rfl, okM_83, rfl⟩, aw_286, aw_288, as_83⟩⟩), Or.inr (Or.inl ⟨rfl, 2, e3_99, rfl, rfl, rfl, trivial, trivial⟩), Or.inr (Or.inl ⟨rfl, 1, e3_101, rfl, rfl, trivial, trivial, trivial⟩), trivial⟩
theorem w3 : ∀ pc, xm_V9 (xm_G 3) pc ((xm_G 3).1.2.2.2.2.1 pc) := am_all_lc xm_V9_0 _ ⟨w3_0, w3_1, w3_2, trivial⟩
theorem e4_0 : decode cX7_addBlock 0 = .ok (.iload_n 1, 1) := by decide +kernel
theorem e4_1 : decode cX7_addBlock 1 = .ok (.invokestatic 114, 3) := by decide +kernel
theorem e4_4 : decode cX7_addBlock 4 = .ok (.ifCond .eq 25, 3) := by decide +kernel
theorem e4_7 : decode cX7_addBlock 7 = .ok (.iload_n 2, 1) := by decide +kernel
theorem e4_8 : decode cX7_addBlock 8 = .ok (.invokestatic 117, 3) := by decide +kernel
theorem e4_11 : decode cX7_addBlock 11 = .ok (.ifCond .eq 18, 3) := by decide +kernel
theorem e4_14 : decode cX7_addBlock 14 = .ok (.iload_n 3, 1) := by decide +kernel
theorem e4_15 : decode cX7_addBlock 15 = .ok (.invokestatic 117, 3) := by decide +kernel
theorem e4_18 : decode cX7_addBlock 18 = .ok (.ifCond .eq 11, 3) := by decide +kernel
theorem e4_21 : decode cX7_addBlock 21 = .ok (.iload 4, 2) := by decide +kernel
theorem e4_23 : decode cX7_addBlock 23 = .ok (.invokestatic 117, 3) := by decide +kernel
theorem e4_26 : decode cX7_addBlock 26 = .ok (.ifCond .ne 13, 3) := by decide +kernel
theorem e4_29 : decode cX7_addBlock 29 = .ok (.new 47, 3) := by decide +kernel
theorem e4_32 : decode cX7_addBlock 32 = .ok (.dup, 1) := by decide +kernel
theorem e4_33 : decode cX7_addBlock 33 = .ok (.ldc 120, 2) := by decide +kernel
theorem e4_35 : decode cX7_addBlock 35 = .ok (.invokespecial 51, 3) := by decide +kernel
theorem e4_38 : decode cX7_addBlock 38 = .ok (.athrow, 1) := by decide +kernel
theorem e4_39 : decode cX7_addBlock 39 = .ok (.aload_n 0, 1) := by decide +kernel
theorem e4_40 : decode cX7_addBlock 40 = .ok (.getfield 12, 3) := by decide +kernel
theorem e4_43 : decode cX7_addBlock 43 = .ok (.getfield 122, 3) := by decide +kernel
theorem e4_46 : decode cX7_addBlock 46 = .ok (.getfield 126, 3) := by decide +kernel
theorem e4_49 : decode cX7_addBlock 49 = .ok (.bipush 64, 2) := by decide +kernel
theorem e4_51 : decode cX7_addBlock 51 = .ok (.if_icmp .lt 13, 3) := by decide +kernel
theorem e4_54 : decode cX7_addBlock 54 = .ok (.new 132, 3) := by decide +kernel
theorem e4_57 : decode cX7_addBlock 57 = .ok (.dup, 1) := by decide +kernel
theorem e4_58 : decode cX7_addBlock 58 = .ok (.ldc 134, 2) := by decide +kernel
theorem e4_60 : decode cX7_addBlock 60 = .ok (.invokespecial 136, 3) := by decide +kernel
theorem e4_63 : decode cX7_addBlock 63 = .ok (.athrow, 1) := by decide +kernel
theorem e4_64 : decode cX7_addBlock 64 = .ok (.aload_n 0, 1) := by decide +kernel
theorem e4_65 : decode cX7_addBlock 65 = .ok (.getfield 12, 3) := by decide +kernel
theorem e4_68 : decode cX7_addBlock 68 = .ok (.getfield 122, 3) := by decide +kernel
theorem e4_71 : decode cX7_addBlock 71 = .ok (.iload_n 1, 1) := by decide +kernel
theorem e4_72 : decode cX7_addBlock 72 = .ok (.iload_n 2, 1) := by decide +kernel
theorem e4_73 : decode cX7_addBlock 73 = .ok (.iload_n 3, 1) := by decide +kernel
theorem e4_74 : decode cX7_addBlock 74 = .ok (.iload 4, 2) := by decide +kernel
theorem e4_76 : decode cX7_addBlock 76 = .ok (.invokevirtual 137, 3) := by decide +kernel
theorem e4_79 : decode cX7_addBlock 79 = .ok (.aload_n 0, 1) := by decide +kernel
theorem e4_80 : decode cX7_addBlock 80 = .ok (.invokevirtual 81, 3) := by decide +kernel
theorem e4_83 : decode cX7_addBlock 83 = .ok (.aload_n 0, 1) := by decide +kernel
theorem e4_84 : decode cX7_addBlock 84 = .ok (.getfield 12, 3) := by decide +kernel
theorem e4_87 : decode cX7_addBlock 87 = .ok (.getfield 122, 3) := by decide +kernel
theorem e4_90 : decode cX7_addBlock 90 = .ok (.getfield 126, 3) := by decide +kernel
theorem e4_93 : decode cX7_addBlock 93 = .ok (.iconst 1, 1) := by decide +kernel
theorem e4_94 : decode cX7_addBlock 94 = .ok (.isub, 1) := by decide +kernel
theorem e4_95 : decode cX7_addBlock 95 = .ok (.ireturn, 1) := by decide +kernel
theorem w4_0 : am_all (xm_V9 (xm_G 4)) xm_l4_0 := ⟨Or.inr (Or.inl ⟨rfl, 1, e4_0, rfl, rfl, rfl, trivial, trivial⟩), Or.inr (Or.inl ⟨rfl, 3, e4_1, rfl, rfl, trivial, trivial, Or.inr ⟨by decide, okM_92, bw_768, Or.inl ⟨rfl, bw_767⟩⟩⟩), Or.inr (Or.inl ⟨rfl, 3, e4_4, rfl, rfl, rfl, trivial, trivial⟩), Or.inr (Or.inl ⟨rfl, 1, e4_7, rfl, rfl, rfl, trivial, trivial⟩), Or.inr (Or.inl ⟨rfl, 3, e4_8, rfl, rfl, trivial, trivial, Or.inr ⟨by decide, okM_93, bw_773, Or.inl ⟨rfl, bw_772⟩⟩⟩), Or.inr (Or.inl ⟨rfl, 3, e4_11, rfl, rfl, rfl, trivial, trivial⟩), Or.inr (Or.inl ⟨rfl, 1, e4_14, rfl, rfl, rfl, trivial, trivial⟩), Or.inr (Or.inl ⟨rfl, 3, e4_15, rfl, rfl, trivial, trivial, Or.inr ⟨by decide, okM_93, bw_773, Or.inl ⟨rfl, bw_772⟩⟩⟩), Or.inr (Or.inl ⟨rfl, 3, e4_18, rfl, rfl, rfl, trivial, trivial⟩), Or.inr (Or.inl ⟨rfl, 2, e4_21, rfl, rfl, rfl, trivial, trivial⟩), Or.inr (Or.inl ⟨rfl, 3, e4_23, rfl, rfl, trivial, trivial, Or.inr ⟨by decide, okM_93, bw_773, Or.inl ⟨rfl, bw_772⟩⟩⟩), Or.inr (Or.inl ⟨rfl, 3, e4_26, rfl, rfl, rfl, trivial, trivial⟩), Or.inr (Or.inr (Or.inl ⟨rfl, 47, 120, 51, 7, "there is no such kind or term", "java/lang/RuntimeException", ["java/lang/Exception"], Bundle.six, rfl, ⟨e4_29, e4_32, e4_33, e4_35, e4_38⟩, ⟨by decide +kernel, by decide +kernel, by decide +kernel, by decide +kernel⟩, by decide +kernel, by decide +kernel, by decide +kernel, by decide, bw_679, bw_16, xh_1, List.mem_of_getElem? (i := 6) rfl⟩)), Or.inr (Or.inl ⟨rfl, 1, e4_39, rfl, rfl, rfl, trivial, trivial⟩), Or.inr (Or.inl ⟨rfl, 3, e4_40, rfl, rfl, trivial, ⟨RX7, TX7, 4, rfl, by decide, Or.inl aw_250⟩, trivial⟩), Or.inr (Or.inl ⟨rfl, 3, e4_43, rfl, rfl, trivial, ⟨RX2, TX2, 4, rfl, by decide, Or.inl aw_112⟩, trivial⟩), Or.inr (Or.inl ⟨rfl, 3, e4_46, rfl, rfl, trivial, ⟨RX4, TX4, 6, rfl, by decide, Or.inl bw_87⟩, trivial⟩), Or.inr (Or.inl ⟨rfl, 2, e4_49, rfl, rfl, am_eq9 (by decide +kernel), trivial, trivial⟩), Or.inr (Or.inl ⟨rfl, 3, e4_51, rfl, rfl, rfl, trivial, trivial⟩), Or.inr (Or.inr (Or.inl ⟨rfl, 132, 134, 136, 7, "the program is full", "java/lang/RuntimeException", ["java/lang/Exception"], Bundle.six, rfl, ⟨e4_54, e4_57, e4_58, e4_60, e4_63⟩, ⟨by decide +kernel, by decide +kernel, by decide +kernel, by decide +kernel⟩, by decide +kernel, by decide +kernel, by decide +kernel, by decide, bw_776, bw_18, xh_3, List.mem_of_getElem? (i := 7) rfl⟩)), Or.inr (Or.inl ⟨rfl, 1, e4_64, rfl, rfl, rfl, trivial, trivial⟩), Or.inr (Or.inl ⟨rfl, 3, e4_65, rfl, rfl, trivial, ⟨RX7, TX7, 4, rfl, by decide, Or.inl aw_250⟩, trivial⟩), Or.inr (Or.inl ⟨rfl, 3, e4_68, rfl, rfl, trivial, ⟨RX2, TX2, 4, rfl, by decide, Or.inl aw_112⟩, trivial⟩), Or.inr (Or.inl ⟨rfl, 1, e4_71, rfl, rfl, rfl, trivial, trivial⟩), trivial⟩
theorem w4_1 : am_all (xm_V9 (xm_G 4)) xm_l4_1 := ⟨Or.inr (Or.inl ⟨rfl, 1, e4_72, rfl, rfl, rfl, trivial, trivial⟩), Or.inr (Or.inl ⟨rfl, 1, e4_73, rfl, rfl, rfl, trivial, trivial⟩), Or.inr (Or.inl ⟨rfl, 2, e4_74, rfl, rfl, rfl, trivial, trivial⟩), Or.inr (Or.inl ⟨rfl, 3, e4_76, rfl, rfl, trivial, trivial, ⟨by decide, ⟨_, TX4, 6, rfl, okM_50, rfl⟩, bw_792, bw_793, bw_794⟩⟩), Or.inr (Or.inl ⟨rfl, 1, e4_79, rfl, rfl, rfl, trivial, trivial⟩), Or.inr (Or.inl ⟨rfl, 3, e4_80, rfl, rfl, trivial, trivial, ⟨by decide, ⟨_, TX7, 4, rfl, okM_83, rfl⟩, aw_286, aw_288, as_83⟩⟩), Or.inr (Or.inl ⟨rfl, 1, e4_83, rfl, rfl, rfl, trivial, trivial⟩), Or.inr (Or.inl ⟨rfl, 3, e4_84, rfl, rfl, trivial, ⟨RX7, TX7, 4, rfl, by decide, Or.inl aw_250⟩, trivial⟩), Or.inr (Or.inl ⟨rfl, 3, e4_87, rfl, rfl, trivial, ⟨RX2, TX2, 4, rfl, by decide, Or.inl aw_112⟩, trivial⟩), Or.inr (Or.inl ⟨rfl, 3, e4_90, rfl, rfl, trivial, ⟨RX4, TX4, 6, rfl, by decide, Or.inl bw_87⟩, trivial⟩), Or.inr (Or.inl ⟨rfl, 1, e4_93, rfl, rfl, am_eq9 (by decide +kernel), trivial, trivial⟩), Or.inr (Or.inl ⟨rfl, 1, e4_94, rfl, rfl, trivial, trivial, trivial⟩), Or.inr (Or.inl ⟨rfl, 1, e4_95, rfl, rfl, trivial, trivial, trivial⟩), trivial⟩
theorem w4 : ∀ pc, xm_V9 (xm_G 4) pc ((xm_G 4).1.2.2.2.2.1 pc) := am_all_lc xm_V9_0 _ ⟨w4_0, w4_1, trivial⟩
theorem e5_0 : decode cX7_dropBlock 0 = .ok (.aload_n 0, 1) := by decide +kernel
theorem e5_1 : decode cX7_dropBlock 1 = .ok (.getfield 12, 3) := by decide +kernel
theorem e5_4 : decode cX7_dropBlock 4 = .ok (.getfield 122, 3) := by decide +kernel
theorem e5_7 : decode cX7_dropBlock 7 = .ok (.getfield 126, 3) := by decide +kernel
theorem e5_10 : decode cX7_dropBlock 10 = .ok (.ifCond .ne 13, 3) := by decide +kernel
theorem e5_13 : decode cX7_dropBlock 13 = .ok (.new 132, 3) := by decide +kernel
theorem e5_16 : decode cX7_dropBlock 16 = .ok (.dup, 1) := by decide +kernel
theorem e5_17 : decode cX7_dropBlock 17 = .ok (.ldc 141, 2) := by decide +kernel
theorem e5_19 : decode cX7_dropBlock 19 = .ok (.invokespecial 136, 3) := by decide +kernel
theorem e5_22 : decode cX7_dropBlock 22 = .ok (.athrow, 1) := by decide +kernel
theorem e5_23 : decode cX7_dropBlock 23 = .ok (.aload_n 0, 1) := by decide +kernel
theorem e5_24 : decode cX7_dropBlock 24 = .ok (.getfield 12, 3) := by decide +kernel
theorem e5_27 : decode cX7_dropBlock 27 = .ok (.getfield 122, 3) := by decide +kernel
theorem e5_30 : decode cX7_dropBlock 30 = .ok (.invokevirtual 143, 3) := by decide +kernel
theorem e5_33 : decode cX7_dropBlock 33 = .ok (.aload_n 0, 1) := by decide +kernel
theorem e5_34 : decode cX7_dropBlock 34 = .ok (.invokevirtual 81, 3) := by decide +kernel
theorem e5_37 : decode cX7_dropBlock 37 = .ok (.aload_n 0, 1) := by decide +kernel
theorem e5_38 : decode cX7_dropBlock 38 = .ok (.getfield 12, 3) := by decide +kernel
theorem e5_41 : decode cX7_dropBlock 41 = .ok (.getfield 122, 3) := by decide +kernel
theorem e5_44 : decode cX7_dropBlock 44 = .ok (.getfield 126, 3) := by decide +kernel
theorem e5_47 : decode cX7_dropBlock 47 = .ok (.ireturn, 1) := by decide +kernel
theorem w5_0 : am_all (xm_V9 (xm_G 5)) xm_l5_0 := ⟨Or.inr (Or.inl ⟨rfl, 1, e5_0, rfl, rfl, rfl, trivial, trivial⟩), Or.inr (Or.inl ⟨rfl, 3, e5_1, rfl, rfl, trivial, ⟨RX7, TX7, 4, rfl, by decide, Or.inl aw_250⟩, trivial⟩), Or.inr (Or.inl ⟨rfl, 3, e5_4, rfl, rfl, trivial, ⟨RX2, TX2, 4, rfl, by decide, Or.inl aw_112⟩, trivial⟩), Or.inr (Or.inl ⟨rfl, 3, e5_7, rfl, rfl, trivial, ⟨RX4, TX4, 6, rfl, by decide, Or.inl bw_87⟩, trivial⟩), Or.inr (Or.inl ⟨rfl, 3, e5_10, rfl, rfl, rfl, trivial, trivial⟩), Or.inr (Or.inr (Or.inl ⟨rfl, 132, 141, 136, 7, "there are no blocks", "java/lang/RuntimeException", ["java/lang/Exception"], Bundle.six, rfl, ⟨e5_13, e5_16, e5_17, e5_19, e5_22⟩, ⟨by decide +kernel, by decide +kernel, by decide +kernel, by decide +kernel⟩, by decide +kernel, by decide +kernel, by decide +kernel, by decide, bw_776, bw_18, xh_3, List.mem_of_getElem? (i := 8) rfl⟩)), Or.inr (Or.inl ⟨rfl, 1, e5_23, rfl, rfl, rfl, trivial, trivial⟩), Or.inr (Or.inl ⟨rfl, 3, e5_24, rfl, rfl, trivial, ⟨RX7, TX7, 4, rfl, by decide, Or.inl aw_250⟩, trivial⟩), Or.inr (Or.inl ⟨rfl, 3, e5_27, rfl, rfl, trivial, ⟨RX2, TX2, 4, rfl, by decide, Or.inl aw_112⟩, trivial⟩), Or.inr (Or.inl ⟨rfl, 3, e5_30, rfl, rfl, trivial, trivial, ⟨by decide, ⟨_, TX4, 6, rfl, okM_52, rfl⟩, bw_808, bw_809, bw_810⟩⟩), Or.inr (Or.inl ⟨rfl, 1, e5_33, rfl, rfl, rfl, trivial, trivial⟩), Or.inr (Or.inl ⟨rfl, 3, e5_34, rfl, rfl, trivial, trivial, ⟨by decide, ⟨_, TX7, 4, rfl, okM_83, rfl⟩, aw_286, aw_288, as_83⟩⟩), Or.inr (Or.inl ⟨rfl, 1, e5_37, rfl, rfl, rfl, trivial, trivial⟩), Or.inr (Or.inl ⟨rfl, 3, e5_38, rfl, rfl, trivial, ⟨RX7, TX7, 4, rfl, by decide, Or.inl aw_250⟩, trivial⟩), Or.inr (Or.inl ⟨rfl, 3, e5_41, rfl, rfl, trivial, ⟨RX2, TX2, 4, rfl, by decide, Or.inl aw_112⟩, trivial⟩), Or.inr (Or.inl ⟨rfl, 3, e5_44, rfl, rfl, trivial, ⟨RX4, TX4, 6, rfl, by decide, Or.inl bw_87⟩, trivial⟩), Or.inr (Or.inl ⟨rfl, 1, e5_47, rfl, rfl, trivial, trivial, trivial⟩), trivial⟩
theorem w5 : ∀ pc, xm_V9 (xm_G 5) pc ((xm_G 5).1.2.2.2.2.1 pc) := am_all_lc xm_V9_0 _ ⟨w5_0, trivial⟩
theorem e6_0 : decode cX7_run 0 = .ok (.iload_n 1, 1) := by decide +kernel
theorem e6_1 : decode cX7_run 1 = .ok (.iconst 1, 1) := by decide +kernel
theorem e6_2 : decode cX7_run 2 = .ok (.bipush 100, 2) := by decide +kernel
theorem e6_4 : decode cX7_run 4 = .ok (.invokestatic 52, 3) := by decide +kernel
theorem e6_7 : decode cX7_run 7 = .ok (.ifCond .ne 13, 3) := by decide +kernel
theorem e6_10 : decode cX7_run 10 = .ok (.new 47, 3) := by decide +kernel
theorem e6_13 : decode cX7_run 13 = .ok (.dup, 1) := by decide +kernel
theorem e6_14 : decode cX7_run 14 = .ok (.ldc 150, 2) := by decide +kernel
theorem e6_16 : decode cX7_run 16 = .ok (.invokespecial 51, 3) := by decide +kernel
theorem e6_19 : decode cX7_run 19 = .ok (.athrow, 1) := by decide +kernel
theorem e6_20 : decode cX7_run 20 = .ok (.aload_n 0, 1) := by decide +kernel
theorem e6_21 : decode cX7_run 21 = .ok (.getfield 12, 3) := by decide +kernel
theorem e6_24 : decode cX7_run 24 = .ok (.getfield 122, 3) := by decide +kernel
theorem e6_27 : decode cX7_run 27 = .ok (.invokevirtual 146, 3) := by decide +kernel
theorem e6_30 : decode cX7_run 30 = .ok (.ifCond .ne 13, 3) := by decide +kernel
theorem e6_33 : decode cX7_run 33 = .ok (.new 132, 3) := by decide +kernel
theorem e6_36 : decode cX7_run 36 = .ok (.dup, 1) := by decide +kernel
theorem e6_37 : decode cX7_run 37 = .ok (.ldc 152, 2) := by decide +kernel
theorem e6_39 : decode cX7_run 39 = .ok (.invokespecial 136, 3) := by decide +kernel
theorem e6_42 : decode cX7_run 42 = .ok (.athrow, 1) := by decide +kernel
theorem e6_43 : decode cX7_run 43 = .ok (.aload_n 0, 1) := by decide +kernel
theorem e6_44 : decode cX7_run 44 = .ok (.bipush 45, 2) := by decide +kernel
theorem e6_46 : decode cX7_run 46 = .ok (.putfield 28, 3) := by decide +kernel
theorem e6_49 : decode cX7_run 49 = .ok (.iconst 0, 1) := by decide +kernel
theorem e6_50 : decode cX7_run 50 = .ok (.istore_n 2, 1) := by decide +kernel
theorem e6_51 : decode cX7_run 51 = .ok (.iload_n 2, 1) := by decide +kernel
theorem e6_52 : decode cX7_run 52 = .ok (.iload_n 1, 1) := by decide +kernel
theorem e6_53 : decode cX7_run 53 = .ok (.if_icmp .ge 57, 3) := by decide +kernel
theorem e6_56 : decode cX7_run 56 = .ok (.aload_n 0, 1) := by decide +kernel
theorem e6_57 : decode cX7_run 57 = .ok (.getfield 21, 3) := by decide +kernel
theorem e6_60 : decode cX7_run 60 = .ok (.invokevirtual 154, 3) := by decide +kernel
theorem e6_63 : decode cX7_run 63 = .ok (.ifCond .eq 5, 3) := by decide +kernel
theorem e6_66 : decode cX7_run 66 = .ok (.iload_n 2, 1) := by decide +kernel
theorem e6_67 : decode cX7_run 67 = .ok (.ireturn, 1) := by decide +kernel
theorem e6_68 : decode cX7_run 68 = .ok (.aload_n 0, 1) := by decide +kernel
theorem e6_69 : decode cX7_run 69 = .ok (.aload_n 0, 1) := by decide +kernel
theorem e6_70 : decode cX7_run 70 = .ok (.getfield 21, 3) := by decide +kernel
theorem e6_73 : decode cX7_run 73 = .ok (.invokevirtual 157, 3) := by decide +kernel
theorem e6_76 : decode cX7_run 76 = .ok (.putfield 28, 3) := by decide +kernel
theorem e6_79 : decode cX7_run 79 = .ok (.aload_n 0, 1) := by decide +kernel
theorem e6_80 : decode cX7_run 80 = .ok (.getfield 28, 3) := by decide +kernel
theorem e6_83 : decode cX7_run 83 = .ok (.bipush 45, 2) := by decide +kernel
theorem e6_85 : decode cX7_run 85 = .ok (.if_icmp .eq 5, 3) := by decide +kernel
theorem e6_88 : decode cX7_run 88 = .ok (.iload_n 2, 1) := by decide +kernel
theorem e6_89 : decode cX7_run 89 = .ok (.ireturn, 1) := by decide +kernel
theorem e6_90 : decode cX7_run 90 = .ok (.aload_n 0, 1) := by decide +kernel
theorem e6_91 : decode cX7_run 91 = .ok (.getfield 21, 3) := by decide +kernel
theorem e6_94 : decode cX7_run 94 = .ok (.invokevirtual 161, 3) := by decide +kernel
theorem e6_97 : decode cX7_run 97 = .ok (.ifCond .eq 7, 3) := by decide +kernel
theorem e6_100 : decode cX7_run 100 = .ok (.iload_n 2, 1) := by decide +kernel
theorem e6_101 : decode cX7_run 101 = .ok (.iconst 1, 1) := by decide +kernel
theorem e6_102 : decode cX7_run 102 = .ok (.iadd, 1) := by decide +kernel
theorem e6_103 : decode cX7_run 103 = .ok (.ireturn, 1) := by decide +kernel
theorem e6_104 : decode cX7_run 104 = .ok (.iinc 2 1, 3) := by decide +kernel
theorem e6_107 : decode cX7_run 107 = .ok (.goto (-56), 3) := by decide +kernel
theorem e6_110 : decode cX7_run 110 = .ok (.iload_n 1, 1) := by decide +kernel
theorem e6_111 : decode cX7_run 111 = .ok (.ireturn, 1) := by decide +kernel
theorem w6_0 : am_all (xm_V9 (xm_G 6)) xm_l6_0 := ⟨Or.inr (Or.inl ⟨rfl, 1, e6_0, rfl, rfl, rfl, trivial, trivial⟩), Or.inr (Or.inl ⟨rfl, 1, e6_1, rfl, rfl, am_eq9 (by decide +kernel), trivial, trivial⟩), Or.inr (Or.inl ⟨rfl, 2, e6_2, rfl, rfl, am_eq9 (by decide +kernel), trivial, trivial⟩), Or.inr (Or.inl ⟨rfl, 3, e6_4, rfl, rfl, trivial, trivial, Or.inr ⟨by decide, okM_84, aw_280, Or.inl ⟨rfl, aw_379⟩⟩⟩), Or.inr (Or.inl ⟨rfl, 3, e6_7, rfl, rfl, rfl, trivial, trivial⟩), Or.inr (Or.inr (Or.inl ⟨rfl, 47, 150, 51, 7, "the number of blocks is out of range", "java/lang/RuntimeException", ["java/lang/Exception"], Bundle.six, rfl, ⟨e6_10, e6_13, e6_14, e6_16, e6_19⟩, ⟨by decide +kernel, by decide +kernel, by decide +kernel, by decide +kernel⟩, by decide +kernel, by decide +kernel, by decide +kernel, by decide, bw_679, bw_16, xh_1, List.mem_of_getElem? (i := 9) rfl⟩)), Or.inr (Or.inl ⟨rfl, 1, e6_20, rfl, rfl, rfl, trivial, trivial⟩), Or.inr (Or.inl ⟨rfl, 3, e6_21, rfl, rfl, trivial, ⟨RX7, TX7, 4, rfl, by decide, Or.inl aw_250⟩, trivial⟩), Or.inr (Or.inl ⟨rfl, 3, e6_24, rfl, rfl, trivial, ⟨RX2, TX2, 4, rfl, by decide, Or.inl aw_112⟩, trivial⟩), Or.inr (Or.inl ⟨rfl, 3, e6_27, rfl, rfl, trivial, trivial, ⟨by decide, ⟨_, TX4, 6, rfl, okM_53, rfl⟩, aw_267, aw_268, aw_269⟩⟩), Or.inr (Or.inl ⟨rfl, 3, e6_30, rfl, rfl, rfl, trivial, trivial⟩), Or.inr (Or.inr (Or.inl ⟨rfl, 132, 152, 136, 7, "the program is not closed", "java/lang/RuntimeException", ["java/lang/Exception"], Bundle.six, rfl, ⟨e6_33, e6_36, e6_37, e6_39, e6_42⟩, ⟨by decide +kernel, by decide +kernel, by decide +kernel, by decide +kernel⟩, by decide +kernel, by decide +kernel, by decide +kernel, by decide, bw_776, bw_18, xh_3, List.mem_of_getElem? (i := 10) rfl⟩)), Or.inr (Or.inl ⟨rfl, 1, e6_43, rfl, rfl, rfl, trivial, trivial⟩), Or.inr (Or.inl ⟨rfl, 2, e6_44, rfl, rfl, am_eq9 (by decide +kernel), trivial, trivial⟩), Or.inr (Or.inl ⟨rfl, 3, e6_46, rfl, rfl, trivial, ⟨RX7, TX7, 4, rfl, by decide, aw_253, Or.inl rfl⟩, trivial⟩), Or.inr (Or.inl ⟨rfl, 1, e6_49, rfl, rfl, am_eq9 (by decide +kernel), trivial, trivial⟩), Or.inr (Or.inl ⟨rfl, 1, e6_50, rfl, rfl, rfl, trivial, trivial⟩), Or.inr (Or.inl ⟨rfl, 1, e6_51, rfl, rfl, rfl, trivial, trivial⟩), Or.inr (Or.inl ⟨rfl, 1, e6_52, rfl, rfl, rfl, trivial, trivial⟩), Or.inr (Or.inl ⟨rfl, 3, e6_53, rfl, rfl, rfl, trivial, trivial⟩), Or.inr (Or.inl ⟨rfl, 1, e6_56, rfl, rfl, rfl, trivial, trivial⟩), Or.inr (Or.inl ⟨rfl, 3, e6_57, rfl, rfl, trivial, ⟨RX7, TX7, 4, rfl, by decide, Or.inl aw_251⟩, trivial⟩), Or.inr (Or.inl ⟨rfl, 3, e6_60, rfl, rfl, trivial, trivial, ⟨by decide, ⟨_, TX1, 20, rfl, okM_12, rfl⟩, aw_299, aw_300, aw_301⟩⟩), Or.inr (Or.inl ⟨rfl, 3, e6_63, rfl, rfl, rfl, trivial, trivial⟩), trivial⟩
theorem w6_1 : am_all (xm_V9 (xm_G 6)) xm_l6_1 := ⟨Or.inr (Or.inl ⟨rfl, 1, e6_66, rfl, rfl, rfl, trivial, trivial⟩), Or.inr (Or.inl ⟨rfl, 1, e6_67, rfl, rfl, trivial, trivial, trivial⟩), Or.inr (Or.inl ⟨rfl, 1, e6_68, rfl, rfl, rfl, trivial, trivial⟩), Or.inr (Or.inl ⟨rfl, 1, e6_69, rfl, rfl, rfl, trivial, trivial⟩), Or.inr (Or.inl ⟨rfl, 3, e6_70, rfl, rfl, trivial, ⟨RX7, TX7, 4, rfl, by decide, Or.inl aw_251⟩, trivial⟩), Or.inr (Or.inl ⟨rfl, 3, e6_73, rfl, rfl, trivial, trivial, ⟨by decide, ⟨_, TX1, 20, rfl, okM_16, rfl⟩, bw_821, aw_363, aw_364⟩⟩), Or.inr (Or.inl ⟨rfl, 3, e6_76, rfl, rfl, trivial, ⟨RX7, TX7, 4, rfl, by decide, aw_253, Or.inl rfl⟩, trivial⟩), Or.inr (Or.inl ⟨rfl, 1, e6_79, rfl, rfl, rfl, trivial, trivial⟩), Or.inr (Or.inl ⟨rfl, 3, e6_80, rfl, rfl, trivial, ⟨RX7, TX7, 4, rfl, by decide, Or.inl aw_253⟩, trivial⟩), Or.inr (Or.inl ⟨rfl, 2, e6_83, rfl, rfl, am_eq9 (by decide +kernel), trivial, trivial⟩), Or.inr (Or.inl ⟨rfl, 3, e6_85, rfl, rfl, rfl, trivial, trivial⟩), Or.inr (Or.inl ⟨rfl, 1, e6_88, rfl, rfl, rfl, trivial, trivial⟩), Or.inr (Or.inl ⟨rfl, 1, e6_89, rfl, rfl, trivial, trivial, trivial⟩), Or.inr (Or.inl ⟨rfl, 1, e6_90, rfl, rfl, rfl, trivial, trivial⟩), Or.inr (Or.inl ⟨rfl, 3, e6_91, rfl, rfl, trivial, ⟨RX7, TX7, 4, rfl, by decide, Or.inl aw_251⟩, trivial⟩), Or.inr (Or.inl ⟨rfl, 3, e6_94, rfl, rfl, trivial, trivial, ⟨by decide, ⟨_, TX1, 20, rfl, okM_13, rfl⟩, bw_822, bw_823, bw_824⟩⟩), Or.inr (Or.inl ⟨rfl, 3, e6_97, rfl, rfl, rfl, trivial, trivial⟩), Or.inr (Or.inl ⟨rfl, 1, e6_100, rfl, rfl, rfl, trivial, trivial⟩), Or.inr (Or.inl ⟨rfl, 1, e6_101, rfl, rfl, am_eq9 (by decide +kernel), trivial, trivial⟩), Or.inr (Or.inl ⟨rfl, 1, e6_102, rfl, rfl, trivial, trivial, trivial⟩), Or.inr (Or.inl ⟨rfl, 1, e6_103, rfl, rfl, trivial, trivial, trivial⟩), Or.inr (Or.inl ⟨rfl, 3, e6_104, rfl, rfl, ⟨rfl, by decide⟩, trivial, trivial⟩), Or.inr (Or.inl ⟨rfl, 3, e6_107, rfl, rfl, rfl, trivial, trivial⟩), Or.inr (Or.inl ⟨rfl, 1, e6_110, rfl, rfl, rfl, trivial, trivial⟩), trivial⟩
theorem w6_2 : am_all (xm_V9 (xm_G 6)) xm_l6_2 := ⟨Or.inr (Or.inl ⟨rfl, 1, e6_111, rfl, rfl, trivial, trivial, trivial⟩), trivial⟩
theorem w6 : ∀ pc, xm_V9 (xm_G 6) pc ((xm_G 6).1.2.2.2.2.1 pc) := am_all_lc xm_V9_0 _ ⟨w6_0, w6_1, w6_2, trivial⟩
theorem e7_0 : decode cX7_variable 0 = .ok (.iload_n 1, 1) := by decide +kernel
theorem e7_1 : decode cX7_variable 1 = .ok (.iconst 0, 1) := by decide +kernel
theorem e7_2 : decode cX7_variable 2 = .ok (.bipush 7, 2) := by decide +kernel
theorem e7_4 : decode cX7_variable 4 = .ok (.invokestatic 52, 3) := by decide +kernel
theorem e7_7 : decode cX7_variable 7 = .ok (.ifCond .ne 13, 3) := by decide +kernel
theorem e7_10 : decode cX7_variable 10 = .ok (.new 47, 3) := by decide +kernel
theorem e7_13 : decode cX7_variable 13 = .ok (.dup, 1) := by decide +kernel
theorem e7_14 : decode cX7_variable 14 = .ok (.ldc 170, 2) := by decide +kernel
theorem e7_16 : decode cX7_variable 16 = .ok (.invokespecial 51, 3) := by decide +kernel
theorem e7_19 : decode cX7_variable 19 = .ok (.athrow, 1) := by decide +kernel
theorem e7_20 : decode cX7_variable 20 = .ok (.aload_n 0, 1) := by decide +kernel
theorem e7_21 : decode cX7_variable 21 = .ok (.getfield 21, 3) := by decide +kernel
theorem e7_24 : decode cX7_variable 24 = .ok (.getfield 172, 3) := by decide +kernel
theorem e7_27 : decode cX7_variable 27 = .ok (.iload_n 1, 1) := by decide +kernel
theorem e7_28 : decode cX7_variable 28 = .ok (.iaload, 1) := by decide +kernel
theorem e7_29 : decode cX7_variable 29 = .ok (.ireturn, 1) := by decide +kernel
theorem w7_0 : am_all (xm_V9 (xm_G 7)) xm_l7_0 := ⟨Or.inr (Or.inl ⟨rfl, 1, e7_0, rfl, rfl, rfl, trivial, trivial⟩), Or.inr (Or.inl ⟨rfl, 1, e7_1, rfl, rfl, am_eq9 (by decide +kernel), trivial, trivial⟩), Or.inr (Or.inl ⟨rfl, 2, e7_2, rfl, rfl, am_eq9 (by decide +kernel), trivial, trivial⟩), Or.inr (Or.inl ⟨rfl, 3, e7_4, rfl, rfl, trivial, trivial, Or.inr ⟨by decide, okM_84, aw_280, Or.inl ⟨rfl, aw_379⟩⟩⟩), Or.inr (Or.inl ⟨rfl, 3, e7_7, rfl, rfl, rfl, trivial, trivial⟩), Or.inr (Or.inr (Or.inl ⟨rfl, 47, 170, 51, 7, "there is no such variable", "java/lang/RuntimeException", ["java/lang/Exception"], Bundle.six, rfl, ⟨e7_10, e7_13, e7_14, e7_16, e7_19⟩, ⟨by decide +kernel, by decide +kernel, by decide +kernel, by decide +kernel⟩, by decide +kernel, by decide +kernel, by decide +kernel, by decide, bw_679, bw_16, xh_1, List.mem_of_getElem? (i := 11) rfl⟩)), Or.inr (Or.inl ⟨rfl, 1, e7_20, rfl, rfl, rfl, trivial, trivial⟩), Or.inr (Or.inl ⟨rfl, 3, e7_21, rfl, rfl, trivial, ⟨RX7, TX7, 4, rfl, by decide, Or.inl aw_251⟩, trivial⟩), Or.inr (Or.inl ⟨rfl, 3, e7_24, rfl, rfl, trivial, ⟨RX1, TX1, 20, rfl, by decide, Or.inl bw_187⟩, trivial⟩), Or.inr (Or.inl ⟨rfl, 1, e7_27, rfl, rfl, rfl, trivial, trivial⟩), Or.inr (Or.inl ⟨rfl, 1, e7_28, rfl, rfl, trivial, trivial, trivial⟩), Or.inr (Or.inl ⟨rfl, 1, e7_29, rfl, rfl, trivial, trivial, trivial⟩), trivial⟩
theorem w7 : ∀ pc, xm_V9 (xm_G 7) pc ((xm_G 7).1.2.2.2.2.1 pc) := am_all_lc xm_V9_0 _ ⟨w7_0, trivial⟩
theorem e8_0 : decode cX7_at 0 = .ok (.iload_n 1, 1) := by decide +kernel
theorem e8_1 : decode cX7_at 1 = .ok (.iconst 0, 1) := by decide +kernel
theorem e8_2 : decode cX7_at 2 = .ok (.iconst 2, 1) := by decide +kernel
theorem e8_3 : decode cX7_at 3 = .ok (.invokestatic 52, 3) := by decide +kernel
theorem e8_6 : decode cX7_at 6 = .ok (.ifCond .ne 13, 3) := by decide +kernel
theorem e8_9 : decode cX7_at 9 = .ok (.new 47, 3) := by decide +kernel
theorem e8_12 : decode cX7_at 12 = .ok (.dup, 1) := by decide +kernel
theorem e8_13 : decode cX7_at 13 = .ok (.ldc 175, 2) := by decide +kernel
theorem e8_15 : decode cX7_at 15 = .ok (.invokespecial 51, 3) := by decide +kernel
theorem e8_18 : decode cX7_at 18 = .ok (.athrow, 1) := by decide +kernel
theorem e8_19 : decode cX7_at 19 = .ok (.aload_n 0, 1) := by decide +kernel
theorem e8_20 : decode cX7_at 20 = .ok (.getfield 21, 3) := by decide +kernel
theorem e8_23 : decode cX7_at 23 = .ok (.getfield 177, 3) := by decide +kernel
theorem e8_26 : decode cX7_at 26 = .ok (.iload_n 1, 1) := by decide +kernel
theorem e8_27 : decode cX7_at 27 = .ok (.iaload, 1) := by decide +kernel
theorem e8_28 : decode cX7_at 28 = .ok (.ireturn, 1) := by decide +kernel
theorem w8_0 : am_all (xm_V9 (xm_G 8)) xm_l8_0 := ⟨Or.inr (Or.inl ⟨rfl, 1, e8_0, rfl, rfl, rfl, trivial, trivial⟩), Or.inr (Or.inl ⟨rfl, 1, e8_1, rfl, rfl, am_eq9 (by decide +kernel), trivial, trivial⟩), Or.inr (Or.inl ⟨rfl, 1, e8_2, rfl, rfl, am_eq9 (by decide +kernel), trivial, trivial⟩), Or.inr (Or.inl ⟨rfl, 3, e8_3, rfl, rfl, trivial, trivial, Or.inr ⟨by decide, okM_84, aw_280, Or.inl ⟨rfl, aw_379⟩⟩⟩), Or.inr (Or.inl ⟨rfl, 3, e8_6, rfl, rfl, rfl, trivial, trivial⟩), Or.inr (Or.inr (Or.inl ⟨rfl, 47, 175, 51, 7, "there is no such axis", "java/lang/RuntimeException", ["java/lang/Exception"], Bundle.six, rfl, ⟨e8_9, e8_12, e8_13, e8_15, e8_18⟩, ⟨by decide +kernel, by decide +kernel, by decide +kernel, by decide +kernel⟩, by decide +kernel, by decide +kernel, by decide +kernel, by decide, bw_679, bw_16, xh_1, List.mem_of_getElem? (i := 12) rfl⟩)), Or.inr (Or.inl ⟨rfl, 1, e8_19, rfl, rfl, rfl, trivial, trivial⟩), Or.inr (Or.inl ⟨rfl, 3, e8_20, rfl, rfl, trivial, ⟨RX7, TX7, 4, rfl, by decide, Or.inl aw_251⟩, trivial⟩), Or.inr (Or.inl ⟨rfl, 3, e8_23, rfl, rfl, trivial, ⟨RX1, TX1, 20, rfl, by decide, Or.inl bw_189⟩, trivial⟩), Or.inr (Or.inl ⟨rfl, 1, e8_26, rfl, rfl, rfl, trivial, trivial⟩), Or.inr (Or.inl ⟨rfl, 1, e8_27, rfl, rfl, trivial, trivial, trivial⟩), Or.inr (Or.inl ⟨rfl, 1, e8_28, rfl, rfl, trivial, trivial, trivial⟩), trivial⟩
theorem w8 : ∀ pc, xm_V9 (xm_G 8) pc ((xm_G 8).1.2.2.2.2.1 pc) := am_all_lc xm_V9_0 _ ⟨w8_0, trivial⟩
theorem e9_0 : decode cX7_used 0 = .ok (.iload_n 1, 1) := by decide +kernel
theorem e9_1 : decode cX7_used 1 = .ok (.iload_n 2, 1) := by decide +kernel
theorem e9_2 : decode cX7_used 2 = .ok (.invokestatic 32, 3) := by decide +kernel
theorem e9_5 : decode cX7_used 5 = .ok (.ifCond .ne 13, 3) := by decide +kernel
theorem e9_8 : decode cX7_used 8 = .ok (.new 36, 3) := by decide +kernel
theorem e9_11 : decode cX7_used 11 = .ok (.dup, 1) := by decide +kernel
theorem e9_12 : decode cX7_used 12 = .ok (.ldc 38, 2) := by decide +kernel
theorem e9_14 : decode cX7_used 14 = .ok (.invokespecial 40, 3) := by decide +kernel
theorem e9_17 : decode cX7_used 17 = .ok (.athrow, 1) := by decide +kernel
theorem e9_18 : decode cX7_used 18 = .ok (.iload_n 1, 1) := by decide +kernel
theorem e9_19 : decode cX7_used 19 = .ok (.iload_n 2, 1) := by decide +kernel
theorem e9_20 : decode cX7_used 20 = .ok (.invokestatic 71, 3) := by decide +kernel
theorem e9_23 : decode cX7_used 23 = .ok (.istore_n 3, 1) := by decide +kernel
theorem e9_24 : decode cX7_used 24 = .ok (.aload_n 0, 1) := by decide +kernel
theorem e9_25 : decode cX7_used 25 = .ok (.getfield 12, 3) := by decide +kernel
theorem e9_28 : decode cX7_used 28 = .ok (.getfield 67, 3) := by decide +kernel
theorem e9_31 : decode cX7_used 31 = .ok (.iload_n 3, 1) := by decide +kernel
theorem e9_32 : decode cX7_used 32 = .ok (.invokevirtual 183, 3) := by decide +kernel
theorem e9_35 : decode cX7_used 35 = .ok (.ifCond .ne 13, 3) := by decide +kernel
theorem e9_38 : decode cX7_used 38 = .ok (.new 186, 3) := by decide +kernel
theorem e9_41 : decode cX7_used 41 = .ok (.dup, 1) := by decide +kernel
theorem e9_42 : decode cX7_used 42 = .ok (.ldc 188, 2) := by decide +kernel
theorem e9_44 : decode cX7_used 44 = .ok (.invokespecial 190, 3) := by decide +kernel
theorem e9_47 : decode cX7_used 47 = .ok (.athrow, 1) := by decide +kernel
theorem e9_48 : decode cX7_used 48 = .ok (.aload_n 0, 1) := by decide +kernel
theorem e9_49 : decode cX7_used 49 = .ok (.getfield 21, 3) := by decide +kernel
theorem e9_52 : decode cX7_used 52 = .ok (.getfield 191, 3) := by decide +kernel
theorem e9_55 : decode cX7_used 55 = .ok (.iload_n 3, 1) := by decide +kernel
theorem e9_56 : decode cX7_used 56 = .ok (.iaload, 1) := by decide +kernel
theorem e9_57 : decode cX7_used 57 = .ok (.ireturn, 1) := by decide +kernel
theorem w9_0 : am_all (xm_V9 (xm_G 9)) xm_l9_0 := ⟨Or.inr (Or.inl ⟨rfl, 1, e9_0, rfl, rfl, rfl, trivial, trivial⟩), Or.inr (Or.inl ⟨rfl, 1, e9_1, rfl, rfl, rfl, trivial, trivial⟩), Or.inr (Or.inl ⟨rfl, 3, e9_2, rfl, rfl, trivial, trivial, Or.inr ⟨by decide, okM_87, aw_377, Or.inl ⟨rfl, bw_662⟩⟩⟩), Or.inr (Or.inl ⟨rfl, 3, e9_5, rfl, rfl, rfl, trivial, trivial⟩), Or.inr (Or.inr (Or.inl ⟨rfl, 36, 38, 40, 7, "there is no such rack or place", "java/lang/RuntimeException", ["java/lang/Exception"], Bundle.six, rfl, ⟨e9_8, e9_11, e9_12, e9_14, e9_17⟩, ⟨by decide +kernel, by decide +kernel, by decide +kernel, by decide +kernel⟩, by decide +kernel, by decide +kernel, by decide +kernel, by decide, bw_663, bw_13, xh_0, List.mem_of_getElem? (i := 1) rfl⟩)), Or.inr (Or.inl ⟨rfl, 1, e9_18, rfl, rfl, rfl, trivial, trivial⟩), Or.inr (Or.inl ⟨rfl, 1, e9_19, rfl, rfl, rfl, trivial, trivial⟩), Or.inr (Or.inl ⟨rfl, 3, e9_20, rfl, rfl, trivial, trivial, Or.inr ⟨by decide, okM_88, aw_381, Or.inl ⟨rfl, bw_715⟩⟩⟩), Or.inr (Or.inl ⟨rfl, 1, e9_23, rfl, rfl, rfl, trivial, trivial⟩), Or.inr (Or.inl ⟨rfl, 1, e9_24, rfl, rfl, rfl, trivial, trivial⟩), Or.inr (Or.inl ⟨rfl, 3, e9_25, rfl, rfl, trivial, ⟨RX7, TX7, 4, rfl, by decide, Or.inl aw_250⟩, trivial⟩), Or.inr (Or.inl ⟨rfl, 3, e9_28, rfl, rfl, trivial, ⟨RX2, TX2, 4, rfl, by decide, Or.inl bw_102⟩, trivial⟩), Or.inr (Or.inl ⟨rfl, 1, e9_31, rfl, rfl, rfl, trivial, trivial⟩), Or.inr (Or.inl ⟨rfl, 3, e9_32, rfl, rfl, trivial, trivial, ⟨by decide, ⟨_, TX5, 3, rfl, okM_58, rfl⟩, bw_850, aw_384, aw_385⟩⟩), Or.inr (Or.inl ⟨rfl, 3, e9_35, rfl, rfl, rfl, trivial, trivial⟩), Or.inr (Or.inr (Or.inl ⟨rfl, 186, 188, 190, 13, "no cutter is there", "java/lang/RuntimeException", ["java/lang/Exception"], prog_29_method_4_code, rfl, ⟨e9_38, e9_41, e9_42, e9_44, e9_47⟩, ⟨by decide +kernel, by decide +kernel, by decide +kernel, by decide +kernel⟩, by decide +kernel, by decide +kernel, by decide +kernel, by decide, bw_851, bw_22, xh_4, List.mem_of_getElem? (i := 13) rfl⟩)), Or.inr (Or.inl ⟨rfl, 1, e9_48, rfl, rfl, rfl, trivial, trivial⟩), Or.inr (Or.inl ⟨rfl, 3, e9_49, rfl, rfl, trivial, ⟨RX7, TX7, 4, rfl, by decide, Or.inl aw_251⟩, trivial⟩), Or.inr (Or.inl ⟨rfl, 3, e9_52, rfl, rfl, trivial, ⟨RX1, TX1, 20, rfl, by decide, Or.inl bw_185⟩, trivial⟩), Or.inr (Or.inl ⟨rfl, 1, e9_55, rfl, rfl, rfl, trivial, trivial⟩), Or.inr (Or.inl ⟨rfl, 1, e9_56, rfl, rfl, trivial, trivial, trivial⟩), Or.inr (Or.inl ⟨rfl, 1, e9_57, rfl, rfl, trivial, trivial, trivial⟩), trivial⟩
theorem w9 : ∀ pc, xm_V9 (xm_G 9) pc ((xm_G 9).1.2.2.2.2.1 pc) := am_all_lc xm_V9_0 _ ⟨w9_0, trivial⟩
theorem e10_0 : decode cX7_has 0 = .ok (.iload_n 1, 1) := by decide +kernel
theorem e10_1 : decode cX7_has 1 = .ok (.iload_n 2, 1) := by decide +kernel
theorem e10_2 : decode cX7_has 2 = .ok (.iload_n 3, 1) := by decide +kernel
theorem e10_3 : decode cX7_has 3 = .ok (.invokestatic 87, 3) := by decide +kernel
theorem e10_6 : decode cX7_has 6 = .ok (.aload_n 0, 1) := by decide +kernel
theorem e10_7 : decode cX7_has 7 = .ok (.getfield 21, 3) := by decide +kernel
theorem e10_10 : decode cX7_has 10 = .ok (.getfield 194, 3) := by decide +kernel
theorem e10_13 : decode cX7_has 13 = .ok (.iload_n 1, 1) := by decide +kernel
theorem e10_14 : decode cX7_has 14 = .ok (.iload_n 2, 1) := by decide +kernel
theorem e10_15 : decode cX7_has 15 = .ok (.iload_n 3, 1) := by decide +kernel
theorem e10_16 : decode cX7_has 16 = .ok (.invokevirtual 95, 3) := by decide +kernel
theorem e10_19 : decode cX7_has 19 = .ok (.ireturn, 1) := by decide +kernel
theorem w10_0 : am_all (xm_V9 (xm_G 10)) xm_l10_0 := ⟨Or.inr (Or.inl ⟨rfl, 1, e10_0, rfl, rfl, rfl, trivial, trivial⟩), Or.inr (Or.inl ⟨rfl, 1, e10_1, rfl, rfl, rfl, trivial, trivial⟩), Or.inr (Or.inl ⟨rfl, 1, e10_2, rfl, rfl, rfl, trivial, trivial⟩), Or.inr (Or.inr (Or.inr ⟨⟨87, e10_3, rfl, by decide, xkM_0, bw_733, bw_732⟩, fun q h => absurd h List.not_mem_nil⟩)), Or.inr (Or.inl ⟨rfl, 1, e10_6, rfl, rfl, rfl, trivial, trivial⟩), Or.inr (Or.inl ⟨rfl, 3, e10_7, rfl, rfl, trivial, ⟨RX7, TX7, 4, rfl, by decide, Or.inl aw_251⟩, trivial⟩), Or.inr (Or.inl ⟨rfl, 3, e10_10, rfl, rfl, trivial, ⟨RX1, TX1, 20, rfl, by decide, Or.inl aw_183⟩, trivial⟩), Or.inr (Or.inl ⟨rfl, 1, e10_13, rfl, rfl, rfl, trivial, trivial⟩), Or.inr (Or.inl ⟨rfl, 1, e10_14, rfl, rfl, rfl, trivial, trivial⟩), Or.inr (Or.inl ⟨rfl, 1, e10_15, rfl, rfl, rfl, trivial, trivial⟩), Or.inr (Or.inl ⟨rfl, 3, e10_16, rfl, rfl, trivial, trivial, ⟨by decide, ⟨_, TX0, 1, rfl, okM_2, rfl⟩, bw_739, bw_740, bw_741⟩⟩), Or.inr (Or.inl ⟨rfl, 1, e10_19, rfl, rfl, trivial, trivial, trivial⟩), trivial⟩
theorem w10 : ∀ pc, xm_V9 (xm_G 10) pc ((xm_G 10).1.2.2.2.2.1 pc) := am_all_lc xm_V9_0 _ ⟨w10_0, trivial⟩
theorem e11_0 : decode cX7_hasAnew 0 = .ok (.iload_n 1, 1) := by decide +kernel
theorem e11_1 : decode cX7_hasAnew 1 = .ok (.iload_n 2, 1) := by decide +kernel
theorem e11_2 : decode cX7_hasAnew 2 = .ok (.iload_n 3, 1) := by decide +kernel
theorem e11_3 : decode cX7_hasAnew 3 = .ok (.invokestatic 87, 3) := by decide +kernel
theorem e11_6 : decode cX7_hasAnew 6 = .ok (.aload_n 0, 1) := by decide +kernel
theorem e11_7 : decode cX7_hasAnew 7 = .ok (.getfield 25, 3) := by decide +kernel
theorem e11_10 : decode cX7_hasAnew 10 = .ok (.aload_n 0, 1) := by decide +kernel
theorem e11_11 : decode cX7_hasAnew 11 = .ok (.getfield 21, 3) := by decide +kernel
theorem e11_14 : decode cX7_hasAnew 14 = .ok (.getfield 164, 3) := by decide +kernel
theorem e11_17 : decode cX7_hasAnew 17 = .ok (.invokevirtual 197, 3) := by decide +kernel
theorem e11_20 : decode cX7_hasAnew 20 = .ok (.aload_n 0, 1) := by decide +kernel
theorem e11_21 : decode cX7_hasAnew 21 = .ok (.getfield 25, 3) := by decide +kernel
theorem e11_24 : decode cX7_hasAnew 24 = .ok (.getfield 194, 3) := by decide +kernel
theorem e11_27 : decode cX7_hasAnew 27 = .ok (.iload_n 1, 1) := by decide +kernel
theorem e11_28 : decode cX7_hasAnew 28 = .ok (.iload_n 2, 1) := by decide +kernel
theorem e11_29 : decode cX7_hasAnew 29 = .ok (.iload_n 3, 1) := by decide +kernel
theorem e11_30 : decode cX7_hasAnew 30 = .ok (.invokevirtual 95, 3) := by decide +kernel
theorem e11_33 : decode cX7_hasAnew 33 = .ok (.ireturn, 1) := by decide +kernel
theorem w11_0 : am_all (xm_V9 (xm_G 11)) xm_l11_0 := ⟨Or.inr (Or.inl ⟨rfl, 1, e11_0, rfl, rfl, rfl, trivial, trivial⟩), Or.inr (Or.inl ⟨rfl, 1, e11_1, rfl, rfl, rfl, trivial, trivial⟩), Or.inr (Or.inl ⟨rfl, 1, e11_2, rfl, rfl, rfl, trivial, trivial⟩), Or.inr (Or.inr (Or.inr ⟨⟨87, e11_3, rfl, by decide, xkM_0, bw_733, bw_732⟩, fun q h => absurd h List.not_mem_nil⟩)), Or.inr (Or.inl ⟨rfl, 1, e11_6, rfl, rfl, rfl, trivial, trivial⟩), Or.inr (Or.inl ⟨rfl, 3, e11_7, rfl, rfl, trivial, ⟨RX7, TX7, 4, rfl, by decide, Or.inl aw_252⟩, trivial⟩), Or.inr (Or.inl ⟨rfl, 1, e11_10, rfl, rfl, rfl, trivial, trivial⟩), Or.inr (Or.inl ⟨rfl, 3, e11_11, rfl, rfl, trivial, ⟨RX7, TX7, 4, rfl, by decide, Or.inl aw_251⟩, trivial⟩), Or.inr (Or.inl ⟨rfl, 3, e11_14, rfl, rfl, trivial, ⟨RX1, TX1, 20, rfl, by decide, Or.inl aw_196⟩, trivial⟩), Or.inr (Or.inl ⟨rfl, 3, e11_17, rfl, rfl, trivial, trivial, ⟨by decide, ⟨_, TX1, 20, rfl, okM_15, rfl⟩, aw_358, aw_359, aw_360⟩⟩), Or.inr (Or.inl ⟨rfl, 1, e11_20, rfl, rfl, rfl, trivial, trivial⟩), Or.inr (Or.inl ⟨rfl, 3, e11_21, rfl, rfl, trivial, ⟨RX7, TX7, 4, rfl, by decide, Or.inl aw_252⟩, trivial⟩), Or.inr (Or.inl ⟨rfl, 3, e11_24, rfl, rfl, trivial, ⟨RX1, TX1, 20, rfl, by decide, Or.inl aw_183⟩, trivial⟩), Or.inr (Or.inl ⟨rfl, 1, e11_27, rfl, rfl, rfl, trivial, trivial⟩), Or.inr (Or.inl ⟨rfl, 1, e11_28, rfl, rfl, rfl, trivial, trivial⟩), Or.inr (Or.inl ⟨rfl, 1, e11_29, rfl, rfl, rfl, trivial, trivial⟩), Or.inr (Or.inl ⟨rfl, 3, e11_30, rfl, rfl, trivial, trivial, ⟨by decide, ⟨_, TX0, 1, rfl, okM_2, rfl⟩, bw_739, bw_740, bw_741⟩⟩), Or.inr (Or.inl ⟨rfl, 1, e11_33, rfl, rfl, trivial, trivial, trivial⟩), trivial⟩
theorem w11 : ∀ pc, xm_V9 (xm_G 11) pc ((xm_G 11).1.2.2.2.2.1 pc) := am_all_lc xm_V9_0 _ ⟨w11_0, trivial⟩
theorem e12_0 : decode cX7_height 0 = .ok (.iload_n 1, 1) := by decide +kernel
theorem e12_1 : decode cX7_height 1 = .ok (.iload_n 2, 1) := by decide +kernel
theorem e12_2 : decode cX7_height 2 = .ok (.iconst 0, 1) := by decide +kernel
theorem e12_3 : decode cX7_height 3 = .ok (.invokestatic 87, 3) := by decide +kernel
theorem e12_6 : decode cX7_height 6 = .ok (.iconst 5, 1) := by decide +kernel
theorem e12_7 : decode cX7_height 7 = .ok (.istore_n 3, 1) := by decide +kernel
theorem e12_8 : decode cX7_height 8 = .ok (.iload_n 3, 1) := by decide +kernel
theorem e12_9 : decode cX7_height 9 = .ok (.ifCond .lt 29, 3) := by decide +kernel
theorem e12_12 : decode cX7_height 12 = .ok (.aload_n 0, 1) := by decide +kernel
theorem e12_13 : decode cX7_height 13 = .ok (.getfield 21, 3) := by decide +kernel
theorem e12_16 : decode cX7_height 16 = .ok (.getfield 194, 3) := by decide +kernel
theorem e12_19 : decode cX7_height 19 = .ok (.iload_n 1, 1) := by decide +kernel
theorem e12_20 : decode cX7_height 20 = .ok (.iload_n 2, 1) := by decide +kernel
theorem e12_21 : decode cX7_height 21 = .ok (.iload_n 3, 1) := by decide +kernel
theorem e12_22 : decode cX7_height 22 = .ok (.invokevirtual 95, 3) := by decide +kernel
theorem e12_25 : decode cX7_height 25 = .ok (.ifCond .eq 7, 3) := by decide +kernel
theorem e12_28 : decode cX7_height 28 = .ok (.iload_n 3, 1) := by decide +kernel
theorem e12_29 : decode cX7_height 29 = .ok (.iconst 1, 1) := by decide +kernel
theorem e12_30 : decode cX7_height 30 = .ok (.iadd, 1) := by decide +kernel
theorem e12_31 : decode cX7_height 31 = .ok (.ireturn, 1) := by decide +kernel
theorem e12_32 : decode cX7_height 32 = .ok (.iinc 3 (-1), 3) := by decide +kernel
theorem e12_35 : decode cX7_height 35 = .ok (.goto (-27), 3) := by decide +kernel
theorem e12_38 : decode cX7_height 38 = .ok (.iconst 0, 1) := by decide +kernel
theorem e12_39 : decode cX7_height 39 = .ok (.ireturn, 1) := by decide +kernel
theorem w12_0 : am_all (xm_V9 (xm_G 12)) xm_l12_0 := ⟨Or.inr (Or.inl ⟨rfl, 1, e12_0, rfl, rfl, rfl, trivial, trivial⟩), Or.inr (Or.inl ⟨rfl, 1, e12_1, rfl, rfl, rfl, trivial, trivial⟩), Or.inr (Or.inl ⟨rfl, 1, e12_2, rfl, rfl, am_eq9 (by decide +kernel), trivial, trivial⟩), Or.inr (Or.inr (Or.inr ⟨⟨87, e12_3, rfl, by decide, xkM_0, bw_733, bw_732⟩, fun q h => absurd h List.not_mem_nil⟩)), Or.inr (Or.inl ⟨rfl, 1, e12_6, rfl, rfl, am_eq9 (by decide +kernel), trivial, trivial⟩), Or.inr (Or.inl ⟨rfl, 1, e12_7, rfl, rfl, rfl, trivial, trivial⟩), Or.inr (Or.inl ⟨rfl, 1, e12_8, rfl, rfl, rfl, trivial, trivial⟩), Or.inr (Or.inl ⟨rfl, 3, e12_9, rfl, rfl, rfl, trivial, trivial⟩), Or.inr (Or.inl ⟨rfl, 1, e12_12, rfl, rfl, rfl, trivial, trivial⟩), Or.inr (Or.inl ⟨rfl, 3, e12_13, rfl, rfl, trivial, ⟨RX7, TX7, 4, rfl, by decide, Or.inl aw_251⟩, trivial⟩), Or.inr (Or.inl ⟨rfl, 3, e12_16, rfl, rfl, trivial, ⟨RX1, TX1, 20, rfl, by decide, Or.inl aw_183⟩, trivial⟩), Or.inr (Or.inl ⟨rfl, 1, e12_19, rfl, rfl, rfl, trivial, trivial⟩), Or.inr (Or.inl ⟨rfl, 1, e12_20, rfl, rfl, rfl, trivial, trivial⟩), Or.inr (Or.inl ⟨rfl, 1, e12_21, rfl, rfl, rfl, trivial, trivial⟩), Or.inr (Or.inl ⟨rfl, 3, e12_22, rfl, rfl, trivial, trivial, ⟨by decide, ⟨_, TX0, 1, rfl, okM_2, rfl⟩, bw_739, bw_740, bw_741⟩⟩), Or.inr (Or.inl ⟨rfl, 3, e12_25, rfl, rfl, rfl, trivial, trivial⟩), Or.inr (Or.inl ⟨rfl, 1, e12_28, rfl, rfl, rfl, trivial, trivial⟩), Or.inr (Or.inl ⟨rfl, 1, e12_29, rfl, rfl, am_eq9 (by decide +kernel), trivial, trivial⟩), Or.inr (Or.inl ⟨rfl, 1, e12_30, rfl, rfl, trivial, trivial, trivial⟩), Or.inr (Or.inl ⟨rfl, 1, e12_31, rfl, rfl, trivial, trivial, trivial⟩), Or.inr (Or.inl ⟨rfl, 3, e12_32, rfl, rfl, ⟨rfl, by decide⟩, trivial, trivial⟩), Or.inr (Or.inl ⟨rfl, 3, e12_35, rfl, rfl, rfl, trivial, trivial⟩), Or.inr (Or.inl ⟨rfl, 1, e12_38, rfl, rfl, am_eq9 (by decide +kernel), trivial, trivial⟩), Or.inr (Or.inl ⟨rfl, 1, e12_39, rfl, rfl, trivial, trivial, trivial⟩), trivial⟩
theorem w12 : ∀ pc, xm_V9 (xm_G 12) pc ((xm_G 12).1.2.2.2.2.1 pc) := am_all_lc xm_V9_0 _ ⟨w12_0, trivial⟩
theorem e13_0 : decode cX7_meanUse 0 = .ok (.aload_n 0, 1) := by decide +kernel
theorem e13_1 : decode cX7_meanUse 1 = .ok (.getfield 12, 3) := by decide +kernel
theorem e13_4 : decode cX7_meanUse 4 = .ok (.getfield 67, 3) := by decide +kernel
theorem e13_7 : decode cX7_meanUse 7 = .ok (.iconst 0, 1) := by decide +kernel
theorem e13_8 : decode cX7_meanUse 8 = .ok (.bipush 12, 2) := by decide +kernel
theorem e13_10 : decode cX7_meanUse 10 = .ok (.invokevirtual 84, 3) := by decide +kernel
theorem e13_13 : decode cX7_meanUse 13 = .ok (.istore_n 1, 1) := by decide +kernel
theorem e13_14 : decode cX7_meanUse 14 = .ok (.iload_n 1, 1) := by decide +kernel
theorem e13_15 : decode cX7_meanUse 15 = .ok (.ifCond .ne 13, 3) := by decide +kernel
theorem e13_18 : decode cX7_meanUse 18 = .ok (.new 216, 3) := by decide +kernel
theorem e13_21 : decode cX7_meanUse 21 = .ok (.dup, 1) := by decide +kernel
theorem e13_22 : decode cX7_meanUse 22 = .ok (.ldc 218, 2) := by decide +kernel
theorem e13_24 : decode cX7_meanUse 24 = .ok (.invokespecial 220, 3) := by decide +kernel
theorem e13_27 : decode cX7_meanUse 27 = .ok (.athrow, 1) := by decide +kernel
theorem e13_28 : decode cX7_meanUse 28 = .ok (.aload_n 0, 1) := by decide +kernel
theorem e13_29 : decode cX7_meanUse 29 = .ok (.getfield 21, 3) := by decide +kernel
theorem e13_32 : decode cX7_meanUse 32 = .ok (.invokevirtual 221, 3) := by decide +kernel
theorem e13_35 : decode cX7_meanUse 35 = .ok (.i2d, 1) := by decide +kernel
theorem e13_36 : decode cX7_meanUse 36 = .ok (.iload_n 1, 1) := by decide +kernel
theorem e13_37 : decode cX7_meanUse 37 = .ok (.i2d, 1) := by decide +kernel
theorem e13_38 : decode cX7_meanUse 38 = .ok (.ddiv, 1) := by decide +kernel
theorem e13_39 : decode cX7_meanUse 39 = .ok (.dreturn, 1) := by decide +kernel
theorem w13_0 : am_all (xm_V9 (xm_G 13)) xm_l13_0 := ⟨Or.inr (Or.inl ⟨rfl, 1, e13_0, rfl, rfl, rfl, trivial, trivial⟩), Or.inr (Or.inl ⟨rfl, 3, e13_1, rfl, rfl, trivial, ⟨RX7, TX7, 4, rfl, by decide, Or.inl aw_250⟩, trivial⟩), Or.inr (Or.inl ⟨rfl, 3, e13_4, rfl, rfl, trivial, ⟨RX2, TX2, 4, rfl, by decide, Or.inl bw_102⟩, trivial⟩), Or.inr (Or.inl ⟨rfl, 1, e13_7, rfl, rfl, am_eq9 (by decide +kernel), trivial, trivial⟩), Or.inr (Or.inl ⟨rfl, 2, e13_8, rfl, rfl, am_eq9 (by decide +kernel), trivial, trivial⟩), Or.inr (Or.inl ⟨rfl, 3, e13_10, rfl, rfl, trivial, trivial, ⟨by decide, ⟨_, TX5, 3, rfl, okM_59, rfl⟩, bw_720, bw_721, bw_722⟩⟩), Or.inr (Or.inl ⟨rfl, 1, e13_13, rfl, rfl, rfl, trivial, trivial⟩), Or.inr (Or.inl ⟨rfl, 1, e13_14, rfl, rfl, rfl, trivial, trivial⟩), Or.inr (Or.inl ⟨rfl, 3, e13_15, rfl, rfl, rfl, trivial, trivial⟩), Or.inr (Or.inr (Or.inl ⟨rfl, 216, 218, 220, 7, "there are no cutters", "java/lang/RuntimeException", ["java/lang/Exception"], Bundle.six, rfl, ⟨e13_18, e13_21, e13_22, e13_24, e13_27⟩, ⟨by decide +kernel, by decide +kernel, by decide +kernel, by decide +kernel⟩, by decide +kernel, by decide +kernel, by decide +kernel, by decide, bw_909, bw_24, xh_5, List.mem_of_getElem? (i := 14) rfl⟩)), Or.inr (Or.inl ⟨rfl, 1, e13_28, rfl, rfl, rfl, trivial, trivial⟩), Or.inr (Or.inl ⟨rfl, 3, e13_29, rfl, rfl, trivial, ⟨RX7, TX7, 4, rfl, by decide, Or.inl aw_251⟩, trivial⟩), Or.inr (Or.inl ⟨rfl, 3, e13_32, rfl, rfl, trivial, trivial, ⟨by decide, ⟨_, TX1, 20, rfl, okM_14, rfl⟩, aw_568, aw_569, aw_570⟩⟩), Or.inr (Or.inl ⟨rfl, 1, e13_35, rfl, rfl, trivial, trivial, trivial⟩), Or.inr (Or.inl ⟨rfl, 1, e13_36, rfl, rfl, rfl, trivial, trivial⟩), Or.inr (Or.inl ⟨rfl, 1, e13_37, rfl, rfl, trivial, trivial, trivial⟩), Or.inr (Or.inl ⟨rfl, 1, e13_38, rfl, rfl, trivial, trivial, trivial⟩), Or.inr (Or.inl ⟨rfl, 1, e13_39, rfl, rfl, trivial, trivial, trivial⟩), trivial⟩
theorem w13 : ∀ pc, xm_V9 (xm_G 13) pc ((xm_G 13).1.2.2.2.2.1 pc) := am_all_lc xm_V9_0 _ ⟨w13_0, trivial⟩
theorem e14_0 : decode cL_putCutter 0 = .ok (.aload 6, 2) := by decide +kernel
theorem e14_2 : decode cL_putCutter 2 = .ok (.iconst 0, 1) := by decide +kernel
theorem e14_3 : decode cL_putCutter 3 = .ok (.aload_n 0, 1) := by decide +kernel
theorem e14_4 : decode cL_putCutter 4 = .ok (.iload_n 1, 1) := by decide +kernel
theorem e14_5 : decode cL_putCutter 5 = .ok (.iload_n 2, 1) := by decide +kernel
theorem e14_6 : decode cL_putCutter 6 = .ok (.iload_n 3, 1) := by decide +kernel
theorem e14_7 : decode cL_putCutter 7 = .ok (.iload 4, 2) := by decide +kernel
theorem e14_9 : decode cL_putCutter 9 = .ok (.iload 5, 2) := by decide +kernel
theorem e14_11 : decode cL_putCutter 11 = .ok (.invokevirtual 7, 3) := by decide +kernel
theorem e14_14 : decode cL_putCutter 14 = .ok (.i2l, 1) := by decide +kernel
theorem e14_15 : decode cL_putCutter 15 = .ok (.lastore, 1) := by decide +kernel
theorem e14_16 : decode cL_putCutter 16 = .ok (.goto 15, 3) := by decide +kernel
theorem e14_19 : decode cL_putCutter 19 = .ok (.astore 7, 2) := by decide +kernel
theorem e14_21 : decode cL_putCutter 21 = .ok (.iconst 1, 1) := by decide +kernel
theorem e14_22 : decode cL_putCutter 22 = .ok (.ireturn, 1) := by decide +kernel
theorem e14_23 : decode cL_putCutter 23 = .ok (.astore 7, 2) := by decide +kernel
theorem e14_25 : decode cL_putCutter 25 = .ok (.iconst 2, 1) := by decide +kernel
theorem e14_26 : decode cL_putCutter 26 = .ok (.ireturn, 1) := by decide +kernel
theorem e14_27 : decode cL_putCutter 27 = .ok (.astore 7, 2) := by decide +kernel
theorem e14_29 : decode cL_putCutter 29 = .ok (.iconst 3, 1) := by decide +kernel
theorem e14_30 : decode cL_putCutter 30 = .ok (.ireturn, 1) := by decide +kernel
theorem e14_31 : decode cL_putCutter 31 = .ok (.iconst 0, 1) := by decide +kernel
theorem e14_32 : decode cL_putCutter 32 = .ok (.ireturn, 1) := by decide +kernel
theorem w14_0 : am_all (xm_V9 (xm_G 14)) xm_l14_0 := ⟨Or.inr (Or.inl ⟨rfl, 2, e14_0, rfl, rfl, rfl, trivial, trivial⟩), Or.inr (Or.inl ⟨rfl, 1, e14_2, rfl, rfl, am_eq9 (by decide +kernel), trivial, trivial⟩), Or.inr (Or.inl ⟨rfl, 1, e14_3, rfl, rfl, rfl, trivial, trivial⟩), Or.inr (Or.inl ⟨rfl, 1, e14_4, rfl, rfl, rfl, trivial, trivial⟩), Or.inr (Or.inl ⟨rfl, 1, e14_5, rfl, rfl, rfl, trivial, trivial⟩), Or.inr (Or.inl ⟨rfl, 1, e14_6, rfl, rfl, rfl, trivial, trivial⟩), Or.inr (Or.inl ⟨rfl, 2, e14_7, rfl, rfl, rfl, trivial, trivial⟩), Or.inr (Or.inl ⟨rfl, 2, e14_9, rfl, rfl, rfl, trivial, trivial⟩), Or.inr (Or.inr (Or.inr ⟨⟨7, e14_11, rfl, by decide, ⟨_, TX7, 4, rfl, xkM_1, rfl⟩, rfl, bw_658, bw_659, bw_660⟩, List.forall_mem_cons.mpr ⟨⟨rfl, [], ⟨0, 16, 19, 13⟩, [⟨0, 16, 23, 15⟩, ⟨0, 16, 27, 17⟩], "java/lang/IndexOutOfBoundsException", rfl, fun z h => absurd h List.not_mem_nil, by decide, by decide, bw_576, List.mem_of_getElem? (i := 3) rfl, 7, 2, 1, by decide, Or.inl ⟨e14_19, rfl⟩, e14_21, by decide, e14_22⟩, List.forall_mem_cons.mpr ⟨⟨rfl, [⟨0, 16, 19, 13⟩], ⟨0, 16, 23, 15⟩, [⟨0, 16, 27, 17⟩], "java/lang/IllegalArgumentException", rfl, List.forall_mem_cons.mpr ⟨⟨by decide, "java/lang/IndexOutOfBoundsException", bw_576, List.mem_of_getElem? (i := 2) rfl⟩, fun z h => absurd h List.not_mem_nil⟩, by decide, by decide, bw_656, List.mem_of_getElem? (i := 4) rfl, 7, 2, 2, by decide, Or.inl ⟨e14_23, rfl⟩, e14_25, by decide, e14_26⟩, List.forall_mem_cons.mpr ⟨⟨rfl, [⟨0, 16, 19, 13⟩, ⟨0, 16, 23, 15⟩], ⟨0, 16, 27, 17⟩, [], "java/lang/UnsupportedOperationException", rfl, List.forall_mem_cons.mpr ⟨⟨by decide, "java/lang/IndexOutOfBoundsException", bw_576, List.mem_of_getElem? (i := 0) rfl⟩, List.forall_mem_cons.mpr ⟨⟨by decide, "java/lang/IllegalArgumentException", bw_656, List.mem_of_getElem? (i := 1) rfl⟩, fun z h => absurd h List.not_mem_nil⟩⟩, by decide, by decide, bw_657, List.mem_of_getElem? (i := 5) rfl, 7, 2, 3, by decide, Or.inl ⟨e14_27, rfl⟩, e14_29, by decide, e14_30⟩, fun q h => absurd h List.not_mem_nil⟩⟩⟩⟩)), Or.inr (Or.inl ⟨rfl, 1, e14_14, rfl, rfl, trivial, trivial, trivial⟩), Or.inr (Or.inl ⟨rfl, 1, e14_15, rfl, rfl, trivial, trivial, trivial⟩), Or.inr (Or.inl ⟨rfl, 3, e14_16, rfl, rfl, rfl, trivial, trivial⟩), Or.inr (Or.inl ⟨rfl, 1, e14_31, rfl, rfl, am_eq9 (by decide +kernel), trivial, trivial⟩), Or.inr (Or.inl ⟨rfl, 1, e14_32, rfl, rfl, trivial, trivial, trivial⟩), trivial⟩
theorem w14 : ∀ pc, xm_V9 (xm_G 14) pc ((xm_G 14).1.2.2.2.2.1 pc) := am_all_lc xm_V9_0 _ ⟨w14_0, trivial⟩
theorem e15_0 : decode cL_setFixture 0 = .ok (.aload 5, 2) := by decide +kernel
theorem e15_2 : decode cL_setFixture 2 = .ok (.iconst 0, 1) := by decide +kernel
theorem e15_3 : decode cL_setFixture 3 = .ok (.aload_n 0, 1) := by decide +kernel
theorem e15_4 : decode cL_setFixture 4 = .ok (.iload_n 1, 1) := by decide +kernel
theorem e15_5 : decode cL_setFixture 5 = .ok (.iload_n 2, 1) := by decide +kernel
theorem e15_6 : decode cL_setFixture 6 = .ok (.iload_n 3, 1) := by decide +kernel
theorem e15_7 : decode cL_setFixture 7 = .ok (.iload 4, 2) := by decide +kernel
theorem e15_9 : decode cL_setFixture 9 = .ok (.invokevirtual 19, 3) := by decide +kernel
theorem e15_12 : decode cL_setFixture 12 = .ok (.ifCond .eq 7, 3) := by decide +kernel
theorem e15_15 : decode cL_setFixture 15 = .ok (.lconst 1, 1) := by decide +kernel
theorem e15_16 : decode cL_setFixture 16 = .ok (.goto 4, 3) := by decide +kernel
theorem e15_19 : decode cL_setFixture 19 = .ok (.lconst 0, 1) := by decide +kernel
theorem e15_20 : decode cL_setFixture 20 = .ok (.lastore, 1) := by decide +kernel
theorem e15_21 : decode cL_setFixture 21 = .ok (.goto 7, 3) := by decide +kernel
theorem e15_24 : decode cL_setFixture 24 = .ok (.astore 6, 2) := by decide +kernel
theorem e15_26 : decode cL_setFixture 26 = .ok (.iconst 1, 1) := by decide +kernel
theorem e15_27 : decode cL_setFixture 27 = .ok (.ireturn, 1) := by decide +kernel
theorem e15_28 : decode cL_setFixture 28 = .ok (.iconst 0, 1) := by decide +kernel
theorem e15_29 : decode cL_setFixture 29 = .ok (.ireturn, 1) := by decide +kernel
theorem w15_0 : am_all (xm_V9 (xm_G 15)) xm_l15_0 := ⟨Or.inr (Or.inl ⟨rfl, 2, e15_0, rfl, rfl, rfl, trivial, trivial⟩), Or.inr (Or.inl ⟨rfl, 1, e15_2, rfl, rfl, am_eq9 (by decide +kernel), trivial, trivial⟩), Or.inr (Or.inl ⟨rfl, 1, e15_3, rfl, rfl, rfl, trivial, trivial⟩), Or.inr (Or.inl ⟨rfl, 1, e15_4, rfl, rfl, rfl, trivial, trivial⟩), Or.inr (Or.inl ⟨rfl, 1, e15_5, rfl, rfl, rfl, trivial, trivial⟩), Or.inr (Or.inl ⟨rfl, 1, e15_6, rfl, rfl, rfl, trivial, trivial⟩), Or.inr (Or.inl ⟨rfl, 2, e15_7, rfl, rfl, rfl, trivial, trivial⟩), Or.inr (Or.inr (Or.inr ⟨⟨19, e15_9, rfl, by decide, ⟨_, TX7, 4, rfl, xkM_2, rfl⟩, rfl, bw_728, bw_729, bw_730⟩, List.forall_mem_cons.mpr ⟨⟨rfl, [], ⟨0, 21, 24, 13⟩, [], "java/lang/IndexOutOfBoundsException", rfl, fun z h => absurd h List.not_mem_nil, by decide, by decide, bw_576, List.mem_of_getElem? (i := 3) rfl, 6, 2, 1, by decide, Or.inl ⟨e15_24, rfl⟩, e15_26, by decide, e15_27⟩, fun q h => absurd h List.not_mem_nil⟩⟩)), Or.inr (Or.inl ⟨rfl, 3, e15_12, rfl, rfl, rfl, trivial, trivial⟩), Or.inr (Or.inl ⟨rfl, 1, e15_15, rfl, rfl, rfl, trivial, trivial⟩), Or.inr (Or.inl ⟨rfl, 3, e15_16, rfl, rfl, rfl, trivial, trivial⟩), Or.inr (Or.inl ⟨rfl, 1, e15_19, rfl, rfl, rfl, trivial, trivial⟩), Or.inr (Or.inl ⟨rfl, 1, e15_20, rfl, rfl, trivial, trivial, trivial⟩), Or.inr (Or.inl ⟨rfl, 3, e15_21, rfl, rfl, rfl, trivial, trivial⟩), Or.inr (Or.inl ⟨rfl, 1, e15_28, rfl, rfl, am_eq9 (by decide +kernel), trivial, trivial⟩), Or.inr (Or.inl ⟨rfl, 1, e15_29, rfl, rfl, trivial, trivial, trivial⟩), trivial⟩
theorem w15 : ∀ pc, xm_V9 (xm_G 15) pc ((xm_G 15).1.2.2.2.2.1 pc) := am_all_lc xm_V9_0 _ ⟨w15_0, trivial⟩
theorem e16_0 : decode cL_setOffset 0 = .ok (.aload 5, 2) := by decide +kernel
theorem e16_2 : decode cL_setOffset 2 = .ok (.iconst 0, 1) := by decide +kernel
theorem e16_3 : decode cL_setOffset 3 = .ok (.aload_n 0, 1) := by decide +kernel
theorem e16_4 : decode cL_setOffset 4 = .ok (.iload_n 1, 1) := by decide +kernel
theorem e16_5 : decode cL_setOffset 5 = .ok (.iload_n 2, 1) := by decide +kernel
theorem e16_6 : decode cL_setOffset 6 = .ok (.iload_n 3, 1) := by decide +kernel
theorem e16_7 : decode cL_setOffset 7 = .ok (.iload 4, 2) := by decide +kernel
theorem e16_9 : decode cL_setOffset 9 = .ok (.invokevirtual 23, 3) := by decide +kernel
theorem e16_12 : decode cL_setOffset 12 = .ok (.i2l, 1) := by decide +kernel
theorem e16_13 : decode cL_setOffset 13 = .ok (.lastore, 1) := by decide +kernel
theorem e16_14 : decode cL_setOffset 14 = .ok (.goto 7, 3) := by decide +kernel
theorem e16_17 : decode cL_setOffset 17 = .ok (.astore 6, 2) := by decide +kernel
theorem e16_19 : decode cL_setOffset 19 = .ok (.iconst 1, 1) := by decide +kernel
theorem e16_20 : decode cL_setOffset 20 = .ok (.ireturn, 1) := by decide +kernel
theorem e16_21 : decode cL_setOffset 21 = .ok (.iconst 0, 1) := by decide +kernel
theorem e16_22 : decode cL_setOffset 22 = .ok (.ireturn, 1) := by decide +kernel
theorem w16_0 : am_all (xm_V9 (xm_G 16)) xm_l16_0 := ⟨Or.inr (Or.inl ⟨rfl, 2, e16_0, rfl, rfl, rfl, trivial, trivial⟩), Or.inr (Or.inl ⟨rfl, 1, e16_2, rfl, rfl, am_eq9 (by decide +kernel), trivial, trivial⟩), Or.inr (Or.inl ⟨rfl, 1, e16_3, rfl, rfl, rfl, trivial, trivial⟩), Or.inr (Or.inl ⟨rfl, 1, e16_4, rfl, rfl, rfl, trivial, trivial⟩), Or.inr (Or.inl ⟨rfl, 1, e16_5, rfl, rfl, rfl, trivial, trivial⟩), Or.inr (Or.inl ⟨rfl, 1, e16_6, rfl, rfl, rfl, trivial, trivial⟩), Or.inr (Or.inl ⟨rfl, 2, e16_7, rfl, rfl, rfl, trivial, trivial⟩), Or.inr (Or.inr (Or.inr ⟨⟨23, e16_9, rfl, by decide, ⟨_, TX7, 4, rfl, xkM_3, rfl⟩, rfl, bw_751, bw_752, bw_753⟩, List.forall_mem_cons.mpr ⟨⟨rfl, [], ⟨0, 14, 17, 15⟩, [], "java/lang/IllegalArgumentException", rfl, fun z h => absurd h List.not_mem_nil, by decide, by decide, bw_656, List.mem_of_getElem? (i := 4) rfl, 6, 2, 1, by decide, Or.inl ⟨e16_17, rfl⟩, e16_19, by decide, e16_20⟩, fun q h => absurd h List.not_mem_nil⟩⟩)), Or.inr (Or.inl ⟨rfl, 1, e16_12, rfl, rfl, trivial, trivial, trivial⟩), Or.inr (Or.inl ⟨rfl, 1, e16_13, rfl, rfl, trivial, trivial, trivial⟩), Or.inr (Or.inl ⟨rfl, 3, e16_14, rfl, rfl, rfl, trivial, trivial⟩), Or.inr (Or.inl ⟨rfl, 1, e16_21, rfl, rfl, am_eq9 (by decide +kernel), trivial, trivial⟩), Or.inr (Or.inl ⟨rfl, 1, e16_22, rfl, rfl, trivial, trivial, trivial⟩), trivial⟩
theorem w16 : ∀ pc, xm_V9 (xm_G 16) pc ((xm_G 16).1.2.2.2.2.1 pc) := am_all_lc xm_V9_0 _ ⟨w16_0, trivial⟩
theorem e17_0 : decode cL_addBlock 0 = .ok (.aload 5, 2) := by decide +kernel
theorem e17_2 : decode cL_addBlock 2 = .ok (.iconst 0, 1) := by decide +kernel
theorem e17_3 : decode cL_addBlock 3 = .ok (.aload_n 0, 1) := by decide +kernel
theorem e17_4 : decode cL_addBlock 4 = .ok (.iload_n 1, 1) := by decide +kernel
theorem e17_5 : decode cL_addBlock 5 = .ok (.iload_n 2, 1) := by decide +kernel
theorem e17_6 : decode cL_addBlock 6 = .ok (.iload_n 3, 1) := by decide +kernel
theorem e17_7 : decode cL_addBlock 7 = .ok (.iload 4, 2) := by decide +kernel
theorem e17_9 : decode cL_addBlock 9 = .ok (.invokevirtual 27, 3) := by decide +kernel
theorem e17_12 : decode cL_addBlock 12 = .ok (.i2l, 1) := by decide +kernel
theorem e17_13 : decode cL_addBlock 13 = .ok (.lastore, 1) := by decide +kernel
theorem e17_14 : decode cL_addBlock 14 = .ok (.goto 11, 3) := by decide +kernel
theorem e17_17 : decode cL_addBlock 17 = .ok (.astore 6, 2) := by decide +kernel
theorem e17_19 : decode cL_addBlock 19 = .ok (.iconst 1, 1) := by decide +kernel
theorem e17_20 : decode cL_addBlock 20 = .ok (.ireturn, 1) := by decide +kernel
theorem e17_21 : decode cL_addBlock 21 = .ok (.astore 6, 2) := by decide +kernel
theorem e17_23 : decode cL_addBlock 23 = .ok (.iconst 2, 1) := by decide +kernel
theorem e17_24 : decode cL_addBlock 24 = .ok (.ireturn, 1) := by decide +kernel
theorem e17_25 : decode cL_addBlock 25 = .ok (.iconst 0, 1) := by decide +kernel
theorem e17_26 : decode cL_addBlock 26 = .ok (.ireturn, 1) := by decide +kernel
theorem w17_0 : am_all (xm_V9 (xm_G 17)) xm_l17_0 := ⟨Or.inr (Or.inl ⟨rfl, 2, e17_0, rfl, rfl, rfl, trivial, trivial⟩), Or.inr (Or.inl ⟨rfl, 1, e17_2, rfl, rfl, am_eq9 (by decide +kernel), trivial, trivial⟩), Or.inr (Or.inl ⟨rfl, 1, e17_3, rfl, rfl, rfl, trivial, trivial⟩), Or.inr (Or.inl ⟨rfl, 1, e17_4, rfl, rfl, rfl, trivial, trivial⟩), Or.inr (Or.inl ⟨rfl, 1, e17_5, rfl, rfl, rfl, trivial, trivial⟩), Or.inr (Or.inl ⟨rfl, 1, e17_6, rfl, rfl, rfl, trivial, trivial⟩), Or.inr (Or.inl ⟨rfl, 2, e17_7, rfl, rfl, rfl, trivial, trivial⟩), Or.inr (Or.inr (Or.inr ⟨⟨27, e17_9, rfl, by decide, ⟨_, TX7, 4, rfl, xkM_4, rfl⟩, rfl, bw_763, bw_764, bw_765⟩, List.forall_mem_cons.mpr ⟨⟨rfl, [], ⟨0, 14, 17, 15⟩, [⟨0, 14, 21, 31⟩], "java/lang/IllegalArgumentException", rfl, fun z h => absurd h List.not_mem_nil, by decide, by decide, bw_656, List.mem_of_getElem? (i := 4) rfl, 6, 2, 1, by decide, Or.inl ⟨e17_17, rfl⟩, e17_19, by decide, e17_20⟩, List.forall_mem_cons.mpr ⟨⟨rfl, [⟨0, 14, 17, 15⟩], ⟨0, 14, 21, 31⟩, [], "java/lang/IllegalStateException", rfl, List.forall_mem_cons.mpr ⟨⟨by decide, "java/lang/IllegalArgumentException", bw_656, List.mem_of_getElem? (i := 3) rfl⟩, fun z h => absurd h List.not_mem_nil⟩, by decide, by decide, bw_762, List.mem_of_getElem? (i := 6) rfl, 6, 2, 2, by decide, Or.inl ⟨e17_21, rfl⟩, e17_23, by decide, e17_24⟩, fun q h => absurd h List.not_mem_nil⟩⟩⟩)), Or.inr (Or.inl ⟨rfl, 1, e17_12, rfl, rfl, trivial, trivial, trivial⟩), Or.inr (Or.inl ⟨rfl, 1, e17_13, rfl, rfl, trivial, trivial, trivial⟩), Or.inr (Or.inl ⟨rfl, 3, e17_14, rfl, rfl, rfl, trivial, trivial⟩), Or.inr (Or.inl ⟨rfl, 1, e17_25, rfl, rfl, am_eq9 (by decide +kernel), trivial, trivial⟩), Or.inr (Or.inl ⟨rfl, 1, e17_26, rfl, rfl, trivial, trivial, trivial⟩), trivial⟩
theorem w17 : ∀ pc, xm_V9 (xm_G 17) pc ((xm_G 17).1.2.2.2.2.1 pc) := am_all_lc xm_V9_0 _ ⟨w17_0, trivial⟩
theorem e18_0 : decode cL_dropBlock 0 = .ok (.aload_n 1, 1) := by decide +kernel
theorem e18_1 : decode cL_dropBlock 1 = .ok (.iconst 0, 1) := by decide +kernel
theorem e18_2 : decode cL_dropBlock 2 = .ok (.aload_n 0, 1) := by decide +kernel
theorem e18_3 : decode cL_dropBlock 3 = .ok (.invokevirtual 33, 3) := by decide +kernel
theorem e18_6 : decode cL_dropBlock 6 = .ok (.i2l, 1) := by decide +kernel
theorem e18_7 : decode cL_dropBlock 7 = .ok (.lastore, 1) := by decide +kernel
theorem e18_8 : decode cL_dropBlock 8 = .ok (.goto 6, 3) := by decide +kernel
theorem e18_11 : decode cL_dropBlock 11 = .ok (.astore_n 2, 1) := by decide +kernel
theorem e18_12 : decode cL_dropBlock 12 = .ok (.iconst 1, 1) := by decide +kernel
theorem e18_13 : decode cL_dropBlock 13 = .ok (.ireturn, 1) := by decide +kernel
theorem e18_14 : decode cL_dropBlock 14 = .ok (.iconst 0, 1) := by decide +kernel
theorem e18_15 : decode cL_dropBlock 15 = .ok (.ireturn, 1) := by decide +kernel
theorem w18_0 : am_all (xm_V9 (xm_G 18)) xm_l18_0 := ⟨Or.inr (Or.inl ⟨rfl, 1, e18_0, rfl, rfl, rfl, trivial, trivial⟩), Or.inr (Or.inl ⟨rfl, 1, e18_1, rfl, rfl, am_eq9 (by decide +kernel), trivial, trivial⟩), Or.inr (Or.inl ⟨rfl, 1, e18_2, rfl, rfl, rfl, trivial, trivial⟩), Or.inr (Or.inr (Or.inr ⟨⟨33, e18_3, rfl, by decide, ⟨_, TX7, 4, rfl, xkM_5, rfl⟩, rfl, bw_803, bw_804, bw_805⟩, List.forall_mem_cons.mpr ⟨⟨rfl, [], ⟨0, 8, 11, 31⟩, [], "java/lang/IllegalStateException", rfl, fun z h => absurd h List.not_mem_nil, by decide, by decide, bw_762, List.mem_of_getElem? (i := 6) rfl, 2, 1, 1, by decide, Or.inr ⟨2, rfl, e18_11, rfl⟩, e18_12, by decide, e18_13⟩, fun q h => absurd h List.not_mem_nil⟩⟩)), Or.inr (Or.inl ⟨rfl, 1, e18_6, rfl, rfl, trivial, trivial, trivial⟩), Or.inr (Or.inl ⟨rfl, 1, e18_7, rfl, rfl, trivial, trivial, trivial⟩), Or.inr (Or.inl ⟨rfl, 3, e18_8, rfl, rfl, rfl, trivial, trivial⟩), Or.inr (Or.inl ⟨rfl, 1, e18_14, rfl, rfl, am_eq9 (by decide +kernel), trivial, trivial⟩), Or.inr (Or.inl ⟨rfl, 1, e18_15, rfl, rfl, trivial, trivial, trivial⟩), trivial⟩
theorem w18 : ∀ pc, xm_V9 (xm_G 18) pc ((xm_G 18).1.2.2.2.2.1 pc) := am_all_lc xm_V9_0 _ ⟨w18_0, trivial⟩
theorem e19_0 : decode cL_run 0 = .ok (.aload_n 2, 1) := by decide +kernel
theorem e19_1 : decode cL_run 1 = .ok (.iconst 0, 1) := by decide +kernel
theorem e19_2 : decode cL_run 2 = .ok (.aload_n 0, 1) := by decide +kernel
theorem e19_3 : decode cL_run 3 = .ok (.iload_n 1, 1) := by decide +kernel
theorem e19_4 : decode cL_run 4 = .ok (.invokevirtual 37, 3) := by decide +kernel
theorem e19_7 : decode cL_run 7 = .ok (.i2l, 1) := by decide +kernel
theorem e19_8 : decode cL_run 8 = .ok (.lastore, 1) := by decide +kernel
theorem e19_9 : decode cL_run 9 = .ok (.goto 9, 3) := by decide +kernel
theorem e19_12 : decode cL_run 12 = .ok (.astore_n 3, 1) := by decide +kernel
theorem e19_13 : decode cL_run 13 = .ok (.iconst 1, 1) := by decide +kernel
theorem e19_14 : decode cL_run 14 = .ok (.ireturn, 1) := by decide +kernel
theorem e19_15 : decode cL_run 15 = .ok (.astore_n 3, 1) := by decide +kernel
theorem e19_16 : decode cL_run 16 = .ok (.iconst 2, 1) := by decide +kernel
theorem e19_17 : decode cL_run 17 = .ok (.ireturn, 1) := by decide +kernel
theorem e19_18 : decode cL_run 18 = .ok (.iconst 0, 1) := by decide +kernel
theorem e19_19 : decode cL_run 19 = .ok (.ireturn, 1) := by decide +kernel
theorem w19_0 : am_all (xm_V9 (xm_G 19)) xm_l19_0 := ⟨Or.inr (Or.inl ⟨rfl, 1, e19_0, rfl, rfl, rfl, trivial, trivial⟩), Or.inr (Or.inl ⟨rfl, 1, e19_1, rfl, rfl, am_eq9 (by decide +kernel), trivial, trivial⟩), Or.inr (Or.inl ⟨rfl, 1, e19_2, rfl, rfl, rfl, trivial, trivial⟩), Or.inr (Or.inl ⟨rfl, 1, e19_3, rfl, rfl, rfl, trivial, trivial⟩), Or.inr (Or.inr (Or.inr ⟨⟨37, e19_4, rfl, by decide, ⟨_, TX7, 4, rfl, xkM_6, rfl⟩, rfl, bw_815, bw_816, bw_817⟩, List.forall_mem_cons.mpr ⟨⟨rfl, [], ⟨0, 9, 12, 15⟩, [⟨0, 9, 15, 31⟩], "java/lang/IllegalArgumentException", rfl, fun z h => absurd h List.not_mem_nil, by decide, by decide, bw_656, List.mem_of_getElem? (i := 4) rfl, 3, 1, 1, by decide, Or.inr ⟨3, rfl, e19_12, rfl⟩, e19_13, by decide, e19_14⟩, List.forall_mem_cons.mpr ⟨⟨rfl, [⟨0, 9, 12, 15⟩], ⟨0, 9, 15, 31⟩, [], "java/lang/IllegalStateException", rfl, List.forall_mem_cons.mpr ⟨⟨by decide, "java/lang/IllegalArgumentException", bw_656, List.mem_of_getElem? (i := 3) rfl⟩, fun z h => absurd h List.not_mem_nil⟩, by decide, by decide, bw_762, List.mem_of_getElem? (i := 6) rfl, 3, 1, 2, by decide, Or.inr ⟨3, rfl, e19_15, rfl⟩, e19_16, by decide, e19_17⟩, fun q h => absurd h List.not_mem_nil⟩⟩⟩)), Or.inr (Or.inl ⟨rfl, 1, e19_7, rfl, rfl, trivial, trivial, trivial⟩), Or.inr (Or.inl ⟨rfl, 1, e19_8, rfl, rfl, trivial, trivial, trivial⟩), Or.inr (Or.inl ⟨rfl, 3, e19_9, rfl, rfl, rfl, trivial, trivial⟩), Or.inr (Or.inl ⟨rfl, 1, e19_18, rfl, rfl, am_eq9 (by decide +kernel), trivial, trivial⟩), Or.inr (Or.inl ⟨rfl, 1, e19_19, rfl, rfl, trivial, trivial, trivial⟩), trivial⟩
theorem w19 : ∀ pc, xm_V9 (xm_G 19) pc ((xm_G 19).1.2.2.2.2.1 pc) := am_all_lc xm_V9_0 _ ⟨w19_0, trivial⟩
theorem e20_0 : decode cL_variable 0 = .ok (.aload_n 2, 1) := by decide +kernel
theorem e20_1 : decode cL_variable 1 = .ok (.iconst 0, 1) := by decide +kernel
theorem e20_2 : decode cL_variable 2 = .ok (.aload_n 0, 1) := by decide +kernel
theorem e20_3 : decode cL_variable 3 = .ok (.iload_n 1, 1) := by decide +kernel
theorem e20_4 : decode cL_variable 4 = .ok (.invokevirtual 41, 3) := by decide +kernel
theorem e20_7 : decode cL_variable 7 = .ok (.i2l, 1) := by decide +kernel
theorem e20_8 : decode cL_variable 8 = .ok (.lastore, 1) := by decide +kernel
theorem e20_9 : decode cL_variable 9 = .ok (.goto 6, 3) := by decide +kernel
theorem e20_12 : decode cL_variable 12 = .ok (.astore_n 3, 1) := by decide +kernel
theorem e20_13 : decode cL_variable 13 = .ok (.iconst 1, 1) := by decide +kernel
theorem e20_14 : decode cL_variable 14 = .ok (.ireturn, 1) := by decide +kernel
theorem e20_15 : decode cL_variable 15 = .ok (.iconst 0, 1) := by decide +kernel
theorem e20_16 : decode cL_variable 16 = .ok (.ireturn, 1) := by decide +kernel
theorem w20_0 : am_all (xm_V9 (xm_G 20)) xm_l20_0 := ⟨Or.inr (Or.inl ⟨rfl, 1, e20_0, rfl, rfl, rfl, trivial, trivial⟩), Or.inr (Or.inl ⟨rfl, 1, e20_1, rfl, rfl, am_eq9 (by decide +kernel), trivial, trivial⟩), Or.inr (Or.inl ⟨rfl, 1, e20_2, rfl, rfl, rfl, trivial, trivial⟩), Or.inr (Or.inl ⟨rfl, 1, e20_3, rfl, rfl, rfl, trivial, trivial⟩), Or.inr (Or.inr (Or.inr ⟨⟨41, e20_4, rfl, by decide, ⟨_, TX7, 4, rfl, xkM_7, rfl⟩, rfl, bw_829, bw_830, bw_831⟩, List.forall_mem_cons.mpr ⟨⟨rfl, [], ⟨0, 9, 12, 15⟩, [], "java/lang/IllegalArgumentException", rfl, fun z h => absurd h List.not_mem_nil, by decide, by decide, bw_656, List.mem_of_getElem? (i := 4) rfl, 3, 1, 1, by decide, Or.inr ⟨3, rfl, e20_12, rfl⟩, e20_13, by decide, e20_14⟩, fun q h => absurd h List.not_mem_nil⟩⟩)), Or.inr (Or.inl ⟨rfl, 1, e20_7, rfl, rfl, trivial, trivial, trivial⟩), Or.inr (Or.inl ⟨rfl, 1, e20_8, rfl, rfl, trivial, trivial, trivial⟩), Or.inr (Or.inl ⟨rfl, 3, e20_9, rfl, rfl, rfl, trivial, trivial⟩), Or.inr (Or.inl ⟨rfl, 1, e20_15, rfl, rfl, am_eq9 (by decide +kernel), trivial, trivial⟩), Or.inr (Or.inl ⟨rfl, 1, e20_16, rfl, rfl, trivial, trivial, trivial⟩), trivial⟩
theorem w20 : ∀ pc, xm_V9 (xm_G 20) pc ((xm_G 20).1.2.2.2.2.1 pc) := am_all_lc xm_V9_0 _ ⟨w20_0, trivial⟩
theorem e21_0 : decode cL_at 0 = .ok (.aload_n 2, 1) := by decide +kernel
theorem e21_1 : decode cL_at 1 = .ok (.iconst 0, 1) := by decide +kernel
theorem e21_2 : decode cL_at 2 = .ok (.aload_n 0, 1) := by decide +kernel
theorem e21_3 : decode cL_at 3 = .ok (.iload_n 1, 1) := by decide +kernel
theorem e21_4 : decode cL_at 4 = .ok (.invokevirtual 44, 3) := by decide +kernel
theorem e21_7 : decode cL_at 7 = .ok (.i2l, 1) := by decide +kernel
theorem e21_8 : decode cL_at 8 = .ok (.lastore, 1) := by decide +kernel
theorem e21_9 : decode cL_at 9 = .ok (.goto 6, 3) := by decide +kernel
theorem e21_12 : decode cL_at 12 = .ok (.astore_n 3, 1) := by decide +kernel
theorem e21_13 : decode cL_at 13 = .ok (.iconst 1, 1) := by decide +kernel
theorem e21_14 : decode cL_at 14 = .ok (.ireturn, 1) := by decide +kernel
theorem e21_15 : decode cL_at 15 = .ok (.iconst 0, 1) := by decide +kernel
theorem e21_16 : decode cL_at 16 = .ok (.ireturn, 1) := by decide +kernel
theorem w21_0 : am_all (xm_V9 (xm_G 21)) xm_l21_0 := ⟨Or.inr (Or.inl ⟨rfl, 1, e21_0, rfl, rfl, rfl, trivial, trivial⟩), Or.inr (Or.inl ⟨rfl, 1, e21_1, rfl, rfl, am_eq9 (by decide +kernel), trivial, trivial⟩), Or.inr (Or.inl ⟨rfl, 1, e21_2, rfl, rfl, rfl, trivial, trivial⟩), Or.inr (Or.inl ⟨rfl, 1, e21_3, rfl, rfl, rfl, trivial, trivial⟩), Or.inr (Or.inr (Or.inr ⟨⟨44, e21_4, rfl, by decide, ⟨_, TX7, 4, rfl, xkM_8, rfl⟩, rfl, bw_837, bw_838, bw_839⟩, List.forall_mem_cons.mpr ⟨⟨rfl, [], ⟨0, 9, 12, 15⟩, [], "java/lang/IllegalArgumentException", rfl, fun z h => absurd h List.not_mem_nil, by decide, by decide, bw_656, List.mem_of_getElem? (i := 4) rfl, 3, 1, 1, by decide, Or.inr ⟨3, rfl, e21_12, rfl⟩, e21_13, by decide, e21_14⟩, fun q h => absurd h List.not_mem_nil⟩⟩)), Or.inr (Or.inl ⟨rfl, 1, e21_7, rfl, rfl, trivial, trivial, trivial⟩), Or.inr (Or.inl ⟨rfl, 1, e21_8, rfl, rfl, trivial, trivial, trivial⟩), Or.inr (Or.inl ⟨rfl, 3, e21_9, rfl, rfl, rfl, trivial, trivial⟩), Or.inr (Or.inl ⟨rfl, 1, e21_15, rfl, rfl, am_eq9 (by decide +kernel), trivial, trivial⟩), Or.inr (Or.inl ⟨rfl, 1, e21_16, rfl, rfl, trivial, trivial, trivial⟩), trivial⟩
theorem w21 : ∀ pc, xm_V9 (xm_G 21) pc ((xm_G 21).1.2.2.2.2.1 pc) := am_all_lc xm_V9_0 _ ⟨w21_0, trivial⟩
theorem e22_0 : decode cL_used 0 = .ok (.aload_n 3, 1) := by decide +kernel
theorem e22_1 : decode cL_used 1 = .ok (.iconst 0, 1) := by decide +kernel
theorem e22_2 : decode cL_used 2 = .ok (.aload_n 0, 1) := by decide +kernel
theorem e22_3 : decode cL_used 3 = .ok (.iload_n 1, 1) := by decide +kernel
theorem e22_4 : decode cL_used 4 = .ok (.iload_n 2, 1) := by decide +kernel
theorem e22_5 : decode cL_used 5 = .ok (.invokevirtual 47, 3) := by decide +kernel
theorem e22_8 : decode cL_used 8 = .ok (.i2l, 1) := by decide +kernel
theorem e22_9 : decode cL_used 9 = .ok (.lastore, 1) := by decide +kernel
theorem e22_10 : decode cL_used 10 = .ok (.goto 11, 3) := by decide +kernel
theorem e22_13 : decode cL_used 13 = .ok (.astore 4, 2) := by decide +kernel
theorem e22_15 : decode cL_used 15 = .ok (.iconst 1, 1) := by decide +kernel
theorem e22_16 : decode cL_used 16 = .ok (.ireturn, 1) := by decide +kernel
theorem e22_17 : decode cL_used 17 = .ok (.astore 4, 2) := by decide +kernel
theorem e22_19 : decode cL_used 19 = .ok (.iconst 2, 1) := by decide +kernel
theorem e22_20 : decode cL_used 20 = .ok (.ireturn, 1) := by decide +kernel
theorem e22_21 : decode cL_used 21 = .ok (.iconst 0, 1) := by decide +kernel
theorem e22_22 : decode cL_used 22 = .ok (.ireturn, 1) := by decide +kernel
theorem w22_0 : am_all (xm_V9 (xm_G 22)) xm_l22_0 := ⟨Or.inr (Or.inl ⟨rfl, 1, e22_0, rfl, rfl, rfl, trivial, trivial⟩), Or.inr (Or.inl ⟨rfl, 1, e22_1, rfl, rfl, am_eq9 (by decide +kernel), trivial, trivial⟩), Or.inr (Or.inl ⟨rfl, 1, e22_2, rfl, rfl, rfl, trivial, trivial⟩), Or.inr (Or.inl ⟨rfl, 1, e22_3, rfl, rfl, rfl, trivial, trivial⟩), Or.inr (Or.inl ⟨rfl, 1, e22_4, rfl, rfl, rfl, trivial, trivial⟩), Or.inr (Or.inr (Or.inr ⟨⟨47, e22_5, rfl, by decide, ⟨_, TX7, 4, rfl, xkM_9, rfl⟩, rfl, bw_846, bw_847, bw_848⟩, List.forall_mem_cons.mpr ⟨⟨rfl, [], ⟨0, 10, 13, 13⟩, [⟨0, 10, 17, 51⟩], "java/lang/IndexOutOfBoundsException", rfl, fun z h => absurd h List.not_mem_nil, by decide, by decide, bw_576, List.mem_of_getElem? (i := 3) rfl, 4, 2, 1, by decide, Or.inl ⟨e22_13, rfl⟩, e22_15, by decide, e22_16⟩, List.forall_mem_cons.mpr ⟨⟨rfl, [⟨0, 10, 13, 13⟩], ⟨0, 10, 17, 51⟩, [], "java/util/NoSuchElementException", rfl, List.forall_mem_cons.mpr ⟨⟨by decide, "java/lang/IndexOutOfBoundsException", bw_576, List.mem_of_getElem? (i := 4) rfl⟩, fun z h => absurd h List.not_mem_nil⟩, by decide, by decide, bw_845, List.mem_of_getElem? (i := 7) rfl, 4, 2, 2, by decide, Or.inl ⟨e22_17, rfl⟩, e22_19, by decide, e22_20⟩, fun q h => absurd h List.not_mem_nil⟩⟩⟩)), Or.inr (Or.inl ⟨rfl, 1, e22_8, rfl, rfl, trivial, trivial, trivial⟩), Or.inr (Or.inl ⟨rfl, 1, e22_9, rfl, rfl, trivial, trivial, trivial⟩), Or.inr (Or.inl ⟨rfl, 3, e22_10, rfl, rfl, rfl, trivial, trivial⟩), Or.inr (Or.inl ⟨rfl, 1, e22_21, rfl, rfl, am_eq9 (by decide +kernel), trivial, trivial⟩), Or.inr (Or.inl ⟨rfl, 1, e22_22, rfl, rfl, trivial, trivial, trivial⟩), trivial⟩
theorem w22 : ∀ pc, xm_V9 (xm_G 22) pc ((xm_G 22).1.2.2.2.2.1 pc) := am_all_lc xm_V9_0 _ ⟨w22_0, trivial⟩
theorem e23_0 : decode cL_has 0 = .ok (.aload 4, 2) := by decide +kernel
theorem e23_2 : decode cL_has 2 = .ok (.iconst 0, 1) := by decide +kernel
theorem e23_3 : decode cL_has 3 = .ok (.aload_n 0, 1) := by decide +kernel
theorem e23_4 : decode cL_has 4 = .ok (.iload_n 1, 1) := by decide +kernel
theorem e23_5 : decode cL_has 5 = .ok (.iload_n 2, 1) := by decide +kernel
theorem e23_6 : decode cL_has 6 = .ok (.iload_n 3, 1) := by decide +kernel
theorem e23_7 : decode cL_has 7 = .ok (.invokevirtual 53, 3) := by decide +kernel
theorem e23_10 : decode cL_has 10 = .ok (.ifCond .eq 7, 3) := by decide +kernel
theorem e23_13 : decode cL_has 13 = .ok (.lconst 1, 1) := by decide +kernel
theorem e23_14 : decode cL_has 14 = .ok (.goto 4, 3) := by decide +kernel
theorem e23_17 : decode cL_has 17 = .ok (.lconst 0, 1) := by decide +kernel
theorem e23_18 : decode cL_has 18 = .ok (.lastore, 1) := by decide +kernel
theorem e23_19 : decode cL_has 19 = .ok (.goto 7, 3) := by decide +kernel
theorem e23_22 : decode cL_has 22 = .ok (.astore 5, 2) := by decide +kernel
theorem e23_24 : decode cL_has 24 = .ok (.iconst 1, 1) := by decide +kernel
theorem e23_25 : decode cL_has 25 = .ok (.ireturn, 1) := by decide +kernel
theorem e23_26 : decode cL_has 26 = .ok (.iconst 0, 1) := by decide +kernel
theorem e23_27 : decode cL_has 27 = .ok (.ireturn, 1) := by decide +kernel
theorem w23_0 : am_all (xm_V9 (xm_G 23)) xm_l23_0 := ⟨Or.inr (Or.inl ⟨rfl, 2, e23_0, rfl, rfl, rfl, trivial, trivial⟩), Or.inr (Or.inl ⟨rfl, 1, e23_2, rfl, rfl, am_eq9 (by decide +kernel), trivial, trivial⟩), Or.inr (Or.inl ⟨rfl, 1, e23_3, rfl, rfl, rfl, trivial, trivial⟩), Or.inr (Or.inl ⟨rfl, 1, e23_4, rfl, rfl, rfl, trivial, trivial⟩), Or.inr (Or.inl ⟨rfl, 1, e23_5, rfl, rfl, rfl, trivial, trivial⟩), Or.inr (Or.inl ⟨rfl, 1, e23_6, rfl, rfl, rfl, trivial, trivial⟩), Or.inr (Or.inr (Or.inr ⟨⟨53, e23_7, rfl, by decide, ⟨_, TX7, 4, rfl, xkM_10, rfl⟩, rfl, bw_870, bw_871, bw_872⟩, List.forall_mem_cons.mpr ⟨⟨rfl, [], ⟨0, 19, 22, 13⟩, [], "java/lang/IndexOutOfBoundsException", rfl, fun z h => absurd h List.not_mem_nil, by decide, by decide, bw_576, List.mem_of_getElem? (i := 3) rfl, 5, 2, 1, by decide, Or.inl ⟨e23_22, rfl⟩, e23_24, by decide, e23_25⟩, fun q h => absurd h List.not_mem_nil⟩⟩)), Or.inr (Or.inl ⟨rfl, 3, e23_10, rfl, rfl, rfl, trivial, trivial⟩), Or.inr (Or.inl ⟨rfl, 1, e23_13, rfl, rfl, rfl, trivial, trivial⟩), Or.inr (Or.inl ⟨rfl, 3, e23_14, rfl, rfl, rfl, trivial, trivial⟩), Or.inr (Or.inl ⟨rfl, 1, e23_17, rfl, rfl, rfl, trivial, trivial⟩), Or.inr (Or.inl ⟨rfl, 1, e23_18, rfl, rfl, trivial, trivial, trivial⟩), Or.inr (Or.inl ⟨rfl, 3, e23_19, rfl, rfl, rfl, trivial, trivial⟩), Or.inr (Or.inl ⟨rfl, 1, e23_26, rfl, rfl, am_eq9 (by decide +kernel), trivial, trivial⟩), Or.inr (Or.inl ⟨rfl, 1, e23_27, rfl, rfl, trivial, trivial, trivial⟩), trivial⟩
theorem w23 : ∀ pc, xm_V9 (xm_G 23) pc ((xm_G 23).1.2.2.2.2.1 pc) := am_all_lc xm_V9_0 _ ⟨w23_0, trivial⟩
theorem e24_0 : decode cL_hasAnew 0 = .ok (.aload 4, 2) := by decide +kernel
theorem e24_2 : decode cL_hasAnew 2 = .ok (.iconst 0, 1) := by decide +kernel
theorem e24_3 : decode cL_hasAnew 3 = .ok (.aload_n 0, 1) := by decide +kernel
theorem e24_4 : decode cL_hasAnew 4 = .ok (.iload_n 1, 1) := by decide +kernel
theorem e24_5 : decode cL_hasAnew 5 = .ok (.iload_n 2, 1) := by decide +kernel
theorem e24_6 : decode cL_hasAnew 6 = .ok (.iload_n 3, 1) := by decide +kernel
theorem e24_7 : decode cL_hasAnew 7 = .ok (.invokevirtual 57, 3) := by decide +kernel
theorem e24_10 : decode cL_hasAnew 10 = .ok (.ifCond .eq 7, 3) := by decide +kernel
theorem e24_13 : decode cL_hasAnew 13 = .ok (.lconst 1, 1) := by decide +kernel
theorem e24_14 : decode cL_hasAnew 14 = .ok (.goto 4, 3) := by decide +kernel
theorem e24_17 : decode cL_hasAnew 17 = .ok (.lconst 0, 1) := by decide +kernel
theorem e24_18 : decode cL_hasAnew 18 = .ok (.lastore, 1) := by decide +kernel
theorem e24_19 : decode cL_hasAnew 19 = .ok (.goto 7, 3) := by decide +kernel
theorem e24_22 : decode cL_hasAnew 22 = .ok (.astore 5, 2) := by decide +kernel
theorem e24_24 : decode cL_hasAnew 24 = .ok (.iconst 1, 1) := by decide +kernel
theorem e24_25 : decode cL_hasAnew 25 = .ok (.ireturn, 1) := by decide +kernel
theorem e24_26 : decode cL_hasAnew 26 = .ok (.iconst 0, 1) := by decide +kernel
theorem e24_27 : decode cL_hasAnew 27 = .ok (.ireturn, 1) := by decide +kernel
theorem w24_0 : am_all (xm_V9 (xm_G 24)) xm_l24_0 := ⟨Or.inr (Or.inl ⟨rfl, 2, e24_0, rfl, rfl, rfl, trivial, trivial⟩), Or.inr (Or.inl ⟨rfl, 1, e24_2, rfl, rfl, am_eq9 (by decide +kernel), trivial, trivial⟩), Or.inr (Or.inl ⟨rfl, 1, e24_3, rfl, rfl, rfl, trivial, trivial⟩), Or.inr (Or.inl ⟨rfl, 1, e24_4, rfl, rfl, rfl, trivial, trivial⟩), Or.inr (Or.inl ⟨rfl, 1, e24_5, rfl, rfl, rfl, trivial, trivial⟩), Or.inr (Or.inl ⟨rfl, 1, e24_6, rfl, rfl, rfl, trivial, trivial⟩), Or.inr (Or.inr (Or.inr ⟨⟨57, e24_7, rfl, by decide, ⟨_, TX7, 4, rfl, xkM_11, rfl⟩, rfl, bw_877, bw_878, bw_879⟩, List.forall_mem_cons.mpr ⟨⟨rfl, [], ⟨0, 19, 22, 13⟩, [], "java/lang/IndexOutOfBoundsException", rfl, fun z h => absurd h List.not_mem_nil, by decide, by decide, bw_576, List.mem_of_getElem? (i := 3) rfl, 5, 2, 1, by decide, Or.inl ⟨e24_22, rfl⟩, e24_24, by decide, e24_25⟩, fun q h => absurd h List.not_mem_nil⟩⟩)), Or.inr (Or.inl ⟨rfl, 3, e24_10, rfl, rfl, rfl, trivial, trivial⟩), Or.inr (Or.inl ⟨rfl, 1, e24_13, rfl, rfl, rfl, trivial, trivial⟩), Or.inr (Or.inl ⟨rfl, 3, e24_14, rfl, rfl, rfl, trivial, trivial⟩), Or.inr (Or.inl ⟨rfl, 1, e24_17, rfl, rfl, rfl, trivial, trivial⟩), Or.inr (Or.inl ⟨rfl, 1, e24_18, rfl, rfl, trivial, trivial, trivial⟩), Or.inr (Or.inl ⟨rfl, 3, e24_19, rfl, rfl, rfl, trivial, trivial⟩), Or.inr (Or.inl ⟨rfl, 1, e24_26, rfl, rfl, am_eq9 (by decide +kernel), trivial, trivial⟩), Or.inr (Or.inl ⟨rfl, 1, e24_27, rfl, rfl, trivial, trivial, trivial⟩), trivial⟩
theorem w24 : ∀ pc, xm_V9 (xm_G 24) pc ((xm_G 24).1.2.2.2.2.1 pc) := am_all_lc xm_V9_0 _ ⟨w24_0, trivial⟩
theorem e25_0 : decode cL_height 0 = .ok (.aload_n 3, 1) := by decide +kernel
theorem e25_1 : decode cL_height 1 = .ok (.iconst 0, 1) := by decide +kernel
theorem e25_2 : decode cL_height 2 = .ok (.aload_n 0, 1) := by decide +kernel
theorem e25_3 : decode cL_height 3 = .ok (.iload_n 1, 1) := by decide +kernel
theorem e25_4 : decode cL_height 4 = .ok (.iload_n 2, 1) := by decide +kernel
theorem e25_5 : decode cL_height 5 = .ok (.invokevirtual 60, 3) := by decide +kernel
theorem e25_8 : decode cL_height 8 = .ok (.i2l, 1) := by decide +kernel
theorem e25_9 : decode cL_height 9 = .ok (.lastore, 1) := by decide +kernel
theorem e25_10 : decode cL_height 10 = .ok (.goto 7, 3) := by decide +kernel
theorem e25_13 : decode cL_height 13 = .ok (.astore 4, 2) := by decide +kernel
theorem e25_15 : decode cL_height 15 = .ok (.iconst 1, 1) := by decide +kernel
theorem e25_16 : decode cL_height 16 = .ok (.ireturn, 1) := by decide +kernel
theorem e25_17 : decode cL_height 17 = .ok (.iconst 0, 1) := by decide +kernel
theorem e25_18 : decode cL_height 18 = .ok (.ireturn, 1) := by decide +kernel
theorem w25_0 : am_all (xm_V9 (xm_G 25)) xm_l25_0 := ⟨Or.inr (Or.inl ⟨rfl, 1, e25_0, rfl, rfl, rfl, trivial, trivial⟩), Or.inr (Or.inl ⟨rfl, 1, e25_1, rfl, rfl, am_eq9 (by decide +kernel), trivial, trivial⟩), Or.inr (Or.inl ⟨rfl, 1, e25_2, rfl, rfl, rfl, trivial, trivial⟩), Or.inr (Or.inl ⟨rfl, 1, e25_3, rfl, rfl, rfl, trivial, trivial⟩), Or.inr (Or.inl ⟨rfl, 1, e25_4, rfl, rfl, rfl, trivial, trivial⟩), Or.inr (Or.inr (Or.inr ⟨⟨60, e25_5, rfl, by decide, ⟨_, TX7, 4, rfl, xkM_12, rfl⟩, rfl, bw_884, bw_885, bw_886⟩, List.forall_mem_cons.mpr ⟨⟨rfl, [], ⟨0, 10, 13, 13⟩, [], "java/lang/IndexOutOfBoundsException", rfl, fun z h => absurd h List.not_mem_nil, by decide, by decide, bw_576, List.mem_of_getElem? (i := 3) rfl, 4, 2, 1, by decide, Or.inl ⟨e25_13, rfl⟩, e25_15, by decide, e25_16⟩, fun q h => absurd h List.not_mem_nil⟩⟩)), Or.inr (Or.inl ⟨rfl, 1, e25_8, rfl, rfl, trivial, trivial, trivial⟩), Or.inr (Or.inl ⟨rfl, 1, e25_9, rfl, rfl, trivial, trivial, trivial⟩), Or.inr (Or.inl ⟨rfl, 3, e25_10, rfl, rfl, rfl, trivial, trivial⟩), Or.inr (Or.inl ⟨rfl, 1, e25_17, rfl, rfl, am_eq9 (by decide +kernel), trivial, trivial⟩), Or.inr (Or.inl ⟨rfl, 1, e25_18, rfl, rfl, trivial, trivial, trivial⟩), trivial⟩
theorem w25 : ∀ pc, xm_V9 (xm_G 25) pc ((xm_G 25).1.2.2.2.2.1 pc) := am_all_lc xm_V9_0 _ ⟨w25_0, trivial⟩
theorem e26_0 : decode cL_meanUse 0 = .ok (.aload_n 1, 1) := by decide +kernel
theorem e26_1 : decode cL_meanUse 1 = .ok (.iconst 0, 1) := by decide +kernel
theorem e26_2 : decode cL_meanUse 2 = .ok (.aload_n 0, 1) := by decide +kernel
theorem e26_3 : decode cL_meanUse 3 = .ok (.invokevirtual 63, 3) := by decide +kernel
theorem e26_6 : decode cL_meanUse 6 = .ok (.dastore, 1) := by decide +kernel
theorem e26_7 : decode cL_meanUse 7 = .ok (.goto 6, 3) := by decide +kernel
theorem e26_10 : decode cL_meanUse 10 = .ok (.astore_n 2, 1) := by decide +kernel
theorem e26_11 : decode cL_meanUse 11 = .ok (.iconst 1, 1) := by decide +kernel
theorem e26_12 : decode cL_meanUse 12 = .ok (.ireturn, 1) := by decide +kernel
theorem e26_13 : decode cL_meanUse 13 = .ok (.iconst 0, 1) := by decide +kernel
theorem e26_14 : decode cL_meanUse 14 = .ok (.ireturn, 1) := by decide +kernel
theorem w26_0 : am_all (xm_V9 (xm_G 26)) xm_l26_0 := ⟨Or.inr (Or.inl ⟨rfl, 1, e26_0, rfl, rfl, rfl, trivial, trivial⟩), Or.inr (Or.inl ⟨rfl, 1, e26_1, rfl, rfl, am_eq9 (by decide +kernel), trivial, trivial⟩), Or.inr (Or.inl ⟨rfl, 1, e26_2, rfl, rfl, rfl, trivial, trivial⟩), Or.inr (Or.inr (Or.inr ⟨⟨63, e26_3, rfl, by decide, ⟨_, TX7, 4, rfl, xkM_13, rfl⟩, rfl, bw_905, bw_906, bw_907⟩, List.forall_mem_cons.mpr ⟨⟨rfl, [], ⟨0, 7, 10, 67⟩, [], "java/lang/ArithmeticException", rfl, fun z h => absurd h List.not_mem_nil, by decide, by decide, bw_891, List.mem_of_getElem? (i := 8) rfl, 2, 1, 1, by decide, Or.inr ⟨2, rfl, e26_10, rfl⟩, e26_11, by decide, e26_12⟩, fun q h => absurd h List.not_mem_nil⟩⟩)), Or.inr (Or.inl ⟨rfl, 1, e26_6, rfl, rfl, trivial, trivial, trivial⟩), Or.inr (Or.inl ⟨rfl, 3, e26_7, rfl, rfl, rfl, trivial, trivial⟩), Or.inr (Or.inl ⟨rfl, 1, e26_13, rfl, rfl, am_eq9 (by decide +kernel), trivial, trivial⟩), Or.inr (Or.inl ⟨rfl, 1, e26_14, rfl, rfl, trivial, trivial, trivial⟩), trivial⟩
theorem w26 : ∀ pc, xm_V9 (xm_G 26) pc ((xm_G 26).1.2.2.2.2.1 pc) := am_all_lc xm_V9_0 _ ⟨w26_0, trivial⟩
theorem e27_0 : decode cL_law 0 = .ok (.new 8, 3) := by decide +kernel
theorem e27_3 : decode cL_law 3 = .ok (.dup, 1) := by decide +kernel
theorem e27_4 : decode cL_law 4 = .ok (.invokespecial 69, 3) := by decide +kernel
theorem e27_7 : decode cL_law 7 = .ok (.astore_n 1, 1) := by decide +kernel
theorem e27_8 : decode cL_law 8 = .ok (.new 70, 3) := by decide +kernel
theorem e27_11 : decode cL_law 11 = .ok (.dup, 1) := by decide +kernel
theorem e27_12 : decode cL_law 12 = .ok (.invokespecial 72, 3) := by decide +kernel
theorem e27_15 : decode cL_law 15 = .ok (.astore_n 2, 1) := by decide +kernel
theorem e27_16 : decode cL_law 16 = .ok (.iconst 1, 1) := by decide +kernel
theorem e27_17 : decode cL_law 17 = .ok (.newarray .long, 2) := by decide +kernel
theorem e27_19 : decode cL_law 19 = .ok (.astore_n 3, 1) := by decide +kernel
theorem e27_20 : decode cL_law 20 = .ok (.iconst 1, 1) := by decide +kernel
theorem e27_21 : decode cL_law 21 = .ok (.newarray .double, 2) := by decide +kernel
theorem e27_23 : decode cL_law 23 = .ok (.astore 4, 2) := by decide +kernel
theorem e27_25 : decode cL_law 25 = .ok (.iconst 0, 1) := by decide +kernel
theorem e27_26 : decode cL_law 26 = .ok (.istore 5, 2) := by decide +kernel
theorem e27_28 : decode cL_law 28 = .ok (.iload 5, 2) := by decide +kernel
theorem e27_30 : decode cL_law 30 = .ok (.aload_n 0, 1) := by decide +kernel
theorem e27_31 : decode cL_law 31 = .ok (.arraylength, 1) := by decide +kernel
theorem e27_32 : decode cL_law 32 = .ok (.bipush 6, 2) := by decide +kernel
theorem e27_34 : decode cL_law 34 = .ok (.isub, 1) := by decide +kernel
theorem e27_35 : decode cL_law 35 = .ok (.if_icmp .gt 1359, 3) := by decide +kernel
theorem e27_38 : decode cL_law 38 = .ok (.aload_n 0, 1) := by decide +kernel
theorem e27_39 : decode cL_law 39 = .ok (.iload 5, 2) := by decide +kernel
theorem e27_41 : decode cL_law 41 = .ok (.iaload, 1) := by decide +kernel
theorem e27_42 : decode cL_law 42 = .ok (.bipush 31, 2) := by decide +kernel
theorem e27_44 : decode cL_law 44 = .ok (.iand, 1) := by decide +kernel
theorem e27_45 : decode cL_law 45 = .ok (.tableswitch 1343 0 25 #[119, 225, 340, 432, 526, 570, 583, 639, 652, 665, 678, 691, 704, 760, 816, 829, 897, 984, 1071, 1084, 1152, 1166, 1209, 1222, 1287, 1330], 119) := by decide +kernel
theorem e27_164 : decode cL_law 164 = .ok (.aload_n 1, 1) := by decide +kernel
theorem e27_165 : decode cL_law 165 = .ok (.aload_n 0, 1) := by decide +kernel
theorem e27_166 : decode cL_law 166 = .ok (.iload 5, 2) := by decide +kernel
theorem e27_168 : decode cL_law 168 = .ok (.iconst 1, 1) := by decide +kernel
theorem e27_169 : decode cL_law 169 = .ok (.iadd, 1) := by decide +kernel
theorem e27_170 : decode cL_law 170 = .ok (.iaload, 1) := by decide +kernel
theorem e27_171 : decode cL_law 171 = .ok (.aload_n 0, 1) := by decide +kernel
theorem e27_172 : decode cL_law 172 = .ok (.iload 5, 2) := by decide +kernel
theorem e27_174 : decode cL_law 174 = .ok (.iconst 2, 1) := by decide +kernel
theorem e27_175 : decode cL_law 175 = .ok (.iadd, 1) := by decide +kernel
theorem e27_176 : decode cL_law 176 = .ok (.iaload, 1) := by decide +kernel
theorem e27_177 : decode cL_law 177 = .ok (.aload_n 0, 1) := by decide +kernel
theorem e27_178 : decode cL_law 178 = .ok (.iload 5, 2) := by decide +kernel
theorem e27_180 : decode cL_law 180 = .ok (.iconst 3, 1) := by decide +kernel
theorem e27_181 : decode cL_law 181 = .ok (.iadd, 1) := by decide +kernel
theorem e27_182 : decode cL_law 182 = .ok (.iaload, 1) := by decide +kernel
theorem e27_183 : decode cL_law 183 = .ok (.i2c, 1) := by decide +kernel
theorem e27_184 : decode cL_law 184 = .ok (.aload_n 0, 1) := by decide +kernel
theorem e27_185 : decode cL_law 185 = .ok (.iload 5, 2) := by decide +kernel
theorem e27_187 : decode cL_law 187 = .ok (.iconst 4, 1) := by decide +kernel
theorem e27_188 : decode cL_law 188 = .ok (.iadd, 1) := by decide +kernel
theorem e27_189 : decode cL_law 189 = .ok (.iaload, 1) := by decide +kernel
theorem e27_190 : decode cL_law 190 = .ok (.aload_n 0, 1) := by decide +kernel
theorem e27_191 : decode cL_law 191 = .ok (.iload 5, 2) := by decide +kernel
theorem e27_193 : decode cL_law 193 = .ok (.iconst 5, 1) := by decide +kernel
theorem e27_194 : decode cL_law 194 = .ok (.iadd, 1) := by decide +kernel
theorem e27_195 : decode cL_law 195 = .ok (.iaload, 1) := by decide +kernel
theorem e27_196 : decode cL_law 196 = .ok (.aload_n 3, 1) := by decide +kernel
theorem e27_197 : decode cL_law 197 = .ok (.invokestatic 73, 3) := by decide +kernel
theorem e27_200 : decode cL_law 200 = .ok (.istore 6, 2) := by decide +kernel
theorem e27_202 : decode cL_law 202 = .ok (.aload_n 2, 1) := by decide +kernel
theorem e27_203 : decode cL_law 203 = .ok (.aload_n 0, 1) := by decide +kernel
theorem e27_204 : decode cL_law 204 = .ok (.iload 5, 2) := by decide +kernel
theorem e27_206 : decode cL_law 206 = .ok (.iconst 1, 1) := by decide +kernel
theorem e27_207 : decode cL_law 207 = .ok (.iadd, 1) := by decide +kernel
theorem e27_208 : decode cL_law 208 = .ok (.iaload, 1) := by decide +kernel
theorem e27_209 : decode cL_law 209 = .ok (.aload_n 0, 1) := by decide +kernel
theorem e27_210 : decode cL_law 210 = .ok (.iload 5, 2) := by decide +kernel
theorem e27_212 : decode cL_law 212 = .ok (.iconst 2, 1) := by decide +kernel
theorem e27_213 : decode cL_law 213 = .ok (.iadd, 1) := by decide +kernel
theorem e27_214 : decode cL_law 214 = .ok (.iaload, 1) := by decide +kernel
theorem e27_215 : decode cL_law 215 = .ok (.aload_n 0, 1) := by decide +kernel
theorem e27_216 : decode cL_law 216 = .ok (.iload 5, 2) := by decide +kernel
theorem e27_218 : decode cL_law 218 = .ok (.iconst 3, 1) := by decide +kernel
theorem e27_219 : decode cL_law 219 = .ok (.iadd, 1) := by decide +kernel
theorem e27_220 : decode cL_law 220 = .ok (.iaload, 1) := by decide +kernel
theorem e27_221 : decode cL_law 221 = .ok (.i2c, 1) := by decide +kernel
theorem e27_222 : decode cL_law 222 = .ok (.aload_n 0, 1) := by decide +kernel
theorem e27_223 : decode cL_law 223 = .ok (.iload 5, 2) := by decide +kernel
theorem e27_225 : decode cL_law 225 = .ok (.iconst 4, 1) := by decide +kernel
theorem e27_226 : decode cL_law 226 = .ok (.iadd, 1) := by decide +kernel
theorem e27_227 : decode cL_law 227 = .ok (.iaload, 1) := by decide +kernel
theorem e27_228 : decode cL_law 228 = .ok (.aload_n 0, 1) := by decide +kernel
theorem e27_229 : decode cL_law 229 = .ok (.iload 5, 2) := by decide +kernel
theorem e27_231 : decode cL_law 231 = .ok (.iconst 5, 1) := by decide +kernel
theorem e27_232 : decode cL_law 232 = .ok (.iadd, 1) := by decide +kernel
theorem e27_233 : decode cL_law 233 = .ok (.iaload, 1) := by decide +kernel
theorem e27_234 : decode cL_law 234 = .ok (.invokevirtual 78, 3) := by decide +kernel
theorem e27_237 : decode cL_law 237 = .ok (.istore 7, 2) := by decide +kernel
theorem e27_239 : decode cL_law 239 = .ok (.aload_n 2, 1) := by decide +kernel
theorem e27_240 : decode cL_law 240 = .ok (.invokevirtual 79, 3) := by decide +kernel
theorem e27_243 : decode cL_law 243 = .ok (.iload 6, 2) := by decide +kernel
theorem e27_245 : decode cL_law 245 = .ok (.if_icmp .eq 5, 3) := by decide +kernel
theorem e27_248 : decode cL_law 248 = .ok (.iconst 0, 1) := by decide +kernel
theorem e27_249 : decode cL_law 249 = .ok (.ireturn, 1) := by decide +kernel
theorem e27_250 : decode cL_law 250 = .ok (.iload 6, 2) := by decide +kernel
theorem e27_252 : decode cL_law 252 = .ok (.ifCond .ne 15, 3) := by decide +kernel
theorem e27_255 : decode cL_law 255 = .ok (.aload_n 3, 1) := by decide +kernel
theorem e27_256 : decode cL_law 256 = .ok (.iconst 0, 1) := by decide +kernel
theorem e27_257 : decode cL_law 257 = .ok (.laload, 1) := by decide +kernel
theorem e27_258 : decode cL_law 258 = .ok (.iload 7, 2) := by decide +kernel
theorem e27_260 : decode cL_law 260 = .ok (.i2l, 1) := by decide +kernel
theorem e27_261 : decode cL_law 261 = .ok (.lcmp, 1) := by decide +kernel
theorem e27_262 : decode cL_law 262 = .ok (.ifCond .eq 5, 3) := by decide +kernel
theorem e27_265 : decode cL_law 265 = .ok (.iconst 0, 1) := by decide +kernel
theorem e27_266 : decode cL_law 266 = .ok (.ireturn, 1) := by decide +kernel
theorem e27_267 : decode cL_law 267 = .ok (.goto 1121, 3) := by decide +kernel
theorem e27_270 : decode cL_law 270 = .ok (.aload_n 1, 1) := by decide +kernel
theorem e27_271 : decode cL_law 271 = .ok (.aload_n 0, 1) := by decide +kernel
theorem e27_272 : decode cL_law 272 = .ok (.iload 5, 2) := by decide +kernel
theorem e27_274 : decode cL_law 274 = .ok (.iconst 1, 1) := by decide +kernel
theorem e27_275 : decode cL_law 275 = .ok (.iadd, 1) := by decide +kernel
theorem e27_276 : decode cL_law 276 = .ok (.iaload, 1) := by decide +kernel
theorem e27_277 : decode cL_law 277 = .ok (.aload_n 0, 1) := by decide +kernel
theorem e27_278 : decode cL_law 278 = .ok (.iload 5, 2) := by decide +kernel
theorem e27_280 : decode cL_law 280 = .ok (.iconst 2, 1) := by decide +kernel
theorem e27_281 : decode cL_law 281 = .ok (.iadd, 1) := by decide +kernel
theorem e27_282 : decode cL_law 282 = .ok (.iaload, 1) := by decide +kernel
theorem e27_283 : decode cL_law 283 = .ok (.aload_n 0, 1) := by decide +kernel
theorem e27_284 : decode cL_law 284 = .ok (.iload 5, 2) := by decide +kernel
theorem e27_286 : decode cL_law 286 = .ok (.iconst 3, 1) := by decide +kernel
theorem e27_287 : decode cL_law 287 = .ok (.iadd, 1) := by decide +kernel
theorem e27_288 : decode cL_law 288 = .ok (.iaload, 1) := by decide +kernel
theorem e27_289 : decode cL_law 289 = .ok (.aload_n 0, 1) := by decide +kernel
theorem e27_290 : decode cL_law 290 = .ok (.iload 5, 2) := by decide +kernel
theorem e27_292 : decode cL_law 292 = .ok (.iconst 4, 1) := by decide +kernel
theorem e27_293 : decode cL_law 293 = .ok (.iadd, 1) := by decide +kernel
theorem e27_294 : decode cL_law 294 = .ok (.iaload, 1) := by decide +kernel
theorem e27_295 : decode cL_law 295 = .ok (.ifCond .eq 7, 3) := by decide +kernel
theorem e27_298 : decode cL_law 298 = .ok (.iconst 1, 1) := by decide +kernel
theorem e27_299 : decode cL_law 299 = .ok (.goto 4, 3) := by decide +kernel
theorem e27_302 : decode cL_law 302 = .ok (.iconst 0, 1) := by decide +kernel
theorem e27_303 : decode cL_law 303 = .ok (.aload_n 3, 1) := by decide +kernel
theorem e27_304 : decode cL_law 304 = .ok (.invokestatic 82, 3) := by decide +kernel
theorem e27_307 : decode cL_law 307 = .ok (.istore 6, 2) := by decide +kernel
theorem e27_309 : decode cL_law 309 = .ok (.aload_n 2, 1) := by decide +kernel
theorem e27_310 : decode cL_law 310 = .ok (.aload_n 0, 1) := by decide +kernel
theorem e27_311 : decode cL_law 311 = .ok (.iload 5, 2) := by decide +kernel
theorem e27_313 : decode cL_law 313 = .ok (.iconst 1, 1) := by decide +kernel
theorem e27_314 : decode cL_law 314 = .ok (.iadd, 1) := by decide +kernel
theorem e27_315 : decode cL_law 315 = .ok (.iaload, 1) := by decide +kernel
theorem e27_316 : decode cL_law 316 = .ok (.aload_n 0, 1) := by decide +kernel
theorem e27_317 : decode cL_law 317 = .ok (.iload 5, 2) := by decide +kernel
theorem e27_319 : decode cL_law 319 = .ok (.iconst 2, 1) := by decide +kernel
theorem e27_320 : decode cL_law 320 = .ok (.iadd, 1) := by decide +kernel
theorem e27_321 : decode cL_law 321 = .ok (.iaload, 1) := by decide +kernel
theorem e27_322 : decode cL_law 322 = .ok (.aload_n 0, 1) := by decide +kernel
theorem e27_323 : decode cL_law 323 = .ok (.iload 5, 2) := by decide +kernel
theorem e27_325 : decode cL_law 325 = .ok (.iconst 3, 1) := by decide +kernel
theorem e27_326 : decode cL_law 326 = .ok (.iadd, 1) := by decide +kernel
theorem e27_327 : decode cL_law 327 = .ok (.iaload, 1) := by decide +kernel
theorem e27_328 : decode cL_law 328 = .ok (.aload_n 0, 1) := by decide +kernel
theorem e27_329 : decode cL_law 329 = .ok (.iload 5, 2) := by decide +kernel
theorem e27_331 : decode cL_law 331 = .ok (.iconst 4, 1) := by decide +kernel
theorem e27_332 : decode cL_law 332 = .ok (.iadd, 1) := by decide +kernel
theorem e27_333 : decode cL_law 333 = .ok (.iaload, 1) := by decide +kernel
theorem e27_334 : decode cL_law 334 = .ok (.ifCond .eq 7, 3) := by decide +kernel
theorem e27_337 : decode cL_law 337 = .ok (.iconst 1, 1) := by decide +kernel
theorem e27_338 : decode cL_law 338 = .ok (.goto 4, 3) := by decide +kernel
theorem e27_341 : decode cL_law 341 = .ok (.iconst 0, 1) := by decide +kernel
theorem e27_342 : decode cL_law 342 = .ok (.invokevirtual 85, 3) := by decide +kernel
theorem e27_345 : decode cL_law 345 = .ok (.istore 7, 2) := by decide +kernel
theorem e27_347 : decode cL_law 347 = .ok (.aload_n 2, 1) := by decide +kernel
theorem e27_348 : decode cL_law 348 = .ok (.invokevirtual 79, 3) := by decide +kernel
theorem e27_351 : decode cL_law 351 = .ok (.iload 6, 2) := by decide +kernel
theorem e27_353 : decode cL_law 353 = .ok (.if_icmp .eq 5, 3) := by decide +kernel
theorem e27_356 : decode cL_law 356 = .ok (.iconst 0, 1) := by decide +kernel
theorem e27_357 : decode cL_law 357 = .ok (.ireturn, 1) := by decide +kernel
theorem e27_358 : decode cL_law 358 = .ok (.iload 6, 2) := by decide +kernel
theorem e27_360 : decode cL_law 360 = .ok (.ifCond .ne 22, 3) := by decide +kernel
theorem e27_363 : decode cL_law 363 = .ok (.aload_n 3, 1) := by decide +kernel
theorem e27_364 : decode cL_law 364 = .ok (.iconst 0, 1) := by decide +kernel
theorem e27_365 : decode cL_law 365 = .ok (.laload, 1) := by decide +kernel
theorem e27_366 : decode cL_law 366 = .ok (.iload 7, 2) := by decide +kernel
theorem e27_368 : decode cL_law 368 = .ok (.ifCond .eq 7, 3) := by decide +kernel
theorem e27_371 : decode cL_law 371 = .ok (.lconst 1, 1) := by decide +kernel
theorem e27_372 : decode cL_law 372 = .ok (.goto 4, 3) := by decide +kernel
theorem e27_375 : decode cL_law 375 = .ok (.lconst 0, 1) := by decide +kernel
theorem e27_376 : decode cL_law 376 = .ok (.lcmp, 1) := by decide +kernel
theorem e27_377 : decode cL_law 377 = .ok (.ifCond .eq 5, 3) := by decide +kernel
theorem e27_380 : decode cL_law 380 = .ok (.iconst 0, 1) := by decide +kernel
theorem e27_381 : decode cL_law 381 = .ok (.ireturn, 1) := by decide +kernel
theorem e27_382 : decode cL_law 382 = .ok (.goto 1006, 3) := by decide +kernel
theorem e27_385 : decode cL_law 385 = .ok (.aload_n 1, 1) := by decide +kernel
theorem e27_386 : decode cL_law 386 = .ok (.aload_n 0, 1) := by decide +kernel
theorem e27_387 : decode cL_law 387 = .ok (.iload 5, 2) := by decide +kernel
theorem e27_389 : decode cL_law 389 = .ok (.iconst 1, 1) := by decide +kernel
theorem e27_390 : decode cL_law 390 = .ok (.iadd, 1) := by decide +kernel
theorem e27_391 : decode cL_law 391 = .ok (.iaload, 1) := by decide +kernel
theorem e27_392 : decode cL_law 392 = .ok (.aload_n 0, 1) := by decide +kernel
theorem e27_393 : decode cL_law 393 = .ok (.iload 5, 2) := by decide +kernel
theorem e27_395 : decode cL_law 395 = .ok (.iconst 2, 1) := by decide +kernel
theorem e27_396 : decode cL_law 396 = .ok (.iadd, 1) := by decide +kernel
theorem e27_397 : decode cL_law 397 = .ok (.iaload, 1) := by decide +kernel
theorem e27_398 : decode cL_law 398 = .ok (.aload_n 0, 1) := by decide +kernel
theorem e27_399 : decode cL_law 399 = .ok (.iload 5, 2) := by decide +kernel
theorem e27_401 : decode cL_law 401 = .ok (.iconst 3, 1) := by decide +kernel
theorem e27_402 : decode cL_law 402 = .ok (.iadd, 1) := by decide +kernel
theorem e27_403 : decode cL_law 403 = .ok (.iaload, 1) := by decide +kernel
theorem e27_404 : decode cL_law 404 = .ok (.aload_n 0, 1) := by decide +kernel
theorem e27_405 : decode cL_law 405 = .ok (.iload 5, 2) := by decide +kernel
theorem e27_407 : decode cL_law 407 = .ok (.iconst 4, 1) := by decide +kernel
theorem e27_408 : decode cL_law 408 = .ok (.iadd, 1) := by decide +kernel
theorem e27_409 : decode cL_law 409 = .ok (.iaload, 1) := by decide +kernel
theorem e27_410 : decode cL_law 410 = .ok (.aload_n 3, 1) := by decide +kernel
theorem e27_411 : decode cL_law 411 = .ok (.invokestatic 86, 3) := by decide +kernel
theorem e27_414 : decode cL_law 414 = .ok (.istore 6, 2) := by decide +kernel
theorem e27_416 : decode cL_law 416 = .ok (.aload_n 2, 1) := by decide +kernel
theorem e27_417 : decode cL_law 417 = .ok (.aload_n 0, 1) := by decide +kernel
theorem e27_418 : decode cL_law 418 = .ok (.iload 5, 2) := by decide +kernel
theorem e27_420 : decode cL_law 420 = .ok (.iconst 1, 1) := by decide +kernel
theorem e27_421 : decode cL_law 421 = .ok (.iadd, 1) := by decide +kernel
theorem e27_422 : decode cL_law 422 = .ok (.iaload, 1) := by decide +kernel
theorem e27_423 : decode cL_law 423 = .ok (.aload_n 0, 1) := by decide +kernel
theorem e27_424 : decode cL_law 424 = .ok (.iload 5, 2) := by decide +kernel
theorem e27_426 : decode cL_law 426 = .ok (.iconst 2, 1) := by decide +kernel
theorem e27_427 : decode cL_law 427 = .ok (.iadd, 1) := by decide +kernel
theorem e27_428 : decode cL_law 428 = .ok (.iaload, 1) := by decide +kernel
theorem e27_429 : decode cL_law 429 = .ok (.aload_n 0, 1) := by decide +kernel
theorem e27_430 : decode cL_law 430 = .ok (.iload 5, 2) := by decide +kernel
theorem e27_432 : decode cL_law 432 = .ok (.iconst 3, 1) := by decide +kernel
theorem e27_433 : decode cL_law 433 = .ok (.iadd, 1) := by decide +kernel
theorem e27_434 : decode cL_law 434 = .ok (.iaload, 1) := by decide +kernel
theorem e27_435 : decode cL_law 435 = .ok (.aload_n 0, 1) := by decide +kernel
theorem e27_436 : decode cL_law 436 = .ok (.iload 5, 2) := by decide +kernel
theorem e27_438 : decode cL_law 438 = .ok (.iconst 4, 1) := by decide +kernel
theorem e27_439 : decode cL_law 439 = .ok (.iadd, 1) := by decide +kernel
theorem e27_440 : decode cL_law 440 = .ok (.iaload, 1) := by decide +kernel
theorem e27_441 : decode cL_law 441 = .ok (.invokevirtual 89, 3) := by decide +kernel
theorem e27_444 : decode cL_law 444 = .ok (.istore 7, 2) := by decide +kernel
theorem e27_446 : decode cL_law 446 = .ok (.aload_n 2, 1) := by decide +kernel
theorem e27_447 : decode cL_law 447 = .ok (.invokevirtual 79, 3) := by decide +kernel
theorem e27_450 : decode cL_law 450 = .ok (.iload 6, 2) := by decide +kernel
theorem e27_452 : decode cL_law 452 = .ok (.if_icmp .eq 5, 3) := by decide +kernel
theorem e27_455 : decode cL_law 455 = .ok (.iconst 0, 1) := by decide +kernel
theorem e27_456 : decode cL_law 456 = .ok (.ireturn, 1) := by decide +kernel
theorem e27_457 : decode cL_law 457 = .ok (.iload 6, 2) := by decide +kernel
theorem e27_459 : decode cL_law 459 = .ok (.ifCond .ne 15, 3) := by decide +kernel
theorem e27_462 : decode cL_law 462 = .ok (.aload_n 3, 1) := by decide +kernel
theorem e27_463 : decode cL_law 463 = .ok (.iconst 0, 1) := by decide +kernel
theorem e27_464 : decode cL_law 464 = .ok (.laload, 1) := by decide +kernel
theorem e27_465 : decode cL_law 465 = .ok (.iload 7, 2) := by decide +kernel
theorem e27_467 : decode cL_law 467 = .ok (.i2l, 1) := by decide +kernel
theorem e27_468 : decode cL_law 468 = .ok (.lcmp, 1) := by decide +kernel
theorem e27_469 : decode cL_law 469 = .ok (.ifCond .eq 5, 3) := by decide +kernel
theorem e27_472 : decode cL_law 472 = .ok (.iconst 0, 1) := by decide +kernel
theorem e27_473 : decode cL_law 473 = .ok (.ireturn, 1) := by decide +kernel
theorem e27_474 : decode cL_law 474 = .ok (.goto 914, 3) := by decide +kernel
theorem e27_477 : decode cL_law 477 = .ok (.aload_n 1, 1) := by decide +kernel
theorem e27_478 : decode cL_law 478 = .ok (.aload_n 0, 1) := by decide +kernel
theorem e27_479 : decode cL_law 479 = .ok (.iload 5, 2) := by decide +kernel
theorem e27_481 : decode cL_law 481 = .ok (.iconst 1, 1) := by decide +kernel
theorem e27_482 : decode cL_law 482 = .ok (.iadd, 1) := by decide +kernel
theorem e27_483 : decode cL_law 483 = .ok (.iaload, 1) := by decide +kernel
theorem e27_484 : decode cL_law 484 = .ok (.i2c, 1) := by decide +kernel
theorem e27_485 : decode cL_law 485 = .ok (.aload_n 0, 1) := by decide +kernel
theorem e27_486 : decode cL_law 486 = .ok (.iload 5, 2) := by decide +kernel
theorem e27_488 : decode cL_law 488 = .ok (.iconst 2, 1) := by decide +kernel
theorem e27_489 : decode cL_law 489 = .ok (.iadd, 1) := by decide +kernel
theorem e27_490 : decode cL_law 490 = .ok (.iaload, 1) := by decide +kernel
theorem e27_491 : decode cL_law 491 = .ok (.aload_n 0, 1) := by decide +kernel
theorem e27_492 : decode cL_law 492 = .ok (.iload 5, 2) := by decide +kernel
theorem e27_494 : decode cL_law 494 = .ok (.iconst 3, 1) := by decide +kernel
theorem e27_495 : decode cL_law 495 = .ok (.iadd, 1) := by decide +kernel
theorem e27_496 : decode cL_law 496 = .ok (.iaload, 1) := by decide +kernel
theorem e27_497 : decode cL_law 497 = .ok (.aload_n 0, 1) := by decide +kernel
theorem e27_498 : decode cL_law 498 = .ok (.iload 5, 2) := by decide +kernel
theorem e27_500 : decode cL_law 500 = .ok (.iconst 4, 1) := by decide +kernel
theorem e27_501 : decode cL_law 501 = .ok (.iadd, 1) := by decide +kernel
theorem e27_502 : decode cL_law 502 = .ok (.iaload, 1) := by decide +kernel
theorem e27_503 : decode cL_law 503 = .ok (.aload_n 3, 1) := by decide +kernel
theorem e27_504 : decode cL_law 504 = .ok (.invokestatic 90, 3) := by decide +kernel
theorem e27_507 : decode cL_law 507 = .ok (.istore 6, 2) := by decide +kernel
theorem e27_509 : decode cL_law 509 = .ok (.aload_n 2, 1) := by decide +kernel
theorem e27_510 : decode cL_law 510 = .ok (.aload_n 0, 1) := by decide +kernel
theorem e27_511 : decode cL_law 511 = .ok (.iload 5, 2) := by decide +kernel
theorem e27_513 : decode cL_law 513 = .ok (.iconst 1, 1) := by decide +kernel
theorem e27_514 : decode cL_law 514 = .ok (.iadd, 1) := by decide +kernel
theorem e27_515 : decode cL_law 515 = .ok (.iaload, 1) := by decide +kernel
theorem e27_516 : decode cL_law 516 = .ok (.i2c, 1) := by decide +kernel
theorem e27_517 : decode cL_law 517 = .ok (.aload_n 0, 1) := by decide +kernel
theorem e27_518 : decode cL_law 518 = .ok (.iload 5, 2) := by decide +kernel
theorem e27_520 : decode cL_law 520 = .ok (.iconst 2, 1) := by decide +kernel
theorem e27_521 : decode cL_law 521 = .ok (.iadd, 1) := by decide +kernel
theorem e27_522 : decode cL_law 522 = .ok (.iaload, 1) := by decide +kernel
theorem e27_523 : decode cL_law 523 = .ok (.aload_n 0, 1) := by decide +kernel
theorem e27_524 : decode cL_law 524 = .ok (.iload 5, 2) := by decide +kernel
theorem e27_526 : decode cL_law 526 = .ok (.iconst 3, 1) := by decide +kernel
theorem e27_527 : decode cL_law 527 = .ok (.iadd, 1) := by decide +kernel
theorem e27_528 : decode cL_law 528 = .ok (.iaload, 1) := by decide +kernel
theorem e27_529 : decode cL_law 529 = .ok (.aload_n 0, 1) := by decide +kernel
theorem e27_530 : decode cL_law 530 = .ok (.iload 5, 2) := by decide +kernel
theorem e27_532 : decode cL_law 532 = .ok (.iconst 4, 1) := by decide +kernel
theorem e27_533 : decode cL_law 533 = .ok (.iadd, 1) := by decide +kernel
theorem e27_534 : decode cL_law 534 = .ok (.iaload, 1) := by decide +kernel
theorem e27_535 : decode cL_law 535 = .ok (.invokevirtual 93, 3) := by decide +kernel
theorem e27_538 : decode cL_law 538 = .ok (.istore 7, 2) := by decide +kernel
theorem e27_540 : decode cL_law 540 = .ok (.aload_n 2, 1) := by decide +kernel
theorem e27_541 : decode cL_law 541 = .ok (.invokevirtual 79, 3) := by decide +kernel
theorem e27_544 : decode cL_law 544 = .ok (.iload 6, 2) := by decide +kernel
theorem e27_546 : decode cL_law 546 = .ok (.if_icmp .eq 5, 3) := by decide +kernel
theorem e27_549 : decode cL_law 549 = .ok (.iconst 0, 1) := by decide +kernel
theorem e27_550 : decode cL_law 550 = .ok (.ireturn, 1) := by decide +kernel
theorem e27_551 : decode cL_law 551 = .ok (.iload 6, 2) := by decide +kernel
theorem e27_553 : decode cL_law 553 = .ok (.ifCond .ne 15, 3) := by decide +kernel
theorem e27_556 : decode cL_law 556 = .ok (.aload_n 3, 1) := by decide +kernel
theorem e27_557 : decode cL_law 557 = .ok (.iconst 0, 1) := by decide +kernel
theorem e27_558 : decode cL_law 558 = .ok (.laload, 1) := by decide +kernel
theorem e27_559 : decode cL_law 559 = .ok (.iload 7, 2) := by decide +kernel
theorem e27_561 : decode cL_law 561 = .ok (.i2l, 1) := by decide +kernel
theorem e27_562 : decode cL_law 562 = .ok (.lcmp, 1) := by decide +kernel
theorem e27_563 : decode cL_law 563 = .ok (.ifCond .eq 5, 3) := by decide +kernel
theorem e27_566 : decode cL_law 566 = .ok (.iconst 0, 1) := by decide +kernel
theorem e27_567 : decode cL_law 567 = .ok (.ireturn, 1) := by decide +kernel
theorem e27_568 : decode cL_law 568 = .ok (.goto 820, 3) := by decide +kernel
theorem e27_571 : decode cL_law 571 = .ok (.aload_n 1, 1) := by decide +kernel
theorem e27_572 : decode cL_law 572 = .ok (.aload_n 3, 1) := by decide +kernel
theorem e27_573 : decode cL_law 573 = .ok (.invokestatic 94, 3) := by decide +kernel
theorem e27_576 : decode cL_law 576 = .ok (.istore 6, 2) := by decide +kernel
theorem e27_578 : decode cL_law 578 = .ok (.aload_n 2, 1) := by decide +kernel
theorem e27_579 : decode cL_law 579 = .ok (.invokevirtual 97, 3) := by decide +kernel
theorem e27_582 : decode cL_law 582 = .ok (.istore 7, 2) := by decide +kernel
theorem e27_584 : decode cL_law 584 = .ok (.aload_n 2, 1) := by decide +kernel
theorem e27_585 : decode cL_law 585 = .ok (.invokevirtual 79, 3) := by decide +kernel
theorem e27_588 : decode cL_law 588 = .ok (.iload 6, 2) := by decide +kernel
theorem e27_590 : decode cL_law 590 = .ok (.if_icmp .eq 5, 3) := by decide +kernel
theorem e27_593 : decode cL_law 593 = .ok (.iconst 0, 1) := by decide +kernel
theorem e27_594 : decode cL_law 594 = .ok (.ireturn, 1) := by decide +kernel
theorem e27_595 : decode cL_law 595 = .ok (.iload 6, 2) := by decide +kernel
theorem e27_597 : decode cL_law 597 = .ok (.ifCond .ne 15, 3) := by decide +kernel
theorem e27_600 : decode cL_law 600 = .ok (.aload_n 3, 1) := by decide +kernel
theorem e27_601 : decode cL_law 601 = .ok (.iconst 0, 1) := by decide +kernel
theorem e27_602 : decode cL_law 602 = .ok (.laload, 1) := by decide +kernel
theorem e27_603 : decode cL_law 603 = .ok (.iload 7, 2) := by decide +kernel
theorem e27_605 : decode cL_law 605 = .ok (.i2l, 1) := by decide +kernel
theorem e27_606 : decode cL_law 606 = .ok (.lcmp, 1) := by decide +kernel
theorem e27_607 : decode cL_law 607 = .ok (.ifCond .eq 5, 3) := by decide +kernel
theorem e27_610 : decode cL_law 610 = .ok (.iconst 0, 1) := by decide +kernel
theorem e27_611 : decode cL_law 611 = .ok (.ireturn, 1) := by decide +kernel
theorem e27_612 : decode cL_law 612 = .ok (.goto 776, 3) := by decide +kernel
theorem e27_615 : decode cL_law 615 = .ok (.aload_n 1, 1) := by decide +kernel
theorem e27_616 : decode cL_law 616 = .ok (.invokevirtual 98, 3) := by decide +kernel
theorem e27_619 : decode cL_law 619 = .ok (.aload_n 2, 1) := by decide +kernel
theorem e27_620 : decode cL_law 620 = .ok (.invokevirtual 102, 3) := by decide +kernel
theorem e27_623 : decode cL_law 623 = .ok (.if_icmp .eq 765, 3) := by decide +kernel
theorem e27_626 : decode cL_law 626 = .ok (.iconst 0, 1) := by decide +kernel
theorem e27_627 : decode cL_law 627 = .ok (.ireturn, 1) := by decide +kernel
theorem e27_628 : decode cL_law 628 = .ok (.aload_n 1, 1) := by decide +kernel
theorem e27_629 : decode cL_law 629 = .ok (.aload_n 0, 1) := by decide +kernel
theorem e27_630 : decode cL_law 630 = .ok (.iload 5, 2) := by decide +kernel
theorem e27_632 : decode cL_law 632 = .ok (.iconst 1, 1) := by decide +kernel
theorem e27_633 : decode cL_law 633 = .ok (.iadd, 1) := by decide +kernel
theorem e27_634 : decode cL_law 634 = .ok (.iaload, 1) := by decide +kernel
theorem e27_635 : decode cL_law 635 = .ok (.aload_n 3, 1) := by decide +kernel
theorem e27_636 : decode cL_law 636 = .ok (.invokestatic 103, 3) := by decide +kernel
theorem e27_639 : decode cL_law 639 = .ok (.istore 6, 2) := by decide +kernel
theorem e27_641 : decode cL_law 641 = .ok (.aload_n 2, 1) := by decide +kernel
theorem e27_642 : decode cL_law 642 = .ok (.aload_n 0, 1) := by decide +kernel
theorem e27_643 : decode cL_law 643 = .ok (.iload 5, 2) := by decide +kernel
theorem e27_645 : decode cL_law 645 = .ok (.iconst 1, 1) := by decide +kernel
theorem e27_646 : decode cL_law 646 = .ok (.iadd, 1) := by decide +kernel
theorem e27_647 : decode cL_law 647 = .ok (.iaload, 1) := by decide +kernel
theorem e27_648 : decode cL_law 648 = .ok (.invokevirtual 106, 3) := by decide +kernel
theorem e27_651 : decode cL_law 651 = .ok (.istore 7, 2) := by decide +kernel
theorem e27_653 : decode cL_law 653 = .ok (.aload_n 2, 1) := by decide +kernel
theorem e27_654 : decode cL_law 654 = .ok (.invokevirtual 79, 3) := by decide +kernel
theorem e27_657 : decode cL_law 657 = .ok (.iload 6, 2) := by decide +kernel
theorem e27_659 : decode cL_law 659 = .ok (.if_icmp .eq 5, 3) := by decide +kernel
theorem e27_662 : decode cL_law 662 = .ok (.iconst 0, 1) := by decide +kernel
theorem e27_663 : decode cL_law 663 = .ok (.ireturn, 1) := by decide +kernel
theorem e27_664 : decode cL_law 664 = .ok (.iload 6, 2) := by decide +kernel
theorem e27_666 : decode cL_law 666 = .ok (.ifCond .ne 15, 3) := by decide +kernel
theorem e27_669 : decode cL_law 669 = .ok (.aload_n 3, 1) := by decide +kernel
theorem e27_670 : decode cL_law 670 = .ok (.iconst 0, 1) := by decide +kernel
theorem e27_671 : decode cL_law 671 = .ok (.laload, 1) := by decide +kernel
theorem e27_672 : decode cL_law 672 = .ok (.iload 7, 2) := by decide +kernel
theorem e27_674 : decode cL_law 674 = .ok (.i2l, 1) := by decide +kernel
theorem e27_675 : decode cL_law 675 = .ok (.lcmp, 1) := by decide +kernel
theorem e27_676 : decode cL_law 676 = .ok (.ifCond .eq 5, 3) := by decide +kernel
theorem e27_679 : decode cL_law 679 = .ok (.iconst 0, 1) := by decide +kernel
theorem e27_680 : decode cL_law 680 = .ok (.ireturn, 1) := by decide +kernel
theorem e27_681 : decode cL_law 681 = .ok (.goto 707, 3) := by decide +kernel
theorem e27_684 : decode cL_law 684 = .ok (.aload_n 1, 1) := by decide +kernel
theorem e27_685 : decode cL_law 685 = .ok (.invokevirtual 107, 3) := by decide +kernel
theorem e27_688 : decode cL_law 688 = .ok (.aload_n 2, 1) := by decide +kernel
theorem e27_689 : decode cL_law 689 = .ok (.invokevirtual 110, 3) := by decide +kernel
theorem e27_692 : decode cL_law 692 = .ok (.if_icmp .eq 696, 3) := by decide +kernel
theorem e27_695 : decode cL_law 695 = .ok (.iconst 0, 1) := by decide +kernel
theorem e27_696 : decode cL_law 696 = .ok (.ireturn, 1) := by decide +kernel
theorem e27_697 : decode cL_law 697 = .ok (.aload_n 1, 1) := by decide +kernel
theorem e27_698 : decode cL_law 698 = .ok (.invokevirtual 111, 3) := by decide +kernel
theorem e27_701 : decode cL_law 701 = .ok (.aload_n 2, 1) := by decide +kernel
theorem e27_702 : decode cL_law 702 = .ok (.invokevirtual 115, 3) := by decide +kernel
theorem e27_705 : decode cL_law 705 = .ok (.if_icmp .eq 683, 3) := by decide +kernel
theorem e27_708 : decode cL_law 708 = .ok (.iconst 0, 1) := by decide +kernel
theorem e27_709 : decode cL_law 709 = .ok (.ireturn, 1) := by decide +kernel
theorem e27_710 : decode cL_law 710 = .ok (.aload_n 1, 1) := by decide +kernel
theorem e27_711 : decode cL_law 711 = .ok (.invokevirtual 116, 3) := by decide +kernel
theorem e27_714 : decode cL_law 714 = .ok (.aload_n 2, 1) := by decide +kernel
theorem e27_715 : decode cL_law 715 = .ok (.invokevirtual 119, 3) := by decide +kernel
theorem e27_718 : decode cL_law 718 = .ok (.if_icmp .eq 670, 3) := by decide +kernel
theorem e27_721 : decode cL_law 721 = .ok (.iconst 0, 1) := by decide +kernel
theorem e27_722 : decode cL_law 722 = .ok (.ireturn, 1) := by decide +kernel
theorem e27_723 : decode cL_law 723 = .ok (.aload_n 1, 1) := by decide +kernel
theorem e27_724 : decode cL_law 724 = .ok (.invokevirtual 120, 3) := by decide +kernel
theorem e27_727 : decode cL_law 727 = .ok (.aload_n 2, 1) := by decide +kernel
theorem e27_728 : decode cL_law 728 = .ok (.invokevirtual 123, 3) := by decide +kernel
theorem e27_731 : decode cL_law 731 = .ok (.if_icmp .eq 657, 3) := by decide +kernel
theorem e27_734 : decode cL_law 734 = .ok (.iconst 0, 1) := by decide +kernel
theorem e27_735 : decode cL_law 735 = .ok (.ireturn, 1) := by decide +kernel
theorem e27_736 : decode cL_law 736 = .ok (.aload_n 1, 1) := by decide +kernel
theorem e27_737 : decode cL_law 737 = .ok (.invokevirtual 124, 3) := by decide +kernel
theorem e27_740 : decode cL_law 740 = .ok (.aload_n 2, 1) := by decide +kernel
theorem e27_741 : decode cL_law 741 = .ok (.invokevirtual 127, 3) := by decide +kernel
theorem e27_744 : decode cL_law 744 = .ok (.if_icmp .eq 644, 3) := by decide +kernel
theorem e27_747 : decode cL_law 747 = .ok (.iconst 0, 1) := by decide +kernel
theorem e27_748 : decode cL_law 748 = .ok (.ireturn, 1) := by decide +kernel
theorem e27_749 : decode cL_law 749 = .ok (.aload_n 1, 1) := by decide +kernel
theorem e27_750 : decode cL_law 750 = .ok (.aload_n 0, 1) := by decide +kernel
theorem e27_751 : decode cL_law 751 = .ok (.iload 5, 2) := by decide +kernel
theorem e27_753 : decode cL_law 753 = .ok (.iconst 1, 1) := by decide +kernel
theorem e27_754 : decode cL_law 754 = .ok (.iadd, 1) := by decide +kernel
theorem e27_755 : decode cL_law 755 = .ok (.iaload, 1) := by decide +kernel
theorem e27_756 : decode cL_law 756 = .ok (.aload_n 3, 1) := by decide +kernel
theorem e27_757 : decode cL_law 757 = .ok (.invokestatic 128, 3) := by decide +kernel
theorem e27_760 : decode cL_law 760 = .ok (.istore 6, 2) := by decide +kernel
theorem e27_762 : decode cL_law 762 = .ok (.aload_n 2, 1) := by decide +kernel
theorem e27_763 : decode cL_law 763 = .ok (.aload_n 0, 1) := by decide +kernel
theorem e27_764 : decode cL_law 764 = .ok (.iload 5, 2) := by decide +kernel
theorem e27_766 : decode cL_law 766 = .ok (.iconst 1, 1) := by decide +kernel
theorem e27_767 : decode cL_law 767 = .ok (.iadd, 1) := by decide +kernel
theorem e27_768 : decode cL_law 768 = .ok (.iaload, 1) := by decide +kernel
theorem e27_769 : decode cL_law 769 = .ok (.invokevirtual 130, 3) := by decide +kernel
theorem e27_772 : decode cL_law 772 = .ok (.istore 7, 2) := by decide +kernel
theorem e27_774 : decode cL_law 774 = .ok (.aload_n 2, 1) := by decide +kernel
theorem e27_775 : decode cL_law 775 = .ok (.invokevirtual 79, 3) := by decide +kernel
theorem e27_778 : decode cL_law 778 = .ok (.iload 6, 2) := by decide +kernel
theorem e27_780 : decode cL_law 780 = .ok (.if_icmp .eq 5, 3) := by decide +kernel
theorem e27_783 : decode cL_law 783 = .ok (.iconst 0, 1) := by decide +kernel
theorem e27_784 : decode cL_law 784 = .ok (.ireturn, 1) := by decide +kernel
theorem e27_785 : decode cL_law 785 = .ok (.iload 6, 2) := by decide +kernel
theorem e27_787 : decode cL_law 787 = .ok (.ifCond .ne 15, 3) := by decide +kernel
theorem e27_790 : decode cL_law 790 = .ok (.aload_n 3, 1) := by decide +kernel
theorem e27_791 : decode cL_law 791 = .ok (.iconst 0, 1) := by decide +kernel
theorem e27_792 : decode cL_law 792 = .ok (.laload, 1) := by decide +kernel
theorem e27_793 : decode cL_law 793 = .ok (.iload 7, 2) := by decide +kernel
theorem e27_795 : decode cL_law 795 = .ok (.i2l, 1) := by decide +kernel
theorem e27_796 : decode cL_law 796 = .ok (.lcmp, 1) := by decide +kernel
theorem e27_797 : decode cL_law 797 = .ok (.ifCond .eq 5, 3) := by decide +kernel
theorem e27_800 : decode cL_law 800 = .ok (.iconst 0, 1) := by decide +kernel
theorem e27_801 : decode cL_law 801 = .ok (.ireturn, 1) := by decide +kernel
theorem e27_802 : decode cL_law 802 = .ok (.goto 586, 3) := by decide +kernel
theorem e27_805 : decode cL_law 805 = .ok (.aload_n 1, 1) := by decide +kernel
theorem e27_806 : decode cL_law 806 = .ok (.aload_n 0, 1) := by decide +kernel
theorem e27_807 : decode cL_law 807 = .ok (.iload 5, 2) := by decide +kernel
theorem e27_809 : decode cL_law 809 = .ok (.iconst 1, 1) := by decide +kernel
theorem e27_810 : decode cL_law 810 = .ok (.iadd, 1) := by decide +kernel
theorem e27_811 : decode cL_law 811 = .ok (.iaload, 1) := by decide +kernel
theorem e27_812 : decode cL_law 812 = .ok (.aload_n 3, 1) := by decide +kernel
theorem e27_813 : decode cL_law 813 = .ok (.invokestatic 131, 3) := by decide +kernel
theorem e27_816 : decode cL_law 816 = .ok (.istore 6, 2) := by decide +kernel
theorem e27_818 : decode cL_law 818 = .ok (.aload_n 2, 1) := by decide +kernel
theorem e27_819 : decode cL_law 819 = .ok (.aload_n 0, 1) := by decide +kernel
theorem e27_820 : decode cL_law 820 = .ok (.iload 5, 2) := by decide +kernel
theorem e27_822 : decode cL_law 822 = .ok (.iconst 1, 1) := by decide +kernel
theorem e27_823 : decode cL_law 823 = .ok (.iadd, 1) := by decide +kernel
theorem e27_824 : decode cL_law 824 = .ok (.iaload, 1) := by decide +kernel
theorem e27_825 : decode cL_law 825 = .ok (.invokevirtual 133, 3) := by decide +kernel
theorem e27_828 : decode cL_law 828 = .ok (.istore 7, 2) := by decide +kernel
theorem e27_830 : decode cL_law 830 = .ok (.aload_n 2, 1) := by decide +kernel
theorem e27_831 : decode cL_law 831 = .ok (.invokevirtual 79, 3) := by decide +kernel
theorem e27_834 : decode cL_law 834 = .ok (.iload 6, 2) := by decide +kernel
theorem e27_836 : decode cL_law 836 = .ok (.if_icmp .eq 5, 3) := by decide +kernel
theorem e27_839 : decode cL_law 839 = .ok (.iconst 0, 1) := by decide +kernel
theorem e27_840 : decode cL_law 840 = .ok (.ireturn, 1) := by decide +kernel
theorem e27_841 : decode cL_law 841 = .ok (.iload 6, 2) := by decide +kernel
theorem e27_843 : decode cL_law 843 = .ok (.ifCond .ne 15, 3) := by decide +kernel
theorem e27_846 : decode cL_law 846 = .ok (.aload_n 3, 1) := by decide +kernel
theorem e27_847 : decode cL_law 847 = .ok (.iconst 0, 1) := by decide +kernel
theorem e27_848 : decode cL_law 848 = .ok (.laload, 1) := by decide +kernel
theorem e27_849 : decode cL_law 849 = .ok (.iload 7, 2) := by decide +kernel
theorem e27_851 : decode cL_law 851 = .ok (.i2l, 1) := by decide +kernel
theorem e27_852 : decode cL_law 852 = .ok (.lcmp, 1) := by decide +kernel
theorem e27_853 : decode cL_law 853 = .ok (.ifCond .eq 5, 3) := by decide +kernel
theorem e27_856 : decode cL_law 856 = .ok (.iconst 0, 1) := by decide +kernel
theorem e27_857 : decode cL_law 857 = .ok (.ireturn, 1) := by decide +kernel
theorem e27_858 : decode cL_law 858 = .ok (.goto 530, 3) := by decide +kernel
theorem e27_861 : decode cL_law 861 = .ok (.aload_n 1, 1) := by decide +kernel
theorem e27_862 : decode cL_law 862 = .ok (.invokevirtual 134, 3) := by decide +kernel
theorem e27_865 : decode cL_law 865 = .ok (.aload_n 2, 1) := by decide +kernel
theorem e27_866 : decode cL_law 866 = .ok (.invokevirtual 137, 3) := by decide +kernel
theorem e27_869 : decode cL_law 869 = .ok (.if_icmp .eq 519, 3) := by decide +kernel
theorem e27_872 : decode cL_law 872 = .ok (.iconst 0, 1) := by decide +kernel
theorem e27_873 : decode cL_law 873 = .ok (.ireturn, 1) := by decide +kernel
theorem e27_874 : decode cL_law 874 = .ok (.aload_n 1, 1) := by decide +kernel
theorem e27_875 : decode cL_law 875 = .ok (.aload_n 0, 1) := by decide +kernel
theorem e27_876 : decode cL_law 876 = .ok (.iload 5, 2) := by decide +kernel
theorem e27_878 : decode cL_law 878 = .ok (.iconst 1, 1) := by decide +kernel
theorem e27_879 : decode cL_law 879 = .ok (.iadd, 1) := by decide +kernel
theorem e27_880 : decode cL_law 880 = .ok (.iaload, 1) := by decide +kernel
theorem e27_881 : decode cL_law 881 = .ok (.aload_n 0, 1) := by decide +kernel
theorem e27_882 : decode cL_law 882 = .ok (.iload 5, 2) := by decide +kernel
theorem e27_884 : decode cL_law 884 = .ok (.iconst 2, 1) := by decide +kernel
theorem e27_885 : decode cL_law 885 = .ok (.iadd, 1) := by decide +kernel
theorem e27_886 : decode cL_law 886 = .ok (.iaload, 1) := by decide +kernel
theorem e27_887 : decode cL_law 887 = .ok (.aload_n 3, 1) := by decide +kernel
theorem e27_888 : decode cL_law 888 = .ok (.invokestatic 138, 3) := by decide +kernel
theorem e27_891 : decode cL_law 891 = .ok (.istore 6, 2) := by decide +kernel
theorem e27_893 : decode cL_law 893 = .ok (.aload_n 2, 1) := by decide +kernel
theorem e27_894 : decode cL_law 894 = .ok (.aload_n 0, 1) := by decide +kernel
theorem e27_895 : decode cL_law 895 = .ok (.iload 5, 2) := by decide +kernel
theorem e27_897 : decode cL_law 897 = .ok (.iconst 1, 1) := by decide +kernel
theorem e27_898 : decode cL_law 898 = .ok (.iadd, 1) := by decide +kernel
theorem e27_899 : decode cL_law 899 = .ok (.iaload, 1) := by decide +kernel
theorem e27_900 : decode cL_law 900 = .ok (.aload_n 0, 1) := by decide +kernel
theorem e27_901 : decode cL_law 901 = .ok (.iload 5, 2) := by decide +kernel
theorem e27_903 : decode cL_law 903 = .ok (.iconst 2, 1) := by decide +kernel
theorem e27_904 : decode cL_law 904 = .ok (.iadd, 1) := by decide +kernel
theorem e27_905 : decode cL_law 905 = .ok (.iaload, 1) := by decide +kernel
theorem e27_906 : decode cL_law 906 = .ok (.invokevirtual 141, 3) := by decide +kernel
theorem e27_909 : decode cL_law 909 = .ok (.istore 7, 2) := by decide +kernel
theorem e27_911 : decode cL_law 911 = .ok (.aload_n 2, 1) := by decide +kernel
theorem e27_912 : decode cL_law 912 = .ok (.invokevirtual 79, 3) := by decide +kernel
theorem e27_915 : decode cL_law 915 = .ok (.iload 6, 2) := by decide +kernel
theorem e27_917 : decode cL_law 917 = .ok (.if_icmp .eq 5, 3) := by decide +kernel
theorem e27_920 : decode cL_law 920 = .ok (.iconst 0, 1) := by decide +kernel
theorem e27_921 : decode cL_law 921 = .ok (.ireturn, 1) := by decide +kernel
theorem e27_922 : decode cL_law 922 = .ok (.iload 6, 2) := by decide +kernel
theorem e27_924 : decode cL_law 924 = .ok (.ifCond .ne 15, 3) := by decide +kernel
theorem e27_927 : decode cL_law 927 = .ok (.aload_n 3, 1) := by decide +kernel
theorem e27_928 : decode cL_law 928 = .ok (.iconst 0, 1) := by decide +kernel
theorem e27_929 : decode cL_law 929 = .ok (.laload, 1) := by decide +kernel
theorem e27_930 : decode cL_law 930 = .ok (.iload 7, 2) := by decide +kernel
theorem e27_932 : decode cL_law 932 = .ok (.i2l, 1) := by decide +kernel
theorem e27_933 : decode cL_law 933 = .ok (.lcmp, 1) := by decide +kernel
theorem e27_934 : decode cL_law 934 = .ok (.ifCond .eq 5, 3) := by decide +kernel
theorem e27_937 : decode cL_law 937 = .ok (.iconst 0, 1) := by decide +kernel
theorem e27_938 : decode cL_law 938 = .ok (.ireturn, 1) := by decide +kernel
theorem e27_939 : decode cL_law 939 = .ok (.goto 449, 3) := by decide +kernel
theorem e27_942 : decode cL_law 942 = .ok (.aload_n 1, 1) := by decide +kernel
theorem e27_943 : decode cL_law 943 = .ok (.aload_n 0, 1) := by decide +kernel
theorem e27_944 : decode cL_law 944 = .ok (.iload 5, 2) := by decide +kernel
theorem e27_946 : decode cL_law 946 = .ok (.iconst 1, 1) := by decide +kernel
theorem e27_947 : decode cL_law 947 = .ok (.iadd, 1) := by decide +kernel
theorem e27_948 : decode cL_law 948 = .ok (.iaload, 1) := by decide +kernel
theorem e27_949 : decode cL_law 949 = .ok (.aload_n 0, 1) := by decide +kernel
theorem e27_950 : decode cL_law 950 = .ok (.iload 5, 2) := by decide +kernel
theorem e27_952 : decode cL_law 952 = .ok (.iconst 2, 1) := by decide +kernel
theorem e27_953 : decode cL_law 953 = .ok (.iadd, 1) := by decide +kernel
theorem e27_954 : decode cL_law 954 = .ok (.iaload, 1) := by decide +kernel
theorem e27_955 : decode cL_law 955 = .ok (.aload_n 0, 1) := by decide +kernel
theorem e27_956 : decode cL_law 956 = .ok (.iload 5, 2) := by decide +kernel
theorem e27_958 : decode cL_law 958 = .ok (.iconst 3, 1) := by decide +kernel
theorem e27_959 : decode cL_law 959 = .ok (.iadd, 1) := by decide +kernel
theorem e27_960 : decode cL_law 960 = .ok (.iaload, 1) := by decide +kernel
theorem e27_961 : decode cL_law 961 = .ok (.aload_n 3, 1) := by decide +kernel
theorem e27_962 : decode cL_law 962 = .ok (.invokestatic 142, 3) := by decide +kernel
theorem e27_965 : decode cL_law 965 = .ok (.istore 6, 2) := by decide +kernel
theorem e27_967 : decode cL_law 967 = .ok (.aload_n 2, 1) := by decide +kernel
theorem e27_968 : decode cL_law 968 = .ok (.aload_n 0, 1) := by decide +kernel
theorem e27_969 : decode cL_law 969 = .ok (.iload 5, 2) := by decide +kernel
theorem e27_971 : decode cL_law 971 = .ok (.iconst 1, 1) := by decide +kernel
theorem e27_972 : decode cL_law 972 = .ok (.iadd, 1) := by decide +kernel
theorem e27_973 : decode cL_law 973 = .ok (.iaload, 1) := by decide +kernel
theorem e27_974 : decode cL_law 974 = .ok (.aload_n 0, 1) := by decide +kernel
theorem e27_975 : decode cL_law 975 = .ok (.iload 5, 2) := by decide +kernel
theorem e27_977 : decode cL_law 977 = .ok (.iconst 2, 1) := by decide +kernel
theorem e27_978 : decode cL_law 978 = .ok (.iadd, 1) := by decide +kernel
theorem e27_979 : decode cL_law 979 = .ok (.iaload, 1) := by decide +kernel
theorem e27_980 : decode cL_law 980 = .ok (.aload_n 0, 1) := by decide +kernel
theorem e27_981 : decode cL_law 981 = .ok (.iload 5, 2) := by decide +kernel
theorem e27_983 : decode cL_law 983 = .ok (.iconst 3, 1) := by decide +kernel
theorem e27_984 : decode cL_law 984 = .ok (.iadd, 1) := by decide +kernel
theorem e27_985 : decode cL_law 985 = .ok (.iaload, 1) := by decide +kernel
theorem e27_986 : decode cL_law 986 = .ok (.invokevirtual 145, 3) := by decide +kernel
theorem e27_989 : decode cL_law 989 = .ok (.istore 7, 2) := by decide +kernel
theorem e27_991 : decode cL_law 991 = .ok (.aload_n 2, 1) := by decide +kernel
theorem e27_992 : decode cL_law 992 = .ok (.invokevirtual 79, 3) := by decide +kernel
theorem e27_995 : decode cL_law 995 = .ok (.iload 6, 2) := by decide +kernel
theorem e27_997 : decode cL_law 997 = .ok (.if_icmp .eq 5, 3) := by decide +kernel
theorem e27_1000 : decode cL_law 1000 = .ok (.iconst 0, 1) := by decide +kernel
theorem e27_1001 : decode cL_law 1001 = .ok (.ireturn, 1) := by decide +kernel
theorem e27_1002 : decode cL_law 1002 = .ok (.iload 6, 2) := by decide +kernel
theorem e27_1004 : decode cL_law 1004 = .ok (.ifCond .ne 22, 3) := by decide +kernel
theorem e27_1007 : decode cL_law 1007 = .ok (.aload_n 3, 1) := by decide +kernel
theorem e27_1008 : decode cL_law 1008 = .ok (.iconst 0, 1) := by decide +kernel
theorem e27_1009 : decode cL_law 1009 = .ok (.laload, 1) := by decide +kernel
theorem e27_1010 : decode cL_law 1010 = .ok (.iload 7, 2) := by decide +kernel
theorem e27_1012 : decode cL_law 1012 = .ok (.ifCond .eq 7, 3) := by decide +kernel
theorem e27_1015 : decode cL_law 1015 = .ok (.lconst 1, 1) := by decide +kernel
theorem e27_1016 : decode cL_law 1016 = .ok (.goto 4, 3) := by decide +kernel
theorem e27_1019 : decode cL_law 1019 = .ok (.lconst 0, 1) := by decide +kernel
theorem e27_1020 : decode cL_law 1020 = .ok (.lcmp, 1) := by decide +kernel
theorem e27_1021 : decode cL_law 1021 = .ok (.ifCond .eq 5, 3) := by decide +kernel
theorem e27_1024 : decode cL_law 1024 = .ok (.iconst 0, 1) := by decide +kernel
theorem e27_1025 : decode cL_law 1025 = .ok (.ireturn, 1) := by decide +kernel
theorem e27_1026 : decode cL_law 1026 = .ok (.goto 362, 3) := by decide +kernel
theorem e27_1029 : decode cL_law 1029 = .ok (.aload_n 1, 1) := by decide +kernel
theorem e27_1030 : decode cL_law 1030 = .ok (.aload_n 0, 1) := by decide +kernel
theorem e27_1031 : decode cL_law 1031 = .ok (.iload 5, 2) := by decide +kernel
theorem e27_1033 : decode cL_law 1033 = .ok (.iconst 1, 1) := by decide +kernel
theorem e27_1034 : decode cL_law 1034 = .ok (.iadd, 1) := by decide +kernel
theorem e27_1035 : decode cL_law 1035 = .ok (.iaload, 1) := by decide +kernel
theorem e27_1036 : decode cL_law 1036 = .ok (.aload_n 0, 1) := by decide +kernel
theorem e27_1037 : decode cL_law 1037 = .ok (.iload 5, 2) := by decide +kernel
theorem e27_1039 : decode cL_law 1039 = .ok (.iconst 2, 1) := by decide +kernel
theorem e27_1040 : decode cL_law 1040 = .ok (.iadd, 1) := by decide +kernel
theorem e27_1041 : decode cL_law 1041 = .ok (.iaload, 1) := by decide +kernel
theorem e27_1042 : decode cL_law 1042 = .ok (.aload_n 0, 1) := by decide +kernel
theorem e27_1043 : decode cL_law 1043 = .ok (.iload 5, 2) := by decide +kernel
theorem e27_1045 : decode cL_law 1045 = .ok (.iconst 3, 1) := by decide +kernel
theorem e27_1046 : decode cL_law 1046 = .ok (.iadd, 1) := by decide +kernel
theorem e27_1047 : decode cL_law 1047 = .ok (.iaload, 1) := by decide +kernel
theorem e27_1048 : decode cL_law 1048 = .ok (.aload_n 3, 1) := by decide +kernel
theorem e27_1049 : decode cL_law 1049 = .ok (.invokestatic 146, 3) := by decide +kernel
theorem e27_1052 : decode cL_law 1052 = .ok (.istore 6, 2) := by decide +kernel
theorem e27_1054 : decode cL_law 1054 = .ok (.aload_n 2, 1) := by decide +kernel
theorem e27_1055 : decode cL_law 1055 = .ok (.aload_n 0, 1) := by decide +kernel
theorem e27_1056 : decode cL_law 1056 = .ok (.iload 5, 2) := by decide +kernel
theorem e27_1058 : decode cL_law 1058 = .ok (.iconst 1, 1) := by decide +kernel
theorem e27_1059 : decode cL_law 1059 = .ok (.iadd, 1) := by decide +kernel
theorem e27_1060 : decode cL_law 1060 = .ok (.iaload, 1) := by decide +kernel
theorem e27_1061 : decode cL_law 1061 = .ok (.aload_n 0, 1) := by decide +kernel
theorem e27_1062 : decode cL_law 1062 = .ok (.iload 5, 2) := by decide +kernel
theorem e27_1064 : decode cL_law 1064 = .ok (.iconst 2, 1) := by decide +kernel
theorem e27_1065 : decode cL_law 1065 = .ok (.iadd, 1) := by decide +kernel
theorem e27_1066 : decode cL_law 1066 = .ok (.iaload, 1) := by decide +kernel
theorem e27_1067 : decode cL_law 1067 = .ok (.aload_n 0, 1) := by decide +kernel
theorem e27_1068 : decode cL_law 1068 = .ok (.iload 5, 2) := by decide +kernel
theorem e27_1070 : decode cL_law 1070 = .ok (.iconst 3, 1) := by decide +kernel
theorem e27_1071 : decode cL_law 1071 = .ok (.iadd, 1) := by decide +kernel
theorem e27_1072 : decode cL_law 1072 = .ok (.iaload, 1) := by decide +kernel
theorem e27_1073 : decode cL_law 1073 = .ok (.invokevirtual 148, 3) := by decide +kernel
theorem e27_1076 : decode cL_law 1076 = .ok (.istore 7, 2) := by decide +kernel
theorem e27_1078 : decode cL_law 1078 = .ok (.aload_n 2, 1) := by decide +kernel
theorem e27_1079 : decode cL_law 1079 = .ok (.invokevirtual 79, 3) := by decide +kernel
theorem e27_1082 : decode cL_law 1082 = .ok (.iload 6, 2) := by decide +kernel
theorem e27_1084 : decode cL_law 1084 = .ok (.if_icmp .eq 5, 3) := by decide +kernel
theorem e27_1087 : decode cL_law 1087 = .ok (.iconst 0, 1) := by decide +kernel
theorem e27_1088 : decode cL_law 1088 = .ok (.ireturn, 1) := by decide +kernel
theorem e27_1089 : decode cL_law 1089 = .ok (.iload 6, 2) := by decide +kernel
theorem e27_1091 : decode cL_law 1091 = .ok (.ifCond .ne 22, 3) := by decide +kernel
theorem e27_1094 : decode cL_law 1094 = .ok (.aload_n 3, 1) := by decide +kernel
theorem e27_1095 : decode cL_law 1095 = .ok (.iconst 0, 1) := by decide +kernel
theorem e27_1096 : decode cL_law 1096 = .ok (.laload, 1) := by decide +kernel
theorem e27_1097 : decode cL_law 1097 = .ok (.iload 7, 2) := by decide +kernel
theorem e27_1099 : decode cL_law 1099 = .ok (.ifCond .eq 7, 3) := by decide +kernel
theorem e27_1102 : decode cL_law 1102 = .ok (.lconst 1, 1) := by decide +kernel
theorem e27_1103 : decode cL_law 1103 = .ok (.goto 4, 3) := by decide +kernel
theorem e27_1106 : decode cL_law 1106 = .ok (.lconst 0, 1) := by decide +kernel
theorem e27_1107 : decode cL_law 1107 = .ok (.lcmp, 1) := by decide +kernel
theorem e27_1108 : decode cL_law 1108 = .ok (.ifCond .eq 5, 3) := by decide +kernel
theorem e27_1111 : decode cL_law 1111 = .ok (.iconst 0, 1) := by decide +kernel
theorem e27_1112 : decode cL_law 1112 = .ok (.ireturn, 1) := by decide +kernel
theorem e27_1113 : decode cL_law 1113 = .ok (.goto 275, 3) := by decide +kernel
theorem e27_1116 : decode cL_law 1116 = .ok (.aload_n 1, 1) := by decide +kernel
theorem e27_1117 : decode cL_law 1117 = .ok (.invokevirtual 149, 3) := by decide +kernel
theorem e27_1120 : decode cL_law 1120 = .ok (.aload_n 2, 1) := by decide +kernel
theorem e27_1121 : decode cL_law 1121 = .ok (.invokevirtual 152, 3) := by decide +kernel
theorem e27_1124 : decode cL_law 1124 = .ok (.if_icmp .eq 264, 3) := by decide +kernel
theorem e27_1127 : decode cL_law 1127 = .ok (.iconst 0, 1) := by decide +kernel
theorem e27_1128 : decode cL_law 1128 = .ok (.ireturn, 1) := by decide +kernel
theorem e27_1129 : decode cL_law 1129 = .ok (.aload_n 1, 1) := by decide +kernel
theorem e27_1130 : decode cL_law 1130 = .ok (.aload_n 0, 1) := by decide +kernel
theorem e27_1131 : decode cL_law 1131 = .ok (.iload 5, 2) := by decide +kernel
theorem e27_1133 : decode cL_law 1133 = .ok (.iconst 1, 1) := by decide +kernel
theorem e27_1134 : decode cL_law 1134 = .ok (.iadd, 1) := by decide +kernel
theorem e27_1135 : decode cL_law 1135 = .ok (.iaload, 1) := by decide +kernel
theorem e27_1136 : decode cL_law 1136 = .ok (.aload_n 0, 1) := by decide +kernel
theorem e27_1137 : decode cL_law 1137 = .ok (.iload 5, 2) := by decide +kernel
theorem e27_1139 : decode cL_law 1139 = .ok (.iconst 2, 1) := by decide +kernel
theorem e27_1140 : decode cL_law 1140 = .ok (.iadd, 1) := by decide +kernel
theorem e27_1141 : decode cL_law 1141 = .ok (.iaload, 1) := by decide +kernel
theorem e27_1142 : decode cL_law 1142 = .ok (.aload_n 3, 1) := by decide +kernel
theorem e27_1143 : decode cL_law 1143 = .ok (.invokestatic 153, 3) := by decide +kernel
theorem e27_1146 : decode cL_law 1146 = .ok (.istore 6, 2) := by decide +kernel
theorem e27_1148 : decode cL_law 1148 = .ok (.aload_n 2, 1) := by decide +kernel
theorem e27_1149 : decode cL_law 1149 = .ok (.aload_n 0, 1) := by decide +kernel
theorem e27_1150 : decode cL_law 1150 = .ok (.iload 5, 2) := by decide +kernel
theorem e27_1152 : decode cL_law 1152 = .ok (.iconst 1, 1) := by decide +kernel
theorem e27_1153 : decode cL_law 1153 = .ok (.iadd, 1) := by decide +kernel
theorem e27_1154 : decode cL_law 1154 = .ok (.iaload, 1) := by decide +kernel
theorem e27_1155 : decode cL_law 1155 = .ok (.aload_n 0, 1) := by decide +kernel
theorem e27_1156 : decode cL_law 1156 = .ok (.iload 5, 2) := by decide +kernel
theorem e27_1158 : decode cL_law 1158 = .ok (.iconst 2, 1) := by decide +kernel
theorem e27_1159 : decode cL_law 1159 = .ok (.iadd, 1) := by decide +kernel
theorem e27_1160 : decode cL_law 1160 = .ok (.iaload, 1) := by decide +kernel
theorem e27_1161 : decode cL_law 1161 = .ok (.invokevirtual 155, 3) := by decide +kernel
theorem e27_1164 : decode cL_law 1164 = .ok (.istore 7, 2) := by decide +kernel
theorem e27_1166 : decode cL_law 1166 = .ok (.aload_n 2, 1) := by decide +kernel
theorem e27_1167 : decode cL_law 1167 = .ok (.invokevirtual 79, 3) := by decide +kernel
theorem e27_1170 : decode cL_law 1170 = .ok (.iload 6, 2) := by decide +kernel
theorem e27_1172 : decode cL_law 1172 = .ok (.if_icmp .eq 5, 3) := by decide +kernel
theorem e27_1175 : decode cL_law 1175 = .ok (.iconst 0, 1) := by decide +kernel
theorem e27_1176 : decode cL_law 1176 = .ok (.ireturn, 1) := by decide +kernel
theorem e27_1177 : decode cL_law 1177 = .ok (.iload 6, 2) := by decide +kernel
theorem e27_1179 : decode cL_law 1179 = .ok (.ifCond .ne 15, 3) := by decide +kernel
theorem e27_1182 : decode cL_law 1182 = .ok (.aload_n 3, 1) := by decide +kernel
theorem e27_1183 : decode cL_law 1183 = .ok (.iconst 0, 1) := by decide +kernel
theorem e27_1184 : decode cL_law 1184 = .ok (.laload, 1) := by decide +kernel
theorem e27_1185 : decode cL_law 1185 = .ok (.iload 7, 2) := by decide +kernel
theorem e27_1187 : decode cL_law 1187 = .ok (.i2l, 1) := by decide +kernel
theorem e27_1188 : decode cL_law 1188 = .ok (.lcmp, 1) := by decide +kernel
theorem e27_1189 : decode cL_law 1189 = .ok (.ifCond .eq 5, 3) := by decide +kernel
theorem e27_1192 : decode cL_law 1192 = .ok (.iconst 0, 1) := by decide +kernel
theorem e27_1193 : decode cL_law 1193 = .ok (.ireturn, 1) := by decide +kernel
theorem e27_1194 : decode cL_law 1194 = .ok (.goto 194, 3) := by decide +kernel
theorem e27_1197 : decode cL_law 1197 = .ok (.aload_n 1, 1) := by decide +kernel
theorem e27_1198 : decode cL_law 1198 = .ok (.invokevirtual 156, 3) := by decide +kernel
theorem e27_1201 : decode cL_law 1201 = .ok (.aload_n 2, 1) := by decide +kernel
theorem e27_1202 : decode cL_law 1202 = .ok (.invokevirtual 160, 3) := by decide +kernel
theorem e27_1205 : decode cL_law 1205 = .ok (.lcmp, 1) := by decide +kernel
theorem e27_1206 : decode cL_law 1206 = .ok (.ifCond .eq 182, 3) := by decide +kernel
theorem e27_1209 : decode cL_law 1209 = .ok (.iconst 0, 1) := by decide +kernel
theorem e27_1210 : decode cL_law 1210 = .ok (.ireturn, 1) := by decide +kernel
theorem e27_1211 : decode cL_law 1211 = .ok (.aload_n 1, 1) := by decide +kernel
theorem e27_1212 : decode cL_law 1212 = .ok (.invokevirtual 161, 3) := by decide +kernel
theorem e27_1215 : decode cL_law 1215 = .ok (.f2d, 1) := by decide +kernel
theorem e27_1216 : decode cL_law 1216 = .ok (.dstore 6, 2) := by decide +kernel
theorem e27_1218 : decode cL_law 1218 = .ok (.aload_n 2, 1) := by decide +kernel
theorem e27_1219 : decode cL_law 1219 = .ok (.invokevirtual 165, 3) := by decide +kernel
theorem e27_1222 : decode cL_law 1222 = .ok (.f2d, 1) := by decide +kernel
theorem e27_1223 : decode cL_law 1223 = .ok (.dstore 8, 2) := by decide +kernel
theorem e27_1225 : decode cL_law 1225 = .ok (.dload 6, 2) := by decide +kernel
theorem e27_1227 : decode cL_law 1227 = .ok (.dload 8, 2) := by decide +kernel
theorem e27_1229 : decode cL_law 1229 = .ok (.dcmp .l, 1) := by decide +kernel
theorem e27_1230 : decode cL_law 1230 = .ok (.ifCond .eq 21, 3) := by decide +kernel
theorem e27_1233 : decode cL_law 1233 = .ok (.dload 6, 2) := by decide +kernel
theorem e27_1235 : decode cL_law 1235 = .ok (.dload 6, 2) := by decide +kernel
theorem e27_1237 : decode cL_law 1237 = .ok (.dcmp .l, 1) := by decide +kernel
theorem e27_1238 : decode cL_law 1238 = .ok (.ifCond .eq 11, 3) := by decide +kernel
theorem e27_1241 : decode cL_law 1241 = .ok (.dload 8, 2) := by decide +kernel
theorem e27_1243 : decode cL_law 1243 = .ok (.dload 8, 2) := by decide +kernel
theorem e27_1245 : decode cL_law 1245 = .ok (.dcmp .l, 1) := by decide +kernel
theorem e27_1246 : decode cL_law 1246 = .ok (.ifCond .ne 5, 3) := by decide +kernel
theorem e27_1249 : decode cL_law 1249 = .ok (.iconst 0, 1) := by decide +kernel
theorem e27_1250 : decode cL_law 1250 = .ok (.ireturn, 1) := by decide +kernel
theorem e27_1251 : decode cL_law 1251 = .ok (.goto 137, 3) := by decide +kernel
theorem e27_1254 : decode cL_law 1254 = .ok (.aload_n 1, 1) := by decide +kernel
theorem e27_1255 : decode cL_law 1255 = .ok (.invokevirtual 166, 3) := by decide +kernel
theorem e27_1258 : decode cL_law 1258 = .ok (.aload_n 2, 1) := by decide +kernel
theorem e27_1259 : decode cL_law 1259 = .ok (.invokevirtual 169, 3) := by decide +kernel
theorem e27_1262 : decode cL_law 1262 = .ok (.if_icmp .eq 126, 3) := by decide +kernel
theorem e27_1265 : decode cL_law 1265 = .ok (.iconst 0, 1) := by decide +kernel
theorem e27_1266 : decode cL_law 1266 = .ok (.ireturn, 1) := by decide +kernel
theorem e27_1267 : decode cL_law 1267 = .ok (.aload_n 1, 1) := by decide +kernel
theorem e27_1268 : decode cL_law 1268 = .ok (.aload 4, 2) := by decide +kernel
theorem e27_1270 : decode cL_law 1270 = .ok (.invokestatic 170, 3) := by decide +kernel
theorem e27_1273 : decode cL_law 1273 = .ok (.istore 6, 2) := by decide +kernel
theorem e27_1275 : decode cL_law 1275 = .ok (.aload_n 2, 1) := by decide +kernel
theorem e27_1276 : decode cL_law 1276 = .ok (.invokevirtual 173, 3) := by decide +kernel
theorem e27_1279 : decode cL_law 1279 = .ok (.dstore 7, 2) := by decide +kernel
theorem e27_1281 : decode cL_law 1281 = .ok (.aload_n 2, 1) := by decide +kernel
theorem e27_1282 : decode cL_law 1282 = .ok (.invokevirtual 79, 3) := by decide +kernel
theorem e27_1285 : decode cL_law 1285 = .ok (.iload 6, 2) := by decide +kernel
theorem e27_1287 : decode cL_law 1287 = .ok (.if_icmp .eq 5, 3) := by decide +kernel
theorem e27_1290 : decode cL_law 1290 = .ok (.iconst 0, 1) := by decide +kernel
theorem e27_1291 : decode cL_law 1291 = .ok (.ireturn, 1) := by decide +kernel
theorem e27_1292 : decode cL_law 1292 = .ok (.iload 6, 2) := by decide +kernel
theorem e27_1294 : decode cL_law 1294 = .ok (.ifCond .ne 35, 3) := by decide +kernel
theorem e27_1297 : decode cL_law 1297 = .ok (.aload 4, 2) := by decide +kernel
theorem e27_1299 : decode cL_law 1299 = .ok (.iconst 0, 1) := by decide +kernel
theorem e27_1300 : decode cL_law 1300 = .ok (.daload, 1) := by decide +kernel
theorem e27_1301 : decode cL_law 1301 = .ok (.dload 7, 2) := by decide +kernel
theorem e27_1303 : decode cL_law 1303 = .ok (.dcmp .l, 1) := by decide +kernel
theorem e27_1304 : decode cL_law 1304 = .ok (.ifCond .eq 25, 3) := by decide +kernel
theorem e27_1307 : decode cL_law 1307 = .ok (.aload 4, 2) := by decide +kernel
theorem e27_1309 : decode cL_law 1309 = .ok (.iconst 0, 1) := by decide +kernel
theorem e27_1310 : decode cL_law 1310 = .ok (.daload, 1) := by decide +kernel
theorem e27_1311 : decode cL_law 1311 = .ok (.aload 4, 2) := by decide +kernel
theorem e27_1313 : decode cL_law 1313 = .ok (.iconst 0, 1) := by decide +kernel
theorem e27_1314 : decode cL_law 1314 = .ok (.daload, 1) := by decide +kernel
theorem e27_1315 : decode cL_law 1315 = .ok (.dcmp .l, 1) := by decide +kernel
theorem e27_1316 : decode cL_law 1316 = .ok (.ifCond .eq 11, 3) := by decide +kernel
theorem e27_1319 : decode cL_law 1319 = .ok (.dload 7, 2) := by decide +kernel
theorem e27_1321 : decode cL_law 1321 = .ok (.dload 7, 2) := by decide +kernel
theorem e27_1323 : decode cL_law 1323 = .ok (.dcmp .l, 1) := by decide +kernel
theorem e27_1324 : decode cL_law 1324 = .ok (.ifCond .ne 5, 3) := by decide +kernel
theorem e27_1327 : decode cL_law 1327 = .ok (.iconst 0, 1) := by decide +kernel
theorem e27_1328 : decode cL_law 1328 = .ok (.ireturn, 1) := by decide +kernel
theorem e27_1329 : decode cL_law 1329 = .ok (.goto 59, 3) := by decide +kernel
theorem e27_1332 : decode cL_law 1332 = .ok (.aload_n 1, 1) := by decide +kernel
theorem e27_1333 : decode cL_law 1333 = .ok (.invokevirtual 174, 3) := by decide +kernel
theorem e27_1336 : decode cL_law 1336 = .ok (.f2d, 1) := by decide +kernel
theorem e27_1337 : decode cL_law 1337 = .ok (.dstore 6, 2) := by decide +kernel
theorem e27_1339 : decode cL_law 1339 = .ok (.aload_n 2, 1) := by decide +kernel
theorem e27_1340 : decode cL_law 1340 = .ok (.invokevirtual 177, 3) := by decide +kernel
theorem e27_1343 : decode cL_law 1343 = .ok (.f2d, 1) := by decide +kernel
theorem e27_1344 : decode cL_law 1344 = .ok (.dstore 8, 2) := by decide +kernel
theorem e27_1346 : decode cL_law 1346 = .ok (.dload 6, 2) := by decide +kernel
theorem e27_1348 : decode cL_law 1348 = .ok (.dload 8, 2) := by decide +kernel
theorem e27_1350 : decode cL_law 1350 = .ok (.dcmp .l, 1) := by decide +kernel
theorem e27_1351 : decode cL_law 1351 = .ok (.ifCond .eq 21, 3) := by decide +kernel
theorem e27_1354 : decode cL_law 1354 = .ok (.dload 6, 2) := by decide +kernel
theorem e27_1356 : decode cL_law 1356 = .ok (.dload 6, 2) := by decide +kernel
theorem e27_1358 : decode cL_law 1358 = .ok (.dcmp .l, 1) := by decide +kernel
theorem e27_1359 : decode cL_law 1359 = .ok (.ifCond .eq 11, 3) := by decide +kernel
theorem e27_1362 : decode cL_law 1362 = .ok (.dload 8, 2) := by decide +kernel
theorem e27_1364 : decode cL_law 1364 = .ok (.dload 8, 2) := by decide +kernel
theorem e27_1366 : decode cL_law 1366 = .ok (.dcmp .l, 1) := by decide +kernel
theorem e27_1367 : decode cL_law 1367 = .ok (.ifCond .ne 5, 3) := by decide +kernel
theorem e27_1370 : decode cL_law 1370 = .ok (.iconst 0, 1) := by decide +kernel
theorem e27_1371 : decode cL_law 1371 = .ok (.ireturn, 1) := by decide +kernel
theorem e27_1372 : decode cL_law 1372 = .ok (.goto 16, 3) := by decide +kernel
theorem e27_1375 : decode cL_law 1375 = .ok (.aload_n 1, 1) := by decide +kernel
theorem e27_1376 : decode cL_law 1376 = .ok (.invokevirtual 178, 3) := by decide +kernel
theorem e27_1379 : decode cL_law 1379 = .ok (.aload_n 2, 1) := by decide +kernel
theorem e27_1380 : decode cL_law 1380 = .ok (.invokevirtual 181, 3) := by decide +kernel
theorem e27_1383 : decode cL_law 1383 = .ok (.if_icmp .eq 5, 3) := by decide +kernel
theorem e27_1386 : decode cL_law 1386 = .ok (.iconst 0, 1) := by decide +kernel
theorem e27_1387 : decode cL_law 1387 = .ok (.ireturn, 1) := by decide +kernel
theorem e27_1388 : decode cL_law 1388 = .ok (.iinc 5 6, 3) := by decide +kernel
theorem e27_1391 : decode cL_law 1391 = .ok (.goto (-1363), 3) := by decide +kernel
theorem e27_1394 : decode cL_law 1394 = .ok (.iconst 1, 1) := by decide +kernel
theorem e27_1395 : decode cL_law 1395 = .ok (.ireturn, 1) := by decide +kernel
theorem w27_0 : am_all (xm_V9 (xm_G 27)) xm_l27_0 := ⟨Or.inr (Or.inl ⟨rfl, 3, e27_0, rfl, rfl, trivial, ⟨RX7, TX7, 4, rfl, rfl, bw_25, bw_26, aw_1⟩, trivial⟩), Or.inr (Or.inl ⟨rfl, 1, e27_3, rfl, rfl, trivial, trivial, trivial⟩), Or.inr (Or.inl ⟨rfl, 3, e27_4, rfl, rfl, trivial, trivial, Or.inr ⟨by decide, ⟨_, rfl, okM_69⟩, bw_28, rfl, rfl, Or.inl ⟨rfl, bw_27⟩⟩⟩), Or.inr (Or.inl ⟨rfl, 1, e27_7, rfl, rfl, rfl, trivial, trivial⟩), Or.inr (Or.inl ⟨rfl, 3, e27_8, rfl, rfl, trivial, ⟨RX8, TX8, 27, rfl, rfl, bw_912, bw_913, aw_9⟩, trivial⟩), Or.inr (Or.inl ⟨rfl, 1, e27_11, rfl, rfl, trivial, trivial, trivial⟩), Or.inr (Or.inl ⟨rfl, 3, e27_12, rfl, rfl, trivial, trivial, Or.inr ⟨by decide, ⟨_, rfl, okM_95⟩, bw_915, rfl, rfl, Or.inl ⟨rfl, bw_914⟩⟩⟩), Or.inr (Or.inl ⟨rfl, 1, e27_15, rfl, rfl, rfl, trivial, trivial⟩), Or.inr (Or.inl ⟨rfl, 1, e27_16, rfl, rfl, am_eq9 (by decide +kernel), trivial, trivial⟩), Or.inr (Or.inl ⟨rfl, 2, e27_17, rfl, rfl, trivial, ⟨rfl, bw_1242⟩, trivial⟩), Or.inr (Or.inl ⟨rfl, 1, e27_19, rfl, rfl, rfl, trivial, trivial⟩), Or.inr (Or.inl ⟨rfl, 1, e27_20, rfl, rfl, am_eq9 (by decide +kernel), trivial, trivial⟩), Or.inr (Or.inl ⟨rfl, 2, e27_21, rfl, rfl, trivial, ⟨rfl, bw_1243⟩, trivial⟩), Or.inr (Or.inl ⟨rfl, 2, e27_23, rfl, rfl, rfl, trivial, trivial⟩), Or.inr (Or.inl ⟨rfl, 1, e27_25, rfl, rfl, am_eq9 (by decide +kernel), trivial, trivial⟩), Or.inr (Or.inl ⟨rfl, 2, e27_26, rfl, rfl, rfl, trivial, trivial⟩), Or.inr (Or.inl ⟨rfl, 2, e27_28, rfl, rfl, rfl, trivial, trivial⟩), Or.inr (Or.inl ⟨rfl, 1, e27_30, rfl, rfl, rfl, trivial, trivial⟩), Or.inr (Or.inl ⟨rfl, 1, e27_31, rfl, rfl, trivial, trivial, trivial⟩), Or.inr (Or.inl ⟨rfl, 2, e27_32, rfl, rfl, am_eq9 (by decide +kernel), trivial, trivial⟩), Or.inr (Or.inl ⟨rfl, 1, e27_34, rfl, rfl, trivial, trivial, trivial⟩), Or.inr (Or.inl ⟨rfl, 3, e27_35, rfl, rfl, rfl, trivial, trivial⟩), Or.inr (Or.inl ⟨rfl, 1, e27_38, rfl, rfl, rfl, trivial, trivial⟩), Or.inr (Or.inl ⟨rfl, 2, e27_39, rfl, rfl, rfl, trivial, trivial⟩), trivial⟩
theorem w27_1 : am_all (xm_V9 (xm_G 27)) xm_l27_1 := ⟨Or.inr (Or.inl ⟨rfl, 1, e27_41, rfl, rfl, trivial, trivial, trivial⟩), Or.inr (Or.inl ⟨rfl, 2, e27_42, rfl, rfl, am_eq9 (by decide +kernel), trivial, trivial⟩), Or.inr (Or.inl ⟨rfl, 1, e27_44, rfl, rfl, trivial, trivial, trivial⟩), Or.inr (Or.inl ⟨rfl, 119, e27_45, rfl, trivial, trivial, trivial, trivial⟩), Or.inr (Or.inl ⟨rfl, 1, e27_164, rfl, rfl, rfl, trivial, trivial⟩), Or.inr (Or.inl ⟨rfl, 1, e27_165, rfl, rfl, rfl, trivial, trivial⟩), Or.inr (Or.inl ⟨rfl, 2, e27_166, rfl, rfl, rfl, trivial, trivial⟩), Or.inr (Or.inl ⟨rfl, 1, e27_168, rfl, rfl, am_eq9 (by decide +kernel), trivial, trivial⟩), Or.inr (Or.inl ⟨rfl, 1, e27_169, rfl, rfl, trivial, trivial, trivial⟩), Or.inr (Or.inl ⟨rfl, 1, e27_170, rfl, rfl, trivial, trivial, trivial⟩), Or.inr (Or.inl ⟨rfl, 1, e27_171, rfl, rfl, rfl, trivial, trivial⟩), Or.inr (Or.inl ⟨rfl, 2, e27_172, rfl, rfl, rfl, trivial, trivial⟩), Or.inr (Or.inl ⟨rfl, 1, e27_174, rfl, rfl, am_eq9 (by decide +kernel), trivial, trivial⟩), Or.inr (Or.inl ⟨rfl, 1, e27_175, rfl, rfl, trivial, trivial, trivial⟩), Or.inr (Or.inl ⟨rfl, 1, e27_176, rfl, rfl, trivial, trivial, trivial⟩), Or.inr (Or.inl ⟨rfl, 1, e27_177, rfl, rfl, rfl, trivial, trivial⟩), Or.inr (Or.inl ⟨rfl, 2, e27_178, rfl, rfl, rfl, trivial, trivial⟩), Or.inr (Or.inl ⟨rfl, 1, e27_180, rfl, rfl, am_eq9 (by decide +kernel), trivial, trivial⟩), Or.inr (Or.inl ⟨rfl, 1, e27_181, rfl, rfl, trivial, trivial, trivial⟩), Or.inr (Or.inl ⟨rfl, 1, e27_182, rfl, rfl, trivial, trivial, trivial⟩), Or.inr (Or.inl ⟨rfl, 1, e27_183, rfl, rfl, trivial, trivial, trivial⟩), Or.inr (Or.inl ⟨rfl, 1, e27_184, rfl, rfl, rfl, trivial, trivial⟩), Or.inr (Or.inl ⟨rfl, 2, e27_185, rfl, rfl, rfl, trivial, trivial⟩), Or.inr (Or.inl ⟨rfl, 1, e27_187, rfl, rfl, am_eq9 (by decide +kernel), trivial, trivial⟩), trivial⟩
theorem w27_2 : am_all (xm_V9 (xm_G 27)) xm_l27_2 := ⟨Or.inr (Or.inl ⟨rfl, 1, e27_188, rfl, rfl, trivial, trivial, trivial⟩), Or.inr (Or.inl ⟨rfl, 1, e27_189, rfl, rfl, trivial, trivial, trivial⟩), Or.inr (Or.inl ⟨rfl, 1, e27_190, rfl, rfl, rfl, trivial, trivial⟩), Or.inr (Or.inl ⟨rfl, 2, e27_191, rfl, rfl, rfl, trivial, trivial⟩), Or.inr (Or.inl ⟨rfl, 1, e27_193, rfl, rfl, am_eq9 (by decide +kernel), trivial, trivial⟩), Or.inr (Or.inl ⟨rfl, 1, e27_194, rfl, rfl, trivial, trivial, trivial⟩), Or.inr (Or.inl ⟨rfl, 1, e27_195, rfl, rfl, trivial, trivial, trivial⟩), Or.inr (Or.inl ⟨rfl, 1, e27_196, rfl, rfl, rfl, trivial, trivial⟩), Or.inr (Or.inr (Or.inr ⟨⟨73, e27_197, rfl, by decide, xkM_14, bw_574, bw_573⟩, fun q h => absurd h List.not_mem_nil⟩)), Or.inr (Or.inl ⟨rfl, 2, e27_200, rfl, rfl, rfl, trivial, trivial⟩), Or.inr (Or.inl ⟨rfl, 1, e27_202, rfl, rfl, rfl, trivial, trivial⟩), Or.inr (Or.inl ⟨rfl, 1, e27_203, rfl, rfl, rfl, trivial, trivial⟩), Or.inr (Or.inl ⟨rfl, 2, e27_204, rfl, rfl, rfl, trivial, trivial⟩), Or.inr (Or.inl ⟨rfl, 1, e27_206, rfl, rfl, am_eq9 (by decide +kernel), trivial, trivial⟩), Or.inr (Or.inl ⟨rfl, 1, e27_207, rfl, rfl, trivial, trivial, trivial⟩), Or.inr (Or.inl ⟨rfl, 1, e27_208, rfl, rfl, trivial, trivial, trivial⟩), Or.inr (Or.inl ⟨rfl, 1, e27_209, rfl, rfl, rfl, trivial, trivial⟩), Or.inr (Or.inl ⟨rfl, 2, e27_210, rfl, rfl, rfl, trivial, trivial⟩), Or.inr (Or.inl ⟨rfl, 1, e27_212, rfl, rfl, am_eq9 (by decide +kernel), trivial, trivial⟩), Or.inr (Or.inl ⟨rfl, 1, e27_213, rfl, rfl, trivial, trivial, trivial⟩), Or.inr (Or.inl ⟨rfl, 1, e27_214, rfl, rfl, trivial, trivial, trivial⟩), Or.inr (Or.inl ⟨rfl, 1, e27_215, rfl, rfl, rfl, trivial, trivial⟩), Or.inr (Or.inl ⟨rfl, 2, e27_216, rfl, rfl, rfl, trivial, trivial⟩), Or.inr (Or.inl ⟨rfl, 1, e27_218, rfl, rfl, am_eq9 (by decide +kernel), trivial, trivial⟩), trivial⟩
theorem w27_3 : am_all (xm_V9 (xm_G 27)) xm_l27_3 := ⟨Or.inr (Or.inl ⟨rfl, 1, e27_219, rfl, rfl, trivial, trivial, trivial⟩), Or.inr (Or.inl ⟨rfl, 1, e27_220, rfl, rfl, trivial, trivial, trivial⟩), Or.inr (Or.inl ⟨rfl, 1, e27_221, rfl, rfl, trivial, trivial, trivial⟩), Or.inr (Or.inl ⟨rfl, 1, e27_222, rfl, rfl, rfl, trivial, trivial⟩), Or.inr (Or.inl ⟨rfl, 2, e27_223, rfl, rfl, rfl, trivial, trivial⟩), Or.inr (Or.inl ⟨rfl, 1, e27_225, rfl, rfl, am_eq9 (by decide +kernel), trivial, trivial⟩), Or.inr (Or.inl ⟨rfl, 1, e27_226, rfl, rfl, trivial, trivial, trivial⟩), Or.inr (Or.inl ⟨rfl, 1, e27_227, rfl, rfl, trivial, trivial, trivial⟩), Or.inr (Or.inl ⟨rfl, 1, e27_228, rfl, rfl, rfl, trivial, trivial⟩), Or.inr (Or.inl ⟨rfl, 2, e27_229, rfl, rfl, rfl, trivial, trivial⟩), Or.inr (Or.inl ⟨rfl, 1, e27_231, rfl, rfl, am_eq9 (by decide +kernel), trivial, trivial⟩), Or.inr (Or.inl ⟨rfl, 1, e27_232, rfl, rfl, trivial, trivial, trivial⟩), Or.inr (Or.inl ⟨rfl, 1, e27_233, rfl, rfl, trivial, trivial, trivial⟩), Or.inr (Or.inl ⟨rfl, 3, e27_234, rfl, rfl, trivial, trivial, ⟨by decide, ⟨_, TX8, 27, rfl, okM_102, rfl⟩, bw_1009, bw_1010, bw_1011⟩⟩), Or.inr (Or.inl ⟨rfl, 2, e27_237, rfl, rfl, rfl, trivial, trivial⟩), Or.inr (Or.inl ⟨rfl, 1, e27_239, rfl, rfl, rfl, trivial, trivial⟩), Or.inr (Or.inl ⟨rfl, 3, e27_240, rfl, rfl, trivial, trivial, ⟨by decide, ⟨_, TX8, 27, rfl, okM_96, rfl⟩, bw_1005, bw_1006, bw_1007⟩⟩), Or.inr (Or.inl ⟨rfl, 2, e27_243, rfl, rfl, rfl, trivial, trivial⟩), Or.inr (Or.inl ⟨rfl, 3, e27_245, rfl, rfl, rfl, trivial, trivial⟩), Or.inr (Or.inl ⟨rfl, 1, e27_248, rfl, rfl, am_eq9 (by decide +kernel), trivial, trivial⟩), Or.inr (Or.inl ⟨rfl, 1, e27_249, rfl, rfl, trivial, trivial, trivial⟩), Or.inr (Or.inl ⟨rfl, 2, e27_250, rfl, rfl, rfl, trivial, trivial⟩), Or.inr (Or.inl ⟨rfl, 3, e27_252, rfl, rfl, rfl, trivial, trivial⟩), Or.inr (Or.inl ⟨rfl, 1, e27_255, rfl, rfl, rfl, trivial, trivial⟩), trivial⟩
theorem w27_4 : am_all (xm_V9 (xm_G 27)) xm_l27_4 := ⟨Or.inr (Or.inl ⟨rfl, 1, e27_256, rfl, rfl, am_eq9 (by decide +kernel), trivial, trivial⟩), Or.inr (Or.inl ⟨rfl, 1, e27_257, rfl, rfl, trivial, trivial, trivial⟩), Or.inr (Or.inl ⟨rfl, 2, e27_258, rfl, rfl, rfl, trivial, trivial⟩), Or.inr (Or.inl ⟨rfl, 1, e27_260, rfl, rfl, trivial, trivial, trivial⟩), Or.inr (Or.inl ⟨rfl, 1, e27_261, rfl, rfl, trivial, trivial, trivial⟩), Or.inr (Or.inl ⟨rfl, 3, e27_262, rfl, rfl, rfl, trivial, trivial⟩), Or.inr (Or.inl ⟨rfl, 1, e27_265, rfl, rfl, am_eq9 (by decide +kernel), trivial, trivial⟩), Or.inr (Or.inl ⟨rfl, 1, e27_266, rfl, rfl, trivial, trivial, trivial⟩), Or.inr (Or.inl ⟨rfl, 3, e27_267, rfl, rfl, rfl, trivial, trivial⟩), Or.inr (Or.inl ⟨rfl, 1, e27_270, rfl, rfl, rfl, trivial, trivial⟩), Or.inr (Or.inl ⟨rfl, 1, e27_271, rfl, rfl, rfl, trivial, trivial⟩), Or.inr (Or.inl ⟨rfl, 2, e27_272, rfl, rfl, rfl, trivial, trivial⟩), Or.inr (Or.inl ⟨rfl, 1, e27_274, rfl, rfl, am_eq9 (by decide +kernel), trivial, trivial⟩), Or.inr (Or.inl ⟨rfl, 1, e27_275, rfl, rfl, trivial, trivial, trivial⟩), Or.inr (Or.inl ⟨rfl, 1, e27_276, rfl, rfl, trivial, trivial, trivial⟩), Or.inr (Or.inl ⟨rfl, 1, e27_277, rfl, rfl, rfl, trivial, trivial⟩), Or.inr (Or.inl ⟨rfl, 2, e27_278, rfl, rfl, rfl, trivial, trivial⟩), Or.inr (Or.inl ⟨rfl, 1, e27_280, rfl, rfl, am_eq9 (by decide +kernel), trivial, trivial⟩), Or.inr (Or.inl ⟨rfl, 1, e27_281, rfl, rfl, trivial, trivial, trivial⟩), Or.inr (Or.inl ⟨rfl, 1, e27_282, rfl, rfl, trivial, trivial, trivial⟩), Or.inr (Or.inl ⟨rfl, 1, e27_283, rfl, rfl, rfl, trivial, trivial⟩), Or.inr (Or.inl ⟨rfl, 2, e27_284, rfl, rfl, rfl, trivial, trivial⟩), Or.inr (Or.inl ⟨rfl, 1, e27_286, rfl, rfl, am_eq9 (by decide +kernel), trivial, trivial⟩), Or.inr (Or.inl ⟨rfl, 1, e27_287, rfl, rfl, trivial, trivial, trivial⟩), trivial⟩
theorem w27_5 : am_all (xm_V9 (xm_G 27)) xm_l27_5 := ⟨Or.inr (Or.inl ⟨rfl, 1, e27_288, rfl, rfl, trivial, trivial, trivial⟩), Or.inr (Or.inl ⟨rfl, 1, e27_289, rfl, rfl, rfl, trivial, trivial⟩), Or.inr (Or.inl ⟨rfl, 2, e27_290, rfl, rfl, rfl, trivial, trivial⟩), Or.inr (Or.inl ⟨rfl, 1, e27_292, rfl, rfl, am_eq9 (by decide +kernel), trivial, trivial⟩), Or.inr (Or.inl ⟨rfl, 1, e27_293, rfl, rfl, trivial, trivial, trivial⟩), Or.inr (Or.inl ⟨rfl, 1, e27_294, rfl, rfl, trivial, trivial, trivial⟩), Or.inr (Or.inl ⟨rfl, 3, e27_295, rfl, rfl, rfl, trivial, trivial⟩), Or.inr (Or.inl ⟨rfl, 1, e27_298, rfl, rfl, am_eq9 (by decide +kernel), trivial, trivial⟩), Or.inr (Or.inl ⟨rfl, 3, e27_299, rfl, rfl, rfl, trivial, trivial⟩), Or.inr (Or.inl ⟨rfl, 1, e27_302, rfl, rfl, am_eq9 (by decide +kernel), trivial, trivial⟩), Or.inr (Or.inl ⟨rfl, 1, e27_303, rfl, rfl, rfl, trivial, trivial⟩), Or.inr (Or.inr (Or.inr ⟨⟨82, e27_304, rfl, by decide, xkM_15, bw_726, bw_725⟩, fun q h => absurd h List.not_mem_nil⟩)), Or.inr (Or.inl ⟨rfl, 2, e27_307, rfl, rfl, rfl, trivial, trivial⟩), Or.inr (Or.inl ⟨rfl, 1, e27_309, rfl, rfl, rfl, trivial, trivial⟩), Or.inr (Or.inl ⟨rfl, 1, e27_310, rfl, rfl, rfl, trivial, trivial⟩), Or.inr (Or.inl ⟨rfl, 2, e27_311, rfl, rfl, rfl, trivial, trivial⟩), Or.inr (Or.inl ⟨rfl, 1, e27_313, rfl, rfl, am_eq9 (by decide +kernel), trivial, trivial⟩), Or.inr (Or.inl ⟨rfl, 1, e27_314, rfl, rfl, trivial, trivial, trivial⟩), Or.inr (Or.inl ⟨rfl, 1, e27_315, rfl, rfl, trivial, trivial, trivial⟩), Or.inr (Or.inl ⟨rfl, 1, e27_316, rfl, rfl, rfl, trivial, trivial⟩), Or.inr (Or.inl ⟨rfl, 2, e27_317, rfl, rfl, rfl, trivial, trivial⟩), Or.inr (Or.inl ⟨rfl, 1, e27_319, rfl, rfl, am_eq9 (by decide +kernel), trivial, trivial⟩), Or.inr (Or.inl ⟨rfl, 1, e27_320, rfl, rfl, trivial, trivial, trivial⟩), Or.inr (Or.inl ⟨rfl, 1, e27_321, rfl, rfl, trivial, trivial, trivial⟩), trivial⟩
theorem w27_6 : am_all (xm_V9 (xm_G 27)) xm_l27_6 := ⟨Or.inr (Or.inl ⟨rfl, 1, e27_322, rfl, rfl, rfl, trivial, trivial⟩), Or.inr (Or.inl ⟨rfl, 2, e27_323, rfl, rfl, rfl, trivial, trivial⟩), Or.inr (Or.inl ⟨rfl, 1, e27_325, rfl, rfl, am_eq9 (by decide +kernel), trivial, trivial⟩), Or.inr (Or.inl ⟨rfl, 1, e27_326, rfl, rfl, trivial, trivial, trivial⟩), Or.inr (Or.inl ⟨rfl, 1, e27_327, rfl, rfl, trivial, trivial, trivial⟩), Or.inr (Or.inl ⟨rfl, 1, e27_328, rfl, rfl, rfl, trivial, trivial⟩), Or.inr (Or.inl ⟨rfl, 2, e27_329, rfl, rfl, rfl, trivial, trivial⟩), Or.inr (Or.inl ⟨rfl, 1, e27_331, rfl, rfl, am_eq9 (by decide +kernel), trivial, trivial⟩), Or.inr (Or.inl ⟨rfl, 1, e27_332, rfl, rfl, trivial, trivial, trivial⟩), Or.inr (Or.inl ⟨rfl, 1, e27_333, rfl, rfl, trivial, trivial, trivial⟩), Or.inr (Or.inl ⟨rfl, 3, e27_334, rfl, rfl, rfl, trivial, trivial⟩), Or.inr (Or.inl ⟨rfl, 1, e27_337, rfl, rfl, am_eq9 (by decide +kernel), trivial, trivial⟩), Or.inr (Or.inl ⟨rfl, 3, e27_338, rfl, rfl, rfl, trivial, trivial⟩), Or.inr (Or.inl ⟨rfl, 1, e27_341, rfl, rfl, am_eq9 (by decide +kernel), trivial, trivial⟩), Or.inr (Or.inl ⟨rfl, 3, e27_342, rfl, rfl, trivial, trivial, ⟨by decide, ⟨_, TX8, 27, rfl, okM_105, rfl⟩, bw_1019, bw_1020, bw_1021⟩⟩), Or.inr (Or.inl ⟨rfl, 2, e27_345, rfl, rfl, rfl, trivial, trivial⟩), Or.inr (Or.inl ⟨rfl, 1, e27_347, rfl, rfl, rfl, trivial, trivial⟩), Or.inr (Or.inl ⟨rfl, 3, e27_348, rfl, rfl, trivial, trivial, ⟨by decide, ⟨_, TX8, 27, rfl, okM_96, rfl⟩, bw_1005, bw_1006, bw_1007⟩⟩), Or.inr (Or.inl ⟨rfl, 2, e27_351, rfl, rfl, rfl, trivial, trivial⟩), Or.inr (Or.inl ⟨rfl, 3, e27_353, rfl, rfl, rfl, trivial, trivial⟩), Or.inr (Or.inl ⟨rfl, 1, e27_356, rfl, rfl, am_eq9 (by decide +kernel), trivial, trivial⟩), Or.inr (Or.inl ⟨rfl, 1, e27_357, rfl, rfl, trivial, trivial, trivial⟩), Or.inr (Or.inl ⟨rfl, 2, e27_358, rfl, rfl, rfl, trivial, trivial⟩), Or.inr (Or.inl ⟨rfl, 3, e27_360, rfl, rfl, rfl, trivial, trivial⟩), trivial⟩
theorem w27_7 : am_all (xm_V9 (xm_G 27)) xm_l27_7 := ⟨Or.inr (Or.inl ⟨rfl, 1, e27_363, rfl, rfl, rfl, trivial, trivial⟩), Or.inr (Or.inl ⟨rfl, 1, e27_364, rfl, rfl, am_eq9 (by decide +kernel), trivial, trivial⟩), Or.inr (Or.inl ⟨rfl, 1, e27_365, rfl, rfl, trivial, trivial, trivial⟩), Or.inr (Or.inl ⟨rfl, 2, e27_366, rfl, rfl, rfl, trivial, trivial⟩), Or.inr (Or.inl ⟨rfl, 3, e27_368, rfl, rfl, rfl, trivial, trivial⟩), Or.inr (Or.inl ⟨rfl, 1, e27_371, rfl, rfl, rfl, trivial, trivial⟩), Or.inr (Or.inl ⟨rfl, 3, e27_372, rfl, rfl, rfl, trivial, trivial⟩), Or.inr (Or.inl ⟨rfl, 1, e27_375, rfl, rfl, rfl, trivial, trivial⟩), Or.inr (Or.inl ⟨rfl, 1, e27_376, rfl, rfl, trivial, trivial, trivial⟩), Or.inr (Or.inl ⟨rfl, 3, e27_377, rfl, rfl, rfl, trivial, trivial⟩), Or.inr (Or.inl ⟨rfl, 1, e27_380, rfl, rfl, am_eq9 (by decide +kernel), trivial, trivial⟩), Or.inr (Or.inl ⟨rfl, 1, e27_381, rfl, rfl, trivial, trivial, trivial⟩), Or.inr (Or.inl ⟨rfl, 3, e27_382, rfl, rfl, rfl, trivial, trivial⟩), Or.inr (Or.inl ⟨rfl, 1, e27_385, rfl, rfl, rfl, trivial, trivial⟩), Or.inr (Or.inl ⟨rfl, 1, e27_386, rfl, rfl, rfl, trivial, trivial⟩), Or.inr (Or.inl ⟨rfl, 2, e27_387, rfl, rfl, rfl, trivial, trivial⟩), Or.inr (Or.inl ⟨rfl, 1, e27_389, rfl, rfl, am_eq9 (by decide +kernel), trivial, trivial⟩), Or.inr (Or.inl ⟨rfl, 1, e27_390, rfl, rfl, trivial, trivial, trivial⟩), Or.inr (Or.inl ⟨rfl, 1, e27_391, rfl, rfl, trivial, trivial, trivial⟩), Or.inr (Or.inl ⟨rfl, 1, e27_392, rfl, rfl, rfl, trivial, trivial⟩), Or.inr (Or.inl ⟨rfl, 2, e27_393, rfl, rfl, rfl, trivial, trivial⟩), Or.inr (Or.inl ⟨rfl, 1, e27_395, rfl, rfl, am_eq9 (by decide +kernel), trivial, trivial⟩), Or.inr (Or.inl ⟨rfl, 1, e27_396, rfl, rfl, trivial, trivial, trivial⟩), Or.inr (Or.inl ⟨rfl, 1, e27_397, rfl, rfl, trivial, trivial, trivial⟩), trivial⟩
theorem w27_8 : am_all (xm_V9 (xm_G 27)) xm_l27_8 := ⟨Or.inr (Or.inl ⟨rfl, 1, e27_398, rfl, rfl, rfl, trivial, trivial⟩), Or.inr (Or.inl ⟨rfl, 2, e27_399, rfl, rfl, rfl, trivial, trivial⟩), Or.inr (Or.inl ⟨rfl, 1, e27_401, rfl, rfl, am_eq9 (by decide +kernel), trivial, trivial⟩), Or.inr (Or.inl ⟨rfl, 1, e27_402, rfl, rfl, trivial, trivial, trivial⟩), Or.inr (Or.inl ⟨rfl, 1, e27_403, rfl, rfl, trivial, trivial, trivial⟩), Or.inr (Or.inl ⟨rfl, 1, e27_404, rfl, rfl, rfl, trivial, trivial⟩), Or.inr (Or.inl ⟨rfl, 2, e27_405, rfl, rfl, rfl, trivial, trivial⟩), Or.inr (Or.inl ⟨rfl, 1, e27_407, rfl, rfl, am_eq9 (by decide +kernel), trivial, trivial⟩), Or.inr (Or.inl ⟨rfl, 1, e27_408, rfl, rfl, trivial, trivial, trivial⟩), Or.inr (Or.inl ⟨rfl, 1, e27_409, rfl, rfl, trivial, trivial, trivial⟩), Or.inr (Or.inl ⟨rfl, 1, e27_410, rfl, rfl, rfl, trivial, trivial⟩), Or.inr (Or.inr (Or.inr ⟨⟨86, e27_411, rfl, by decide, xkM_16, bw_749, bw_748⟩, fun q h => absurd h List.not_mem_nil⟩)), Or.inr (Or.inl ⟨rfl, 2, e27_414, rfl, rfl, rfl, trivial, trivial⟩), Or.inr (Or.inl ⟨rfl, 1, e27_416, rfl, rfl, rfl, trivial, trivial⟩), Or.inr (Or.inl ⟨rfl, 1, e27_417, rfl, rfl, rfl, trivial, trivial⟩), Or.inr (Or.inl ⟨rfl, 2, e27_418, rfl, rfl, rfl, trivial, trivial⟩), Or.inr (Or.inl ⟨rfl, 1, e27_420, rfl, rfl, am_eq9 (by decide +kernel), trivial, trivial⟩), Or.inr (Or.inl ⟨rfl, 1, e27_421, rfl, rfl, trivial, trivial, trivial⟩), Or.inr (Or.inl ⟨rfl, 1, e27_422, rfl, rfl, trivial, trivial, trivial⟩), Or.inr (Or.inl ⟨rfl, 1, e27_423, rfl, rfl, rfl, trivial, trivial⟩), Or.inr (Or.inl ⟨rfl, 2, e27_424, rfl, rfl, rfl, trivial, trivial⟩), Or.inr (Or.inl ⟨rfl, 1, e27_426, rfl, rfl, am_eq9 (by decide +kernel), trivial, trivial⟩), Or.inr (Or.inl ⟨rfl, 1, e27_427, rfl, rfl, trivial, trivial, trivial⟩), Or.inr (Or.inl ⟨rfl, 1, e27_428, rfl, rfl, trivial, trivial, trivial⟩), trivial⟩
theorem w27_9 : am_all (xm_V9 (xm_G 27)) xm_l27_9 := ⟨Or.inr (Or.inl ⟨rfl, 1, e27_429, rfl, rfl, rfl, trivial, trivial⟩), Or.inr (Or.inl ⟨rfl, 2, e27_430, rfl, rfl, rfl, trivial, trivial⟩), Or.inr (Or.inl ⟨rfl, 1, e27_432, rfl, rfl, am_eq9 (by decide +kernel), trivial, trivial⟩), Or.inr (Or.inl ⟨rfl, 1, e27_433, rfl, rfl, trivial, trivial, trivial⟩), Or.inr (Or.inl ⟨rfl, 1, e27_434, rfl, rfl, trivial, trivial, trivial⟩), Or.inr (Or.inl ⟨rfl, 1, e27_435, rfl, rfl, rfl, trivial, trivial⟩), Or.inr (Or.inl ⟨rfl, 2, e27_436, rfl, rfl, rfl, trivial, trivial⟩), Or.inr (Or.inl ⟨rfl, 1, e27_438, rfl, rfl, am_eq9 (by decide +kernel), trivial, trivial⟩), Or.inr (Or.inl ⟨rfl, 1, e27_439, rfl, rfl, trivial, trivial, trivial⟩), Or.inr (Or.inl ⟨rfl, 1, e27_440, rfl, rfl, trivial, trivial, trivial⟩), Or.inr (Or.inl ⟨rfl, 3, e27_441, rfl, rfl, trivial, trivial, ⟨by decide, ⟨_, TX8, 27, rfl, okM_106, rfl⟩, bw_1033, bw_1034, bw_1035⟩⟩), Or.inr (Or.inl ⟨rfl, 2, e27_444, rfl, rfl, rfl, trivial, trivial⟩), Or.inr (Or.inl ⟨rfl, 1, e27_446, rfl, rfl, rfl, trivial, trivial⟩), Or.inr (Or.inl ⟨rfl, 3, e27_447, rfl, rfl, trivial, trivial, ⟨by decide, ⟨_, TX8, 27, rfl, okM_96, rfl⟩, bw_1005, bw_1006, bw_1007⟩⟩), Or.inr (Or.inl ⟨rfl, 2, e27_450, rfl, rfl, rfl, trivial, trivial⟩), Or.inr (Or.inl ⟨rfl, 3, e27_452, rfl, rfl, rfl, trivial, trivial⟩), Or.inr (Or.inl ⟨rfl, 1, e27_455, rfl, rfl, am_eq9 (by decide +kernel), trivial, trivial⟩), Or.inr (Or.inl ⟨rfl, 1, e27_456, rfl, rfl, trivial, trivial, trivial⟩), Or.inr (Or.inl ⟨rfl, 2, e27_457, rfl, rfl, rfl, trivial, trivial⟩), Or.inr (Or.inl ⟨rfl, 3, e27_459, rfl, rfl, rfl, trivial, trivial⟩), Or.inr (Or.inl ⟨rfl, 1, e27_462, rfl, rfl, rfl, trivial, trivial⟩), Or.inr (Or.inl ⟨rfl, 1, e27_463, rfl, rfl, am_eq9 (by decide +kernel), trivial, trivial⟩), Or.inr (Or.inl ⟨rfl, 1, e27_464, rfl, rfl, trivial, trivial, trivial⟩), Or.inr (Or.inl ⟨rfl, 2, e27_465, rfl, rfl, rfl, trivial, trivial⟩), trivial⟩
theorem w27_10 : am_all (xm_V9 (xm_G 27)) xm_l27_10 := ⟨Or.inr (Or.inl ⟨rfl, 1, e27_467, rfl, rfl, trivial, trivial, trivial⟩), Or.inr (Or.inl ⟨rfl, 1, e27_468, rfl, rfl, trivial, trivial, trivial⟩), Or.inr (Or.inl ⟨rfl, 3, e27_469, rfl, rfl, rfl, trivial, trivial⟩), Or.inr (Or.inl ⟨rfl, 1, e27_472, rfl, rfl, am_eq9 (by decide +kernel), trivial, trivial⟩), Or.inr (Or.inl ⟨rfl, 1, e27_473, rfl, rfl, trivial, trivial, trivial⟩), Or.inr (Or.inl ⟨rfl, 3, e27_474, rfl, rfl, rfl, trivial, trivial⟩), Or.inr (Or.inl ⟨rfl, 1, e27_477, rfl, rfl, rfl, trivial, trivial⟩), Or.inr (Or.inl ⟨rfl, 1, e27_478, rfl, rfl, rfl, trivial, trivial⟩), Or.inr (Or.inl ⟨rfl, 2, e27_479, rfl, rfl, rfl, trivial, trivial⟩), Or.inr (Or.inl ⟨rfl, 1, e27_481, rfl, rfl, am_eq9 (by decide +kernel), trivial, trivial⟩), Or.inr (Or.inl ⟨rfl, 1, e27_482, rfl, rfl, trivial, trivial, trivial⟩), Or.inr (Or.inl ⟨rfl, 1, e27_483, rfl, rfl, trivial, trivial, trivial⟩), Or.inr (Or.inl ⟨rfl, 1, e27_484, rfl, rfl, trivial, trivial, trivial⟩), Or.inr (Or.inl ⟨rfl, 1, e27_485, rfl, rfl, rfl, trivial, trivial⟩), Or.inr (Or.inl ⟨rfl, 2, e27_486, rfl, rfl, rfl, trivial, trivial⟩), Or.inr (Or.inl ⟨rfl, 1, e27_488, rfl, rfl, am_eq9 (by decide +kernel), trivial, trivial⟩), Or.inr (Or.inl ⟨rfl, 1, e27_489, rfl, rfl, trivial, trivial, trivial⟩), Or.inr (Or.inl ⟨rfl, 1, e27_490, rfl, rfl, trivial, trivial, trivial⟩), Or.inr (Or.inl ⟨rfl, 1, e27_491, rfl, rfl, rfl, trivial, trivial⟩), Or.inr (Or.inl ⟨rfl, 2, e27_492, rfl, rfl, rfl, trivial, trivial⟩), Or.inr (Or.inl ⟨rfl, 1, e27_494, rfl, rfl, am_eq9 (by decide +kernel), trivial, trivial⟩), Or.inr (Or.inl ⟨rfl, 1, e27_495, rfl, rfl, trivial, trivial, trivial⟩), Or.inr (Or.inl ⟨rfl, 1, e27_496, rfl, rfl, trivial, trivial, trivial⟩), Or.inr (Or.inl ⟨rfl, 1, e27_497, rfl, rfl, rfl, trivial, trivial⟩), trivial⟩
theorem w27_11 : am_all (xm_V9 (xm_G 27)) xm_l27_11 := ⟨Or.inr (Or.inl ⟨rfl, 2, e27_498, rfl, rfl, rfl, trivial, trivial⟩), Or.inr (Or.inl ⟨rfl, 1, e27_500, rfl, rfl, am_eq9 (by decide +kernel), trivial, trivial⟩), Or.inr (Or.inl ⟨rfl, 1, e27_501, rfl, rfl, trivial, trivial, trivial⟩), Or.inr (Or.inl ⟨rfl, 1, e27_502, rfl, rfl, trivial, trivial, trivial⟩), Or.inr (Or.inl ⟨rfl, 1, e27_503, rfl, rfl, rfl, trivial, trivial⟩), Or.inr (Or.inr (Or.inr ⟨⟨90, e27_504, rfl, by decide, xkM_17, bw_760, bw_759⟩, fun q h => absurd h List.not_mem_nil⟩)), Or.inr (Or.inl ⟨rfl, 2, e27_507, rfl, rfl, rfl, trivial, trivial⟩), Or.inr (Or.inl ⟨rfl, 1, e27_509, rfl, rfl, rfl, trivial, trivial⟩), Or.inr (Or.inl ⟨rfl, 1, e27_510, rfl, rfl, rfl, trivial, trivial⟩), Or.inr (Or.inl ⟨rfl, 2, e27_511, rfl, rfl, rfl, trivial, trivial⟩), Or.inr (Or.inl ⟨rfl, 1, e27_513, rfl, rfl, am_eq9 (by decide +kernel), trivial, trivial⟩), Or.inr (Or.inl ⟨rfl, 1, e27_514, rfl, rfl, trivial, trivial, trivial⟩), Or.inr (Or.inl ⟨rfl, 1, e27_515, rfl, rfl, trivial, trivial, trivial⟩), Or.inr (Or.inl ⟨rfl, 1, e27_516, rfl, rfl, trivial, trivial, trivial⟩), Or.inr (Or.inl ⟨rfl, 1, e27_517, rfl, rfl, rfl, trivial, trivial⟩), Or.inr (Or.inl ⟨rfl, 2, e27_518, rfl, rfl, rfl, trivial, trivial⟩), Or.inr (Or.inl ⟨rfl, 1, e27_520, rfl, rfl, am_eq9 (by decide +kernel), trivial, trivial⟩), Or.inr (Or.inl ⟨rfl, 1, e27_521, rfl, rfl, trivial, trivial, trivial⟩), Or.inr (Or.inl ⟨rfl, 1, e27_522, rfl, rfl, trivial, trivial, trivial⟩), Or.inr (Or.inl ⟨rfl, 1, e27_523, rfl, rfl, rfl, trivial, trivial⟩), Or.inr (Or.inl ⟨rfl, 2, e27_524, rfl, rfl, rfl, trivial, trivial⟩), Or.inr (Or.inl ⟨rfl, 1, e27_526, rfl, rfl, am_eq9 (by decide +kernel), trivial, trivial⟩), Or.inr (Or.inl ⟨rfl, 1, e27_527, rfl, rfl, trivial, trivial, trivial⟩), Or.inr (Or.inl ⟨rfl, 1, e27_528, rfl, rfl, trivial, trivial, trivial⟩), trivial⟩
theorem w27_12 : am_all (xm_V9 (xm_G 27)) xm_l27_12 := ⟨Or.inr (Or.inl ⟨rfl, 1, e27_529, rfl, rfl, rfl, trivial, trivial⟩), Or.inr (Or.inl ⟨rfl, 2, e27_530, rfl, rfl, rfl, trivial, trivial⟩), Or.inr (Or.inl ⟨rfl, 1, e27_532, rfl, rfl, am_eq9 (by decide +kernel), trivial, trivial⟩), Or.inr (Or.inl ⟨rfl, 1, e27_533, rfl, rfl, trivial, trivial, trivial⟩), Or.inr (Or.inl ⟨rfl, 1, e27_534, rfl, rfl, trivial, trivial, trivial⟩), Or.inr (Or.inl ⟨rfl, 3, e27_535, rfl, rfl, trivial, trivial, ⟨by decide, ⟨_, TX8, 27, rfl, okM_109, rfl⟩, bw_1037, bw_1038, bw_1039⟩⟩), Or.inr (Or.inl ⟨rfl, 2, e27_538, rfl, rfl, rfl, trivial, trivial⟩), Or.inr (Or.inl ⟨rfl, 1, e27_540, rfl, rfl, rfl, trivial, trivial⟩), Or.inr (Or.inl ⟨rfl, 3, e27_541, rfl, rfl, trivial, trivial, ⟨by decide, ⟨_, TX8, 27, rfl, okM_96, rfl⟩, bw_1005, bw_1006, bw_1007⟩⟩), Or.inr (Or.inl ⟨rfl, 2, e27_544, rfl, rfl, rfl, trivial, trivial⟩), Or.inr (Or.inl ⟨rfl, 3, e27_546, rfl, rfl, rfl, trivial, trivial⟩), Or.inr (Or.inl ⟨rfl, 1, e27_549, rfl, rfl, am_eq9 (by decide +kernel), trivial, trivial⟩), Or.inr (Or.inl ⟨rfl, 1, e27_550, rfl, rfl, trivial, trivial, trivial⟩), Or.inr (Or.inl ⟨rfl, 2, e27_551, rfl, rfl, rfl, trivial, trivial⟩), Or.inr (Or.inl ⟨rfl, 3, e27_553, rfl, rfl, rfl, trivial, trivial⟩), Or.inr (Or.inl ⟨rfl, 1, e27_556, rfl, rfl, rfl, trivial, trivial⟩), Or.inr (Or.inl ⟨rfl, 1, e27_557, rfl, rfl, am_eq9 (by decide +kernel), trivial, trivial⟩), Or.inr (Or.inl ⟨rfl, 1, e27_558, rfl, rfl, trivial, trivial, trivial⟩), Or.inr (Or.inl ⟨rfl, 2, e27_559, rfl, rfl, rfl, trivial, trivial⟩), Or.inr (Or.inl ⟨rfl, 1, e27_561, rfl, rfl, trivial, trivial, trivial⟩), Or.inr (Or.inl ⟨rfl, 1, e27_562, rfl, rfl, trivial, trivial, trivial⟩), Or.inr (Or.inl ⟨rfl, 3, e27_563, rfl, rfl, rfl, trivial, trivial⟩), Or.inr (Or.inl ⟨rfl, 1, e27_566, rfl, rfl, am_eq9 (by decide +kernel), trivial, trivial⟩), Or.inr (Or.inl ⟨rfl, 1, e27_567, rfl, rfl, trivial, trivial, trivial⟩), trivial⟩
theorem w27_13 : am_all (xm_V9 (xm_G 27)) xm_l27_13 := ⟨Or.inr (Or.inl ⟨rfl, 3, e27_568, rfl, rfl, rfl, trivial, trivial⟩), Or.inr (Or.inl ⟨rfl, 1, e27_571, rfl, rfl, rfl, trivial, trivial⟩), Or.inr (Or.inl ⟨rfl, 1, e27_572, rfl, rfl, rfl, trivial, trivial⟩), Or.inr (Or.inr (Or.inr ⟨⟨94, e27_573, rfl, by decide, xkM_18, bw_801, bw_800⟩, fun q h => absurd h List.not_mem_nil⟩)), Or.inr (Or.inl ⟨rfl, 2, e27_576, rfl, rfl, rfl, trivial, trivial⟩), Or.inr (Or.inl ⟨rfl, 1, e27_578, rfl, rfl, rfl, trivial, trivial⟩), Or.inr (Or.inl ⟨rfl, 3, e27_579, rfl, rfl, trivial, trivial, ⟨by decide, ⟨_, TX8, 27, rfl, okM_110, rfl⟩, bw_1047, bw_1048, bw_1049⟩⟩), Or.inr (Or.inl ⟨rfl, 2, e27_582, rfl, rfl, rfl, trivial, trivial⟩), Or.inr (Or.inl ⟨rfl, 1, e27_584, rfl, rfl, rfl, trivial, trivial⟩), Or.inr (Or.inl ⟨rfl, 3, e27_585, rfl, rfl, trivial, trivial, ⟨by decide, ⟨_, TX8, 27, rfl, okM_96, rfl⟩, bw_1005, bw_1006, bw_1007⟩⟩), Or.inr (Or.inl ⟨rfl, 2, e27_588, rfl, rfl, rfl, trivial, trivial⟩), Or.inr (Or.inl ⟨rfl, 3, e27_590, rfl, rfl, rfl, trivial, trivial⟩), Or.inr (Or.inl ⟨rfl, 1, e27_593, rfl, rfl, am_eq9 (by decide +kernel), trivial, trivial⟩), Or.inr (Or.inl ⟨rfl, 1, e27_594, rfl, rfl, trivial, trivial, trivial⟩), Or.inr (Or.inl ⟨rfl, 2, e27_595, rfl, rfl, rfl, trivial, trivial⟩), Or.inr (Or.inl ⟨rfl, 3, e27_597, rfl, rfl, rfl, trivial, trivial⟩), Or.inr (Or.inl ⟨rfl, 1, e27_600, rfl, rfl, rfl, trivial, trivial⟩), Or.inr (Or.inl ⟨rfl, 1, e27_601, rfl, rfl, am_eq9 (by decide +kernel), trivial, trivial⟩), Or.inr (Or.inl ⟨rfl, 1, e27_602, rfl, rfl, trivial, trivial, trivial⟩), Or.inr (Or.inl ⟨rfl, 2, e27_603, rfl, rfl, rfl, trivial, trivial⟩), Or.inr (Or.inl ⟨rfl, 1, e27_605, rfl, rfl, trivial, trivial, trivial⟩), Or.inr (Or.inl ⟨rfl, 1, e27_606, rfl, rfl, trivial, trivial, trivial⟩), Or.inr (Or.inl ⟨rfl, 3, e27_607, rfl, rfl, rfl, trivial, trivial⟩), Or.inr (Or.inl ⟨rfl, 1, e27_610, rfl, rfl, am_eq9 (by decide +kernel), trivial, trivial⟩), trivial⟩
theorem w27_14 : am_all (xm_V9 (xm_G 27)) xm_l27_14 := ⟨Or.inr (Or.inl ⟨rfl, 1, e27_611, rfl, rfl, trivial, trivial, trivial⟩), Or.inr (Or.inl ⟨rfl, 3, e27_612, rfl, rfl, rfl, trivial, trivial⟩), Or.inr (Or.inl ⟨rfl, 1, e27_615, rfl, rfl, rfl, trivial, trivial⟩), Or.inr (Or.inl ⟨rfl, 3, e27_616, rfl, rfl, trivial, trivial, ⟨by decide, ⟨_, TX7, 4, rfl, okM_70, rfl⟩, bw_263, bw_264, bw_265⟩⟩), Or.inr (Or.inl ⟨rfl, 1, e27_619, rfl, rfl, rfl, trivial, trivial⟩), Or.inr (Or.inl ⟨rfl, 3, e27_620, rfl, rfl, trivial, trivial, ⟨by decide, ⟨_, TX8, 27, rfl, okM_113, rfl⟩, bw_1051, bw_1052, bw_1053⟩⟩), Or.inr (Or.inl ⟨rfl, 3, e27_623, rfl, rfl, rfl, trivial, trivial⟩), Or.inr (Or.inl ⟨rfl, 1, e27_626, rfl, rfl, am_eq9 (by decide +kernel), trivial, trivial⟩), Or.inr (Or.inl ⟨rfl, 1, e27_627, rfl, rfl, trivial, trivial, trivial⟩), Or.inr (Or.inl ⟨rfl, 1, e27_628, rfl, rfl, rfl, trivial, trivial⟩), Or.inr (Or.inl ⟨rfl, 1, e27_629, rfl, rfl, rfl, trivial, trivial⟩), Or.inr (Or.inl ⟨rfl, 2, e27_630, rfl, rfl, rfl, trivial, trivial⟩), Or.inr (Or.inl ⟨rfl, 1, e27_632, rfl, rfl, am_eq9 (by decide +kernel), trivial, trivial⟩), Or.inr (Or.inl ⟨rfl, 1, e27_633, rfl, rfl, trivial, trivial, trivial⟩), Or.inr (Or.inl ⟨rfl, 1, e27_634, rfl, rfl, trivial, trivial, trivial⟩), Or.inr (Or.inl ⟨rfl, 1, e27_635, rfl, rfl, rfl, trivial, trivial⟩), Or.inr (Or.inr (Or.inr ⟨⟨103, e27_636, rfl, by decide, xkM_19, bw_813, bw_812⟩, fun q h => absurd h List.not_mem_nil⟩)), Or.inr (Or.inl ⟨rfl, 2, e27_639, rfl, rfl, rfl, trivial, trivial⟩), Or.inr (Or.inl ⟨rfl, 1, e27_641, rfl, rfl, rfl, trivial, trivial⟩), Or.inr (Or.inl ⟨rfl, 1, e27_642, rfl, rfl, rfl, trivial, trivial⟩), Or.inr (Or.inl ⟨rfl, 2, e27_643, rfl, rfl, rfl, trivial, trivial⟩), Or.inr (Or.inl ⟨rfl, 1, e27_645, rfl, rfl, am_eq9 (by decide +kernel), trivial, trivial⟩), Or.inr (Or.inl ⟨rfl, 1, e27_646, rfl, rfl, trivial, trivial, trivial⟩), Or.inr (Or.inl ⟨rfl, 1, e27_647, rfl, rfl, trivial, trivial, trivial⟩), trivial⟩
theorem w27_15 : am_all (xm_V9 (xm_G 27)) xm_l27_15 := ⟨Or.inr (Or.inl ⟨rfl, 3, e27_648, rfl, rfl, trivial, trivial, ⟨by decide, ⟨_, TX8, 27, rfl, okM_134, rfl⟩, bw_1063, bw_1064, bw_1065⟩⟩), Or.inr (Or.inl ⟨rfl, 2, e27_651, rfl, rfl, rfl, trivial, trivial⟩), Or.inr (Or.inl ⟨rfl, 1, e27_653, rfl, rfl, rfl, trivial, trivial⟩), Or.inr (Or.inl ⟨rfl, 3, e27_654, rfl, rfl, trivial, trivial, ⟨by decide, ⟨_, TX8, 27, rfl, okM_96, rfl⟩, bw_1005, bw_1006, bw_1007⟩⟩), Or.inr (Or.inl ⟨rfl, 2, e27_657, rfl, rfl, rfl, trivial, trivial⟩), Or.inr (Or.inl ⟨rfl, 3, e27_659, rfl, rfl, rfl, trivial, trivial⟩), Or.inr (Or.inl ⟨rfl, 1, e27_662, rfl, rfl, am_eq9 (by decide +kernel), trivial, trivial⟩), Or.inr (Or.inl ⟨rfl, 1, e27_663, rfl, rfl, trivial, trivial, trivial⟩), Or.inr (Or.inl ⟨rfl, 2, e27_664, rfl, rfl, rfl, trivial, trivial⟩), Or.inr (Or.inl ⟨rfl, 3, e27_666, rfl, rfl, rfl, trivial, trivial⟩), Or.inr (Or.inl ⟨rfl, 1, e27_669, rfl, rfl, rfl, trivial, trivial⟩), Or.inr (Or.inl ⟨rfl, 1, e27_670, rfl, rfl, am_eq9 (by decide +kernel), trivial, trivial⟩), Or.inr (Or.inl ⟨rfl, 1, e27_671, rfl, rfl, trivial, trivial, trivial⟩), Or.inr (Or.inl ⟨rfl, 2, e27_672, rfl, rfl, rfl, trivial, trivial⟩), Or.inr (Or.inl ⟨rfl, 1, e27_674, rfl, rfl, trivial, trivial, trivial⟩), Or.inr (Or.inl ⟨rfl, 1, e27_675, rfl, rfl, trivial, trivial, trivial⟩), Or.inr (Or.inl ⟨rfl, 3, e27_676, rfl, rfl, rfl, trivial, trivial⟩), Or.inr (Or.inl ⟨rfl, 1, e27_679, rfl, rfl, am_eq9 (by decide +kernel), trivial, trivial⟩), Or.inr (Or.inl ⟨rfl, 1, e27_680, rfl, rfl, trivial, trivial, trivial⟩), Or.inr (Or.inl ⟨rfl, 3, e27_681, rfl, rfl, rfl, trivial, trivial⟩), Or.inr (Or.inl ⟨rfl, 1, e27_684, rfl, rfl, rfl, trivial, trivial⟩), Or.inr (Or.inl ⟨rfl, 3, e27_685, rfl, rfl, trivial, trivial, ⟨by decide, ⟨_, TX7, 4, rfl, okM_71, rfl⟩, bw_282, bw_283, bw_284⟩⟩), Or.inr (Or.inl ⟨rfl, 1, e27_688, rfl, rfl, rfl, trivial, trivial⟩), Or.inr (Or.inl ⟨rfl, 3, e27_689, rfl, rfl, trivial, trivial, ⟨by decide, ⟨_, TX8, 27, rfl, okM_135, rfl⟩, bw_1146, bw_1147, bw_1148⟩⟩), trivial⟩
theorem w27_16 : am_all (xm_V9 (xm_G 27)) xm_l27_16 := ⟨Or.inr (Or.inl ⟨rfl, 3, e27_692, rfl, rfl, rfl, trivial, trivial⟩), Or.inr (Or.inl ⟨rfl, 1, e27_695, rfl, rfl, am_eq9 (by decide +kernel), trivial, trivial⟩), Or.inr (Or.inl ⟨rfl, 1, e27_696, rfl, rfl, trivial, trivial, trivial⟩), Or.inr (Or.inl ⟨rfl, 1, e27_697, rfl, rfl, rfl, trivial, trivial⟩), Or.inr (Or.inl ⟨rfl, 3, e27_698, rfl, rfl, trivial, trivial, ⟨by decide, ⟨_, TX7, 4, rfl, okM_72, rfl⟩, bw_291, bw_292, bw_293⟩⟩), Or.inr (Or.inl ⟨rfl, 1, e27_701, rfl, rfl, rfl, trivial, trivial⟩), Or.inr (Or.inl ⟨rfl, 3, e27_702, rfl, rfl, trivial, trivial, ⟨by decide, ⟨_, TX8, 27, rfl, okM_136, rfl⟩, bw_1154, bw_1155, bw_1156⟩⟩), Or.inr (Or.inl ⟨rfl, 3, e27_705, rfl, rfl, rfl, trivial, trivial⟩), Or.inr (Or.inl ⟨rfl, 1, e27_708, rfl, rfl, am_eq9 (by decide +kernel), trivial, trivial⟩), Or.inr (Or.inl ⟨rfl, 1, e27_709, rfl, rfl, trivial, trivial, trivial⟩), Or.inr (Or.inl ⟨rfl, 1, e27_710, rfl, rfl, rfl, trivial, trivial⟩), Or.inr (Or.inl ⟨rfl, 3, e27_711, rfl, rfl, trivial, trivial, ⟨by decide, ⟨_, TX7, 4, rfl, okM_73, rfl⟩, bw_295, bw_296, bw_297⟩⟩), Or.inr (Or.inl ⟨rfl, 1, e27_714, rfl, rfl, rfl, trivial, trivial⟩), Or.inr (Or.inl ⟨rfl, 3, e27_715, rfl, rfl, trivial, trivial, ⟨by decide, ⟨_, TX8, 27, rfl, okM_137, rfl⟩, bw_1158, bw_1159, bw_1160⟩⟩), Or.inr (Or.inl ⟨rfl, 3, e27_718, rfl, rfl, rfl, trivial, trivial⟩), Or.inr (Or.inl ⟨rfl, 1, e27_721, rfl, rfl, am_eq9 (by decide +kernel), trivial, trivial⟩), Or.inr (Or.inl ⟨rfl, 1, e27_722, rfl, rfl, trivial, trivial, trivial⟩), Or.inr (Or.inl ⟨rfl, 1, e27_723, rfl, rfl, rfl, trivial, trivial⟩), Or.inr (Or.inl ⟨rfl, 3, e27_724, rfl, rfl, trivial, trivial, ⟨by decide, ⟨_, TX7, 4, rfl, okM_74, rfl⟩, bw_303, bw_304, bw_305⟩⟩), Or.inr (Or.inl ⟨rfl, 1, e27_727, rfl, rfl, rfl, trivial, trivial⟩), Or.inr (Or.inl ⟨rfl, 3, e27_728, rfl, rfl, trivial, trivial, ⟨by decide, ⟨_, TX8, 27, rfl, okM_138, rfl⟩, bw_1162, bw_1163, bw_1164⟩⟩), Or.inr (Or.inl ⟨rfl, 3, e27_731, rfl, rfl, rfl, trivial, trivial⟩), Or.inr (Or.inl ⟨rfl, 1, e27_734, rfl, rfl, am_eq9 (by decide +kernel), trivial, trivial⟩), Or.inr (Or.inl ⟨rfl, 1, e27_735, rfl, rfl, trivial, trivial, trivial⟩), trivial⟩
theorem w27_17 : am_all (xm_V9 (xm_G 27)) xm_l27_17 := ⟨Or.inr (Or.inl ⟨rfl, 1, e27_736, rfl, rfl, rfl, trivial, trivial⟩), Or.inr (Or.inl ⟨rfl, 3, e27_737, rfl, rfl, trivial, trivial, ⟨by decide, ⟨_, TX7, 4, rfl, okM_75, rfl⟩, bw_307, bw_308, bw_309⟩⟩), Or.inr (Or.inl ⟨rfl, 1, e27_740, rfl, rfl, rfl, trivial, trivial⟩), Or.inr (Or.inl ⟨rfl, 3, e27_741, rfl, rfl, trivial, trivial, ⟨by decide, ⟨_, TX8, 27, rfl, okM_139, rfl⟩, bw_1166, bw_1167, bw_1168⟩⟩), Or.inr (Or.inl ⟨rfl, 3, e27_744, rfl, rfl, rfl, trivial, trivial⟩), Or.inr (Or.inl ⟨rfl, 1, e27_747, rfl, rfl, am_eq9 (by decide +kernel), trivial, trivial⟩), Or.inr (Or.inl ⟨rfl, 1, e27_748, rfl, rfl, trivial, trivial, trivial⟩), Or.inr (Or.inl ⟨rfl, 1, e27_749, rfl, rfl, rfl, trivial, trivial⟩), Or.inr (Or.inl ⟨rfl, 1, e27_750, rfl, rfl, rfl, trivial, trivial⟩), Or.inr (Or.inl ⟨rfl, 2, e27_751, rfl, rfl, rfl, trivial, trivial⟩), Or.inr (Or.inl ⟨rfl, 1, e27_753, rfl, rfl, am_eq9 (by decide +kernel), trivial, trivial⟩), Or.inr (Or.inl ⟨rfl, 1, e27_754, rfl, rfl, trivial, trivial, trivial⟩), Or.inr (Or.inl ⟨rfl, 1, e27_755, rfl, rfl, trivial, trivial, trivial⟩), Or.inr (Or.inl ⟨rfl, 1, e27_756, rfl, rfl, rfl, trivial, trivial⟩), Or.inr (Or.inr (Or.inr ⟨⟨128, e27_757, rfl, by decide, xkM_20, bw_827, bw_826⟩, fun q h => absurd h List.not_mem_nil⟩)), Or.inr (Or.inl ⟨rfl, 2, e27_760, rfl, rfl, rfl, trivial, trivial⟩), Or.inr (Or.inl ⟨rfl, 1, e27_762, rfl, rfl, rfl, trivial, trivial⟩), Or.inr (Or.inl ⟨rfl, 1, e27_763, rfl, rfl, rfl, trivial, trivial⟩), Or.inr (Or.inl ⟨rfl, 2, e27_764, rfl, rfl, rfl, trivial, trivial⟩), Or.inr (Or.inl ⟨rfl, 1, e27_766, rfl, rfl, am_eq9 (by decide +kernel), trivial, trivial⟩), Or.inr (Or.inl ⟨rfl, 1, e27_767, rfl, rfl, trivial, trivial, trivial⟩), Or.inr (Or.inl ⟨rfl, 1, e27_768, rfl, rfl, trivial, trivial, trivial⟩), Or.inr (Or.inl ⟨rfl, 3, e27_769, rfl, rfl, trivial, trivial, ⟨by decide, ⟨_, TX8, 27, rfl, okM_140, rfl⟩, bw_1170, bw_1171, bw_1172⟩⟩), Or.inr (Or.inl ⟨rfl, 2, e27_772, rfl, rfl, rfl, trivial, trivial⟩), trivial⟩
theorem w27_18 : am_all (xm_V9 (xm_G 27)) xm_l27_18 := ⟨Or.inr (Or.inl ⟨rfl, 1, e27_774, rfl, rfl, rfl, trivial, trivial⟩), Or.inr (Or.inl ⟨rfl, 3, e27_775, rfl, rfl, trivial, trivial, ⟨by decide, ⟨_, TX8, 27, rfl, okM_96, rfl⟩, bw_1005, bw_1006, bw_1007⟩⟩), Or.inr (Or.inl ⟨rfl, 2, e27_778, rfl, rfl, rfl, trivial, trivial⟩), Or.inr (Or.inl ⟨rfl, 3, e27_780, rfl, rfl, rfl, trivial, trivial⟩), Or.inr (Or.inl ⟨rfl, 1, e27_783, rfl, rfl, am_eq9 (by decide +kernel), trivial, trivial⟩), Or.inr (Or.inl ⟨rfl, 1, e27_784, rfl, rfl, trivial, trivial, trivial⟩), Or.inr (Or.inl ⟨rfl, 2, e27_785, rfl, rfl, rfl, trivial, trivial⟩), Or.inr (Or.inl ⟨rfl, 3, e27_787, rfl, rfl, rfl, trivial, trivial⟩), Or.inr (Or.inl ⟨rfl, 1, e27_790, rfl, rfl, rfl, trivial, trivial⟩), Or.inr (Or.inl ⟨rfl, 1, e27_791, rfl, rfl, am_eq9 (by decide +kernel), trivial, trivial⟩), Or.inr (Or.inl ⟨rfl, 1, e27_792, rfl, rfl, trivial, trivial, trivial⟩), Or.inr (Or.inl ⟨rfl, 2, e27_793, rfl, rfl, rfl, trivial, trivial⟩), Or.inr (Or.inl ⟨rfl, 1, e27_795, rfl, rfl, trivial, trivial, trivial⟩), Or.inr (Or.inl ⟨rfl, 1, e27_796, rfl, rfl, trivial, trivial, trivial⟩), Or.inr (Or.inl ⟨rfl, 3, e27_797, rfl, rfl, rfl, trivial, trivial⟩), Or.inr (Or.inl ⟨rfl, 1, e27_800, rfl, rfl, am_eq9 (by decide +kernel), trivial, trivial⟩), Or.inr (Or.inl ⟨rfl, 1, e27_801, rfl, rfl, trivial, trivial, trivial⟩), Or.inr (Or.inl ⟨rfl, 3, e27_802, rfl, rfl, rfl, trivial, trivial⟩), Or.inr (Or.inl ⟨rfl, 1, e27_805, rfl, rfl, rfl, trivial, trivial⟩), Or.inr (Or.inl ⟨rfl, 1, e27_806, rfl, rfl, rfl, trivial, trivial⟩), Or.inr (Or.inl ⟨rfl, 2, e27_807, rfl, rfl, rfl, trivial, trivial⟩), Or.inr (Or.inl ⟨rfl, 1, e27_809, rfl, rfl, am_eq9 (by decide +kernel), trivial, trivial⟩), Or.inr (Or.inl ⟨rfl, 1, e27_810, rfl, rfl, trivial, trivial, trivial⟩), Or.inr (Or.inl ⟨rfl, 1, e27_811, rfl, rfl, trivial, trivial, trivial⟩), trivial⟩
theorem w27_19 : am_all (xm_V9 (xm_G 27)) xm_l27_19 := ⟨Or.inr (Or.inl ⟨rfl, 1, e27_812, rfl, rfl, rfl, trivial, trivial⟩), Or.inr (Or.inr (Or.inr ⟨⟨131, e27_813, rfl, by decide, xkM_21, bw_835, bw_834⟩, fun q h => absurd h List.not_mem_nil⟩)), Or.inr (Or.inl ⟨rfl, 2, e27_816, rfl, rfl, rfl, trivial, trivial⟩), Or.inr (Or.inl ⟨rfl, 1, e27_818, rfl, rfl, rfl, trivial, trivial⟩), Or.inr (Or.inl ⟨rfl, 1, e27_819, rfl, rfl, rfl, trivial, trivial⟩), Or.inr (Or.inl ⟨rfl, 2, e27_820, rfl, rfl, rfl, trivial, trivial⟩), Or.inr (Or.inl ⟨rfl, 1, e27_822, rfl, rfl, am_eq9 (by decide +kernel), trivial, trivial⟩), Or.inr (Or.inl ⟨rfl, 1, e27_823, rfl, rfl, trivial, trivial, trivial⟩), Or.inr (Or.inl ⟨rfl, 1, e27_824, rfl, rfl, trivial, trivial, trivial⟩), Or.inr (Or.inl ⟨rfl, 3, e27_825, rfl, rfl, trivial, trivial, ⟨by decide, ⟨_, TX8, 27, rfl, okM_141, rfl⟩, bw_1174, bw_1175, bw_1176⟩⟩), Or.inr (Or.inl ⟨rfl, 2, e27_828, rfl, rfl, rfl, trivial, trivial⟩), Or.inr (Or.inl ⟨rfl, 1, e27_830, rfl, rfl, rfl, trivial, trivial⟩), Or.inr (Or.inl ⟨rfl, 3, e27_831, rfl, rfl, trivial, trivial, ⟨by decide, ⟨_, TX8, 27, rfl, okM_96, rfl⟩, bw_1005, bw_1006, bw_1007⟩⟩), Or.inr (Or.inl ⟨rfl, 2, e27_834, rfl, rfl, rfl, trivial, trivial⟩), Or.inr (Or.inl ⟨rfl, 3, e27_836, rfl, rfl, rfl, trivial, trivial⟩), Or.inr (Or.inl ⟨rfl, 1, e27_839, rfl, rfl, am_eq9 (by decide +kernel), trivial, trivial⟩), Or.inr (Or.inl ⟨rfl, 1, e27_840, rfl, rfl, trivial, trivial, trivial⟩), Or.inr (Or.inl ⟨rfl, 2, e27_841, rfl, rfl, rfl, trivial, trivial⟩), Or.inr (Or.inl ⟨rfl, 3, e27_843, rfl, rfl, rfl, trivial, trivial⟩), Or.inr (Or.inl ⟨rfl, 1, e27_846, rfl, rfl, rfl, trivial, trivial⟩), Or.inr (Or.inl ⟨rfl, 1, e27_847, rfl, rfl, am_eq9 (by decide +kernel), trivial, trivial⟩), Or.inr (Or.inl ⟨rfl, 1, e27_848, rfl, rfl, trivial, trivial, trivial⟩), Or.inr (Or.inl ⟨rfl, 2, e27_849, rfl, rfl, rfl, trivial, trivial⟩), Or.inr (Or.inl ⟨rfl, 1, e27_851, rfl, rfl, trivial, trivial, trivial⟩), trivial⟩
theorem w27_20 : am_all (xm_V9 (xm_G 27)) xm_l27_20 := ⟨Or.inr (Or.inl ⟨rfl, 1, e27_852, rfl, rfl, trivial, trivial, trivial⟩), Or.inr (Or.inl ⟨rfl, 3, e27_853, rfl, rfl, rfl, trivial, trivial⟩), Or.inr (Or.inl ⟨rfl, 1, e27_856, rfl, rfl, am_eq9 (by decide +kernel), trivial, trivial⟩), Or.inr (Or.inl ⟨rfl, 1, e27_857, rfl, rfl, trivial, trivial, trivial⟩), Or.inr (Or.inl ⟨rfl, 3, e27_858, rfl, rfl, rfl, trivial, trivial⟩), Or.inr (Or.inl ⟨rfl, 1, e27_861, rfl, rfl, rfl, trivial, trivial⟩), Or.inr (Or.inl ⟨rfl, 3, e27_862, rfl, rfl, trivial, trivial, ⟨by decide, ⟨_, TX7, 4, rfl, okM_76, rfl⟩, bw_311, bw_312, bw_313⟩⟩), Or.inr (Or.inl ⟨rfl, 1, e27_865, rfl, rfl, rfl, trivial, trivial⟩), Or.inr (Or.inl ⟨rfl, 3, e27_866, rfl, rfl, trivial, trivial, ⟨by decide, ⟨_, TX8, 27, rfl, okM_142, rfl⟩, bw_1178, bw_1179, bw_1180⟩⟩), Or.inr (Or.inl ⟨rfl, 3, e27_869, rfl, rfl, rfl, trivial, trivial⟩), Or.inr (Or.inl ⟨rfl, 1, e27_872, rfl, rfl, am_eq9 (by decide +kernel), trivial, trivial⟩), Or.inr (Or.inl ⟨rfl, 1, e27_873, rfl, rfl, trivial, trivial, trivial⟩), Or.inr (Or.inl ⟨rfl, 1, e27_874, rfl, rfl, rfl, trivial, trivial⟩), Or.inr (Or.inl ⟨rfl, 1, e27_875, rfl, rfl, rfl, trivial, trivial⟩), Or.inr (Or.inl ⟨rfl, 2, e27_876, rfl, rfl, rfl, trivial, trivial⟩), Or.inr (Or.inl ⟨rfl, 1, e27_878, rfl, rfl, am_eq9 (by decide +kernel), trivial, trivial⟩), Or.inr (Or.inl ⟨rfl, 1, e27_879, rfl, rfl, trivial, trivial, trivial⟩), Or.inr (Or.inl ⟨rfl, 1, e27_880, rfl, rfl, trivial, trivial, trivial⟩), Or.inr (Or.inl ⟨rfl, 1, e27_881, rfl, rfl, rfl, trivial, trivial⟩), Or.inr (Or.inl ⟨rfl, 2, e27_882, rfl, rfl, rfl, trivial, trivial⟩), Or.inr (Or.inl ⟨rfl, 1, e27_884, rfl, rfl, am_eq9 (by decide +kernel), trivial, trivial⟩), Or.inr (Or.inl ⟨rfl, 1, e27_885, rfl, rfl, trivial, trivial, trivial⟩), Or.inr (Or.inl ⟨rfl, 1, e27_886, rfl, rfl, trivial, trivial, trivial⟩), Or.inr (Or.inl ⟨rfl, 1, e27_887, rfl, rfl, rfl, trivial, trivial⟩), trivial⟩
theorem w27_21 : am_all (xm_V9 (xm_G 27)) xm_l27_21 := ⟨Or.inr (Or.inr (Or.inr ⟨⟨138, e27_888, rfl, by decide, xkM_22, bw_843, bw_842⟩, fun q h => absurd h List.not_mem_nil⟩)), Or.inr (Or.inl ⟨rfl, 2, e27_891, rfl, rfl, rfl, trivial, trivial⟩), Or.inr (Or.inl ⟨rfl, 1, e27_893, rfl, rfl, rfl, trivial, trivial⟩), Or.inr (Or.inl ⟨rfl, 1, e27_894, rfl, rfl, rfl, trivial, trivial⟩), Or.inr (Or.inl ⟨rfl, 2, e27_895, rfl, rfl, rfl, trivial, trivial⟩), Or.inr (Or.inl ⟨rfl, 1, e27_897, rfl, rfl, am_eq9 (by decide +kernel), trivial, trivial⟩), Or.inr (Or.inl ⟨rfl, 1, e27_898, rfl, rfl, trivial, trivial, trivial⟩), Or.inr (Or.inl ⟨rfl, 1, e27_899, rfl, rfl, trivial, trivial, trivial⟩), Or.inr (Or.inl ⟨rfl, 1, e27_900, rfl, rfl, rfl, trivial, trivial⟩), Or.inr (Or.inl ⟨rfl, 2, e27_901, rfl, rfl, rfl, trivial, trivial⟩), Or.inr (Or.inl ⟨rfl, 1, e27_903, rfl, rfl, am_eq9 (by decide +kernel), trivial, trivial⟩), Or.inr (Or.inl ⟨rfl, 1, e27_904, rfl, rfl, trivial, trivial, trivial⟩), Or.inr (Or.inl ⟨rfl, 1, e27_905, rfl, rfl, trivial, trivial, trivial⟩), Or.inr (Or.inl ⟨rfl, 3, e27_906, rfl, rfl, trivial, trivial, ⟨by decide, ⟨_, TX8, 27, rfl, okM_143, rfl⟩, bw_1182, bw_1183, bw_1184⟩⟩), Or.inr (Or.inl ⟨rfl, 2, e27_909, rfl, rfl, rfl, trivial, trivial⟩), Or.inr (Or.inl ⟨rfl, 1, e27_911, rfl, rfl, rfl, trivial, trivial⟩), Or.inr (Or.inl ⟨rfl, 3, e27_912, rfl, rfl, trivial, trivial, ⟨by decide, ⟨_, TX8, 27, rfl, okM_96, rfl⟩, bw_1005, bw_1006, bw_1007⟩⟩), Or.inr (Or.inl ⟨rfl, 2, e27_915, rfl, rfl, rfl, trivial, trivial⟩), Or.inr (Or.inl ⟨rfl, 3, e27_917, rfl, rfl, rfl, trivial, trivial⟩), Or.inr (Or.inl ⟨rfl, 1, e27_920, rfl, rfl, am_eq9 (by decide +kernel), trivial, trivial⟩), Or.inr (Or.inl ⟨rfl, 1, e27_921, rfl, rfl, trivial, trivial, trivial⟩), Or.inr (Or.inl ⟨rfl, 2, e27_922, rfl, rfl, rfl, trivial, trivial⟩), Or.inr (Or.inl ⟨rfl, 3, e27_924, rfl, rfl, rfl, trivial, trivial⟩), Or.inr (Or.inl ⟨rfl, 1, e27_927, rfl, rfl, rfl, trivial, trivial⟩), trivial⟩
theorem w27_22 : am_all (xm_V9 (xm_G 27)) xm_l27_22 := ⟨Or.inr (Or.inl ⟨rfl, 1, e27_928, rfl, rfl, am_eq9 (by decide +kernel), trivial, trivial⟩), Or.inr (Or.inl ⟨rfl, 1, e27_929, rfl, rfl, trivial, trivial, trivial⟩), Or.inr (Or.inl ⟨rfl, 2, e27_930, rfl, rfl, rfl, trivial, trivial⟩), Or.inr (Or.inl ⟨rfl, 1, e27_932, rfl, rfl, trivial, trivial, trivial⟩), Or.inr (Or.inl ⟨rfl, 1, e27_933, rfl, rfl, trivial, trivial, trivial⟩), Or.inr (Or.inl ⟨rfl, 3, e27_934, rfl, rfl, rfl, trivial, trivial⟩), Or.inr (Or.inl ⟨rfl, 1, e27_937, rfl, rfl, am_eq9 (by decide +kernel), trivial, trivial⟩), Or.inr (Or.inl ⟨rfl, 1, e27_938, rfl, rfl, trivial, trivial, trivial⟩), Or.inr (Or.inl ⟨rfl, 3, e27_939, rfl, rfl, rfl, trivial, trivial⟩), Or.inr (Or.inl ⟨rfl, 1, e27_942, rfl, rfl, rfl, trivial, trivial⟩), Or.inr (Or.inl ⟨rfl, 1, e27_943, rfl, rfl, rfl, trivial, trivial⟩), Or.inr (Or.inl ⟨rfl, 2, e27_944, rfl, rfl, rfl, trivial, trivial⟩), Or.inr (Or.inl ⟨rfl, 1, e27_946, rfl, rfl, am_eq9 (by decide +kernel), trivial, trivial⟩), Or.inr (Or.inl ⟨rfl, 1, e27_947, rfl, rfl, trivial, trivial, trivial⟩), Or.inr (Or.inl ⟨rfl, 1, e27_948, rfl, rfl, trivial, trivial, trivial⟩), Or.inr (Or.inl ⟨rfl, 1, e27_949, rfl, rfl, rfl, trivial, trivial⟩), Or.inr (Or.inl ⟨rfl, 2, e27_950, rfl, rfl, rfl, trivial, trivial⟩), Or.inr (Or.inl ⟨rfl, 1, e27_952, rfl, rfl, am_eq9 (by decide +kernel), trivial, trivial⟩), Or.inr (Or.inl ⟨rfl, 1, e27_953, rfl, rfl, trivial, trivial, trivial⟩), Or.inr (Or.inl ⟨rfl, 1, e27_954, rfl, rfl, trivial, trivial, trivial⟩), Or.inr (Or.inl ⟨rfl, 1, e27_955, rfl, rfl, rfl, trivial, trivial⟩), Or.inr (Or.inl ⟨rfl, 2, e27_956, rfl, rfl, rfl, trivial, trivial⟩), Or.inr (Or.inl ⟨rfl, 1, e27_958, rfl, rfl, am_eq9 (by decide +kernel), trivial, trivial⟩), Or.inr (Or.inl ⟨rfl, 1, e27_959, rfl, rfl, trivial, trivial, trivial⟩), trivial⟩
theorem w27_23 : am_all (xm_V9 (xm_G 27)) xm_l27_23 := ⟨Or.inr (Or.inl ⟨rfl, 1, e27_960, rfl, rfl, trivial, trivial, trivial⟩), Or.inr (Or.inl ⟨rfl, 1, e27_961, rfl, rfl, rfl, trivial, trivial⟩), Or.inr (Or.inr (Or.inr ⟨⟨142, e27_962, rfl, by decide, xkM_23, bw_868, bw_867⟩, fun q h => absurd h List.not_mem_nil⟩)), Or.inr (Or.inl ⟨rfl, 2, e27_965, rfl, rfl, rfl, trivial, trivial⟩), Or.inr (Or.inl ⟨rfl, 1, e27_967, rfl, rfl, rfl, trivial, trivial⟩), Or.inr (Or.inl ⟨rfl, 1, e27_968, rfl, rfl, rfl, trivial, trivial⟩), Or.inr (Or.inl ⟨rfl, 2, e27_969, rfl, rfl, rfl, trivial, trivial⟩), Or.inr (Or.inl ⟨rfl, 1, e27_971, rfl, rfl, am_eq9 (by decide +kernel), trivial, trivial⟩), Or.inr (Or.inl ⟨rfl, 1, e27_972, rfl, rfl, trivial, trivial, trivial⟩), Or.inr (Or.inl ⟨rfl, 1, e27_973, rfl, rfl, trivial, trivial, trivial⟩), Or.inr (Or.inl ⟨rfl, 1, e27_974, rfl, rfl, rfl, trivial, trivial⟩), Or.inr (Or.inl ⟨rfl, 2, e27_975, rfl, rfl, rfl, trivial, trivial⟩), Or.inr (Or.inl ⟨rfl, 1, e27_977, rfl, rfl, am_eq9 (by decide +kernel), trivial, trivial⟩), Or.inr (Or.inl ⟨rfl, 1, e27_978, rfl, rfl, trivial, trivial, trivial⟩), Or.inr (Or.inl ⟨rfl, 1, e27_979, rfl, rfl, trivial, trivial, trivial⟩), Or.inr (Or.inl ⟨rfl, 1, e27_980, rfl, rfl, rfl, trivial, trivial⟩), Or.inr (Or.inl ⟨rfl, 2, e27_981, rfl, rfl, rfl, trivial, trivial⟩), Or.inr (Or.inl ⟨rfl, 1, e27_983, rfl, rfl, am_eq9 (by decide +kernel), trivial, trivial⟩), Or.inr (Or.inl ⟨rfl, 1, e27_984, rfl, rfl, trivial, trivial, trivial⟩), Or.inr (Or.inl ⟨rfl, 1, e27_985, rfl, rfl, trivial, trivial, trivial⟩), Or.inr (Or.inl ⟨rfl, 3, e27_986, rfl, rfl, trivial, trivial, ⟨by decide, ⟨_, TX8, 27, rfl, okM_144, rfl⟩, bw_1186, aw_1187, aw_1188⟩⟩), Or.inr (Or.inl ⟨rfl, 2, e27_989, rfl, rfl, rfl, trivial, trivial⟩), Or.inr (Or.inl ⟨rfl, 1, e27_991, rfl, rfl, rfl, trivial, trivial⟩), Or.inr (Or.inl ⟨rfl, 3, e27_992, rfl, rfl, trivial, trivial, ⟨by decide, ⟨_, TX8, 27, rfl, okM_96, rfl⟩, bw_1005, bw_1006, bw_1007⟩⟩), trivial⟩
theorem w27_24 : am_all (xm_V9 (xm_G 27)) xm_l27_24 := ⟨Or.inr (Or.inl ⟨rfl, 2, e27_995, rfl, rfl, rfl, trivial, trivial⟩), Or.inr (Or.inl ⟨rfl, 3, e27_997, rfl, rfl, rfl, trivial, trivial⟩), Or.inr (Or.inl ⟨rfl, 1, e27_1000, rfl, rfl, am_eq9 (by decide +kernel), trivial, trivial⟩), Or.inr (Or.inl ⟨rfl, 1, e27_1001, rfl, rfl, trivial, trivial, trivial⟩), Or.inr (Or.inl ⟨rfl, 2, e27_1002, rfl, rfl, rfl, trivial, trivial⟩), Or.inr (Or.inl ⟨rfl, 3, e27_1004, rfl, rfl, rfl, trivial, trivial⟩), Or.inr (Or.inl ⟨rfl, 1, e27_1007, rfl, rfl, rfl, trivial, trivial⟩), Or.inr (Or.inl ⟨rfl, 1, e27_1008, rfl, rfl, am_eq9 (by decide +kernel), trivial, trivial⟩), Or.inr (Or.inl ⟨rfl, 1, e27_1009, rfl, rfl, trivial, trivial, trivial⟩), Or.inr (Or.inl ⟨rfl, 2, e27_1010, rfl, rfl, rfl, trivial, trivial⟩), Or.inr (Or.inl ⟨rfl, 3, e27_1012, rfl, rfl, rfl, trivial, trivial⟩), Or.inr (Or.inl ⟨rfl, 1, e27_1015, rfl, rfl, rfl, trivial, trivial⟩), Or.inr (Or.inl ⟨rfl, 3, e27_1016, rfl, rfl, rfl, trivial, trivial⟩), Or.inr (Or.inl ⟨rfl, 1, e27_1019, rfl, rfl, rfl, trivial, trivial⟩), Or.inr (Or.inl ⟨rfl, 1, e27_1020, rfl, rfl, trivial, trivial, trivial⟩), Or.inr (Or.inl ⟨rfl, 3, e27_1021, rfl, rfl, rfl, trivial, trivial⟩), Or.inr (Or.inl ⟨rfl, 1, e27_1024, rfl, rfl, am_eq9 (by decide +kernel), trivial, trivial⟩), Or.inr (Or.inl ⟨rfl, 1, e27_1025, rfl, rfl, trivial, trivial, trivial⟩), Or.inr (Or.inl ⟨rfl, 3, e27_1026, rfl, rfl, rfl, trivial, trivial⟩), Or.inr (Or.inl ⟨rfl, 1, e27_1029, rfl, rfl, rfl, trivial, trivial⟩), Or.inr (Or.inl ⟨rfl, 1, e27_1030, rfl, rfl, rfl, trivial, trivial⟩), Or.inr (Or.inl ⟨rfl, 2, e27_1031, rfl, rfl, rfl, trivial, trivial⟩), Or.inr (Or.inl ⟨rfl, 1, e27_1033, rfl, rfl, am_eq9 (by decide +kernel), trivial, trivial⟩), Or.inr (Or.inl ⟨rfl, 1, e27_1034, rfl, rfl, trivial, trivial, trivial⟩), trivial⟩
theorem w27_25 : am_all (xm_V9 (xm_G 27)) xm_l27_25 := ⟨Or.inr (Or.inl ⟨rfl, 1, e27_1035, rfl, rfl, trivial, trivial, trivial⟩), Or.inr (Or.inl ⟨rfl, 1, e27_1036, rfl, rfl, rfl, trivial, trivial⟩), Or.inr (Or.inl ⟨rfl, 2, e27_1037, rfl, rfl, rfl, trivial, trivial⟩), Or.inr (Or.inl ⟨rfl, 1, e27_1039, rfl, rfl, am_eq9 (by decide +kernel), trivial, trivial⟩), Or.inr (Or.inl ⟨rfl, 1, e27_1040, rfl, rfl, trivial, trivial, trivial⟩), Or.inr (Or.inl ⟨rfl, 1, e27_1041, rfl, rfl, trivial, trivial, trivial⟩), Or.inr (Or.inl ⟨rfl, 1, e27_1042, rfl, rfl, rfl, trivial, trivial⟩), Or.inr (Or.inl ⟨rfl, 2, e27_1043, rfl, rfl, rfl, trivial, trivial⟩), Or.inr (Or.inl ⟨rfl, 1, e27_1045, rfl, rfl, am_eq9 (by decide +kernel), trivial, trivial⟩), Or.inr (Or.inl ⟨rfl, 1, e27_1046, rfl, rfl, trivial, trivial, trivial⟩), Or.inr (Or.inl ⟨rfl, 1, e27_1047, rfl, rfl, trivial, trivial, trivial⟩), Or.inr (Or.inl ⟨rfl, 1, e27_1048, rfl, rfl, rfl, trivial, trivial⟩), Or.inr (Or.inr (Or.inr ⟨⟨146, e27_1049, rfl, by decide, xkM_24, bw_875, bw_874⟩, fun q h => absurd h List.not_mem_nil⟩)), Or.inr (Or.inl ⟨rfl, 2, e27_1052, rfl, rfl, rfl, trivial, trivial⟩), Or.inr (Or.inl ⟨rfl, 1, e27_1054, rfl, rfl, rfl, trivial, trivial⟩), Or.inr (Or.inl ⟨rfl, 1, e27_1055, rfl, rfl, rfl, trivial, trivial⟩), Or.inr (Or.inl ⟨rfl, 2, e27_1056, rfl, rfl, rfl, trivial, trivial⟩), Or.inr (Or.inl ⟨rfl, 1, e27_1058, rfl, rfl, am_eq9 (by decide +kernel), trivial, trivial⟩), Or.inr (Or.inl ⟨rfl, 1, e27_1059, rfl, rfl, trivial, trivial, trivial⟩), Or.inr (Or.inl ⟨rfl, 1, e27_1060, rfl, rfl, trivial, trivial, trivial⟩), Or.inr (Or.inl ⟨rfl, 1, e27_1061, rfl, rfl, rfl, trivial, trivial⟩), Or.inr (Or.inl ⟨rfl, 2, e27_1062, rfl, rfl, rfl, trivial, trivial⟩), Or.inr (Or.inl ⟨rfl, 1, e27_1064, rfl, rfl, am_eq9 (by decide +kernel), trivial, trivial⟩), Or.inr (Or.inl ⟨rfl, 1, e27_1065, rfl, rfl, trivial, trivial, trivial⟩), trivial⟩
theorem w27_26 : am_all (xm_V9 (xm_G 27)) xm_l27_26 := ⟨Or.inr (Or.inl ⟨rfl, 1, e27_1066, rfl, rfl, trivial, trivial, trivial⟩), Or.inr (Or.inl ⟨rfl, 1, e27_1067, rfl, rfl, rfl, trivial, trivial⟩), Or.inr (Or.inl ⟨rfl, 2, e27_1068, rfl, rfl, rfl, trivial, trivial⟩), Or.inr (Or.inl ⟨rfl, 1, e27_1070, rfl, rfl, am_eq9 (by decide +kernel), trivial, trivial⟩), Or.inr (Or.inl ⟨rfl, 1, e27_1071, rfl, rfl, trivial, trivial, trivial⟩), Or.inr (Or.inl ⟨rfl, 1, e27_1072, rfl, rfl, trivial, trivial, trivial⟩), Or.inr (Or.inl ⟨rfl, 3, e27_1073, rfl, rfl, trivial, trivial, ⟨by decide, ⟨_, TX8, 27, rfl, okM_145, rfl⟩, bw_1190, bw_1191, bw_1192⟩⟩), Or.inr (Or.inl ⟨rfl, 2, e27_1076, rfl, rfl, rfl, trivial, trivial⟩), Or.inr (Or.inl ⟨rfl, 1, e27_1078, rfl, rfl, rfl, trivial, trivial⟩), Or.inr (Or.inl ⟨rfl, 3, e27_1079, rfl, rfl, trivial, trivial, ⟨by decide, ⟨_, TX8, 27, rfl, okM_96, rfl⟩, bw_1005, bw_1006, bw_1007⟩⟩), Or.inr (Or.inl ⟨rfl, 2, e27_1082, rfl, rfl, rfl, trivial, trivial⟩), Or.inr (Or.inl ⟨rfl, 3, e27_1084, rfl, rfl, rfl, trivial, trivial⟩), Or.inr (Or.inl ⟨rfl, 1, e27_1087, rfl, rfl, am_eq9 (by decide +kernel), trivial, trivial⟩), Or.inr (Or.inl ⟨rfl, 1, e27_1088, rfl, rfl, trivial, trivial, trivial⟩), Or.inr (Or.inl ⟨rfl, 2, e27_1089, rfl, rfl, rfl, trivial, trivial⟩), Or.inr (Or.inl ⟨rfl, 3, e27_1091, rfl, rfl, rfl, trivial, trivial⟩), Or.inr (Or.inl ⟨rfl, 1, e27_1094, rfl, rfl, rfl, trivial, trivial⟩), Or.inr (Or.inl ⟨rfl, 1, e27_1095, rfl, rfl, am_eq9 (by decide +kernel), trivial, trivial⟩), Or.inr (Or.inl ⟨rfl, 1, e27_1096, rfl, rfl, trivial, trivial, trivial⟩), Or.inr (Or.inl ⟨rfl, 2, e27_1097, rfl, rfl, rfl, trivial, trivial⟩), Or.inr (Or.inl ⟨rfl, 3, e27_1099, rfl, rfl, rfl, trivial, trivial⟩), Or.inr (Or.inl ⟨rfl, 1, e27_1102, rfl, rfl, rfl, trivial, trivial⟩), Or.inr (Or.inl ⟨rfl, 3, e27_1103, rfl, rfl, rfl, trivial, trivial⟩), Or.inr (Or.inl ⟨rfl, 1, e27_1106, rfl, rfl, rfl, trivial, trivial⟩), trivial⟩
theorem w27_27 : am_all (xm_V9 (xm_G 27)) xm_l27_27 := ⟨Or.inr (Or.inl ⟨rfl, 1, e27_1107, rfl, rfl, trivial, trivial, trivial⟩), Or.inr (Or.inl ⟨rfl, 3, e27_1108, rfl, rfl, rfl, trivial, trivial⟩), Or.inr (Or.inl ⟨rfl, 1, e27_1111, rfl, rfl, am_eq9 (by decide +kernel), trivial, trivial⟩), Or.inr (Or.inl ⟨rfl, 1, e27_1112, rfl, rfl, trivial, trivial, trivial⟩), Or.inr (Or.inl ⟨rfl, 3, e27_1113, rfl, rfl, rfl, trivial, trivial⟩), Or.inr (Or.inl ⟨rfl, 1, e27_1116, rfl, rfl, rfl, trivial, trivial⟩), Or.inr (Or.inl ⟨rfl, 3, e27_1117, rfl, rfl, trivial, trivial, ⟨by decide, ⟨_, TX7, 4, rfl, okM_77, rfl⟩, bw_315, bw_316, bw_317⟩⟩), Or.inr (Or.inl ⟨rfl, 1, e27_1120, rfl, rfl, rfl, trivial, trivial⟩), Or.inr (Or.inl ⟨rfl, 3, e27_1121, rfl, rfl, trivial, trivial, ⟨by decide, ⟨_, TX8, 27, rfl, okM_147, rfl⟩, bw_1195, bw_1196, bw_1197⟩⟩), Or.inr (Or.inl ⟨rfl, 3, e27_1124, rfl, rfl, rfl, trivial, trivial⟩), Or.inr (Or.inl ⟨rfl, 1, e27_1127, rfl, rfl, am_eq9 (by decide +kernel), trivial, trivial⟩), Or.inr (Or.inl ⟨rfl, 1, e27_1128, rfl, rfl, trivial, trivial, trivial⟩), Or.inr (Or.inl ⟨rfl, 1, e27_1129, rfl, rfl, rfl, trivial, trivial⟩), Or.inr (Or.inl ⟨rfl, 1, e27_1130, rfl, rfl, rfl, trivial, trivial⟩), Or.inr (Or.inl ⟨rfl, 2, e27_1131, rfl, rfl, rfl, trivial, trivial⟩), Or.inr (Or.inl ⟨rfl, 1, e27_1133, rfl, rfl, am_eq9 (by decide +kernel), trivial, trivial⟩), Or.inr (Or.inl ⟨rfl, 1, e27_1134, rfl, rfl, trivial, trivial, trivial⟩), Or.inr (Or.inl ⟨rfl, 1, e27_1135, rfl, rfl, trivial, trivial, trivial⟩), Or.inr (Or.inl ⟨rfl, 1, e27_1136, rfl, rfl, rfl, trivial, trivial⟩), Or.inr (Or.inl ⟨rfl, 2, e27_1137, rfl, rfl, rfl, trivial, trivial⟩), Or.inr (Or.inl ⟨rfl, 1, e27_1139, rfl, rfl, am_eq9 (by decide +kernel), trivial, trivial⟩), Or.inr (Or.inl ⟨rfl, 1, e27_1140, rfl, rfl, trivial, trivial, trivial⟩), Or.inr (Or.inl ⟨rfl, 1, e27_1141, rfl, rfl, trivial, trivial, trivial⟩), Or.inr (Or.inl ⟨rfl, 1, e27_1142, rfl, rfl, rfl, trivial, trivial⟩), trivial⟩
theorem w27_28 : am_all (xm_V9 (xm_G 27)) xm_l27_28 := ⟨Or.inr (Or.inr (Or.inr ⟨⟨153, e27_1143, rfl, by decide, xkM_25, bw_882, bw_881⟩, fun q h => absurd h List.not_mem_nil⟩)), Or.inr (Or.inl ⟨rfl, 2, e27_1146, rfl, rfl, rfl, trivial, trivial⟩), Or.inr (Or.inl ⟨rfl, 1, e27_1148, rfl, rfl, rfl, trivial, trivial⟩), Or.inr (Or.inl ⟨rfl, 1, e27_1149, rfl, rfl, rfl, trivial, trivial⟩), Or.inr (Or.inl ⟨rfl, 2, e27_1150, rfl, rfl, rfl, trivial, trivial⟩), Or.inr (Or.inl ⟨rfl, 1, e27_1152, rfl, rfl, am_eq9 (by decide +kernel), trivial, trivial⟩), Or.inr (Or.inl ⟨rfl, 1, e27_1153, rfl, rfl, trivial, trivial, trivial⟩), Or.inr (Or.inl ⟨rfl, 1, e27_1154, rfl, rfl, trivial, trivial, trivial⟩), Or.inr (Or.inl ⟨rfl, 1, e27_1155, rfl, rfl, rfl, trivial, trivial⟩), Or.inr (Or.inl ⟨rfl, 2, e27_1156, rfl, rfl, rfl, trivial, trivial⟩), Or.inr (Or.inl ⟨rfl, 1, e27_1158, rfl, rfl, am_eq9 (by decide +kernel), trivial, trivial⟩), Or.inr (Or.inl ⟨rfl, 1, e27_1159, rfl, rfl, trivial, trivial, trivial⟩), Or.inr (Or.inl ⟨rfl, 1, e27_1160, rfl, rfl, trivial, trivial, trivial⟩), Or.inr (Or.inl ⟨rfl, 3, e27_1161, rfl, rfl, trivial, trivial, ⟨by decide, ⟨_, TX8, 27, rfl, okM_148, rfl⟩, bw_1203, bw_1204, bw_1205⟩⟩), Or.inr (Or.inl ⟨rfl, 2, e27_1164, rfl, rfl, rfl, trivial, trivial⟩), Or.inr (Or.inl ⟨rfl, 1, e27_1166, rfl, rfl, rfl, trivial, trivial⟩), Or.inr (Or.inl ⟨rfl, 3, e27_1167, rfl, rfl, trivial, trivial, ⟨by decide, ⟨_, TX8, 27, rfl, okM_96, rfl⟩, bw_1005, bw_1006, bw_1007⟩⟩), Or.inr (Or.inl ⟨rfl, 2, e27_1170, rfl, rfl, rfl, trivial, trivial⟩), Or.inr (Or.inl ⟨rfl, 3, e27_1172, rfl, rfl, rfl, trivial, trivial⟩), Or.inr (Or.inl ⟨rfl, 1, e27_1175, rfl, rfl, am_eq9 (by decide +kernel), trivial, trivial⟩), Or.inr (Or.inl ⟨rfl, 1, e27_1176, rfl, rfl, trivial, trivial, trivial⟩), Or.inr (Or.inl ⟨rfl, 2, e27_1177, rfl, rfl, rfl, trivial, trivial⟩), Or.inr (Or.inl ⟨rfl, 3, e27_1179, rfl, rfl, rfl, trivial, trivial⟩), Or.inr (Or.inl ⟨rfl, 1, e27_1182, rfl, rfl, rfl, trivial, trivial⟩), trivial⟩
theorem w27_29 : am_all (xm_V9 (xm_G 27)) xm_l27_29 := ⟨Or.inr (Or.inl ⟨rfl, 1, e27_1183, rfl, rfl, am_eq9 (by decide +kernel), trivial, trivial⟩), Or.inr (Or.inl ⟨rfl, 1, e27_1184, rfl, rfl, trivial, trivial, trivial⟩), Or.inr (Or.inl ⟨rfl, 2, e27_1185, rfl, rfl, rfl, trivial, trivial⟩), Or.inr (Or.inl ⟨rfl, 1, e27_1187, rfl, rfl, trivial, trivial, trivial⟩), Or.inr (Or.inl ⟨rfl, 1, e27_1188, rfl, rfl, trivial, trivial, trivial⟩), Or.inr (Or.inl ⟨rfl, 3, e27_1189, rfl, rfl, rfl, trivial, trivial⟩), Or.inr (Or.inl ⟨rfl, 1, e27_1192, rfl, rfl, am_eq9 (by decide +kernel), trivial, trivial⟩), Or.inr (Or.inl ⟨rfl, 1, e27_1193, rfl, rfl, trivial, trivial, trivial⟩), Or.inr (Or.inl ⟨rfl, 3, e27_1194, rfl, rfl, rfl, trivial, trivial⟩), Or.inr (Or.inl ⟨rfl, 1, e27_1197, rfl, rfl, rfl, trivial, trivial⟩), Or.inr (Or.inl ⟨rfl, 3, e27_1198, rfl, rfl, trivial, trivial, ⟨by decide, ⟨_, TX7, 4, rfl, okM_78, rfl⟩, bw_329, bw_330, bw_331⟩⟩), Or.inr (Or.inl ⟨rfl, 1, e27_1201, rfl, rfl, rfl, trivial, trivial⟩), Or.inr (Or.inl ⟨rfl, 3, e27_1202, rfl, rfl, trivial, trivial, ⟨by decide, ⟨_, TX8, 27, rfl, okM_149, rfl⟩, bw_1207, bw_1208, bw_1209⟩⟩), Or.inr (Or.inl ⟨rfl, 1, e27_1205, rfl, rfl, trivial, trivial, trivial⟩), Or.inr (Or.inl ⟨rfl, 3, e27_1206, rfl, rfl, rfl, trivial, trivial⟩), Or.inr (Or.inl ⟨rfl, 1, e27_1209, rfl, rfl, am_eq9 (by decide +kernel), trivial, trivial⟩), Or.inr (Or.inl ⟨rfl, 1, e27_1210, rfl, rfl, trivial, trivial, trivial⟩), Or.inr (Or.inl ⟨rfl, 1, e27_1211, rfl, rfl, rfl, trivial, trivial⟩), Or.inr (Or.inl ⟨rfl, 3, e27_1212, rfl, rfl, trivial, trivial, ⟨by decide, ⟨_, TX7, 4, rfl, okM_79, rfl⟩, bw_337, bw_338, bw_339⟩⟩), Or.inr (Or.inl ⟨rfl, 1, e27_1215, rfl, rfl, trivial, trivial, trivial⟩), Or.inr (Or.inl ⟨rfl, 2, e27_1216, rfl, rfl, rfl, trivial, trivial⟩), Or.inr (Or.inl ⟨rfl, 1, e27_1218, rfl, rfl, rfl, trivial, trivial⟩), Or.inr (Or.inl ⟨rfl, 3, e27_1219, rfl, rfl, trivial, trivial, ⟨by decide, ⟨_, TX8, 27, rfl, okM_150, rfl⟩, bw_1211, bw_1212, bw_1213⟩⟩), Or.inr (Or.inl ⟨rfl, 1, e27_1222, rfl, rfl, trivial, trivial, trivial⟩), trivial⟩
theorem w27_30 : am_all (xm_V9 (xm_G 27)) xm_l27_30 := ⟨Or.inr (Or.inl ⟨rfl, 2, e27_1223, rfl, rfl, rfl, trivial, trivial⟩), Or.inr (Or.inl ⟨rfl, 2, e27_1225, rfl, rfl, rfl, trivial, trivial⟩), Or.inr (Or.inl ⟨rfl, 2, e27_1227, rfl, rfl, rfl, trivial, trivial⟩), Or.inr (Or.inl ⟨rfl, 1, e27_1229, rfl, rfl, trivial, trivial, trivial⟩), Or.inr (Or.inl ⟨rfl, 3, e27_1230, rfl, rfl, rfl, trivial, trivial⟩), Or.inr (Or.inl ⟨rfl, 2, e27_1233, rfl, rfl, rfl, trivial, trivial⟩), Or.inr (Or.inl ⟨rfl, 2, e27_1235, rfl, rfl, rfl, trivial, trivial⟩), Or.inr (Or.inl ⟨rfl, 1, e27_1237, rfl, rfl, trivial, trivial, trivial⟩), Or.inr (Or.inl ⟨rfl, 3, e27_1238, rfl, rfl, rfl, trivial, trivial⟩), Or.inr (Or.inl ⟨rfl, 2, e27_1241, rfl, rfl, rfl, trivial, trivial⟩), Or.inr (Or.inl ⟨rfl, 2, e27_1243, rfl, rfl, rfl, trivial, trivial⟩), Or.inr (Or.inl ⟨rfl, 1, e27_1245, rfl, rfl, trivial, trivial, trivial⟩), Or.inr (Or.inl ⟨rfl, 3, e27_1246, rfl, rfl, rfl, trivial, trivial⟩), Or.inr (Or.inl ⟨rfl, 1, e27_1249, rfl, rfl, am_eq9 (by decide +kernel), trivial, trivial⟩), Or.inr (Or.inl ⟨rfl, 1, e27_1250, rfl, rfl, trivial, trivial, trivial⟩), Or.inr (Or.inl ⟨rfl, 3, e27_1251, rfl, rfl, rfl, trivial, trivial⟩), Or.inr (Or.inl ⟨rfl, 1, e27_1254, rfl, rfl, rfl, trivial, trivial⟩), Or.inr (Or.inl ⟨rfl, 3, e27_1255, rfl, rfl, trivial, trivial, ⟨by decide, ⟨_, TX7, 4, rfl, okM_80, rfl⟩, bw_341, bw_342, bw_343⟩⟩), Or.inr (Or.inl ⟨rfl, 1, e27_1258, rfl, rfl, rfl, trivial, trivial⟩), Or.inr (Or.inl ⟨rfl, 3, e27_1259, rfl, rfl, trivial, trivial, ⟨by decide, ⟨_, TX8, 27, rfl, okM_151, rfl⟩, bw_1215, bw_1216, bw_1217⟩⟩), Or.inr (Or.inl ⟨rfl, 3, e27_1262, rfl, rfl, rfl, trivial, trivial⟩), Or.inr (Or.inl ⟨rfl, 1, e27_1265, rfl, rfl, am_eq9 (by decide +kernel), trivial, trivial⟩), Or.inr (Or.inl ⟨rfl, 1, e27_1266, rfl, rfl, trivial, trivial, trivial⟩), Or.inr (Or.inl ⟨rfl, 1, e27_1267, rfl, rfl, rfl, trivial, trivial⟩), trivial⟩
theorem w27_31 : am_all (xm_V9 (xm_G 27)) xm_l27_31 := ⟨Or.inr (Or.inl ⟨rfl, 2, e27_1268, rfl, rfl, rfl, trivial, trivial⟩), Or.inr (Or.inr (Or.inr ⟨⟨170, e27_1270, rfl, by decide, xkM_26, bw_889, bw_888⟩, fun q h => absurd h List.not_mem_nil⟩)), Or.inr (Or.inl ⟨rfl, 2, e27_1273, rfl, rfl, rfl, trivial, trivial⟩), Or.inr (Or.inl ⟨rfl, 1, e27_1275, rfl, rfl, rfl, trivial, trivial⟩), Or.inr (Or.inl ⟨rfl, 3, e27_1276, rfl, rfl, trivial, trivial, ⟨by decide, ⟨_, TX8, 27, rfl, okM_152, rfl⟩, bw_1229, bw_1230, bw_1231⟩⟩), Or.inr (Or.inl ⟨rfl, 2, e27_1279, rfl, rfl, rfl, trivial, trivial⟩), Or.inr (Or.inl ⟨rfl, 1, e27_1281, rfl, rfl, rfl, trivial, trivial⟩), Or.inr (Or.inl ⟨rfl, 3, e27_1282, rfl, rfl, trivial, trivial, ⟨by decide, ⟨_, TX8, 27, rfl, okM_96, rfl⟩, bw_1005, bw_1006, bw_1007⟩⟩), Or.inr (Or.inl ⟨rfl, 2, e27_1285, rfl, rfl, rfl, trivial, trivial⟩), Or.inr (Or.inl ⟨rfl, 3, e27_1287, rfl, rfl, rfl, trivial, trivial⟩), Or.inr (Or.inl ⟨rfl, 1, e27_1290, rfl, rfl, am_eq9 (by decide +kernel), trivial, trivial⟩), Or.inr (Or.inl ⟨rfl, 1, e27_1291, rfl, rfl, trivial, trivial, trivial⟩), Or.inr (Or.inl ⟨rfl, 2, e27_1292, rfl, rfl, rfl, trivial, trivial⟩), Or.inr (Or.inl ⟨rfl, 3, e27_1294, rfl, rfl, rfl, trivial, trivial⟩), Or.inr (Or.inl ⟨rfl, 2, e27_1297, rfl, rfl, rfl, trivial, trivial⟩), Or.inr (Or.inl ⟨rfl, 1, e27_1299, rfl, rfl, am_eq9 (by decide +kernel), trivial, trivial⟩), Or.inr (Or.inl ⟨rfl, 1, e27_1300, rfl, rfl, trivial, trivial, trivial⟩), Or.inr (Or.inl ⟨rfl, 2, e27_1301, rfl, rfl, rfl, trivial, trivial⟩), Or.inr (Or.inl ⟨rfl, 1, e27_1303, rfl, rfl, trivial, trivial, trivial⟩), Or.inr (Or.inl ⟨rfl, 3, e27_1304, rfl, rfl, rfl, trivial, trivial⟩), Or.inr (Or.inl ⟨rfl, 2, e27_1307, rfl, rfl, rfl, trivial, trivial⟩), Or.inr (Or.inl ⟨rfl, 1, e27_1309, rfl, rfl, am_eq9 (by decide +kernel), trivial, trivial⟩), Or.inr (Or.inl ⟨rfl, 1, e27_1310, rfl, rfl, trivial, trivial, trivial⟩), Or.inr (Or.inl ⟨rfl, 2, e27_1311, rfl, rfl, rfl, trivial, trivial⟩), trivial⟩
theorem w27_32 : am_all (xm_V9 (xm_G 27)) xm_l27_32 := ⟨Or.inr (Or.inl ⟨rfl, 1, e27_1313, rfl, rfl, am_eq9 (by decide +kernel), trivial, trivial⟩), Or.inr (Or.inl ⟨rfl, 1, e27_1314, rfl, rfl, trivial, trivial, trivial⟩), Or.inr (Or.inl ⟨rfl, 1, e27_1315, rfl, rfl, trivial, trivial, trivial⟩), Or.inr (Or.inl ⟨rfl, 3, e27_1316, rfl, rfl, rfl, trivial, trivial⟩), Or.inr (Or.inl ⟨rfl, 2, e27_1319, rfl, rfl, rfl, trivial, trivial⟩), Or.inr (Or.inl ⟨rfl, 2, e27_1321, rfl, rfl, rfl, trivial, trivial⟩), Or.inr (Or.inl ⟨rfl, 1, e27_1323, rfl, rfl, trivial, trivial, trivial⟩), Or.inr (Or.inl ⟨rfl, 3, e27_1324, rfl, rfl, rfl, trivial, trivial⟩), Or.inr (Or.inl ⟨rfl, 1, e27_1327, rfl, rfl, am_eq9 (by decide +kernel), trivial, trivial⟩), Or.inr (Or.inl ⟨rfl, 1, e27_1328, rfl, rfl, trivial, trivial, trivial⟩), Or.inr (Or.inl ⟨rfl, 3, e27_1329, rfl, rfl, rfl, trivial, trivial⟩), Or.inr (Or.inl ⟨rfl, 1, e27_1332, rfl, rfl, rfl, trivial, trivial⟩), Or.inr (Or.inl ⟨rfl, 3, e27_1333, rfl, rfl, trivial, trivial, ⟨by decide, ⟨_, TX7, 4, rfl, okM_81, rfl⟩, bw_349, bw_350, bw_351⟩⟩), Or.inr (Or.inl ⟨rfl, 1, e27_1336, rfl, rfl, trivial, trivial, trivial⟩), Or.inr (Or.inl ⟨rfl, 2, e27_1337, rfl, rfl, rfl, trivial, trivial⟩), Or.inr (Or.inl ⟨rfl, 1, e27_1339, rfl, rfl, rfl, trivial, trivial⟩), Or.inr (Or.inl ⟨rfl, 3, e27_1340, rfl, rfl, trivial, trivial, ⟨by decide, ⟨_, TX8, 27, rfl, okM_153, rfl⟩, bw_1233, bw_1234, bw_1235⟩⟩), Or.inr (Or.inl ⟨rfl, 1, e27_1343, rfl, rfl, trivial, trivial, trivial⟩), Or.inr (Or.inl ⟨rfl, 2, e27_1344, rfl, rfl, rfl, trivial, trivial⟩), Or.inr (Or.inl ⟨rfl, 2, e27_1346, rfl, rfl, rfl, trivial, trivial⟩), Or.inr (Or.inl ⟨rfl, 2, e27_1348, rfl, rfl, rfl, trivial, trivial⟩), Or.inr (Or.inl ⟨rfl, 1, e27_1350, rfl, rfl, trivial, trivial, trivial⟩), Or.inr (Or.inl ⟨rfl, 3, e27_1351, rfl, rfl, rfl, trivial, trivial⟩), Or.inr (Or.inl ⟨rfl, 2, e27_1354, rfl, rfl, rfl, trivial, trivial⟩), trivial⟩
theorem w27_33 : am_all (xm_V9 (xm_G 27)) xm_l27_33 := ⟨Or.inr (Or.inl ⟨rfl, 2, e27_1356, rfl, rfl, rfl, trivial, trivial⟩), Or.inr (Or.inl ⟨rfl, 1, e27_1358, rfl, rfl, trivial, trivial, trivial⟩), Or.inr (Or.inl ⟨rfl, 3, e27_1359, rfl, rfl, rfl, trivial, trivial⟩), Or.inr (Or.inl ⟨rfl, 2, e27_1362, rfl, rfl, rfl, trivial, trivial⟩), Or.inr (Or.inl ⟨rfl, 2, e27_1364, rfl, rfl, rfl, trivial, trivial⟩), Or.inr (Or.inl ⟨rfl, 1, e27_1366, rfl, rfl, trivial, trivial, trivial⟩), Or.inr (Or.inl ⟨rfl, 3, e27_1367, rfl, rfl, rfl, trivial, trivial⟩), Or.inr (Or.inl ⟨rfl, 1, e27_1370, rfl, rfl, am_eq9 (by decide +kernel), trivial, trivial⟩), Or.inr (Or.inl ⟨rfl, 1, e27_1371, rfl, rfl, trivial, trivial, trivial⟩), Or.inr (Or.inl ⟨rfl, 3, e27_1372, rfl, rfl, rfl, trivial, trivial⟩), Or.inr (Or.inl ⟨rfl, 1, e27_1375, rfl, rfl, rfl, trivial, trivial⟩), Or.inr (Or.inl ⟨rfl, 3, e27_1376, rfl, rfl, trivial, trivial, ⟨by decide, ⟨_, TX7, 4, rfl, okM_82, rfl⟩, bw_354, bw_355, bw_356⟩⟩), Or.inr (Or.inl ⟨rfl, 1, e27_1379, rfl, rfl, rfl, trivial, trivial⟩), Or.inr (Or.inl ⟨rfl, 3, e27_1380, rfl, rfl, trivial, trivial, ⟨by decide, ⟨_, TX8, 27, rfl, okM_154, rfl⟩, bw_1238, bw_1239, bw_1240⟩⟩), Or.inr (Or.inl ⟨rfl, 3, e27_1383, rfl, rfl, rfl, trivial, trivial⟩), Or.inr (Or.inl ⟨rfl, 1, e27_1386, rfl, rfl, am_eq9 (by decide +kernel), trivial, trivial⟩), Or.inr (Or.inl ⟨rfl, 1, e27_1387, rfl, rfl, trivial, trivial, trivial⟩), Or.inr (Or.inl ⟨rfl, 3, e27_1388, rfl, rfl, ⟨rfl, by decide⟩, trivial, trivial⟩), Or.inr (Or.inl ⟨rfl, 3, e27_1391, rfl, rfl, rfl, trivial, trivial⟩), Or.inr (Or.inl ⟨rfl, 1, e27_1394, rfl, rfl, am_eq9 (by decide +kernel), trivial, trivial⟩), Or.inr (Or.inl ⟨rfl, 1, e27_1395, rfl, rfl, trivial, trivial, trivial⟩), trivial⟩
theorem w27 : ∀ pc, xm_V9 (xm_G 27) pc ((xm_G 27).1.2.2.2.2.1 pc) := am_all_lc xm_V9_0 _ ⟨w27_0, w27_1, w27_2, w27_3, w27_4, w27_5, w27_6, w27_7, w27_8, w27_9, w27_10, w27_11, w27_12, w27_13, w27_14, w27_15, w27_16, w27_17, w27_18, w27_19, w27_20, w27_21, w27_22, w27_23, w27_24, w27_25, w27_26, w27_27, w27_28, w27_29, w27_30, w27_31, w27_32, w27_33, trivial⟩
theorem xm_M_all : ∀ m, m < xm_nX → (∃ n, xm_okM am_ts (xm_G m) n) ∧ ((xm_G m).2.1 = [] → (xm_G m).2.2 = []) := fun m hm => by
  have : m < 27 := hm
  match m, this with
  | 0, _ => exact ⟨⟨_, xkM_0⟩, fun _ => rfl⟩
  | 1, _ => exact ⟨⟨_, xkM_1⟩, fun _ => rfl⟩
  | 2, _ => exact ⟨⟨_, xkM_2⟩, fun _ => rfl⟩
  | 3, _ => exact ⟨⟨_, xkM_3⟩, fun _ => rfl⟩
  | 4, _ => exact ⟨⟨_, xkM_4⟩, fun _ => rfl⟩
  | 5, _ => exact ⟨⟨_, xkM_5⟩, fun _ => rfl⟩
  | 6, _ => exact ⟨⟨_, xkM_6⟩, fun _ => rfl⟩
  | 7, _ => exact ⟨⟨_, xkM_7⟩, fun _ => rfl⟩
  | 8, _ => exact ⟨⟨_, xkM_8⟩, fun _ => rfl⟩
  | 9, _ => exact ⟨⟨_, xkM_9⟩, fun _ => rfl⟩
  | 10, _ => exact ⟨⟨_, xkM_10⟩, fun _ => rfl⟩
  | 11, _ => exact ⟨⟨_, xkM_11⟩, fun _ => rfl⟩
  | 12, _ => exact ⟨⟨_, xkM_12⟩, fun _ => rfl⟩
  | 13, _ => exact ⟨⟨_, xkM_13⟩, fun _ => rfl⟩
  | 14, _ => exact ⟨⟨_, xkM_14⟩, fun q => by cases q⟩
  | 15, _ => exact ⟨⟨_, xkM_15⟩, fun q => by cases q⟩
  | 16, _ => exact ⟨⟨_, xkM_16⟩, fun q => by cases q⟩
  | 17, _ => exact ⟨⟨_, xkM_17⟩, fun q => by cases q⟩
  | 18, _ => exact ⟨⟨_, xkM_18⟩, fun q => by cases q⟩
  | 19, _ => exact ⟨⟨_, xkM_19⟩, fun q => by cases q⟩
  | 20, _ => exact ⟨⟨_, xkM_20⟩, fun q => by cases q⟩
  | 21, _ => exact ⟨⟨_, xkM_21⟩, fun q => by cases q⟩
  | 22, _ => exact ⟨⟨_, xkM_22⟩, fun q => by cases q⟩
  | 23, _ => exact ⟨⟨_, xkM_23⟩, fun q => by cases q⟩
  | 24, _ => exact ⟨⟨_, xkM_24⟩, fun q => by cases q⟩
  | 25, _ => exact ⟨⟨_, xkM_25⟩, fun q => by cases q⟩
  | 26, _ => exact ⟨⟨_, xkM_26⟩, fun q => by cases q⟩
  | _ + 27, h => omega
theorem xm_V9_all : ∀ m, m < xm_nX → ∀ pc, xm_okR am_cl9 am_sts am_ts am_nest xm_xn xm_xnc xm_strs am_G am_nM xm_G xm_nX (xm_G m) pc ((xm_G m).1.2.2.2.2.1 pc) := fun m hm => by
  have : m < 27 := hm
  match m, this with
  | 0, _ => exact w0
  | 1, _ => exact w1
  | 2, _ => exact w2
  | 3, _ => exact w3
  | 4, _ => exact w4
  | 5, _ => exact w5
  | 6, _ => exact w6
  | 7, _ => exact w7
  | 8, _ => exact w8
  | 9, _ => exact w9
  | 10, _ => exact w10
  | 11, _ => exact w11
  | 12, _ => exact w12
  | 13, _ => exact w13
  | 14, _ => exact w14
  | 15, _ => exact w15
  | 16, _ => exact w16
  | 17, _ => exact w17
  | 18, _ => exact w18
  | 19, _ => exact w19
  | 20, _ => exact w20
  | 21, _ => exact w21
  | 22, _ => exact w22
  | 23, _ => exact w23
  | 24, _ => exact w24
  | 25, _ => exact w25
  | 26, _ => exact w26
  | _ + 27, h => omega
