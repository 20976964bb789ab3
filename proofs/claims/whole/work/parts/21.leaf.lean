/-! Small methods: what each answers. (rows by gen/sp1.py) -/
def mi_iw (x a b : Int32) : Bool := decide (a ≤ x) && decide (x ≤ b)
set_option maxHeartbeats 1000000 in
theorem sp84 {d : Nat} {K : am_K} {h : am_H} {x a b : Int32} (k : K (some (.int (am_b (mi_iw x a b)))) h) : am_Run (d + 1) 84 [.int x, .int a, .int b] h K := by
  refine ⟨rfl, fun P hm hP => ?_⟩
  show P 0 [some (.int x), some (.int a), some (.int b)] [] _ 0 0
  refine s_iload_n hP t84_0 rfl ?_
  refine s_iload_n hP t84_1 rfl ?_
  refine s_icmp_lt hP t84_2 (fun q2 => ?_) (fun q2 => ?_)
  · refine s_iconst (v := 0) hP t84_14 (by decide) ?_
    refine s_ireturn hP t84_15 rfl rfl ?_
    simpa [am_b, mi_iw, q2, Int32.not_le.mpr q2] using k
  · refine s_iload_n hP t84_5 rfl ?_
    refine s_iload_n hP t84_6 rfl ?_
    refine s_icmp_gt hP t84_7 (fun q7 => ?_) (fun q7 => ?_)
    · refine s_iconst (v := 0) hP t84_14 (by decide) ?_
      refine s_ireturn hP t84_15 rfl rfl ?_
      simpa [am_b, mi_iw, q2, Int32.not_lt.mp q2, q7, Int32.not_le.mpr q7] using k
    · refine s_iconst (v := 1) hP t84_10 (by decide) ?_
      refine s_goto hP t84_11 ?_
      refine s_ireturn hP t84_15 rfl rfl ?_
      simpa [am_b, mi_iw, q2, Int32.not_lt.mp q2, q7, Int32.not_lt.mp q7] using k
def mi_cell (x y z : Int32) : Bool := mi_iw x 0 15 && mi_iw y 0 11 && mi_iw z 0 5
set_option maxHeartbeats 1000000 in
theorem sp85 {d : Nat} {K : am_K} {h : am_H} {x y z : Int32} (k : K (some (.int (am_b (mi_cell x y z)))) h) : am_Run (d + 2) 85 [.int x, .int y, .int z] h K := by
  refine ⟨rfl, fun P hm hP => ?_⟩
  show P 0 [some (.int x), some (.int y), some (.int z)] [] _ 0 0
  refine s_iload_n hP t85_0 rfl ?_
  refine s_iconst (v := 0) hP t85_1 (by decide) ?_
  refine s_bipush (v := 15) hP t85_2 (by decide) ?_
  refine s_invokestatic (bc' := 0) (bs' := 0) hP t85_4 rfl rfl rfl rfl rfl ?_
  refine sp84 ?_
  refine s_zeq hP t85_7 (fun q7 => ?_) (fun q7 => ?_)
  · refine s_iconst (v := 0) hP t85_33 (by decide) ?_
    refine s_ireturn hP t85_34 rfl rfl ?_
    simpa [am_b, mi_cell, q7] using k
  · refine s_iload_n hP t85_10 rfl ?_
    refine s_iconst (v := 0) hP t85_11 (by decide) ?_
    refine s_bipush (v := 11) hP t85_12 (by decide) ?_
    refine s_invokestatic (bc' := 0) (bs' := 0) hP t85_14 rfl rfl rfl rfl rfl ?_
    refine sp84 ?_
    refine s_zeq hP t85_17 (fun q17 => ?_) (fun q17 => ?_)
    · refine s_iconst (v := 0) hP t85_33 (by decide) ?_
      refine s_ireturn hP t85_34 rfl rfl ?_
      simpa [am_b, mi_cell, q7, q17] using k
    · refine s_iload_n hP t85_20 rfl ?_
      refine s_iconst (v := 0) hP t85_21 (by decide) ?_
      refine s_iconst (v := 5) hP t85_22 (by decide) ?_
      refine s_invokestatic (bc' := 0) (bs' := 0) hP t85_23 rfl rfl rfl rfl rfl ?_
      refine sp84 ?_
      refine s_zeq hP t85_26 (fun q26 => ?_) (fun q26 => ?_)
      · refine s_iconst (v := 0) hP t85_33 (by decide) ?_
        refine s_ireturn hP t85_34 rfl rfl ?_
        simpa [am_b, mi_cell, q7, q17, q26] using k
      · refine s_iconst (v := 1) hP t85_29 (by decide) ?_
        refine s_goto hP t85_30 ?_
        refine s_ireturn hP t85_34 rfl rfl ?_
        simpa [am_b, mi_cell, q7, q17, q26] using k
def mi_place (x y z : Int32) : Bool := mi_iw x 0 15 && mi_iw y 0 11 && mi_iw z 0 9
set_option maxHeartbeats 1000000 in
theorem sp86 {d : Nat} {K : am_K} {h : am_H} {x y z : Int32} (k : K (some (.int (am_b (mi_place x y z)))) h) : am_Run (d + 2) 86 [.int x, .int y, .int z] h K := by
  refine ⟨rfl, fun P hm hP => ?_⟩
  show P 0 [some (.int x), some (.int y), some (.int z)] [] _ 0 0
  refine s_iload_n hP t86_0 rfl ?_
  refine s_iconst (v := 0) hP t86_1 (by decide) ?_
  refine s_bipush (v := 15) hP t86_2 (by decide) ?_
  refine s_invokestatic (bc' := 0) (bs' := 0) hP t86_4 rfl rfl rfl rfl rfl ?_
  refine sp84 ?_
  refine s_zeq hP t86_7 (fun q7 => ?_) (fun q7 => ?_)
  · refine s_iconst (v := 0) hP t86_34 (by decide) ?_
    refine s_ireturn hP t86_35 rfl rfl ?_
    simpa [am_b, mi_place, q7] using k
  · refine s_iload_n hP t86_10 rfl ?_
    refine s_iconst (v := 0) hP t86_11 (by decide) ?_
    refine s_bipush (v := 11) hP t86_12 (by decide) ?_
    refine s_invokestatic (bc' := 0) (bs' := 0) hP t86_14 rfl rfl rfl rfl rfl ?_
    refine sp84 ?_
    refine s_zeq hP t86_17 (fun q17 => ?_) (fun q17 => ?_)
    · refine s_iconst (v := 0) hP t86_34 (by decide) ?_
      refine s_ireturn hP t86_35 rfl rfl ?_
      simpa [am_b, mi_place, q7, q17] using k
    · refine s_iload_n hP t86_20 rfl ?_
      refine s_iconst (v := 0) hP t86_21 (by decide) ?_
      refine s_bipush (v := 9) hP t86_22 (by decide) ?_
      refine s_invokestatic (bc' := 0) (bs' := 0) hP t86_24 rfl rfl rfl rfl rfl ?_
      refine sp84 ?_
      refine s_zeq hP t86_27 (fun q27 => ?_) (fun q27 => ?_)
      · refine s_iconst (v := 0) hP t86_34 (by decide) ?_
        refine s_ireturn hP t86_35 rfl rfl ?_
        simpa [am_b, mi_place, q7, q17, q27] using k
      · refine s_iconst (v := 1) hP t86_30 (by decide) ?_
        refine s_goto hP t86_31 ?_
        refine s_ireturn hP t86_35 rfl rfl ?_
        simpa [am_b, mi_place, q7, q17, q27] using k
def mi_slot (r p : Int32) : Bool := mi_iw r 0 2 && mi_iw p 0 3
set_option maxHeartbeats 1000000 in
theorem sp87 {d : Nat} {K : am_K} {h : am_H} {x y : Int32} (k : K (some (.int (am_b (mi_slot x y)))) h) : am_Run (d + 2) 87 [.int x, .int y] h K := by
  refine ⟨rfl, fun P hm hP => ?_⟩
  show P 0 [some (.int x), some (.int y)] [] _ 0 0
  refine s_iload_n hP t87_0 rfl ?_
  refine s_iconst (v := 0) hP t87_1 (by decide) ?_
  refine s_iconst (v := 2) hP t87_2 (by decide) ?_
  refine s_invokestatic (bc' := 0) (bs' := 0) hP t87_3 rfl rfl rfl rfl rfl ?_
  refine sp84 ?_
  refine s_zeq hP t87_6 (fun q6 => ?_) (fun q6 => ?_)
  · refine s_iconst (v := 0) hP t87_22 (by decide) ?_
    refine s_ireturn hP t87_23 rfl rfl ?_
    simpa [am_b, mi_slot, q6] using k
  · refine s_iload_n hP t87_9 rfl ?_
    refine s_iconst (v := 0) hP t87_10 (by decide) ?_
    refine s_iconst (v := 3) hP t87_11 (by decide) ?_
    refine s_invokestatic (bc' := 0) (bs' := 0) hP t87_12 rfl rfl rfl rfl rfl ?_
    refine sp84 ?_
    refine s_zeq hP t87_15 (fun q15 => ?_) (fun q15 => ?_)
    · refine s_iconst (v := 0) hP t87_22 (by decide) ?_
      refine s_ireturn hP t87_23 rfl rfl ?_
      simpa [am_b, mi_slot, q6, q15] using k
    · refine s_iconst (v := 1) hP t87_18 (by decide) ?_
      refine s_goto hP t87_19 ?_
      refine s_ireturn hP t87_23 rfl rfl ?_
      simpa [am_b, mi_slot, q6, q15] using k
set_option maxHeartbeats 1000000 in
theorem sp88 {d : Nat} {K : am_K} {h : am_H} {x y : Int32} (k : K (some (.int (4 * x + y))) h) : am_Run (d + 1) 88 [.int x, .int y] h K := by
  refine ⟨rfl, fun P hm hP => ?_⟩
  show P 0 [some (.int x), some (.int y)] [] _ 0 0
  refine s_iconst (v := 4) hP t88_0 (by decide) ?_
  refine s_iload_n hP t88_1 rfl ?_
  refine s_imul hP t88_2 ?_
  refine s_iload_n hP t88_3 rfl ?_
  refine s_iadd hP t88_4 ?_
  refine s_ireturn hP t88_5 rfl rfl ?_
  simpa [am_b] using k
def mi_shape (c : Int32) : Bool := decide (c = 101) || decide (c = 98) || decide (c = 118)
set_option maxHeartbeats 1000000 in
theorem sp89 {d : Nat} {K : am_K} {h : am_H} {x : Int32} (k : K (some (.int (am_b (mi_shape x)))) h) : am_Run (d + 1) 89 [.int x] h K := by
  refine ⟨rfl, fun P hm hP => ?_⟩
  show P 0 [some (.int x)] [] _ 0 0
  refine s_iload_n hP t89_0 rfl ?_
  refine s_bipush (v := 101) hP t89_1 (by decide) ?_
  refine s_icmp_eq hP t89_3 (fun q3 => ?_) (fun q3 => ?_)
  · refine s_iconst (v := 1) hP t89_18 (by decide) ?_
    refine s_goto hP t89_19 ?_
    refine s_ireturn hP t89_23 rfl rfl ?_
    simpa [am_b, mi_shape, q3] using k
  · refine s_iload_n hP t89_6 rfl ?_
    refine s_bipush (v := 98) hP t89_7 (by decide) ?_
    refine s_icmp_eq hP t89_9 (fun q9 => ?_) (fun q9 => ?_)
    · refine s_iconst (v := 1) hP t89_18 (by decide) ?_
      refine s_goto hP t89_19 ?_
      refine s_ireturn hP t89_23 rfl rfl ?_
      simpa [am_b, mi_shape, q3, q9] using k
    · refine s_iload_n hP t89_12 rfl ?_
      refine s_bipush (v := 118) hP t89_13 (by decide) ?_
      refine s_icmp_ne hP t89_15 (fun q15 => ?_) (fun q15 => ?_)
      · refine s_iconst (v := 0) hP t89_22 (by decide) ?_
        refine s_ireturn hP t89_23 rfl rfl ?_
        simpa [am_b, mi_shape, q3, q9, q15] using k
      · refine s_iconst (v := 1) hP t89_18 (by decide) ?_
        refine s_goto hP t89_19 ?_
        refine s_ireturn hP t89_23 rfl rfl ?_
        simpa [am_b, mi_shape, q3, q9, q15] using k
def mi_takes (r c : Int32) : Bool := if r = 0 then decide (c = 101) else decide (¬ r = 1) || decide (c = 98)
set_option maxHeartbeats 1000000 in
theorem sp90 {d : Nat} {K : am_K} {h : am_H} {x y : Int32} (k : K (some (.int (am_b (mi_takes x y)))) h) : am_Run (d + 1) 90 [.int x, .int y] h K := by
  refine ⟨rfl, fun P hm hP => ?_⟩
  show P 0 [some (.int x), some (.int y)] [] _ 0 0
  refine s_iload_n hP t90_0 rfl ?_
  refine s_if_ne hP t90_1 (fun q1 => ?_) (fun q1 => ?_)
  · refine s_iload_n hP t90_16 rfl ?_
    refine s_iconst (v := 1) hP t90_17 (by decide) ?_
    refine s_icmp_ne hP t90_18 (fun q18 => ?_) (fun q18 => ?_)
    · refine s_iconst (v := 1) hP t90_27 (by decide) ?_
      refine s_goto hP t90_28 ?_
      refine s_ireturn hP t90_32 rfl rfl ?_
      simpa [am_b, mi_takes, q1, q18] using k
    · refine s_iload_n hP t90_21 rfl ?_
      refine s_bipush (v := 98) hP t90_22 (by decide) ?_
      refine s_icmp_ne hP t90_24 (fun q24 => ?_) (fun q24 => ?_)
      · refine s_iconst (v := 0) hP t90_31 (by decide) ?_
        refine s_ireturn hP t90_32 rfl rfl ?_
        simpa [am_b, mi_takes, q1, q18, q24] using k
      · refine s_iconst (v := 1) hP t90_27 (by decide) ?_
        refine s_goto hP t90_28 ?_
        refine s_ireturn hP t90_32 rfl rfl ?_
        simpa [am_b, mi_takes, q1, q18, q24] using k
  · refine s_iload_n hP t90_4 rfl ?_
    refine s_bipush (v := 101) hP t90_5 (by decide) ?_
    refine s_icmp_ne hP t90_7 (fun q7 => ?_) (fun q7 => ?_)
    · refine s_iconst (v := 0) hP t90_14 (by decide) ?_
      refine s_ireturn hP t90_15 rfl rfl ?_
      simpa [am_b, mi_takes, q1, q7] using k
    · refine s_iconst (v := 1) hP t90_10 (by decide) ?_
      refine s_goto hP t90_11 ?_
      refine s_ireturn hP t90_15 rfl rfl ?_
      simpa [am_b, mi_takes, q1, q7] using k
set_option maxHeartbeats 1000000 in
theorem sp91 {d : Nat} {K : am_K} {h : am_H} {x : Int32} (k : K (some (.int (am_b (mi_iw x (-15) 15)))) h) : am_Run (d + 2) 91 [.int x] h K := by
  refine ⟨rfl, fun P hm hP => ?_⟩
  show P 0 [some (.int x)] [] _ 0 0
  refine s_iload_n hP t91_0 rfl ?_
  refine s_bipush (v := (-15)) hP t91_1 (by decide) ?_
  refine s_bipush (v := 15) hP t91_3 (by decide) ?_
  refine s_invokestatic (bc' := 0) (bs' := 0) hP t91_5 rfl rfl rfl rfl rfl ?_
  refine sp84 ?_
  refine s_ireturn hP t91_8 rfl (am_nar_b _) ?_
  exact k
def mi_term (x : Int32) : Bool := mi_iw x (-50) 50 || mi_iw x 100 107
set_option maxHeartbeats 1000000 in
theorem sp93 {d : Nat} {K : am_K} {h : am_H} {x : Int32} (k : K (some (.int (am_b (mi_term x)))) h) : am_Run (d + 2) 93 [.int x] h K := by
  refine ⟨rfl, fun P hm hP => ?_⟩
  show P 0 [some (.int x)] [] _ 0 0
  refine s_iload_n hP t93_0 rfl ?_
  refine s_bipush (v := (-50)) hP t93_1 (by decide) ?_
  refine s_bipush (v := 50) hP t93_3 (by decide) ?_
  refine s_invokestatic (bc' := 0) (bs' := 0) hP t93_5 rfl rfl rfl rfl rfl ?_
  refine sp84 ?_
  refine s_zne hP t93_8 (fun q8 => ?_) (fun q8 => ?_)
  · refine s_iconst (v := 1) hP t93_22 (by decide) ?_
    refine s_goto hP t93_23 ?_
    refine s_ireturn hP t93_27 rfl rfl ?_
    simpa [am_b, mi_term, q8] using k
  · refine s_iload_n hP t93_11 rfl ?_
    refine s_bipush (v := 100) hP t93_12 (by decide) ?_
    refine s_bipush (v := 107) hP t93_14 (by decide) ?_
    refine s_invokestatic (bc' := 0) (bs' := 0) hP t93_16 rfl rfl rfl rfl rfl ?_
    refine sp84 ?_
    refine s_zeq hP t93_19 (fun q19 => ?_) (fun q19 => ?_)
    · refine s_iconst (v := 0) hP t93_26 (by decide) ?_
      refine s_ireturn hP t93_27 rfl rfl ?_
      simpa [am_b, mi_term, q8, q19] using k
    · refine s_iconst (v := 1) hP t93_22 (by decide) ?_
      refine s_goto hP t93_23 ?_
      refine s_ireturn hP t93_27 rfl rfl ?_
      simpa [am_b, mi_term, q8, q19] using k
set_option maxHeartbeats 1000000 in
theorem sp97 {d : Nat} {K : am_K} {h : am_H} {x a b : Int32} (k : K (some (.int (am_b (mi_iw x a b)))) h) : am_Run (d + 1) 97 [.int x, .int a, .int b] h K := by
  refine ⟨rfl, fun P hm hP => ?_⟩
  show P 0 [some (.int x), some (.int a), some (.int b)] [] _ 0 0
  refine s_iload_n hP t97_0 rfl ?_
  refine s_iload_n hP t97_1 rfl ?_
  refine s_icmp_lt hP t97_2 (fun q2 => ?_) (fun q2 => ?_)
  · refine s_iconst (v := 0) hP t97_14 (by decide) ?_
    refine s_ireturn hP t97_15 rfl rfl ?_
    simpa [am_b, mi_iw, q2, Int32.not_le.mpr q2] using k
  · refine s_iload_n hP t97_5 rfl ?_
    refine s_iload_n hP t97_6 rfl ?_
    refine s_icmp_gt hP t97_7 (fun q7 => ?_) (fun q7 => ?_)
    · refine s_iconst (v := 0) hP t97_14 (by decide) ?_
      refine s_ireturn hP t97_15 rfl rfl ?_
      simpa [am_b, mi_iw, q2, Int32.not_lt.mp q2, q7, Int32.not_le.mpr q7] using k
    · refine s_iconst (v := 1) hP t97_10 (by decide) ?_
      refine s_goto hP t97_11 ?_
      refine s_ireturn hP t97_15 rfl rfl ?_
      simpa [am_b, mi_iw, q2, Int32.not_lt.mp q2, q7, Int32.not_lt.mp q7] using k
set_option maxHeartbeats 1000000 in
theorem sp101 {d : Nat} {K : am_K} {h : am_H} {x y : Int32} (k : K (some (.int (am_b (mi_slot x y)))) h) : am_Run (d + 2) 101 [.int x, .int y] h K := by
  refine ⟨rfl, fun P hm hP => ?_⟩
  show P 0 [some (.int x), some (.int y)] [] _ 0 0
  refine s_iload_n hP t101_0 rfl ?_
  refine s_iconst (v := 0) hP t101_1 (by decide) ?_
  refine s_iconst (v := 2) hP t101_2 (by decide) ?_
  refine s_invokestatic (bc' := 0) (bs' := 0) hP t101_3 rfl rfl rfl rfl rfl ?_
  refine sp97 ?_
  refine s_zeq hP t101_6 (fun q6 => ?_) (fun q6 => ?_)
  · refine s_iconst (v := 0) hP t101_22 (by decide) ?_
    refine s_ireturn hP t101_23 rfl rfl ?_
    simpa [am_b, mi_slot, q6] using k
  · refine s_iload_n hP t101_9 rfl ?_
    refine s_iconst (v := 0) hP t101_10 (by decide) ?_
    refine s_iconst (v := 3) hP t101_11 (by decide) ?_
    refine s_invokestatic (bc' := 0) (bs' := 0) hP t101_12 rfl rfl rfl rfl rfl ?_
    refine sp97 ?_
    refine s_zeq hP t101_15 (fun q15 => ?_) (fun q15 => ?_)
    · refine s_iconst (v := 0) hP t101_22 (by decide) ?_
      refine s_ireturn hP t101_23 rfl rfl ?_
      simpa [am_b, mi_slot, q6, q15] using k
    · refine s_iconst (v := 1) hP t101_18 (by decide) ?_
      refine s_goto hP t101_19 ?_
      refine s_ireturn hP t101_23 rfl rfl ?_
      simpa [am_b, mi_slot, q6, q15] using k
set_option maxHeartbeats 1000000 in
theorem sp103 {d : Nat} {K : am_K} {h : am_H} {x y z : Int32} (k : K (some (.int (am_b (mi_cell x y z)))) h) : am_Run (d + 2) 103 [.int x, .int y, .int z] h K := by
  refine ⟨rfl, fun P hm hP => ?_⟩
  show P 0 [some (.int x), some (.int y), some (.int z)] [] _ 0 0
  refine s_iload_n hP t103_0 rfl ?_
  refine s_iconst (v := 0) hP t103_1 (by decide) ?_
  refine s_bipush (v := 15) hP t103_2 (by decide) ?_
  refine s_invokestatic (bc' := 0) (bs' := 0) hP t103_4 rfl rfl rfl rfl rfl ?_
  refine sp97 ?_
  refine s_zeq hP t103_7 (fun q7 => ?_) (fun q7 => ?_)
  · refine s_iconst (v := 0) hP t103_33 (by decide) ?_
    refine s_ireturn hP t103_34 rfl rfl ?_
    simpa [am_b, mi_cell, q7] using k
  · refine s_iload_n hP t103_10 rfl ?_
    refine s_iconst (v := 0) hP t103_11 (by decide) ?_
    refine s_bipush (v := 11) hP t103_12 (by decide) ?_
    refine s_invokestatic (bc' := 0) (bs' := 0) hP t103_14 rfl rfl rfl rfl rfl ?_
    refine sp97 ?_
    refine s_zeq hP t103_17 (fun q17 => ?_) (fun q17 => ?_)
    · refine s_iconst (v := 0) hP t103_33 (by decide) ?_
      refine s_ireturn hP t103_34 rfl rfl ?_
      simpa [am_b, mi_cell, q7, q17] using k
    · refine s_iload_n hP t103_20 rfl ?_
      refine s_iconst (v := 0) hP t103_21 (by decide) ?_
      refine s_iconst (v := 5) hP t103_22 (by decide) ?_
      refine s_invokestatic (bc' := 0) (bs' := 0) hP t103_23 rfl rfl rfl rfl rfl ?_
      refine sp97 ?_
      refine s_zeq hP t103_26 (fun q26 => ?_) (fun q26 => ?_)
      · refine s_iconst (v := 0) hP t103_33 (by decide) ?_
        refine s_ireturn hP t103_34 rfl rfl ?_
        simpa [am_b, mi_cell, q7, q17, q26] using k
      · refine s_iconst (v := 1) hP t103_29 (by decide) ?_
        refine s_goto hP t103_30 ?_
        refine s_ireturn hP t103_34 rfl rfl ?_
        simpa [am_b, mi_cell, q7, q17, q26] using k
set_option maxHeartbeats 1000000 in
theorem sp104 {d : Nat} {K : am_K} {h : am_H} {x y z : Int32} (k : K (some (.int (x + 16 * y + 192 * z))) h) : am_Run (d + 1) 104 [.int x, .int y, .int z] h K := by
  refine ⟨rfl, fun P hm hP => ?_⟩
  show P 0 [some (.int x), some (.int y), some (.int z)] [] _ 0 0
  refine s_iload_n hP t104_0 rfl ?_
  refine s_bipush (v := 16) hP t104_1 (by decide) ?_
  refine s_iload_n hP t104_3 rfl ?_
  refine s_imul hP t104_4 ?_
  refine s_iadd hP t104_5 ?_
  refine s_sipush (v := 192) hP t104_6 (by decide) ?_
  refine s_iload_n hP t104_9 rfl ?_
  refine s_imul hP t104_10 ?_
  refine s_iadd hP t104_11 ?_
  refine s_ireturn hP t104_12 rfl rfl ?_
  simpa [am_b] using k
set_option maxHeartbeats 1000000 in
theorem sp107 {d : Nat} {K : am_K} {h : am_H} {x : Int32} (k : K (some (.int (am_b (mi_term x)))) h) : am_Run (d + 2) 107 [.int x] h K := by
  refine ⟨rfl, fun P hm hP => ?_⟩
  show P 0 [some (.int x)] [] _ 0 0
  refine s_iload_n hP t107_0 rfl ?_
  refine s_bipush (v := (-50)) hP t107_1 (by decide) ?_
  refine s_bipush (v := 50) hP t107_3 (by decide) ?_
  refine s_invokestatic (bc' := 0) (bs' := 0) hP t107_5 rfl rfl rfl rfl rfl ?_
  refine sp97 ?_
  refine s_zne hP t107_8 (fun q8 => ?_) (fun q8 => ?_)
  · refine s_iconst (v := 1) hP t107_22 (by decide) ?_
    refine s_goto hP t107_23 ?_
    refine s_ireturn hP t107_27 rfl rfl ?_
    simpa [am_b, mi_term, q8] using k
  · refine s_iload_n hP t107_11 rfl ?_
    refine s_bipush (v := 100) hP t107_12 (by decide) ?_
    refine s_bipush (v := 107) hP t107_14 (by decide) ?_
    refine s_invokestatic (bc' := 0) (bs' := 0) hP t107_16 rfl rfl rfl rfl rfl ?_
    refine sp97 ?_
    refine s_zeq hP t107_19 (fun q19 => ?_) (fun q19 => ?_)
    · refine s_iconst (v := 0) hP t107_26 (by decide) ?_
      refine s_ireturn hP t107_27 rfl rfl ?_
      simpa [am_b, mi_term, q8, q19] using k
    · refine s_iconst (v := 1) hP t107_22 (by decide) ?_
      refine s_goto hP t107_23 ?_
      refine s_ireturn hP t107_27 rfl rfl ?_
      simpa [am_b, mi_term, q8, q19] using k
def mi_kind (c : Int32) : Bool := decide (c = 103 ∨ c = 108 ∨ c = 100 ∨ c = 112 ∨ c = 116 ∨ c = 115 ∨ c = 102 ∨ c = 109 ∨ c = 111 ∨ c = 118 ∨ c = 120 ∨ c = 114 ∨ c = 105 ∨ c = 101 ∨ c = 113)
set_option maxHeartbeats 1000000 in
theorem sp108 {d : Nat} {K : am_K} {h : am_H} {x : Int32} (k : K (some (.int (am_b (mi_kind x)))) h) : am_Run (d + 1) 108 [.int x] h K := by
  refine ⟨rfl, fun P hm hP => ?_⟩
  show P 0 [some (.int x)] [] _ 0 0
  refine s_iload_n hP t108_0 rfl ?_
  refine s_bipush (v := 103) hP t108_1 (by decide) ?_
  refine s_icmp_eq hP t108_3 (fun q3 => ?_) (fun q3 => ?_)
  · refine s_iconst (v := 1) hP t108_30 (by decide) ?_
    refine s_ireturn hP t108_31 rfl rfl ?_
    simpa [am_b, mi_kind, q3] using k
  · refine s_iload_n hP t108_6 rfl ?_
    refine s_bipush (v := 108) hP t108_7 (by decide) ?_
    refine s_icmp_eq hP t108_9 (fun q9 => ?_) (fun q9 => ?_)
    · refine s_iconst (v := 1) hP t108_30 (by decide) ?_
      refine s_ireturn hP t108_31 rfl rfl ?_
      simpa [am_b, mi_kind, q3, q9] using k
    · refine s_iload_n hP t108_12 rfl ?_
      refine s_bipush (v := 100) hP t108_13 (by decide) ?_
      refine s_icmp_eq hP t108_15 (fun q15 => ?_) (fun q15 => ?_)
      · refine s_iconst (v := 1) hP t108_30 (by decide) ?_
        refine s_ireturn hP t108_31 rfl rfl ?_
        simpa [am_b, mi_kind, q3, q9, q15] using k
      · refine s_iload_n hP t108_18 rfl ?_
        refine s_bipush (v := 112) hP t108_19 (by decide) ?_
        refine s_icmp_eq hP t108_21 (fun q21 => ?_) (fun q21 => ?_)
        · refine s_iconst (v := 1) hP t108_30 (by decide) ?_
          refine s_ireturn hP t108_31 rfl rfl ?_
          simpa [am_b, mi_kind, q3, q9, q15, q21] using k
        · refine s_iload_n hP t108_24 rfl ?_
          refine s_bipush (v := 116) hP t108_25 (by decide) ?_
          refine s_icmp_ne hP t108_27 (fun q27 => ?_) (fun q27 => ?_)
          · refine s_iload_n hP t108_32 rfl ?_
            refine s_bipush (v := 115) hP t108_33 (by decide) ?_
            refine s_icmp_eq hP t108_35 (fun q35 => ?_) (fun q35 => ?_)
            · refine s_iconst (v := 1) hP t108_62 (by decide) ?_
              refine s_ireturn hP t108_63 rfl rfl ?_
              simpa [am_b, mi_kind, q3, q9, q15, q21, q27, q35] using k
            · refine s_iload_n hP t108_38 rfl ?_
              refine s_bipush (v := 102) hP t108_39 (by decide) ?_
              refine s_icmp_eq hP t108_41 (fun q41 => ?_) (fun q41 => ?_)
              · refine s_iconst (v := 1) hP t108_62 (by decide) ?_
                refine s_ireturn hP t108_63 rfl rfl ?_
                simpa [am_b, mi_kind, q3, q9, q15, q21, q27, q35, q41] using k
              · refine s_iload_n hP t108_44 rfl ?_
                refine s_bipush (v := 109) hP t108_45 (by decide) ?_
                refine s_icmp_eq hP t108_47 (fun q47 => ?_) (fun q47 => ?_)
                · refine s_iconst (v := 1) hP t108_62 (by decide) ?_
                  refine s_ireturn hP t108_63 rfl rfl ?_
                  simpa [am_b, mi_kind, q3, q9, q15, q21, q27, q35, q41, q47] using k
                · refine s_iload_n hP t108_50 rfl ?_
                  refine s_bipush (v := 111) hP t108_51 (by decide) ?_
                  refine s_icmp_eq hP t108_53 (fun q53 => ?_) (fun q53 => ?_)
                  · refine s_iconst (v := 1) hP t108_62 (by decide) ?_
                    refine s_ireturn hP t108_63 rfl rfl ?_
                    simpa [am_b, mi_kind, q3, q9, q15, q21, q27, q35, q41, q47, q53] using k
                  · refine s_iload_n hP t108_56 rfl ?_
                    refine s_bipush (v := 118) hP t108_57 (by decide) ?_
                    refine s_icmp_ne hP t108_59 (fun q59 => ?_) (fun q59 => ?_)
                    · refine s_iload_n hP t108_64 rfl ?_
                      refine s_bipush (v := 120) hP t108_65 (by decide) ?_
                      refine s_icmp_eq hP t108_67 (fun q67 => ?_) (fun q67 => ?_)
                      · refine s_iconst (v := 1) hP t108_94 (by decide) ?_
                        refine s_goto hP t108_95 ?_
                        refine s_ireturn hP t108_99 rfl rfl ?_
                        simpa [am_b, mi_kind, q3, q9, q15, q21, q27, q35, q41, q47, q53, q59, q67] using k
                      · refine s_iload_n hP t108_70 rfl ?_
                        refine s_bipush (v := 114) hP t108_71 (by decide) ?_
                        refine s_icmp_eq hP t108_73 (fun q73 => ?_) (fun q73 => ?_)
                        · refine s_iconst (v := 1) hP t108_94 (by decide) ?_
                          refine s_goto hP t108_95 ?_
                          refine s_ireturn hP t108_99 rfl rfl ?_
                          simpa [am_b, mi_kind, q3, q9, q15, q21, q27, q35, q41, q47, q53, q59, q67, q73] using k
                        · refine s_iload_n hP t108_76 rfl ?_
                          refine s_bipush (v := 105) hP t108_77 (by decide) ?_
                          refine s_icmp_eq hP t108_79 (fun q79 => ?_) (fun q79 => ?_)
                          · refine s_iconst (v := 1) hP t108_94 (by decide) ?_
                            refine s_goto hP t108_95 ?_
                            refine s_ireturn hP t108_99 rfl rfl ?_
                            simpa [am_b, mi_kind, q3, q9, q15, q21, q27, q35, q41, q47, q53, q59, q67, q73, q79] using k
                          · refine s_iload_n hP t108_82 rfl ?_
                            refine s_bipush (v := 101) hP t108_83 (by decide) ?_
                            refine s_icmp_eq hP t108_85 (fun q85 => ?_) (fun q85 => ?_)
                            · refine s_iconst (v := 1) hP t108_94 (by decide) ?_
                              refine s_goto hP t108_95 ?_
                              refine s_ireturn hP t108_99 rfl rfl ?_
                              simpa [am_b, mi_kind, q3, q9, q15, q21, q27, q35, q41, q47, q53, q59, q67, q73, q79, q85] using k
                            · refine s_iload_n hP t108_88 rfl ?_
                              refine s_bipush (v := 113) hP t108_89 (by decide) ?_
                              refine s_icmp_ne hP t108_91 (fun q91 => ?_) (fun q91 => ?_)
                              · refine s_iconst (v := 0) hP t108_98 (by decide) ?_
                                refine s_ireturn hP t108_99 rfl rfl ?_
                                simpa [am_b, mi_kind, q3, q9, q15, q21, q27, q35, q41, q47, q53, q59, q67, q73, q79, q85, q91] using k
                              · refine s_iconst (v := 1) hP t108_94 (by decide) ?_
                                refine s_goto hP t108_95 ?_
                                refine s_ireturn hP t108_99 rfl rfl ?_
                                simpa [am_b, mi_kind, q3, q9, q15, q21, q27, q35, q41, q47, q53, q59, q67, q73, q79, q85, q91] using k
                    · refine s_iconst (v := 1) hP t108_62 (by decide) ?_
                      refine s_ireturn hP t108_63 rfl rfl ?_
                      simpa [am_b, mi_kind, q3, q9, q15, q21, q27, q35, q41, q47, q53, q59] using k
          · refine s_iconst (v := 1) hP t108_30 (by decide) ?_
            refine s_ireturn hP t108_31 rfl rfl ?_
            simpa [am_b, mi_kind, q3, q9, q15, q21, q27] using k
def mi_abs (x : Int32) : Int32 := if x < 0 then -x else x
set_option maxHeartbeats 1000000 in
theorem sp119 {d : Nat} {K : am_K} {h : am_H} {x : Int32} (k : K (some (.int (mi_abs x))) h) : am_Run (d + 1) 119 [.int x] h K := by
  refine ⟨rfl, fun P hm hP => ?_⟩
  show P 0 [some (.int x)] [] _ 0 0
  refine s_iload_n hP t119_0 rfl ?_
  refine s_if_ge hP t119_1 (fun q1 => ?_) (fun q1 => ?_)
  · refine s_iload_n hP t119_9 rfl ?_
    refine s_ireturn hP t119_10 rfl rfl ?_
    simpa [am_b, mi_abs, q1, Int32.not_lt.mpr q1] using k
  · refine s_iload_n hP t119_4 rfl ?_
    refine s_ineg hP t119_5 ?_
    refine s_goto hP t119_6 ?_
    refine s_ireturn hP t119_10 rfl rfl ?_
    simpa [am_b, mi_abs, q1, Int32.not_le.mp q1] using k
def mi_max (x y : Int32) : Int32 := if y < x then x else y
set_option maxHeartbeats 1000000 in
theorem sp120 {d : Nat} {K : am_K} {h : am_H} {x y : Int32} (k : K (some (.int (mi_max x y))) h) : am_Run (d + 1) 120 [.int x, .int y] h K := by
  refine ⟨rfl, fun P hm hP => ?_⟩
  show P 0 [some (.int x), some (.int y)] [] _ 0 0
  refine s_iload_n hP t120_0 rfl ?_
  refine s_iload_n hP t120_1 rfl ?_
  refine s_icmp_le hP t120_2 (fun q2 => ?_) (fun q2 => ?_)
  · refine s_iload_n hP t120_9 rfl ?_
    refine s_ireturn hP t120_10 rfl rfl ?_
    simpa [am_b, mi_max, q2, Int32.not_lt.mpr q2] using k
  · refine s_iload_n hP t120_5 rfl ?_
    refine s_goto hP t120_6 ?_
    refine s_ireturn hP t120_10 rfl rfl ?_
    simpa [am_b, mi_max, q2, Int32.not_le.mp q2] using k
set_option maxHeartbeats 1000000 in
theorem sp158 {d : Nat} {K : am_K} {h : am_H} {x : Int32} (k : K (some (.int (if 0 ≤ x then x else -x))) h) : am_Run (d + 1) 158 [.int x] h K := by
  refine ⟨rfl, fun P hm hP => ?_⟩
  show P 0 [some (.int x)] [] _ 0 0
  refine s_iload_n hP t158_0 rfl ?_
  refine s_if_ge hP t158_1 (fun q1 => ?_) (fun q1 => ?_)
  · refine s_iload_n hP t158_9 rfl ?_
    refine s_ireturn hP t158_10 rfl rfl ?_
    simpa [am_b, q1, Int32.not_lt.mpr q1] using k
  · refine s_iload_n hP t158_4 rfl ?_
    refine s_ineg hP t158_5 ?_
    refine s_goto hP t158_6 ?_
    refine s_ireturn hP t158_10 rfl rfl ?_
    simpa [am_b, q1, Int32.not_le.mp q1] using k
set_option maxHeartbeats 1000000 in
theorem sp159 {d : Nat} {K : am_K} {h : am_H} {x y : Int32} (k : K (some (.int (if y ≤ x then x else y))) h) : am_Run (d + 1) 159 [.int x, .int y] h K := by
  refine ⟨rfl, fun P hm hP => ?_⟩
  show P 0 [some (.int x), some (.int y)] [] _ 0 0
  refine s_iload_n hP t159_0 rfl ?_
  refine s_iload_n hP t159_1 rfl ?_
  refine s_icmp_lt hP t159_2 (fun q2 => ?_) (fun q2 => ?_)
  · refine s_iload_n hP t159_9 rfl ?_
    refine s_ireturn hP t159_10 rfl rfl ?_
    simpa [am_b, q2, Int32.not_le.mpr q2] using k
  · refine s_iload_n hP t159_5 rfl ?_
    refine s_goto hP t159_6 ?_
    refine s_ireturn hP t159_10 rfl rfl ?_
    simpa [am_b, q2, Int32.not_lt.mp q2] using k
set_option maxHeartbeats 1000000 in
theorem sp160 {d : Nat} {K : am_K} {h : am_H} {x y : Int32} (k : K (some (.int (if x ≤ y then x else y))) h) : am_Run (d + 1) 160 [.int x, .int y] h K := by
  refine ⟨rfl, fun P hm hP => ?_⟩
  show P 0 [some (.int x), some (.int y)] [] _ 0 0
  refine s_iload_n hP t160_0 rfl ?_
  refine s_iload_n hP t160_1 rfl ?_
  refine s_icmp_gt hP t160_2 (fun q2 => ?_) (fun q2 => ?_)
  · refine s_iload_n hP t160_9 rfl ?_
    refine s_ireturn hP t160_10 rfl rfl ?_
    simpa [am_b, q2, Int32.not_le.mpr q2] using k
  · refine s_iload_n hP t160_5 rfl ?_
    refine s_goto hP t160_6 ?_
    refine s_ireturn hP t160_10 rfl rfl ?_
    simpa [am_b, q2, Int32.not_lt.mp q2] using k
set_option maxHeartbeats 1000000 in
theorem sp64 {d : Nat} {K : am_K} {h : am_H} {a : Nat} {fs fr fx fy fz : Int32} (h1 : am_nth h a = some (.inr (6, [.int fs, .int fr, .int fx, .int fy, .int fz]))) (k : K (some (.int (if fz < 0 then 0 else fz))) h) : am_Run (d + 1) 64 [.ref a] h K := by
  refine ⟨rfl, fun P hm hP => ?_⟩
  show P 0 [some (.ref a)] [] _ 0 0
  refine s_aload_n hP t64_0 rfl ?_
  refine s_getfield hP t64_1 h1 rfl ?_
  refine s_if_ge hP t64_4 (fun q4 => ?_) (fun q4 => ?_)
  · refine s_aload_n hP t64_11 rfl ?_
    refine s_getfield hP t64_12 h1 rfl ?_
    refine s_ireturn hP t64_15 rfl rfl ?_
    simpa [am_b, q4, Int32.not_lt.mpr q4] using k
  · refine s_iconst (v := 0) hP t64_7 (by decide) ?_
    refine s_goto hP t64_8 ?_
    refine s_ireturn hP t64_15 rfl rfl ?_
    simpa [am_b, q4, Int32.not_le.mp q4] using k
set_option maxHeartbeats 1000000 in
theorem sp65 {d : Nat} {K : am_K} {h : am_H} {a : Nat} {fs fr fx fy fz : Int32} (h1 : am_nth h a = some (.inr (6, [.int fs, .int fr, .int fx, .int fy, .int fz]))) (k : K (some (.int (if fy - fr < 0 then 0 else fy - fr))) h) : am_Run (d + 1) 65 [.ref a] h K := by
  refine ⟨rfl, fun P hm hP => ?_⟩
  show P 0 [some (.ref a)] [] _ 0 0
  refine s_aload_n hP t65_0 rfl ?_
  refine s_getfield hP t65_1 h1 rfl ?_
  refine s_aload_n hP t65_4 rfl ?_
  refine s_getfield hP t65_5 h1 rfl ?_
  refine s_isub hP t65_8 ?_
  refine s_if_ge hP t65_9 (fun q9 => ?_) (fun q9 => ?_)
  · refine s_aload_n hP t65_16 rfl ?_
    refine s_getfield hP t65_17 h1 rfl ?_
    refine s_aload_n hP t65_20 rfl ?_
    refine s_getfield hP t65_21 h1 rfl ?_
    refine s_isub hP t65_24 ?_
    refine s_ireturn hP t65_25 rfl rfl ?_
    simpa [am_b, q9, Int32.not_lt.mpr q9] using k
  · refine s_iconst (v := 0) hP t65_12 (by decide) ?_
    refine s_goto hP t65_13 ?_
    refine s_ireturn hP t65_25 rfl rfl ?_
    simpa [am_b, q9, Int32.not_le.mp q9] using k
set_option maxHeartbeats 1000000 in
theorem sp66 {d : Nat} {K : am_K} {h : am_H} {a : Nat} {fs fr fx fy fz : Int32} (h1 : am_nth h a = some (.inr (6, [.int fs, .int fr, .int fx, .int fy, .int fz]))) (k : K (some (.int (if 12 ≤ fy + fr then 11 else fy + fr))) h) : am_Run (d + 1) 66 [.ref a] h K := by
  refine ⟨rfl, fun P hm hP => ?_⟩
  show P 0 [some (.ref a)] [] _ 0 0
  refine s_aload_n hP t66_0 rfl ?_
  refine s_getfield hP t66_1 h1 rfl ?_
  refine s_aload_n hP t66_4 rfl ?_
  refine s_getfield hP t66_5 h1 rfl ?_
  refine s_iadd hP t66_8 ?_
  refine s_bipush (v := 12) hP t66_9 (by decide) ?_
  refine s_icmp_lt hP t66_11 (fun q11 => ?_) (fun q11 => ?_)
  · refine s_aload_n hP t66_19 rfl ?_
    refine s_getfield hP t66_20 h1 rfl ?_
    refine s_aload_n hP t66_23 rfl ?_
    refine s_getfield hP t66_24 h1 rfl ?_
    refine s_iadd hP t66_27 ?_
    refine s_ireturn hP t66_28 rfl rfl ?_
    simpa [am_b, q11, Int32.not_le.mpr q11] using k
  · refine s_bipush (v := 11) hP t66_14 (by decide) ?_
    refine s_goto hP t66_16 ?_
    refine s_ireturn hP t66_28 rfl rfl ?_
    simpa [am_b, q11, Int32.not_lt.mp q11] using k
def mi_sq (s r z layer : Int32) : Int32 := if s = 101 then r * r else if s = 118 then (if layer - z < r then layer - z else r) * (if layer - z < r then layer - z else r) else r * r - (r - (if layer - z < r then layer - z else r)) * (r - (if layer - z < r then layer - z else r))
set_option maxHeartbeats 1000000 in
theorem sp67 {d : Nat} {K : am_K} {h : am_H} {a : Nat} {fs fr fx fy fz : Int32} {y : Int32} (h1 : am_nth h a = some (.inr (6, [.int fs, .int fr, .int fx, .int fy, .int fz]))) (k : K (some (.int (mi_sq fs fr fz y))) h) : am_Run (d + 1) 67 [.ref a, .int y] h K := by
  refine ⟨rfl, fun P hm hP => ?_⟩
  show P 0 [some (.ref a), some (.int y), none] [] _ 0 0
  refine s_aload_n hP t67_0 rfl ?_
  refine s_getfield hP t67_1 h1 rfl ?_
  refine s_bipush (v := 101) hP t67_4 (by decide) ?_
  refine s_icmp_ne hP t67_6 (fun q6 => ?_) (fun q6 => ?_)
  · refine s_iload_n hP t67_19 rfl ?_
    refine s_aload_n hP t67_20 rfl ?_
    refine s_getfield hP t67_21 h1 rfl ?_
    refine s_isub hP t67_24 ?_
    refine s_aload_n hP t67_25 rfl ?_
    refine s_getfield hP t67_26 h1 rfl ?_
    refine s_icmp_ge hP t67_29 (fun q29 => ?_) (fun q29 => ?_)
    · refine s_aload_n hP t67_41 rfl ?_
      refine s_getfield hP t67_42 h1 rfl ?_
      refine s_istore_n_2 hP t67_45 rfl ?_
      refine s_aload_n hP t67_46 rfl ?_
      refine s_getfield hP t67_47 h1 rfl ?_
      refine s_bipush (v := 118) hP t67_50 (by decide) ?_
      refine s_icmp_ne hP t67_52 (fun q52 => ?_) (fun q52 => ?_)
      · refine s_aload_n hP t67_59 rfl ?_
        refine s_getfield hP t67_60 h1 rfl ?_
        refine s_aload_n hP t67_63 rfl ?_
        refine s_getfield hP t67_64 h1 rfl ?_
        refine s_imul hP t67_67 ?_
        refine s_aload_n hP t67_68 rfl ?_
        refine s_getfield hP t67_69 h1 rfl ?_
        refine s_iload_n hP t67_72 rfl ?_
        refine s_isub hP t67_73 ?_
        refine s_aload_n hP t67_74 rfl ?_
        refine s_getfield hP t67_75 h1 rfl ?_
        refine s_iload_n hP t67_78 rfl ?_
        refine s_isub hP t67_79 ?_
        refine s_imul hP t67_80 ?_
        refine s_isub hP t67_81 ?_
        refine s_ireturn hP t67_82 rfl rfl ?_
        simpa [am_b, mi_sq, q6, q29, Int32.not_lt.mpr q29, q52] using k
      · refine s_iload_n hP t67_55 rfl ?_
        refine s_iload_n hP t67_56 rfl ?_
        refine s_imul hP t67_57 ?_
        refine s_ireturn hP t67_58 rfl rfl ?_
        simpa [am_b, mi_sq, q6, q29, Int32.not_lt.mpr q29, q52] using k
    · refine s_iload_n hP t67_32 rfl ?_
      refine s_aload_n hP t67_33 rfl ?_
      refine s_getfield hP t67_34 h1 rfl ?_
      refine s_isub hP t67_37 ?_
      refine s_goto hP t67_38 ?_
      refine s_istore_n_2 hP t67_45 rfl ?_
      refine s_aload_n hP t67_46 rfl ?_
      refine s_getfield hP t67_47 h1 rfl ?_
      refine s_bipush (v := 118) hP t67_50 (by decide) ?_
      refine s_icmp_ne hP t67_52 (fun q52 => ?_) (fun q52 => ?_)
      · refine s_aload_n hP t67_59 rfl ?_
        refine s_getfield hP t67_60 h1 rfl ?_
        refine s_aload_n hP t67_63 rfl ?_
        refine s_getfield hP t67_64 h1 rfl ?_
        refine s_imul hP t67_67 ?_
        refine s_aload_n hP t67_68 rfl ?_
        refine s_getfield hP t67_69 h1 rfl ?_
        refine s_iload_n hP t67_72 rfl ?_
        refine s_isub hP t67_73 ?_
        refine s_aload_n hP t67_74 rfl ?_
        refine s_getfield hP t67_75 h1 rfl ?_
        refine s_iload_n hP t67_78 rfl ?_
        refine s_isub hP t67_79 ?_
        refine s_imul hP t67_80 ?_
        refine s_isub hP t67_81 ?_
        refine s_ireturn hP t67_82 rfl rfl ?_
        simpa [am_b, mi_sq, q6, q29, Int32.not_le.mp q29, q52] using k
      · refine s_iload_n hP t67_55 rfl ?_
        refine s_iload_n hP t67_56 rfl ?_
        refine s_imul hP t67_57 ?_
        refine s_ireturn hP t67_58 rfl rfl ?_
        simpa [am_b, mi_sq, q6, q29, Int32.not_le.mp q29, q52] using k
  · refine s_aload_n hP t67_9 rfl ?_
    refine s_getfield hP t67_10 h1 rfl ?_
    refine s_aload_n hP t67_13 rfl ?_
    refine s_getfield hP t67_14 h1 rfl ?_
    refine s_imul hP t67_17 ?_
    refine s_ireturn hP t67_18 rfl rfl ?_
    simpa [am_b, mi_sq, q6] using k
