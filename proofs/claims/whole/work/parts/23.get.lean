/-! Getters, over the whole heap. (rows by gen/sp2.py) -/
set_option maxHeartbeats 1000000 in
theorem sp12_1 {d : Nat} {K : am_K} {ha : Nat → Nat → Int32} {hz : Int32} {a1 : Nat → Nat → Int32} {s1 : Nat → Int32} {t1 : UInt32} {a2 : Nat → Nat → Int32} {s2 : Nat → Int32} {t2 : UInt32} {al : Int32} {ma : Nat → Nat → Int32} {ms : Nat → Int32} {mt : UInt32} {ol : Nat → Int64} {od : Nat → UInt64} (k : K (some (.int (am_b (decide (hz ≤ s1 8))))) (am_W ha hz a1 s1 t1 a2 s2 t2 al ma ms mt ol od)) : am_Run (d + 1) 12 [.ref 15] (am_W ha hz a1 s1 t1 a2 s2 t2 al ma ms mt ol od) K := by
  refine ⟨rfl, fun P hm hP => ?_⟩
  show P 0 [some (.ref 15)] [] _ 0 0
  refine s_aload_n hP t12_0 rfl ?_
  refine s_getfield hP t12_1 rfl rfl ?_
  refine s_aload_n hP t12_4 rfl ?_
  refine s_getfield hP t12_5 rfl rfl ?_
  refine s_getfield hP t12_8 rfl rfl ?_
  refine s_getfield hP t12_11 rfl rfl ?_
  refine s_icmp_lt hP t12_14 (fun q14 => ?_) (fun q14 => ?_)
  · refine s_iconst (v := 0) hP t12_21 (by decide) ?_
    refine s_ireturn hP t12_22 rfl rfl ?_
    simp [am_b, q14, Int32.not_le.mpr q14] at k
    exact k
  · refine s_iconst (v := 1) hP t12_17 (by decide) ?_
    refine s_goto hP t12_18 ?_
    refine s_ireturn hP t12_22 rfl rfl ?_
    simp [am_b, q14, Int32.not_lt.mp q14] at k
    exact k
set_option maxHeartbeats 1000000 in
theorem sp13_1 {d : Nat} {K : am_K} {ha : Nat → Nat → Int32} {hz : Int32} {a1 : Nat → Nat → Int32} {s1 : Nat → Int32} {t1 : UInt32} {a2 : Nat → Nat → Int32} {s2 : Nat → Int32} {t2 : UInt32} {al : Int32} {ma : Nat → Nat → Int32} {ms : Nat → Int32} {mt : UInt32} {ol : Nat → Int64} {od : Nat → UInt64} (k : K (some (.int (am_b (decide (s1 16 = 113))))) (am_W ha hz a1 s1 t1 a2 s2 t2 al ma ms mt ol od)) : am_Run (d + 1) 13 [.ref 15] (am_W ha hz a1 s1 t1 a2 s2 t2 al ma ms mt ol od) K := by
  refine ⟨rfl, fun P hm hP => ?_⟩
  show P 0 [some (.ref 15)] [] _ 0 0
  refine s_aload_n hP t13_0 rfl ?_
  refine s_getfield hP t13_1 rfl rfl ?_
  refine s_bipush (v := 113) hP t13_4 (by decide) ?_
  refine s_icmp_ne hP t13_6 (fun q6 => ?_) (fun q6 => ?_)
  · refine s_iconst (v := 0) hP t13_13 (by decide) ?_
    refine s_ireturn hP t13_14 rfl rfl ?_
    simp [am_b, q6] at k
    exact k
  · refine s_iconst (v := 1) hP t13_9 (by decide) ?_
    refine s_goto hP t13_10 ?_
    refine s_ireturn hP t13_14 rfl rfl ?_
    simp [am_b, q6] at k
    exact k
set_option maxHeartbeats 1000000 in
theorem sp12_2 {d : Nat} {K : am_K} {ha : Nat → Nat → Int32} {hz : Int32} {a1 : Nat → Nat → Int32} {s1 : Nat → Int32} {t1 : UInt32} {a2 : Nat → Nat → Int32} {s2 : Nat → Int32} {t2 : UInt32} {al : Int32} {ma : Nat → Nat → Int32} {ms : Nat → Int32} {mt : UInt32} {ol : Nat → Int64} {od : Nat → UInt64} (k : K (some (.int (am_b (decide (hz ≤ s2 8))))) (am_W ha hz a1 s1 t1 a2 s2 t2 al ma ms mt ol od)) : am_Run (d + 1) 12 [.ref 27] (am_W ha hz a1 s1 t1 a2 s2 t2 al ma ms mt ol od) K := by
  refine ⟨rfl, fun P hm hP => ?_⟩
  show P 0 [some (.ref 27)] [] _ 0 0
  refine s_aload_n hP t12_0 rfl ?_
  refine s_getfield hP t12_1 rfl rfl ?_
  refine s_aload_n hP t12_4 rfl ?_
  refine s_getfield hP t12_5 rfl rfl ?_
  refine s_getfield hP t12_8 rfl rfl ?_
  refine s_getfield hP t12_11 rfl rfl ?_
  refine s_icmp_lt hP t12_14 (fun q14 => ?_) (fun q14 => ?_)
  · refine s_iconst (v := 0) hP t12_21 (by decide) ?_
    refine s_ireturn hP t12_22 rfl rfl ?_
    simp [am_b, q14, Int32.not_le.mpr q14] at k
    exact k
  · refine s_iconst (v := 1) hP t12_17 (by decide) ?_
    refine s_goto hP t12_18 ?_
    refine s_ireturn hP t12_22 rfl rfl ?_
    simp [am_b, q14, Int32.not_lt.mp q14] at k
    exact k
set_option maxHeartbeats 1000000 in
theorem sp13_2 {d : Nat} {K : am_K} {ha : Nat → Nat → Int32} {hz : Int32} {a1 : Nat → Nat → Int32} {s1 : Nat → Int32} {t1 : UInt32} {a2 : Nat → Nat → Int32} {s2 : Nat → Int32} {t2 : UInt32} {al : Int32} {ma : Nat → Nat → Int32} {ms : Nat → Int32} {mt : UInt32} {ol : Nat → Int64} {od : Nat → UInt64} (k : K (some (.int (am_b (decide (s2 16 = 113))))) (am_W ha hz a1 s1 t1 a2 s2 t2 al ma ms mt ol od)) : am_Run (d + 1) 13 [.ref 27] (am_W ha hz a1 s1 t1 a2 s2 t2 al ma ms mt ol od) K := by
  refine ⟨rfl, fun P hm hP => ?_⟩
  show P 0 [some (.ref 27)] [] _ 0 0
  refine s_aload_n hP t13_0 rfl ?_
  refine s_getfield hP t13_1 rfl rfl ?_
  refine s_bipush (v := 113) hP t13_4 (by decide) ?_
  refine s_icmp_ne hP t13_6 (fun q6 => ?_) (fun q6 => ?_)
  · refine s_iconst (v := 0) hP t13_13 (by decide) ?_
    refine s_ireturn hP t13_14 rfl rfl ?_
    simp [am_b, q6] at k
    exact k
  · refine s_iconst (v := 1) hP t13_9 (by decide) ?_
    refine s_goto hP t13_10 ?_
    refine s_ireturn hP t13_14 rfl rfl ?_
    simp [am_b, q6] at k
    exact k
set_option maxHeartbeats 1000000 in
theorem sp73 {d : Nat} {K : am_K} {ha : Nat → Nat → Int32} {hz : Int32} {a1 : Nat → Nat → Int32} {s1 : Nat → Int32} {t1 : UInt32} {a2 : Nat → Nat → Int32} {s2 : Nat → Int32} {t2 : UInt32} {al : Int32} {ma : Nat → Nat → Int32} {ms : Nat → Int32} {mt : UInt32} {ol : Nat → Int64} {od : Nat → UInt64} (k : K (some (.int (am_b (decide (hz ≤ s1 8))))) (am_W ha hz a1 s1 t1 a2 s2 t2 al ma ms mt ol od)) : am_Run (d + 2) 73 [.ref 0] (am_W ha hz a1 s1 t1 a2 s2 t2 al ma ms mt ol od) K := by
  refine ⟨rfl, fun P hm hP => ?_⟩
  show P 0 [some (.ref 0)] [] _ 0 0
  refine s_aload_n hP t73_0 rfl ?_
  refine s_getfield hP t73_1 rfl rfl ?_
  refine s_invokevirtual (bc' := 0) (bs' := 0) hP t73_4 rfl rfl rfl rfl rfl ?_
  refine sp12_1 ?_
  refine s_ireturn hP t73_7 rfl (am_nar_b _) ?_
  exact k
set_option maxHeartbeats 1000000 in
theorem sp74 {d : Nat} {K : am_K} {ha : Nat → Nat → Int32} {hz : Int32} {a1 : Nat → Nat → Int32} {s1 : Nat → Int32} {t1 : UInt32} {a2 : Nat → Nat → Int32} {s2 : Nat → Int32} {t2 : UInt32} {al : Int32} {ma : Nat → Nat → Int32} {ms : Nat → Int32} {mt : UInt32} {ol : Nat → Int64} {od : Nat → UInt64} (k : K (some (.int (s1 8))) (am_W ha hz a1 s1 t1 a2 s2 t2 al ma ms mt ol od)) : am_Run (d + 1) 74 [.ref 0] (am_W ha hz a1 s1 t1 a2 s2 t2 al ma ms mt ol od) K := by
  refine ⟨rfl, fun P hm hP => ?_⟩
  show P 0 [some (.ref 0)] [] _ 0 0
  refine s_aload_n hP t74_0 rfl ?_
  refine s_getfield hP t74_1 rfl rfl ?_
  refine s_getfield hP t74_4 rfl rfl ?_
  refine s_ireturn hP t74_7 rfl rfl ?_
  exact k
set_option maxHeartbeats 1000000 in
theorem sp75 {d : Nat} {K : am_K} {ha : Nat → Nat → Int32} {hz : Int32} {a1 : Nat → Nat → Int32} {s1 : Nat → Int32} {t1 : UInt32} {a2 : Nat → Nat → Int32} {s2 : Nat → Int32} {t2 : UInt32} {al : Int32} {ma : Nat → Nat → Int32} {ms : Nat → Int32} {mt : UInt32} {ol : Nat → Int64} {od : Nat → UInt64} (k : K (some (.int (s1 9))) (am_W ha hz a1 s1 t1 a2 s2 t2 al ma ms mt ol od)) : am_Run (d + 1) 75 [.ref 0] (am_W ha hz a1 s1 t1 a2 s2 t2 al ma ms mt ol od) K := by
  refine ⟨rfl, fun P hm hP => ?_⟩
  show P 0 [some (.ref 0)] [] _ 0 0
  refine s_aload_n hP t75_0 rfl ?_
  refine s_getfield hP t75_1 rfl rfl ?_
  refine s_getfield hP t75_4 rfl rfl ?_
  refine s_ireturn hP t75_7 rfl rfl ?_
  exact k
set_option maxHeartbeats 1000000 in
theorem sp76 {d : Nat} {K : am_K} {ha : Nat → Nat → Int32} {hz : Int32} {a1 : Nat → Nat → Int32} {s1 : Nat → Int32} {t1 : UInt32} {a2 : Nat → Nat → Int32} {s2 : Nat → Int32} {t2 : UInt32} {al : Int32} {ma : Nat → Nat → Int32} {ms : Nat → Int32} {mt : UInt32} {ol : Nat → Int64} {od : Nat → UInt64} (k : K (some (.int (s1 10))) (am_W ha hz a1 s1 t1 a2 s2 t2 al ma ms mt ol od)) : am_Run (d + 1) 76 [.ref 0] (am_W ha hz a1 s1 t1 a2 s2 t2 al ma ms mt ol od) K := by
  refine ⟨rfl, fun P hm hP => ?_⟩
  show P 0 [some (.ref 0)] [] _ 0 0
  refine s_aload_n hP t76_0 rfl ?_
  refine s_getfield hP t76_1 rfl rfl ?_
  refine s_getfield hP t76_4 rfl rfl ?_
  refine s_ireturn hP t76_7 rfl rfl ?_
  exact k
set_option maxHeartbeats 1000000 in
theorem sp79 {d : Nat} {K : am_K} {ha : Nat → Nat → Int32} {hz : Int32} {a1 : Nat → Nat → Int32} {s1 : Nat → Int32} {t1 : UInt32} {a2 : Nat → Nat → Int32} {s2 : Nat → Int32} {t2 : UInt32} {al : Int32} {ma : Nat → Nat → Int32} {ms : Nat → Int32} {mt : UInt32} {ol : Nat → Int64} {od : Nat → UInt64} (k : K (some (.float t1)) (am_W ha hz a1 s1 t1 a2 s2 t2 al ma ms mt ol od)) : am_Run (d + 1) 79 [.ref 0] (am_W ha hz a1 s1 t1 a2 s2 t2 al ma ms mt ol od) K := by
  refine ⟨rfl, fun P hm hP => ?_⟩
  show P 0 [some (.ref 0)] [] _ 0 0
  refine s_aload_n hP t79_0 rfl ?_
  refine s_getfield hP t79_1 rfl rfl ?_
  refine s_getfield hP t79_4 rfl rfl ?_
  refine s_freturn hP t79_7 rfl ?_
  exact k
set_option maxHeartbeats 1000000 in
theorem sp72 {d : Nat} {K : am_K} {ha : Nat → Nat → Int32} {hz : Int32} {a1 : Nat → Nat → Int32} {s1 : Nat → Int32} {t1 : UInt32} {a2 : Nat → Nat → Int32} {s2 : Nat → Int32} {t2 : UInt32} {al : Int32} {ma : Nat → Nat → Int32} {ms : Nat → Int32} {mt : UInt32} {ol : Nat → Int64} {od : Nat → UInt64} (hal : narrow .char (.int al) = .int al) (k : K (some (.int (al))) (am_W ha hz a1 s1 t1 a2 s2 t2 al ma ms mt ol od)) : am_Run (d + 1) 72 [.ref 0] (am_W ha hz a1 s1 t1 a2 s2 t2 al ma ms mt ol od) K := by
  refine ⟨rfl, fun P hm hP => ?_⟩
  show P 0 [some (.ref 0)] [] _ 0 0
  refine s_aload_n hP t72_0 rfl ?_
  refine s_getfield hP t72_1 rfl rfl ?_
  refine s_ireturn hP t72_4 rfl hal ?_
  exact k
set_option maxHeartbeats 1000000 in
theorem sp96 {d : Nat} {K : am_K} {ha : Nat → Nat → Int32} {hz : Int32} {a1 : Nat → Nat → Int32} {s1 : Nat → Int32} {t1 : UInt32} {a2 : Nat → Nat → Int32} {s2 : Nat → Int32} {t2 : UInt32} {al : Int32} {ma : Nat → Nat → Int32} {ms : Nat → Int32} {mt : UInt32} {ol : Nat → Int64} {od : Nat → UInt64} (k : K (some (.int (ms 15))) (am_W ha hz a1 s1 t1 a2 s2 t2 al ma ms mt ol od)) : am_Run (d + 1) 96 [.ref 39] (am_W ha hz a1 s1 t1 a2 s2 t2 al ma ms mt ol od) K := by
  refine ⟨rfl, fun P hm hP => ?_⟩
  show P 0 [some (.ref 39)] [] _ 0 0
  refine s_aload_n hP t96_0 rfl ?_
  refine s_getfield hP t96_1 rfl rfl ?_
  refine s_ireturn hP t96_4 rfl rfl ?_
  exact k
set_option maxHeartbeats 1000000 in
theorem sp98 {d : Nat} {K : am_K} {ha : Nat → Nat → Int32} {hz : Int32} {a1 : Nat → Nat → Int32} {s1 : Nat → Int32} {t1 : UInt32} {a2 : Nat → Nat → Int32} {s2 : Nat → Int32} {t2 : UInt32} {al : Int32} {ma : Nat → Nat → Int32} {ms : Nat → Int32} {mt : UInt32} {ol : Nat → Int64} {od : Nat → UInt64} {x : Int32} (k : K (some (.int (x))) (am_W ha hz a1 s1 t1 a2 s2 t2 al ma (am_u1 ms 15 0) mt ol od)) : am_Run (d + 1) 98 [.ref 39, .int x] (am_W ha hz a1 s1 t1 a2 s2 t2 al ma ms mt ol od) K := by
  refine ⟨rfl, fun P hm hP => ?_⟩
  show P 0 [some (.ref 39), some (.int x)] [] _ 0 0
  refine s_aload_n hP t98_0 rfl ?_
  refine s_iconst (v := 0) hP t98_1 (by decide) ?_
  refine s_putfield hP t98_2 rfl rfl rfl rfl ?_
  refine s_iload_n hP t98_5 rfl ?_
  refine s_ireturn hP t98_6 rfl rfl ?_
  exact k
set_option maxHeartbeats 1000000 in
theorem sp99 {d : Nat} {K : am_K} {ha : Nat → Nat → Int32} {hz : Int32} {a1 : Nat → Nat → Int32} {s1 : Nat → Int32} {t1 : UInt32} {a2 : Nat → Nat → Int32} {s2 : Nat → Int32} {t2 : UInt32} {al : Int32} {ma : Nat → Nat → Int32} {ms : Nat → Int32} {mt : UInt32} {ol : Nat → Int64} {od : Nat → UInt64} {x : Bool} (k : K (some (.int (am_b (!x)))) (am_W ha hz a1 s1 t1 a2 s2 t2 al ma (am_u1 ms 15 (am_b (!x))) mt ol od)) : am_Run (d + 1) 99 [.ref 39, .int (am_b x)] (am_W ha hz a1 s1 t1 a2 s2 t2 al ma ms mt ol od) K := by
  refine ⟨rfl, fun P hm hP => ?_⟩
  show P 0 [some (.ref 39), some (.int (am_b x))] [] _ 0 0
  refine s_aload_n hP t99_0 rfl ?_
  refine s_iload_n hP t99_1 rfl ?_
  refine s_zeq hP t99_2 (fun q2 => ?_) (fun q2 => ?_)
  · refine s_iconst (v := 1) hP t99_9 (by decide) ?_
    refine s_putfield hP t99_10 rfl rfl rfl rfl ?_
    refine s_aload_n hP t99_13 rfl ?_
    refine s_getfield hP t99_14 rfl rfl ?_
    refine s_ireturn hP t99_17 rfl rfl ?_
    simp [am_b, q2] at k
    exact k
  · refine s_iconst (v := 0) hP t99_5 (by decide) ?_
    refine s_goto hP t99_6 ?_
    refine s_putfield hP t99_10 rfl rfl rfl rfl ?_
    refine s_aload_n hP t99_13 rfl ?_
    refine s_getfield hP t99_14 rfl rfl ?_
    refine s_ireturn hP t99_17 rfl rfl ?_
    simp [am_b, q2] at k
    exact k
set_option maxHeartbeats 1000000 in
theorem sp138 {d : Nat} {K : am_K} {ha : Nat → Nat → Int32} {hz : Int32} {a1 : Nat → Nat → Int32} {s1 : Nat → Int32} {t1 : UInt32} {a2 : Nat → Nat → Int32} {s2 : Nat → Int32} {t2 : UInt32} {al : Int32} {ma : Nat → Nat → Int32} {ms : Nat → Int32} {mt : UInt32} {ol : Nat → Int64} {od : Nat → UInt64} (k : K (some (.int (ms 17))) (am_W ha hz a1 s1 t1 a2 s2 t2 al ma (am_u1 ms 15 0) mt ol od)) : am_Run (d + 2) 138 [.ref 39] (am_W ha hz a1 s1 t1 a2 s2 t2 al ma ms mt ol od) K := by
  refine ⟨rfl, fun P hm hP => ?_⟩
  show P 0 [some (.ref 39)] [] _ 0 0
  refine s_aload_n hP t138_0 rfl ?_
  refine s_aload_n hP t138_1 rfl ?_
  refine s_getfield hP t138_2 rfl rfl ?_
  refine s_invokevirtual (bc' := 0) (bs' := 0) hP t138_5 rfl rfl rfl rfl rfl ?_
  refine sp98 ?_
  refine s_ireturn hP t138_8 rfl rfl ?_
  exact k
set_option maxHeartbeats 1000000 in
theorem sp139 {d : Nat} {K : am_K} {ha : Nat → Nat → Int32} {hz : Int32} {a1 : Nat → Nat → Int32} {s1 : Nat → Int32} {t1 : UInt32} {a2 : Nat → Nat → Int32} {s2 : Nat → Int32} {t2 : UInt32} {al : Int32} {ma : Nat → Nat → Int32} {ms : Nat → Int32} {mt : UInt32} {ol : Nat → Int64} {od : Nat → UInt64} (k : K (some (.int (ms 18))) (am_W ha hz a1 s1 t1 a2 s2 t2 al ma (am_u1 ms 15 0) mt ol od)) : am_Run (d + 2) 139 [.ref 39] (am_W ha hz a1 s1 t1 a2 s2 t2 al ma ms mt ol od) K := by
  refine ⟨rfl, fun P hm hP => ?_⟩
  show P 0 [some (.ref 39)] [] _ 0 0
  refine s_aload_n hP t139_0 rfl ?_
  refine s_aload_n hP t139_1 rfl ?_
  refine s_getfield hP t139_2 rfl rfl ?_
  refine s_invokevirtual (bc' := 0) (bs' := 0) hP t139_5 rfl rfl rfl rfl rfl ?_
  refine sp98 ?_
  refine s_ireturn hP t139_8 rfl rfl ?_
  exact k
set_option maxHeartbeats 1000000 in
theorem sp142 {d : Nat} {K : am_K} {ha : Nat → Nat → Int32} {hz : Int32} {a1 : Nat → Nat → Int32} {s1 : Nat → Int32} {t1 : UInt32} {a2 : Nat → Nat → Int32} {s2 : Nat → Int32} {t2 : UInt32} {al : Int32} {ma : Nat → Nat → Int32} {ms : Nat → Int32} {mt : UInt32} {ol : Nat → Int64} {od : Nat → UInt64} (k : K (some (.int (ms 19))) (am_W ha hz a1 s1 t1 a2 s2 t2 al ma (am_u1 ms 15 0) mt ol od)) : am_Run (d + 2) 142 [.ref 39] (am_W ha hz a1 s1 t1 a2 s2 t2 al ma ms mt ol od) K := by
  refine ⟨rfl, fun P hm hP => ?_⟩
  show P 0 [some (.ref 39)] [] _ 0 0
  refine s_aload_n hP t142_0 rfl ?_
  refine s_aload_n hP t142_1 rfl ?_
  refine s_getfield hP t142_2 rfl rfl ?_
  refine s_invokevirtual (bc' := 0) (bs' := 0) hP t142_5 rfl rfl rfl rfl rfl ?_
  refine sp98 ?_
  refine s_ireturn hP t142_8 rfl rfl ?_
  exact k
set_option maxHeartbeats 1000000 in
theorem sp150 {d : Nat} {K : am_K} {ha : Nat → Nat → Int32} {hz : Int32} {a1 : Nat → Nat → Int32} {s1 : Nat → Int32} {t1 : UInt32} {a2 : Nat → Nat → Int32} {s2 : Nat → Int32} {t2 : UInt32} {al : Int32} {ma : Nat → Nat → Int32} {ms : Nat → Int32} {mt : UInt32} {ol : Nat → Int64} {od : Nat → UInt64} (k : K (some (.float mt)) (am_W ha hz a1 s1 t1 a2 s2 t2 al ma (am_u1 ms 15 0) mt ol od)) : am_Run (d + 1) 150 [.ref 39] (am_W ha hz a1 s1 t1 a2 s2 t2 al ma ms mt ol od) K := by
  refine ⟨rfl, fun P hm hP => ?_⟩
  show P 0 [some (.ref 39)] [] _ 0 0
  refine s_aload_n hP t150_0 rfl ?_
  refine s_iconst (v := 0) hP t150_1 (by decide) ?_
  refine s_putfield hP t150_2 rfl rfl rfl rfl ?_
  refine s_aload_n hP t150_5 rfl ?_
  refine s_getfield hP t150_6 rfl rfl ?_
  refine s_freturn hP t150_9 rfl ?_
  exact k
set_option maxHeartbeats 1000000 in
theorem sp137 {d : Nat} {K : am_K} {ha : Nat → Nat → Int32} {hz : Int32} {a1 : Nat → Nat → Int32} {s1 : Nat → Int32} {t1 : UInt32} {a2 : Nat → Nat → Int32} {s2 : Nat → Int32} {t2 : UInt32} {al : Int32} {ma : Nat → Nat → Int32} {ms : Nat → Int32} {mt : UInt32} {ol : Nat → Int64} {od : Nat → UInt64} (k : K (some (.int (am_b (decide (ms 17 = ms 16))))) (am_W ha hz a1 s1 t1 a2 s2 t2 al ma (am_u1 ms 15 0) mt ol od)) : am_Run (d + 1) 137 [.ref 39] (am_W ha hz a1 s1 t1 a2 s2 t2 al ma ms mt ol od) K := by
  refine ⟨rfl, fun P hm hP => ?_⟩
  show P 0 [some (.ref 39)] [] _ 0 0
  refine s_aload_n hP t137_0 rfl ?_
  refine s_iconst (v := 0) hP t137_1 (by decide) ?_
  refine s_putfield hP t137_2 rfl rfl rfl rfl ?_
  refine s_aload_n hP t137_5 rfl ?_
  refine s_getfield hP t137_6 rfl rfl ?_
  refine s_aload_n hP t137_9 rfl ?_
  refine s_getfield hP t137_10 rfl rfl ?_
  refine s_icmp_ne hP t137_13 (fun q13 => ?_) (fun q13 => ?_)
  · refine s_iconst (v := 0) hP t137_20 (by decide) ?_
    refine s_ireturn hP t137_21 rfl rfl ?_
    simp [am_b, q13] at k
    exact k
  · refine s_iconst (v := 1) hP t137_16 (by decide) ?_
    refine s_goto hP t137_17 ?_
    refine s_ireturn hP t137_21 rfl rfl ?_
    simp [am_b, q13] at k
    exact k
set_option maxHeartbeats 1000000 in
theorem sp136 {d : Nat} {K : am_K} {ha : Nat → Nat → Int32} {hz : Int32} {a1 : Nat → Nat → Int32} {s1 : Nat → Int32} {t1 : UInt32} {a2 : Nat → Nat → Int32} {s2 : Nat → Int32} {t2 : UInt32} {al : Int32} {ma : Nat → Nat → Int32} {ms : Nat → Int32} {mt : UInt32} {ol : Nat → Int64} {od : Nat → UInt64} (hal : narrow .char (.int (ms 25)) = .int (ms 25)) (k : K (some (.int (ms 25))) (am_W ha hz a1 s1 t1 a2 s2 t2 al ma (am_u1 ms 15 0) mt ol od)) : am_Run (d + 1) 136 [.ref 39] (am_W ha hz a1 s1 t1 a2 s2 t2 al ma ms mt ol od) K := by
  refine ⟨rfl, fun P hm hP => ?_⟩
  show P 0 [some (.ref 39)] [] _ 0 0
  refine s_aload_n hP t136_0 rfl ?_
  refine s_iconst (v := 0) hP t136_1 (by decide) ?_
  refine s_putfield hP t136_2 rfl rfl rfl rfl ?_
  refine s_aload_n hP t136_5 rfl ?_
  refine s_getfield hP t136_6 rfl rfl ?_
  refine s_ireturn hP t136_9 rfl hal ?_
  exact k
set_option maxHeartbeats 1000000 in
theorem sp154 {d : Nat} {K : am_K} {ha : Nat → Nat → Int32} {hz : Int32} {a1 : Nat → Nat → Int32} {s1 : Nat → Int32} {t1 : UInt32} {a2 : Nat → Nat → Int32} {s2 : Nat → Int32} {t2 : UInt32} {al : Int32} {ma : Nat → Nat → Int32} {ms : Nat → Int32} {mt : UInt32} {ol : Nat → Int64} {od : Nat → UInt64} (k : K (some (.int (1))) (am_W ha hz a1 s1 t1 a2 s2 t2 al ma (am_u1 ms 15 0) mt ol od)) : am_Run (d + 1) 154 [.ref 39] (am_W ha hz a1 s1 t1 a2 s2 t2 al ma ms mt ol od) K := by
  refine ⟨rfl, fun P hm hP => ?_⟩
  show P 0 [some (.ref 39)] [] _ 0 0
  refine s_aload_n hP t154_0 rfl ?_
  refine s_iconst (v := 0) hP t154_1 (by decide) ?_
  refine s_putfield hP t154_2 rfl rfl rfl rfl ?_
  refine s_iconst (v := 1) hP t154_5 (by decide) ?_
  refine s_ireturn hP t154_6 rfl rfl ?_
  exact k
