/-! THE SHARES AND THE MEAN USES AS DOUBLES: numbers, equal to themselves. (rows by gen/sp47.py) -/
def fe_x (n : Nat) : UInt32 := FP.fdiv (FP.i2f (nI n)) 1150287872
def fe_m (s c : Nat) : UInt64 := FP.ddiv (FP.i2d (nI s)) (FP.i2d (nI c))
def fe_d (y : UInt64) : Bool := decide (y &&& 0x7fffffffffffffff ≤ 0x7ff0000000000000) && decide (FP.dcmp y y = some .eq)
theorem fe_dof {y : UInt64} (h : fe_d y = true) : vf_n64 y ∧ FP.dcmp y y = some .eq := by
  rw [fe_d, Bool.and_eq_true, decide_eq_true_eq, decide_eq_true_eq] at h
  exact h
def fe_ok (n : Nat) : Bool := decide (fe_x n &&& 0x7fffffff ≤ 0x7f800000) && fe_d (FP.f2d (fe_x n)) && fe_d (FP.f2d (FP.fneg (fe_x n)))
def fe_sq (f : Nat → Bool) : Bool := (List.range 34).all (fun a => (List.range 34).all (fun b => f (34 * a + b)))
theorem fe_sqof {f : Nat → Bool} (h : fe_sq f = true) {n : Nat} (hn : n ≤ 1152) : f n = true := by
  have h1 := List.all_eq_true.mp h (n / 34) (List.mem_range.mpr (by omega))
  have h2 : f (34 * (n / 34) + n % 34) = true := List.all_eq_true.mp h1 (n % 34) (List.mem_range.mpr (by omega))
  rw [Nat.div_add_mod n 34] at h2
  exact h2
set_option maxHeartbeats 4000000 in
theorem fe_all : fe_sq fe_ok = true := by decide +kernel
set_option maxHeartbeats 4000000 in
theorem fe_m1 : fe_sq (fun s => fe_d (fe_m s 1)) = true := by decide +kernel
set_option maxHeartbeats 4000000 in
theorem fe_m2 : fe_sq (fun s => fe_d (fe_m s 2)) = true := by decide +kernel
set_option maxHeartbeats 4000000 in
theorem fe_m3 : fe_sq (fun s => fe_d (fe_m s 3)) = true := by decide +kernel
set_option maxHeartbeats 4000000 in
theorem fe_m4 : fe_sq (fun s => fe_d (fe_m s 4)) = true := by decide +kernel
set_option maxHeartbeats 4000000 in
theorem fe_m5 : fe_sq (fun s => fe_d (fe_m s 5)) = true := by decide +kernel
set_option maxHeartbeats 4000000 in
theorem fe_m6 : fe_sq (fun s => fe_d (fe_m s 6)) = true := by decide +kernel
set_option maxHeartbeats 4000000 in
theorem fe_m7 : fe_sq (fun s => fe_d (fe_m s 7)) = true := by decide +kernel
set_option maxHeartbeats 4000000 in
theorem fe_m8 : fe_sq (fun s => fe_d (fe_m s 8)) = true := by decide +kernel
set_option maxHeartbeats 4000000 in
theorem fe_m9 : fe_sq (fun s => fe_d (fe_m s 9)) = true := by decide +kernel
set_option maxHeartbeats 4000000 in
theorem fe_m10 : fe_sq (fun s => fe_d (fe_m s 10)) = true := by decide +kernel
set_option maxHeartbeats 4000000 in
theorem fe_m11 : fe_sq (fun s => fe_d (fe_m s 11)) = true := by decide +kernel
set_option maxHeartbeats 4000000 in
theorem fe_m12 : fe_sq (fun s => fe_d (fe_m s 12)) = true := by decide +kernel
theorem fe_taken {n : Nat} (h : n ≤ 1152) : vf_n32 (FP.fdiv (FP.i2f (nI n)) 1150287872) ∧ ∀ y : UInt32, (y = FP.fneg (FP.fdiv (FP.i2f (nI n)) 1150287872) ∨ y = FP.fdiv (FP.i2f (nI n)) 1150287872) → vf_n64 (FP.f2d y) ∧ FP.dcmp (FP.f2d y) (FP.f2d y) = some .eq := by
  have h3 := fe_sqof fe_all h
  rw [fe_ok, Bool.and_eq_true, Bool.and_eq_true, decide_eq_true_eq] at h3
  obtain ⟨⟨h4, h5⟩, h6⟩ := h3
  refine ⟨h4, fun y hy => ?_⟩
  rcases hy with rfl | rfl
  · exact fe_dof h6
  · exact fe_dof h5
theorem fe_mean {s c : Nat} (hs : s ≤ 1152) (h1 : 1 ≤ c) (h2 : c ≤ 12) : vf_n64 (FP.ddiv (FP.i2d (nI s)) (FP.i2d (nI c))) ∧ FP.dcmp (FP.ddiv (FP.i2d (nI s)) (FP.i2d (nI c))) (FP.ddiv (FP.i2d (nI s)) (FP.i2d (nI c))) = some .eq := by
  have : c = 1 ∨ c = 2 ∨ c = 3 ∨ c = 4 ∨ c = 5 ∨ c = 6 ∨ c = 7 ∨ c = 8 ∨ c = 9 ∨ c = 10 ∨ c = 11 ∨ c = 12 := by omega
  rcases this with rfl | rfl | rfl | rfl | rfl | rfl | rfl | rfl | rfl | rfl | rfl | rfl
  · exact fe_dof (y := fe_m s 1) (fe_sqof fe_m1 hs)
  · exact fe_dof (y := fe_m s 2) (fe_sqof fe_m2 hs)
  · exact fe_dof (y := fe_m s 3) (fe_sqof fe_m3 hs)
  · exact fe_dof (y := fe_m s 4) (fe_sqof fe_m4 hs)
  · exact fe_dof (y := fe_m s 5) (fe_sqof fe_m5 hs)
  · exact fe_dof (y := fe_m s 6) (fe_sqof fe_m6 hs)
  · exact fe_dof (y := fe_m s 7) (fe_sqof fe_m7 hs)
  · exact fe_dof (y := fe_m s 8) (fe_sqof fe_m8 hs)
  · exact fe_dof (y := fe_m s 9) (fe_sqof fe_m9 hs)
  · exact fe_dof (y := fe_m s 10) (fe_sqof fe_m10 hs)
  · exact fe_dof (y := fe_m s 11) (fe_sqof fe_m11 hs)
  · exact fe_dof (y := fe_m s 12) (fe_sqof fe_m12 hs)
