/-- R.keep -/
def sx_c219_0 : sx_T := (13, [some (2, (63, [(0, 0)])), some (0, (0, [(1, 0)])), none], [(0, 3190, []), (30, 30, [])], 2, [(0, 1100, (2, (21, [(0, 1)]))), (1, 20004, (0, (0, [(1, 1)])))], [(0, [(1, 1)]), (0, [(1, 4)])], [0, 11100], (3295, [(-1, 0)]), (0, []))
def sx_c219_1 : sx_T := (84, [some (2, (63, [(0, 0)])), some (0, (184, [(110, 1)])), some (0, (0, [(1, 0)]))], [(0, 5, []), (0, 29, [])], 2, [(0, 1100, (2, (21, [(0, 1)]))), (1, 20004, (0, (0, [(1, 1)])))], [(0, [(1, 2)]), (0, [(1, 4)])], [0, 11100], (103, [(-1, 0)]), (0, []))
def sx_c219_2 : sx_T := (146, [some (2, (63, [(0, 0)])), some (0, (184, [(110, 1)])), some (0, (0, [(1, 0)]))], [(0, 96, []), (0, 29, [])], 2, [(0, 1100, (2, (21, [(0, 1)]))), (1, 20004, (0, (0, [(1, 1)])))], [(0, [(1, 2)]), (0, [(1, 4)])], [0, 11100], (96, [(-1, 0)]), (0, []))
def sx_c219 : List sx_T := [sx_c219_0, sx_c219_1, sx_c219_2]
set_option maxRecDepth 100000 in
theorem sx_k219_e : sx_ch0 sx_PP 219 sx_K219 sx_c219 3000 = true := by decide +kernel
set_option maxRecDepth 100000 in
theorem sx_k219_0 : sx_ck1 sx_PP 219 sx_K219 sx_c219 3000 sx_c219_0 = true := by decide +kernel
set_option maxRecDepth 100000 in
theorem sx_k219_1 : sx_ck1 sx_PP 219 sx_K219 sx_c219 3000 sx_c219_1 = true := by decide +kernel
set_option maxRecDepth 100000 in
theorem sx_k219_2 : sx_ck1 sx_PP 219 sx_K219 sx_c219 3000 sx_c219_2 = true := by decide +kernel
theorem sx_k219 : sx_chk sx_PP 219 sx_K219 sx_c219 3000 = true := by
  unfold sx_chk
  rw [Bool.and_eq_true]
  refine ⟨sx_k219_e, List.all_eq_true.mpr (fun T hT => ?_)⟩
  simp only [sx_c219, List.mem_cons, List.not_mem_nil, or_false] at hT
  rcases hT with rfl | rfl | rfl
  · exact sx_k219_0
  · exact sx_k219_1
  · exact sx_k219_2
