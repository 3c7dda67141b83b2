/-- R.putBack -/
def sx_c274 : List sx_T := [(3, [some (2, (63, [(0, 0)])), some (0, (0, [(1, 0)]))], [(8, 148, [])], 1, [], [(0, [(1, 1)])], [0], (148, [(-1, 0)]), (0, []))]
set_option maxRecDepth 100000 in
theorem sx_k274 : sx_chk sx_PP 274 sx_K274 sx_c274 3000 = true := by decide +kernel
