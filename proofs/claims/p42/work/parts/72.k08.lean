/-- R.nearest -/
def sx_c270 : List sx_T := [(19, [some (2, (63, [(0, 0)])), some (0, (0, [(1, 0)])), some (0, (0, [(1, 1)])), some (0, (0, [(1, 2)])), some (0, (0, [(1, 3)])), none], [(0, 7, []), (-1, 7, []), (0, 1000000000, []), (0, 8, [])], 1, [], [(0, [(1, 2)]), (0, [(1, 3)]), (0, [(1, 4)])], [0], (8, [(-1, 3)]), (0, []))]
set_option maxRecDepth 100000 in
theorem sx_k270 : sx_chk sx_PP 270 sx_K270 sx_c270 3000 = true := by decide +kernel
/-- R.foretold -/
def sx_c271 : List sx_T := []
set_option maxRecDepth 100000 in
theorem sx_k271 : sx_chk sx_PP 271 sx_K271 sx_c271 3000 = true := by decide +kernel
/-- R.behindHours -/
def sx_c272 : List sx_T := [(6, [some (2, (63, [(0, 0)])), some (0, (0, [(1, 0)])), some (0, (0, [(1, 1)])), some (0, (0, [(1, 2)]))], [(1, 60, []), (9, 146, []), (0, 60, [])], 1, [], [(0, [(1, 3)])], [0], (60, [(-1, 2)]), (0, [(1, 2)]))]
set_option maxRecDepth 100000 in
theorem sx_k272 : sx_chk sx_PP 272 sx_K272 sx_c272 3000 = true := by decide +kernel
