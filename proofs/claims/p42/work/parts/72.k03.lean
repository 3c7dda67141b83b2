/-- F.image -/
def sx_c160 : List sx_T := []
set_option maxRecDepth 100000 in
theorem sx_k160 : sx_chk sx_PP 160 sx_K160 sx_c160 3000 = true := by decide +kernel
/-- State.copyFrom -/
def sx_c161 : List sx_T := []
set_option maxRecDepth 100000 in
theorem sx_k161 : sx_chk sx_PP 161 sx_K161 sx_c161 3000 = true := by decide +kernel
/-- Finds.copyFrom -/
def sx_c164 : List sx_T := [(2, [some (2, (48, [(0, 0)])), some (2, (48, [(0, 1)])), some (0, (0, [(1, 0)]))], [(0, 8, [])], 2, [], [(0, [(1, 2)])], [0, 1], (8, [(-1, 0)]), (0, []))]
set_option maxRecDepth 100000 in
theorem sx_k164 : sx_chk sx_PP 164 sx_K164 sx_c164 3000 = true := by decide +kernel
/-- F.back -/
def sx_c166 : List sx_T := []
set_option maxRecDepth 100000 in
theorem sx_k166 : sx_chk sx_PP 166 sx_K166 sx_c166 3000 = true := by decide +kernel
/-- F.about -/
def sx_c167 : List sx_T := []
set_option maxRecDepth 100000 in
theorem sx_k167 : sx_chk sx_PP 167 sx_K167 sx_c167 3000 = true := by decide +kernel
