/-- Claims.countOrders -/
def sx_c154 : List sx_T := [(15, [some (2, (52, [(0, 0)])), some (0, (0, [(1, 0)])), some (0, (0, [(1, 1)])), some (0, (0, [(1, 2)])), none, none], [(0, 6, []), (0, 63, []), (1, 64, [])], 1, [], [(0, [(1, 2)]), (0, [(1, 3)])], [0], (649, [(-10, 2)]), (0, [])),
  (30, [some (2, (52, [(0, 0)])), some (0, (0, [(1, 0)])), some (0, (0, [(1, 1)])), some (0, (0, [(1, 2)])), some (0, (0, [(1, 3)])), none], [(0, 6, []), (1, 63, []), (1, 63, []), (0, 6, [])], 1, [], [(0, [(1, 2)]), (0, [(1, 3)]), (0, [(1, 4)])], [0], (646, [(-10, 2), (-1, 3)]), (0, []))]
set_option maxRecDepth 100000 in
theorem sx_k154 : sx_chk sx_PP 154 sx_K154 sx_c154 3000 = true := by decide +kernel
/-- Claims.toldAheadOf -/
def sx_c155 : List sx_T := [(4, [some (2, (52, [(0, 0)])), some (0, (0, [(1, 0)])), some (0, (0, [(1, 1)])), some (0, (0, [(1, 2)]))], [(0, 5, []), (0, 63, []), (0, 10, [])], 1, [], [(0, [(1, 2)]), (0, [(1, 3)])], [0], (10, [(-1, 2)]), (0, []))]
set_option maxRecDepth 100000 in
theorem sx_k155 : sx_chk sx_PP 155 sx_K155 sx_c155 3000 = true := by decide +kernel
/-- Claims.inFirst -/
def sx_c156 : List sx_T := [(5, [some (2, (52, [(0, 0)])), some (0, (0, [(1, 0)])), some (0, (0, [(1, 1)])), some (0, (0, [(1, 2)])), some (0, (0, [(1, 3)]))], [(1, 6, []), (0, 5, []), (0, 63, []), (0, 5, [])], 1, [], [(0, [(1, 3)]), (0, [(1, 4)])], [0], (5, [(-1, 3)]), (0, []))]
set_option maxRecDepth 100000 in
theorem sx_k156 : sx_chk sx_PP 156 sx_K156 sx_c156 3000 = true := by decide +kernel
/-- Claims.lowestFree -/
def sx_c157 : List sx_T := [(2, [some (2, (52, [(0, 0)])), some (0, (0, [(1, 0)])), some (0, (0, [(1, 1)])), some (0, (0, [(1, 2)])), none], [(1, 6, []), (0, 63, []), (0, 6, [])], 1, [], [(0, [(1, 3)])], [0], (6, [(-1, 2)]), (0, []))]
set_option maxRecDepth 100000 in
theorem sx_k157 : sx_chk sx_PP 157 sx_K157 sx_c157 3000 = true := by decide +kernel
/-- F.surely -/
def sx_c158 : List sx_T := []
set_option maxRecDepth 100000 in
theorem sx_k158 : sx_chk sx_PP 158 sx_K158 sx_c158 3000 = true := by decide +kernel
/-- Claims.allAheadOf -/
def sx_c159 : List sx_T := [(8, [some (2, (52, [(0, 0)])), none, some (0, (0, [(1, 1)])), some (0, (0, [(1, 2)])), none], [(0, 5, []), (0, 63, []), (0, 6, [])], 1, [], [(0, [(1, 2)]), (0, [(1, 3)])], [0], (69, [(-10, 2)]), (0, [])),
  (17, [some (2, (52, [(0, 0)])), none, some (0, (0, [(1, 1)])), some (0, (0, [(1, 2)])), some (0, (0, [(1, 3)]))], [(0, 5, []), (0, 63, []), (0, 5, []), (0, 6, [])], 1, [], [(0, [(1, 2)]), (0, [(1, 3)]), (0, [(1, 4)])], [0], (66, [(-10, 2), (-1, 3)]), (0, []))]
set_option maxRecDepth 100000 in
theorem sx_k159 : sx_chk sx_PP 159 sx_K159 sx_c159 3000 = true := by decide +kernel
/-- F.image -/
def sx_c160 : List sx_T := []
set_option maxRecDepth 100000 in
theorem sx_k160 : sx_chk sx_PP 160 sx_K160 sx_c160 3000 = true := by decide +kernel
/-- State.copyFrom -/
def sx_c161 : List sx_T := []
set_option maxRecDepth 100000 in
theorem sx_k161 : sx_chk sx_PP 161 sx_K161 sx_c161 3000 = true := by decide +kernel
/-- Finds.copyFrom -/
def sx_c164 : List sx_T := [(2, [some (2, (48, [(0, 0)])), some (2, (48, [(0, 1)])), some (0, (0, [(1, 0)]))], [(0, 8, [])], 2, [], [(0, [(1, 2)])], [0, 1], (8, [(-1, 0)]), (0, []))]
set_option maxRecDepth 100000 in
theorem sx_k164 : sx_chk sx_PP 164 sx_K164 sx_c164 3000 = true := by decide +kernel
/-- F.back -/
def sx_c166 : List sx_T := []
set_option maxRecDepth 100000 in
theorem sx_k166 : sx_chk sx_PP 166 sx_K166 sx_c166 3000 = true := by decide +kernel
/-- F.about -/
def sx_c167 : List sx_T := []
set_option maxRecDepth 100000 in
theorem sx_k167 : sx_chk sx_PP 167 sx_K167 sx_c167 3000 = true := by decide +kernel
