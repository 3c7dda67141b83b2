/-- R.sortOf -/
def sx_c184 : List sx_T := []
set_option maxRecDepth 100000 in
theorem sx_k184 : sx_chk sx_PP 184 sx_K184 sx_c184 3000 = true := by decide +kernel
/-- R.betweenOf -/
def sx_c196 : List sx_T := []
set_option maxRecDepth 100000 in
theorem sx_k196 : sx_chk sx_PP 196 sx_K196 sx_c196 3000 = true := by decide +kernel
/-- R.isAskHere -/
def sx_c197 : List sx_T := []
set_option maxRecDepth 100000 in
theorem sx_k197 : sx_chk sx_PP 197 sx_K197 sx_c197 3000 = true := by decide +kernel
/-- R.openNow -/
def sx_c198 : List sx_T := [(7, [some (2, (63, [(0, 0)])), some (0, (0, [(1, 0)]))], [(-1, 159, [])], 1, [], [(0, [(1, 1)])], [0], (3, [(2, 0)]), (0, []))]
set_option maxRecDepth 100000 in
theorem sx_k198 : sx_chk sx_PP 198 sx_K198 sx_c198 3000 = true := by decide +kernel
/-- R.isCompared -/
def sx_c199 : List sx_T := [(7, [some (2, (63, [(0, 0)])), some (0, (0, [(1, 0)]))], [(-1, 159, [])], 1, [], [(0, [(1, 1)])], [0], (3, [(2, 0)]), (0, []))]
set_option maxRecDepth 100000 in
theorem sx_k199 : sx_chk sx_PP 199 sx_K199 sx_c199 3000 = true := by decide +kernel
/-- R.rank -/
def sx_c200 : List sx_T := []
set_option maxRecDepth 100000 in
theorem sx_k200 : sx_chk sx_PP 200 sx_K200 sx_c200 3000 = true := by decide +kernel
/-- R.compareOf -/
def sx_c201 : List sx_T := []
set_option maxRecDepth 100000 in
theorem sx_k201 : sx_chk sx_PP 201 sx_K201 sx_c201 3000 = true := by decide +kernel
/-- R.nameOf -/
def sx_c209 : List sx_T := []
set_option maxRecDepth 100000 in
theorem sx_k209 : sx_chk sx_PP 209 sx_K209 sx_c209 3000 = true := by decide +kernel
/-- R.isAskAhead -/
def sx_c211 : List sx_T := []
set_option maxRecDepth 100000 in
theorem sx_k211 : sx_chk sx_PP 211 sx_K211 sx_c211 3000 = true := by decide +kernel
/-- R.fault -/
def sx_c214 : List sx_T := []
set_option maxRecDepth 100000 in
theorem sx_k214 : sx_chk sx_PP 214 sx_K214 sx_c214 3000 = true := by decide +kernel
/-- R.by -/
def sx_c215 : List sx_T := []
set_option maxRecDepth 100000 in
theorem sx_k215 : sx_chk sx_PP 215 sx_K215 sx_c215 3000 = true := by decide +kernel
/-- R.hour -/
def sx_c217 : List sx_T := []
set_option maxRecDepth 100000 in
theorem sx_k217 : sx_chk sx_PP 217 sx_K217 sx_c217 3000 = true := by decide +kernel
/-- R.arePassed -/
def sx_c218 : List sx_T := [(2, [some (2, (63, [(0, 0)])), some (0, (0, [(1, 0)])), some (0, (0, [(1, 1)]))], [(-2147483648, 2147483647, []), (0, 2147483647, [])], 1, [], [(0, [(1, 2)])], [0], (4294967295, [(-2, 1)]), (0, [(1, 1)]))]
set_option maxRecDepth 100000 in
theorem sx_k218 : sx_chk sx_PP 218 sx_K218 sx_c218 3000 = true := by decide +kernel
/-- R.pass -/
def sx_c221 : List sx_T := []
set_option maxRecDepth 100000 in
theorem sx_k221 : sx_chk sx_PP 221 sx_K221 sx_c221 3000 = true := by decide +kernel
/-- R.flyOn -/
def sx_c222 : List sx_T := [(2, [some (2, (63, [(0, 0)])), some (0, (0, [(1, 0)])), none, none], [(0, 8, [])], 1, [], [(0, [(1, 1)])], [0], (158, [(-17, 0)]), (0, [])),
  (14, [some (2, (63, [(0, 0)])), some (0, (0, [(1, 0)])), some (0, (0, [(1, 1)])), none], [(0, 7, []), (0, 6, [])], 1, [], [(0, [(1, 1)]), (0, [(1, 2)])], [0], (155, [(-17, 0), (-2, 1)]), (0, [])),
  (211, [some (2, (63, [(0, 0)])), none, none, none], [], 1, [], [], [0], (4, []), (0, [])),
  (222, [some (2, (63, [(0, 0)])), none, none, none], [], 1, [], [], [0], (1, []), (1, []))]
/-- R.name -/
def sx_c226 : List sx_T := []
set_option maxRecDepth 100000 in
theorem sx_k226 : sx_chk sx_PP 226 sx_K226 sx_c226 3000 = true := by decide +kernel
/-- R.flagsOn -/
def sx_c228 : List sx_T := [(4, [some (2, (63, [(0, 0)])), some (0, (0, [(1, 0)])), some (0, (0, [(1, 1)])), some (0, (0, [(1, 2)]))], [(0, 7, []), (0, 63, []), (0, 6, [])], 1, [], [(0, [(1, 2)]), (0, [(1, 3)])], [0], (13, [(-2, 2)]), (0, []))]
set_option maxRecDepth 100000 in
theorem sx_k228 : sx_chk sx_PP 228 sx_K228 sx_c228 3000 = true := by decide +kernel
/-- R.bits -/
def sx_c229 : List sx_T := [(4, [some (0, (0, [(1, 0)])), some (0, (0, [(1, 1)])), some (0, (0, [(1, 2)]))], [(0, 511, []), (-2147483648, 2147483647, []), (0, 9, [])], 0, [], [(0, [(1, 1)]), (0, [(1, 2)])], [], (19, [(-2, 2)]), (0, []))]
set_option maxRecDepth 100000 in
theorem sx_k229 : sx_chk sx_PP 229 sx_K229 sx_c229 3000 = true := by decide +kernel
/-- R.holderNow -/
def sx_c242 : List sx_T := [(6, [some (2, (63, [(0, 0)])), some (0, (0, [(1, 0)])), some (0, (0, [(1, 1)])), some (0, (0, [(1, 2)])), none, none], [(-1, 5, []), (-1, 2147483647, []), (0, 6, [])], 1, [], [(0, [(1, 1)]), (0, [(1, 2)]), (0, [(1, 3)])], [0], (13, [(-2, 2)]), (0, []))]
set_option maxRecDepth 100000 in
theorem sx_k242 : sx_chk sx_PP 242 sx_K242 sx_c242 3000 = true := by decide +kernel
/-- R.heightOf -/
def sx_c243 : List sx_T := [(4, [some (2, (63, [(0, 0)])), some (0, (0, [(1, 0)])), some (0, (0, [(1, 1)])), some (0, (0, [(1, 2)]))], [(0, 5, []), (-2147483648, 2147483647, []), (0, 8, [])], 1, [], [(0, [(1, 2)]), (0, [(1, 3)])], [0], (17, [(-2, 2)]), (0, []))]
set_option maxRecDepth 100000 in
theorem sx_k243 : sx_chk sx_PP 243 sx_K243 sx_c243 3000 = true := by decide +kernel
/-- R.hoist -/
def sx_c246 : List sx_T := []
set_option maxRecDepth 100000 in
theorem sx_k246 : sx_chk sx_PP 246 sx_K246 sx_c246 3000 = true := by decide +kernel
/-- R.lower -/
def sx_c251 : List sx_T := []
set_option maxRecDepth 100000 in
theorem sx_k251 : sx_chk sx_PP 251 sx_K251 sx_c251 3000 = true := by decide +kernel
/-- R.prune -/
def sx_c252 : List sx_T := []
set_option maxRecDepth 100000 in
theorem sx_k252 : sx_chk sx_PP 252 sx_K252 sx_c252 3000 = true := by decide +kernel
/-- R.pruneNow -/
def sx_c253 : List sx_T := [(17, [some (2, (63, [(0, 0)])), some (0, (0, [(1, 0)])), none, some (0, (0, [(1, 2)]))], [(0, 7, []), (0, 2147483646, []), (0, 6, [])], 1, [], [(0, [(1, 3)])], [0], (13, [(-2, 2)]), (0, []))]
set_option maxRecDepth 100000 in
theorem sx_k253 : sx_chk sx_PP 253 sx_K253 sx_c253 3000 = true := by decide +kernel
