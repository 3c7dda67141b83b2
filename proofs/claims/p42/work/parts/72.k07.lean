/-- R.pass -/
def sx_c221 : List sx_T := []
set_option maxRecDepth 100000 in
theorem sx_k221 : sx_chk sx_PP 221 sx_K221 sx_c221 3000 = true := by decide +kernel
/-- R.flyOn -/
def sx_c222 : List sx_T := [(2, [some (2, (63, [(0, 0)])), some (0, (0, [(1, 0)])), none, none], [(0, 8, [])], 1, [], [(0, [(1, 1)])], [0], (93, [(-10, 0)]), (0, [])),
  (14, [some (2, (63, [(0, 0)])), some (0, (0, [(1, 0)])), some (0, (0, [(1, 1)])), none], [(0, 7, []), (0, 6, [])], 1, [], [(0, [(1, 1)]), (0, [(1, 2)])], [0], (90, [(-10, 0), (-1, 1)]), (0, [])),
  (211, [some (2, (63, [(0, 0)])), none, none, none], [], 1, [], [], [0], (2, []), (0, [])),
  (222, [some (2, (63, [(0, 0)])), none, none, none], [], 1, [], [], [0], (0, []), (1, []))]
/-- R.name -/
def sx_c226 : List sx_T := []
set_option maxRecDepth 100000 in
theorem sx_k226 : sx_chk sx_PP 226 sx_K226 sx_c226 3000 = true := by decide +kernel
/-- R.flagsOn -/
def sx_c228 : List sx_T := [(4, [some (2, (63, [(0, 0)])), some (0, (0, [(1, 0)])), some (0, (0, [(1, 1)])), some (0, (0, [(1, 2)]))], [(0, 7, []), (0, 63, []), (0, 6, [])], 1, [], [(0, [(1, 2)]), (0, [(1, 3)])], [0], (6, [(-1, 2)]), (0, []))]
set_option maxRecDepth 100000 in
theorem sx_k228 : sx_chk sx_PP 228 sx_K228 sx_c228 3000 = true := by decide +kernel
/-- R.bits -/
def sx_c229 : List sx_T := [(4, [some (0, (0, [(1, 0)])), some (0, (0, [(1, 1)])), some (0, (0, [(1, 2)]))], [(0, 511, []), (-2147483648, 2147483647, []), (0, 9, [])], 0, [], [(0, [(1, 1)]), (0, [(1, 2)])], [], (9, [(-1, 2)]), (0, []))]
set_option maxRecDepth 100000 in
theorem sx_k229 : sx_chk sx_PP 229 sx_K229 sx_c229 3000 = true := by decide +kernel
/-- R.isAmong -/
def sx_c234 : List sx_T := [(5, [some (2, (63, [(0, 0)])), some (0, (0, [(1, 0)])), some (0, (0, [(1, 1)])), some (0, (0, [(1, 2)])), some (0, (0, [(1, 3)]))], [(0, 303, []), (0, 6, []), (0, 1, []), (1, 7, [])], 1, [], [(0, [(1, 3)]), (0, [(1, 4)])], [0], (7, [(-1, 3)]), (0, []))]
set_option maxRecDepth 100000 in
theorem sx_k234 : sx_chk sx_PP 234 sx_K234 sx_c234 3000 = true := by decide +kernel
/-- R.holderNow -/
def sx_c242 : List sx_T := [(6, [some (2, (63, [(0, 0)])), some (0, (0, [(1, 0)])), some (0, (0, [(1, 1)])), some (0, (0, [(1, 2)])), none, none], [(-1, 5, []), (-1, 2147483647, []), (0, 6, [])], 1, [], [(0, [(1, 1)]), (0, [(1, 2)]), (0, [(1, 3)])], [0], (6, [(-1, 2)]), (0, []))]
set_option maxRecDepth 100000 in
theorem sx_k242 : sx_chk sx_PP 242 sx_K242 sx_c242 3000 = true := by decide +kernel
/-- R.heightOf -/
def sx_c243 : List sx_T := [(4, [some (2, (63, [(0, 0)])), some (0, (0, [(1, 0)])), some (0, (0, [(1, 1)])), some (0, (0, [(1, 2)]))], [(0, 5, []), (-2147483648, 2147483647, []), (0, 8, [])], 1, [], [(0, [(1, 2)]), (0, [(1, 3)])], [0], (8, [(-1, 2)]), (0, []))]
set_option maxRecDepth 100000 in
theorem sx_k243 : sx_chk sx_PP 243 sx_K243 sx_c243 3000 = true := by decide +kernel
/-- R.hoist -/
def sx_c246 : List sx_T := []
set_option maxRecDepth 100000 in
theorem sx_k246 : sx_chk sx_PP 246 sx_K246 sx_c246 3000 = true := by decide +kernel
/-- R.lower -/
def sx_c251 : List sx_T := []
set_option maxRecDepth 100000 in
theorem sx_k251 : sx_chk sx_PP 251 sx_K251 sx_c251 3000 = true := by decide +kernel
/-- R.prune -/
def sx_c252 : List sx_T := []
set_option maxRecDepth 100000 in
theorem sx_k252 : sx_chk sx_PP 252 sx_K252 sx_c252 3000 = true := by decide +kernel
/-- R.pruneNow -/
def sx_c253 : List sx_T := [(17, [some (2, (63, [(0, 0)])), some (0, (0, [(1, 0)])), none, some (0, (0, [(1, 2)]))], [(0, 7, []), (0, 2147483646, []), (0, 6, [])], 1, [], [(0, [(1, 3)])], [0], (6, [(-1, 2)]), (0, []))]
set_option maxRecDepth 100000 in
theorem sx_k253 : sx_chk sx_PP 253 sx_K253 sx_c253 3000 = true := by decide +kernel
/-- R.blow -/
def sx_c254 : List sx_T := []
set_option maxRecDepth 100000 in
theorem sx_k254 : sx_chk sx_PP 254 sx_K254 sx_c254 3000 = true := by decide +kernel
/-- R.played -/
def sx_c255 : List sx_T := [(21, [some (2, (63, [(0, 0)])), some (0, (0, [(1, 0)])), some (0, (0, [(1, 1)]))], [(0, 3, []), (0, 24, [])], 1, [], [(0, [(1, 2)])], [0], (24, [(-1, 1)]), (0, [(9999, 1)]))]
set_option maxRecDepth 100000 in
theorem sx_k255 : sx_chk sx_PP 255 sx_K255 sx_c255 3000 = true := by decide +kernel
/-- R.isPlayed -/
def sx_c256 : List sx_T := []
set_option maxRecDepth 100000 in
theorem sx_k256 : sx_chk sx_PP 256 sx_K256 sx_c256 3000 = true := by decide +kernel
/-- R.centuries -/
def sx_c257 : List sx_T := [(61, [some (2, (63, [(0, 0)])), none, some (0, (0, [(1, 1)])), some (0, (0, [(1, 2)])), none], [(0, 9999, []), (1, 40, []), (0, 40, []), (1, 8, []), (1, 6, [])], 2, [(0, 1100, (2, (21, [(0, 1)]))), (1, 20000, (0, (0, [(1, 3)]))), (1, 20001, (0, (0, [(1, 4)])))], [(0, [(1, 3)]), (0, [(1, 6)]), (0, [(1, 7)])], [0, 11100], (40, [(-1, 2)]), (2, [(2, 2)]))]
set_option maxRecDepth 100000 in
theorem sx_k257 : sx_chk sx_PP 257 sx_K257 sx_c257 3000 = true := by decide +kernel
/-- R.ofPole -/
def sx_c259 : List sx_T := []
set_option maxRecDepth 100000 in
theorem sx_k259 : sx_chk sx_PP 259 sx_K259 sx_c259 3000 = true := by decide +kernel
/-- R.ofPower -/
def sx_c260 : List sx_T := []
set_option maxRecDepth 100000 in
theorem sx_k260 : sx_chk sx_PP 260 sx_K260 sx_c260 3000 = true := by decide +kernel
/-- R.polesOf -/
def sx_c262 : List sx_T := [(4, [some (2, (63, [(0, 0)])), some (0, (0, [(1, 0)])), some (0, (0, [(1, 1)])), some (0, (0, [(1, 2)]))], [(0, 5, []), (0, 255, []), (0, 8, [])], 1, [], [(0, [(1, 2)]), (0, [(1, 3)])], [0], (8, [(-1, 2)]), (0, []))]
set_option maxRecDepth 100000 in
theorem sx_k262 : sx_chk sx_PP 262 sx_K262 sx_c262 3000 = true := by decide +kernel
/-- R.greatest -/
def sx_c263 : List sx_T := [(4, [some (2, (63, [(0, 0)])), some (0, (0, [(1, 0)])), some (0, (0, [(1, 1)])), some (0, (0, [(1, 2)]))], [(0, 5, []), (-2147483648, 2147483647, []), (0, 8, [])], 1, [], [(0, [(1, 2)]), (0, [(1, 3)])], [0], (8, [(-1, 2)]), (0, []))]
set_option maxRecDepth 100000 in
theorem sx_k263 : sx_chk sx_PP 263 sx_K263 sx_c263 3000 = true := by decide +kernel
/-- R.flag -/
def sx_c264 : List sx_T := []
set_option maxRecDepth 100000 in
theorem sx_k264 : sx_chk sx_PP 264 sx_K264 sx_c264 3000 = true := by decide +kernel
/-- R.is -/
def sx_c265 : List sx_T := []
set_option maxRecDepth 100000 in
theorem sx_k265 : sx_chk sx_PP 265 sx_K265 sx_c265 3000 = true := by decide +kernel
/-- R.book -/
def sx_c266 : List sx_T := []
set_option maxRecDepth 100000 in
theorem sx_k266 : sx_chk sx_PP 266 sx_K266 sx_c266 3000 = true := by decide +kernel
/-- R.heldFor -/
def sx_c269 : List sx_T := [(20, [some (2, (63, [(0, 0)])), some (0, (0, [(1, 0)])), some (0, (0, [(1, 1)])), some (0, (0, [(1, 2)])), none], [(-1, 5, []), (-2147483648, 2147483647, []), (0, 40, [])], 1, [], [(0, [(1, 2)]), (0, [(1, 3)])], [0], (40, [(-1, 2)]), (0, []))]
set_option maxRecDepth 100000 in
theorem sx_k269 : sx_chk sx_PP 269 sx_K269 sx_c269 3000 = true := by decide +kernel
