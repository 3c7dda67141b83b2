/-- Text.says -/
def sx_c64 : List sx_T := [(28, [some (2, (27, [(0, 0)])), some (0, (0, [(1, 0)])), some (2, (35, [(0, 1)])), some (0, (0, [(1, 1)])), some (0, (0, [(1, 2)])), some (0, (0, [(1, 3)])), some (0, (0, [(1, 4)])), none], [(0, 2, []), (0, 7, []), (0, 5, []), (0, 64, []), (0, 300, [])], 2, [], [(0, [(1, 5)]), (0, [(1, 6)])], [0, 2], (300, [(-1, 4)]), (0, []))]
/-- Text.join -/
def sx_c66 : List sx_T := []
set_option maxRecDepth 100000 in
theorem sx_k66 : sx_chk sx_PP 66 sx_K66 sx_c66 3000 = true := by decide +kernel
/-- Text.joinList -/
def sx_c67 : List sx_T := [(20, [some (2, (27, [(0, 0)])), none, some (0, (0, [(1, 1)])), some (0, (0, [(1, 2)])), some (0, (0, [(1, 3)])), some (0, (0, [(1, 4)]))], [(1, 63, []), (2, 64, []), (0, 62, []), (0, 1, []), (1, 64, [])], 1, [], [(0, [(1, 3)]), (0, [(1, 4)]), (0, [(1, 5)])], [0], (64, [(-1, 4)]), (0, []))]
set_option maxRecDepth 100000 in
theorem sx_k67 : sx_chk sx_PP 67 sx_K67 sx_c67 3000 = true := by decide +kernel
/-- Forest.named -/
def sx_c68 : List sx_T := []
set_option maxRecDepth 100000 in
theorem sx_k68 : sx_chk sx_PP 68 sx_K68 sx_c68 3000 = true := by decide +kernel
/-- Forest.powersOn -/
def sx_c69 : List sx_T := [(4, [some (2, (35, [(0, 0)])), some (0, (0, [(1, 0)])), some (0, (0, [(1, 1)])), some (0, (0, [(1, 2)]))], [(0, 7, []), (0, 63, []), (0, 6, [])], 1, [], [(0, [(1, 2)]), (0, [(1, 3)])], [0], (6, [(-1, 2)]), (0, []))]
set_option maxRecDepth 100000 in
theorem sx_k69 : sx_chk sx_PP 69 sx_K69 sx_c69 3000 = true := by decide +kernel
/-- java/lang/Integer.bitCount -/
def sx_c70 : List sx_T := []
set_option maxRecDepth 100000 in
theorem sx_k70 : sx_chk sx_PP 70 sx_K70 sx_c70 3000 = true := by decide +kernel
/-- Forest.heir -/
def sx_c72 : List sx_T := [(16, [some (2, (35, [(0, 0)])), some (2, (27, [(0, 1)])), some (0, (0, [(1, 0)])), some (0, (0, [(1, 1)])), some (0, (0, [(1, 2)])), none, none], [(-1, 5, []), (-1, 2147483647, []), (0, 8, [])], 2, [], [(0, [(1, 2)]), (0, [(1, 3)]), (0, [(1, 4)])], [0, 1], (89, [(-10, 2)]), (0, [])),
  (28, [some (2, (35, [(0, 0)])), some (2, (27, [(0, 1)])), some (0, (0, [(1, 0)])), some (0, (0, [(1, 1)])), some (0, (0, [(1, 2)])), some (0, (0, [(1, 3)])), none], [(-1, 5, []), (-1, 2147483647, []), (0, 7, []), (0, 6, [])], 2, [], [(0, [(1, 2)]), (0, [(1, 3)]), (0, [(1, 4)]), (0, [(1, 5)])], [0, 1], (86, [(-10, 2), (-1, 3)]), (0, []))]
set_option maxRecDepth 100000 in
theorem sx_k72 : sx_chk sx_PP 72 sx_K72 sx_c72 3000 = true := by decide +kernel
/-- Forest.goesAhead -/
def sx_c73 : List sx_T := []
set_option maxRecDepth 100000 in
theorem sx_k73 : sx_chk sx_PP 73 sx_K73 sx_c73 3000 = true := by decide +kernel
/-- Book.write -/
def sx_c76 : List sx_T := []
set_option maxRecDepth 100000 in
theorem sx_k76 : sx_chk sx_PP 76 sx_K76 sx_c76 3000 = true := by decide +kernel
/-- F.hoist -/
def sx_c77 : List sx_T := []
set_option maxRecDepth 100000 in
theorem sx_k77 : sx_chk sx_PP 77 sx_K77 sx_c77 3000 = true := by decide +kernel
/-- F.lower -/
def sx_c83 : List sx_T := []
set_option maxRecDepth 100000 in
theorem sx_k83 : sx_chk sx_PP 83 sx_K83 sx_c83 3000 = true := by decide +kernel
/-- F.prune -/
def sx_c86 : List sx_T := []
set_option maxRecDepth 100000 in
theorem sx_k86 : sx_chk sx_PP 86 sx_K86 sx_c86 3000 = true := by decide +kernel
/-- Forest.cut -/
def sx_c89 : List sx_T := [(12, [some (2, (35, [(0, 0)])), some (0, (0, [(1, 0)])), none, some (0, (0, [(1, 2)])), none], [(0, 7, []), (1, 2147483646, []), (0, 6, [])], 1, [], [(0, [(1, 3)])], [0], (6, [(-1, 2)]), (0, []))]
set_option maxRecDepth 100000 in
theorem sx_k89 : sx_chk sx_PP 89 sx_K89 sx_c89 3000 = true := by decide +kernel
/-- F.blow -/
def sx_c90 : List sx_T := []
set_option maxRecDepth 100000 in
theorem sx_k90 : sx_chk sx_PP 90 sx_K90 sx_c90 3000 = true := by decide +kernel
/-- F.played -/
def sx_c92 : List sx_T := [(26, [some (2, (24, [(0, 0)])), none, some (2, (27, [(0, 1)])), some (0, (0, [(1, 1)])), none, none, none], [(0, 3, []), (0, 24, [])], 2, [], [(0, [(1, 3)])], [0, 2], (24, [(-1, 1)]), (0, []))]
set_option maxRecDepth 100000 in
theorem sx_k92 : sx_chk sx_PP 92 sx_K92 sx_c92 3000 = true := by decide +kernel
/-- F.centuries -/
def sx_c93 : List sx_T := [(67, [some (2, (24, [(0, 0)])), none, some (0, (0, [(1, 1)])), some (2, (35, [(0, 1)])), some (0, (0, [(1, 2)]))], [(0, 9999, []), (1, 40, []), (0, 40, [])], 2, [], [(0, [(1, 4)])], [0, 3], (40, [(-1, 2)]), (0, []))]
set_option maxRecDepth 100000 in
theorem sx_k93 : sx_chk sx_PP 93 sx_K93 sx_c93 3000 = true := by decide +kernel
/-- State.century -/
def sx_c94 : List sx_T := []
set_option maxRecDepth 100000 in
theorem sx_k94 : sx_chk sx_PP 94 sx_K94 sx_c94 3000 = true := by decide +kernel
/-- F.undo -/
def sx_c95 : List sx_T := []
set_option maxRecDepth 100000 in
theorem sx_k95 : sx_chk sx_PP 95 sx_K95 sx_c95 3000 = true := by decide +kernel
/-- Steps.takeBack -/
def sx_c96 : List sx_T := [(107, [some (2, (46, [(0, 0)])), some (2, (35, [(0, 1)])), some (2, (43, [(0, 2)])), some (0, (0, [(1, 0)])), some (0, (0, [(1, 1)])), some (0, (0, [(1, 2)]))], [(0, 5510, []), (0, 8, []), (0, 8, [])], 3, [], [(0, [(1, 3)]), (0, [(1, 4)]), (0, [(1, 5)])], [0, 1, 2], (8, [(-1, 2)]), (0, []))]
set_option maxRecDepth 100000 in
theorem sx_k96 : sx_chk sx_PP 96 sx_K96 sx_c96 3000 = true := by decide +kernel
/-- F.ofPole -/
def sx_c97 : List sx_T := []
set_option maxRecDepth 100000 in
theorem sx_k97 : sx_chk sx_PP 97 sx_K97 sx_c97 3000 = true := by decide +kernel
/-- F.ofPower -/
def sx_c98 : List sx_T := []
set_option maxRecDepth 100000 in
theorem sx_k98 : sx_chk sx_PP 98 sx_K98 sx_c98 3000 = true := by decide +kernel
/-- Forest.polesOf -/
def sx_c99 : List sx_T := [(4, [some (2, (35, [(0, 0)])), some (0, (0, [(1, 0)])), some (0, (0, [(1, 1)])), some (0, (0, [(1, 2)]))], [(0, 5, []), (0, 255, []), (0, 8, [])], 1, [], [(0, [(1, 2)]), (0, [(1, 3)])], [0], (8, [(-1, 2)]), (0, []))]
set_option maxRecDepth 100000 in
theorem sx_k99 : sx_chk sx_PP 99 sx_K99 sx_c99 3000 = true := by decide +kernel
/-- Forest.greatest -/
def sx_c100 : List sx_T := [(4, [some (2, (35, [(0, 0)])), some (0, (0, [(1, 0)])), some (0, (0, [(1, 1)])), some (0, (0, [(1, 2)]))], [(0, 5, []), (-1, 2147483647, []), (0, 8, [])], 1, [], [(0, [(1, 2)]), (0, [(1, 3)])], [0], (8, [(-1, 2)]), (0, []))]
set_option maxRecDepth 100000 in
theorem sx_k100 : sx_chk sx_PP 100 sx_K100 sx_c100 3000 = true := by decide +kernel
/-- F.flag -/
def sx_c101 : List sx_T := []
set_option maxRecDepth 100000 in
theorem sx_k101 : sx_chk sx_PP 101 sx_K101 sx_c101 3000 = true := by decide +kernel
