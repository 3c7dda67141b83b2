/-- R.pole -/
def sx_c170 : List sx_T := []
set_option maxRecDepth 100000 in
theorem sx_k170 : sx_chk sx_PP 170 sx_K170 sx_c170 3000 = true := by decide +kernel
/-- R.power -/
def sx_c172 : List sx_T := []
set_option maxRecDepth 100000 in
theorem sx_k172 : sx_chk sx_PP 172 sx_K172 sx_c172 3000 = true := by decide +kernel
/-- R.feed -/
def sx_c173 : List sx_T := []
set_option maxRecDepth 100000 in
theorem sx_k173 : sx_chk sx_PP 173 sx_K173 sx_c173 3000 = true := by decide +kernel
/-- R.end -/
def sx_c175 : List sx_T := []
set_option maxRecDepth 100000 in
theorem sx_k175 : sx_chk sx_PP 175 sx_K175 sx_c175 3000 = true := by decide +kernel
/-- R.nextToken -/
def sx_c178 : List sx_T := [(0, [some (2, (63, [(0, 0)])), none], [(0, 300, [])], 1, [(0, 1107, (0, (0, [(1, 0)])))], [(0, [(1, 2)])], [0], (912, [(-1, 0)]), (0, [])),
  (39, [some (2, (63, [(0, 0)])), none], [], 1, [], [], [0], (610, []), (0, [])),
  (68, [some (2, (63, [(0, 0)])), some (0, (0, [(1, 0)]))], [(0, 255, []), (0, 299, [])], 1, [(0, 1107, (0, (0, [(1, 1)])))], [(0, [(1, 1)]), (0, [(1, 2)])], [0], (608, []), (0, [])),
  (85, [some (2, (63, [(0, 0)])), none], [(0, 300, [])], 1, [(0, 1107, (0, (0, [(1, 0)])))], [(0, [(1, 2)])], [0], (606, [(-1, 0)]), (0, [])),
  (151, [some (2, (63, [(0, 0)])), some (0, (0, [(1, 0)]))], [(0, 255, []), (0, 299, [])], 1, [(0, 1107, (0, (0, [(1, 1)])))], [(0, [(1, 1)]), (0, [(1, 2)])], [0], (304, []), (0, [])),
  (168, [some (2, (63, [(0, 0)])), none], [(0, 300, [])], 1, [(0, 1107, (0, (0, [(1, 0)])))], [(0, [(1, 2)])], [0], (302, [(-1, 0)]), (0, [])),
  (234, [some (2, (63, [(0, 0)])), some (0, (0, [(1, 0)]))], [(0, 255, []), (0, 299, [])], 1, [(0, 1107, (0, (0, [(1, 1)])))], [(0, [(1, 1)]), (0, [(1, 2)])], [0], (0, []), (0, []))]
set_option maxRecDepth 100000 in
theorem sx_k178 : sx_chk sx_PP 178 sx_K178 sx_c178 3000 = true := by decide +kernel
/-- R.isSign -/
def sx_c182 : List sx_T := []
set_option maxRecDepth 100000 in
theorem sx_k182 : sx_chk sx_PP 182 sx_K182 sx_c182 3000 = true := by decide +kernel
/-- R.sortOf -/
def sx_c184 : List sx_T := []
set_option maxRecDepth 100000 in
theorem sx_k184 : sx_chk sx_PP 184 sx_K184 sx_c184 3000 = true := by decide +kernel
/-- R.w6 -/
def sx_c185 : List sx_T := []
set_option maxRecDepth 100000 in
theorem sx_k185 : sx_chk sx_PP 185 sx_K185 sx_c185 3000 = true := by decide +kernel
/-- R.w5 -/
def sx_c186 : List sx_T := []
set_option maxRecDepth 100000 in
theorem sx_k186 : sx_chk sx_PP 186 sx_K186 sx_c186 3000 = true := by decide +kernel
/-- R.w4 -/
def sx_c187 : List sx_T := []
set_option maxRecDepth 100000 in
theorem sx_k187 : sx_chk sx_PP 187 sx_K187 sx_c187 3000 = true := by decide +kernel
/-- R.w3 -/
def sx_c188 : List sx_T := []
set_option maxRecDepth 100000 in
theorem sx_k188 : sx_chk sx_PP 188 sx_K188 sx_c188 3000 = true := by decide +kernel
/-- R.w2 -/
def sx_c189 : List sx_T := []
set_option maxRecDepth 100000 in
theorem sx_k189 : sx_chk sx_PP 189 sx_K189 sx_c189 3000 = true := by decide +kernel
/-- R.isWord -/
def sx_c190 : List sx_T := []
set_option maxRecDepth 100000 in
theorem sx_k190 : sx_chk sx_PP 190 sx_K190 sx_c190 3000 = true := by decide +kernel
/-- R.has -/
def sx_c191 : List sx_T := []
set_option maxRecDepth 100000 in
theorem sx_k191 : sx_chk sx_PP 191 sx_K191 sx_c191 3000 = true := by decide +kernel
/-- R.betweenOf -/
def sx_c196 : List sx_T := []
set_option maxRecDepth 100000 in
theorem sx_k196 : sx_chk sx_PP 196 sx_K196 sx_c196 3000 = true := by decide +kernel
/-- R.isAskHere -/
def sx_c197 : List sx_T := []
set_option maxRecDepth 100000 in
theorem sx_k197 : sx_chk sx_PP 197 sx_K197 sx_c197 3000 = true := by decide +kernel
/-- R.openNow -/
def sx_c198 : List sx_T := [(7, [some (2, (63, [(0, 0)])), some (0, (0, [(1, 0)]))], [(-1, 159, [])], 1, [], [(0, [(1, 1)])], [0], (1, [(1, 0)]), (0, []))]
set_option maxRecDepth 100000 in
theorem sx_k198 : sx_chk sx_PP 198 sx_K198 sx_c198 3000 = true := by decide +kernel
/-- R.isCompared -/
def sx_c199 : List sx_T := [(7, [some (2, (63, [(0, 0)])), some (0, (0, [(1, 0)]))], [(-1, 159, [])], 1, [], [(0, [(1, 1)])], [0], (1, [(1, 0)]), (0, []))]
set_option maxRecDepth 100000 in
theorem sx_k199 : sx_chk sx_PP 199 sx_K199 sx_c199 3000 = true := by decide +kernel
/-- R.rank -/
def sx_c200 : List sx_T := []
set_option maxRecDepth 100000 in
theorem sx_k200 : sx_chk sx_PP 200 sx_K200 sx_c200 3000 = true := by decide +kernel
/-- R.compareOf -/
def sx_c201 : List sx_T := []
set_option maxRecDepth 100000 in
theorem sx_k201 : sx_chk sx_PP 201 sx_K201 sx_c201 3000 = true := by decide +kernel
/-- R.nameOf -/
def sx_c209 : List sx_T := []
set_option maxRecDepth 100000 in
theorem sx_k209 : sx_chk sx_PP 209 sx_K209 sx_c209 3000 = true := by decide +kernel
/-- R.isOf -/
def sx_c210 : List sx_T := []
set_option maxRecDepth 100000 in
theorem sx_k210 : sx_chk sx_PP 210 sx_K210 sx_c210 3000 = true := by decide +kernel
/-- R.isAskAhead -/
def sx_c211 : List sx_T := []
set_option maxRecDepth 100000 in
theorem sx_k211 : sx_chk sx_PP 211 sx_K211 sx_c211 3000 = true := by decide +kernel
/-- R.fault -/
def sx_c214 : List sx_T := []
set_option maxRecDepth 100000 in
theorem sx_k214 : sx_chk sx_PP 214 sx_K214 sx_c214 3000 = true := by decide +kernel
/-- R.by -/
def sx_c215 : List sx_T := []
set_option maxRecDepth 100000 in
theorem sx_k215 : sx_chk sx_PP 215 sx_K215 sx_c215 3000 = true := by decide +kernel
/-- R.undo -/
def sx_c216 : List sx_T := [(37, [some (2, (63, [(0, 0)])), some (0, (184, [(110, 1)])), some (0, (0, [(1, 0)]))], [(0, 5, []), (0, 29, [])], 2, [(0, 1100, (2, (21, [(0, 1)]))), (1, 20004, (0, (0, [(1, 1)])))], [(0, [(1, 2)]), (0, [(1, 4)])], [0, 11100], (113, [(-1, 0)]), (0, [])),
  (69, [some (2, (63, [(0, 0)])), some (0, (184, [(110, 1)])), some (0, (0, [(1, 0)]))], [(0, 8, []), (0, 29, [])], 2, [(0, 1100, (2, (21, [(0, 1)]))), (1, 20004, (0, (0, [(1, 1)])))], [(0, [(1, 2)]), (0, [(1, 4)])], [0, 11100], (106, [(-1, 0)]), (0, [])),
  (135, [some (2, (63, [(0, 0)])), some (0, (184, [(110, 1)])), some (0, (0, [(1, 0)]))], [(0, 96, []), (0, 29, [])], 2, [(0, 1100, (2, (21, [(0, 1)]))), (1, 20004, (0, (0, [(1, 1)])))], [(0, [(1, 2)]), (0, [(1, 4)])], [0, 11100], (96, [(-1, 0)]), (0, []))]
set_option maxRecDepth 100000 in
theorem sx_k216 : sx_chk sx_PP 216 sx_K216 sx_c216 3000 = true := by decide +kernel
/-- R.hour -/
def sx_c217 : List sx_T := []
set_option maxRecDepth 100000 in
theorem sx_k217 : sx_chk sx_PP 217 sx_K217 sx_c217 3000 = true := by decide +kernel
/-- R.arePassed -/
def sx_c218 : List sx_T := [(2, [some (2, (63, [(0, 0)])), some (0, (0, [(1, 0)])), some (0, (0, [(1, 1)]))], [(-2147483648, 9999, []), (0, 9999, [])], 1, [], [(0, [(1, 2)])], [0], (9999, [(-1, 1)]), (0, [(1, 1)]))]
set_option maxRecDepth 100000 in
theorem sx_k218 : sx_chk sx_PP 218 sx_K218 sx_c218 3000 = true := by decide +kernel
