/-- R.foretoldHeight -/
def sx_c275 : List sx_T := []
set_option maxRecDepth 100000 in
theorem sx_k275 : sx_chk sx_PP 275 sx_K275 sx_c275 3000 = true := by decide +kernel
/-- R.foretoldWind -/
def sx_c276 : List sx_T := []
set_option maxRecDepth 100000 in
theorem sx_k276 : sx_chk sx_PP 276 sx_K276 sx_c276 3000 = true := by decide +kernel
/-- R.drops -/
def sx_c277 : List sx_T := [(91, [some (2, (63, [(0, 0)])), some (0, (0, [(1, 0)])), some (0, (0, [(1, 1)])), some (0, (0, [(1, 2)])), some (0, (0, [(1, 3)])), some (0, (0, [(1, 4)])), some (0, (0, [(1, 5)]))], [(0, 5, []), (0, 3, []), (0, 1, []), (1, 1000, []), (0, 1000, []), (0, 1000, [(0, [(-1, 4), (1, 5)])])], 1, [], [(0, [(1, 4)]), (0, [(1, 5)]), (0, [(1, 6)])], [0], (1000, [(-1, 5)]), (0, [(3, 5)]))]
set_option maxRecDepth 100000 in
theorem sx_k277 : sx_chk sx_PP 277 sx_K277 sx_c277 3000 = true := by decide +kernel
/-- R.isDropping -/
def sx_c278 : List sx_T := [(13, [some (2, (63, [(0, 0)])), some (0, (0, [(1, 0)])), some (0, (0, [(1, 1)])), none, some (0, (0, [(1, 3)])), some (0, (0, [(1, 4)])), some (0, (0, [(1, 5)]))], [(0, 5, []), (0, 3, []), (0, 999, []), (0, 999, []), (0, 1, []), (0, 3, [])], 1, [], [(0, [(1, 4)]), (0, [(1, 5)]), (0, [(1, 6)])], [0], (3, [(-1, 5)]), (0, [(1, 5)]))]
set_option maxRecDepth 100000 in
theorem sx_k278 : sx_chk sx_PP 278 sx_K278 sx_c278 3000 = true := by decide +kernel
/-- R.common -/
def sx_c280 : List sx_T := [(6, [none, none, none, none, some (1, (0, [(1, 2)])), none, some (1, (0, [(1, 3)])), none, none, none], [(0, 1000, []), (1, 1000, []), (0, 1000, []), (0, 1000, [(-1, [(1, 2), (1, 3)])])], 0, [], [(0, [(1, 4)]), (0, [(1, 6)])], [], (0, [(1, 3)]), (0, []))]
set_option maxRecDepth 100000 in
theorem sx_k280 : sx_chk sx_PP 280 sx_K280 sx_c280 3000 = true := by decide +kernel
/-- R.hoists -/
def sx_c281 : List sx_T := [(72, [some (2, (63, [(0, 0)])), some (0, (0, [(1, 0)])), some (0, (0, [(1, 1)])), some (0, (0, [(1, 2)])), some (0, (0, [(1, 3)])), some (0, (0, [(1, 4)])), some (0, (0, [(1, 5)])), some (0, (0, [(1, 6)]))], [(0, 5, []), (1, 4, []), (-1, 3, []), (1, 6561, []), (-1, 6561, []), (-2147483648, 2147483647, []), (0, 6561, [])], 1, [], [(0, [(1, 4)]), (0, [(1, 5)]), (0, [(1, 6)]), (0, [(1, 7)])], [0], (6561, [(-1, 6)]), (0, [(4, 6)]))]
set_option maxRecDepth 100000 in
theorem sx_k281 : sx_chk sx_PP 281 sx_K281 sx_c281 3000 = true := by decide +kernel
/-- R.hoistsOf -/
def sx_c282 : List sx_T := [(5, [some (2, (63, [(0, 0)])), some (0, (0, [(1, 0)])), some (0, (0, [(1, 1)])), some (0, (0, [(1, 2)])), some (0, (0, [(1, 3)]))], [(0, 6560, []), (1, 4, []), (-2147483648, 2147483647, []), (0, 4, [])], 1, [], [(0, [(1, 3)]), (0, [(1, 4)])], [0], (4, [(-1, 3)]), (0, []))]
set_option maxRecDepth 100000 in
theorem sx_k282 : sx_chk sx_PP 282 sx_K282 sx_c282 3000 = true := by decide +kernel
/-- R.digitOf -/
def sx_c283 : List sx_T := [(8, [none, some (0, (0, [(1, 1)])), none, some (0, (0, [(1, 3)])), some (0, (0, [(1, 4)])), some (0, (0, [(1, 5)]))], [(0, 6561, []), (1, 9, []), (1, 4, []), (0, 3, []), (0, 6561, []), (0, 3, [])], 0, [], [(0, [(1, 4)]), (0, [(1, 5)])], [], (0, [(1, 5)]), (0, []))]
set_option maxRecDepth 100000 in
theorem sx_k283 : sx_chk sx_PP 283 sx_K283 sx_c283 3000 = true := by decide +kernel
/-- R.isHolding -/
def sx_c284 : List sx_T := [(7, [some (2, (63, [(0, 0)])), some (0, (0, [(1, 0)])), some (0, (0, [(1, 1)])), some (0, (0, [(1, 2)])), some (0, (0, [(1, 3)])), none], [(0, 5, []), (1, 4, []), (0, 6560, []), (0, 4, [])], 1, [], [(0, [(1, 4)])], [0], (4, [(-1, 3)]), (0, [(1, 3)]))]
set_option maxRecDepth 100000 in
theorem sx_k284 : sx_chk sx_PP 284 sx_K284 sx_c284 3000 = true := by decide +kernel
/-- R.peace -/
def sx_c285 : List sx_T := [(36, [some (2, (63, [(0, 0)])), some (0, (0, [(1, 0)])), some (0, (0, [(1, 1)])), some (0, (0, [(1, 2)])), some (0, (0, [(1, 3)])), some (0, (0, [(1, 4)])), some (0, (0, [(1, 5)])), none], [(0, 5, []), (-2147483648, 2147483647, []), (-2147483648, 2147483647, []), (0, 1, []), (0, 1, []), (0, 8, [])], 1, [], [(0, [(1, 2)]), (0, [(1, 3)]), (0, [(1, 4)]), (0, [(1, 5)]), (0, [(1, 6)])], [0], (8, [(-1, 5)]), (0, []))]
set_option maxRecDepth 100000 in
theorem sx_k285 : sx_chk sx_PP 285 sx_K285 sx_c285 3000 = true := by decide +kernel
/-- R.isOther -/
def sx_c286 : List sx_T := [(3, [some (2, (63, [(0, 0)])), some (0, (0, [(1, 0)])), some (0, (0, [(1, 1)])), some (0, (0, [(1, 2)])), some (0, (0, [(1, 3)]))], [(0, 5, []), (0, 7, []), (-2147483648, 2147483647, []), (0, 6, [])], 1, [], [(0, [(1, 4)])], [0], (6, [(-1, 3)]), (0, []))]
set_option maxRecDepth 100000 in
theorem sx_k286 : sx_chk sx_PP 286 sx_K286 sx_c286 3000 = true := by decide +kernel
/-- R.strings -/
def sx_c287 : List sx_T := [(14, [some (2, (63, [(0, 0)])), some (0, (0, [(1, 0)])), some (0, (0, [(1, 1)])), some (0, (0, [(1, 2)]))], [(0, 7, []), (-1, 2147483646, []), (0, 2147483647, [])], 1, [], [(0, [(1, 2)]), (0, [(1, 3)])], [0], (2147483647, [(-1, 2)]), (0, []))]
set_option maxRecDepth 100000 in
theorem sx_k287 : sx_chk sx_PP 287 sx_K287 sx_c287 3000 = true := by decide +kernel
/-- R.marks -/
def sx_c288 : List sx_T := [(24, [some (2, (63, [(0, 0)])), some (0, (0, [(1, 0)])), some (0, (0, [(1, 1)])), some (0, (0, [(1, 2)]))], [(1, 63, []), (-1, 511, []), (0, 512, [])], 1, [], [(0, [(1, 2)]), (0, [(1, 3)])], [0], (512, [(-1, 2)]), (0, []))]
set_option maxRecDepth 100000 in
theorem sx_k288 : sx_chk sx_PP 288 sx_K288 sx_c288 3000 = true := by decide +kernel
/-- R.areUnlike -/
def sx_c289 : List sx_T := [(2, [some (2, (63, [(0, 0)])), some (0, (0, [(1, 0)])), some (0, (0, [(1, 1)])), some (0, (0, [(1, 2)])), none], [(1, 63, []), (0, 511, []), (0, 6, [])], 1, [], [(0, [(1, 3)])], [0], (62, [(-9, 2)]), (0, [])),
  (15, [some (2, (63, [(0, 0)])), some (0, (0, [(1, 0)])), some (0, (0, [(1, 1)])), some (0, (0, [(1, 2)])), some (0, (0, [(1, 3)]))], [(1, 63, []), (0, 511, []), (0, 5, []), (0, 5, [])], 1, [], [(0, [(1, 3)]), (0, [(1, 4)])], [0], (59, [(-9, 2), (-1, 3)]), (0, []))]
set_option maxRecDepth 100000 in
theorem sx_k289 : sx_chk sx_PP 289 sx_K289 sx_c289 3000 = true := by decide +kernel
/-- R.behind -/
def sx_c290 : List sx_T := [(2, [some (2, (63, [(0, 0)])), some (0, (0, [(1, 0)])), some (0, (0, [(1, 1)]))], [(-2147483648, 2147483647, []), (0, 6, [])], 1, [], [(0, [(1, 2)])], [0], (6, [(-1, 1)]), (0, []))]
set_option maxRecDepth 100000 in
theorem sx_k290 : sx_chk sx_PP 290 sx_K290 sx_c290 3000 = true := by decide +kernel
/-- R.turned -/
def sx_c291 : List sx_T := [(4, [some (0, (0, [(1, 0)])), some (0, (0, [(1, 1)])), some (0, (0, [(1, 2)]))], [(0, 511, []), (0, 2147483647, []), (0, 9, [])], 0, [], [(0, [(1, 1)]), (0, [(1, 2)])], [], (9, [(-1, 2)]), (0, []))]
set_option maxRecDepth 100000 in
theorem sx_k291 : sx_chk sx_PP 291 sx_K291 sx_c291 3000 = true := by decide +kernel
/-- R.afar -/
def sx_c292 : List sx_T := [(4, [some (2, (63, [(0, 0)])), some (0, (0, [(1, 0)])), some (0, (0, [(1, 1)])), none, none, none], [(-2147483648, 2147483647, []), (0, 6, [])], 1, [], [(0, [(1, 1)]), (0, [(1, 2)])], [0], (650, [(-93, 1)]), (0, [])),
  (16, [some (2, (63, [(0, 0)])), some (0, (0, [(1, 0)])), some (0, (0, [(1, 1)])), some (0, (0, [(1, 2)])), none, none], [(-2147483648, 2147483647, []), (0, 5, []), (0, 5, [])], 1, [], [(0, [(1, 1)]), (0, [(1, 2)]), (0, [(1, 3)])], [0], (647, [(-93, 1), (-15, 2)]), (0, [])),
  (27, [some (2, (63, [(0, 0)])), some (0, (0, [(1, 0)])), some (0, (0, [(1, 1)])), some (0, (0, [(1, 2)])), some (0, (0, [(1, 3)])), some (0, (0, [(1, 4)]))], [(-2147483648, 2147483647, []), (1, 5, []), (0, 4, []), (0, 1, []), (0, 11, [])], 1, [], [(0, [(1, 1)]), (0, [(1, 2)]), (0, [(1, 3)]), (0, [(1, 4)]), (0, [(1, 5)])], [0], (644, [(-93, 1), (-15, 2), (-1, 4)]), (0, []))]
set_option maxRecDepth 100000 in
theorem sx_k292 : sx_chk sx_PP 292 sx_K292 sx_c292 3000 = true := by decide +kernel
/-- R.might -/
def sx_c293 : List sx_T := []
set_option maxRecDepth 100000 in
theorem sx_k293 : sx_chk sx_PP 293 sx_K293 sx_c293 3000 = true := by decide +kernel
/-- R.veto -/
def sx_c297 : List sx_T := [(16, [some (2, (63, [(0, 0)])), some (0, (0, [(1, 0)])), some (0, (0, [(1, 1)])), some (0, (0, [(1, 2)])), none], [(1, 99, []), (-2147483648, 2147483647, []), (0, 6, [])], 1, [], [(0, [(1, 2)]), (0, [(1, 3)])], [0], (14, [(-1, 2)]), (0, [])),
  (45, [some (2, (63, [(0, 0)])), some (0, (0, [(1, 0)])), some (0, (0, [(1, 1)])), some (0, (0, [(1, 2)])), some (0, (0, [(1, 3)]))], [(1, 99, []), (-2147483648, 2147483647, []), (0, 63, []), (0, 6, [])], 1, [], [(0, [(1, 2)]), (0, [(1, 3)]), (0, [(1, 4)])], [0], (6, [(-1, 3)]), (0, []))]
set_option maxRecDepth 100000 in
theorem sx_k297 : sx_chk sx_PP 297 sx_K297 sx_c297 3000 = true := by decide +kernel
/-- R.shares -/
def sx_c298 : List sx_T := [(43, [some (2, (63, [(0, 0)])), some (0, (0, [(1, 0)])), none, some (0, (0, [(1, 2)])), some (0, (0, [(1, 3)])), some (0, (0, [(1, 4)])), none, none, none, none], [(0, 5, []), (1, 99, []), (0, 9999, []), (0, 4320, []), (0, 6, [(0, [(-1, 3), (720, 4)])])], 1, [], [(0, [(1, 4)]), (0, [(1, 5)])], [0], (19327352847, [(-1, 4)]), (0, [])),
  (88, [some (2, (63, [(0, 0)])), some (0, (0, [(1, 0)])), none, some (0, (0, [(1, 2)])), some (0, (0, [(1, 3)])), some (0, (0, [(1, 4)])), some (0, (0, [(1, 5)])), some (0, (0, [(1, 6)])), none, none], [(0, 5, []), (1, 99, []), (0, 9999, []), (1, 5700, []), (-2147483648, 2147483647, []), (0, 2147483646, []), (0, 6, [])], 1, [], [(0, [(1, 4)]), (0, [(1, 5)]), (0, [(1, 6)]), (0, [(1, 7)])], [0], (19327352839, [(-1, 6)]), (0, [])),
  (163, [some (2, (63, [(0, 0)])), some (0, (0, [(1, 0)])), none, none, none, some (0, (0, [(1, 3)])), some (0, (0, [(1, 4)])), some (0, (0, [(1, 5)])), none, none], [(0, 5, []), (1, 99, []), (0, 9999, []), (-2147483648, 2147483647, []), (-2147483648, 2147483647, []), (0, 2147483647, [])], 1, [], [(0, [(1, 5)]), (0, [(1, 6)]), (0, [(1, 7)])], [0], (19327352831, [(-9, 5)]), (0, [])),
  (176, [some (2, (63, [(0, 0)])), some (0, (0, [(1, 0)])), none, none, none, some (0, (0, [(1, 3)])), some (0, (0, [(1, 4)])), some (0, (0, [(1, 5)])), some (0, (0, [(1, 6)])), some (0, (0, [(1, 7)]))], [(0, 5, []), (1, 99, []), (0, 9999, []), (1, 2147483647, []), (-2147483648, 2147483647, []), (0, 2147483646, []), (0, 5, []), (1, 6, [])], 1, [], [(0, [(1, 5)]), (0, [(1, 6)]), (0, [(1, 7)]), (0, [(1, 8)]), (0, [(1, 9)])], [0], (19327352829, [(-9, 5), (-1, 7)]), (0, []))]
set_option maxRecDepth 100000 in
theorem sx_k298 : sx_chk sx_PP 298 sx_K298 sx_c298 3000 = true := by decide +kernel
/-- R.found -/
def sx_c300 : List sx_T := []
set_option maxRecDepth 100000 in
theorem sx_k300 : sx_chk sx_PP 300 sx_K300 sx_c300 3000 = true := by decide +kernel
/-- R.rhythms -/
def sx_c301 : List sx_T := [(22, [some (2, (63, [(0, 0)])), none, some (0, (0, [(1, 1)])), some (0, (0, [(1, 2)])), some (0, (0, [(1, 3)])), some (0, (0, [(1, 4)])), none], [(1, 1, []), (-2147483648, 2147483647, []), (-1, 99, []), (-2147483648, 1000000000, []), (0, 100, [])], 1, [], [(0, [(1, 2)]), (0, [(1, 3)]), (0, [(1, 4)]), (0, [(1, 5)])], [0], (100, [(-1, 4)]), (0, []))]
set_option maxRecDepth 100000 in
theorem sx_k301 : sx_chk sx_PP 301 sx_K301 sx_c301 3000 = true := by decide +kernel
/-- R.rhythmsOf -/
def sx_c302 : List sx_T := [(4, [some (2, (63, [(0, 0)])), some (0, (0, [(1, 0)])), some (0, (0, [(1, 1)])), some (0, (0, [(1, 2)])), none], [(-1, 99, []), (-2147483648, 2147483647, []), (1, 21, [])], 1, [], [(0, [(1, 2)]), (0, [(1, 3)])], [0], (527, [(-24, 2)]), (0, [])),
  (13, [some (2, (63, [(0, 0)])), some (0, (0, [(1, 0)])), some (0, (0, [(1, 1)])), some (0, (0, [(1, 2)])), some (0, (0, [(1, 3)]))], [(-1, 99, []), (-2147483648, 2147483647, []), (1, 20, []), (0, 20, [])], 1, [], [(0, [(1, 2)]), (0, [(1, 3)]), (0, [(1, 4)])], [0], (524, [(-24, 2), (-1, 3)]), (0, []))]
set_option maxRecDepth 100000 in
theorem sx_k302 : sx_chk sx_PP 302 sx_K302 sx_c302 3000 = true := by decide +kernel
/-- R.isRhythm -/
def sx_c303 : List sx_T := [(2, [some (2, (63, [(0, 0)])), some (0, (0, [(1, 0)])), some (0, (0, [(1, 1)])), some (0, (0, [(1, 2)]))], [(1, 20, []), (0, 19, []), (0, 8, [])], 1, [], [(0, [(1, 3)])], [0], (8, [(-1, 2)]), (0, []))]
set_option maxRecDepth 100000 in
theorem sx_k303 : sx_chk sx_PP 303 sx_K303 sx_c303 3000 = true := by decide +kernel
/-- R.isFound -/
def sx_c305 : List sx_T := [(2, [some (2, (63, [(0, 0)])), some (0, (0, [(1, 0)])), some (0, (0, [(1, 1)]))], [(0, 99, []), (0, 8, [])], 1, [], [(0, [(1, 2)])], [0], (8, [(-1, 1)]), (0, []))]
set_option maxRecDepth 100000 in
theorem sx_k305 : sx_chk sx_PP 305 sx_K305 sx_c305 3000 = true := by decide +kernel
/-- R.ahead -/
def sx_c306 : List sx_T := []
set_option maxRecDepth 100000 in
theorem sx_k306 : sx_chk sx_PP 306 sx_K306 sx_c306 3000 = true := by decide +kernel
/-- R.orders -/
def sx_c307 : List sx_T := []
set_option maxRecDepth 100000 in
theorem sx_k307 : sx_chk sx_PP 307 sx_K307 sx_c307 3000 = true := by decide +kernel
/-- R.image -/
def sx_c312 : List sx_T := []
set_option maxRecDepth 100000 in
theorem sx_k312 : sx_chk sx_PP 312 sx_K312 sx_c312 3000 = true := by decide +kernel
/-- R.back -/
def sx_c313 : List sx_T := []
set_option maxRecDepth 100000 in
theorem sx_k313 : sx_chk sx_PP 313 sx_K313 sx_c313 3000 = true := by decide +kernel
/-- R.about -/
def sx_c314 : List sx_T := []
set_option maxRecDepth 100000 in
theorem sx_k314 : sx_chk sx_PP 314 sx_K314 sx_c314 3000 = true := by decide +kernel
