/-- F.pole -/
def sx_c12 : List sx_T := []
set_option maxRecDepth 100000 in
theorem sx_k12 : sx_chk sx_PP 12 sx_K12 sx_c12 3000 = true := by decide +kernel
/-- Forest.plant -/
def sx_c13 : List sx_T := []
set_option maxRecDepth 100000 in
theorem sx_k13 : sx_chk sx_PP 13 sx_K13 sx_c13 3000 = true := by decide +kernel
/-- F.power -/
def sx_c14 : List sx_T := []
set_option maxRecDepth 100000 in
theorem sx_k14 : sx_chk sx_PP 14 sx_K14 sx_c14 3000 = true := by decide +kernel
/-- Forest.adm_it -/
def sx_c15 : List sx_T := []
set_option maxRecDepth 100000 in
theorem sx_k15 : sx_chk sx_PP 15 sx_K15 sx_c15 3000 = true := by decide +kernel
/-- F.feed -/
def sx_c16 : List sx_T := []
set_option maxRecDepth 100000 in
theorem sx_k16 : sx_chk sx_PP 16 sx_K16 sx_c16 3000 = true := by decide +kernel
/-- Tape.append -/
def sx_c17 : List sx_T := [(3, [some (2, (56, [(0, 0)])), some (0, (0, [(1, 0)])), some (0, (0, [(1, 1)]))], [(-2147483648, 2147483647, []), (-8, 24, [])], 1, [], [(0, [(1, 2)])], [0], (8, [(1, 1)]), (0, []))]
set_option maxRecDepth 100000 in
theorem sx_k17 : sx_chk sx_PP 17 sx_K17 sx_c17 3000 = true := by decide +kernel
/-- F.end -/
def sx_c18 : List sx_T := []
set_option maxRecDepth 100000 in
theorem sx_k18 : sx_chk sx_PP 18 sx_K18 sx_c18 3000 = true := by decide +kernel
/-- F.text -/
def sx_c19 : List sx_T := []
set_option maxRecDepth 100000 in
theorem sx_k19 : sx_chk sx_PP 19 sx_K19 sx_c19 3000 = true := by decide +kernel
/-- Reader.readInto -/
def sx_c20 : List sx_T := [(43, [some (2, (58, [(0, 0)])), none, some (0, (0, [(1, 0)]))], [(0, 301, [])], 1, [], [(0, [(1, 2)])], [0], (301, [(-1, 0)]), (0, []))]
set_option maxRecDepth 100000 in
theorem sx_k20 : sx_chk sx_PP 20 sx_K20 sx_c20 3000 = true := by decide +kernel
/-- Text.empty -/
def sx_c21 : List sx_T := [(12, [some (2, (27, [(0, 0)])), some (0, (0, [(1, 0)]))], [(0, 3, [])], 1, [], [(0, [(1, 1)])], [0], (3, [(-1, 0)]), (0, []))]
set_option maxRecDepth 100000 in
theorem sx_k21 : sx_chk sx_PP 21 sx_K21 sx_c21 3000 = true := by decide +kernel
/-- Tape.advance -/
def sx_c23 : List sx_T := [(0, [some (2, (56, [(0, 0)]))], [(0, 300, [])], 1, [(0, 805, (0, (0, [(1, 0)])))], [(0, [(1, 1)])], [0], (306, [(-1, 0)]), (0, [])),
  (52, [some (2, (56, [(0, 0)]))], [], 1, [], [], [0], (4, []), (0, [])),
  (119, [some (2, (56, [(0, 0)]))], [(0, 299, [])], 1, [(0, 805, (0, (0, [(1, 0)])))], [(0, [(1, 1)])], [0], (2, []), (0, [])),
  (141, [some (2, (56, [(0, 0)]))], [(0, 299, [])], 1, [(0, 805, (0, (0, [(1, 0)])))], [(0, [(1, 1)])], [0], (0, []), (0, []))]
set_option maxRecDepth 100000 in
theorem sx_k23 : sx_chk sx_PP 23 sx_K23 sx_c23 3000 = true := by decide +kernel
/-- Tape.isLetter -/
def sx_c24 : List sx_T := []
set_option maxRecDepth 100000 in
theorem sx_k24 : sx_chk sx_PP 24 sx_K24 sx_c24 3000 = true := by decide +kernel
/-- Tape.passLetters -/
def sx_c25 : List sx_T := [(0, [some (2, (56, [(0, 0)]))], [(0, 300, [])], 1, [(0, 805, (0, (0, [(1, 0)])))], [(0, [(1, 1)])], [0], (300, [(-1, 0)]), (0, []))]
set_option maxRecDepth 100000 in
theorem sx_k25 : sx_chk sx_PP 25 sx_K25 sx_c25 3000 = true := by decide +kernel
/-- Tape.numberOfWord -/
def sx_c26 : List sx_T := [(12, [some (2, (56, [(0, 0)])), some (0, (0, [(1, 0)])), some (0, (0, [(1, 1)])), some (0, (0, [(1, 2)])), some (0, (0, [(1, 3)])), none], [(-2147483648, 2147483647, []), (0, 427, []), (0, 1, []), (0, 127, [(300, [(-1, 1), (1, 3)])])], 1, [], [(0, [(1, 1)]), (0, [(1, 2)]), (0, [(1, 3)]), (0, [(1, 4)])], [0], (127, [(-1, 3)]), (0, []))]
set_option maxRecDepth 100000 in
theorem sx_k26 : sx_chk sx_PP 26 sx_K26 sx_c26 3000 = true := by decide +kernel
/-- Tape.isDigit -/
def sx_c27 : List sx_T := []
set_option maxRecDepth 100000 in
theorem sx_k27 : sx_chk sx_PP 27 sx_K27 sx_c27 3000 = true := by decide +kernel
/-- Tape.takeNumber -/
def sx_c28 : List sx_T := [(2, [some (2, (56, [(0, 0)])), some (0, (0, [(1, 0)]))], [(-2147483648, 10000, []), (0, 300, [])], 1, [(0, 805, (0, (0, [(1, 1)])))], [(0, [(1, 1)]), (0, [(1, 2)])], [0], (300, [(-1, 1)]), (0, []))]
set_option maxRecDepth 100000 in
theorem sx_k28 : sx_chk sx_PP 28 sx_K28 sx_c28 3000 = true := by decide +kernel
/-- Reader.readClause -/
def sx_c30 : List sx_T := []
set_option maxRecDepth 100000 in
theorem sx_k30 : sx_chk sx_PP 30 sx_K30 sx_c30 3000 = true := by decide +kernel
/-- Reader.readLaw -/
def sx_c33 : List sx_T := [(55, [some (2, (58, [(0, 0)])), none, some (0, (0, [(1, 1)]))], [(0, 2, []), (0, 301, [])], 1, [], [(0, [(1, 2)])], [0], (301, [(-1, 1)]), (0, []))]
set_option maxRecDepth 100000 in
theorem sx_k33 : sx_chk sx_PP 33 sx_K33 sx_c33 3000 = true := by decide +kernel
/-- Reader.takeOne -/
def sx_c35 : List sx_T := []
set_option maxRecDepth 100000 in
theorem sx_k35 : sx_chk sx_PP 35 sx_K35 sx_c35 3000 = true := by decide +kernel
/-- Reader.takeWord -/
def sx_c37 : List sx_T := []
set_option maxRecDepth 100000 in
theorem sx_k37 : sx_chk sx_PP 37 sx_K37 sx_c37 3000 = true := by decide +kernel
/-- Reader.openUp -/
def sx_c38 : List sx_T := []
set_option maxRecDepth 100000 in
theorem sx_k38 : sx_chk sx_PP 38 sx_K38 sx_c38 3000 = true := by decide +kernel
/-- Reader.takeSign -/
def sx_c41 : List sx_T := [(31, [some (2, (58, [(0, 0)])), some (0, (0, [(1, 0)])), some (0, (0, [(1, 1)])), some (0, (0, [(1, 2)]))], [(-2147483648, 2147483647, []), (0, 1, []), (0, 7, [])], 1, [], [(0, [(1, 1)]), (0, [(1, 2)]), (0, [(1, 3)])], [0], (14, []), (0, [])),
  (60, [some (2, (58, [(0, 0)])), some (0, (0, [(1, 0)])), some (0, (0, [(1, 1)])), some (0, (0, [(1, 2)]))], [(-2147483648, 2147483647, []), (0, 1, []), (0, 7, [])], 1, [], [(0, [(1, 1)]), (0, [(1, 2)]), (0, [(1, 3)])], [0], (12, []), (0, [])),
  (91, [some (2, (58, [(0, 0)])), some (0, (0, [(1, 0)])), some (0, (0, [(1, 1)])), some (0, (0, [(1, 2)]))], [(-2147483648, 2147483647, []), (0, 1, []), (0, 7, [])], 1, [], [(0, [(1, 1)]), (0, [(1, 2)]), (0, [(1, 3)])], [0], (10, []), (0, [])),
  (126, [some (2, (58, [(0, 0)])), some (0, (0, [(1, 0)])), some (0, (0, [(1, 1)])), some (0, (0, [(1, 2)]))], [(-2147483648, 2147483647, []), (0, 1, []), (0, 7, [])], 1, [], [(0, [(1, 1)]), (0, [(1, 2)]), (0, [(1, 3)])], [0], (8, []), (0, [])),
  (162, [some (2, (58, [(0, 0)])), some (0, (0, [(1, 0)])), none, none], [(-2147483648, 2147483647, [])], 1, [], [(0, [(1, 1)])], [0], (6, []), (0, [])),
  (182, [some (2, (58, [(0, 0)])), some (0, (0, [(1, 0)])), none, none], [(-2147483648, 2147483647, [])], 1, [], [(0, [(1, 1)])], [0], (4, []), (0, [])),
  (217, [some (2, (58, [(0, 0)])), some (0, (0, [(1, 0)])), none, none], [(-2147483648, 2147483647, [])], 1, [], [(0, [(1, 1)])], [0], (2, []), (0, [])),
  (258, [some (2, (58, [(0, 0)])), none, none, none], [], 1, [], [], [0], (0, []), (0, []))]
set_option maxRecDepth 100000 in
theorem sx_k41 : sx_chk sx_PP 41 sx_K41 sx_c41 3000 = true := by decide +kernel
/-- Reader.signHere -/
def sx_c42 : List sx_T := []
set_option maxRecDepth 100000 in
theorem sx_k42 : sx_chk sx_PP 42 sx_K42 sx_c42 3000 = true := by decide +kernel
/-- Reader.rankOf -/
def sx_c43 : List sx_T := []
set_option maxRecDepth 100000 in
theorem sx_k43 : sx_chk sx_PP 43 sx_K43 sx_c43 3000 = true := by decide +kernel
/-- Reader.joinBy -/
def sx_c44 : List sx_T := []
set_option maxRecDepth 100000 in
theorem sx_k44 : sx_chk sx_PP 44 sx_K44 sx_c44 3000 = true := by decide +kernel
/-- Reader.joinWaiting -/
def sx_c45 : List sx_T := [(0, [some (2, (58, [(0, 0)])), some (0, (0, [(1, 0)])), none], [(1, 6, []), (0, 40, [])], 1, [(0, 908, (0, (0, [(1, 1)])))], [(0, [(1, 3)])], [0], (0, [(1, 1)]), (0, []))]
set_option maxRecDepth 100000 in
theorem sx_k45 : sx_chk sx_PP 45 sx_K45 sx_c45 3000 = true := by decide +kernel
/-- Reader.close -/
def sx_c46 : List sx_T := []
set_option maxRecDepth 100000 in
theorem sx_k46 : sx_chk sx_PP 46 sx_K46 sx_c46 3000 = true := by decide +kernel
/-- Reader.readDeed -/
def sx_c51 : List sx_T := []
set_option maxRecDepth 100000 in
theorem sx_k51 : sx_chk sx_PP 51 sx_K51 sx_c51 3000 = true := by decide +kernel
/-- Reader.readNumber -/
def sx_c52 : List sx_T := []
set_option maxRecDepth 100000 in
theorem sx_k52 : sx_chk sx_PP 52 sx_K52 sx_c52 3000 = true := by decide +kernel
/-- Reader.readToken -/
def sx_c53 : List sx_T := []
set_option maxRecDepth 100000 in
theorem sx_k53 : sx_chk sx_PP 53 sx_K53 sx_c53 3000 = true := by decide +kernel
/-- F.fault -/
def sx_c54 : List sx_T := []
set_option maxRecDepth 100000 in
theorem sx_k54 : sx_chk sx_PP 54 sx_K54 sx_c54 3000 = true := by decide +kernel
/-- F.by -/
def sx_c55 : List sx_T := []
set_option maxRecDepth 100000 in
theorem sx_k55 : sx_chk sx_PP 55 sx_K55 sx_c55 3000 = true := by decide +kernel
/-- F.hour -/
def sx_c57 : List sx_T := []
set_option maxRecDepth 100000 in
theorem sx_k57 : sx_chk sx_PP 57 sx_K57 sx_c57 3000 = true := by decide +kernel
/-- State.stepHours -/
def sx_c58 : List sx_T := [(18, [some (2, (34, [(0, 0)])), some (0, (0, [(1, 0)])), some (0, (0, [(1, 1)])), some (0, (0, [(1, 2)]))], [(-2147483648, 2147483647, []), (-2147483648, 2147483647, []), (0, 2147483647, [])], 1, [], [(0, [(1, 2)]), (0, [(1, 3)])], [0], (2147483647, [(-1, 2)]), (0, []))]
set_option maxRecDepth 100000 in
theorem sx_k58 : sx_chk sx_PP 58 sx_K58 sx_c58 3000 = true := by decide +kernel
/-- Steps.keep -/
def sx_c60 : List sx_T := []
set_option maxRecDepth 100000 in
theorem sx_k60 : sx_chk sx_PP 60 sx_K60 sx_c60 3000 = true := by decide +kernel
/-- Forest.pass -/
def sx_c63 : List sx_T := [(2, [some (2, (35, [(0, 0)])), some (2, (27, [(0, 1)])), some (0, (0, [(1, 0)])), none, none, none], [(0, 8, [])], 2, [], [(0, [(1, 2)])], [0, 1], (89, [(-10, 0)]), (0, [])),
  (12, [some (2, (35, [(0, 0)])), some (2, (27, [(0, 1)])), some (0, (0, [(1, 0)])), some (0, (0, [(1, 1)])), none, none], [(0, 7, []), (0, 6, [])], 2, [], [(0, [(1, 2)]), (0, [(1, 3)])], [0, 1], (86, [(-10, 0), (-1, 1)]), (0, []))]
set_option maxRecDepth 100000 in
theorem sx_k63 : sx_chk sx_PP 63 sx_K63 sx_c63 3000 = true := by decide +kernel
