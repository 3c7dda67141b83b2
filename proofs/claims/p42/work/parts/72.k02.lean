/-- F.is -/
def sx_c102 : List sx_T := []
set_option maxRecDepth 100000 in
theorem sx_k102 : sx_chk sx_PP 102 sx_K102 sx_c102 3000 = true := by decide +kernel
/-- F.book -/
def sx_c103 : List sx_T := []
set_option maxRecDepth 100000 in
theorem sx_k103 : sx_chk sx_PP 103 sx_K103 sx_c103 3000 = true := by decide +kernel
/-- F.foretold -/
def sx_c104 : List sx_T := []
set_option maxRecDepth 100000 in
theorem sx_k104 : sx_chk sx_PP 104 sx_K104 sx_c104 3000 = true := by decide +kernel
/-- Lookout.foretell -/
def sx_c105 : List sx_T := [(15, [some (2, (60, [(0, 0)])), some (2, (34, [(0, 1)])), some (0, (0, [(1, 0)])), some (0, (0, [(1, 1)]))], [(1, 60, []), (0, 60, [])], 2, [], [(0, [(1, 3)])], [0, 1], (60, [(-1, 1)]), (0, []))]
set_option maxRecDepth 100000 in
theorem sx_k105 : sx_chk sx_PP 105 sx_K105 sx_c105 3000 = true := by decide +kernel
/-- Forest.copyFrom -/
def sx_c106 : List sx_T := []
set_option maxRecDepth 100000 in
theorem sx_k106 : sx_chk sx_PP 106 sx_K106 sx_c106 3000 = true := by decide +kernel
/-- Forest.momentFrom -/
def sx_c107 : List sx_T := []
set_option maxRecDepth 100000 in
theorem sx_k107 : sx_chk sx_PP 107 sx_K107 sx_c107 3000 = true := by decide +kernel
/-- F.foretoldHeight -/
def sx_c108 : List sx_T := []
set_option maxRecDepth 100000 in
theorem sx_k108 : sx_chk sx_PP 108 sx_K108 sx_c108 3000 = true := by decide +kernel
/-- F.foretoldWind -/
def sx_c109 : List sx_T := []
set_option maxRecDepth 100000 in
theorem sx_k109 : sx_chk sx_PP 109 sx_K109 sx_c109 3000 = true := by decide +kernel
/-- F.heldFor -/
def sx_c110 : List sx_T := []
set_option maxRecDepth 100000 in
theorem sx_k110 : sx_chk sx_PP 110 sx_K110 sx_c110 3000 = true := by decide +kernel
/-- Book.hoursOf -/
def sx_c111 : List sx_T := [(5, [some (2, (43, [(0, 0)])), some (0, (0, [(1, 0)])), some (0, (0, [(1, 1)])), some (0, (0, [(1, 2)])), some (0, (0, [(1, 3)])), none], [(-1, 5, []), (-2147483648, 2147483647, []), (-2147483648, 2147483647, []), (0, 40, [])], 1, [], [(0, [(1, 3)]), (0, [(1, 4)])], [0], (40, [(-1, 3)]), (0, []))]
set_option maxRecDepth 100000 in
theorem sx_k111 : sx_chk sx_PP 111 sx_K111 sx_c111 3000 = true := by decide +kernel
/-- F.nearest -/
def sx_c112 : List sx_T := []
set_option maxRecDepth 100000 in
theorem sx_k112 : sx_chk sx_PP 112 sx_K112 sx_c112 3000 = true := by decide +kernel
/-- Forest.neighbour -/
def sx_c113 : List sx_T := [(8, [some (2, (35, [(0, 0)])), some (0, (0, [(1, 0)])), some (0, (0, [(1, 1)])), some (0, (0, [(1, 2)])), some (0, (0, [(1, 3)])), none], [(0, 7, []), (-1, 7, []), (0, 100, []), (0, 8, [])], 1, [], [(0, [(1, 2)]), (0, [(1, 3)]), (0, [(1, 4)])], [0], (8, [(-1, 3)]), (0, []))]
set_option maxRecDepth 100000 in
theorem sx_k113 : sx_chk sx_PP 113 sx_K113 sx_c113 3000 = true := by decide +kernel
/-- F.drops -/
def sx_c114 : List sx_T := [(33, [some (2, (24, [(0, 0)])), some (0, (0, [(1, 0)])), some (0, (0, [(1, 1)])), some (0, (0, [(1, 2)])), some (0, (0, [(1, 3)])), some (0, (0, [(1, 4)]))], [(0, 5, []), (0, 3, []), (0, 1, []), (-2147483648, 2147483647, []), (0, 3, [])], 1, [], [(0, [(1, 4)]), (0, [(1, 5)])], [0], (3, [(-1, 4)]), (0, []))]
set_option maxRecDepth 100000 in
theorem sx_k114 : sx_chk sx_PP 114 sx_K114 sx_c114 3000 = true := by decide +kernel
/-- Lookout.dropsHeldBy -/
def sx_c115 : List sx_T := [(31, [some (2, (60, [(0, 0)])), some (2, (34, [(0, 1)])), some (0, (0, [(1, 0)])), some (0, (0, [(1, 1)])), some (0, (0, [(1, 2)])), some (0, (0, [(1, 3)]))], [(0, 5, []), (0, 3, []), (-2147483648, 2147483647, []), (0, 3, [])], 2, [], [(0, [(1, 5)])], [0, 1], (3, [(-1, 3)]), (0, []))]
set_option maxRecDepth 100000 in
theorem sx_k115 : sx_chk sx_PP 115 sx_K115 sx_c115 3000 = true := by decide +kernel
/-- Lookout.tryWinds -/
def sx_c116 : List sx_T := [(58, [some (2, (60, [(0, 0)])), some (2, (27, [(0, 1)])), some (0, (0, [(1, 0)])), some (0, (0, [(1, 1)])), some (0, (0, [(1, 2)])), none, some (2, (35, [(0, 2)])), some (0, (0, [(1, 4)])), some (0, (0, [(1, 5)]))], [(0, 5, []), (1, 3, []), (0, 2, []), (-2147483648, 2147483647, []), (-2147483648, 2147483647, []), (1, 10, [])], 3, [], [(0, [(1, 7)]), (0, [(1, 8)])], [0, 1, 6], (10, [(-1, 5)]), (0, []))]
set_option maxRecDepth 100000 in
theorem sx_k116 : sx_chk sx_PP 116 sx_K116 sx_c116 3000 = true := by decide +kernel
/-- F.inLowestTerms -/
def sx_c117 : List sx_T := [(8, [some (0, (0, [(1, 0)])), some (0, (0, [(1, 1)])), some (0, (0, [(1, 2)])), some (0, (0, [(1, 3)])), some (0, (0, [(1, 4)])), some (0, (0, [(1, 5)])), none], [(-2147483648, 2147483647, []), (-2147483648, 2147483647, []), (0, 1, []), (-2147483648, 2147483647, []), (-2147483648, 2147483647, []), (0, 64, [])], 0, [], [(0, [(1, 3)]), (0, [(1, 4)]), (0, [(1, 5)])], [], (64, [(-1, 5)]), (0, []))]
set_option maxRecDepth 100000 in
theorem sx_k117 : sx_chk sx_PP 117 sx_K117 sx_c117 3000 = true := by decide +kernel
/-- F.hoists -/
def sx_c118 : List sx_T := []
set_option maxRecDepth 100000 in
theorem sx_k118 : sx_chk sx_PP 118 sx_K118 sx_c118 3000 = true := by decide +kernel
/-- Lookout.fewestHoists -/
def sx_c119 : List sx_T := [(3, [some (2, (60, [(0, 0)])), some (2, (34, [(0, 1)])), some (0, (0, [(1, 0)])), some (0, (0, [(1, 1)])), some (0, (0, [(1, 2)]))], [(0, 5, []), (1, 4, []), (0, 5, [])], 2, [], [(0, [(1, 4)])], [0, 1], (12, [(-1, 2)]), (0, [])),
  (32, [some (2, (60, [(0, 0)])), some (2, (34, [(0, 1)])), some (0, (0, [(1, 0)])), some (0, (0, [(1, 1)])), some (0, (0, [(1, 2)]))], [(0, 5, []), (1, 4, []), (0, 5, [])], 2, [], [(0, [(1, 4)])], [0, 1], (5, [(-1, 2)]), (0, []))]
set_option maxRecDepth 100000 in
theorem sx_k119 : sx_chk sx_PP 119 sx_K119 sx_c119 3000 = true := by decide +kernel
/-- Lookout.seek -/
def sx_c120 : List sx_T := [(55, [some (2, (60, [(0, 0)])), some (2, (27, [(0, 1)])), some (0, (0, [(1, 0)])), some (0, (0, [(1, 1)])), some (0, (0, [(1, 2)])), some (0, (0, [(1, 3)])), some (2, (35, [(0, 2)])), some (2, (35, [(0, 3)])), some (0, (0, [(1, 4)])), none, none], [(0, 5, []), (1, 4, []), (0, 3, []), (0, 4, []), (-1, 8, [])], 4, [], [(0, [(1, 8)])], [0, 1, 6, 7], (8, [(-1, 4)]), (0, []))]
set_option maxRecDepth 100000 in
theorem sx_k120 : sx_chk sx_PP 120 sx_K120 sx_c120 3000 = true := by decide +kernel
/-- F.peace -/
def sx_c121 : List sx_T := []
set_option maxRecDepth 100000 in
theorem sx_k121 : sx_chk sx_PP 121 sx_K121 sx_c121 3000 = true := by decide +kernel
/-- Forest.leastCut -/
def sx_c122 : List sx_T := [(14, [some (2, (35, [(0, 0)])), some (0, (0, [(1, 0)])), some (0, (0, [(1, 1)])), some (0, (0, [(1, 2)])), some (0, (0, [(1, 3)])), some (0, (0, [(1, 4)]))], [(0, 5, []), (-1, 2147483647, []), (0, 1, []), (-2147483648, 2147483647, []), (0, 8, [])], 1, [], [(0, [(1, 2)]), (0, [(1, 3)]), (0, [(1, 4)]), (0, [(1, 5)])], [0], (8, [(-1, 4)]), (0, []))]
set_option maxRecDepth 100000 in
theorem sx_k122 : sx_chk sx_PP 122 sx_K122 sx_c122 3000 = true := by decide +kernel
/-- Forest.greatestBut -/
def sx_c123 : List sx_T := [(5, [some (2, (35, [(0, 0)])), some (0, (0, [(1, 0)])), some (0, (0, [(1, 1)])), some (0, (0, [(1, 2)])), some (0, (0, [(1, 3)]))], [(0, 5, []), (0, 7, []), (-1, 2147483647, []), (0, 6, [])], 1, [], [(0, [(1, 3)]), (0, [(1, 4)])], [0], (6, [(-1, 3)]), (0, []))]
set_option maxRecDepth 100000 in
theorem sx_k123 : sx_chk sx_PP 123 sx_K123 sx_c123 3000 = true := by decide +kernel
/-- F.strings -/
def sx_c124 : List sx_T := []
set_option maxRecDepth 100000 in
theorem sx_k124 : sx_chk sx_PP 124 sx_K124 sx_c124 3000 = true := by decide +kernel
/-- Lookout.leastPull -/
def sx_c125 : List sx_T := [(26, [none, some (2, (34, [(0, 0)])), some (0, (0, [(1, 0)])), some (2, (35, [(0, 1)])), some (0, (0, [(1, 1)])), some (0, (0, [(1, 2)]))], [(0, 7, []), (-2147483648, 2147483647, []), (0, 2147483647, [])], 2, [], [(0, [(1, 4)]), (0, [(1, 5)])], [1, 3], (2147483647, [(-1, 2)]), (0, []))]
set_option maxRecDepth 100000 in
theorem sx_k125 : sx_chk sx_PP 125 sx_K125 sx_c125 3000 = true := by decide +kernel
/-- F.marks -/
def sx_c126 : List sx_T := []
set_option maxRecDepth 100000 in
theorem sx_k126 : sx_chk sx_PP 126 sx_K126 sx_c126 3000 = true := by decide +kernel
/-- Council.fewestCells -/
def sx_c127 : List sx_T := [(4, [some (2, (35, [(0, 0)])), some (0, (0, [(1, 0)])), some (0, (0, [(1, 1)])), some (0, (0, [(1, 2)])), none], [(0, 63, []), (-1, 511, []), (0, 512, [])], 1, [], [(0, [(1, 2)]), (0, [(1, 3)])], [0], (512, [(-1, 2)]), (0, []))]
set_option maxRecDepth 100000 in
theorem sx_k127 : sx_chk sx_PP 127 sx_K127 sx_c127 3000 = true := by decide +kernel
/-- Council.tellsApart -/
def sx_c128 : List sx_T := [(2, [some (2, (35, [(0, 0)])), some (0, (0, [(1, 0)])), some (0, (0, [(1, 1)])), some (0, (0, [(1, 2)])), none, none], [(0, 63, []), (0, 511, []), (0, 6, [])], 1, [], [(0, [(1, 3)])], [0], (62, [(-9, 2)]), (0, [])),
  (15, [some (2, (35, [(0, 0)])), some (0, (0, [(1, 0)])), some (0, (0, [(1, 1)])), some (0, (0, [(1, 2)])), some (0, (0, [(1, 3)])), none], [(0, 63, []), (0, 511, []), (0, 5, []), (1, 6, [])], 1, [], [(0, [(1, 3)]), (0, [(1, 4)])], [0], (60, [(-9, 2), (-1, 3)]), (0, []))]
set_option maxRecDepth 100000 in
theorem sx_k128 : sx_chk sx_PP 128 sx_K128 sx_c128 3000 = true := by decide +kernel
/-- F.behind -/
def sx_c129 : List sx_T := []
set_option maxRecDepth 100000 in
theorem sx_k129 : sx_chk sx_PP 129 sx_K129 sx_c129 3000 = true := by decide +kernel
/-- Council.mirrored -/
def sx_c130 : List sx_T := [(34, [some (2, (35, [(0, 0)])), none, none, none, some (0, (0, [(1, 1)])), some (0, (0, [(1, 2)]))], [(0, 5, []), (0, 511, []), (0, 6, [])], 1, [], [(0, [(1, 4)]), (0, [(1, 5)])], [0], (6, [(-1, 2)]), (0, []))]
set_option maxRecDepth 100000 in
theorem sx_k130 : sx_chk sx_PP 130 sx_K130 sx_c130 3000 = true := by decide +kernel
/-- F.afar -/
def sx_c131 : List sx_T := []
set_option maxRecDepth 100000 in
theorem sx_k131 : sx_chk sx_PP 131 sx_K131 sx_c131 3000 = true := by decide +kernel
/-- Council.twosAlike -/
def sx_c132 : List sx_T := [(4, [some (2, (35, [(0, 0)])), some (0, (0, [(1, 0)])), some (0, (0, [(1, 1)])), none], [(-2147483648, 2147483647, []), (0, 6, [])], 1, [], [(0, [(1, 1)]), (0, [(1, 2)])], [0], (62, [(-9, 1)]), (0, [])),
  (16, [some (2, (35, [(0, 0)])), some (0, (0, [(1, 0)])), some (0, (0, [(1, 1)])), some (0, (0, [(1, 2)]))], [(-2147483648, 2147483647, []), (0, 5, []), (1, 6, [])], 1, [], [(0, [(1, 1)]), (0, [(1, 2)]), (0, [(1, 3)])], [0], (60, [(-9, 1), (-1, 2)]), (0, []))]
set_option maxRecDepth 100000 in
theorem sx_k132 : sx_chk sx_PP 132 sx_K132 sx_c132 3000 = true := by decide +kernel
/-- Council.rowsAlike -/
def sx_c133 : List sx_T := [(4, [some (0, (0, [(1, 0)])), some (0, (0, [(1, 1)])), some (0, (0, [(1, 2)])), some (0, (0, [(1, 3)])), none], [(0, 511, []), (0, 511, []), (0, 1, []), (0, 3, [])], 0, [], [(0, [(1, 2)]), (0, [(1, 3)])], [], (3, [(-1, 3)]), (0, []))]
set_option maxRecDepth 100000 in
theorem sx_k133 : sx_chk sx_PP 133 sx_K133 sx_c133 3000 = true := by decide +kernel
/-- F.might -/
def sx_c134 : List sx_T := []
set_option maxRecDepth 100000 in
theorem sx_k134 : sx_chk sx_PP 134 sx_K134 sx_c134 3000 = true := by decide +kernel
/-- Council.decided -/
def sx_c135 : List sx_T := [(5, [some (2, (35, [(0, 0)])), some (0, (0, [(1, 0)])), some (0, (0, [(1, 1)])), some (0, (0, [(1, 2)])), some (0, (0, [(1, 3)])), none, none], [(0, 5, []), (1, 99, []), (-2147483648, 2147483647, []), (0, 64, [])], 1, [], [(0, [(1, 3)]), (0, [(1, 4)])], [0], (64, [(-1, 3)]), (0, []))]
set_option maxRecDepth 100000 in
theorem sx_k135 : sx_chk sx_PP 135 sx_K135 sx_c135 3000 = true := by decide +kernel
/-- Council.handsOf -/
def sx_c136 : List sx_T := [(4, [some (2, (35, [(0, 0)])), some (0, (0, [(1, 0)])), some (0, (0, [(1, 1)])), some (0, (0, [(1, 2)]))], [(0, 63, []), (-2147483648, 2147483647, []), (0, 6, [])], 1, [], [(0, [(1, 2)]), (0, [(1, 3)])], [0], (6, [(-1, 2)]), (0, []))]
set_option maxRecDepth 100000 in
theorem sx_k136 : sx_chk sx_PP 136 sx_K136 sx_c136 3000 = true := by decide +kernel
/-- Council.orderings -/
def sx_c137 : List sx_T := []
set_option maxRecDepth 100000 in
theorem sx_k137 : sx_chk sx_PP 137 sx_K137 sx_c137 3000 = true := by decide +kernel
/-- F.veto -/
def sx_c138 : List sx_T := []
set_option maxRecDepth 100000 in
theorem sx_k138 : sx_chk sx_PP 138 sx_K138 sx_c138 3000 = true := by decide +kernel
/-- Council.needed -/
def sx_c139 : List sx_T := [(14, [some (2, (35, [(0, 0)])), some (0, (0, [(1, 0)])), some (0, (0, [(1, 1)])), some (0, (0, [(1, 2)])), some (0, (0, [(1, 3)]))], [(1, 99, []), (0, 63, []), (0, 63, []), (0, 6, [])], 1, [], [(0, [(1, 2)]), (0, [(1, 3)]), (0, [(1, 4)])], [0], (6, [(-1, 3)]), (0, []))]
set_option maxRecDepth 100000 in
theorem sx_k139 : sx_chk sx_PP 139 sx_K139 sx_c139 3000 = true := by decide +kernel
/-- F.shares -/
def sx_c140 : List sx_T := []
set_option maxRecDepth 100000 in
theorem sx_k140 : sx_chk sx_PP 140 sx_K140 sx_c140 3000 = true := by decide +kernel
/-- Council.part -/
def sx_c141 : List sx_T := [(52, [some (2, (35, [(0, 0)])), some (0, (0, [(1, 0)])), some (0, (0, [(1, 1)])), some (0, (0, [(1, 2)])), some (0, (0, [(1, 3)])), some (0, (0, [(1, 4)])), some (0, (0, [(1, 5)])), some (0, (0, [(1, 6)])), some (0, (0, [(1, 7)])), none, none], [(0, 5, []), (1, 99, []), (0, 9999, []), (1, 2147483647, []), (-2147483648, 2147483647, []), (-2147483648, 2147483647, []), (-2147483648, 2147483647, []), (0, 6, [])], 1, [], [(0, [(1, 4)]), (0, [(1, 5)]), (0, [(1, 6)]), (0, [(1, 7)]), (0, [(1, 8)])], [0], (6, [(-1, 7)]), (0, []))]
set_option maxRecDepth 100000 in
theorem sx_k141 : sx_chk sx_PP 141 sx_K141 sx_c141 3000 = true := by decide +kernel
/-- F.found -/
def sx_c143 : List sx_T := []
set_option maxRecDepth 100000 in
theorem sx_k143 : sx_chk sx_PP 143 sx_K143 sx_c143 3000 = true := by decide +kernel
/-- Finds.tell -/
def sx_c144 : List sx_T := []
set_option maxRecDepth 100000 in
theorem sx_k144 : sx_chk sx_PP 144 sx_K144 sx_c144 3000 = true := by decide +kernel
/-- F.rhythms -/
def sx_c145 : List sx_T := []
set_option maxRecDepth 100000 in
theorem sx_k145 : sx_chk sx_PP 145 sx_K145 sx_c145 3000 = true := by decide +kernel
/-- Finds.whereNext -/
def sx_c146 : List sx_T := [(12, [some (2, (48, [(0, 0)])), some (0, (0, [(1, 0)])), some (0, (0, [(1, 1)])), some (0, (0, [(1, 2)])), some (0, (0, [(1, 3)])), none], [(-2147483648, 2147483647, []), (-1, 99, []), (-2147483648, 2147483647, []), (0, 100, [])], 1, [], [(0, [(1, 1)]), (0, [(1, 2)]), (0, [(1, 3)]), (0, [(1, 4)])], [0], (100, [(-1, 3)]), (0, []))]
set_option maxRecDepth 100000 in
theorem sx_k146 : sx_chk sx_PP 146 sx_K146 sx_c146 3000 = true := by decide +kernel
/-- Finds.countFitting -/
def sx_c147 : List sx_T := [(4, [some (2, (48, [(0, 0)])), some (0, (0, [(1, 0)])), some (0, (0, [(1, 1)])), none], [(0, 0, []), (0, 100, [])], 1, [], [(0, [(1, 1)]), (0, [(1, 2)])], [0], (605, [(-1, 1)]), (0, [])),
  (25, [some (2, (48, [(0, 0)])), some (0, (0, [(1, 0)])), some (0, (0, [(1, 1)])), none], [(-2147483648, 2147483647, []), (1, 21, [])], 1, [], [(0, [(1, 1)]), (0, [(1, 2)])], [0], (527, [(-24, 1)]), (0, [])),
  (33, [some (2, (48, [(0, 0)])), some (0, (0, [(1, 0)])), some (0, (0, [(1, 1)])), some (0, (0, [(1, 2)]))], [(-2147483648, 2147483647, []), (1, 20, []), (0, 20, [])], 1, [], [(0, [(1, 1)]), (0, [(1, 2)]), (0, [(1, 3)])], [0], (524, [(-24, 1), (-1, 2)]), (0, []))]
set_option maxRecDepth 100000 in
theorem sx_k147 : sx_chk sx_PP 147 sx_K147 sx_c147 3000 = true := by decide +kernel
/-- Finds.fits -/
def sx_c148 : List sx_T := [(5, [some (2, (48, [(0, 0)])), some (0, (0, [(1, 0)])), some (0, (0, [(1, 1)])), some (0, (0, [(1, 2)])), some (0, (0, [(1, 3)])), none], [(1, 20, []), (0, 19, []), (0, 1, []), (0, 8, [])], 1, [], [(0, [(1, 3)]), (0, [(1, 4)])], [0], (8, [(-1, 3)]), (0, []))]
set_option maxRecDepth 100000 in
theorem sx_k148 : sx_chk sx_PP 148 sx_K148 sx_c148 3000 = true := by decide +kernel
/-- Finds.countPlaces -/
def sx_c149 : List sx_T := [(2, [some (2, (48, [(0, 0)])), some (0, (0, [(1, 0)])), none, some (0, (0, [(1, 2)]))], [(1, 20, []), (0, 19, []), (0, 119, [])], 1, [], [(0, [(1, 3)])], [0], (119, [(-1, 2)]), (0, []))]
set_option maxRecDepth 100000 in
theorem sx_k149 : sx_chk sx_PP 149 sx_K149 sx_c149 3000 = true := by decide +kernel
/-- Finds.isTold -/
def sx_c150 : List sx_T := [(4, [some (2, (48, [(0, 0)])), some (0, (0, [(1, 0)])), some (0, (0, [(1, 1)])), some (0, (0, [(1, 2)]))], [(0, 99, []), (0, 1, []), (0, 8, [])], 1, [], [(0, [(1, 2)]), (0, [(1, 3)])], [0], (8, [(-1, 2)]), (0, []))]
set_option maxRecDepth 100000 in
theorem sx_k150 : sx_chk sx_PP 150 sx_K150 sx_c150 3000 = true := by decide +kernel
/-- F.ahead -/
def sx_c151 : List sx_T := []
set_option maxRecDepth 100000 in
theorem sx_k151 : sx_chk sx_PP 151 sx_K151 sx_c151 3000 = true := by decide +kernel
/-- F.orders -/
def sx_c153 : List sx_T := []
set_option maxRecDepth 100000 in
theorem sx_k153 : sx_chk sx_PP 153 sx_K153 sx_c153 3000 = true := by decide +kernel
/-- Claims.countOrders -/
def sx_c154 : List sx_T := [(15, [some (2, (52, [(0, 0)])), some (0, (0, [(1, 0)])), some (0, (0, [(1, 1)])), some (0, (0, [(1, 2)])), none, none], [(0, 6, []), (0, 63, []), (1, 64, [])], 1, [], [(0, [(1, 2)]), (0, [(1, 3)])], [0], (649, [(-10, 2)]), (0, [])),
  (30, [some (2, (52, [(0, 0)])), some (0, (0, [(1, 0)])), some (0, (0, [(1, 1)])), some (0, (0, [(1, 2)])), some (0, (0, [(1, 3)])), none], [(0, 6, []), (1, 63, []), (1, 63, []), (0, 6, [])], 1, [], [(0, [(1, 2)]), (0, [(1, 3)]), (0, [(1, 4)])], [0], (646, [(-10, 2), (-1, 3)]), (0, []))]
set_option maxRecDepth 100000 in
theorem sx_k154 : sx_chk sx_PP 154 sx_K154 sx_c154 3000 = true := by decide +kernel
/-- Claims.toldAheadOf -/
def sx_c155 : List sx_T := [(4, [some (2, (52, [(0, 0)])), some (0, (0, [(1, 0)])), some (0, (0, [(1, 1)])), some (0, (0, [(1, 2)]))], [(0, 5, []), (0, 63, []), (0, 10, [])], 1, [], [(0, [(1, 2)]), (0, [(1, 3)])], [0], (10, [(-1, 2)]), (0, []))]
set_option maxRecDepth 100000 in
theorem sx_k155 : sx_chk sx_PP 155 sx_K155 sx_c155 3000 = true := by decide +kernel
/-- Claims.inFirst -/
def sx_c156 : List sx_T := [(5, [some (2, (52, [(0, 0)])), some (0, (0, [(1, 0)])), some (0, (0, [(1, 1)])), some (0, (0, [(1, 2)])), some (0, (0, [(1, 3)]))], [(1, 6, []), (0, 5, []), (0, 63, []), (0, 5, [])], 1, [], [(0, [(1, 3)]), (0, [(1, 4)])], [0], (5, [(-1, 3)]), (0, []))]
set_option maxRecDepth 100000 in
theorem sx_k156 : sx_chk sx_PP 156 sx_K156 sx_c156 3000 = true := by decide +kernel
/-- Claims.lowestFree -/
def sx_c157 : List sx_T := [(2, [some (2, (52, [(0, 0)])), some (0, (0, [(1, 0)])), some (0, (0, [(1, 1)])), some (0, (0, [(1, 2)])), none], [(1, 6, []), (0, 63, []), (0, 6, [])], 1, [], [(0, [(1, 3)])], [0], (6, [(-1, 2)]), (0, []))]
set_option maxRecDepth 100000 in
theorem sx_k157 : sx_chk sx_PP 157 sx_K157 sx_c157 3000 = true := by decide +kernel
/-- F.surely -/
def sx_c158 : List sx_T := []
set_option maxRecDepth 100000 in
theorem sx_k158 : sx_chk sx_PP 158 sx_K158 sx_c158 3000 = true := by decide +kernel
/-- Claims.allAheadOf -/
def sx_c159 : List sx_T := [(8, [some (2, (52, [(0, 0)])), none, some (0, (0, [(1, 1)])), some (0, (0, [(1, 2)])), none], [(0, 5, []), (0, 63, []), (0, 6, [])], 1, [], [(0, [(1, 2)]), (0, [(1, 3)])], [0], (69, [(-10, 2)]), (0, [])),
  (17, [some (2, (52, [(0, 0)])), none, some (0, (0, [(1, 1)])), some (0, (0, [(1, 2)])), some (0, (0, [(1, 3)]))], [(0, 5, []), (0, 63, []), (0, 5, []), (0, 6, [])], 1, [], [(0, [(1, 2)]), (0, [(1, 3)]), (0, [(1, 4)])], [0], (66, [(-10, 2), (-1, 3)]), (0, []))]
set_option maxRecDepth 100000 in
theorem sx_k159 : sx_chk sx_PP 159 sx_K159 sx_c159 3000 = true := by decide +kernel
