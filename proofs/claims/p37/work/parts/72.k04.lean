/-- R.orders -/
def sx_c307 : List sx_T := []
set_option maxRecDepth 100000 in
theorem sx_k307 : sx_chk sx_PP 307 sx_K307 sx_c307 3000 = true := by decide +kernel
/-- R.surely -/
def sx_c311 : List sx_T := []
set_option maxRecDepth 100000 in
theorem sx_k311 : sx_chk sx_PP 311 sx_K311 sx_c311 3000 = true := by decide +kernel
/-- R.image -/
def sx_c312 : List sx_T := []
set_option maxRecDepth 100000 in
theorem sx_k312 : sx_chk sx_PP 312 sx_K312 sx_c312 3000 = true := by decide +kernel
/-- R.back -/
def sx_c313 : List sx_T := []
set_option maxRecDepth 100000 in
theorem sx_k313 : sx_chk sx_PP 313 sx_K313 sx_c313 3000 = true := by decide +kernel
/-- R.about -/
def sx_c314 : List sx_T := []
set_option maxRecDepth 100000 in
theorem sx_k314 : sx_chk sx_PP 314 sx_K314 sx_c314 3000 = true := by decide +kernel
