/-! the tables' instructions are the code's -/
def mj_d1 (b : ByteArray) (e : Nat × Instr) : Bool := match decode b e.1 with
  | .ok (i, l) => decide (i = e.2) && (mj_sw i || l == mj_len i)
  | .error _ => false
def mj_dk (p : List (Nat × Instr) × MethodName × ByteArray × Nat × Option FieldType × Nat × Nat) : Bool := p.1.all (mj_d1 p.2.2.1)
set_option maxRecDepth 100000 in
theorem mj_dc0 : ((((mj_is.drop 1).zip (mj_ms.drop 1)).drop 0).take 12).all mj_dk = true := by decide +kernel
set_option maxRecDepth 100000 in
theorem mj_dc1 : ((((mj_is.drop 1).zip (mj_ms.drop 1)).drop 12).take 12).all mj_dk = true := by decide +kernel
set_option maxRecDepth 100000 in
theorem mj_dc2 : ((((mj_is.drop 1).zip (mj_ms.drop 1)).drop 24).take 12).all mj_dk = true := by decide +kernel
set_option maxRecDepth 100000 in
theorem mj_dc3 : ((((mj_is.drop 1).zip (mj_ms.drop 1)).drop 36).take 12).all mj_dk = true := by decide +kernel
set_option maxRecDepth 100000 in
theorem mj_dc4 : ((((mj_is.drop 1).zip (mj_ms.drop 1)).drop 48).take 12).all mj_dk = true := by decide +kernel
set_option maxRecDepth 100000 in
theorem mj_dc5 : ((((mj_is.drop 1).zip (mj_ms.drop 1)).drop 60).take 12).all mj_dk = true := by decide +kernel
set_option maxRecDepth 100000 in
theorem mj_dc6 : ((((mj_is.drop 1).zip (mj_ms.drop 1)).drop 72).take 12).all mj_dk = true := by decide +kernel
