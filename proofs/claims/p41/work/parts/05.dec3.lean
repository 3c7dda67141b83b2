set_option maxRecDepth 100000 in
theorem mj_dc21 : ((((mj_is.drop 1).zip (mj_ms.drop 1)).drop 252).take 12).all mj_dk = true := by decide +kernel
set_option maxRecDepth 100000 in
theorem mj_dc22 : ((((mj_is.drop 1).zip (mj_ms.drop 1)).drop 264).take 12).all mj_dk = true := by decide +kernel
set_option maxRecDepth 100000 in
theorem mj_dc23 : ((((mj_is.drop 1).zip (mj_ms.drop 1)).drop 276).take 12).all mj_dk = true := by decide +kernel
set_option maxRecDepth 100000 in
theorem mj_dc24 : ((((mj_is.drop 1).zip (mj_ms.drop 1)).drop 288).take 12).all mj_dk = true := by decide +kernel
set_option maxRecDepth 100000 in
theorem mj_dc25 : ((((mj_is.drop 1).zip (mj_ms.drop 1)).drop 300).take 12).all mj_dk = true := by decide +kernel
set_option maxRecDepth 100000 in
theorem mj_dc26 : ((((mj_is.drop 1).zip (mj_ms.drop 1)).drop 312).take 12).all mj_dk = true := by decide +kernel
