set_option maxRecDepth 100000 in
theorem mj_dc7 : ((((mj_is.drop 1).zip (mj_ms.drop 1)).drop 84).take 12).all mj_dk = true := by decide +kernel
set_option maxRecDepth 100000 in
theorem mj_dc8 : ((((mj_is.drop 1).zip (mj_ms.drop 1)).drop 96).take 12).all mj_dk = true := by decide +kernel
set_option maxRecDepth 100000 in
theorem mj_dc9 : ((((mj_is.drop 1).zip (mj_ms.drop 1)).drop 108).take 12).all mj_dk = true := by decide +kernel
set_option maxRecDepth 100000 in
theorem mj_dc10 : ((((mj_is.drop 1).zip (mj_ms.drop 1)).drop 120).take 12).all mj_dk = true := by decide +kernel
set_option maxRecDepth 100000 in
theorem mj_dc11 : ((((mj_is.drop 1).zip (mj_ms.drop 1)).drop 132).take 12).all mj_dk = true := by decide +kernel
set_option maxRecDepth 100000 in
theorem mj_dc12 : ((((mj_is.drop 1).zip (mj_ms.drop 1)).drop 144).take 12).all mj_dk = true := by decide +kernel
set_option maxRecDepth 100000 in
theorem mj_dc13 : ((((mj_is.drop 1).zip (mj_ms.drop 1)).drop 156).take 12).all mj_dk = true := by decide +kernel
