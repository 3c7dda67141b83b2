set_option maxRecDepth 100000 in
theorem mj_dc14 : ((((mj_is.drop 1).zip (mj_ms.drop 1)).drop 168).take 12).all mj_dk = true := by decide +kernel
set_option maxRecDepth 100000 in
theorem mj_dc15 : ((((mj_is.drop 1).zip (mj_ms.drop 1)).drop 180).take 12).all mj_dk = true := by decide +kernel
set_option maxRecDepth 100000 in
theorem mj_dc16 : ((((mj_is.drop 1).zip (mj_ms.drop 1)).drop 192).take 12).all mj_dk = true := by decide +kernel
set_option maxRecDepth 100000 in
theorem mj_dc17 : ((((mj_is.drop 1).zip (mj_ms.drop 1)).drop 204).take 12).all mj_dk = true := by decide +kernel
set_option maxRecDepth 100000 in
theorem mj_dc18 : ((((mj_is.drop 1).zip (mj_ms.drop 1)).drop 216).take 12).all mj_dk = true := by decide +kernel
set_option maxRecDepth 100000 in
theorem mj_dc19 : ((((mj_is.drop 1).zip (mj_ms.drop 1)).drop 228).take 12).all mj_dk = true := by decide +kernel
set_option maxRecDepth 100000 in
theorem mj_dc20 : ((((mj_is.drop 1).zip (mj_ms.drop 1)).drop 240).take 12).all mj_dk = true := by decide +kernel
