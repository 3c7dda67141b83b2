set_option maxRecDepth 100000 in
theorem mj_dl0 : ((mj_i0.drop 0).take 60).all (mj_d1 code) = true := by decide +kernel
set_option maxRecDepth 100000 in
theorem mj_dl1 : ((mj_i0.drop 60).take 60).all (mj_d1 code) = true := by decide +kernel
set_option maxRecDepth 100000 in
theorem mj_dl2 : ((mj_i0.drop 120).take 60).all (mj_d1 code) = true := by decide +kernel
set_option maxRecDepth 100000 in
theorem mj_dl3 : ((mj_i0.drop 180).take 60).all (mj_d1 code) = true := by decide +kernel
set_option maxRecDepth 100000 in
theorem mj_dl4 : ((mj_i0.drop 240).take 60).all (mj_d1 code) = true := by decide +kernel
set_option maxRecDepth 100000 in
theorem mj_dl5 : ((mj_i0.drop 300).take 60).all (mj_d1 code) = true := by decide +kernel
set_option maxRecDepth 100000 in
theorem mj_dl6 : ((mj_i0.drop 360).take 60).all (mj_d1 code) = true := by decide +kernel
set_option maxRecDepth 100000 in
theorem mj_dl7 : ((mj_i0.drop 420).take 60).all (mj_d1 code) = true := by decide +kernel
set_option maxRecDepth 100000 in
theorem mj_dl8 : ((mj_i0.drop 480).take 60).all (mj_d1 code) = true := by decide +kernel
set_option maxRecDepth 100000 in
theorem mj_dl9 : ((mj_i0.drop 540).take 60).all (mj_d1 code) = true := by decide +kernel
set_option maxRecDepth 100000 in
theorem mj_dl10 : ((mj_i0.drop 600).take 60).all (mj_d1 code) = true := by decide +kernel
set_option maxRecDepth 100000 in
theorem mj_dl11 : ((mj_i0.drop 660).take 60).all (mj_d1 code) = true := by decide +kernel
set_option maxRecDepth 100000 in
theorem mj_dl12 : ((mj_i0.drop 720).take 60).all (mj_d1 code) = true := by decide +kernel
set_option maxRecDepth 100000 in
theorem mj_dl13 : ((mj_i0.drop 780).take 60).all (mj_d1 code) = true := by decide +kernel
set_option maxRecDepth 100000 in
theorem mj_dl14 : ((mj_i0.drop 840).take 60).all (mj_d1 code) = true := by decide +kernel
set_option maxRecDepth 100000 in
theorem mj_dl15 : ((mj_i0.drop 900).take 60).all (mj_d1 code) = true := by decide +kernel
set_option maxRecDepth 100000 in
theorem mj_dl16 : ((mj_i0.drop 960).take 60).all (mj_d1 code) = true := by decide +kernel
set_option maxRecDepth 100000 in
theorem mj_dl17 : ((mj_i0.drop 1020).take 60).all (mj_d1 code) = true := by decide +kernel
