/-! The checks, run. -/
set_option maxRecDepth 20000 in
theorem ij_yk0 : (List.range' 0 30).all ij_yk = true := by decide +kernel
set_option maxRecDepth 20000 in
theorem ij_yk30 : (List.range' 30 30).all ij_yk = true := by decide +kernel
set_option maxRecDepth 20000 in
theorem ij_yk60 : (List.range' 60 30).all ij_yk = true := by decide +kernel
set_option maxRecDepth 20000 in
theorem ij_yk90 : (List.range' 90 30).all ij_yk = true := by decide +kernel
set_option maxRecDepth 20000 in
theorem ij_yk120 : (List.range' 120 30).all ij_yk = true := by decide +kernel
set_option maxRecDepth 20000 in
theorem ij_yk150 : (List.range' 150 30).all ij_yk = true := by decide +kernel
set_option maxRecDepth 20000 in
theorem ij_yk180 : (List.range' 180 30).all ij_yk = true := by decide +kernel
set_option maxRecDepth 20000 in
theorem ij_yk210 : (List.range' 210 30).all ij_yk = true := by decide +kernel
set_option maxRecDepth 20000 in
theorem ij_yk240 : (List.range' 240 30).all ij_yk = true := by decide +kernel
set_option maxRecDepth 20000 in
theorem ij_yk270 : (List.range' 270 30).all ij_yk = true := by decide +kernel
set_option maxRecDepth 20000 in
theorem ij_yk300 : (List.range' 300 30).all ij_yk = true := by decide +kernel
set_option maxRecDepth 20000 in
theorem ij_yk330 : (List.range' 330 30).all ij_yk = true := by decide +kernel
set_option maxRecDepth 20000 in
theorem ij_yk360 : (List.range' 360 2).all ij_yk = true := by decide +kernel
set_option maxRecDepth 20000 in
theorem ij_rkc : (List.range' 0 362).all (fun y => ij_rkk (ij_rk y) (ij_rt y)) = true := by decide +kernel
set_option maxRecDepth 20000 in
theorem ij_dk0 : (List.range' 0 19).all ij_dk = true := by decide +kernel
set_option maxRecDepth 20000 in
theorem ij_dk19 : (List.range' 19 28).all ij_dk = true := by decide +kernel
set_option maxRecDepth 20000 in
theorem ij_dk47 : (List.range' 47 25).all ij_dk = true := by decide +kernel
set_option maxRecDepth 20000 in
theorem ij_dk72 : (List.range' 72 24).all ij_dk = true := by decide +kernel
set_option maxRecDepth 20000 in
theorem ij_dk96 : (List.range' 96 12).all ij_dk = true := by decide +kernel
set_option maxRecDepth 20000 in
theorem ij_dk108 : (List.range' 108 9).all ij_dk = true := by decide +kernel
set_option maxRecDepth 20000 in
theorem ij_dk117 : (List.range' 117 8).all ij_dk = true := by decide +kernel
set_option maxRecDepth 20000 in
theorem ij_dk125 : (List.range' 125 4).all ij_dk = true := by decide +kernel
set_option maxRecDepth 20000 in
theorem ij_dk129 : (List.range' 129 2).all ij_dk = true := by decide +kernel
set_option maxRecDepth 20000 in
theorem ij_dk131 : (List.range' 131 1).all ij_dk = true := by decide +kernel
set_option maxRecDepth 20000 in
theorem ij_dk132 : (List.range' 132 30).all ij_dk = true := by decide +kernel
set_option maxRecDepth 20000 in
theorem ij_dk162 : (List.range' 162 30).all ij_dk = true := by decide +kernel
set_option maxRecDepth 20000 in
theorem ij_dk192 : (List.range' 192 30).all ij_dk = true := by decide +kernel
set_option maxRecDepth 20000 in
theorem ij_dk222 : (List.range' 222 29).all ij_dk = true := by decide +kernel
set_option maxRecDepth 20000 in
theorem ij_dk251 : (List.range' 251 20).all ij_dk = true := by decide +kernel
set_option maxRecDepth 20000 in
theorem ij_dk271 : (List.range' 271 16).all ij_dk = true := by decide +kernel
set_option maxRecDepth 20000 in
theorem ij_dk287 : (List.range' 287 7).all ij_dk = true := by decide +kernel
set_option maxRecDepth 20000 in
theorem ij_dk294 : (List.range' 294 8).all ij_dk = true := by decide +kernel
set_option maxRecDepth 20000 in
theorem ij_dk302 : (List.range' 302 8).all ij_dk = true := by decide +kernel
set_option maxRecDepth 20000 in
theorem ij_dk310 : (List.range' 310 7).all ij_dk = true := by decide +kernel
set_option maxRecDepth 20000 in
theorem ij_dk317 : (List.range' 317 14).all ij_dk = true := by decide +kernel
set_option maxRecDepth 20000 in
theorem ij_dk331 : (List.range' 331 12).all ij_dk = true := by decide +kernel
set_option maxRecDepth 20000 in
theorem ij_dk343 : (List.range' 343 4).all ij_dk = true := by decide +kernel
set_option maxRecDepth 20000 in
theorem ij_dk347 : (List.range' 347 14).all ij_dk = true := by decide +kernel
