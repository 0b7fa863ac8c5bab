/-! The law's own rows. -/
set_option maxRecDepth 20000 in
theorem ij_dl0_0 : ((ij_t361_0.drop 0).take 50).all (fun q => decide (decode (ij_bt 361) q.1 = .ok (q.2.1, q.2.2.1))) = true := by decide +kernel
set_option maxRecDepth 20000 in
theorem ij_dl0_1 : ((ij_t361_0.drop 50).take 50).all (fun q => decide (decode (ij_bt 361) q.1 = .ok (q.2.1, q.2.2.1))) = true := by decide +kernel
set_option maxRecDepth 20000 in
theorem ij_dl0_2 : ((ij_t361_0.drop 100).take 50).all (fun q => decide (decode (ij_bt 361) q.1 = .ok (q.2.1, q.2.2.1))) = true := by decide +kernel
set_option maxRecDepth 20000 in
theorem ij_dl1_0 : ((ij_t361_1.drop 0).take 50).all (fun q => decide (decode (ij_bt 361) q.1 = .ok (q.2.1, q.2.2.1))) = true := by decide +kernel
set_option maxRecDepth 20000 in
theorem ij_dl1_1 : ((ij_t361_1.drop 50).take 50).all (fun q => decide (decode (ij_bt 361) q.1 = .ok (q.2.1, q.2.2.1))) = true := by decide +kernel
set_option maxRecDepth 20000 in
theorem ij_dl1_2 : ((ij_t361_1.drop 100).take 50).all (fun q => decide (decode (ij_bt 361) q.1 = .ok (q.2.1, q.2.2.1))) = true := by decide +kernel
set_option maxRecDepth 20000 in
theorem ij_dl2_0 : ((ij_t361_2.drop 0).take 50).all (fun q => decide (decode (ij_bt 361) q.1 = .ok (q.2.1, q.2.2.1))) = true := by decide +kernel
set_option maxRecDepth 20000 in
theorem ij_dl2_1 : ((ij_t361_2.drop 50).take 50).all (fun q => decide (decode (ij_bt 361) q.1 = .ok (q.2.1, q.2.2.1))) = true := by decide +kernel
set_option maxRecDepth 20000 in
theorem ij_dl2_2 : ((ij_t361_2.drop 100).take 50).all (fun q => decide (decode (ij_bt 361) q.1 = .ok (q.2.1, q.2.2.1))) = true := by decide +kernel
set_option maxRecDepth 20000 in
theorem ij_dl3_0 : ((ij_t361_3.drop 0).take 50).all (fun q => decide (decode (ij_bt 361) q.1 = .ok (q.2.1, q.2.2.1))) = true := by decide +kernel
set_option maxRecDepth 20000 in
theorem ij_dl3_1 : ((ij_t361_3.drop 50).take 50).all (fun q => decide (decode (ij_bt 361) q.1 = .ok (q.2.1, q.2.2.1))) = true := by decide +kernel
set_option maxRecDepth 20000 in
theorem ij_dl3_2 : ((ij_t361_3.drop 100).take 50).all (fun q => decide (decode (ij_bt 361) q.1 = .ok (q.2.1, q.2.2.1))) = true := by decide +kernel
set_option maxRecDepth 20000 in
theorem ij_dl4_0 : ((ij_t361_4.drop 0).take 50).all (fun q => decide (decode (ij_bt 361) q.1 = .ok (q.2.1, q.2.2.1))) = true := by decide +kernel
set_option maxRecDepth 20000 in
theorem ij_dl4_1 : ((ij_t361_4.drop 50).take 50).all (fun q => decide (decode (ij_bt 361) q.1 = .ok (q.2.1, q.2.2.1))) = true := by decide +kernel
set_option maxRecDepth 20000 in
theorem ij_dl4_2 : ((ij_t361_4.drop 100).take 50).all (fun q => decide (decode (ij_bt 361) q.1 = .ok (q.2.1, q.2.2.1))) = true := by decide +kernel
set_option maxRecDepth 20000 in
theorem ij_dl5_0 : ((ij_t361_5.drop 0).take 50).all (fun q => decide (decode (ij_bt 361) q.1 = .ok (q.2.1, q.2.2.1))) = true := by decide +kernel
set_option maxRecDepth 20000 in
theorem ij_dl5_1 : ((ij_t361_5.drop 50).take 50).all (fun q => decide (decode (ij_bt 361) q.1 = .ok (q.2.1, q.2.2.1))) = true := by decide +kernel
set_option maxRecDepth 20000 in
theorem ij_dl5_2 : ((ij_t361_5.drop 100).take 50).all (fun q => decide (decode (ij_bt 361) q.1 = .ok (q.2.1, q.2.2.1))) = true := by decide +kernel
set_option maxRecDepth 20000 in
theorem ij_dl6_0 : ((ij_t361_6.drop 0).take 50).all (fun q => decide (decode (ij_bt 361) q.1 = .ok (q.2.1, q.2.2.1))) = true := by decide +kernel
set_option maxRecDepth 20000 in
theorem ij_dl6_1 : ((ij_t361_6.drop 50).take 50).all (fun q => decide (decode (ij_bt 361) q.1 = .ok (q.2.1, q.2.2.1))) = true := by decide +kernel
set_option maxRecDepth 20000 in
theorem ij_dl6_2 : ((ij_t361_6.drop 100).take 50).all (fun q => decide (decode (ij_bt 361) q.1 = .ok (q.2.1, q.2.2.1))) = true := by decide +kernel
set_option maxRecDepth 20000 in
theorem ij_dl7_0 : ((ij_t361_7.drop 0).take 50).all (fun q => decide (decode (ij_bt 361) q.1 = .ok (q.2.1, q.2.2.1))) = true := by decide +kernel
set_option maxRecDepth 20000 in
theorem ij_dl7_1 : ((ij_t361_7.drop 50).take 50).all (fun q => decide (decode (ij_bt 361) q.1 = .ok (q.2.1, q.2.2.1))) = true := by decide +kernel
set_option maxRecDepth 20000 in
theorem ij_dl7_2 : ((ij_t361_7.drop 100).take 50).all (fun q => decide (decode (ij_bt 361) q.1 = .ok (q.2.1, q.2.2.1))) = true := by decide +kernel
set_option maxRecDepth 20000 in
theorem ij_dl8_0 : ((ij_t361_8.drop 0).take 50).all (fun q => decide (decode (ij_bt 361) q.1 = .ok (q.2.1, q.2.2.1))) = true := by decide +kernel
