/-! The tables hold what the theorem asks of them. -/
theorem ij_in_gw {ws : List Cond} {ps : List Nat} (h1 : ws = ps.filterMap (fun i => lw_tbl[i]?)) (h2 : ws.all goodWord = true) : ∀ w ∈ ws, w ∈ ij_gw := by
  intro w hw
  have h3 := List.all_eq_true.mp h2 w hw
  rw [h1] at hw
  obtain ⟨i, -, hi⟩ := List.mem_filterMap.mp hw
  exact List.mem_filter.mpr ⟨List.mem_of_getElem? hi, h3⟩
set_option maxRecDepth 20000 in
theorem ij_flw0 : ij_fl.map (fun q => Cond.fieldLink (ij_cn q.1) q.2.1 (ij_tx q.2.2.1 q.2.2.2).1 (ij_tx q.2.2.1 q.2.2.2).2.1 (ij_tx q.2.2.1 q.2.2.2).2.2.1) = ij_flp.filterMap (fun i => lw_tbl[i]?) := by decide +kernel
theorem ij_flw : ∀ q ∈ ij_fl, Cond.fieldLink (ij_cn q.1) q.2.1 (ij_tx q.2.2.1 q.2.2.2).1 (ij_tx q.2.2.1 q.2.2.2).2.1 (ij_tx q.2.2.1 q.2.2.2).2.2.1 ∈ ij_gw := fun q hq => ij_in_gw ij_flw0 (by decide +kernel) _ (List.mem_map.mpr ⟨q, hq, rfl⟩)
set_option maxRecDepth 20000 in
theorem ij_klw0 : ij_kl.map (fun q => Cond.methodLink (ij_cn q.1) q.2.1 (ij_nm q.2.2)) = ij_klp.filterMap (fun i => lw_tbl[i]?) := by decide +kernel
theorem ij_klw : ∀ q ∈ ij_kl, Cond.methodLink (ij_cn q.1) q.2.1 (ij_nm q.2.2) ∈ ij_gw := fun q hq => ij_in_gw ij_klw0 (by decide +kernel) _ (List.mem_map.mpr ⟨q, hq, rfl⟩)
set_option maxRecDepth 20000 in
theorem ij_cow : ∀ q ∈ ij_co, Cond.constant (ij_cn q.1) q.2.1 (Int32.ofNat q.2.2) ∈ ij_gw := fun q hq => ij_in_gw (ws := ij_co.map (fun q => Cond.constant (ij_cn q.1) q.2.1 (Int32.ofNat q.2.2))) (ps := ij_cop) (by decide +kernel) (by decide +kernel) _ (List.mem_map.mpr ⟨q, hq, rfl⟩)
set_option maxRecDepth 20000 in
theorem ij_c2w : ∀ q ∈ ij_c2, Cond.constantLong (ij_cn q.1) q.2.1 (Int64.ofNat q.2.2) ∈ ij_gw := fun q hq => ij_in_gw (ws := ij_c2.map (fun q => Cond.constantLong (ij_cn q.1) q.2.1 (Int64.ofNat q.2.2))) (ps := ij_c2p) (by decide +kernel) (by decide +kernel) _ (List.mem_map.mpr ⟨q, hq, rfl⟩)
set_option maxRecDepth 20000 in
theorem ij_ccw : ∀ q ∈ ij_cc, Cond.classLink (ij_cn q.1) q.2.1 (ij_cn q.2.2) ∈ ij_gw := fun q hq => ij_in_gw (ws := ij_cc.map (fun q => Cond.classLink (ij_cn q.1) q.2.1 (ij_cn q.2.2))) (ps := ij_ccp) (by decide +kernel) (by decide +kernel) _ (List.mem_map.mpr ⟨q, hq, rfl⟩)
set_option maxRecDepth 20000 in
theorem ij_oiw : ∀ q ∈ ij_oi, Cond.methodLink (ij_cn q.1) q.2 Lib.objectInit ∈ ij_gw := fun q hq => ij_in_gw (ws := ij_oi.map (fun q => Cond.methodLink (ij_cn q.1) q.2 Lib.objectInit)) (ps := ij_oip) (by decide +kernel) (by decide +kernel) _ (List.mem_map.mpr ⟨q, hq, rfl⟩)
set_option maxRecDepth 20000 in
theorem ij_acw : ∀ q ∈ ij_ac, Cond.methodLink (ij_cn q.1) q.2 arraycopyName ∈ ij_gw := fun q hq => ij_in_gw (ws := ij_ac.map (fun q => Cond.methodLink (ij_cn q.1) q.2 arraycopyName)) (ps := ij_acp) (by decide +kernel) (by decide +kernel) _ (List.mem_map.mpr ⟨q, hq, rfl⟩)
set_option maxRecDepth 20000 in
theorem ij_gsW : ∀ q ∈ ij_gs, Cond.fieldLink (ij_cn q.1) q.2.1 (ij_gsw q.2.2).1 (ij_gsw q.2.2).2.1 (ij_gsw q.2.2).2.2 ∈ ij_gw := fun q hq => ij_in_gw (ws := ij_gs.map (fun q => Cond.fieldLink (ij_cn q.1) q.2.1 (ij_gsw q.2.2).1 (ij_gsw q.2.2).2.1 (ij_gsw q.2.2).2.2)) (ps := ij_gsp) (by decide +kernel) (by decide +kernel) _ (List.mem_map.mpr ⟨q, hq, rfl⟩)
set_option maxRecDepth 20000 in
theorem ij_msw : ∀ w ∈ ij_ms, w ∈ ij_gw := ij_in_gw (ps := ij_msp) (by decide +kernel) (by decide +kernel)
set_option maxRecDepth 20000 in
theorem ij_iw : ∀ w ∈ ((List.range 12).map (fun k => Cond.instantiable (ij_cn k) (ij_nf k)) ++ (List.range 12).map (fun k => Cond.initialized (ij_cn k))), w ∈ ij_gw := ij_in_gw (ps := ij_ip) (by decide +kernel) (by decide +kernel)
set_option maxRecDepth 20000 in
theorem ij_lw : ∀ w ∈ (List.range 12).flatMap (fun k => u_ws (ij_cn k) (ij_tx k) (ij_nf k)), w ∈ ij_gw := ij_in_gw (ps := ij_lp) (by decide +kernel) (by decide +kernel)
set_option maxRecDepth 20000 in
theorem ij_mw0 : ∀ w ∈ (List.range' 0 60).flatMap ij_mw, w ∈ ij_gw := ij_in_gw (ps := (List.range' 0 60).flatMap ij_mp) (by decide +kernel) (by decide +kernel)
set_option maxRecDepth 20000 in
theorem ij_mw60 : ∀ w ∈ (List.range' 60 60).flatMap ij_mw, w ∈ ij_gw := ij_in_gw (ps := (List.range' 60 60).flatMap ij_mp) (by decide +kernel) (by decide +kernel)
set_option maxRecDepth 20000 in
theorem ij_mw120 : ∀ w ∈ (List.range' 120 60).flatMap ij_mw, w ∈ ij_gw := ij_in_gw (ps := (List.range' 120 60).flatMap ij_mp) (by decide +kernel) (by decide +kernel)
set_option maxRecDepth 20000 in
theorem ij_mw180 : ∀ w ∈ (List.range' 180 60).flatMap ij_mw, w ∈ ij_gw := ij_in_gw (ps := (List.range' 180 60).flatMap ij_mp) (by decide +kernel) (by decide +kernel)
set_option maxRecDepth 20000 in
theorem ij_mw240 : ∀ w ∈ (List.range' 240 60).flatMap ij_mw, w ∈ ij_gw := ij_in_gw (ps := (List.range' 240 60).flatMap ij_mp) (by decide +kernel) (by decide +kernel)
set_option maxRecDepth 20000 in
theorem ij_mw300 : ∀ w ∈ (List.range' 300 60).flatMap ij_mw, w ∈ ij_gw := ij_in_gw (ps := (List.range' 300 60).flatMap ij_mp) (by decide +kernel) (by decide +kernel)
set_option maxRecDepth 20000 in
theorem ij_mw360 : ∀ w ∈ (List.range' 360 2).flatMap ij_mw, w ∈ ij_gw := ij_in_gw (ps := (List.range' 360 2).flatMap ij_mp) (by decide +kernel) (by decide +kernel)
theorem ij_mww : ∀ y, y < 362 → ∀ w ∈ ij_mw y, w ∈ ij_gw := by
  intro y hy w hw
  have key : ∀ a n, (∀ w ∈ (List.range' a n).flatMap ij_mw, w ∈ ij_gw) → a ≤ y → y < a + n → w ∈ ij_gw := fun a n h h1 h2 => h w (List.mem_flatMap.mpr ⟨y, List.mem_range'_1.mpr ⟨h1, h2⟩, hw⟩)
  rcases Nat.lt_or_ge y 60 with h0 | h0
  · exact key 0 60 ij_mw0 (by omega) (by omega)
  rcases Nat.lt_or_ge y 120 with h1 | h1
  · exact key 60 60 ij_mw60 (by omega) (by omega)
  rcases Nat.lt_or_ge y 180 with h2 | h2
  · exact key 120 60 ij_mw120 (by omega) (by omega)
  rcases Nat.lt_or_ge y 240 with h3 | h3
  · exact key 180 60 ij_mw180 (by omega) (by omega)
  rcases Nat.lt_or_ge y 300 with h4 | h4
  · exact key 240 60 ij_mw240 (by omega) (by omega)
  rcases Nat.lt_or_ge y 360 with h5 | h5
  · exact key 300 60 ij_mw300 (by omega) (by omega)
  exact key 360 2 ij_mw360 (by omega) (by omega)
set_option maxRecDepth 20000 in
set_option maxHeartbeats 4000000 in
theorem ij_cd0 : ∀ w ∈ (List.range' 0 40).map ij_cd, w ∈ ij_gw := ij_in_gw (ps := [152, 171, 224, 236, 243, 240, 249, 246, 253, 233, 219, 213, 298, 292, 353, 373, 387, 409, 143, 1407, 1402, 525, 1581, 529, 1585, 533, 1589, 541, 545, 549, 553, 537, 1596, 1600, 1593, 564, 568, 560, 577, 572]) rfl rfl
set_option maxRecDepth 20000 in
set_option maxHeartbeats 4000000 in
theorem ij_cd40 : ∀ w ∈ (List.range' 40 40).map ij_cd, w ∈ ij_gw := ij_in_gw (ps := [557, 1608, 1611, 1604, 585, 589, 581, 1615, 598, 594, 1620, 607, 603, 1628, 1624, 619, 628, 631, 634, 638, 641, 645, 648, 652, 624, 670, 666, 680, 691, 686, 683, 676, 662, 657, 732, 728, 740, 744, 736, 747]) rfl rfl
set_option maxRecDepth 20000 in
set_option maxHeartbeats 4000000 in
theorem ij_cd80 : ∀ w ∈ (List.range' 80 40).map ij_cd, w ∈ ij_gw := ij_in_gw (ps := [753, 756, 763, 768, 772, 723, 615, 777, 784, 781, 791, 611, 1648, 1651, 1654, 982, 1644, 1640, 1660, 1669, 1675, 1679, 1687, 1683, 1695, 1691, 1698, 1701, 1664, 1708, 1705, 1723, 1720, 1716, 1712, 1731, 1727, 1636, 812, 808]) rfl rfl
set_option maxRecDepth 20000 in
set_option maxHeartbeats 4000000 in
theorem ij_cd120 : ∀ w ∈ (List.range' 120 40).map ij_cd, w ∈ ij_gw := ij_in_gw (ps := [817, 839, 844, 834, 849, 830, 799, 854, 795, 1747, 1743, 1739, 1735, 859, 1632, 867, 876, 871, 893, 889, 885, 881, 863, 1759, 1755, 1751, 902, 906, 899, 1768, 1763, 914, 910, 1776, 1772, 924, 929, 919, 1784, 1788]) rfl rfl
set_option maxRecDepth 20000 in
set_option maxHeartbeats 4000000 in
theorem ij_cd160 : ∀ w ∈ (List.range' 160 40).map ij_cd, w ∈ ij_gw := ij_in_gw (ps := [1780, 934, 1792, 939, 1801, 1796, 946, 951, 943, 1809, 1805, 959, 955, 1817, 1813, 966, 963, 1821, 978, 974, 1829, 1825, 990, 986, 1837, 1833, 995, 1841, 1003, 1008, 999, 1858, 1866, 1870, 1862, 1853, 1012, 1874, 1016, 1845]) rfl rfl
set_option maxRecDepth 20000 in
set_option maxHeartbeats 4000000 in
theorem ij_cd200 : ∀ w ∈ (List.range' 200 40).map ij_cd, w ∈ ij_gw := ij_in_gw (ps := [1024, 1020, 1849, 1032, 1028, 1882, 1878, 1037, 1886, 1045, 1041, 1894, 1890, 1050, 1898, 1058, 1054, 1906, 1902, 1063, 1910, 1071, 1067, 1918, 1914, 1079, 1075, 1922, 1087, 1083, 1930, 1926, 1098, 1095, 1091, 1938, 1934, 1102, 1942, 1109]) rfl rfl
set_option maxRecDepth 20000 in
set_option maxHeartbeats 4000000 in
theorem ij_cd240 : ∀ w ∈ (List.range' 240 40).map ij_cd, w ∈ ij_gw := ij_in_gw (ps := [1106, 1952, 1948, 1113, 1957, 1121, 1117, 1967, 1961, 1125, 1971, 1129, 1979, 1975, 1133, 1983, 1137, 1987, 1141, 1991, 1145, 1995, 1157, 1153, 1149, 2032, 2028, 1166, 2036, 1180, 1183, 1174, 1170, 2040, 1187, 1999, 1208, 1214, 1204, 1200]) rfl rfl
set_option maxRecDepth 20000 in
set_option maxHeartbeats 4000000 in
theorem ij_cd280 : ∀ w ∈ (List.range' 280 40).map ij_cd, w ∈ ij_gw := ij_in_gw (ps := [1218, 1222, 1195, 1226, 1191, 2011, 2015, 2007, 2003, 1234, 1230, 2019, 1241, 1249, 1245, 1238, 2023, 1253, 2049, 2045, 1264, 1261, 1257, 2057, 2053, 1268, 2061, 1272, 2065, 1276, 2069, 1284, 1281, 2075, 1292, 1288, 2083, 2079, 1308, 1304]) rfl rfl
set_option maxRecDepth 20000 in
set_option maxHeartbeats 4000000 in
theorem ij_cd320 : ∀ w ∈ (List.range' 320 40).map ij_cd, w ∈ ij_gw := ij_in_gw (ps := [1317, 1313, 1322, 1330, 1335, 1339, 1348, 1343, 1354, 1358, 1365, 1326, 1369, 1300, 1296, 2100, 2104, 2108, 2116, 2112, 2096, 2129, 2125, 2133, 2121, 2092, 2087, 1377, 1373, 2137, 1385, 1381, 2141, 1389, 2150, 2145, 1393, 2158, 2154, 1397]) rfl rfl
set_option maxRecDepth 20000 in
set_option maxHeartbeats 4000000 in
theorem ij_cd360 : ∀ w ∈ (List.range' 360 1).map ij_cd, w ∈ ij_gw := ij_in_gw (ps := [2162]) rfl rfl
theorem ij_cdw : ∀ y, y < 361 → ij_cd y ∈ ij_gw := by
  intro y hy
  have key : ∀ a n, (∀ w ∈ (List.range' a n).map ij_cd, w ∈ ij_gw) → a ≤ y → y < a + n → ij_cd y ∈ ij_gw := fun a n h h1 h2 => h _ (List.mem_map.mpr ⟨y, List.mem_range'_1.mpr ⟨h1, h2⟩, rfl⟩)
  rcases Nat.lt_or_ge y 40 with h0 | h0
  · exact key 0 40 ij_cd0 (by omega) (by omega)
  rcases Nat.lt_or_ge y 80 with h1 | h1
  · exact key 40 40 ij_cd40 (by omega) (by omega)
  rcases Nat.lt_or_ge y 120 with h2 | h2
  · exact key 80 40 ij_cd80 (by omega) (by omega)
  rcases Nat.lt_or_ge y 160 with h3 | h3
  · exact key 120 40 ij_cd120 (by omega) (by omega)
  rcases Nat.lt_or_ge y 200 with h4 | h4
  · exact key 160 40 ij_cd160 (by omega) (by omega)
  rcases Nat.lt_or_ge y 240 with h5 | h5
  · exact key 200 40 ij_cd200 (by omega) (by omega)
  rcases Nat.lt_or_ge y 280 with h6 | h6
  · exact key 240 40 ij_cd240 (by omega) (by omega)
  rcases Nat.lt_or_ge y 320 with h7 | h7
  · exact key 280 40 ij_cd280 (by omega) (by omega)
  rcases Nat.lt_or_ge y 360 with h8 | h8
  · exact key 320 40 ij_cd320 (by omega) (by omega)
  exact key 360 1 ij_cd360 (by omega) (by omega)
