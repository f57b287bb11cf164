theorem wz_in {big : List Cond} (ws : List Cond) (ps : List Nat) (hp : ws = ps.filterMap (fun i => big[i]?)) : ∀ w ∈ ws, w ∈ big := by
  intro w hw
  rw [hp] at hw
  obtain ⟨i, -, hi⟩ := List.mem_filterMap.mp hw
  first | exact List.mem_of_getElem? hi | exact List.getElem?_mem hi
theorem wz_app {big a b : List Cond} (ha : ∀ w ∈ a, w ∈ big) (hb : ∀ w ∈ b, w ∈ big) : ∀ w ∈ a ++ b, w ∈ big := fun w h => (List.mem_append.mp h).elim (ha w) (hb w)
set_option maxRecDepth 100000 in
theorem inX0 : ∀ w ∈ wsX00, w ∈ lw_tbl := wz_in _ [332, 334, 336, 338, 340, 342] (by decide +kernel)
set_option maxRecDepth 100000 in
theorem inX1 : ∀ w ∈ wsX10, w ∈ lw_tbl := wz_in _ [711, 713, 715, 717, 719, 721] (by decide +kernel)
set_option maxRecDepth 100000 in
theorem inX2 : ∀ w ∈ wsX20, w ∈ lw_tbl := wz_in _ [429, 431, 433, 435, 437, 439] (by decide +kernel)
set_option maxRecDepth 100000 in
theorem inX3 : ∀ w ∈ wsX30, w ∈ lw_tbl := wz_in _ [270, 272, 274, 276, 278, 280, 282] (by decide +kernel)
set_option maxRecDepth 100000 in
theorem inX4 : ∀ w ∈ wsX40, w ∈ lw_tbl := wz_in _ [226, 228, 230, 232, 234, 236, 238, 240, 242] (by decide +kernel)
set_option maxRecDepth 100000 in
theorem inX5 : ∀ w ∈ wsX50, w ∈ lw_tbl := wz_in _ [184, 186, 188, 190, 192, 194, 196, 198, 200, 202, 204] (by decide +kernel)
set_option maxRecDepth 100000 in
theorem inX6 : ∀ w ∈ wsX60, w ∈ lw_tbl := wz_in _ [398, 400, 402, 404, 406, 408, 410, 412, 414] (by decide +kernel)
set_option maxRecDepth 100000 in
theorem inX7 : ∀ w ∈ wsX70, w ∈ lw_tbl := wz_in _ [106, 108] (by decide +kernel)
set_option maxRecDepth 100000 in
theorem inX8 : ∀ w ∈ wsX80, w ∈ lw_tbl := wz_in _ [366, 368, 370, 372, 374, 376, 378, 380] (by decide +kernel)
set_option maxRecDepth 100000 in
theorem inX9 : ∀ w ∈ wsX90, w ∈ lw_tbl := wz_in _ [295, 297, 299, 301, 303, 305, 307, 309] (by decide +kernel)
set_option maxRecDepth 100000 in
theorem inX10 : ∀ w ∈ wsX100, w ∈ lw_tbl := wz_in _ [146, 148, 150, 152] (by decide +kernel)
set_option maxRecDepth 100000 in
theorem inX11 : ∀ w ∈ wsX110, w ∈ lw_tbl := wz_in _ [459, 461, 463, 465, 467, 469, 471, 473, 475, 477, 479, 481, 483, 485, 487, 489, 491] (by decide +kernel)
set_option maxRecDepth 100000 in
theorem inX12 : ∀ w ∈ wsX120, w ∈ lw_tbl := wz_in _ [1164, 1166, 1168, 1170, 1172, 1174, 1176, 1178, 1180, 1182, 1184, 1186, 1188, 1190, 1192, 1194, 1196, 1198, 1200, 1202, 1204, 1206, 1208, 1210, 1212, 1214, 1216, 1218, 1220, 1222, 1224, 1226, 1228, 1230, 1232, 1234, 1236, 1238, 1240, 1242, 1244, 1246, 1248, 1250, 1252, 1254, 1256, 1258, 1260, 1262, 1264, 1266, 1268, 1270, 1272, 1274, 1276, 1278, 1280, 1282, 1284, 1286, 1288, 1290, 1292, 1294, 1296, 1298, 1300, 1302, 1304] (by decide +kernel)
