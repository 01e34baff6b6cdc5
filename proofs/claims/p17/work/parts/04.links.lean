/-! EACH LINK ONCE -/
theorem xTs_i (i : Nat) {w : Cond} (h : tables_1[i]? = some w) (hg : goodWord w = true) : w ∈ xTs := List.mem_filter.mpr ⟨List.mem_append_right _ (List.mem_of_getElem? h), hg⟩
theorem xTs_s (i : Nat) {w : Cond} (h : (k2_sels lw_privs)[i]? = some w) (hg : goodWord w = true) : w ∈ xTs := List.mem_filter.mpr ⟨List.mem_append_left _ (List.mem_of_getElem? h), hg⟩
theorem xTs_all {ws : List Cond} (ps : List Nat) (hp : ws = ps.filterMap (fun i => tables_1[i]?)) (hg : ws.all goodWord = true) : ∀ w ∈ ws, w ∈ xTs := by
  intro w hw
  have h1 := List.all_eq_true.mp hg w hw
  rw [hp] at hw
  obtain ⟨i, -, hi⟩ := List.mem_filterMap.mp hw
  exact xTs_i i hi h1
theorem xTs_m {w : Cond} (h : w ∈ tables_1) (hg : goodWord w = true) : w ∈ xTs := List.mem_filter.mpr ⟨List.mem_append_right _ h, hg⟩
theorem xT1 (i : Nat) {w : Cond} (h : tables_1_1[i]? = some w) (hg : goodWord w = true) : w ∈ xTs := xTs_m (List.mem_append_left _ (List.mem_of_getElem? h)) hg
theorem xT2 (i : Nat) {w : Cond} (h : tables_1_2[i]? = some w) (hg : goodWord w = true) : w ∈ xTs := xTs_m (List.mem_append_right _ (List.mem_append_left _ (List.mem_of_getElem? h))) hg
theorem xT3 (i : Nat) {w : Cond} (h : tables_1_3[i]? = some w) (hg : goodWord w = true) : w ∈ xTs := xTs_m (List.mem_append_right _ (List.mem_append_right _ (List.mem_append_left _ (List.mem_of_getElem? h)))) hg
theorem xT4 (i : Nat) {w : Cond} (h : tables_1_4[i]? = some w) (hg : goodWord w = true) : w ∈ xTs := xTs_m (List.mem_append_right _ (List.mem_append_right _ (List.mem_append_right _ (List.mem_append_left _ (List.mem_of_getElem? h))))) hg
theorem xT5 (i : Nat) {w : Cond} (h : tables_1_5[i]? = some w) (hg : goodWord w = true) : w ∈ xTs := xTs_m (List.mem_append_right _ (List.mem_append_right _ (List.mem_append_right _ (List.mem_append_right _ (List.mem_append_left _ (List.mem_of_getElem? h)))))) hg
theorem xT6 (i : Nat) {w : Cond} (h : tables_1_6[i]? = some w) (hg : goodWord w = true) : w ∈ xTs := xTs_m (List.mem_append_right _ (List.mem_append_right _ (List.mem_append_right _ (List.mem_append_right _ (List.mem_append_right _ (List.mem_append_left _ (List.mem_of_getElem? h))))))) hg
theorem xT7 (i : Nat) {w : Cond} (h : tables_1_7[i]? = some w) (hg : goodWord w = true) : w ∈ xTs := xTs_m (List.mem_append_right _ (List.mem_append_right _ (List.mem_append_right _ (List.mem_append_right _ (List.mem_append_right _ (List.mem_append_right _ (List.mem_append_left _ (List.mem_of_getElem? h)))))))) hg
theorem xT8 (i : Nat) {w : Cond} (h : tables_1_8[i]? = some w) (hg : goodWord w = true) : w ∈ xTs := xTs_m (List.mem_append_right _ (List.mem_append_right _ (List.mem_append_right _ (List.mem_append_right _ (List.mem_append_right _ (List.mem_append_right _ (List.mem_append_right _ (List.mem_of_getElem? h)))))))) hg
set_option maxRecDepth 100000 in
theorem kX0 : xCl 0 RX0 TX0 3 tyX0 := ⟨rfl, xTs_all [224, 226, 228] (by decide +kernel) (by decide +kernel), tyX0_ok, nmX0⟩
set_option maxRecDepth 100000 in
theorem kX1 : xCl 1 RX1 TX1 4 tyX1 := ⟨rfl, xTs_all [154, 156, 158, 160] (by decide +kernel) (by decide +kernel), tyX1_ok, nmX1⟩
set_option maxRecDepth 100000 in
theorem kX2 : xCl 2 RX2 TX2 7 tyX2 := ⟨rfl, xTs_all [1160, 1162, 1164, 1166, 1168, 1170, 1172] (by decide +kernel) (by decide +kernel), tyX2_ok, nmX2⟩
set_option maxRecDepth 100000 in
theorem kX3 : xCl 3 RX3 TX3 12 tyX3 := ⟨rfl, xTs_all [933, 935, 937, 939, 941, 943, 945, 947, 949, 951, 953, 955] (by decide +kernel) (by decide +kernel), tyX3_ok, nmX3⟩
set_option maxRecDepth 100000 in
theorem kX4 : xCl 4 RX4 TX4 9 tyX4 := ⟨rfl, xTs_all [125, 127, 129, 131, 133, 135, 137, 139, 141] (by decide +kernel) (by decide +kernel), tyX4_ok, nmX4⟩
set_option maxRecDepth 100000 in
theorem kX5 : xCl 5 RX5 TX5 3 tyX5 := ⟨rfl, xTs_all [37, 39, 41] (by decide +kernel) (by decide +kernel), tyX5_ok, nmX5⟩
set_option maxRecDepth 100000 in
theorem kX6 : xCl 6 RX6 TX6 18 tyX6 := ⟨rfl, xTs_all [71, 73, 75, 77, 79, 81, 83, 85, 87, 89, 91, 93, 95, 97, 99, 101, 103, 105] (by decide +kernel) (by decide +kernel), tyX6_ok, nmX6⟩
set_option maxRecDepth 100000 in
theorem kX7 : xCl 7 RX7 TX7 2 tyX7 := ⟨rfl, xTs_all [915, 917] (by decide +kernel) (by decide +kernel), tyX7_ok, nmX7⟩
set_option maxRecDepth 100000 in
theorem kX8 : xCl 8 RX8 TX8 13 tyX8 := ⟨rfl, xTs_all [507, 509, 511, 513, 515, 517, 519, 521, 523, 525, 527, 529, 531] (by decide +kernel) (by decide +kernel), tyX8_ok, nmX8⟩
set_option maxRecDepth 100000 in
theorem kX9 : xCl 9 RX9 TX9 7 tyX9 := ⟨rfl, xTs_all [730, 732, 734, 736, 738, 740, 742] (by decide +kernel) (by decide +kernel), tyX9_ok, nmX9⟩
set_option maxRecDepth 100000 in
theorem kX10 : xCl 10 RX10 TX10 10 tyX10 := ⟨rfl, xTs_all [173, 175, 177, 179, 181, 183, 185, 187, 189, 191] (by decide +kernel) (by decide +kernel), tyX10_ok, nmX10⟩
set_option maxRecDepth 100000 in
theorem kX11 : xCl 11 RX11 TX11 72 tyX11 := ⟨rfl, xTs_all [1307, 1309, 1311, 1313, 1315, 1317, 1319, 1321, 1323, 1325, 1327, 1329, 1331, 1333, 1335, 1337, 1339, 1341, 1343, 1345, 1347, 1349, 1351, 1353, 1355, 1357, 1359, 1361, 1363, 1365, 1367, 1369, 1371, 1373, 1375, 1377, 1379, 1381, 1383, 1385, 1387, 1389, 1391, 1393, 1395, 1397, 1399, 1401, 1403, 1405, 1407, 1409, 1411, 1413, 1415, 1417, 1419, 1421, 1423, 1425, 1427, 1429, 1431, 1433, 1435, 1437, 1439, 1441, 1443, 1445, 1447, 1449] (by decide +kernel) (by decide +kernel), tyX11_ok, nmX11⟩
theorem fX5_11 : xFl RX5 11 TX5 3 0 := ⟨by decide, xT1 34 (by decide +kernel) (by decide +kernel)⟩
theorem fX5_15 : xFl RX5 15 TX5 3 1 := ⟨by decide, xT1 35 (by decide +kernel) (by decide +kernel)⟩
theorem fX5_19 : xFl RX5 19 TX5 3 2 := ⟨by decide, xT1 36 (by decide +kernel) (by decide +kernel)⟩
theorem fX6_12 : xFl RX6 12 TX6 18 0 := ⟨by decide, xT1 53 (by decide +kernel) (by decide +kernel)⟩
theorem fX6_18 : xFl RX6 18 TX6 18 1 := ⟨by decide, xT1 54 (by decide +kernel) (by decide +kernel)⟩
theorem fX6_21 : xFl RX6 21 TX6 18 2 := ⟨by decide, xT1 55 (by decide +kernel) (by decide +kernel)⟩
theorem fX6_25 : xFl RX6 25 TX6 18 3 := ⟨by decide, xT1 56 (by decide +kernel) (by decide +kernel)⟩
theorem fX6_28 : xFl RX6 28 TX6 18 4 := ⟨by decide, xT1 57 (by decide +kernel) (by decide +kernel)⟩
theorem fX6_31 : xFl RX6 31 TX6 18 5 := ⟨by decide, xT1 58 (by decide +kernel) (by decide +kernel)⟩
theorem fX6_34 : xFl RX6 34 TX6 18 6 := ⟨by decide, xT1 59 (by decide +kernel) (by decide +kernel)⟩
theorem fX6_37 : xFl RX6 37 TX6 18 7 := ⟨by decide, xT1 60 (by decide +kernel) (by decide +kernel)⟩
theorem fX6_40 : xFl RX6 40 TX6 18 8 := ⟨by decide, xT1 61 (by decide +kernel) (by decide +kernel)⟩
theorem fX6_43 : xFl RX6 43 TX6 18 9 := ⟨by decide, xT1 62 (by decide +kernel) (by decide +kernel)⟩
theorem fX6_46 : xFl RX6 46 TX6 18 10 := ⟨by decide, xT1 63 (by decide +kernel) (by decide +kernel)⟩
theorem fX6_49 : xFl RX6 49 TX6 18 11 := ⟨by decide, xT1 64 (by decide +kernel) (by decide +kernel)⟩
theorem fX6_53 : xFl RX6 53 TX6 18 12 := ⟨by decide, xT1 65 (by decide +kernel) (by decide +kernel)⟩
theorem fX6_56 : xFl RX6 56 TX6 18 13 := ⟨by decide, xT1 66 (by decide +kernel) (by decide +kernel)⟩
theorem fX6_59 : xFl RX6 59 TX6 18 14 := ⟨by decide, xT1 67 (by decide +kernel) (by decide +kernel)⟩
theorem fX6_62 : xFl RX6 62 TX6 18 15 := ⟨by decide, xT1 68 (by decide +kernel) (by decide +kernel)⟩
theorem fX6_65 : xFl RX6 65 TX6 18 16 := ⟨by decide, xT1 69 (by decide +kernel) (by decide +kernel)⟩
theorem fX6_69 : xFl RX6 69 TX6 18 17 := ⟨by decide, xT1 70 (by decide +kernel) (by decide +kernel)⟩
theorem fX4_11 : xFl RX4 11 TX4 9 0 := ⟨by decide, xT1 116 (by decide +kernel) (by decide +kernel)⟩
theorem fX4_15 : xFl RX4 15 TX4 9 1 := ⟨by decide, xT1 117 (by decide +kernel) (by decide +kernel)⟩
theorem fX4_19 : xFl RX4 19 TX4 9 2 := ⟨by decide, xT1 118 (by decide +kernel) (by decide +kernel)⟩
theorem fX4_22 : xFl RX4 22 TX4 9 3 := ⟨by decide, xT1 119 (by decide +kernel) (by decide +kernel)⟩
theorem fX4_26 : xFl RX4 26 TX4 9 4 := ⟨by decide, xT1 120 (by decide +kernel) (by decide +kernel)⟩
theorem fX4_29 : xFl RX4 29 TX4 9 5 := ⟨by decide, xT1 121 (by decide +kernel) (by decide +kernel)⟩
theorem fX4_32 : xFl RX4 32 TX4 9 6 := ⟨by decide, xT1 122 (by decide +kernel) (by decide +kernel)⟩
theorem fX4_35 : xFl RX4 35 TX4 9 7 := ⟨by decide, xT1 123 (by decide +kernel) (by decide +kernel)⟩
theorem fX4_38 : xFl RX4 38 TX4 9 8 := ⟨by decide, xT1 124 (by decide +kernel) (by decide +kernel)⟩
theorem fX1_9 : xFl RX1 9 TX1 4 0 := ⟨by decide, xT1 150 (by decide +kernel) (by decide +kernel)⟩
theorem fX1_15 : xFl RX1 15 TX1 4 1 := ⟨by decide, xT1 151 (by decide +kernel) (by decide +kernel)⟩
theorem fX1_18 : xFl RX1 18 TX1 4 2 := ⟨by decide, xT1 152 (by decide +kernel) (by decide +kernel)⟩
theorem fX1_21 : xFl RX1 21 TX1 4 3 := ⟨by decide, xT1 153 (by decide +kernel) (by decide +kernel)⟩
theorem fX10_12 : xFl RX10 12 TX10 10 0 := ⟨by decide, xT1 163 (by decide +kernel) (by decide +kernel)⟩
theorem fX10_19 : xFl RX10 19 TX10 10 1 := ⟨by decide, xT1 164 (by decide +kernel) (by decide +kernel)⟩
theorem fX10_23 : xFl RX10 23 TX10 10 2 := ⟨by decide, xT1 165 (by decide +kernel) (by decide +kernel)⟩
theorem fX10_26 : xFl RX10 26 TX10 10 3 := ⟨by decide, xT1 166 (by decide +kernel) (by decide +kernel)⟩
theorem fX10_32 : xFl RX10 32 TX10 10 4 := ⟨by decide, xT1 167 (by decide +kernel) (by decide +kernel)⟩
theorem fX10_36 : xFl RX10 36 TX10 10 5 := ⟨by decide, xT1 168 (by decide +kernel) (by decide +kernel)⟩
theorem fX10_42 : xFl RX10 42 TX10 10 6 := ⟨by decide, xT1 169 (by decide +kernel) (by decide +kernel)⟩
theorem fX10_46 : xFl RX10 46 TX10 10 7 := ⟨by decide, xT1 170 (by decide +kernel) (by decide +kernel)⟩
theorem fX10_49 : xFl RX10 49 TX10 10 8 := ⟨by decide, xT1 171 (by decide +kernel) (by decide +kernel)⟩
theorem fX10_52 : xFl RX10 52 TX10 10 9 := ⟨by decide, xT1 172 (by decide +kernel) (by decide +kernel)⟩
theorem fX0_15 : xFl RX0 15 TX0 3 0 := ⟨by decide, xT1 221 (by decide +kernel) (by decide +kernel)⟩
theorem fX0_19 : xFl RX0 19 TX0 3 1 := ⟨by decide, xT1 222 (by decide +kernel) (by decide +kernel)⟩
theorem fX0_9 : xFl RX0 9 TX0 3 2 := ⟨by decide, xT1 223 (by decide +kernel) (by decide +kernel)⟩
theorem fX8_38 : xFl RX8 38 TX8 13 0 := ⟨by decide, xT3 14 (by decide +kernel) (by decide +kernel)⟩
theorem fX8_42 : xFl RX8 42 TX8 13 1 := ⟨by decide, xT3 15 (by decide +kernel) (by decide +kernel)⟩
theorem fX8_46 : xFl RX8 46 TX8 13 2 := ⟨by decide, xT3 16 (by decide +kernel) (by decide +kernel)⟩
theorem fX8_50 : xFl RX8 50 TX8 13 3 := ⟨by decide, xT3 17 (by decide +kernel) (by decide +kernel)⟩
theorem fX8_53 : xFl RX8 53 TX8 13 4 := ⟨by decide, xT3 18 (by decide +kernel) (by decide +kernel)⟩
theorem fX8_9 : xFl RX8 9 TX8 13 5 := ⟨by decide, xT3 19 (by decide +kernel) (by decide +kernel)⟩
theorem fX8_15 : xFl RX8 15 TX8 13 6 := ⟨by decide, xT3 20 (by decide +kernel) (by decide +kernel)⟩
theorem fX8_18 : xFl RX8 18 TX8 13 7 := ⟨by decide, xT3 21 (by decide +kernel) (by decide +kernel)⟩
theorem fX8_21 : xFl RX8 21 TX8 13 8 := ⟨by decide, xT3 22 (by decide +kernel) (by decide +kernel)⟩
theorem fX8_24 : xFl RX8 24 TX8 13 9 := ⟨by decide, xT3 23 (by decide +kernel) (by decide +kernel)⟩
theorem fX8_27 : xFl RX8 27 TX8 13 10 := ⟨by decide, xT3 24 (by decide +kernel) (by decide +kernel)⟩
theorem fX8_30 : xFl RX8 30 TX8 13 11 := ⟨by decide, xT3 25 (by decide +kernel) (by decide +kernel)⟩
theorem fX8_34 : xFl RX8 34 TX8 13 12 := ⟨by decide, xT3 26 (by decide +kernel) (by decide +kernel)⟩
theorem fX9_24 : xFl RX9 24 TX9 7 0 := ⟨by decide, xT4 3 (by decide +kernel) (by decide +kernel)⟩
theorem fX9_28 : xFl RX9 28 TX9 7 1 := ⟨by decide, xT4 4 (by decide +kernel) (by decide +kernel)⟩
theorem fX9_38 : xFl RX9 38 TX9 7 2 := ⟨by decide, xT4 5 (by decide +kernel) (by decide +kernel)⟩
theorem fX9_9 : xFl RX9 9 TX9 7 3 := ⟨by decide, xT4 6 (by decide +kernel) (by decide +kernel)⟩
theorem fX9_15 : xFl RX9 15 TX9 7 4 := ⟨by decide, xT4 7 (by decide +kernel) (by decide +kernel)⟩
theorem fX9_18 : xFl RX9 18 TX9 7 5 := ⟨by decide, xT4 8 (by decide +kernel) (by decide +kernel)⟩
theorem fX9_21 : xFl RX9 21 TX9 7 6 := ⟨by decide, xT4 9 (by decide +kernel) (by decide +kernel)⟩
theorem fX7_9 : xFl RX7 9 TX7 2 0 := ⟨by decide, xT4 193 (by decide +kernel) (by decide +kernel)⟩
theorem fX7_21 : xFl RX7 21 TX7 2 1 := ⟨by decide, xT4 194 (by decide +kernel) (by decide +kernel)⟩
theorem fX3_15 : xFl RX3 15 TX3 12 0 := ⟨by decide, xT4 201 (by decide +kernel) (by decide +kernel)⟩
theorem fX3_19 : xFl RX3 19 TX3 12 1 := ⟨by decide, xT4 202 (by decide +kernel) (by decide +kernel)⟩
theorem fX3_29 : xFl RX3 29 TX3 12 2 := ⟨by decide, xT4 203 (by decide +kernel) (by decide +kernel)⟩
theorem fX3_35 : xFl RX3 35 TX3 12 3 := ⟨by decide, xT4 204 (by decide +kernel) (by decide +kernel)⟩
theorem fX3_37 : xFl RX3 37 TX3 12 4 := ⟨by decide, xT4 205 (by decide +kernel) (by decide +kernel)⟩
theorem fX3_46 : xFl RX3 46 TX3 12 5 := ⟨by decide, xT4 206 (by decide +kernel) (by decide +kernel)⟩
theorem fX3_54 : xFl RX3 54 TX3 12 6 := ⟨by decide, xT4 207 (by decide +kernel) (by decide +kernel)⟩
theorem fX3_57 : xFl RX3 57 TX3 12 7 := ⟨by decide, xT4 208 (by decide +kernel) (by decide +kernel)⟩
theorem fX3_60 : xFl RX3 60 TX3 12 8 := ⟨by decide, xT4 209 (by decide +kernel) (by decide +kernel)⟩
theorem fX3_63 : xFl RX3 63 TX3 12 9 := ⟨by decide, xT4 210 (by decide +kernel) (by decide +kernel)⟩
theorem fX3_66 : xFl RX3 66 TX3 12 10 := ⟨by decide, xT4 211 (by decide +kernel) (by decide +kernel)⟩
theorem fX3_9 : xFl RX3 9 TX3 12 11 := ⟨by decide, xT4 212 (by decide +kernel) (by decide +kernel)⟩
theorem fX2_25 : xFl RX2 25 TX2 7 0 := ⟨by decide, xT5 193 (by decide +kernel) (by decide +kernel)⟩
theorem fX2_29 : xFl RX2 29 TX2 7 1 := ⟨by decide, xT5 194 (by decide +kernel) (by decide +kernel)⟩
theorem fX2_33 : xFl RX2 33 TX2 7 2 := ⟨by decide, xT5 195 (by decide +kernel) (by decide +kernel)⟩
theorem fX2_9 : xFl RX2 9 TX2 7 3 := ⟨by decide, xT5 196 (by decide +kernel) (by decide +kernel)⟩
theorem fX2_15 : xFl RX2 15 TX2 7 4 := ⟨by decide, xT5 197 (by decide +kernel) (by decide +kernel)⟩
theorem fX2_18 : xFl RX2 18 TX2 7 5 := ⟨by decide, xT5 198 (by decide +kernel) (by decide +kernel)⟩
theorem fX2_21 : xFl RX2 21 TX2 7 6 := ⟨by decide, xT5 199 (by decide +kernel) (by decide +kernel)⟩
theorem fX11_171 : xFl RX11 171 TX11 72 0 := ⟨by decide, xT6 35 (by decide +kernel) (by decide +kernel)⟩
theorem fX11_7 : xFl RX11 7 TX11 72 1 := ⟨by decide, xT6 36 (by decide +kernel) (by decide +kernel)⟩
theorem fX11_238 : xFl RX11 238 TX11 72 2 := ⟨by decide, xT6 37 (by decide +kernel) (by decide +kernel)⟩
theorem fX11_13 : xFl RX11 13 TX11 72 3 := ⟨by decide, xT6 38 (by decide +kernel) (by decide +kernel)⟩
theorem fX11_16 : xFl RX11 16 TX11 72 4 := ⟨by decide, xT6 39 (by decide +kernel) (by decide +kernel)⟩
theorem fX11_19 : xFl RX11 19 TX11 72 5 := ⟨by decide, xT6 40 (by decide +kernel) (by decide +kernel)⟩
theorem fX11_22 : xFl RX11 22 TX11 72 6 := ⟨by decide, xT6 41 (by decide +kernel) (by decide +kernel)⟩
theorem fX11_25 : xFl RX11 25 TX11 72 7 := ⟨by decide, xT6 42 (by decide +kernel) (by decide +kernel)⟩
theorem fX11_29 : xFl RX11 29 TX11 72 8 := ⟨by decide, xT6 43 (by decide +kernel) (by decide +kernel)⟩
theorem fX11_32 : xFl RX11 32 TX11 72 9 := ⟨by decide, xT6 44 (by decide +kernel) (by decide +kernel)⟩
theorem fX11_35 : xFl RX11 35 TX11 72 10 := ⟨by decide, xT6 45 (by decide +kernel) (by decide +kernel)⟩
theorem fX11_38 : xFl RX11 38 TX11 72 11 := ⟨by decide, xT6 46 (by decide +kernel) (by decide +kernel)⟩
theorem fX11_41 : xFl RX11 41 TX11 72 12 := ⟨by decide, xT6 47 (by decide +kernel) (by decide +kernel)⟩
theorem fX11_44 : xFl RX11 44 TX11 72 13 := ⟨by decide, xT6 48 (by decide +kernel) (by decide +kernel)⟩
theorem fX11_47 : xFl RX11 47 TX11 72 14 := ⟨by decide, xT6 49 (by decide +kernel) (by decide +kernel)⟩
theorem fX11_50 : xFl RX11 50 TX11 72 15 := ⟨by decide, xT6 50 (by decide +kernel) (by decide +kernel)⟩
theorem fX11_53 : xFl RX11 53 TX11 72 16 := ⟨by decide, xT6 51 (by decide +kernel) (by decide +kernel)⟩
theorem fX11_56 : xFl RX11 56 TX11 72 17 := ⟨by decide, xT6 52 (by decide +kernel) (by decide +kernel)⟩
theorem fX11_241 : xFl RX11 241 TX11 72 18 := ⟨by decide, xT6 53 (by decide +kernel) (by decide +kernel)⟩
theorem fX11_59 : xFl RX11 59 TX11 72 19 := ⟨by decide, xT6 54 (by decide +kernel) (by decide +kernel)⟩
theorem fX11_244 : xFl RX11 244 TX11 72 20 := ⟨by decide, xT6 55 (by decide +kernel) (by decide +kernel)⟩
theorem fX11_63 : xFl RX11 63 TX11 72 21 := ⟨by decide, xT6 56 (by decide +kernel) (by decide +kernel)⟩
theorem fX11_200 : xFl RX11 200 TX11 72 22 := ⟨by decide, xT6 57 (by decide +kernel) (by decide +kernel)⟩
theorem fX11_196 : xFl RX11 196 TX11 72 23 := ⟨by decide, xT6 58 (by decide +kernel) (by decide +kernel)⟩
theorem fX11_210 : xFl RX11 210 TX11 72 24 := ⟨by decide, xT6 59 (by decide +kernel) (by decide +kernel)⟩
theorem fX11_278 : xFl RX11 278 TX11 72 25 := ⟨by decide, xT6 60 (by decide +kernel) (by decide +kernel)⟩
theorem fX11_66 : xFl RX11 66 TX11 72 26 := ⟨by decide, xT6 61 (by decide +kernel) (by decide +kernel)⟩
theorem fX11_69 : xFl RX11 69 TX11 72 27 := ⟨by decide, xT6 62 (by decide +kernel) (by decide +kernel)⟩
theorem fX11_72 : xFl RX11 72 TX11 72 28 := ⟨by decide, xT6 63 (by decide +kernel) (by decide +kernel)⟩
theorem fX11_75 : xFl RX11 75 TX11 72 29 := ⟨by decide, xT6 64 (by decide +kernel) (by decide +kernel)⟩
theorem fX11_306 : xFl RX11 306 TX11 72 30 := ⟨by decide, xT6 65 (by decide +kernel) (by decide +kernel)⟩
theorem fX11_78 : xFl RX11 78 TX11 72 31 := ⟨by decide, xT6 66 (by decide +kernel) (by decide +kernel)⟩
theorem fX11_316 : xFl RX11 316 TX11 72 32 := ⟨by decide, xT6 67 (by decide +kernel) (by decide +kernel)⟩
theorem fX11_81 : xFl RX11 81 TX11 72 33 := ⟨by decide, xT6 68 (by decide +kernel) (by decide +kernel)⟩
theorem fX11_84 : xFl RX11 84 TX11 72 34 := ⟨by decide, xT6 69 (by decide +kernel) (by decide +kernel)⟩
theorem fX11_87 : xFl RX11 87 TX11 72 35 := ⟨by decide, xT6 70 (by decide +kernel) (by decide +kernel)⟩
theorem fX11_90 : xFl RX11 90 TX11 72 36 := ⟨by decide, xT6 71 (by decide +kernel) (by decide +kernel)⟩
theorem fX11_93 : xFl RX11 93 TX11 72 37 := ⟨by decide, xT6 72 (by decide +kernel) (by decide +kernel)⟩
theorem fX11_96 : xFl RX11 96 TX11 72 38 := ⟨by decide, xT6 73 (by decide +kernel) (by decide +kernel)⟩
theorem fX11_257 : xFl RX11 257 TX11 72 39 := ⟨by decide, xT6 74 (by decide +kernel) (by decide +kernel)⟩
theorem fX11_99 : xFl RX11 99 TX11 72 40 := ⟨by decide, xT6 75 (by decide +kernel) (by decide +kernel)⟩
theorem fX11_340 : xFl RX11 340 TX11 72 41 := ⟨by decide, xT6 76 (by decide +kernel) (by decide +kernel)⟩
theorem fX11_102 : xFl RX11 102 TX11 72 42 := ⟨by decide, xT6 77 (by decide +kernel) (by decide +kernel)⟩
theorem fX11_386 : xFl RX11 386 TX11 72 43 := ⟨by decide, xT6 78 (by decide +kernel) (by decide +kernel)⟩
theorem fX11_105 : xFl RX11 105 TX11 72 44 := ⟨by decide, xT6 79 (by decide +kernel) (by decide +kernel)⟩
theorem fX11_108 : xFl RX11 108 TX11 72 45 := ⟨by decide, xT6 80 (by decide +kernel) (by decide +kernel)⟩
theorem fX11_111 : xFl RX11 111 TX11 72 46 := ⟨by decide, xT6 81 (by decide +kernel) (by decide +kernel)⟩
theorem fX11_114 : xFl RX11 114 TX11 72 47 := ⟨by decide, xT6 82 (by decide +kernel) (by decide +kernel)⟩
theorem fX11_117 : xFl RX11 117 TX11 72 48 := ⟨by decide, xT6 83 (by decide +kernel) (by decide +kernel)⟩
theorem fX11_120 : xFl RX11 120 TX11 72 49 := ⟨by decide, xT6 84 (by decide +kernel) (by decide +kernel)⟩
theorem fX11_123 : xFl RX11 123 TX11 72 50 := ⟨by decide, xT6 85 (by decide +kernel) (by decide +kernel)⟩
theorem fX11_377 : xFl RX11 377 TX11 72 51 := ⟨by decide, xT6 86 (by decide +kernel) (by decide +kernel)⟩
theorem fX11_126 : xFl RX11 126 TX11 72 52 := ⟨by decide, xT6 87 (by decide +kernel) (by decide +kernel)⟩
theorem fX11_129 : xFl RX11 129 TX11 72 53 := ⟨by decide, xT6 88 (by decide +kernel) (by decide +kernel)⟩
theorem fX11_132 : xFl RX11 132 TX11 72 54 := ⟨by decide, xT6 89 (by decide +kernel) (by decide +kernel)⟩
theorem fX11_135 : xFl RX11 135 TX11 72 55 := ⟨by decide, xT6 90 (by decide +kernel) (by decide +kernel)⟩
theorem fX11_355 : xFl RX11 355 TX11 72 56 := ⟨by decide, xT6 91 (by decide +kernel) (by decide +kernel)⟩
theorem fX11_138 : xFl RX11 138 TX11 72 57 := ⟨by decide, xT6 92 (by decide +kernel) (by decide +kernel)⟩
theorem fX11_141 : xFl RX11 141 TX11 72 58 := ⟨by decide, xT6 93 (by decide +kernel) (by decide +kernel)⟩
theorem fX11_343 : xFl RX11 343 TX11 72 59 := ⟨by decide, xT6 94 (by decide +kernel) (by decide +kernel)⟩
theorem fX11_395 : xFl RX11 395 TX11 72 60 := ⟨by decide, xT6 95 (by decide +kernel) (by decide +kernel)⟩
theorem fX11_144 : xFl RX11 144 TX11 72 61 := ⟨by decide, xT6 96 (by decide +kernel) (by decide +kernel)⟩
theorem fX11_147 : xFl RX11 147 TX11 72 62 := ⟨by decide, xT6 97 (by decide +kernel) (by decide +kernel)⟩
theorem fX11_150 : xFl RX11 150 TX11 72 63 := ⟨by decide, xT6 98 (by decide +kernel) (by decide +kernel)⟩
theorem fX11_153 : xFl RX11 153 TX11 72 64 := ⟨by decide, xT6 99 (by decide +kernel) (by decide +kernel)⟩
theorem fX11_156 : xFl RX11 156 TX11 72 65 := ⟨by decide, xT6 100 (by decide +kernel) (by decide +kernel)⟩
theorem fX11_159 : xFl RX11 159 TX11 72 66 := ⟨by decide, xT6 101 (by decide +kernel) (by decide +kernel)⟩
theorem fX11_420 : xFl RX11 420 TX11 72 67 := ⟨by decide, xT6 102 (by decide +kernel) (by decide +kernel)⟩
theorem fX11_162 : xFl RX11 162 TX11 72 68 := ⟨by decide, xT6 103 (by decide +kernel) (by decide +kernel)⟩
theorem fX11_165 : xFl RX11 165 TX11 72 69 := ⟨by decide, xT6 104 (by decide +kernel) (by decide +kernel)⟩
theorem fX11_168 : xFl RX11 168 TX11 72 70 := ⟨by decide, xT6 105 (by decide +kernel) (by decide +kernel)⟩
theorem fX11_505 : xFl RX11 505 TX11 72 71 := ⟨by decide, xT6 106 (by decide +kernel) (by decide +kernel)⟩
theorem fJ0_38 : Cond.fieldLink RJ0 38 "java/lang/String" "COMPACT_STRINGS" "Z" ∈ xTs := xT2 108 (by decide +kernel) (by decide +kernel)
theorem fJ0_1053 : Cond.fieldLink RJ0 1053 "jdk/internal/util/Preconditions" "SIOOBE_FORMATTER" "Ljava/util/function/BiFunction;" ∈ xTs := xT2 124 (by decide +kernel) (by decide +kernel)
theorem fJ0_9 : Cond.fieldLink RJ0 9 "java/lang/String" "value" "[B" ∈ xTs := xT8 165 (by decide +kernel) (by decide +kernel)
theorem fJ0_15 : Cond.fieldLink RJ0 15 "java/lang/String" "coder" "B" ∈ xTs := xT8 166 (by decide +kernel) (by decide +kernel)
set_option maxRecDepth 100000 in
theorem eX0_init : xCe yX0_init cX0_init 3 none 2 := ⟨xT1 9 (by decide +kernel) (by decide +kernel), xT1 219 rfl rfl, ⟨by decide +kernel, by decide +kernel, by decide +kernel⟩, by decide⟩
theorem sX0_init : yX0_init.name = "<init>" ∧ Cond.instanceMethod yX0_init ∈ xTs := ⟨rfl, xT1 218 (by decide +kernel) (by decide +kernel)⟩
set_option maxRecDepth 100000 in
theorem eX0_firstWrong : xCe yX0_firstWrong cX0_firstWrong 3 (some .int) 0 := ⟨xT1 9 (by decide +kernel) (by decide +kernel), xT1 234 rfl rfl, ⟨by decide +kernel, by decide +kernel, by decide +kernel⟩, by decide⟩
theorem sX0_firstWrong : xCi yX0_firstWrong := ⟨xT1 232 (by decide +kernel) (by decide +kernel), xT1 233 (by decide +kernel) (by decide +kernel)⟩
set_option maxRecDepth 100000 in
theorem eX0_isClassRight : xCe yX0_isClassRight cX0_isClassRight 4 (some .boolean) 1 := ⟨xT1 9 (by decide +kernel) (by decide +kernel), xT2 2 rfl rfl, ⟨by decide +kernel, by decide +kernel, by decide +kernel⟩, by decide⟩
theorem sX0_isClassRight : xCi yX0_isClassRight := ⟨xT2 1 (by decide +kernel) (by decide +kernel), xTs_s 0 (by decide +kernel) (by decide +kernel)⟩
set_option maxRecDepth 100000 in
theorem eX0_isFieldRight : xCe yX0_isFieldRight cX0_isFieldRight 5 (some .boolean) 2 := ⟨xT1 9 (by decide +kernel) (by decide +kernel), xT2 39 rfl rfl, ⟨by decide +kernel, by decide +kernel, by decide +kernel⟩, by decide⟩
theorem sX0_isFieldRight : xCi yX0_isFieldRight := ⟨xT2 38 (by decide +kernel) (by decide +kernel), xTs_s 4 (by decide +kernel) (by decide +kernel)⟩
set_option maxRecDepth 100000 in
theorem eX0_isNameRight : xCe yX0_isNameRight cX0_isNameRight 3 (some .boolean) 1 := ⟨xT1 9 (by decide +kernel) (by decide +kernel), xT2 10 rfl rfl, ⟨by decide +kernel, by decide +kernel, by decide +kernel⟩, by decide⟩
theorem sX0_isNameRight : xCi yX0_isNameRight := ⟨xT2 9 (by decide +kernel) (by decide +kernel), xTs_s 1 (by decide +kernel) (by decide +kernel)⟩
set_option maxRecDepth 100000 in
theorem eX0_skips : xCe yX0_skips cX0_skips 2 (some .boolean) 1 := ⟨xT1 9 (by decide +kernel) (by decide +kernel), xT2 35 rfl rfl, ⟨by decide +kernel, by decide +kernel, by decide +kernel⟩, by decide⟩
theorem sX0_skips : xCi yX0_skips := ⟨xT2 34 (by decide +kernel) (by decide +kernel), xTs_s 3 (by decide +kernel) (by decide +kernel)⟩
set_option maxRecDepth 100000 in
theorem eX0_isNameSign : xCe yX0_isNameSign cX0_isNameSign 1 (some .boolean) 1 := ⟨xT1 9 (by decide +kernel) (by decide +kernel), xT2 20 rfl rfl, ⟨by decide +kernel, by decide +kernel, by decide +kernel⟩, by decide⟩
theorem sX0_isNameSign : Cond.static yX0_isNameSign ∈ xTs := xT2 19 (by decide +kernel) (by decide +kernel)
set_option maxRecDepth 100000 in
theorem eX0_shapeOf : xCe yX0_shapeOf cX0_shapeOf 1 (some .int) 1 := ⟨xT1 9 (by decide +kernel) (by decide +kernel), xT2 54 rfl rfl, ⟨by decide +kernel, by decide +kernel, by decide +kernel⟩, by decide⟩
theorem sX0_shapeOf : Cond.static yX0_shapeOf ∈ xTs := xT2 53 (by decide +kernel) (by decide +kernel)
set_option maxRecDepth 100000 in
theorem eX1_init : xCe yX1_init cX1_init 1 none 0 := ⟨xT1 5 (by decide +kernel) (by decide +kernel), xT1 148 rfl rfl, ⟨by decide +kernel, by decide +kernel, by decide +kernel⟩, by decide⟩
theorem sX1_init : yX1_init.name = "<init>" ∧ Cond.instanceMethod yX1_init ∈ xTs := ⟨rfl, xT1 147 (by decide +kernel) (by decide +kernel)⟩
set_option maxRecDepth 100000 in
theorem eX1_size : xCe yX1_size cX1_size 1 (some .int) 0 := ⟨xT1 5 (by decide +kernel) (by decide +kernel), xT5 182 rfl rfl, ⟨by decide +kernel, by decide +kernel, by decide +kernel⟩, by decide⟩
theorem sX1_size : xCi yX1_size := ⟨xT5 180 (by decide +kernel) (by decide +kernel), xT5 181 (by decide +kernel) (by decide +kernel)⟩
set_option maxRecDepth 100000 in
theorem eX1_has : xCe yX1_has cX1_has 2 (some .boolean) 1 := ⟨xT1 5 (by decide +kernel) (by decide +kernel), xT2 186 rfl rfl, ⟨by decide +kernel, by decide +kernel, by decide +kernel⟩, by decide⟩
theorem sX1_has : xCi yX1_has := ⟨xT2 184 (by decide +kernel) (by decide +kernel), xT2 185 (by decide +kernel) (by decide +kernel)⟩
set_option maxRecDepth 100000 in
theorem eX1_clear : xCe yX1_clear cX1_clear 1 none 0 := ⟨xT1 5 (by decide +kernel) (by decide +kernel), xT2 156 rfl rfl, ⟨by decide +kernel, by decide +kernel, by decide +kernel⟩, by decide⟩
theorem sX1_clear : xCi yX1_clear := ⟨xT2 154 (by decide +kernel) (by decide +kernel), xT2 155 (by decide +kernel) (by decide +kernel)⟩
set_option maxRecDepth 100000 in
theorem eX1_born : xCe yX1_born cX1_born 4 (some .int) 2 := ⟨xT1 5 (by decide +kernel) (by decide +kernel), xT2 174 rfl rfl, ⟨by decide +kernel, by decide +kernel, by decide +kernel⟩, by decide⟩
theorem sX1_born : xCi yX1_born := ⟨xT2 172 (by decide +kernel) (by decide +kernel), xT2 173 (by decide +kernel) (by decide +kernel)⟩
set_option maxRecDepth 100000 in
theorem eX1_classOf : xCe yX1_classOf cX1_classOf 2 (some .int) 1 := ⟨xT1 5 (by decide +kernel) (by decide +kernel), xT2 190 rfl rfl, ⟨by decide +kernel, by decide +kernel, by decide +kernel⟩, by decide⟩
theorem sX1_classOf : xCi yX1_classOf := ⟨xT2 188 (by decide +kernel) (by decide +kernel), xT2 189 (by decide +kernel) (by decide +kernel)⟩
set_option maxRecDepth 100000 in
theorem eX1_hasField : xCe yX1_hasField cX1_hasField 3 (some .boolean) 2 := ⟨xT1 5 (by decide +kernel) (by decide +kernel), xT2 203 rfl rfl, ⟨by decide +kernel, by decide +kernel, by decide +kernel⟩, by decide⟩
theorem sX1_hasField : xCi yX1_hasField := ⟨xT2 202 (by decide +kernel) (by decide +kernel), xTs_s 11 (by decide +kernel) (by decide +kernel)⟩
set_option maxRecDepth 100000 in
theorem eX1_head : xCe yX1_head cX1_head 3 (some .int) 2 := ⟨xT1 5 (by decide +kernel) (by decide +kernel), xT2 230 rfl rfl, ⟨by decide +kernel, by decide +kernel, by decide +kernel⟩, by decide⟩
theorem sX1_head : xCi yX1_head := ⟨xT2 228 (by decide +kernel) (by decide +kernel), xT2 229 (by decide +kernel) (by decide +kernel)⟩
set_option maxRecDepth 100000 in
theorem eX1_putHead : xCe yX1_putHead cX1_putHead 4 none 3 := ⟨xT1 5 (by decide +kernel) (by decide +kernel), xT2 199 rfl rfl, ⟨by decide +kernel, by decide +kernel, by decide +kernel⟩, by decide⟩
theorem sX1_putHead : xCi yX1_putHead := ⟨xT2 197 (by decide +kernel) (by decide +kernel), xT2 198 (by decide +kernel) (by decide +kernel)⟩
set_option maxRecDepth 100000 in
theorem eX1_hasCell : xCe yX1_hasCell cX1_hasCell 4 (some .boolean) 3 := ⟨xT1 5 (by decide +kernel) (by decide +kernel), xT2 239 rfl rfl, ⟨by decide +kernel, by decide +kernel, by decide +kernel⟩, by decide⟩
theorem sX1_hasCell : xCi yX1_hasCell := ⟨xT2 238 (by decide +kernel) (by decide +kernel), xTs_s 12 (by decide +kernel) (by decide +kernel)⟩
set_option maxRecDepth 100000 in
theorem eX1_cell : xCe yX1_cell cX1_cell 4 (some .int) 3 := ⟨xT1 5 (by decide +kernel) (by decide +kernel), xT3 133 rfl rfl, ⟨by decide +kernel, by decide +kernel, by decide +kernel⟩, by decide⟩
theorem sX1_cell : xCi yX1_cell := ⟨xT3 131 (by decide +kernel) (by decide +kernel), xT3 132 (by decide +kernel) (by decide +kernel)⟩
set_option maxRecDepth 100000 in
theorem eX1_putCell : xCe yX1_putCell cX1_putCell 5 none 4 := ⟨xT1 5 (by decide +kernel) (by decide +kernel), xT2 235 rfl rfl, ⟨by decide +kernel, by decide +kernel, by decide +kernel⟩, by decide⟩
theorem sX1_putCell : xCi yX1_putCell := ⟨xT2 233 (by decide +kernel) (by decide +kernel), xT2 234 (by decide +kernel) (by decide +kernel)⟩
set_option maxRecDepth 100000 in
theorem eX1_append : xCe yX1_append cX1_append 5 (some .int) 3 := ⟨xT1 5 (by decide +kernel) (by decide +kernel), xT2 226 rfl rfl, ⟨by decide +kernel, by decide +kernel, by decide +kernel⟩, by decide⟩
theorem sX1_append : xCi yX1_append := ⟨xT2 224 (by decide +kernel) (by decide +kernel), xT2 225 (by decide +kernel) (by decide +kernel)⟩
set_option maxRecDepth 100000 in
theorem eX1_putText : xCe yX1_putText cX1_putText 8 none 5 := ⟨xT1 5 (by decide +kernel) (by decide +kernel), xT2 216 rfl rfl, ⟨by decide +kernel, by decide +kernel, by decide +kernel⟩, by decide⟩
theorem sX1_putText : xCi yX1_putText := ⟨xT2 214 (by decide +kernel) (by decide +kernel), xT2 215 (by decide +kernel) (by decide +kernel)⟩
set_option maxRecDepth 100000 in
theorem eX2_init : xCe yX2_init cX2_init 4 none 3 := ⟨xT1 18 (by decide +kernel) (by decide +kernel), xT5 191 rfl rfl, ⟨by decide +kernel, by decide +kernel, by decide +kernel⟩, by decide⟩
theorem sX2_init : yX2_init.name = "<init>" ∧ Cond.instanceMethod yX2_init ∈ xTs := ⟨rfl, xT5 190 (by decide +kernel) (by decide +kernel)⟩
set_option maxRecDepth 100000 in
theorem eX2_holdsFrom : xCe yX2_holdsFrom cX2_holdsFrom 4 (some .boolean) 2 := ⟨xT1 18 (by decide +kernel) (by decide +kernel), xT5 218 rfl rfl, ⟨by decide +kernel, by decide +kernel, by decide +kernel⟩, by decide⟩
theorem sX2_holdsFrom : xCi yX2_holdsFrom := ⟨xT5 216 (by decide +kernel) (by decide +kernel), xT5 217 (by decide +kernel) (by decide +kernel)⟩
set_option maxRecDepth 100000 in
theorem eX2_pairs : xCe yX2_pairs cX2_pairs 3 (some .boolean) 2 := ⟨xT1 18 (by decide +kernel) (by decide +kernel), xT5 225 rfl rfl, ⟨by decide +kernel, by decide +kernel, by decide +kernel⟩, by decide⟩
theorem sX2_pairs : xCi yX2_pairs := ⟨xT5 224 (by decide +kernel) (by decide +kernel), xTs_s 67 (by decide +kernel) (by decide +kernel)⟩
set_option maxRecDepth 100000 in
theorem eX2_areFieldsAlike : xCe yX2_areFieldsAlike cX2_areFieldsAlike 7 (some .boolean) 2 := ⟨xT1 18 (by decide +kernel) (by decide +kernel), xT5 231 rfl rfl, ⟨by decide +kernel, by decide +kernel, by decide +kernel⟩, by decide⟩
theorem sX2_areFieldsAlike : xCi yX2_areFieldsAlike := ⟨xT5 230 (by decide +kernel) (by decide +kernel), xTs_s 68 (by decide +kernel) (by decide +kernel)⟩
set_option maxRecDepth 100000 in
theorem eX2_areTextsAlike : xCe yX2_areTextsAlike cX2_areTextsAlike 5 (some .boolean) 3 := ⟨xT1 18 (by decide +kernel) (by decide +kernel), xT5 238 rfl rfl, ⟨by decide +kernel, by decide +kernel, by decide +kernel⟩, by decide⟩
theorem sX2_areTextsAlike : xCi yX2_areTextsAlike := ⟨xT5 237 (by decide +kernel) (by decide +kernel), xTs_s 69 (by decide +kernel) (by decide +kernel)⟩
set_option maxRecDepth 100000 in
theorem eX2_areListsAlike : xCe yX2_areListsAlike cX2_areListsAlike 5 (some .boolean) 3 := ⟨xT1 18 (by decide +kernel) (by decide +kernel), xT6 3 rfl rfl, ⟨by decide +kernel, by decide +kernel, by decide +kernel⟩, by decide⟩
theorem sX2_areListsAlike : xCi yX2_areListsAlike := ⟨xT6 2 (by decide +kernel) (by decide +kernel), xTs_s 70 (by decide +kernel) (by decide +kernel)⟩
set_option maxRecDepth 100000 in
theorem eX3_init : xCe yX3_init cX3_init 4 none 3 := ⟨xT1 16 (by decide +kernel) (by decide +kernel), xT4 179 rfl rfl, ⟨by decide +kernel, by decide +kernel, by decide +kernel⟩, by decide⟩
theorem sX3_init : yX3_init.name = "<init>" ∧ Cond.instanceMethod yX3_init ∈ xTs := ⟨rfl, xT4 178 (by decide +kernel) (by decide +kernel)⟩
set_option maxRecDepth 100000 in
theorem eX3_firstWrong : xCe yX3_firstWrong cX3_firstWrong 2 (some .int) 0 := ⟨xT1 16 (by decide +kernel) (by decide +kernel), xT5 1 rfl rfl, ⟨by decide +kernel, by decide +kernel, by decide +kernel⟩, by decide⟩
theorem sX3_firstWrong : xCi yX3_firstWrong := ⟨xT4 239 (by decide +kernel) (by decide +kernel), xT5 0 (by decide +kernel) (by decide +kernel)⟩
set_option maxRecDepth 100000 in
theorem eX3_isPlaced : xCe yX3_isPlaced cX3_isPlaced 3 (some .boolean) 1 := ⟨xT1 16 (by decide +kernel) (by decide +kernel), xT5 6 rfl rfl, ⟨by decide +kernel, by decide +kernel, by decide +kernel⟩, by decide⟩
theorem sX3_isPlaced : xCi yX3_isPlaced := ⟨xT5 5 (by decide +kernel) (by decide +kernel), xTs_s 48 (by decide +kernel) (by decide +kernel)⟩
set_option maxRecDepth 100000 in
theorem eX3_begins : xCe yX3_begins cX3_begins 4 (some .boolean) 2 := ⟨xT1 16 (by decide +kernel) (by decide +kernel), xT5 28 rfl rfl, ⟨by decide +kernel, by decide +kernel, by decide +kernel⟩, by decide⟩
theorem sX3_begins : xCi yX3_begins := ⟨xT5 27 (by decide +kernel) (by decide +kernel), xTs_s 49 (by decide +kernel) (by decide +kernel)⟩
set_option maxRecDepth 100000 in
theorem eX3_takesRole : xCe yX3_takesRole cX3_takesRole 5 none 4 := ⟨xT1 16 (by decide +kernel) (by decide +kernel), xT5 34 rfl rfl, ⟨by decide +kernel, by decide +kernel, by decide +kernel⟩, by decide⟩
theorem sX3_takesRole : xCi yX3_takesRole := ⟨xT5 33 (by decide +kernel) (by decide +kernel), xTs_s 50 (by decide +kernel) (by decide +kernel)⟩
set_option maxRecDepth 100000 in
theorem eX3_isPlacedInObject : xCe yX3_isPlacedInObject cX3_isPlacedInObject 6 (some .boolean) 2 := ⟨xT1 16 (by decide +kernel) (by decide +kernel), xT5 38 rfl rfl, ⟨by decide +kernel, by decide +kernel, by decide +kernel⟩, by decide⟩
theorem sX3_isPlacedInObject : xCi yX3_isPlacedInObject := ⟨xT5 37 (by decide +kernel) (by decide +kernel), xTs_s 51 (by decide +kernel) (by decide +kernel)⟩
set_option maxRecDepth 100000 in
theorem eX3_isPlacedAsTarget : xCe yX3_isPlacedAsTarget cX3_isPlacedAsTarget 6 (some .boolean) 3 := ⟨xT1 16 (by decide +kernel) (by decide +kernel), xT5 66 rfl rfl, ⟨by decide +kernel, by decide +kernel, by decide +kernel⟩, by decide⟩
theorem sX3_isPlacedAsTarget : xCi yX3_isPlacedAsTarget := ⟨xT5 65 (by decide +kernel) (by decide +kernel), xTs_s 53 (by decide +kernel) (by decide +kernel)⟩
set_option maxRecDepth 100000 in
theorem eX3_isPlacedInList : xCe yX3_isPlacedInList cX3_isPlacedInList 6 (some .boolean) 3 := ⟨xT1 16 (by decide +kernel) (by decide +kernel), xT5 50 rfl rfl, ⟨by decide +kernel, by decide +kernel, by decide +kernel⟩, by decide⟩
theorem sX3_isPlacedInList : xCi yX3_isPlacedInList := ⟨xT5 49 (by decide +kernel) (by decide +kernel), xTs_s 52 (by decide +kernel) (by decide +kernel)⟩
set_option maxRecDepth 100000 in
theorem eX3_isSound : xCe yX3_isSound cX3_isSound 2 (some .boolean) 1 := ⟨xT1 16 (by decide +kernel) (by decide +kernel), xT5 84 rfl rfl, ⟨by decide +kernel, by decide +kernel, by decide +kernel⟩, by decide⟩
theorem sX3_isSound : xCi yX3_isSound := ⟨xT5 83 (by decide +kernel) (by decide +kernel), xTs_s 55 (by decide +kernel) (by decide +kernel)⟩
set_option maxRecDepth 100000 in
theorem eX3_areAttributesSound : xCe yX3_areAttributesSound cX3_areAttributesSound 8 (some .boolean) 1 := ⟨xT1 16 (by decide +kernel) (by decide +kernel), xT5 92 rfl rfl, ⟨by decide +kernel, by decide +kernel, by decide +kernel⟩, by decide⟩
theorem sX3_areAttributesSound : xCi yX3_areAttributesSound := ⟨xT5 91 (by decide +kernel) (by decide +kernel), xTs_s 56 (by decide +kernel) (by decide +kernel)⟩
set_option maxRecDepth 100000 in
theorem eX3_isIdSound : xCe yX3_isIdSound cX3_isIdSound 4 (some .boolean) 2 := ⟨xT1 16 (by decide +kernel) (by decide +kernel), xT5 108 rfl rfl, ⟨by decide +kernel, by decide +kernel, by decide +kernel⟩, by decide⟩
theorem sX3_isIdSound : xCi yX3_isIdSound := ⟨xT5 107 (by decide +kernel) (by decide +kernel), xTs_s 57 (by decide +kernel) (by decide +kernel)⟩
set_option maxRecDepth 100000 in
theorem eX3_idAt : xCe yX3_idAt cX3_idAt 5 (some .int) 2 := ⟨xT1 16 (by decide +kernel) (by decide +kernel), xT5 112 rfl rfl, ⟨by decide +kernel, by decide +kernel, by decide +kernel⟩, by decide⟩
theorem sX3_idAt : xCi yX3_idAt := ⟨xT5 111 (by decide +kernel) (by decide +kernel), xTs_s 58 (by decide +kernel) (by decide +kernel)⟩
set_option maxRecDepth 100000 in
theorem eX3_elementWithId : xCe yX3_elementWithId cX3_elementWithId 3 (some .int) 1 := ⟨xT1 16 (by decide +kernel) (by decide +kernel), xT5 118 rfl rfl, ⟨by decide +kernel, by decide +kernel, by decide +kernel⟩, by decide⟩
theorem sX3_elementWithId : xCi yX3_elementWithId := ⟨xT5 117 (by decide +kernel) (by decide +kernel), xTs_s 59 (by decide +kernel) (by decide +kernel)⟩
set_option maxRecDepth 100000 in
theorem eX3_fills : xCe yX3_fills cX3_fills 5 (some .boolean) 4 := ⟨xT1 16 (by decide +kernel) (by decide +kernel), xT5 122 rfl rfl, ⟨by decide +kernel, by decide +kernel, by decide +kernel⟩, by decide⟩
theorem sX3_fills : xCi yX3_fills := ⟨xT5 121 (by decide +kernel) (by decide +kernel), xTs_s 60 (by decide +kernel) (by decide +kernel)⟩
set_option maxRecDepth 100000 in
theorem eX3_fillsNumber : xCe yX3_fillsNumber cX3_fillsNumber 10 (some .boolean) 4 := ⟨xT1 16 (by decide +kernel) (by decide +kernel), xT5 126 rfl rfl, ⟨by decide +kernel, by decide +kernel, by decide +kernel⟩, by decide⟩
theorem sX3_fillsNumber : xCi yX3_fillsNumber := ⟨xT5 125 (by decide +kernel) (by decide +kernel), xTs_s 61 (by decide +kernel) (by decide +kernel)⟩
set_option maxRecDepth 100000 in
theorem eX3_leads : xCe yX3_leads cX3_leads 6 (some .boolean) 1 := ⟨xT1 16 (by decide +kernel) (by decide +kernel), xT5 146 rfl rfl, ⟨by decide +kernel, by decide +kernel, by decide +kernel⟩, by decide⟩
theorem sX3_leads : xCi yX3_leads := ⟨xT5 145 (by decide +kernel) (by decide +kernel), xTs_s 62 (by decide +kernel) (by decide +kernel)⟩
set_option maxRecDepth 100000 in
theorem eX4_init : xCe yX4_init cX4_init 1 none 0 := ⟨xT1 4 (by decide +kernel) (by decide +kernel), xT1 114 rfl rfl, ⟨by decide +kernel, by decide +kernel, by decide +kernel⟩, by decide⟩
theorem sX4_init : yX4_init.name = "<init>" ∧ Cond.instanceMethod yX4_init ∈ xTs := ⟨rfl, xT1 113 (by decide +kernel) (by decide +kernel)⟩
set_option maxRecDepth 100000 in
theorem eX4_fieldName : xCe yX4_fieldName cX4_fieldName 2 (some .int) 2 := ⟨xT1 4 (by decide +kernel) (by decide +kernel), xT2 50 rfl rfl, ⟨by decide +kernel, by decide +kernel, by decide +kernel⟩, by decide⟩
theorem sX4_fieldName : Cond.static yX4_fieldName ∈ xTs := xT2 49 (by decide +kernel) (by decide +kernel)
set_option maxRecDepth 100000 in
theorem eX4_isFieldName : xCe yX4_isFieldName cX4_isFieldName 1 (some .boolean) 1 := ⟨xT1 4 (by decide +kernel) (by decide +kernel), xT3 145 rfl rfl, ⟨by decide +kernel, by decide +kernel, by decide +kernel⟩, by decide⟩
theorem sX4_isFieldName : Cond.static yX4_isFieldName ∈ xTs := xT3 144 (by decide +kernel) (by decide +kernel)
set_option maxRecDepth 100000 in
theorem eX4_size : xCe yX4_size cX4_size 1 (some .int) 0 := ⟨xT1 4 (by decide +kernel) (by decide +kernel), xT2 160 rfl rfl, ⟨by decide +kernel, by decide +kernel, by decide +kernel⟩, by decide⟩
theorem sX4_size : xCi yX4_size := ⟨xT2 158 (by decide +kernel) (by decide +kernel), xT2 159 (by decide +kernel) (by decide +kernel)⟩
set_option maxRecDepth 100000 in
theorem eX4_isClass : xCe yX4_isClass cX4_isClass 2 (some .boolean) 1 := ⟨xT1 4 (by decide +kernel) (by decide +kernel), xT2 47 rfl rfl, ⟨by decide +kernel, by decide +kernel, by decide +kernel⟩, by decide⟩
theorem sX4_isClass : xCi yX4_isClass := ⟨xT2 45 (by decide +kernel) (by decide +kernel), xT2 46 (by decide +kernel) (by decide +kernel)⟩
set_option maxRecDepth 100000 in
theorem eX4_fieldCount : xCe yX4_fieldCount cX4_fieldCount 2 (some .int) 1 := ⟨xT1 4 (by decide +kernel) (by decide +kernel), xT3 151 rfl rfl, ⟨by decide +kernel, by decide +kernel, by decide +kernel⟩, by decide⟩
theorem sX4_fieldCount : xCi yX4_fieldCount := ⟨xT3 149 (by decide +kernel) (by decide +kernel), xT3 150 (by decide +kernel) (by decide +kernel)⟩
set_option maxRecDepth 100000 in
theorem eX4_isField : xCe yX4_isField cX4_isField 3 (some .boolean) 2 := ⟨xT1 4 (by decide +kernel) (by decide +kernel), xT2 62 rfl rfl, ⟨by decide +kernel, by decide +kernel, by decide +kernel⟩, by decide⟩
theorem sX4_isField : xCi yX4_isField := ⟨xT2 61 (by decide +kernel) (by decide +kernel), xTs_s 5 (by decide +kernel) (by decide +kernel)⟩
set_option maxRecDepth 100000 in
theorem eX4_shape : xCe yX4_shape cX4_shape 3 (some .int) 2 := ⟨xT1 4 (by decide +kernel) (by decide +kernel), xT2 195 rfl rfl, ⟨by decide +kernel, by decide +kernel, by decide +kernel⟩, by decide⟩
theorem sX4_shape : xCi yX4_shape := ⟨xT2 193 (by decide +kernel) (by decide +kernel), xT2 194 (by decide +kernel) (by decide +kernel)⟩
set_option maxRecDepth 100000 in
theorem eX4_isAttribute : xCe yX4_isAttribute cX4_isAttribute 3 (some .boolean) 2 := ⟨xT1 4 (by decide +kernel) (by decide +kernel), xT3 155 rfl rfl, ⟨by decide +kernel, by decide +kernel, by decide +kernel⟩, by decide⟩
theorem sX4_isAttribute : xCi yX4_isAttribute := ⟨xT3 153 (by decide +kernel) (by decide +kernel), xT3 154 (by decide +kernel) (by decide +kernel)⟩
set_option maxRecDepth 100000 in
theorem eX4_implicit : xCe yX4_implicit cX4_implicit 2 (some .int) 1 := ⟨xT1 4 (by decide +kernel) (by decide +kernel), xT2 70 rfl rfl, ⟨by decide +kernel, by decide +kernel, by decide +kernel⟩, by decide⟩
theorem sX4_implicit : xCi yX4_implicit := ⟨xT2 68 (by decide +kernel) (by decide +kernel), xT2 69 (by decide +kernel) (by decide +kernel)⟩
set_option maxRecDepth 100000 in
theorem eX4_isExplicitList : xCe yX4_isExplicitList cX4_isExplicitList 3 (some .boolean) 2 := ⟨xT1 4 (by decide +kernel) (by decide +kernel), xT3 107 rfl rfl, ⟨by decide +kernel, by decide +kernel, by decide +kernel⟩, by decide⟩
theorem sX4_isExplicitList : xCi yX4_isExplicitList := ⟨xT3 105 (by decide +kernel) (by decide +kernel), xT3 106 (by decide +kernel) (by decide +kernel)⟩
set_option maxRecDepth 100000 in
theorem eX4_references : xCe yX4_references cX4_references 2 (some .int) 1 := ⟨xT1 4 (by decide +kernel) (by decide +kernel), xT2 170 rfl rfl, ⟨by decide +kernel, by decide +kernel, by decide +kernel⟩, by decide⟩
theorem sX4_references : xCi yX4_references := ⟨xT2 168 (by decide +kernel) (by decide +kernel), xT2 169 (by decide +kernel) (by decide +kernel)⟩
set_option maxRecDepth 100000 in
theorem eX4_isForbidden : xCe yX4_isForbidden cX4_isForbidden 2 (some .boolean) 1 := ⟨xT1 4 (by decide +kernel) (by decide +kernel), xT3 224 rfl rfl, ⟨by decide +kernel, by decide +kernel, by decide +kernel⟩, by decide⟩
theorem sX4_isForbidden : xCi yX4_isForbidden := ⟨xT3 222 (by decide +kernel) (by decide +kernel), xT3 223 (by decide +kernel) (by decide +kernel)⟩
set_option maxRecDepth 100000 in
theorem eX4_putForbidden : xCe yX4_putForbidden cX4_putForbidden 3 none 2 := ⟨xT1 4 (by decide +kernel) (by decide +kernel), xT3 228 rfl rfl, ⟨by decide +kernel, by decide +kernel, by decide +kernel⟩, by decide⟩
theorem sX4_putForbidden : xCi yX4_putForbidden := ⟨xT3 226 (by decide +kernel) (by decide +kernel), xT3 227 (by decide +kernel) (by decide +kernel)⟩
set_option maxRecDepth 100000 in
theorem eX4_forbiddenSize : xCe yX4_forbiddenSize cX4_forbiddenSize 3 (some .int) 0 := ⟨xT1 4 (by decide +kernel) (by decide +kernel), xT6 28 rfl rfl, ⟨by decide +kernel, by decide +kernel, by decide +kernel⟩, by decide⟩
theorem sX4_forbiddenSize : xCi yX4_forbiddenSize := ⟨xT6 26 (by decide +kernel) (by decide +kernel), xT6 27 (by decide +kernel) (by decide +kernel)⟩
set_option maxRecDepth 100000 in
theorem eX4_clear : xCe yX4_clear cX4_clear 1 none 0 := ⟨xT1 4 (by decide +kernel) (by decide +kernel), xT1 238 rfl rfl, ⟨by decide +kernel, by decide +kernel, by decide +kernel⟩, by decide⟩
theorem sX4_clear : xCi yX4_clear := ⟨xT1 236 (by decide +kernel) (by decide +kernel), xT1 237 (by decide +kernel) (by decide +kernel)⟩
set_option maxRecDepth 100000 in
theorem eX4_beginClass : xCe yX4_beginClass cX4_beginClass 1 none 0 := ⟨xT1 4 (by decide +kernel) (by decide +kernel), xT2 6 rfl rfl, ⟨by decide +kernel, by decide +kernel, by decide +kernel⟩, by decide⟩
theorem sX4_beginClass : xCi yX4_beginClass := ⟨xT2 4 (by decide +kernel) (by decide +kernel), xT2 5 (by decide +kernel) (by decide +kernel)⟩
set_option maxRecDepth 100000 in
theorem eX4_beginField : xCe yX4_beginField cX4_beginField 3 none 0 := ⟨xT1 4 (by decide +kernel) (by decide +kernel), xT2 43 rfl rfl, ⟨by decide +kernel, by decide +kernel, by decide +kernel⟩, by decide⟩
theorem sX4_beginField : xCi yX4_beginField := ⟨xT2 41 (by decide +kernel) (by decide +kernel), xT2 42 (by decide +kernel) (by decide +kernel)⟩
set_option maxRecDepth 100000 in
theorem eX4_putShape : xCe yX4_putShape cX4_putShape 4 none 3 := ⟨xT1 4 (by decide +kernel) (by decide +kernel), xT2 58 rfl rfl, ⟨by decide +kernel, by decide +kernel, by decide +kernel⟩, by decide⟩
theorem sX4_putShape : xCi yX4_putShape := ⟨xT2 56 (by decide +kernel) (by decide +kernel), xT2 57 (by decide +kernel) (by decide +kernel)⟩
set_option maxRecDepth 100000 in
theorem eX4_putAttribute : xCe yX4_putAttribute cX4_putAttribute 3 none 2 := ⟨xT1 4 (by decide +kernel) (by decide +kernel), xT2 66 rfl rfl, ⟨by decide +kernel, by decide +kernel, by decide +kernel⟩, by decide⟩
theorem sX4_putAttribute : xCi yX4_putAttribute := ⟨xT2 64 (by decide +kernel) (by decide +kernel), xT2 65 (by decide +kernel) (by decide +kernel)⟩
set_option maxRecDepth 100000 in
theorem eX4_putImplicit : xCe yX4_putImplicit cX4_putImplicit 3 none 2 := ⟨xT1 4 (by decide +kernel) (by decide +kernel), xT2 74 rfl rfl, ⟨by decide +kernel, by decide +kernel, by decide +kernel⟩, by decide⟩
theorem sX4_putImplicit : xCi yX4_putImplicit := ⟨xT2 72 (by decide +kernel) (by decide +kernel), xT2 73 (by decide +kernel) (by decide +kernel)⟩
set_option maxRecDepth 100000 in
theorem eX4_spellOn : xCe yX4_spellOn cX4_spellOn 3 none 2 := ⟨xT1 4 (by decide +kernel) (by decide +kernel), xT2 27 rfl rfl, ⟨by decide +kernel, by decide +kernel, by decide +kernel⟩, by decide⟩
theorem sX4_spellOn : xCi yX4_spellOn := ⟨xT2 25 (by decide +kernel) (by decide +kernel), xT2 26 (by decide +kernel) (by decide +kernel)⟩
set_option maxRecDepth 100000 in
theorem eX4_letterOn : xCe yX4_letterOn cX4_letterOn 3 none 2 := ⟨xT1 4 (by decide +kernel) (by decide +kernel), xT2 31 rfl rfl, ⟨by decide +kernel, by decide +kernel, by decide +kernel⟩, by decide⟩
theorem sX4_letterOn : xCi yX4_letterOn := ⟨xT2 30 (by decide +kernel) (by decide +kernel), xTs_s 2 (by decide +kernel) (by decide +kernel)⟩
set_option maxRecDepth 100000 in
theorem eX4_spellTo : xCe yX4_spellTo cX4_spellTo 4 none 2 := ⟨xT1 4 (by decide +kernel) (by decide +kernel), xT3 78 rfl rfl, ⟨by decide +kernel, by decide +kernel, by decide +kernel⟩, by decide⟩
theorem sX4_spellTo : xCi yX4_spellTo := ⟨xT3 76 (by decide +kernel) (by decide +kernel), xT3 77 (by decide +kernel) (by decide +kernel)⟩
set_option maxRecDepth 100000 in
theorem eX4_spells : xCe yX4_spells cX4_spells 6 (some .boolean) 4 := ⟨xT1 4 (by decide +kernel) (by decide +kernel), xT5 23 rfl rfl, ⟨by decide +kernel, by decide +kernel, by decide +kernel⟩, by decide⟩
theorem sX4_spells : xCi yX4_spells := ⟨xT5 21 (by decide +kernel) (by decide +kernel), xT5 22 (by decide +kernel) (by decide +kernel)⟩
set_option maxRecDepth 100000 in
theorem eX4_readableClass : xCe yX4_readableClass cX4_readableClass 5 (some .int) 3 := ⟨xT1 4 (by decide +kernel) (by decide +kernel), xT5 19 rfl rfl, ⟨by decide +kernel, by decide +kernel, by decide +kernel⟩, by decide⟩
theorem sX4_readableClass : xCi yX4_readableClass := ⟨xT5 17 (by decide +kernel) (by decide +kernel), xT5 18 (by decide +kernel) (by decide +kernel)⟩
set_option maxRecDepth 100000 in
theorem eX4_fieldNamed : xCe yX4_fieldNamed cX4_fieldNamed 7 (some .int) 5 := ⟨xT1 4 (by decide +kernel) (by decide +kernel), xT5 43 rfl rfl, ⟨by decide +kernel, by decide +kernel, by decide +kernel⟩, by decide⟩
theorem sX4_fieldNamed : xCi yX4_fieldNamed := ⟨xT5 41 (by decide +kernel) (by decide +kernel), xT5 42 (by decide +kernel) (by decide +kernel)⟩
set_option maxRecDepth 100000 in
theorem eX4_obeysNameRules : xCe yX4_obeysNameRules cX4_obeysNameRules 3 (some .boolean) 0 := ⟨xT1 4 (by decide +kernel) (by decide +kernel), xT2 82 rfl rfl, ⟨by decide +kernel, by decide +kernel, by decide +kernel⟩, by decide⟩
theorem sX4_obeysNameRules : xCi yX4_obeysNameRules := ⟨xT2 80 (by decide +kernel) (by decide +kernel), xT2 81 (by decide +kernel) (by decide +kernel)⟩
set_option maxRecDepth 100000 in
theorem eX4_isFieldNameFree : xCe yX4_isFieldNameFree cX4_isFieldNameFree 4 (some .boolean) 2 := ⟨xT1 4 (by decide +kernel) (by decide +kernel), xT2 94 rfl rfl, ⟨by decide +kernel, by decide +kernel, by decide +kernel⟩, by decide⟩
theorem sX4_isFieldNameFree : xCi yX4_isFieldNameFree := ⟨xT2 93 (by decide +kernel) (by decide +kernel), xTs_s 8 (by decide +kernel) (by decide +kernel)⟩
set_option maxRecDepth 100000 in
theorem eX4_hasTwin : xCe yX4_hasTwin cX4_hasTwin 5 (some .boolean) 3 := ⟨xT1 4 (by decide +kernel) (by decide +kernel), xT2 86 rfl rfl, ⟨by decide +kernel, by decide +kernel, by decide +kernel⟩, by decide⟩
theorem sX4_hasTwin : xCi yX4_hasTwin := ⟨xT2 85 (by decide +kernel) (by decide +kernel), xTs_s 6 (by decide +kernel) (by decide +kernel)⟩
set_option maxRecDepth 100000 in
theorem eX4_isTwin : xCe yX4_isTwin cX4_isTwin 4 (some .boolean) 2 := ⟨xT1 4 (by decide +kernel) (by decide +kernel), xT2 90 rfl rfl, ⟨by decide +kernel, by decide +kernel, by decide +kernel⟩, by decide⟩
theorem sX4_isTwin : xCi yX4_isTwin := ⟨xT2 89 (by decide +kernel) (by decide +kernel), xTs_s 7 (by decide +kernel) (by decide +kernel)⟩
set_option maxRecDepth 100000 in
theorem eX4_isWord : xCe yX4_isWord cX4_isWord 4 (some .boolean) 2 := ⟨xT1 4 (by decide +kernel) (by decide +kernel), xT2 99 rfl rfl, ⟨by decide +kernel, by decide +kernel, by decide +kernel⟩, by decide⟩
theorem sX4_isWord : xCi yX4_isWord := ⟨xT2 98 (by decide +kernel) (by decide +kernel), xTs_s 9 (by decide +kernel) (by decide +kernel)⟩
set_option maxRecDepth 100000 in
theorem eX5_init : xCe yX5_init cX5_init 1 none 0 := ⟨xT1 2 (by decide +kernel) (by decide +kernel), xT1 32 rfl rfl, ⟨by decide +kernel, by decide +kernel, by decide +kernel⟩, by decide⟩
theorem sX5_init : yX5_init.name = "<init>" ∧ Cond.instanceMethod yX5_init ∈ xTs := ⟨rfl, xT1 31 (by decide +kernel) (by decide +kernel)⟩
set_option maxRecDepth 100000 in
theorem eX5_length : xCe yX5_length cX5_length 1 (some .int) 0 := ⟨xT1 2 (by decide +kernel) (by decide +kernel), xT2 78 rfl rfl, ⟨by decide +kernel, by decide +kernel, by decide +kernel⟩, by decide⟩
theorem sX5_length : xCi yX5_length := ⟨xT2 76 (by decide +kernel) (by decide +kernel), xT2 77 (by decide +kernel) (by decide +kernel)⟩
set_option maxRecDepth 100000 in
theorem eX5_has : xCe yX5_has cX5_has 2 (some .boolean) 1 := ⟨xT1 2 (by decide +kernel) (by decide +kernel), xT3 205 rfl rfl, ⟨by decide +kernel, by decide +kernel, by decide +kernel⟩, by decide⟩
theorem sX5_has : xCi yX5_has := ⟨xT3 203 (by decide +kernel) (by decide +kernel), xT3 204 (by decide +kernel) (by decide +kernel)⟩
set_option maxRecDepth 100000 in
theorem eX5_at : xCe yX5_at cX5_at 2 (some .int) 1 := ⟨xT1 2 (by decide +kernel) (by decide +kernel), xT2 14 rfl rfl, ⟨by decide +kernel, by decide +kernel, by decide +kernel⟩, by decide⟩
theorem sX5_at : xCi yX5_at := ⟨xT2 12 (by decide +kernel) (by decide +kernel), xT2 13 (by decide +kernel) (by decide +kernel)⟩
set_option maxRecDepth 100000 in
theorem eX5_hasOverflowed : xCe yX5_hasOverflowed cX5_hasOverflowed 1 (some .boolean) 0 := ⟨xT1 2 (by decide +kernel) (by decide +kernel), xT3 61 rfl rfl, ⟨by decide +kernel, by decide +kernel, by decide +kernel⟩, by decide⟩
theorem sX5_hasOverflowed : xCi yX5_hasOverflowed := ⟨xT3 59 (by decide +kernel) (by decide +kernel), xT3 60 (by decide +kernel) (by decide +kernel)⟩
set_option maxRecDepth 100000 in
theorem eX5_clear : xCe yX5_clear cX5_clear 1 none 0 := ⟨xT1 2 (by decide +kernel) (by decide +kernel), xT2 152 rfl rfl, ⟨by decide +kernel, by decide +kernel, by decide +kernel⟩, by decide⟩
theorem sX5_clear : xCi yX5_clear := ⟨xT2 150 (by decide +kernel) (by decide +kernel), xT2 151 (by decide +kernel) (by decide +kernel)⟩
set_option maxRecDepth 100000 in
theorem eX5_put : xCe yX5_put cX5_put 3 (some .boolean) 1 := ⟨xT1 2 (by decide +kernel) (by decide +kernel), xT1 204 rfl rfl, ⟨by decide +kernel, by decide +kernel, by decide +kernel⟩, by decide⟩
theorem sX5_put : xCi yX5_put := ⟨xT1 202 (by decide +kernel) (by decide +kernel), xT1 203 (by decide +kernel) (by decide +kernel)⟩
set_option maxRecDepth 100000 in
theorem eX5_spell : xCe yX5_spell cX5_spell 3 none 1 := ⟨xT1 2 (by decide +kernel) (by decide +kernel), xT3 84 rfl rfl, ⟨by decide +kernel, by decide +kernel, by decide +kernel⟩, by decide⟩
theorem sX5_spell : xCi yX5_spell := ⟨xT3 82 (by decide +kernel) (by decide +kernel), xT3 83 (by decide +kernel) (by decide +kernel)⟩
set_option maxRecDepth 100000 in
theorem eX5_become : xCe yX5_become cX5_become 3 none 1 := ⟨xT1 2 (by decide +kernel) (by decide +kernel), xT3 213 rfl rfl, ⟨by decide +kernel, by decide +kernel, by decide +kernel⟩, by decide⟩
theorem sX5_become : xCi yX5_become := ⟨xT3 211 (by decide +kernel) (by decide +kernel), xT3 212 (by decide +kernel) (by decide +kernel)⟩
set_option maxRecDepth 100000 in
theorem eX5_isAt : xCe yX5_isAt cX5_isAt 5 (some .boolean) 3 := ⟨xT1 2 (by decide +kernel) (by decide +kernel), xT5 60 rfl rfl, ⟨by decide +kernel, by decide +kernel, by decide +kernel⟩, by decide⟩
theorem sX5_isAt : xCi yX5_isAt := ⟨xT5 58 (by decide +kernel) (by decide +kernel), xT5 59 (by decide +kernel) (by decide +kernel)⟩
set_option maxRecDepth 100000 in
theorem eX6_init : xCe yX6_init cX6_init 1 none 0 := ⟨xT1 3 (by decide +kernel) (by decide +kernel), xT1 49 rfl rfl, ⟨by decide +kernel, by decide +kernel, by decide +kernel⟩, by decide⟩
theorem sX6_init : yX6_init.name = "<init>" ∧ Cond.instanceMethod yX6_init ∈ xTs := ⟨rfl, xT1 48 (by decide +kernel) (by decide +kernel)⟩
set_option maxRecDepth 100000 in
theorem eX6_restart : xCe yX6_restart cX6_restart 2 none 1 := ⟨xT1 3 (by decide +kernel) (by decide +kernel), xT4 32 rfl rfl, ⟨by decide +kernel, by decide +kernel, by decide +kernel⟩, by decide⟩
theorem sX6_restart : xCi yX6_restart := ⟨xT4 30 (by decide +kernel) (by decide +kernel), xT4 31 (by decide +kernel) (by decide +kernel)⟩
set_option maxRecDepth 100000 in
theorem eX6_names : xCe yX6_names cX6_names 1 (some (.object "GraphScribe$Signs")) 0 := ⟨xT1 3 (by decide +kernel) (by decide +kernel), xT4 184 rfl rfl, ⟨by decide +kernel, by decide +kernel, by decide +kernel⟩, by decide⟩
theorem sX6_names : xCi yX6_names := ⟨xT4 182 (by decide +kernel) (by decide +kernel), xT4 183 (by decide +kernel) (by decide +kernel)⟩
set_option maxRecDepth 100000 in
theorem eX6_values : xCe yX6_values cX6_values 1 (some (.object "GraphScribe$Signs")) 0 := ⟨xT1 3 (by decide +kernel) (by decide +kernel), xT4 2 rfl rfl, ⟨by decide +kernel, by decide +kernel, by decide +kernel⟩, by decide⟩
theorem sX6_values : xCi yX6_values := ⟨xT4 0 (by decide +kernel) (by decide +kernel), xT4 1 (by decide +kernel) (by decide +kernel)⟩
set_option maxRecDepth 100000 in
theorem eX6_size : xCe yX6_size cX6_size 1 (some .int) 0 := ⟨xT1 3 (by decide +kernel) (by decide +kernel), xT4 174 rfl rfl, ⟨by decide +kernel, by decide +kernel, by decide +kernel⟩, by decide⟩
theorem sX6_size : xCi yX6_size := ⟨xT4 172 (by decide +kernel) (by decide +kernel), xT4 173 (by decide +kernel) (by decide +kernel)⟩
set_option maxRecDepth 100000 in
theorem eX6_has : xCe yX6_has cX6_has 2 (some .boolean) 1 := ⟨xT1 3 (by decide +kernel) (by decide +kernel), xT4 66 rfl rfl, ⟨by decide +kernel, by decide +kernel, by decide +kernel⟩, by decide⟩
theorem sX6_has : xCi yX6_has := ⟨xT4 65 (by decide +kernel) (by decide +kernel), xTs_s 34 (by decide +kernel) (by decide +kernel)⟩
set_option maxRecDepth 100000 in
theorem eX6_hasAttribute : xCe yX6_hasAttribute cX6_hasAttribute 2 (some .boolean) 1 := ⟨xT1 3 (by decide +kernel) (by decide +kernel), xT5 75 rfl rfl, ⟨by decide +kernel, by decide +kernel, by decide +kernel⟩, by decide⟩
theorem sX6_hasAttribute : xCi yX6_hasAttribute := ⟨xT5 74 (by decide +kernel) (by decide +kernel), xTs_s 54 (by decide +kernel) (by decide +kernel)⟩
set_option maxRecDepth 100000 in
theorem eX6_begin : xCe yX6_begin cX6_begin 4 (some .int) 3 := ⟨xT1 3 (by decide +kernel) (by decide +kernel), xT4 62 rfl rfl, ⟨by decide +kernel, by decide +kernel, by decide +kernel⟩, by decide⟩
theorem sX6_begin : xCi yX6_begin := ⟨xT4 60 (by decide +kernel) (by decide +kernel), xT4 61 (by decide +kernel) (by decide +kernel)⟩
set_option maxRecDepth 100000 in
theorem eX6_addAttribute : xCe yX6_addAttribute cX6_addAttribute 4 none 3 := ⟨xT1 3 (by decide +kernel) (by decide +kernel), xT4 131 rfl rfl, ⟨by decide +kernel, by decide +kernel, by decide +kernel⟩, by decide⟩
theorem sX6_addAttribute : xCi yX6_addAttribute := ⟨xT4 129 (by decide +kernel) (by decide +kernel), xT4 130 (by decide +kernel) (by decide +kernel)⟩
set_option maxRecDepth 100000 in
theorem eX6_beginText : xCe yX6_beginText cX6_beginText 2 none 1 := ⟨xT1 3 (by decide +kernel) (by decide +kernel), xT4 136 rfl rfl, ⟨by decide +kernel, by decide +kernel, by decide +kernel⟩, by decide⟩
theorem sX6_beginText : xCi yX6_beginText := ⟨xT4 134 (by decide +kernel) (by decide +kernel), xT4 135 (by decide +kernel) (by decide +kernel)⟩
set_option maxRecDepth 100000 in
theorem eX6_addText : xCe yX6_addText cX6_addText 3 none 2 := ⟨xT1 3 (by decide +kernel) (by decide +kernel), xT4 144 rfl rfl, ⟨by decide +kernel, by decide +kernel, by decide +kernel⟩, by decide⟩
theorem sX6_addText : xCi yX6_addText := ⟨xT4 142 (by decide +kernel) (by decide +kernel), xT4 143 (by decide +kernel) (by decide +kernel)⟩
set_option maxRecDepth 100000 in
theorem eX6_beginOf : xCe yX6_beginOf cX6_beginOf 2 (some .int) 1 := ⟨xT1 3 (by decide +kernel) (by decide +kernel), xT5 178 rfl rfl, ⟨by decide +kernel, by decide +kernel, by decide +kernel⟩, by decide⟩
theorem sX6_beginOf : xCi yX6_beginOf := ⟨xT5 176 (by decide +kernel) (by decide +kernel), xT5 177 (by decide +kernel) (by decide +kernel)⟩
set_option maxRecDepth 100000 in
theorem eX6_nameFrom : xCe yX6_nameFrom cX6_nameFrom 2 (some .int) 1 := ⟨xT1 3 (by decide +kernel) (by decide +kernel), xT5 11 rfl rfl, ⟨by decide +kernel, by decide +kernel, by decide +kernel⟩, by decide⟩
theorem sX6_nameFrom : xCi yX6_nameFrom := ⟨xT5 9 (by decide +kernel) (by decide +kernel), xT5 10 (by decide +kernel) (by decide +kernel)⟩
set_option maxRecDepth 100000 in
theorem eX6_nameTo : xCe yX6_nameTo cX6_nameTo 2 (some .int) 1 := ⟨xT1 3 (by decide +kernel) (by decide +kernel), xT5 15 rfl rfl, ⟨by decide +kernel, by decide +kernel, by decide +kernel⟩, by decide⟩
theorem sX6_nameTo : xCi yX6_nameTo := ⟨xT5 13 (by decide +kernel) (by decide +kernel), xT5 14 (by decide +kernel) (by decide +kernel)⟩
set_option maxRecDepth 100000 in
theorem eX6_parent : xCe yX6_parent cX6_parent 2 (some .int) 1 := ⟨xT1 3 (by decide +kernel) (by decide +kernel), xT4 158 rfl rfl, ⟨by decide +kernel, by decide +kernel, by decide +kernel⟩, by decide⟩
theorem sX6_parent : xCi yX6_parent := ⟨xT4 156 (by decide +kernel) (by decide +kernel), xT4 157 (by decide +kernel) (by decide +kernel)⟩
set_option maxRecDepth 100000 in
theorem eX6_kidCount : xCe yX6_kidCount cX6_kidCount 2 (some .int) 1 := ⟨xT1 3 (by decide +kernel) (by decide +kernel), xT5 134 rfl rfl, ⟨by decide +kernel, by decide +kernel, by decide +kernel⟩, by decide⟩
theorem sX6_kidCount : xCi yX6_kidCount := ⟨xT5 132 (by decide +kernel) (by decide +kernel), xT5 133 (by decide +kernel) (by decide +kernel)⟩
set_option maxRecDepth 100000 in
theorem eX6_firstAttribute : xCe yX6_firstAttribute cX6_firstAttribute 2 (some .int) 1 := ⟨xT1 3 (by decide +kernel) (by decide +kernel), xT4 82 rfl rfl, ⟨by decide +kernel, by decide +kernel, by decide +kernel⟩, by decide⟩
theorem sX6_firstAttribute : xCi yX6_firstAttribute := ⟨xT4 80 (by decide +kernel) (by decide +kernel), xT4 81 (by decide +kernel) (by decide +kernel)⟩
set_option maxRecDepth 100000 in
theorem eX6_attributeCount : xCe yX6_attributeCount cX6_attributeCount 2 (some .int) 1 := ⟨xT1 3 (by decide +kernel) (by decide +kernel), xT4 86 rfl rfl, ⟨by decide +kernel, by decide +kernel, by decide +kernel⟩, by decide⟩
theorem sX6_attributeCount : xCi yX6_attributeCount := ⟨xT4 84 (by decide +kernel) (by decide +kernel), xT4 85 (by decide +kernel) (by decide +kernel)⟩
set_option maxRecDepth 100000 in
theorem eX6_textFrom : xCe yX6_textFrom cX6_textFrom 2 (some .int) 1 := ⟨xT1 3 (by decide +kernel) (by decide +kernel), xT5 138 rfl rfl, ⟨by decide +kernel, by decide +kernel, by decide +kernel⟩, by decide⟩
theorem sX6_textFrom : xCi yX6_textFrom := ⟨xT5 136 (by decide +kernel) (by decide +kernel), xT5 137 (by decide +kernel) (by decide +kernel)⟩
set_option maxRecDepth 100000 in
theorem eX6_textTo : xCe yX6_textTo cX6_textTo 2 (some .int) 1 := ⟨xT1 3 (by decide +kernel) (by decide +kernel), xT5 142 rfl rfl, ⟨by decide +kernel, by decide +kernel, by decide +kernel⟩, by decide⟩
theorem sX6_textTo : xCi yX6_textTo := ⟨xT5 140 (by decide +kernel) (by decide +kernel), xT5 141 (by decide +kernel) (by decide +kernel)⟩
set_option maxRecDepth 100000 in
theorem eX6_isSolid : xCe yX6_isSolid cX6_isSolid 2 (some .boolean) 1 := ⟨xT1 3 (by decide +kernel) (by decide +kernel), xT5 88 rfl rfl, ⟨by decide +kernel, by decide +kernel, by decide +kernel⟩, by decide⟩
theorem sX6_isSolid : xCi yX6_isSolid := ⟨xT5 86 (by decide +kernel) (by decide +kernel), xT5 87 (by decide +kernel) (by decide +kernel)⟩
set_option maxRecDepth 100000 in
theorem eX6_keyFrom : xCe yX6_keyFrom cX6_keyFrom 2 (some .int) 1 := ⟨xT1 3 (by decide +kernel) (by decide +kernel), xT5 98 rfl rfl, ⟨by decide +kernel, by decide +kernel, by decide +kernel⟩, by decide⟩
theorem sX6_keyFrom : xCi yX6_keyFrom := ⟨xT5 96 (by decide +kernel) (by decide +kernel), xT5 97 (by decide +kernel) (by decide +kernel)⟩
set_option maxRecDepth 100000 in
theorem eX6_keyTo : xCe yX6_keyTo cX6_keyTo 2 (some .int) 1 := ⟨xT1 3 (by decide +kernel) (by decide +kernel), xT5 102 rfl rfl, ⟨by decide +kernel, by decide +kernel, by decide +kernel⟩, by decide⟩
theorem sX6_keyTo : xCi yX6_keyTo := ⟨xT5 100 (by decide +kernel) (by decide +kernel), xT5 101 (by decide +kernel) (by decide +kernel)⟩
set_option maxRecDepth 100000 in
theorem eX6_valueFrom : xCe yX6_valueFrom cX6_valueFrom 2 (some .int) 1 := ⟨xT1 3 (by decide +kernel) (by decide +kernel), xT5 71 rfl rfl, ⟨by decide +kernel, by decide +kernel, by decide +kernel⟩, by decide⟩
theorem sX6_valueFrom : xCi yX6_valueFrom := ⟨xT5 69 (by decide +kernel) (by decide +kernel), xT5 70 (by decide +kernel) (by decide +kernel)⟩
set_option maxRecDepth 100000 in
theorem eX6_valueTo : xCe yX6_valueTo cX6_valueTo 2 (some .int) 1 := ⟨xT1 3 (by decide +kernel) (by decide +kernel), xT5 79 rfl rfl, ⟨by decide +kernel, by decide +kernel, by decide +kernel⟩, by decide⟩
theorem sX6_valueTo : xCi yX6_valueTo := ⟨xT5 77 (by decide +kernel) (by decide +kernel), xT5 78 (by decide +kernel) (by decide +kernel)⟩
set_option maxRecDepth 100000 in
theorem eX6_isNamed : xCe yX6_isNamed cX6_isNamed 4 (some .boolean) 3 := ⟨xT1 3 (by decide +kernel) (by decide +kernel), xT4 154 rfl rfl, ⟨by decide +kernel, by decide +kernel, by decide +kernel⟩, by decide⟩
theorem sX6_isNamed : xCi yX6_isNamed := ⟨xT4 152 (by decide +kernel) (by decide +kernel), xT4 153 (by decide +kernel) (by decide +kernel)⟩
set_option maxRecDepth 100000 in
theorem eX6_hasKey : xCe yX6_hasKey cX6_hasKey 6 (some .boolean) 3 := ⟨xT1 3 (by decide +kernel) (by decide +kernel), xT4 78 rfl rfl, ⟨by decide +kernel, by decide +kernel, by decide +kernel⟩, by decide⟩
theorem sX6_hasKey : xCi yX6_hasKey := ⟨xT4 76 (by decide +kernel) (by decide +kernel), xT4 77 (by decide +kernel) (by decide +kernel)⟩
set_option maxRecDepth 100000 in
theorem eX6_attributeNamed : xCe yX6_attributeNamed cX6_attributeNamed 5 (some .int) 2 := ⟨xT1 3 (by decide +kernel) (by decide +kernel), xT5 56 rfl rfl, ⟨by decide +kernel, by decide +kernel, by decide +kernel⟩, by decide⟩
theorem sX6_attributeNamed : xCi yX6_attributeNamed := ⟨xT5 54 (by decide +kernel) (by decide +kernel), xT5 55 (by decide +kernel) (by decide +kernel)⟩
set_option maxRecDepth 100000 in
theorem eX6_child : xCe yX6_child cX6_child 7 (some .int) 4 := ⟨xT1 3 (by decide +kernel) (by decide +kernel), xT5 168 rfl rfl, ⟨by decide +kernel, by decide +kernel, by decide +kernel⟩, by decide⟩
theorem sX6_child : xCi yX6_child := ⟨xT5 166 (by decide +kernel) (by decide +kernel), xT5 167 (by decide +kernel) (by decide +kernel)⟩
set_option maxRecDepth 100000 in
theorem eX6_isSpelt : xCe yX6_isSpelt cX6_isSpelt 7 (some .boolean) 5 := ⟨xT1 3 (by decide +kernel) (by decide +kernel), xT4 90 rfl rfl, ⟨by decide +kernel, by decide +kernel, by decide +kernel⟩, by decide⟩
theorem sX6_isSpelt : xCi yX6_isSpelt := ⟨xT4 89 (by decide +kernel) (by decide +kernel), xTs_s 37 (by decide +kernel) (by decide +kernel)⟩
set_option maxRecDepth 100000 in
theorem eX7_init : xCe yX7_init cX7_init 2 none 1 := ⟨xT1 17 (by decide +kernel) (by decide +kernel), xT4 190 rfl rfl, ⟨by decide +kernel, by decide +kernel, by decide +kernel⟩, by decide⟩
theorem sX7_init : yX7_init.name = "<init>" ∧ Cond.instanceMethod yX7_init ∈ xTs := ⟨rfl, xT4 189 (by decide +kernel) (by decide +kernel)⟩
set_option maxRecDepth 100000 in
theorem eX7_end : xCe yX7_end cX7_end 7 (some .int) 3 := ⟨xT1 17 (by decide +kernel) (by decide +kernel), xT5 150 rfl rfl, ⟨by decide +kernel, by decide +kernel, by decide +kernel⟩, by decide⟩
theorem sX7_end : xCi yX7_end := ⟨xT5 148 (by decide +kernel) (by decide +kernel), xT5 149 (by decide +kernel) (by decide +kernel)⟩
set_option maxRecDepth 100000 in
theorem eX7_goesUp : xCe yX7_goesUp cX7_goesUp 3 (some .boolean) 2 := ⟨xT1 17 (by decide +kernel) (by decide +kernel), xT5 172 rfl rfl, ⟨by decide +kernel, by decide +kernel, by decide +kernel⟩, by decide⟩
theorem sX7_goesUp : xCi yX7_goesUp := ⟨xT5 171 (by decide +kernel) (by decide +kernel), xTs_s 66 (by decide +kernel) (by decide +kernel)⟩
set_option maxRecDepth 100000 in
theorem eX7_down : xCe yX7_down cX7_down 10 (some .int) 3 := ⟨xT1 17 (by decide +kernel) (by decide +kernel), xT5 155 rfl rfl, ⟨by decide +kernel, by decide +kernel, by decide +kernel⟩, by decide⟩
theorem sX7_down : xCi yX7_down := ⟨xT5 154 (by decide +kernel) (by decide +kernel), xTs_s 63 (by decide +kernel) (by decide +kernel)⟩
set_option maxRecDepth 100000 in
theorem eX7_rank : xCe yX7_rank cX7_rank 6 (some .int) 2 := ⟨xT1 17 (by decide +kernel) (by decide +kernel), xT5 163 rfl rfl, ⟨by decide +kernel, by decide +kernel, by decide +kernel⟩, by decide⟩
theorem sX7_rank : xCi yX7_rank := ⟨xT5 162 (by decide +kernel) (by decide +kernel), xTs_s 65 (by decide +kernel) (by decide +kernel)⟩
set_option maxRecDepth 100000 in
theorem eX7_placeOf : xCe yX7_placeOf cX7_placeOf 5 (some .int) 3 := ⟨xT1 17 (by decide +kernel) (by decide +kernel), xT5 159 rfl rfl, ⟨by decide +kernel, by decide +kernel, by decide +kernel⟩, by decide⟩
theorem sX7_placeOf : xCi yX7_placeOf := ⟨xT5 158 (by decide +kernel) (by decide +kernel), xTs_s 64 (by decide +kernel) (by decide +kernel)⟩
set_option maxRecDepth 100000 in
theorem eX8_init : xCe yX8_init cX8_init 6 none 5 := ⟨xT1 14 (by decide +kernel) (by decide +kernel), xT3 12 rfl rfl, ⟨by decide +kernel, by decide +kernel, by decide +kernel⟩, by decide⟩
theorem sX8_init : yX8_init.name = "<init>" ∧ Cond.instanceMethod yX8_init ∈ xTs := ⟨rfl, xT3 11 (by decide +kernel) (by decide +kernel)⟩
set_option maxRecDepth 100000 in
theorem eX8_failure : xCe yX8_failure cX8_failure 1 (some .int) 0 := ⟨xT1 14 (by decide +kernel) (by decide +kernel), xT3 197 rfl rfl, ⟨by decide +kernel, by decide +kernel, by decide +kernel⟩, by decide⟩
theorem sX8_failure : xCi yX8_failure := ⟨xT3 195 (by decide +kernel) (by decide +kernel), xT3 196 (by decide +kernel) (by decide +kernel)⟩
set_option maxRecDepth 100000 in
theorem eX8_element : xCe yX8_element cX8_element 8 none 5 := ⟨xT1 14 (by decide +kernel) (by decide +kernel), xT3 57 rfl rfl, ⟨by decide +kernel, by decide +kernel, by decide +kernel⟩, by decide⟩
theorem sX8_element : xCi yX8_element := ⟨xT3 56 (by decide +kernel) (by decide +kernel), xTs_s 13 (by decide +kernel) (by decide +kernel)⟩
set_option maxRecDepth 100000 in
theorem eX8_nameOf : xCe yX8_nameOf cX8_nameOf 5 (some .int) 3 := ⟨xT1 14 (by decide +kernel) (by decide +kernel), xT3 70 rfl rfl, ⟨by decide +kernel, by decide +kernel, by decide +kernel⟩, by decide⟩
theorem sX8_nameOf : xCi yX8_nameOf := ⟨xT3 69 (by decide +kernel) (by decide +kernel), xTs_s 15 (by decide +kernel) (by decide +kernel)⟩
set_option maxRecDepth 100000 in
theorem eX8_startTag : xCe yX8_startTag cX8_startTag 5 none 2 := ⟨xT1 14 (by decide +kernel) (by decide +kernel), xT3 142 rfl rfl, ⟨by decide +kernel, by decide +kernel, by decide +kernel⟩, by decide⟩
theorem sX8_startTag : xCi yX8_startTag := ⟨xT3 141 (by decide +kernel) (by decide +kernel), xTs_s 23 (by decide +kernel) (by decide +kernel)⟩
set_option maxRecDepth 100000 in
theorem eX8_endTag : xCe yX8_endTag cX8_endTag 2 none 1 := ⟨xT1 14 (by decide +kernel) (by decide +kernel), xT3 192 rfl rfl, ⟨by decide +kernel, by decide +kernel, by decide +kernel⟩, by decide⟩
theorem sX8_endTag : xCi yX8_endTag := ⟨xT3 191 (by decide +kernel) (by decide +kernel), xTs_s 30 (by decide +kernel) (by decide +kernel)⟩
set_option maxRecDepth 100000 in
theorem eX8_hasContent : xCe yX8_hasContent cX8_hasContent 4 (some .boolean) 1 := ⟨xT1 14 (by decide +kernel) (by decide +kernel), xT3 173 rfl rfl, ⟨by decide +kernel, by decide +kernel, by decide +kernel⟩, by decide⟩
theorem sX8_hasContent : xCi yX8_hasContent := ⟨xT3 172 (by decide +kernel) (by decide +kernel), xTs_s 26 (by decide +kernel) (by decide +kernel)⟩
set_option maxRecDepth 100000 in
theorem eX8_hasElement : xCe yX8_hasElement cX8_hasElement 4 (some .boolean) 3 := ⟨xT1 14 (by decide +kernel) (by decide +kernel), xT3 177 rfl rfl, ⟨by decide +kernel, by decide +kernel, by decide +kernel⟩, by decide⟩
theorem sX8_hasElement : xCi yX8_hasElement := ⟨xT3 176 (by decide +kernel) (by decide +kernel), xTs_s 27 (by decide +kernel) (by decide +kernel)⟩
set_option maxRecDepth 100000 in
theorem eX8_content : xCe yX8_content cX8_content 7 none 3 := ⟨xT1 14 (by decide +kernel) (by decide +kernel), xT3 183 rfl rfl, ⟨by decide +kernel, by decide +kernel, by decide +kernel⟩, by decide⟩
theorem sX8_content : xCi yX8_content := ⟨xT3 182 (by decide +kernel) (by decide +kernel), xTs_s 28 (by decide +kernel) (by decide +kernel)⟩
set_option maxRecDepth 100000 in
theorem eX8_items : xCe yX8_items cX8_items 5 none 3 := ⟨xT1 14 (by decide +kernel) (by decide +kernel), xT3 188 rfl rfl, ⟨by decide +kernel, by decide +kernel, by decide +kernel⟩, by decide⟩
theorem sX8_items : xCi yX8_items := ⟨xT3 187 (by decide +kernel) (by decide +kernel), xTs_s 29 (by decide +kernel) (by decide +kernel)⟩
set_option maxRecDepth 100000 in
theorem eX8_single : xCe yX8_single cX8_single 5 none 3 := ⟨xT1 14 (by decide +kernel) (by decide +kernel), xT3 160 rfl rfl, ⟨by decide +kernel, by decide +kernel, by decide +kernel⟩, by decide⟩
theorem sX8_single : xCi yX8_single := ⟨xT3 159 (by decide +kernel) (by decide +kernel), xTs_s 24 (by decide +kernel) (by decide +kernel)⟩
set_option maxRecDepth 100000 in
theorem eX8_escaped : xCe yX8_escaped cX8_escaped 3 none 2 := ⟨xT1 14 (by decide +kernel) (by decide +kernel), xT3 165 rfl rfl, ⟨by decide +kernel, by decide +kernel, by decide +kernel⟩, by decide⟩
theorem sX8_escaped : xCi yX8_escaped := ⟨xT3 164 (by decide +kernel) (by decide +kernel), xTs_s 25 (by decide +kernel) (by decide +kernel)⟩
set_option maxRecDepth 100000 in
theorem eX8_number : xCe yX8_number cX8_number 7 none 1 := ⟨xT1 14 (by decide +kernel) (by decide +kernel), xT3 91 rfl rfl, ⟨by decide +kernel, by decide +kernel, by decide +kernel⟩, by decide⟩
theorem sX8_number : xCi yX8_number := ⟨xT3 90 (by decide +kernel) (by decide +kernel), xTs_s 16 (by decide +kernel) (by decide +kernel)⟩
set_option maxRecDepth 100000 in
theorem eX8_reference : xCe yX8_reference cX8_reference 5 none 3 := ⟨xT1 14 (by decide +kernel) (by decide +kernel), xT3 66 rfl rfl, ⟨by decide +kernel, by decide +kernel, by decide +kernel⟩, by decide⟩
theorem sX8_reference : xCi yX8_reference := ⟨xT3 65 (by decide +kernel) (by decide +kernel), xTs_s 14 (by decide +kernel) (by decide +kernel)⟩
set_option maxRecDepth 100000 in
theorem eX8_path : xCe yX8_path cX8_path 4 none 1 := ⟨xT1 14 (by decide +kernel) (by decide +kernel), xT3 137 rfl rfl, ⟨by decide +kernel, by decide +kernel, by decide +kernel⟩, by decide⟩
theorem sX8_path : xCi yX8_path := ⟨xT3 136 (by decide +kernel) (by decide +kernel), xTs_s 22 (by decide +kernel) (by decide +kernel)⟩
set_option maxRecDepth 100000 in
theorem eX8_way : xCe yX8_way cX8_way 8 none 3 := ⟨xT1 14 (by decide +kernel) (by decide +kernel), xT3 99 rfl rfl, ⟨by decide +kernel, by decide +kernel, by decide +kernel⟩, by decide⟩
theorem sX8_way : xCi yX8_way := ⟨xT3 98 (by decide +kernel) (by decide +kernel), xTs_s 17 (by decide +kernel) (by decide +kernel)⟩
set_option maxRecDepth 100000 in
theorem eX8_ancestryOfItself : xCe yX8_ancestryOfItself cX8_ancestryOfItself 3 (some .int) 2 := ⟨xT1 14 (by decide +kernel) (by decide +kernel), xT3 103 rfl rfl, ⟨by decide +kernel, by decide +kernel, by decide +kernel⟩, by decide⟩
theorem sX8_ancestryOfItself : xCi yX8_ancestryOfItself := ⟨xT3 102 (by decide +kernel) (by decide +kernel), xTs_s 18 (by decide +kernel) (by decide +kernel)⟩
set_option maxRecDepth 100000 in
theorem eX8_ancestry : xCe yX8_ancestry cX8_ancestry 8 (some .int) 3 := ⟨xT1 14 (by decide +kernel) (by decide +kernel), xT3 116 rfl rfl, ⟨by decide +kernel, by decide +kernel, by decide +kernel⟩, by decide⟩
theorem sX8_ancestry : xCi yX8_ancestry := ⟨xT3 115 (by decide +kernel) (by decide +kernel), xTs_s 19 (by decide +kernel) (by decide +kernel)⟩
set_option maxRecDepth 100000 in
theorem eX8_listElement : xCe yX8_listElement cX8_listElement 2 (some .int) 2 := ⟨xT1 14 (by decide +kernel) (by decide +kernel), xT3 112 rfl rfl, ⟨by decide +kernel, by decide +kernel, by decide +kernel⟩, by decide⟩
theorem sX8_listElement : Cond.static yX8_listElement ∈ xTs := xT3 111 (by decide +kernel) (by decide +kernel)
set_option maxRecDepth 100000 in
theorem eX8_step : xCe yX8_step cX8_step 3 none 1 := ⟨xT1 14 (by decide +kernel) (by decide +kernel), xT3 122 rfl rfl, ⟨by decide +kernel, by decide +kernel, by decide +kernel⟩, by decide⟩
theorem sX8_step : xCi yX8_step := ⟨xT3 121 (by decide +kernel) (by decide +kernel), xTs_s 20 (by decide +kernel) (by decide +kernel)⟩
set_option maxRecDepth 100000 in
theorem eX8_rankAmongItems : xCe yX8_rankAmongItems cX8_rankAmongItems 5 (some .int) 1 := ⟨xT1 14 (by decide +kernel) (by decide +kernel), xT3 129 rfl rfl, ⟨by decide +kernel, by decide +kernel, by decide +kernel⟩, by decide⟩
theorem sX8_rankAmongItems : xCi yX8_rankAmongItems := ⟨xT3 128 (by decide +kernel) (by decide +kernel), xTs_s 21 (by decide +kernel) (by decide +kernel)⟩
set_option maxRecDepth 100000 in
theorem eX9_init : xCe yX9_init cX9_init 3 none 2 := ⟨xT1 15 (by decide +kernel) (by decide +kernel), xT3 237 rfl rfl, ⟨by decide +kernel, by decide +kernel, by decide +kernel⟩, by decide⟩
theorem sX9_init : yX9_init.name = "<init>" ∧ Cond.instanceMethod yX9_init ∈ xTs := ⟨rfl, xT3 236 (by decide +kernel) (by decide +kernel)⟩
set_option maxRecDepth 100000 in
theorem eX9_firstWrong : xCe yX9_firstWrong cX9_firstWrong 2 (some .int) 0 := ⟨xT1 15 (by decide +kernel) (by decide +kernel), xT4 28 rfl rfl, ⟨by decide +kernel, by decide +kernel, by decide +kernel⟩, by decide⟩
theorem sX9_firstWrong : xCi yX9_firstWrong := ⟨xT4 26 (by decide +kernel) (by decide +kernel), xT4 27 (by decide +kernel) (by decide +kernel)⟩
set_option maxRecDepth 100000 in
theorem eX9_startTag : xCe yX9_startTag cX9_startTag 4 none 0 := ⟨xT1 15 (by decide +kernel) (by decide +kernel), xT4 46 rfl rfl, ⟨by decide +kernel, by decide +kernel, by decide +kernel⟩, by decide⟩
theorem sX9_startTag : xCi yX9_startTag := ⟨xT4 45 (by decide +kernel) (by decide +kernel), xTs_s 32 (by decide +kernel) (by decide +kernel)⟩
set_option maxRecDepth 100000 in
theorem eX9_skipsToName : xCe yX9_skipsToName cX9_skipsToName 2 (some .boolean) 0 := ⟨xT1 15 (by decide +kernel) (by decide +kernel), xT4 70 rfl rfl, ⟨by decide +kernel, by decide +kernel, by decide +kernel⟩, by decide⟩
theorem sX9_skipsToName : xCi yX9_skipsToName := ⟨xT4 69 (by decide +kernel) (by decide +kernel), xTs_s 35 (by decide +kernel) (by decide +kernel)⟩
set_option maxRecDepth 100000 in
theorem eX9_attribute : xCe yX9_attribute cX9_attribute 8 none 1 := ⟨xT1 15 (by decide +kernel) (by decide +kernel), xT4 74 rfl rfl, ⟨by decide +kernel, by decide +kernel, by decide +kernel⟩, by decide⟩
theorem sX9_attribute : xCi yX9_attribute := ⟨xT4 73 (by decide +kernel) (by decide +kernel), xTs_s 36 (by decide +kernel) (by decide +kernel)⟩
set_option maxRecDepth 100000 in
theorem eX9_skipsToValue : xCe yX9_skipsToValue cX9_skipsToValue 1 (some .boolean) 0 := ⟨xT1 15 (by decide +kernel) (by decide +kernel), xT4 95 rfl rfl, ⟨by decide +kernel, by decide +kernel, by decide +kernel⟩, by decide⟩
theorem sX9_skipsToValue : xCi yX9_skipsToValue := ⟨xT4 94 (by decide +kernel) (by decide +kernel), xTs_s 38 (by decide +kernel) (by decide +kernel)⟩
set_option maxRecDepth 100000 in
theorem eX9_endsValue : xCe yX9_endsValue cX9_endsValue 3 (some .boolean) 1 := ⟨xT1 15 (by decide +kernel) (by decide +kernel), xT4 99 rfl rfl, ⟨by decide +kernel, by decide +kernel, by decide +kernel⟩, by decide⟩
theorem sX9_endsValue : xCi yX9_endsValue := ⟨xT4 98 (by decide +kernel) (by decide +kernel), xTs_s 39 (by decide +kernel) (by decide +kernel)⟩
set_option maxRecDepth 100000 in
theorem eX9_endTag : xCe yX9_endTag cX9_endTag 2 none 0 := ⟨xT1 15 (by decide +kernel) (by decide +kernel), xT4 150 rfl rfl, ⟨by decide +kernel, by decide +kernel, by decide +kernel⟩, by decide⟩
theorem sX9_endTag : xCi yX9_endTag := ⟨xT4 149 (by decide +kernel) (by decide +kernel), xTs_s 45 (by decide +kernel) (by decide +kernel)⟩
set_option maxRecDepth 100000 in
theorem eX9_comment : xCe yX9_comment cX9_comment 1 none 0 := ⟨xT1 15 (by decide +kernel) (by decide +kernel), xT4 163 rfl rfl, ⟨by decide +kernel, by decide +kernel, by decide +kernel⟩, by decide⟩
theorem sX9_comment : xCi yX9_comment := ⟨xT4 162 (by decide +kernel) (by decide +kernel), xTs_s 46 (by decide +kernel) (by decide +kernel)⟩
set_option maxRecDepth 100000 in
theorem eX9_cdata : xCe yX9_cdata cX9_cdata 1 none 0 := ⟨xT1 15 (by decide +kernel) (by decide +kernel), xT4 169 rfl rfl, ⟨by decide +kernel, by decide +kernel, by decide +kernel⟩, by decide⟩
theorem sX9_cdata : xCi yX9_cdata := ⟨xT4 168 (by decide +kernel) (by decide +kernel), xTs_s 47 (by decide +kernel) (by decide +kernel)⟩
set_option maxRecDepth 100000 in
theorem eX9_textSign : xCe yX9_textSign cX9_textSign 2 none 0 := ⟨xT1 15 (by decide +kernel) (by decide +kernel), xT4 140 rfl rfl, ⟨by decide +kernel, by decide +kernel, by decide +kernel⟩, by decide⟩
theorem sX9_textSign : xCi yX9_textSign := ⟨xT4 139 (by decide +kernel) (by decide +kernel), xTs_s 44 (by decide +kernel) (by decide +kernel)⟩
set_option maxRecDepth 100000 in
theorem eX9_decoded : xCe yX9_decoded cX9_decoded 3 (some .int) 0 := ⟨xT1 15 (by decide +kernel) (by decide +kernel), xT4 103 rfl rfl, ⟨by decide +kernel, by decide +kernel, by decide +kernel⟩, by decide⟩
theorem sX9_decoded : xCi yX9_decoded := ⟨xT4 102 (by decide +kernel) (by decide +kernel), xTs_s 40 (by decide +kernel) (by decide +kernel)⟩
set_option maxRecDepth 100000 in
theorem eX9_named : xCe yX9_named cX9_named 1 (some .int) 0 := ⟨xT1 15 (by decide +kernel) (by decide +kernel), xT4 115 rfl rfl, ⟨by decide +kernel, by decide +kernel, by decide +kernel⟩, by decide⟩
theorem sX9_named : xCi yX9_named := ⟨xT4 114 (by decide +kernel) (by decide +kernel), xTs_s 42 (by decide +kernel) (by decide +kernel)⟩
set_option maxRecDepth 100000 in
theorem eX9_numbered : xCe yX9_numbered cX9_numbered 7 (some .int) 0 := ⟨xT1 15 (by decide +kernel) (by decide +kernel), xT4 107 rfl rfl, ⟨by decide +kernel, by decide +kernel, by decide +kernel⟩, by decide⟩
theorem sX9_numbered : xCi yX9_numbered := ⟨xT4 106 (by decide +kernel) (by decide +kernel), xTs_s 41 (by decide +kernel) (by decide +kernel)⟩
set_option maxRecDepth 100000 in
theorem eX9_digit : xCe yX9_digit cX9_digit 2 (some .int) 2 := ⟨xT1 15 (by decide +kernel) (by decide +kernel), xT4 110 rfl rfl, ⟨by decide +kernel, by decide +kernel, by decide +kernel⟩, by decide⟩
theorem sX9_digit : Cond.static yX9_digit ∈ xTs := xT4 109 (by decide +kernel) (by decide +kernel)
set_option maxRecDepth 100000 in
theorem eX9_comes : xCe yX9_comes cX9_comes 3 (some .boolean) 1 := ⟨xT1 15 (by decide +kernel) (by decide +kernel), xT4 120 rfl rfl, ⟨by decide +kernel, by decide +kernel, by decide +kernel⟩, by decide⟩
theorem sX9_comes : xCi yX9_comes := ⟨xT4 119 (by decide +kernel) (by decide +kernel), xTs_s 43 (by decide +kernel) (by decide +kernel)⟩
set_option maxRecDepth 100000 in
theorem eX9_skipBlanks : xCe yX9_skipBlanks cX9_skipBlanks 1 none 0 := ⟨xT1 15 (by decide +kernel) (by decide +kernel), xT4 37 rfl rfl, ⟨by decide +kernel, by decide +kernel, by decide +kernel⟩, by decide⟩
theorem sX9_skipBlanks : xCi yX9_skipBlanks := ⟨xT4 36 (by decide +kernel) (by decide +kernel), xTs_s 31 (by decide +kernel) (by decide +kernel)⟩
set_option maxRecDepth 100000 in
theorem eX9_skipName : xCe yX9_skipName cX9_skipName 1 none 0 := ⟨xT1 15 (by decide +kernel) (by decide +kernel), xT4 50 rfl rfl, ⟨by decide +kernel, by decide +kernel, by decide +kernel⟩, by decide⟩
theorem sX9_skipName : xCi yX9_skipName := ⟨xT4 49 (by decide +kernel) (by decide +kernel), xTs_s 33 (by decide +kernel) (by decide +kernel)⟩
set_option maxRecDepth 100000 in
theorem eX9_isNameBegin : xCe yX9_isNameBegin cX9_isNameBegin 1 (some .boolean) 1 := ⟨xT1 15 (by decide +kernel) (by decide +kernel), xT4 53 rfl rfl, ⟨by decide +kernel, by decide +kernel, by decide +kernel⟩, by decide⟩
theorem sX9_isNameBegin : Cond.static yX9_isNameBegin ∈ xTs := xT4 52 (by decide +kernel) (by decide +kernel)
set_option maxRecDepth 100000 in
theorem eX9_isNameSign : xCe yX9_isNameSign cX9_isNameSign 1 (some .boolean) 1 := ⟨xT1 15 (by decide +kernel) (by decide +kernel), xT4 57 rfl rfl, ⟨by decide +kernel, by decide +kernel, by decide +kernel⟩, by decide⟩
theorem sX9_isNameSign : Cond.static yX9_isNameSign ∈ xTs := xT4 56 (by decide +kernel) (by decide +kernel)
set_option maxRecDepth 100000 in
theorem eX10_init : xCe yX10_init cX10_init 1 none 0 := ⟨xT1 1 (by decide +kernel) (by decide +kernel), xT1 24 rfl rfl, ⟨by decide +kernel, by decide +kernel, by decide +kernel⟩, by decide⟩
theorem sX10_init : yX10_init.name = "<init>" ∧ Cond.instanceMethod yX10_init ∈ xTs := ⟨rfl, xT1 23 (by decide +kernel) (by decide +kernel)⟩
set_option maxRecDepth 100000 in
theorem eX10_unit : xCe yX10_unit cX10_unit 2 (some .boolean) 1 := ⟨xT1 1 (by decide +kernel) (by decide +kernel), xT1 197 rfl rfl, ⟨by decide +kernel, by decide +kernel, by decide +kernel⟩, by decide⟩
theorem sX10_unit : xCi yX10_unit := ⟨xT1 195 (by decide +kernel) (by decide +kernel), xT1 196 (by decide +kernel) (by decide +kernel)⟩
set_option maxRecDepth 100000 in
theorem eX10_classes : xCe yX10_classes cX10_classes 3 (some .int) 0 := ⟨xT1 1 (by decide +kernel) (by decide +kernel), xT1 214 rfl rfl, ⟨by decide +kernel, by decide +kernel, by decide +kernel⟩, by decide⟩
theorem sX10_classes : xCi yX10_classes := ⟨xT1 212 (by decide +kernel) (by decide +kernel), xT1 213 (by decide +kernel) (by decide +kernel)⟩
set_option maxRecDepth 100000 in
theorem eX10_make : xCe yX10_make cX10_make 2 (some .int) 1 := ⟨xT1 1 (by decide +kernel) (by decide +kernel), xT2 165 rfl rfl, ⟨by decide +kernel, by decide +kernel, by decide +kernel⟩, by decide⟩
theorem sX10_make : xCi yX10_make := ⟨xT2 163 (by decide +kernel) (by decide +kernel), xT2 164 (by decide +kernel) (by decide +kernel)⟩
set_option maxRecDepth 100000 in
theorem eX10_set : xCe yX10_set cX10_set 6 (some .boolean) 3 := ⟨xT1 1 (by decide +kernel) (by decide +kernel), xT2 178 rfl rfl, ⟨by decide +kernel, by decide +kernel, by decide +kernel⟩, by decide⟩
theorem sX10_set : xCi yX10_set := ⟨xT2 176 (by decide +kernel) (by decide +kernel), xT2 177 (by decide +kernel) (by decide +kernel)⟩
set_option maxRecDepth 100000 in
theorem eX10_text : xCe yX10_text cX10_text 3 (some .boolean) 2 := ⟨xT1 1 (by decide +kernel) (by decide +kernel), xT2 207 rfl rfl, ⟨by decide +kernel, by decide +kernel, by decide +kernel⟩, by decide⟩
theorem sX10_text : xCi yX10_text := ⟨xT2 205 (by decide +kernel) (by decide +kernel), xT2 206 (by decide +kernel) (by decide +kernel)⟩
set_option maxRecDepth 100000 in
theorem eX10_add : xCe yX10_add cX10_add 4 (some .int) 3 := ⟨xT1 1 (by decide +kernel) (by decide +kernel), xT2 222 rfl rfl, ⟨by decide +kernel, by decide +kernel, by decide +kernel⟩, by decide⟩
theorem sX10_add : xCi yX10_add := ⟨xT2 220 (by decide +kernel) (by decide +kernel), xT2 221 (by decide +kernel) (by decide +kernel)⟩
set_option maxRecDepth 100000 in
theorem eX10_limit : xCe yX10_limit cX10_limit 3 (some .int) 1 := ⟨xT1 1 (by decide +kernel) (by decide +kernel), xT3 3 rfl rfl, ⟨by decide +kernel, by decide +kernel, by decide +kernel⟩, by decide⟩
theorem sX10_limit : xCi yX10_limit := ⟨xT3 1 (by decide +kernel) (by decide +kernel), xT3 2 (by decide +kernel) (by decide +kernel)⟩
set_option maxRecDepth 100000 in
theorem eX10_write : xCe yX10_write cX10_write 5 (some .int) 2 := ⟨xT1 1 (by decide +kernel) (by decide +kernel), xT3 7 rfl rfl, ⟨by decide +kernel, by decide +kernel, by decide +kernel⟩, by decide⟩
theorem sX10_write : xCi yX10_write := ⟨xT3 5 (by decide +kernel) (by decide +kernel), xT3 6 (by decide +kernel) (by decide +kernel)⟩
set_option maxRecDepth 100000 in
theorem eX10_sign : xCe yX10_sign cX10_sign 2 (some .int) 1 := ⟨xT1 1 (by decide +kernel) (by decide +kernel), xT3 201 rfl rfl, ⟨by decide +kernel, by decide +kernel, by decide +kernel⟩, by decide⟩
theorem sX10_sign : xCi yX10_sign := ⟨xT3 199 (by decide +kernel) (by decide +kernel), xT3 200 (by decide +kernel) (by decide +kernel)⟩
set_option maxRecDepth 100000 in
theorem eX10_take : xCe yX10_take cX10_take 1 (some .int) 0 := ⟨xT1 1 (by decide +kernel) (by decide +kernel), xT3 209 rfl rfl, ⟨by decide +kernel, by decide +kernel, by decide +kernel⟩, by decide⟩
theorem sX10_take : xCi yX10_take := ⟨xT3 207 (by decide +kernel) (by decide +kernel), xT3 208 (by decide +kernel) (by decide +kernel)⟩
set_option maxRecDepth 100000 in
theorem eX10_forbid : xCe yX10_forbid cX10_forbid 4 (some .boolean) 2 := ⟨xT1 1 (by decide +kernel) (by decide +kernel), xT3 220 rfl rfl, ⟨by decide +kernel, by decide +kernel, by decide +kernel⟩, by decide⟩
theorem sX10_forbid : xCi yX10_forbid := ⟨xT3 218 (by decide +kernel) (by decide +kernel), xT3 219 (by decide +kernel) (by decide +kernel)⟩
set_option maxRecDepth 100000 in
theorem eX10_read : xCe yX10_read cX10_read 4 (some .int) 0 := ⟨xT1 1 (by decide +kernel) (by decide +kernel), xT3 232 rfl rfl, ⟨by decide +kernel, by decide +kernel, by decide +kernel⟩, by decide⟩
theorem sX10_read : xCi yX10_read := ⟨xT3 230 (by decide +kernel) (by decide +kernel), xT3 231 (by decide +kernel) (by decide +kernel)⟩
set_option maxRecDepth 100000 in
theorem eX10_same : xCe yX10_same cX10_same 2 (some .boolean) 1 := ⟨xT1 1 (by decide +kernel) (by decide +kernel), xT5 186 rfl rfl, ⟨by decide +kernel, by decide +kernel, by decide +kernel⟩, by decide⟩
theorem sX10_same : xCi yX10_same := ⟨xT5 184 (by decide +kernel) (by decide +kernel), xT5 185 (by decide +kernel) (by decide +kernel)⟩
set_option maxRecDepth 100000 in
theorem eX10_kind : xCe yX10_kind cX10_kind 3 (some .int) 2 := ⟨xT1 1 (by decide +kernel) (by decide +kernel), xT6 7 rfl rfl, ⟨by decide +kernel, by decide +kernel, by decide +kernel⟩, by decide⟩
theorem sX10_kind : xCi yX10_kind := ⟨xT6 5 (by decide +kernel) (by decide +kernel), xT6 6 (by decide +kernel) (by decide +kernel)⟩
set_option maxRecDepth 100000 in
theorem eX10_value : xCe yX10_value cX10_value 7 (some .int) 4 := ⟨xT1 1 (by decide +kernel) (by decide +kernel), xT6 18 rfl rfl, ⟨by decide +kernel, by decide +kernel, by decide +kernel⟩, by decide⟩
theorem sX10_value : xCi yX10_value := ⟨xT6 16 (by decide +kernel) (by decide +kernel), xT6 17 (by decide +kernel) (by decide +kernel)⟩
set_option maxRecDepth 100000 in
theorem eX10_count : xCe yX10_count cX10_count 2 (some .int) 1 := ⟨xT1 1 (by decide +kernel) (by decide +kernel), xT6 24 rfl rfl, ⟨by decide +kernel, by decide +kernel, by decide +kernel⟩, by decide⟩
theorem sX10_count : xCi yX10_count := ⟨xT6 22 (by decide +kernel) (by decide +kernel), xT6 23 (by decide +kernel) (by decide +kernel)⟩
set_option maxRecDepth 100000 in
theorem eX10_shapeIn : xCe yX10_shapeIn cX10_shapeIn 4 (some .int) 3 := ⟨xT1 1 (by decide +kernel) (by decide +kernel), xT2 182 rfl rfl, ⟨by decide +kernel, by decide +kernel, by decide +kernel⟩, by decide⟩
theorem sX10_shapeIn : xCi yX10_shapeIn := ⟨xT2 181 (by decide +kernel) (by decide +kernel), xTs_s 10 (by decide +kernel) (by decide +kernel)⟩
set_option maxRecDepth 100000 in
theorem eX10_heapAt : xCe yX10_heapAt cX10_heapAt 2 (some (.object "GraphScribe$Heap")) 1 := ⟨xT1 1 (by decide +kernel) (by decide +kernel), xT6 14 rfl rfl, ⟨by decide +kernel, by decide +kernel, by decide +kernel⟩, by decide⟩
theorem sX10_heapAt : xCi yX10_heapAt := ⟨xT6 13 (by decide +kernel) (by decide +kernel), xTs_s 71 (by decide +kernel) (by decide +kernel)⟩
set_option maxRecDepth 100000 in
theorem eX10_isHeap : xCe yX10_isHeap cX10_isHeap 1 (some .boolean) 1 := ⟨xT1 1 (by decide +kernel) (by decide +kernel), xT6 10 rfl rfl, ⟨by decide +kernel, by decide +kernel, by decide +kernel⟩, by decide⟩
theorem sX10_isHeap : Cond.static yX10_isHeap ∈ xTs := xT6 9 (by decide +kernel) (by decide +kernel)
set_option maxRecDepth 100000 in
theorem eX10_isSign : xCe yX10_isSign cX10_isSign 1 (some .boolean) 1 := ⟨xT1 1 (by decide +kernel) (by decide +kernel), xT1 200 rfl rfl, ⟨by decide +kernel, by decide +kernel, by decide +kernel⟩, by decide⟩
theorem sX10_isSign : Cond.static yX10_isSign ∈ xTs := xT1 199 (by decide +kernel) (by decide +kernel)
set_option maxRecDepth 100000 in
theorem eX10_isBlank : xCe yX10_isBlank cX10_isBlank 1 (some .boolean) 1 := ⟨xT1 1 (by decide +kernel) (by decide +kernel), xT4 42 rfl rfl, ⟨by decide +kernel, by decide +kernel, by decide +kernel⟩, by decide⟩
theorem sX10_isBlank : Cond.static yX10_isBlank ∈ xTs := xT4 41 (by decide +kernel) (by decide +kernel)
set_option maxRecDepth 100000 in
theorem eX10_isDigit : xCe yX10_isDigit cX10_isDigit 1 (some .boolean) 1 := ⟨xT1 1 (by decide +kernel) (by decide +kernel), xT2 17 rfl rfl, ⟨by decide +kernel, by decide +kernel, by decide +kernel⟩, by decide⟩
theorem sX10_isDigit : Cond.static yX10_isDigit ∈ xTs := xT2 16 (by decide +kernel) (by decide +kernel)
set_option maxRecDepth 100000 in
theorem eX10_isLetter : xCe yX10_isLetter cX10_isLetter 1 (some .boolean) 1 := ⟨xT1 1 (by decide +kernel) (by decide +kernel), xT2 23 rfl rfl, ⟨by decide +kernel, by decide +kernel, by decide +kernel⟩, by decide⟩
theorem sX10_isLetter : Cond.static yX10_isLetter ∈ xTs := xT2 22 (by decide +kernel) (by decide +kernel)
set_option maxRecDepth 100000 in
theorem eX10_isFieldText : xCe yX10_isFieldText cX10_isFieldText 4 (some .boolean) 3 := ⟨xT1 1 (by decide +kernel) (by decide +kernel), xT2 211 rfl rfl, ⟨by decide +kernel, by decide +kernel, by decide +kernel⟩, by decide⟩
theorem sX10_isFieldText : Cond.static yX10_isFieldText ∈ xTs := xT2 210 (by decide +kernel) (by decide +kernel)
set_option maxRecDepth 100000 in
theorem eX11_init : xCe yX11_init cX11_init 1 none 0 := ⟨xT1 6 (by decide +kernel) (by decide +kernel), xT6 33 rfl rfl, ⟨by decide +kernel, by decide +kernel, by decide +kernel⟩, by decide⟩
theorem sX11_init : yX11_init.name = "<init>" ∧ Cond.instanceMethod yX11_init ∈ xTs := ⟨rfl, xT6 32 (by decide +kernel) (by decide +kernel)⟩
set_option maxRecDepth 100000 in
theorem eX11_in : xCe yX11_in cX11_in 3 (some .boolean) 3 := ⟨xT1 6 (by decide +kernel) (by decide +kernel), xT7 18 rfl rfl, ⟨by decide +kernel, by decide +kernel, by decide +kernel⟩, by decide⟩
theorem sX11_in : Cond.static yX11_in ∈ xTs := xT7 17 (by decide +kernel) (by decide +kernel)
set_option maxRecDepth 100000 in
theorem eX11_isDigit : xCe yX11_isDigit cX11_isDigit 1 (some .boolean) 1 := ⟨xT1 6 (by decide +kernel) (by decide +kernel), xT7 47 rfl rfl, ⟨by decide +kernel, by decide +kernel, by decide +kernel⟩, by decide⟩
theorem sX11_isDigit : Cond.static yX11_isDigit ∈ xTs := xT7 46 (by decide +kernel) (by decide +kernel)
set_option maxRecDepth 100000 in
theorem eX11_isLetter : xCe yX11_isLetter cX11_isLetter 1 (some .boolean) 1 := ⟨xT1 6 (by decide +kernel) (by decide +kernel), xT7 44 rfl rfl, ⟨by decide +kernel, by decide +kernel, by decide +kernel⟩, by decide⟩
theorem sX11_isLetter : Cond.static yX11_isLetter ∈ xTs := xT7 43 (by decide +kernel) (by decide +kernel)
set_option maxRecDepth 100000 in
theorem eX11_isBlank : xCe yX11_isBlank cX11_isBlank 1 (some .boolean) 1 := ⟨xT1 6 (by decide +kernel) (by decide +kernel), xT7 21 rfl rfl, ⟨by decide +kernel, by decide +kernel, by decide +kernel⟩, by decide⟩
theorem sX11_isBlank : Cond.static yX11_isBlank ∈ xTs := xT7 20 (by decide +kernel) (by decide +kernel)
set_option maxRecDepth 100000 in
theorem eX11_unit : xCe yX11_unit cX11_unit 2 (some .boolean) 1 := ⟨xT1 6 (by decide +kernel) (by decide +kernel), xT7 15 rfl rfl, ⟨by decide +kernel, by decide +kernel, by decide +kernel⟩, by decide⟩
theorem sX11_unit : xCi yX11_unit := ⟨xT7 13 (by decide +kernel) (by decide +kernel), xT7 14 (by decide +kernel) (by decide +kernel)⟩
set_option maxRecDepth 100000 in
theorem eX11_signAt : xCe yX11_signAt cX11_signAt 2 (some .int) 1 := ⟨xT1 6 (by decide +kernel) (by decide +kernel), xT7 41 rfl rfl, ⟨by decide +kernel, by decide +kernel, by decide +kernel⟩, by decide⟩
theorem sX11_signAt : xCi yX11_signAt := ⟨xT7 40 (by decide +kernel) (by decide +kernel), xTs_s 75 (by decide +kernel) (by decide +kernel)⟩
set_option maxRecDepth 100000 in
theorem eX11_nameAt : xCe yX11_nameAt cX11_nameAt 5 (some .int) 2 := ⟨xT1 6 (by decide +kernel) (by decide +kernel), xT7 37 rfl rfl, ⟨by decide +kernel, by decide +kernel, by decide +kernel⟩, by decide⟩
theorem sX11_nameAt : xCi yX11_nameAt := ⟨xT7 36 (by decide +kernel) (by decide +kernel), xTs_s 74 (by decide +kernel) (by decide +kernel)⟩
set_option maxRecDepth 100000 in
theorem eX11_areAlike : xCe yX11_areAlike cX11_areAlike 5 (some .boolean) 2 := ⟨xT1 6 (by decide +kernel) (by decide +kernel), xT7 51 rfl rfl, ⟨by decide +kernel, by decide +kernel, by decide +kernel⟩, by decide⟩
theorem sX11_areAlike : xCi yX11_areAlike := ⟨xT7 50 (by decide +kernel) (by decide +kernel), xTs_s 76 (by decide +kernel) (by decide +kernel)⟩
set_option maxRecDepth 100000 in
theorem eX11_letterOf : xCe yX11_letterOf cX11_letterOf 2 (some .int) 2 := ⟨xT1 6 (by decide +kernel) (by decide +kernel), xT7 70 rfl rfl, ⟨by decide +kernel, by decide +kernel, by decide +kernel⟩, by decide⟩
theorem sX11_letterOf : Cond.static yX11_letterOf ∈ xTs := xT7 69 (by decide +kernel) (by decide +kernel)
set_option maxRecDepth 100000 in
theorem eX11_isWord : xCe yX11_isWord cX11_isWord 6 (some .boolean) 2 := ⟨xT1 6 (by decide +kernel) (by decide +kernel), xT7 67 rfl rfl, ⟨by decide +kernel, by decide +kernel, by decide +kernel⟩, by decide⟩
theorem sX11_isWord : xCi yX11_isWord := ⟨xT7 66 (by decide +kernel) (by decide +kernel), xTs_s 80 (by decide +kernel) (by decide +kernel)⟩
set_option maxRecDepth 100000 in
theorem eX11_want : xCe yX11_want cX11_want 2 none 1 := ⟨xT1 6 (by decide +kernel) (by decide +kernel), xT7 59 rfl rfl, ⟨by decide +kernel, by decide +kernel, by decide +kernel⟩, by decide⟩
theorem sX11_want : xCi yX11_want := ⟨xT7 58 (by decide +kernel) (by decide +kernel), xTs_s 78 (by decide +kernel) (by decide +kernel)⟩
set_option maxRecDepth 100000 in
theorem eX11_name : xCe yX11_name cX11_name 7 none 3 := ⟨xT1 6 (by decide +kernel) (by decide +kernel), xT7 33 rfl rfl, ⟨by decide +kernel, by decide +kernel, by decide +kernel⟩, by decide⟩
theorem sX11_name : xCi yX11_name := ⟨xT7 32 (by decide +kernel) (by decide +kernel), xTs_s 73 (by decide +kernel) (by decide +kernel)⟩
set_option maxRecDepth 100000 in
theorem eX11_eat : xCe yX11_eat cX11_eat 2 none 1 := ⟨xT1 6 (by decide +kernel) (by decide +kernel), xT7 55 rfl rfl, ⟨by decide +kernel, by decide +kernel, by decide +kernel⟩, by decide⟩
theorem sX11_eat : xCi yX11_eat := ⟨xT7 54 (by decide +kernel) (by decide +kernel), xTs_s 77 (by decide +kernel) (by decide +kernel)⟩
set_option maxRecDepth 100000 in
theorem eX11_field : xCe yX11_field cX11_field 7 none 2 := ⟨xT1 6 (by decide +kernel) (by decide +kernel), xT7 63 rfl rfl, ⟨by decide +kernel, by decide +kernel, by decide +kernel⟩, by decide⟩
theorem sX11_field : xCi yX11_field := ⟨xT7 62 (by decide +kernel) (by decide +kernel), xTs_s 79 (by decide +kernel) (by decide +kernel)⟩
set_option maxRecDepth 100000 in
theorem eX11_oneClass : xCe yX11_oneClass cX11_oneClass 3 none 1 := ⟨xT1 6 (by decide +kernel) (by decide +kernel), xT7 29 rfl rfl, ⟨by decide +kernel, by decide +kernel, by decide +kernel⟩, by decide⟩
theorem sX11_oneClass : xCi yX11_oneClass := ⟨xT7 28 (by decide +kernel) (by decide +kernel), xTs_s 72 (by decide +kernel) (by decide +kernel)⟩
set_option maxRecDepth 100000 in
theorem eX11_isMixed : xCe yX11_isMixed cX11_isMixed 7 (some .boolean) 1 := ⟨xT1 6 (by decide +kernel) (by decide +kernel), xT7 74 rfl rfl, ⟨by decide +kernel, by decide +kernel, by decide +kernel⟩, by decide⟩
theorem sX11_isMixed : xCi yX11_isMixed := ⟨xT7 73 (by decide +kernel) (by decide +kernel), xTs_s 81 (by decide +kernel) (by decide +kernel)⟩
set_option maxRecDepth 100000 in
theorem eX11_classes : xCe yX11_classes cX11_classes 4 (some .int) 0 := ⟨xT1 6 (by decide +kernel) (by decide +kernel), xT7 25 rfl rfl, ⟨by decide +kernel, by decide +kernel, by decide +kernel⟩, by decide⟩
theorem sX11_classes : xCi yX11_classes := ⟨xT7 23 (by decide +kernel) (by decide +kernel), xT7 24 (by decide +kernel) (by decide +kernel)⟩
set_option maxRecDepth 100000 in
theorem eX11_object : xCe yX11_object cX11_object 6 (some .int) 2 := ⟨xT1 6 (by decide +kernel) (by decide +kernel), xT7 82 rfl rfl, ⟨by decide +kernel, by decide +kernel, by decide +kernel⟩, by decide⟩
theorem sX11_object : xCi yX11_object := ⟨xT7 81 (by decide +kernel) (by decide +kernel), xTs_s 82 (by decide +kernel) (by decide +kernel)⟩
set_option maxRecDepth 100000 in
theorem eX11_isObject : xCe yX11_isObject cX11_isObject 3 (some .boolean) 2 := ⟨xT1 6 (by decide +kernel) (by decide +kernel), xT7 94 rfl rfl, ⟨by decide +kernel, by decide +kernel, by decide +kernel⟩, by decide⟩
theorem sX11_isObject : xCi yX11_isObject := ⟨xT7 93 (by decide +kernel) (by decide +kernel), xTs_s 84 (by decide +kernel) (by decide +kernel)⟩
set_option maxRecDepth 100000 in
theorem eX11_kindAt : xCe yX11_kindAt cX11_kindAt 5 (some .int) 3 := ⟨xT1 6 (by decide +kernel) (by decide +kernel), xT7 90 rfl rfl, ⟨by decide +kernel, by decide +kernel, by decide +kernel⟩, by decide⟩
theorem sX11_kindAt : xCi yX11_kindAt := ⟨xT7 89 (by decide +kernel) (by decide +kernel), xTs_s 83 (by decide +kernel) (by decide +kernel)⟩
set_option maxRecDepth 100000 in
theorem eX11_make : xCe yX11_make cX11_make 2 (some .int) 1 := ⟨xT1 6 (by decide +kernel) (by decide +kernel), xT7 78 rfl rfl, ⟨by decide +kernel, by decide +kernel, by decide +kernel⟩, by decide⟩
theorem sX11_make : xCi yX11_make := ⟨xT7 76 (by decide +kernel) (by decide +kernel), xT7 77 (by decide +kernel) (by decide +kernel)⟩
set_option maxRecDepth 100000 in
theorem eX11_set : xCe yX11_set cX11_set 5 (some .boolean) 3 := ⟨xT1 6 (by decide +kernel) (by decide +kernel), xT7 86 rfl rfl, ⟨by decide +kernel, by decide +kernel, by decide +kernel⟩, by decide⟩
theorem sX11_set : xCi yX11_set := ⟨xT7 84 (by decide +kernel) (by decide +kernel), xT7 85 (by decide +kernel) (by decide +kernel)⟩
set_option maxRecDepth 100000 in
theorem eX11_text : xCe yX11_text cX11_text 6 (some .boolean) 2 := ⟨xT1 6 (by decide +kernel) (by decide +kernel), xT7 98 rfl rfl, ⟨by decide +kernel, by decide +kernel, by decide +kernel⟩, by decide⟩
theorem sX11_text : xCi yX11_text := ⟨xT7 96 (by decide +kernel) (by decide +kernel), xT7 97 (by decide +kernel) (by decide +kernel)⟩
set_option maxRecDepth 100000 in
theorem eX11_add : xCe yX11_add cX11_add 5 (some .int) 3 := ⟨xT1 6 (by decide +kernel) (by decide +kernel), xT7 102 rfl rfl, ⟨by decide +kernel, by decide +kernel, by decide +kernel⟩, by decide⟩
theorem sX11_add : xCi yX11_add := ⟨xT7 100 (by decide +kernel) (by decide +kernel), xT7 101 (by decide +kernel) (by decide +kernel)⟩
set_option maxRecDepth 100000 in
theorem eX11_limit : xCe yX11_limit cX11_limit 3 (some .int) 1 := ⟨xT1 6 (by decide +kernel) (by decide +kernel), xT7 106 rfl rfl, ⟨by decide +kernel, by decide +kernel, by decide +kernel⟩, by decide⟩
theorem sX11_limit : xCi yX11_limit := ⟨xT7 104 (by decide +kernel) (by decide +kernel), xT7 105 (by decide +kernel) (by decide +kernel)⟩
set_option maxRecDepth 100000 in
theorem eX11_put : xCe yX11_put cX11_put 2 none 1 := ⟨xT1 6 (by decide +kernel) (by decide +kernel), xT7 126 rfl rfl, ⟨by decide +kernel, by decide +kernel, by decide +kernel⟩, by decide⟩
theorem sX11_put : xCi yX11_put := ⟨xT7 125 (by decide +kernel) (by decide +kernel), xTs_s 88 (by decide +kernel) (by decide +kernel)⟩
set_option maxRecDepth 100000 in
theorem eX11_putName : xCe yX11_putName cX11_putName 4 none 1 := ⟨xT1 6 (by decide +kernel) (by decide +kernel), xT7 130 rfl rfl, ⟨by decide +kernel, by decide +kernel, by decide +kernel⟩, by decide⟩
theorem sX11_putName : xCi yX11_putName := ⟨xT7 129 (by decide +kernel) (by decide +kernel), xTs_s 89 (by decide +kernel) (by decide +kernel)⟩
set_option maxRecDepth 100000 in
theorem eX11_putNumber : xCe yX11_putNumber cX11_putNumber 6 none 1 := ⟨xT1 6 (by decide +kernel) (by decide +kernel), xT7 142 rfl rfl, ⟨by decide +kernel, by decide +kernel, by decide +kernel⟩, by decide⟩
theorem sX11_putNumber : xCi yX11_putNumber := ⟨xT7 141 (by decide +kernel) (by decide +kernel), xTs_s 92 (by decide +kernel) (by decide +kernel)⟩
set_option maxRecDepth 100000 in
theorem eX11_putWord : xCe yX11_putWord cX11_putWord 5 none 4 := ⟨xT1 6 (by decide +kernel) (by decide +kernel), xT7 138 rfl rfl, ⟨by decide +kernel, by decide +kernel, by decide +kernel⟩, by decide⟩
theorem sX11_putWord : xCi yX11_putWord := ⟨xT7 137 (by decide +kernel) (by decide +kernel), xTs_s 91 (by decide +kernel) (by decide +kernel)⟩
set_option maxRecDepth 100000 in
theorem eX11_putText : xCe yX11_putText cX11_putText 5 none 2 := ⟨xT1 6 (by decide +kernel) (by decide +kernel), xT7 152 rfl rfl, ⟨by decide +kernel, by decide +kernel, by decide +kernel⟩, by decide⟩
theorem sX11_putText : xCi yX11_putText := ⟨xT7 151 (by decide +kernel) (by decide +kernel), xTs_s 94 (by decide +kernel) (by decide +kernel)⟩
set_option maxRecDepth 100000 in
theorem eX11_putValue : xCe yX11_putValue cX11_putValue 6 none 4 := ⟨xT1 6 (by decide +kernel) (by decide +kernel), xT7 148 rfl rfl, ⟨by decide +kernel, by decide +kernel, by decide +kernel⟩, by decide⟩
theorem sX11_putValue : xCi yX11_putValue := ⟨xT7 147 (by decide +kernel) (by decide +kernel), xTs_s 93 (by decide +kernel) (by decide +kernel)⟩
set_option maxRecDepth 100000 in
theorem eX11_sameName : xCe yX11_sameName cX11_sameName 5 (some .boolean) 2 := ⟨xT1 6 (by decide +kernel) (by decide +kernel), xT7 122 rfl rfl, ⟨by decide +kernel, by decide +kernel, by decide +kernel⟩, by decide⟩
theorem sX11_sameName : xCi yX11_sameName := ⟨xT7 121 (by decide +kernel) (by decide +kernel), xTs_s 87 (by decide +kernel) (by decide +kernel)⟩
set_option maxRecDepth 100000 in
theorem eX11_element : xCe yX11_element cX11_element 5 (some .int) 2 := ⟨xT1 6 (by decide +kernel) (by decide +kernel), xT7 118 rfl rfl, ⟨by decide +kernel, by decide +kernel, by decide +kernel⟩, by decide⟩
theorem sX11_element : xCi yX11_element := ⟨xT7 117 (by decide +kernel) (by decide +kernel), xTs_s 86 (by decide +kernel) (by decide +kernel)⟩
set_option maxRecDepth 100000 in
theorem eX11_putAttribute : xCe yX11_putAttribute cX11_putAttribute 5 none 4 := ⟨xT1 6 (by decide +kernel) (by decide +kernel), xT7 134 rfl rfl, ⟨by decide +kernel, by decide +kernel, by decide +kernel⟩, by decide⟩
theorem sX11_putAttribute : xCi yX11_putAttribute := ⟨xT7 133 (by decide +kernel) (by decide +kernel), xTs_s 90 (by decide +kernel) (by decide +kernel)⟩
set_option maxRecDepth 100000 in
theorem eX11_putStep : xCe yX11_putStep cX11_putStep 2 none 1 := ⟨xT1 6 (by decide +kernel) (by decide +kernel), xT7 192 rfl rfl, ⟨by decide +kernel, by decide +kernel, by decide +kernel⟩, by decide⟩
theorem sX11_putStep : xCi yX11_putStep := ⟨xT7 191 (by decide +kernel) (by decide +kernel), xTs_s 104 (by decide +kernel) (by decide +kernel)⟩
set_option maxRecDepth 100000 in
theorem eX11_isAround : xCe yX11_isAround cX11_isAround 4 (some .boolean) 2 := ⟨xT1 6 (by decide +kernel) (by decide +kernel), xT7 188 rfl rfl, ⟨by decide +kernel, by decide +kernel, by decide +kernel⟩, by decide⟩
theorem sX11_isAround : xCi yX11_isAround := ⟨xT7 187 (by decide +kernel) (by decide +kernel), xTs_s 103 (by decide +kernel) (by decide +kernel)⟩
set_option maxRecDepth 100000 in
theorem eX11_putSteps : xCe yX11_putSteps cX11_putSteps 9 none 3 := ⟨xT1 6 (by decide +kernel) (by decide +kernel), xT7 184 rfl rfl, ⟨by decide +kernel, by decide +kernel, by decide +kernel⟩, by decide⟩
theorem sX11_putSteps : xCi yX11_putSteps := ⟨xT7 183 (by decide +kernel) (by decide +kernel), xTs_s 102 (by decide +kernel) (by decide +kernel)⟩
set_option maxRecDepth 100000 in
theorem eX11_putWay : xCe yX11_putWay cX11_putWay 6 none 3 := ⟨xT1 6 (by decide +kernel) (by decide +kernel), xT7 180 rfl rfl, ⟨by decide +kernel, by decide +kernel, by decide +kernel⟩, by decide⟩
theorem sX11_putWay : xCi yX11_putWay := ⟨xT7 179 (by decide +kernel) (by decide +kernel), xTs_s 101 (by decide +kernel) (by decide +kernel)⟩
set_option maxRecDepth 100000 in
theorem eX11_refer : xCe yX11_refer cX11_refer 6 none 4 := ⟨xT1 6 (by decide +kernel) (by decide +kernel), xT7 176 rfl rfl, ⟨by decide +kernel, by decide +kernel, by decide +kernel⟩, by decide⟩
theorem sX11_refer : xCi yX11_refer := ⟨xT7 175 (by decide +kernel) (by decide +kernel), xTs_s 100 (by decide +kernel) (by decide +kernel)⟩
set_option maxRecDepth 100000 in
theorem eX11_hasContent : xCe yX11_hasContent cX11_hasContent 7 (some .boolean) 2 := ⟨xT1 6 (by decide +kernel) (by decide +kernel), xT7 156 rfl rfl, ⟨by decide +kernel, by decide +kernel, by decide +kernel⟩, by decide⟩
theorem sX11_hasContent : xCi yX11_hasContent := ⟨xT7 155 (by decide +kernel) (by decide +kernel), xTs_s 95 (by decide +kernel) (by decide +kernel)⟩
set_option maxRecDepth 100000 in
theorem eX11_begin : xCe yX11_begin cX11_begin 9 none 5 := ⟨xT1 6 (by decide +kernel) (by decide +kernel), xT7 114 rfl rfl, ⟨by decide +kernel, by decide +kernel, by decide +kernel⟩, by decide⟩
theorem sX11_begin : xCi yX11_begin := ⟨xT7 113 (by decide +kernel) (by decide +kernel), xTs_s 85 (by decide +kernel) (by decide +kernel)⟩
set_option maxRecDepth 100000 in
theorem eX11_end : xCe yX11_end cX11_end 2 none 1 := ⟨xT1 6 (by decide +kernel) (by decide +kernel), xT7 164 rfl rfl, ⟨by decide +kernel, by decide +kernel, by decide +kernel⟩, by decide⟩
theorem sX11_end : xCi yX11_end := ⟨xT7 163 (by decide +kernel) (by decide +kernel), xTs_s 97 (by decide +kernel) (by decide +kernel)⟩
set_option maxRecDepth 100000 in
theorem eX11_child : xCe yX11_child cX11_child 6 (some .boolean) 5 := ⟨xT1 6 (by decide +kernel) (by decide +kernel), xT7 172 rfl rfl, ⟨by decide +kernel, by decide +kernel, by decide +kernel⟩, by decide⟩
theorem sX11_child : xCi yX11_child := ⟨xT7 171 (by decide +kernel) (by decide +kernel), xTs_s 99 (by decide +kernel) (by decide +kernel)⟩
set_option maxRecDepth 100000 in
theorem eX11_goesOn : xCe yX11_goesOn cX11_goesOn 10 (some .boolean) 1 := ⟨xT1 6 (by decide +kernel) (by decide +kernel), xT7 160 rfl rfl, ⟨by decide +kernel, by decide +kernel, by decide +kernel⟩, by decide⟩
theorem sX11_goesOn : xCi yX11_goesOn := ⟨xT7 159 (by decide +kernel) (by decide +kernel), xTs_s 96 (by decide +kernel) (by decide +kernel)⟩
set_option maxRecDepth 100000 in
theorem eX11_lists : xCe yX11_lists cX11_lists 8 (some .boolean) 4 := ⟨xT1 6 (by decide +kernel) (by decide +kernel), xT7 168 rfl rfl, ⟨by decide +kernel, by decide +kernel, by decide +kernel⟩, by decide⟩
theorem sX11_lists : xCi yX11_lists := ⟨xT7 167 (by decide +kernel) (by decide +kernel), xTs_s 98 (by decide +kernel) (by decide +kernel)⟩
set_option maxRecDepth 100000 in
theorem eX11_write : xCe yX11_write cX11_write 5 (some .int) 2 := ⟨xT1 6 (by decide +kernel) (by decide +kernel), xT7 110 rfl rfl, ⟨by decide +kernel, by decide +kernel, by decide +kernel⟩, by decide⟩
theorem sX11_write : xCi yX11_write := ⟨xT7 108 (by decide +kernel) (by decide +kernel), xT7 109 (by decide +kernel) (by decide +kernel)⟩
set_option maxRecDepth 100000 in
theorem eX11_sign : xCe yX11_sign cX11_sign 2 (some .int) 1 := ⟨xT1 6 (by decide +kernel) (by decide +kernel), xT7 196 rfl rfl, ⟨by decide +kernel, by decide +kernel, by decide +kernel⟩, by decide⟩
theorem sX11_sign : xCi yX11_sign := ⟨xT7 194 (by decide +kernel) (by decide +kernel), xT7 195 (by decide +kernel) (by decide +kernel)⟩
set_option maxRecDepth 100000 in
theorem eX11_take : xCe yX11_take cX11_take 2 (some .int) 0 := ⟨xT1 6 (by decide +kernel) (by decide +kernel), xT7 200 rfl rfl, ⟨by decide +kernel, by decide +kernel, by decide +kernel⟩, by decide⟩
theorem sX11_take : xCi yX11_take := ⟨xT7 198 (by decide +kernel) (by decide +kernel), xT7 199 (by decide +kernel) (by decide +kernel)⟩
set_option maxRecDepth 100000 in
theorem eX11_forbid : xCe yX11_forbid cX11_forbid 4 (some .boolean) 2 := ⟨xT1 6 (by decide +kernel) (by decide +kernel), xT7 204 rfl rfl, ⟨by decide +kernel, by decide +kernel, by decide +kernel⟩, by decide⟩
theorem sX11_forbid : xCi yX11_forbid := ⟨xT7 202 (by decide +kernel) (by decide +kernel), xT7 203 (by decide +kernel) (by decide +kernel)⟩
set_option maxRecDepth 100000 in
theorem eX11_docAt : xCe yX11_docAt cX11_docAt 2 (some .int) 1 := ⟨xT1 6 (by decide +kernel) (by decide +kernel), xT7 220 rfl rfl, ⟨by decide +kernel, by decide +kernel, by decide +kernel⟩, by decide⟩
theorem sX11_docAt : xCi yX11_docAt := ⟨xT7 219 (by decide +kernel) (by decide +kernel), xTs_s 107 (by decide +kernel) (by decide +kernel)⟩
set_option maxRecDepth 100000 in
theorem eX11_fail : xCe yX11_fail cX11_fail 2 none 1 := ⟨xT1 6 (by decide +kernel) (by decide +kernel), xT7 224 rfl rfl, ⟨by decide +kernel, by decide +kernel, by decide +kernel⟩, by decide⟩
theorem sX11_fail : xCi yX11_fail := ⟨xT7 223 (by decide +kernel) (by decide +kernel), xTs_s 108 (by decide +kernel) (by decide +kernel)⟩
set_option maxRecDepth 100000 in
theorem eX11_beginsName : xCe yX11_beginsName cX11_beginsName 1 (some .boolean) 1 := ⟨xT1 6 (by decide +kernel) (by decide +kernel), xT8 15 rfl rfl, ⟨by decide +kernel, by decide +kernel, by decide +kernel⟩, by decide⟩
theorem sX11_beginsName : Cond.static yX11_beginsName ∈ xTs := xT8 14 (by decide +kernel) (by decide +kernel)
set_option maxRecDepth 100000 in
theorem eX11_inName : xCe yX11_inName cX11_inName 1 (some .boolean) 1 := ⟨xT1 6 (by decide +kernel) (by decide +kernel), xT8 12 rfl rfl, ⟨by decide +kernel, by decide +kernel, by decide +kernel⟩, by decide⟩
theorem sX11_inName : Cond.static yX11_inName ∈ xTs := xT8 11 (by decide +kernel) (by decide +kernel)
set_option maxRecDepth 100000 in
theorem eX11_blanksFrom : xCe yX11_blanksFrom cX11_blanksFrom 3 (some .int) 1 := ⟨xT1 6 (by decide +kernel) (by decide +kernel), xT7 216 rfl rfl, ⟨by decide +kernel, by decide +kernel, by decide +kernel⟩, by decide⟩
theorem sX11_blanksFrom : xCi yX11_blanksFrom := ⟨xT7 215 (by decide +kernel) (by decide +kernel), xTs_s 106 (by decide +kernel) (by decide +kernel)⟩
set_option maxRecDepth 100000 in
theorem eX11_nameEnd : xCe yX11_nameEnd cX11_nameEnd 3 (some .int) 1 := ⟨xT1 6 (by decide +kernel) (by decide +kernel), xT8 9 rfl rfl, ⟨by decide +kernel, by decide +kernel, by decide +kernel⟩, by decide⟩
theorem sX11_nameEnd : xCi yX11_nameEnd := ⟨xT8 8 (by decide +kernel) (by decide +kernel), xTs_s 112 (by decide +kernel) (by decide +kernel)⟩
set_option maxRecDepth 100000 in
theorem eX11_keep : xCe yX11_keep cX11_keep 3 none 2 := ⟨xT1 6 (by decide +kernel) (by decide +kernel), xT7 235 rfl rfl, ⟨by decide +kernel, by decide +kernel, by decide +kernel⟩, by decide⟩
theorem sX11_keep : xCi yX11_keep := ⟨xT7 234 (by decide +kernel) (by decide +kernel), xTs_s 110 (by decide +kernel) (by decide +kernel)⟩
set_option maxRecDepth 100000 in
theorem eX11_entitySign : xCe yX11_entitySign cX11_entitySign 2 (some .int) 2 := ⟨xT1 6 (by decide +kernel) (by decide +kernel), xT7 238 rfl rfl, ⟨by decide +kernel, by decide +kernel, by decide +kernel⟩, by decide⟩
theorem sX11_entitySign : Cond.static yX11_entitySign ∈ xTs := xT7 237 (by decide +kernel) (by decide +kernel)
set_option maxRecDepth 100000 in
theorem eX11_entity : xCe yX11_entity cX11_entity 1 (some .int) 1 := ⟨xT1 6 (by decide +kernel) (by decide +kernel), xT8 1 rfl rfl, ⟨by decide +kernel, by decide +kernel, by decide +kernel⟩, by decide⟩
theorem sX11_entity : Cond.static yX11_entity ∈ xTs := xT8 0 (by decide +kernel) (by decide +kernel)
set_option maxRecDepth 100000 in
theorem eX11_figure : xCe yX11_figure cX11_figure 2 (some .int) 2 := ⟨xT1 6 (by decide +kernel) (by decide +kernel), xT7 231 rfl rfl, ⟨by decide +kernel, by decide +kernel, by decide +kernel⟩, by decide⟩
theorem sX11_figure : Cond.static yX11_figure ∈ xTs := xT7 230 (by decide +kernel) (by decide +kernel)
set_option maxRecDepth 100000 in
theorem eX11_reference : xCe yX11_reference cX11_reference 7 (some .int) 2 := ⟨xT1 6 (by decide +kernel) (by decide +kernel), xT7 228 rfl rfl, ⟨by decide +kernel, by decide +kernel, by decide +kernel⟩, by decide⟩
theorem sX11_reference : xCi yX11_reference := ⟨xT7 227 (by decide +kernel) (by decide +kernel), xTs_s 109 (by decide +kernel) (by decide +kernel)⟩
set_option maxRecDepth 100000 in
theorem eX11_sameNames : xCe yX11_sameNames cX11_sameNames 7 (some .boolean) 4 := ⟨xT1 6 (by decide +kernel) (by decide +kernel), xT8 19 rfl rfl, ⟨by decide +kernel, by decide +kernel, by decide +kernel⟩, by decide⟩
theorem sX11_sameNames : xCi yX11_sameNames := ⟨xT8 18 (by decide +kernel) (by decide +kernel), xTs_s 113 (by decide +kernel) (by decide +kernel)⟩
set_option maxRecDepth 100000 in
theorem eX11_attribute : xCe yX11_attribute cX11_attribute 7 (some .int) 2 := ⟨xT1 6 (by decide +kernel) (by decide +kernel), xT8 34 rfl rfl, ⟨by decide +kernel, by decide +kernel, by decide +kernel⟩, by decide⟩
theorem sX11_attribute : xCi yX11_attribute := ⟨xT8 33 (by decide +kernel) (by decide +kernel), xTs_s 116 (by decide +kernel) (by decide +kernel)⟩
set_option maxRecDepth 100000 in
theorem eX11_beginTag : xCe yX11_beginTag cX11_beginTag 9 (some .int) 3 := ⟨xT1 6 (by decide +kernel) (by decide +kernel), xT8 30 rfl rfl, ⟨by decide +kernel, by decide +kernel, by decide +kernel⟩, by decide⟩
theorem sX11_beginTag : xCi yX11_beginTag := ⟨xT8 29 (by decide +kernel) (by decide +kernel), xTs_s 115 (by decide +kernel) (by decide +kernel)⟩
set_option maxRecDepth 100000 in
theorem eX11_endTag : xCe yX11_endTag cX11_endTag 6 (some .int) 2 := ⟨xT1 6 (by decide +kernel) (by decide +kernel), xT8 5 rfl rfl, ⟨by decide +kernel, by decide +kernel, by decide +kernel⟩, by decide⟩
theorem sX11_endTag : xCi yX11_endTag := ⟨xT8 4 (by decide +kernel) (by decide +kernel), xTs_s 111 (by decide +kernel) (by decide +kernel)⟩
set_option maxRecDepth 100000 in
theorem eX11_openerSign : xCe yX11_openerSign cX11_openerSign 2 (some .int) 2 := ⟨xT1 6 (by decide +kernel) (by decide +kernel), xT8 26 rfl rfl, ⟨by decide +kernel, by decide +kernel, by decide +kernel⟩, by decide⟩
theorem sX11_openerSign : Cond.static yX11_openerSign ∈ xTs := xT8 25 (by decide +kernel) (by decide +kernel)
set_option maxRecDepth 100000 in
theorem eX11_section : xCe yX11_section cX11_section 8 (some .int) 3 := ⟨xT1 6 (by decide +kernel) (by decide +kernel), xT8 23 rfl rfl, ⟨by decide +kernel, by decide +kernel, by decide +kernel⟩, by decide⟩
theorem sX11_section : xCi yX11_section := ⟨xT8 22 (by decide +kernel) (by decide +kernel), xTs_s 114 (by decide +kernel) (by decide +kernel)⟩
set_option maxRecDepth 100000 in
theorem eX11_parse : xCe yX11_parse cX11_parse 8 none 0 := ⟨xT1 6 (by decide +kernel) (by decide +kernel), xT7 212 rfl rfl, ⟨by decide +kernel, by decide +kernel, by decide +kernel⟩, by decide⟩
theorem sX11_parse : xCi yX11_parse := ⟨xT7 211 (by decide +kernel) (by decide +kernel), xTs_s 105 (by decide +kernel) (by decide +kernel)⟩
set_option maxRecDepth 100000 in
theorem eX11_hasChild : xCe yX11_hasChild cX11_hasChild 2 (some .boolean) 1 := ⟨xT1 6 (by decide +kernel) (by decide +kernel), xT8 57 rfl rfl, ⟨by decide +kernel, by decide +kernel, by decide +kernel⟩, by decide⟩
theorem sX11_hasChild : xCi yX11_hasChild := ⟨xT8 56 (by decide +kernel) (by decide +kernel), xTs_s 121 (by decide +kernel) (by decide +kernel)⟩
set_option maxRecDepth 100000 in
theorem eX11_textSize : xCe yX11_textSize cX11_textSize 4 (some .int) 1 := ⟨xT1 6 (by decide +kernel) (by decide +kernel), xT8 61 rfl rfl, ⟨by decide +kernel, by decide +kernel, by decide +kernel⟩, by decide⟩
theorem sX11_textSize : xCi yX11_textSize := ⟨xT8 60 (by decide +kernel) (by decide +kernel), xTs_s 122 (by decide +kernel) (by decide +kernel)⟩
set_option maxRecDepth 100000 in
theorem eX11_isBlankWithin : xCe yX11_isBlankWithin cX11_isBlankWithin 4 (some .boolean) 1 := ⟨xT1 6 (by decide +kernel) (by decide +kernel), xT8 81 rfl rfl, ⟨by decide +kernel, by decide +kernel, by decide +kernel⟩, by decide⟩
theorem sX11_isBlankWithin : xCi yX11_isBlankWithin := ⟨xT8 80 (by decide +kernel) (by decide +kernel), xTs_s 127 (by decide +kernel) (by decide +kernel)⟩
set_option maxRecDepth 100000 in
theorem eX11_writtenSign : xCe yX11_writtenSign cX11_writtenSign 7 (some .int) 2 := ⟨xT1 6 (by decide +kernel) (by decide +kernel), xT8 73 rfl rfl, ⟨by decide +kernel, by decide +kernel, by decide +kernel⟩, by decide⟩
theorem sX11_writtenSign : xCi yX11_writtenSign := ⟨xT8 72 (by decide +kernel) (by decide +kernel), xTs_s 125 (by decide +kernel) (by decide +kernel)⟩
set_option maxRecDepth 100000 in
theorem eX11_isNamed : xCe yX11_isNamed cX11_isNamed 6 (some .boolean) 3 := ⟨xT1 6 (by decide +kernel) (by decide +kernel), xT8 69 rfl rfl, ⟨by decide +kernel, by decide +kernel, by decide +kernel⟩, by decide⟩
theorem sX11_isNamed : xCi yX11_isNamed := ⟨xT8 68 (by decide +kernel) (by decide +kernel), xTs_s 124 (by decide +kernel) (by decide +kernel)⟩
set_option maxRecDepth 100000 in
theorem eX11_classNamed : xCe yX11_classNamed cX11_classNamed 5 (some .int) 2 := ⟨xT1 6 (by decide +kernel) (by decide +kernel), xT8 65 rfl rfl, ⟨by decide +kernel, by decide +kernel, by decide +kernel⟩, by decide⟩
theorem sX11_classNamed : xCi yX11_classNamed := ⟨xT8 64 (by decide +kernel) (by decide +kernel), xTs_s 123 (by decide +kernel) (by decide +kernel)⟩
set_option maxRecDepth 100000 in
theorem eX11_fieldNamed : xCe yX11_fieldNamed cX11_fieldNamed 9 (some .int) 4 := ⟨xT1 6 (by decide +kernel) (by decide +kernel), xT8 85 rfl rfl, ⟨by decide +kernel, by decide +kernel, by decide +kernel⟩, by decide⟩
theorem sX11_fieldNamed : xCi yX11_fieldNamed := ⟨xT8 84 (by decide +kernel) (by decide +kernel), xTs_s 128 (by decide +kernel) (by decide +kernel)⟩
set_option maxRecDepth 100000 in
theorem eX11_implicitOf : xCe yX11_implicitOf cX11_implicitOf 4 (some .int) 1 := ⟨xT1 6 (by decide +kernel) (by decide +kernel), xT8 108 rfl rfl, ⟨by decide +kernel, by decide +kernel, by decide +kernel⟩, by decide⟩
theorem sX11_implicitOf : xCi yX11_implicitOf := ⟨xT8 107 (by decide +kernel) (by decide +kernel), xTs_s 133 (by decide +kernel) (by decide +kernel)⟩
set_option maxRecDepth 100000 in
theorem eX11_wordSign : xCe yX11_wordSign cX11_wordSign 2 (some .int) 2 := ⟨xT1 6 (by decide +kernel) (by decide +kernel), xT8 53 rfl rfl, ⟨by decide +kernel, by decide +kernel, by decide +kernel⟩, by decide⟩
theorem sX11_wordSign : Cond.static yX11_wordSign ∈ xTs := xT8 52 (by decide +kernel) (by decide +kernel)
set_option maxRecDepth 100000 in
theorem eX11_isKey : xCe yX11_isKey cX11_isKey 5 (some .boolean) 2 := ⟨xT1 6 (by decide +kernel) (by decide +kernel), xT8 50 rfl rfl, ⟨by decide +kernel, by decide +kernel, by decide +kernel⟩, by decide⟩
theorem sX11_isKey : xCi yX11_isKey := ⟨xT8 49 (by decide +kernel) (by decide +kernel), xTs_s 120 (by decide +kernel) (by decide +kernel)⟩
set_option maxRecDepth 100000 in
theorem eX11_pieceOfText : xCe yX11_pieceOfText cX11_pieceOfText 3 none 1 := ⟨xT1 6 (by decide +kernel) (by decide +kernel), xT8 112 rfl rfl, ⟨by decide +kernel, by decide +kernel, by decide +kernel⟩, by decide⟩
theorem sX11_pieceOfText : xCi yX11_pieceOfText := ⟨xT8 111 (by decide +kernel) (by decide +kernel), xTs_s 134 (by decide +kernel) (by decide +kernel)⟩
set_option maxRecDepth 100000 in
theorem eX11_pieceOfValue : xCe yX11_pieceOfValue cX11_pieceOfValue 3 none 1 := ⟨xT1 6 (by decide +kernel) (by decide +kernel), xT8 89 rfl rfl, ⟨by decide +kernel, by decide +kernel, by decide +kernel⟩, by decide⟩
theorem sX11_pieceOfValue : xCi yX11_pieceOfValue := ⟨xT8 88 (by decide +kernel) (by decide +kernel), xTs_s 129 (by decide +kernel) (by decide +kernel)⟩
set_option maxRecDepth 100000 in
theorem eX11_becomes : xCe yX11_becomes cX11_becomes 10 (some .boolean) 2 := ⟨xT1 6 (by decide +kernel) (by decide +kernel), xT8 93 rfl rfl, ⟨by decide +kernel, by decide +kernel, by decide +kernel⟩, by decide⟩
theorem sX11_becomes : xCi yX11_becomes := ⟨xT8 92 (by decide +kernel) (by decide +kernel), xTs_s 130 (by decide +kernel) (by decide +kernel)⟩
set_option maxRecDepth 100000 in
theorem eX11_isId : xCe yX11_isId cX11_isId 7 (some .boolean) 2 := ⟨xT1 6 (by decide +kernel) (by decide +kernel), xT8 100 rfl rfl, ⟨by decide +kernel, by decide +kernel, by decide +kernel⟩, by decide⟩
theorem sX11_isId : xCi yX11_isId := ⟨xT8 99 (by decide +kernel) (by decide +kernel), xTs_s 131 (by decide +kernel) (by decide +kernel)⟩
set_option maxRecDepth 100000 in
theorem eX11_isObjectElement : xCe yX11_isObjectElement cX11_isObjectElement 10 (some .boolean) 2 := ⟨xT1 6 (by decide +kernel) (by decide +kernel), xT8 46 rfl rfl, ⟨by decide +kernel, by decide +kernel, by decide +kernel⟩, by decide⟩
theorem sX11_isObjectElement : xCi yX11_isObjectElement := ⟨xT8 45 (by decide +kernel) (by decide +kernel), xTs_s 119 (by decide +kernel) (by decide +kernel)⟩
set_option maxRecDepth 100000 in
theorem eX11_classOfValue : xCe yX11_classOfValue cX11_classOfValue 6 (some .int) 1 := ⟨xT1 6 (by decide +kernel) (by decide +kernel), xT8 77 rfl rfl, ⟨by decide +kernel, by decide +kernel, by decide +kernel⟩, by decide⟩
theorem sX11_classOfValue : xCi yX11_classOfValue := ⟨xT8 76 (by decide +kernel) (by decide +kernel), xTs_s 126 (by decide +kernel) (by decide +kernel)⟩
set_option maxRecDepth 100000 in
theorem eX11_isListed : xCe yX11_isListed cX11_isListed 6 (some .boolean) 3 := ⟨xT1 6 (by decide +kernel) (by decide +kernel), xT8 104 rfl rfl, ⟨by decide +kernel, by decide +kernel, by decide +kernel⟩, by decide⟩
theorem sX11_isListed : xCi yX11_isListed := ⟨xT8 103 (by decide +kernel) (by decide +kernel), xTs_s 132 (by decide +kernel) (by decide +kernel)⟩
set_option maxRecDepth 100000 in
theorem eX11_hasMeaning : xCe yX11_hasMeaning cX11_hasMeaning 8 (some .boolean) 1 := ⟨xT1 6 (by decide +kernel) (by decide +kernel), xT8 42 rfl rfl, ⟨by decide +kernel, by decide +kernel, by decide +kernel⟩, by decide⟩
theorem sX11_hasMeaning : xCi yX11_hasMeaning := ⟨xT8 41 (by decide +kernel) (by decide +kernel), xTs_s 118 (by decide +kernel) (by decide +kernel)⟩
set_option maxRecDepth 100000 in
theorem eX11_childAt : xCe yX11_childAt cX11_childAt 9 (some .int) 4 := ⟨xT1 6 (by decide +kernel) (by decide +kernel), xT8 136 rfl rfl, ⟨by decide +kernel, by decide +kernel, by decide +kernel⟩, by decide⟩
theorem sX11_childAt : xCi yX11_childAt := ⟨xT8 135 (by decide +kernel) (by decide +kernel), xTs_s 140 (by decide +kernel) (by decide +kernel)⟩
set_option maxRecDepth 100000 in
theorem eX11_pieceAt : xCe yX11_pieceAt cX11_pieceAt 2 (some .int) 1 := ⟨xT1 6 (by decide +kernel) (by decide +kernel), xT8 124 rfl rfl, ⟨by decide +kernel, by decide +kernel, by decide +kernel⟩, by decide⟩
theorem sX11_pieceAt : xCi yX11_pieceAt := ⟨xT8 123 (by decide +kernel) (by decide +kernel), xTs_s 137 (by decide +kernel) (by decide +kernel)⟩
set_option maxRecDepth 100000 in
theorem eX11_steps : xCe yX11_steps cX11_steps 10 (some .int) 2 := ⟨xT1 6 (by decide +kernel) (by decide +kernel), xT8 132 rfl rfl, ⟨by decide +kernel, by decide +kernel, by decide +kernel⟩, by decide⟩
theorem sX11_steps : xCi yX11_steps := ⟨xT8 131 (by decide +kernel) (by decide +kernel), xTs_s 139 (by decide +kernel) (by decide +kernel)⟩
set_option maxRecDepth 100000 in
theorem eX11_way : xCe yX11_way cX11_way 5 (some .int) 1 := ⟨xT1 6 (by decide +kernel) (by decide +kernel), xT8 140 rfl rfl, ⟨by decide +kernel, by decide +kernel, by decide +kernel⟩, by decide⟩
theorem sX11_way : xCi yX11_way := ⟨xT8 139 (by decide +kernel) (by decide +kernel), xTs_s 141 (by decide +kernel) (by decide +kernel)⟩
set_option maxRecDepth 100000 in
theorem eX11_withId : xCe yX11_withId cX11_withId 5 (some .int) 0 := ⟨xT1 6 (by decide +kernel) (by decide +kernel), xT8 128 rfl rfl, ⟨by decide +kernel, by decide +kernel, by decide +kernel⟩, by decide⟩
theorem sX11_withId : xCi yX11_withId := ⟨xT8 127 (by decide +kernel) (by decide +kernel), xTs_s 138 (by decide +kernel) (by decide +kernel)⟩
set_option maxRecDepth 100000 in
theorem eX11_target : xCe yX11_target cX11_target 4 (some .int) 1 := ⟨xT1 6 (by decide +kernel) (by decide +kernel), xT8 120 rfl rfl, ⟨by decide +kernel, by decide +kernel, by decide +kernel⟩, by decide⟩
theorem sX11_target : xCi yX11_target := ⟨xT8 119 (by decide +kernel) (by decide +kernel), xTs_s 136 (by decide +kernel) (by decide +kernel)⟩
set_option maxRecDepth 100000 in
theorem eX11_leads : xCe yX11_leads cX11_leads 4 (some .boolean) 1 := ⟨xT1 6 (by decide +kernel) (by decide +kernel), xT8 116 rfl rfl, ⟨by decide +kernel, by decide +kernel, by decide +kernel⟩, by decide⟩
theorem sX11_leads : xCi yX11_leads := ⟨xT8 115 (by decide +kernel) (by decide +kernel), xTs_s 135 (by decide +kernel) (by decide +kernel)⟩
set_option maxRecDepth 100000 in
theorem eX11_meaningless : xCe yX11_meaningless cX11_meaningless 2 (some .int) 0 := ⟨xT1 6 (by decide +kernel) (by decide +kernel), xT8 38 rfl rfl, ⟨by decide +kernel, by decide +kernel, by decide +kernel⟩, by decide⟩
theorem sX11_meaningless : xCi yX11_meaningless := ⟨xT8 37 (by decide +kernel) (by decide +kernel), xTs_s 117 (by decide +kernel) (by decide +kernel)⟩
set_option maxRecDepth 100000 in
theorem eX11_read : xCe yX11_read cX11_read 3 (some .int) 0 := ⟨xT1 6 (by decide +kernel) (by decide +kernel), xT7 208 rfl rfl, ⟨by decide +kernel, by decide +kernel, by decide +kernel⟩, by decide⟩
theorem sX11_read : xCi yX11_read := ⟨xT7 206 (by decide +kernel) (by decide +kernel), xT7 207 (by decide +kernel) (by decide +kernel)⟩
set_option maxRecDepth 100000 in
theorem eX11_pair : xCe yX11_pair cX11_pair 4 (some .boolean) 2 := ⟨xT1 6 (by decide +kernel) (by decide +kernel), xT8 148 rfl rfl, ⟨by decide +kernel, by decide +kernel, by decide +kernel⟩, by decide⟩
theorem sX11_pair : xCi yX11_pair := ⟨xT8 147 (by decide +kernel) (by decide +kernel), xTs_s 142 (by decide +kernel) (by decide +kernel)⟩
set_option maxRecDepth 100000 in
theorem eX11_areSame : xCe yX11_areSame cX11_areSame 12 (some .boolean) 2 := ⟨xT1 6 (by decide +kernel) (by decide +kernel), xT8 152 rfl rfl, ⟨by decide +kernel, by decide +kernel, by decide +kernel⟩, by decide⟩
theorem sX11_areSame : xCi yX11_areSame := ⟨xT8 151 (by decide +kernel) (by decide +kernel), xTs_s 143 (by decide +kernel) (by decide +kernel)⟩
set_option maxRecDepth 100000 in
theorem eX11_same : xCe yX11_same cX11_same 4 (some .boolean) 1 := ⟨xT1 6 (by decide +kernel) (by decide +kernel), xT8 144 rfl rfl, ⟨by decide +kernel, by decide +kernel, by decide +kernel⟩, by decide⟩
theorem sX11_same : xCi yX11_same := ⟨xT8 142 (by decide +kernel) (by decide +kernel), xT8 143 (by decide +kernel) (by decide +kernel)⟩
set_option maxRecDepth 100000 in
theorem eX11_kind : xCe yX11_kind cX11_kind 3 (some .int) 2 := ⟨xT1 6 (by decide +kernel) (by decide +kernel), xT8 156 rfl rfl, ⟨by decide +kernel, by decide +kernel, by decide +kernel⟩, by decide⟩
theorem sX11_kind : xCi yX11_kind := ⟨xT8 154 (by decide +kernel) (by decide +kernel), xT8 155 (by decide +kernel) (by decide +kernel)⟩
set_option maxRecDepth 100000 in
theorem eX11_value : xCe yX11_value cX11_value 7 (some .int) 4 := ⟨xT1 6 (by decide +kernel) (by decide +kernel), xT8 160 rfl rfl, ⟨by decide +kernel, by decide +kernel, by decide +kernel⟩, by decide⟩
theorem sX11_value : xCi yX11_value := ⟨xT8 158 (by decide +kernel) (by decide +kernel), xT8 159 (by decide +kernel) (by decide +kernel)⟩
set_option maxRecDepth 100000 in
theorem eX11_count : xCe yX11_count cX11_count 4 (some .int) 1 := ⟨xT1 6 (by decide +kernel) (by decide +kernel), xT8 164 rfl rfl, ⟨by decide +kernel, by decide +kernel, by decide +kernel⟩, by decide⟩
theorem sX11_count : xCi yX11_count := ⟨xT8 162 (by decide +kernel) (by decide +kernel), xT8 163 (by decide +kernel) (by decide +kernel)⟩
theorem sJ9_abs_067f4 : Cond.static yJ9_abs_067f4 ∈ xTs := xT3 93 (by decide +kernel) (by decide +kernel)
theorem sJ9_max_7cf53 : Cond.static yJ9_max_7cf53 ∈ xTs := xT3 124 (by decide +kernel) (by decide +kernel)
theorem sJ9_min_7cf53 : Cond.static yJ9_min_7cf53 ∈ xTs := xT1 206 (by decide +kernel) (by decide +kernel)
set_option maxRecDepth 100000 in
theorem eJ0_length_8abf5 : xCe yJ0_length_8abf5 cJ0_length_8abf5 1 (some .int) 0 := ⟨xT1 10 (by decide +kernel) (by decide +kernel), xT2 103 rfl rfl, ⟨by decide +kernel, by decide +kernel, by decide +kernel⟩, by decide⟩
theorem sJ0_length_8abf5 : xCi yJ0_length_8abf5 := ⟨xT2 101 (by decide +kernel) (by decide +kernel), xT2 102 (by decide +kernel) (by decide +kernel)⟩
set_option maxRecDepth 100000 in
theorem eJ0_charAt_5068e : xCe yJ0_charAt_5068e cJ0_charAt_5068e 2 (some .char) 1 := ⟨xT1 10 (by decide +kernel) (by decide +kernel), xT2 113 rfl rfl, ⟨by decide +kernel, by decide +kernel, by decide +kernel⟩, by decide⟩
theorem sJ0_charAt_5068e : xCi yJ0_charAt_5068e := ⟨xT2 111 (by decide +kernel) (by decide +kernel), xT2 112 (by decide +kernel) (by decide +kernel)⟩
set_option maxRecDepth 100000 in
theorem eJ0_coder_7d493 : xCe yJ0_coder_7d493 cJ0_coder_7d493 1 (some .byte) 0 := ⟨xT1 10 (by decide +kernel) (by decide +kernel), xT2 107 rfl rfl, ⟨by decide +kernel, by decide +kernel, by decide +kernel⟩, by decide⟩
theorem sJ0_coder_7d493 : xCi yJ0_coder_7d493 := ⟨xT2 105 (by decide +kernel) (by decide +kernel), xT2 106 (by decide +kernel) (by decide +kernel)⟩
set_option maxRecDepth 100000 in
theorem eJ0_isLatin1_aae02 : xCe yJ0_isLatin1_aae02 cJ0_isLatin1_aae02 1 (some .boolean) 0 := ⟨xT1 10 (by decide +kernel) (by decide +kernel), xT2 117 rfl rfl, ⟨by decide +kernel, by decide +kernel, by decide +kernel⟩, by decide⟩
theorem sJ0_isLatin1_aae02 : xCi yJ0_isLatin1_aae02 := ⟨xT2 115 (by decide +kernel) (by decide +kernel), xT2 116 (by decide +kernel) (by decide +kernel)⟩
set_option maxRecDepth 100000 in
theorem eJ0_checkIndex_df160 : xCe yJ0_checkIndex_df160 cJ0_checkIndex_df160 2 none 2 := ⟨xT1 10 (by decide +kernel) (by decide +kernel), xT2 123 rfl rfl, ⟨by decide +kernel, by decide +kernel, by decide +kernel⟩, by decide⟩
theorem sJ0_checkIndex_df160 : Cond.static yJ0_checkIndex_df160 ∈ xTs := xT2 122 (by decide +kernel) (by decide +kernel)
set_option maxRecDepth 100000 in
theorem eJ1_charAt_3b067 : xCe yJ1_charAt_3b067 cJ1_charAt_3b067 2 (some .char) 2 := ⟨xT1 11 (by decide +kernel) (by decide +kernel), xT2 120 rfl rfl, ⟨by decide +kernel, by decide +kernel, by decide +kernel⟩, by decide⟩
theorem sJ1_charAt_3b067 : Cond.static yJ1_charAt_3b067 ∈ xTs := xT2 119 (by decide +kernel) (by decide +kernel)
set_option maxRecDepth 100000 in
theorem eJ7_fill_53178 : xCe yJ7_fill_53178 cJ7_fill_53178 4 none 2 := ⟨xT1 19 (by decide +kernel) (by decide +kernel), xT5 221 rfl rfl, ⟨by decide +kernel, by decide +kernel, by decide +kernel⟩, by decide⟩
theorem sJ7_fill_53178 : Cond.static yJ7_fill_53178 ∈ xTs := xT5 220 (by decide +kernel) (by decide +kernel)
set_option maxRecDepth 100000 in
theorem eJ3_checkIndex_8e157 : xCe yJ3_checkIndex_8e157 cJ3_checkIndex_8e157 3 (some .int) 3 := ⟨xT1 12 (by decide +kernel) (by decide +kernel), xT2 128 rfl rfl, ⟨by decide +kernel, by decide +kernel, by decide +kernel⟩, by decide⟩
theorem sJ3_checkIndex_8e157 : Cond.static yJ3_checkIndex_8e157 ∈ xTs := xT2 127 (by decide +kernel) (by decide +kernel)
theorem bX10 : Cond.initialized RX10 ∈ xTs := xT1 1 (by decide +kernel) (by decide +kernel)
theorem bX5 : Cond.initialized RX5 ∈ xTs := xT1 2 (by decide +kernel) (by decide +kernel)
theorem bX6 : Cond.initialized RX6 ∈ xTs := xT1 3 (by decide +kernel) (by decide +kernel)
theorem bX4 : Cond.initialized RX4 ∈ xTs := xT1 4 (by decide +kernel) (by decide +kernel)
theorem bX1 : Cond.initialized RX1 ∈ xTs := xT1 5 (by decide +kernel) (by decide +kernel)
theorem bX11 : Cond.initialized RX11 ∈ xTs := xT1 6 (by decide +kernel) (by decide +kernel)
theorem bJ9 : Cond.initialized RJ9 ∈ xTs := xT1 7 (by decide +kernel) (by decide +kernel)
theorem bX0 : Cond.initialized RX0 ∈ xTs := xT1 9 (by decide +kernel) (by decide +kernel)
theorem bX8 : Cond.initialized RX8 ∈ xTs := xT1 14 (by decide +kernel) (by decide +kernel)
theorem bX9 : Cond.initialized RX9 ∈ xTs := xT1 15 (by decide +kernel) (by decide +kernel)
theorem bX3 : Cond.initialized RX3 ∈ xTs := xT1 16 (by decide +kernel) (by decide +kernel)
theorem bX7 : Cond.initialized RX7 ∈ xTs := xT1 17 (by decide +kernel) (by decide +kernel)
theorem bX2 : Cond.initialized RX2 ∈ xTs := xT1 18 (by decide +kernel) (by decide +kernel)
theorem nL_7 : Cond.classLink RL 7 RX10 ∈ xTs := xT1 20 (by decide +kernel) (by decide +kernel)
theorem aX10 : Cond.instantiable RX10 10 ∈ xTs := xT1 21 (by decide +kernel) (by decide +kernel)
theorem lL_9 : Cond.methodLink RL 9 yX10_init ∈ xTs := xT1 22 (by decide +kernel) (by decide +kernel)
theorem lX10_3 : Cond.methodLink RX10 3 objectInit ∈ xTs := xT1 25 (by decide +kernel) (by decide +kernel)
theorem nX10_9 : Cond.classLink RX10 9 RX5 ∈ xTs := xT1 28 (by decide +kernel) (by decide +kernel)
theorem aX5 : Cond.instantiable RX5 3 ∈ xTs := xT1 29 (by decide +kernel) (by decide +kernel)
theorem lX10_11 : (RX10, 11, yX5_init, RX10) ∈ xNest := by decide +kernel
theorem lX5_3 : Cond.methodLink RX5 3 objectInit ∈ xTs := xT1 33 (by decide +kernel) (by decide +kernel)
theorem arr_char : Cond.arrayClass .char ∈ xTs := xT1 44 (by decide +kernel) (by decide +kernel)
theorem nX10_16 : Cond.classLink RX10 16 RX6 ∈ xTs := xT1 45 (by decide +kernel) (by decide +kernel)
theorem aX6 : Cond.instantiable RX6 18 ∈ xTs := xT1 46 (by decide +kernel) (by decide +kernel)
theorem lX10_18 : (RX10, 18, yX6_init, RX10) ∈ xNest := by decide +kernel
theorem lX6_3 : Cond.methodLink RX6 3 objectInit ∈ xTs := xT1 50 (by decide +kernel) (by decide +kernel)
theorem nX6_9 : Cond.classLink RX6 9 RX5 ∈ xTs := xT1 51 (by decide +kernel) (by decide +kernel)
theorem lX6_11 : (RX6, 11, yX5_init, RX10) ∈ xNest := by decide +kernel
theorem arr_int : Cond.arrayClass .int ∈ xTs := xT1 108 (by decide +kernel) (by decide +kernel)
theorem arr_boolean : Cond.arrayClass .boolean ∈ xTs := xT1 109 (by decide +kernel) (by decide +kernel)
theorem nX10_29 : Cond.classLink RX10 29 RX4 ∈ xTs := xT1 110 (by decide +kernel) (by decide +kernel)
theorem aX4 : Cond.instantiable RX4 9 ∈ xTs := xT1 111 (by decide +kernel) (by decide +kernel)
theorem lX10_31 : (RX10, 31, yX4_init, RX10) ∈ xNest := by decide +kernel
theorem lX4_3 : Cond.methodLink RX4 3 objectInit ∈ xTs := xT1 115 (by decide +kernel) (by decide +kernel)
theorem nX10_39 : Cond.classLink RX10 39 RX1 ∈ xTs := xT1 144 (by decide +kernel) (by decide +kernel)
theorem aX1 : Cond.instantiable RX1 4 ∈ xTs := xT1 145 (by decide +kernel) (by decide +kernel)
theorem lX10_41 : (RX10, 41, yX1_init, RX10) ∈ xNest := by decide +kernel
theorem lX1_3 : Cond.methodLink RX1 3 objectInit ∈ xTs := xT1 149 (by decide +kernel) (by decide +kernel)
theorem lL_13 : Cond.methodLink RL 13 yX10_unit ∈ xTs := xT1 194 (by decide +kernel) (by decide +kernel)
theorem lX10_56 : Cond.methodLink RX10 56 yX10_isSign ∈ xTs := xT1 198 (by decide +kernel) (by decide +kernel)
theorem lX10_60 : Cond.methodLink RX10 60 yX5_put ∈ xTs := xT1 201 (by decide +kernel) (by decide +kernel)
theorem lX5_23 : Cond.methodLink RX5 23 yJ9_min_7cf53 ∈ xTs := xT1 205 (by decide +kernel) (by decide +kernel)
theorem lX5_29 : Cond.methodLink RX5 29 arraycopyName ∈ xTs := xT1 208 (by decide +kernel) (by decide +kernel)
theorem lL_18 : Cond.methodLink RL 18 yX10_classes ∈ xTs := xT1 211 (by decide +kernel) (by decide +kernel)
theorem nX10_63 : Cond.classLink RX10 63 RX0 ∈ xTs := xT1 215 (by decide +kernel) (by decide +kernel)
theorem aX0 : Cond.instantiable RX0 3 ∈ xTs := xT1 216 (by decide +kernel) (by decide +kernel)
theorem lX10_65 : Cond.methodLink RX10 65 yX0_init ∈ xTs := xT1 217 (by decide +kernel) (by decide +kernel)
theorem lX0_3 : Cond.methodLink RX0 3 objectInit ∈ xTs := xT1 220 (by decide +kernel) (by decide +kernel)
theorem lX10_68 : Cond.methodLink RX10 68 yX0_firstWrong ∈ xTs := xT1 231 (by decide +kernel) (by decide +kernel)
theorem lX0_23 : Cond.methodLink RX0 23 yX4_clear ∈ xTs := xT1 235 (by decide +kernel) (by decide +kernel)
theorem lX0_28 : Cond.methodLink RX0 28 yX0_isClassRight ∈ xTs := xT1 239 (by decide +kernel) (by decide +kernel)
theorem lX0_45 : Cond.methodLink RX0 45 yX4_beginClass ∈ xTs := xT2 3 (by decide +kernel) (by decide +kernel)
theorem lX0_48 : Cond.methodLink RX0 48 yX0_isNameRight ∈ xTs := xT2 7 (by decide +kernel) (by decide +kernel)
theorem lX0_62 : Cond.methodLink RX0 62 yX5_at ∈ xTs := xT2 11 (by decide +kernel) (by decide +kernel)
theorem lX0_83 : (RX0, 83, yX10_isDigit, RX10) ∈ xNest := by decide +kernel
theorem lX0_86 : Cond.methodLink RX0 86 yX0_isNameSign ∈ xTs := xT2 18 (by decide +kernel) (by decide +kernel)
theorem lX0_92 : (RX0, 92, yX10_isLetter, RX10) ∈ xNest := by decide +kernel
theorem lX0_89 : Cond.methodLink RX0 89 yX4_spellOn ∈ xTs := xT2 24 (by decide +kernel) (by decide +kernel)
theorem lX4_61 : Cond.methodLink RX4 61 yX4_letterOn ∈ xTs := xT2 28 (by decide +kernel) (by decide +kernel)
theorem lX0_32 : Cond.methodLink RX0 32 yX0_skips ∈ xTs := xT2 32 (by decide +kernel) (by decide +kernel)
theorem lX0_51 : Cond.methodLink RX0 51 yX0_isFieldRight ∈ xTs := xT2 36 (by decide +kernel) (by decide +kernel)
theorem lX0_55 : Cond.methodLink RX0 55 yX4_beginField ∈ xTs := xT2 40 (by decide +kernel) (by decide +kernel)
theorem lX4_42 : Cond.methodLink RX4 42 yX4_isClass ∈ xTs := xT2 44 (by decide +kernel) (by decide +kernel)
theorem lX4_58 : Cond.methodLink RX4 58 yX4_fieldName ∈ xTs := xT2 48 (by decide +kernel) (by decide +kernel)
theorem lX0_58 : Cond.methodLink RX0 58 yX4_fieldName ∈ xTs := xT2 51 (by decide +kernel) (by decide +kernel)
theorem lX0_66 : Cond.methodLink RX0 66 yX0_shapeOf ∈ xTs := xT2 52 (by decide +kernel) (by decide +kernel)
theorem lX0_69 : Cond.methodLink RX0 69 yX4_putShape ∈ xTs := xT2 55 (by decide +kernel) (by decide +kernel)
theorem lX4_46 : Cond.methodLink RX4 46 yX4_isField ∈ xTs := xT2 59 (by decide +kernel) (by decide +kernel)
theorem lX0_73 : Cond.methodLink RX0 73 yX4_putAttribute ∈ xTs := xT2 63 (by decide +kernel) (by decide +kernel)
theorem lX0_77 : Cond.methodLink RX0 77 yX4_implicit ∈ xTs := xT2 67 (by decide +kernel) (by decide +kernel)
theorem lX0_80 : Cond.methodLink RX0 80 yX4_putImplicit ∈ xTs := xT2 71 (by decide +kernel) (by decide +kernel)
theorem lX0_35 : Cond.methodLink RX0 35 yX5_length ∈ xTs := xT2 75 (by decide +kernel) (by decide +kernel)
theorem lX0_41 : Cond.methodLink RX0 41 yX4_obeysNameRules ∈ xTs := xT2 79 (by decide +kernel) (by decide +kernel)
theorem lX4_83 : Cond.methodLink RX4 83 yX4_hasTwin ∈ xTs := xT2 83 (by decide +kernel) (by decide +kernel)
theorem lX4_98 : Cond.methodLink RX4 98 yX4_isTwin ∈ xTs := xT2 87 (by decide +kernel) (by decide +kernel)
theorem lX4_87 : Cond.methodLink RX4 87 yX4_isFieldNameFree ∈ xTs := xT2 91 (by decide +kernel) (by decide +kernel)
theorem lX4_92 : Cond.methodLink RX4 92 yX4_isWord ∈ xTs := xT2 96 (by decide +kernel) (by decide +kernel)
theorem lX4_101 : Cond.methodLink RX4 101 yJ0_length_8abf5 ∈ xTs := xT2 100 (by decide +kernel) (by decide +kernel)
theorem lJ0_335 : Cond.methodLink RJ0 335 yJ0_coder_7d493 ∈ xTs := xT2 104 (by decide +kernel) (by decide +kernel)
theorem lX4_107 : Cond.methodLink RX4 107 yJ0_charAt_5068e ∈ xTs := xT2 110 (by decide +kernel) (by decide +kernel)
theorem lJ0_492 : Cond.methodLink RJ0 492 yJ0_isLatin1_aae02 ∈ xTs := xT2 114 (by decide +kernel) (by decide +kernel)
theorem lJ0_495 : Cond.methodLink RJ0 495 yJ1_charAt_3b067 ∈ xTs := xT2 118 (by decide +kernel) (by decide +kernel)
theorem lJ1_9 : Cond.methodLink RJ1 9 yJ0_checkIndex_df160 ∈ xTs := xT2 121 (by decide +kernel) (by decide +kernel)
theorem lJ0_1059 : Cond.methodLink RJ0 1059 yJ3_checkIndex_8e157 ∈ xTs := xT2 126 (by decide +kernel) (by decide +kernel)
theorem lX10_72 : Cond.methodLink RX10 72 yX5_clear ∈ xTs := xT2 149 (by decide +kernel) (by decide +kernel)
theorem lX10_75 : Cond.methodLink RX10 75 yX1_clear ∈ xTs := xT2 153 (by decide +kernel) (by decide +kernel)
theorem lX10_76 : Cond.methodLink RX10 76 yX4_size ∈ xTs := xT2 157 (by decide +kernel) (by decide +kernel)
theorem lL_23 : Cond.methodLink RL 23 yX10_make ∈ xTs := xT2 162 (by decide +kernel) (by decide +kernel)
theorem lX10_79 : Cond.methodLink RX10 79 yX4_isClass ∈ xTs := xT2 166 (by decide +kernel) (by decide +kernel)
theorem lX10_82 : Cond.methodLink RX10 82 yX4_references ∈ xTs := xT2 167 (by decide +kernel) (by decide +kernel)
theorem lX10_86 : Cond.methodLink RX10 86 yX1_born ∈ xTs := xT2 171 (by decide +kernel) (by decide +kernel)
theorem lL_28 : Cond.methodLink RL 28 yX10_set ∈ xTs := xT2 175 (by decide +kernel) (by decide +kernel)
theorem lX10_90 : Cond.methodLink RX10 90 yX10_shapeIn ∈ xTs := xT2 179 (by decide +kernel) (by decide +kernel)
theorem lX10_94 : Cond.methodLink RX10 94 yX1_has ∈ xTs := xT2 183 (by decide +kernel) (by decide +kernel)
theorem lX10_175 : Cond.methodLink RX10 175 yX1_classOf ∈ xTs := xT2 187 (by decide +kernel) (by decide +kernel)
theorem lX1_25 : Cond.methodLink RX1 25 yX1_has ∈ xTs := xT2 191 (by decide +kernel) (by decide +kernel)
theorem lX10_187 : Cond.methodLink RX10 187 yX4_shape ∈ xTs := xT2 192 (by decide +kernel) (by decide +kernel)
theorem lX10_97 : Cond.methodLink RX10 97 yX1_putHead ∈ xTs := xT2 196 (by decide +kernel) (by decide +kernel)
theorem lX1_29 : Cond.methodLink RX1 29 yX1_hasField ∈ xTs := xT2 200 (by decide +kernel) (by decide +kernel)
theorem lL_33 : Cond.methodLink RL 33 yX10_text ∈ xTs := xT2 204 (by decide +kernel) (by decide +kernel)
theorem lX10_101 : Cond.methodLink RX10 101 yX5_length ∈ xTs := xT2 208 (by decide +kernel) (by decide +kernel)
theorem lX10_104 : Cond.methodLink RX10 104 yX10_isFieldText ∈ xTs := xT2 209 (by decide +kernel) (by decide +kernel)
theorem lX10_129 : Cond.methodLink RX10 129 yX5_at ∈ xTs := xT2 212 (by decide +kernel) (by decide +kernel)
theorem lX10_108 : Cond.methodLink RX10 108 yX1_putText ∈ xTs := xT2 213 (by decide +kernel) (by decide +kernel)
theorem lX1_49 : Cond.methodLink RX1 49 yJ9_min_7cf53 ∈ xTs := xT2 217 (by decide +kernel) (by decide +kernel)
theorem lX1_54 : Cond.methodLink RX1 54 yX5_at ∈ xTs := xT2 218 (by decide +kernel) (by decide +kernel)
theorem lL_38 : Cond.methodLink RL 38 yX10_add ∈ xTs := xT2 219 (by decide +kernel) (by decide +kernel)
theorem lX10_112 : Cond.methodLink RX10 112 yX1_append ∈ xTs := xT2 223 (by decide +kernel) (by decide +kernel)
theorem lX1_37 : Cond.methodLink RX1 37 yX1_head ∈ xTs := xT2 227 (by decide +kernel) (by decide +kernel)
theorem lX1_41 : Cond.methodLink RX1 41 yX1_putHead ∈ xTs := xT2 231 (by decide +kernel) (by decide +kernel)
theorem lX1_45 : Cond.methodLink RX1 45 yX1_putCell ∈ xTs := xT2 232 (by decide +kernel) (by decide +kernel)
theorem lX1_33 : Cond.methodLink RX1 33 yX1_hasCell ∈ xTs := xT2 236 (by decide +kernel) (by decide +kernel)
theorem lL_43 : Cond.methodLink RL 43 yX10_limit ∈ xTs := xT3 0 (by decide +kernel) (by decide +kernel)
theorem lL_47 : Cond.methodLink RL 47 yX10_write ∈ xTs := xT3 4 (by decide +kernel) (by decide +kernel)
theorem nX10_116 : Cond.classLink RX10 116 RX8 ∈ xTs := xT3 8 (by decide +kernel) (by decide +kernel)
theorem aX8 : Cond.instantiable RX8 13 ∈ xTs := xT3 9 (by decide +kernel) (by decide +kernel)
theorem lX10_118 : Cond.methodLink RX10 118 yX8_init ∈ xTs := xT3 10 (by decide +kernel) (by decide +kernel)
theorem lX8_3 : Cond.methodLink RX8 3 objectInit ∈ xTs := xT3 13 (by decide +kernel) (by decide +kernel)
theorem lX10_121 : (RX10, 121, yX8_element, RX10) ∈ xNest := by decide +kernel
theorem lX8_56 : Cond.methodLink RX8 56 yX5_hasOverflowed ∈ xTs := xT3 58 (by decide +kernel) (by decide +kernel)
theorem lX8_62 : Cond.methodLink RX8 62 yX1_has ∈ xTs := xT3 62 (by decide +kernel) (by decide +kernel)
theorem lX8_68 : Cond.methodLink RX8 68 yX8_reference ∈ xTs := xT3 63 (by decide +kernel) (by decide +kernel)
theorem lX8_72 : Cond.methodLink RX8 72 yX8_nameOf ∈ xTs := xT3 67 (by decide +kernel) (by decide +kernel)
theorem lX8_99 : Cond.methodLink RX8 99 yX1_classOf ∈ xTs := xT3 71 (by decide +kernel) (by decide +kernel)
theorem lX8_103 : Cond.methodLink RX8 103 yX4_shape ∈ xTs := xT3 72 (by decide +kernel) (by decide +kernel)
theorem lX8_109 : Cond.methodLink RX8 109 yX4_fieldName ∈ xTs := xT3 73 (by decide +kernel) (by decide +kernel)
theorem lX8_89 : Cond.methodLink RX8 89 yX5_put ∈ xTs := xT3 74 (by decide +kernel) (by decide +kernel)
theorem lX8_112 : Cond.methodLink RX8 112 yX4_spellTo ∈ xTs := xT3 75 (by decide +kernel) (by decide +kernel)
theorem lX4_65 : Cond.methodLink RX4 65 yX5_put ∈ xTs := xT3 79 (by decide +kernel) (by decide +kernel)
theorem lX8_85 : Cond.methodLink RX8 85 yX5_spell ∈ xTs := xT3 81 (by decide +kernel) (by decide +kernel)
theorem lX5_35 : Cond.methodLink RX5 35 yJ0_length_8abf5 ∈ xTs := xT3 85 (by decide +kernel) (by decide +kernel)
theorem lX5_40 : Cond.methodLink RX5 40 yJ0_charAt_5068e ∈ xTs := xT3 86 (by decide +kernel) (by decide +kernel)
theorem lX5_44 : Cond.methodLink RX5 44 yX5_put ∈ xTs := xT3 87 (by decide +kernel) (by decide +kernel)
theorem lX8_123 : Cond.methodLink RX8 123 yX8_number ∈ xTs := xT3 88 (by decide +kernel) (by decide +kernel)
theorem lX8_173 : Cond.methodLink RX8 173 yJ9_abs_067f4 ∈ xTs := xT3 92 (by decide +kernel) (by decide +kernel)
theorem qX8_179 : Cond.constantLong RX8 179 10 ∈ xTs := xT3 95 (by decide +kernel) (by decide +kernel)
theorem lX8_183 : Cond.methodLink RX8 183 yX8_way ∈ xTs := xT3 96 (by decide +kernel) (by decide +kernel)
theorem lX8_198 : Cond.methodLink RX8 198 yX8_ancestryOfItself ∈ xTs := xT3 100 (by decide +kernel) (by decide +kernel)
theorem lX8_205 : Cond.methodLink RX8 205 yX4_isExplicitList ∈ xTs := xT3 104 (by decide +kernel) (by decide +kernel)
theorem lX4_50 : Cond.methodLink RX4 50 yX4_shape ∈ xTs := xT3 108 (by decide +kernel) (by decide +kernel)
theorem lX4_54 : Cond.methodLink RX4 54 yX4_implicit ∈ xTs := xT3 109 (by decide +kernel) (by decide +kernel)
theorem lX8_208 : Cond.methodLink RX8 208 yX8_listElement ∈ xTs := xT3 110 (by decide +kernel) (by decide +kernel)
theorem lX8_191 : Cond.methodLink RX8 191 yX8_ancestry ∈ xTs := xT3 113 (by decide +kernel) (by decide +kernel)
theorem lX8_195 : Cond.methodLink RX8 195 yX8_step ∈ xTs := xT3 119 (by decide +kernel) (by decide +kernel)
theorem lX8_211 : Cond.methodLink RX8 211 yJ9_max_7cf53 ∈ xTs := xT3 123 (by decide +kernel) (by decide +kernel)
theorem lX8_214 : Cond.methodLink RX8 214 yX8_rankAmongItems ∈ xTs := xT3 126 (by decide +kernel) (by decide +kernel)
theorem lX8_158 : Cond.methodLink RX8 158 yX1_cell ∈ xTs := xT3 130 (by decide +kernel) (by decide +kernel)
theorem lX8_186 : Cond.methodLink RX8 186 yX8_path ∈ xTs := xT3 134 (by decide +kernel) (by decide +kernel)
theorem lX8_76 : Cond.methodLink RX8 76 yX8_startTag ∈ xTs := xT3 139 (by decide +kernel) (by decide +kernel)
theorem lX8_116 : Cond.methodLink RX8 116 yX4_isFieldName ∈ xTs := xT3 143 (by decide +kernel) (by decide +kernel)
theorem lX8_126 : Cond.methodLink RX8 126 yX4_fieldCount ∈ xTs := xT3 148 (by decide +kernel) (by decide +kernel)
theorem lX8_129 : Cond.methodLink RX8 129 yX4_isAttribute ∈ xTs := xT3 152 (by decide +kernel) (by decide +kernel)
theorem lX8_135 : Cond.methodLink RX8 135 yX8_single ∈ xTs := xT3 157 (by decide +kernel) (by decide +kernel)
theorem lX8_145 : Cond.methodLink RX8 145 yX1_head ∈ xTs := xT3 161 (by decide +kernel) (by decide +kernel)
theorem lX8_161 : Cond.methodLink RX8 161 yX8_escaped ∈ xTs := xT3 162 (by decide +kernel) (by decide +kernel)
theorem lX8_80 : Cond.methodLink RX8 80 yX8_hasContent ∈ xTs := xT3 170 (by decide +kernel) (by decide +kernel)
theorem lX8_141 : Cond.methodLink RX8 141 yX8_hasElement ∈ xTs := xT3 174 (by decide +kernel) (by decide +kernel)
theorem lX8_148 : Cond.methodLink RX8 148 yX4_implicit ∈ xTs := xT3 178 (by decide +kernel) (by decide +kernel)
theorem lX8_92 : Cond.methodLink RX8 92 yX8_content ∈ xTs := xT3 180 (by decide +kernel) (by decide +kernel)
theorem lX8_151 : Cond.methodLink RX8 151 yX8_element ∈ xTs := xT3 184 (by decide +kernel) (by decide +kernel)
theorem lX8_155 : Cond.methodLink RX8 155 yX8_items ∈ xTs := xT3 185 (by decide +kernel) (by decide +kernel)
theorem lX8_95 : Cond.methodLink RX8 95 yX8_endTag ∈ xTs := xT3 189 (by decide +kernel) (by decide +kernel)
theorem lX10_125 : Cond.methodLink RX10 125 yX8_failure ∈ xTs := xT3 194 (by decide +kernel) (by decide +kernel)
theorem lL_52 : Cond.methodLink RL 52 yX10_sign ∈ xTs := xT3 198 (by decide +kernel) (by decide +kernel)
theorem lX10_128 : Cond.methodLink RX10 128 yX5_has ∈ xTs := xT3 202 (by decide +kernel) (by decide +kernel)
theorem lL_56 : Cond.methodLink RL 56 yX10_take ∈ xTs := xT3 206 (by decide +kernel) (by decide +kernel)
theorem lX10_132 : Cond.methodLink RX10 132 yX5_become ∈ xTs := xT3 210 (by decide +kernel) (by decide +kernel)
theorem lX5_48 : Cond.methodLink RX5 48 yX5_clear ∈ xTs := xT3 214 (by decide +kernel) (by decide +kernel)
theorem lX5_51 : Cond.methodLink RX5 51 yX5_length ∈ xTs := xT3 215 (by decide +kernel) (by decide +kernel)
theorem lX5_52 : Cond.methodLink RX5 52 yX5_at ∈ xTs := xT3 216 (by decide +kernel) (by decide +kernel)
theorem lL_60 : Cond.methodLink RL 60 yX10_forbid ∈ xTs := xT3 217 (by decide +kernel) (by decide +kernel)
theorem lX10_136 : Cond.methodLink RX10 136 yX4_isForbidden ∈ xTs := xT3 221 (by decide +kernel) (by decide +kernel)
theorem lX10_139 : Cond.methodLink RX10 139 yX4_putForbidden ∈ xTs := xT3 225 (by decide +kernel) (by decide +kernel)
theorem lL_65 : Cond.methodLink RL 65 yX10_read ∈ xTs := xT3 229 (by decide +kernel) (by decide +kernel)
theorem nX10_143 : Cond.classLink RX10 143 RX9 ∈ xTs := xT3 233 (by decide +kernel) (by decide +kernel)
theorem aX9 : Cond.instantiable RX9 7 ∈ xTs := xT3 234 (by decide +kernel) (by decide +kernel)
theorem lX10_145 : Cond.methodLink RX10 145 yX9_init ∈ xTs := xT3 235 (by decide +kernel) (by decide +kernel)
theorem lX9_3 : Cond.methodLink RX9 3 objectInit ∈ xTs := xT3 238 (by decide +kernel) (by decide +kernel)
theorem lX9_32 : Cond.methodLink RX9 32 yX6_values ∈ xTs := xT3 239 (by decide +kernel) (by decide +kernel)
theorem lX10_148 : Cond.methodLink RX10 148 yX9_firstWrong ∈ xTs := xT4 25 (by decide +kernel) (by decide +kernel)
theorem lX9_40 : Cond.methodLink RX9 40 yX6_restart ∈ xTs := xT4 29 (by decide +kernel) (by decide +kernel)
theorem lX6_72 : Cond.methodLink RX6 72 yX5_clear ∈ xTs := xT4 33 (by decide +kernel) (by decide +kernel)
theorem lX9_44 : Cond.methodLink RX9 44 yX9_skipBlanks ∈ xTs := xT4 34 (by decide +kernel) (by decide +kernel)
theorem lX9_80 : Cond.methodLink RX9 80 yX5_length ∈ xTs := xT4 38 (by decide +kernel) (by decide +kernel)
theorem lX9_47 : Cond.methodLink RX9 47 yX5_at ∈ xTs := xT4 39 (by decide +kernel) (by decide +kernel)
theorem lX9_169 : (RX9, 169, yX10_isBlank, RX10) ∈ xNest := by decide +kernel
theorem lX9_53 : Cond.methodLink RX9 53 yX9_startTag ∈ xTs := xT4 43 (by decide +kernel) (by decide +kernel)
theorem lX9_83 : Cond.methodLink RX9 83 yX9_skipName ∈ xTs := xT4 47 (by decide +kernel) (by decide +kernel)
theorem lX9_101 : Cond.methodLink RX9 101 yX9_isNameBegin ∈ xTs := xT4 51 (by decide +kernel) (by decide +kernel)
theorem lX9_175 : (RX9, 175, yX10_isLetter, RX10) ∈ xNest := by decide +kernel
theorem lX9_172 : Cond.methodLink RX9 172 yX9_isNameSign ∈ xTs := xT4 55 (by decide +kernel) (by decide +kernel)
theorem lX9_178 : (RX9, 178, yX10_isDigit, RX10) ∈ xNest := by decide +kernel
theorem lX9_86 : Cond.methodLink RX9 86 yX6_begin ∈ xTs := xT4 59 (by decide +kernel) (by decide +kernel)
theorem lX6_75 : Cond.methodLink RX6 75 yX6_has ∈ xTs := xT4 63 (by decide +kernel) (by decide +kernel)
theorem lX9_90 : Cond.methodLink RX9 90 yX9_skipsToName ∈ xTs := xT4 67 (by decide +kernel) (by decide +kernel)
theorem lX9_94 : Cond.methodLink RX9 94 yX9_attribute ∈ xTs := xT4 71 (by decide +kernel) (by decide +kernel)
theorem lX9_105 : Cond.methodLink RX9 105 yX6_hasKey ∈ xTs := xT4 75 (by decide +kernel) (by decide +kernel)
theorem lX6_96 : Cond.methodLink RX6 96 yX6_firstAttribute ∈ xTs := xT4 79 (by decide +kernel) (by decide +kernel)
theorem lX6_100 : Cond.methodLink RX6 100 yX6_attributeCount ∈ xTs := xT4 83 (by decide +kernel) (by decide +kernel)
theorem lX6_92 : Cond.methodLink RX6 92 yX6_isSpelt ∈ xTs := xT4 87 (by decide +kernel) (by decide +kernel)
theorem lX6_107 : Cond.methodLink RX6 107 yX5_at ∈ xTs := xT4 91 (by decide +kernel) (by decide +kernel)
theorem lX9_109 : Cond.methodLink RX9 109 yX9_skipsToValue ∈ xTs := xT4 92 (by decide +kernel) (by decide +kernel)
theorem lX9_112 : Cond.methodLink RX9 112 yX9_endsValue ∈ xTs := xT4 96 (by decide +kernel) (by decide +kernel)
theorem lX9_115 : Cond.methodLink RX9 115 yX9_decoded ∈ xTs := xT4 100 (by decide +kernel) (by decide +kernel)
theorem lX9_139 : Cond.methodLink RX9 139 yX9_numbered ∈ xTs := xT4 104 (by decide +kernel) (by decide +kernel)
theorem lX9_155 : Cond.methodLink RX9 155 yX9_digit ∈ xTs := xT4 108 (by decide +kernel) (by decide +kernel)
theorem lX9_159 : (RX9, 159, yX10_isSign, RX10) ∈ xNest := by decide +kernel
theorem lX9_142 : Cond.methodLink RX9 142 yX9_named ∈ xTs := xT4 112 (by decide +kernel) (by decide +kernel)
theorem lX9_64 : Cond.methodLink RX9 64 yX9_comes ∈ xTs := xT4 117 (by decide +kernel) (by decide +kernel)
theorem lX9_162 : Cond.methodLink RX9 162 yJ0_length_8abf5 ∈ xTs := xT4 121 (by decide +kernel) (by decide +kernel)
theorem lX9_165 : Cond.methodLink RX9 165 yJ0_charAt_5068e ∈ xTs := xT4 122 (by decide +kernel) (by decide +kernel)
theorem lX9_118 : Cond.methodLink RX9 118 yX5_put ∈ xTs := xT4 127 (by decide +kernel) (by decide +kernel)
theorem lX9_121 : Cond.methodLink RX9 121 yX6_addAttribute ∈ xTs := xT4 128 (by decide +kernel) (by decide +kernel)
theorem lX6_79 : Cond.methodLink RX6 79 yX5_length ∈ xTs := xT4 132 (by decide +kernel) (by decide +kernel)
theorem lX9_98 : Cond.methodLink RX9 98 yX6_beginText ∈ xTs := xT4 133 (by decide +kernel) (by decide +kernel)
theorem lX9_56 : Cond.methodLink RX9 56 yX9_textSign ∈ xTs := xT4 137 (by decide +kernel) (by decide +kernel)
theorem lX9_135 : Cond.methodLink RX9 135 yX6_addText ∈ xTs := xT4 141 (by decide +kernel) (by decide +kernel)
theorem lX6_83 : Cond.methodLink RX6 83 yX5_put ∈ xTs := xT4 145 (by decide +kernel) (by decide +kernel)
theorem lX6_86 : (RX6, 86, yX10_isBlank, RX10) ∈ xNest := by decide +kernel
theorem lX9_59 : Cond.methodLink RX9 59 yX9_endTag ∈ xTs := xT4 147 (by decide +kernel) (by decide +kernel)
theorem lX9_125 : Cond.methodLink RX9 125 yX6_isNamed ∈ xTs := xT4 151 (by decide +kernel) (by decide +kernel)
theorem lX9_128 : Cond.methodLink RX9 128 yX6_parent ∈ xTs := xT4 155 (by decide +kernel) (by decide +kernel)
theorem lX9_68 : Cond.methodLink RX9 68 yX9_comment ∈ xTs := xT4 160 (by decide +kernel) (by decide +kernel)
theorem lX9_73 : Cond.methodLink RX9 73 yX9_cdata ∈ xTs := xT4 166 (by decide +kernel) (by decide +kernel)
theorem lX9_76 : Cond.methodLink RX9 76 yX6_size ∈ xTs := xT4 171 (by decide +kernel) (by decide +kernel)
theorem nX10_149 : Cond.classLink RX10 149 RX3 ∈ xTs := xT4 175 (by decide +kernel) (by decide +kernel)
theorem aX3 : Cond.instantiable RX3 12 ∈ xTs := xT4 176 (by decide +kernel) (by decide +kernel)
theorem lX10_151 : Cond.methodLink RX10 151 yX3_init ∈ xTs := xT4 177 (by decide +kernel) (by decide +kernel)
theorem lX3_3 : Cond.methodLink RX3 3 objectInit ∈ xTs := xT4 180 (by decide +kernel) (by decide +kernel)
theorem lX3_23 : Cond.methodLink RX3 23 yX6_names ∈ xTs := xT4 181 (by decide +kernel) (by decide +kernel)
theorem lX3_32 : Cond.methodLink RX3 32 yX6_values ∈ xTs := xT4 185 (by decide +kernel) (by decide +kernel)
theorem nX3_41 : Cond.classLink RX3 41 RX7 ∈ xTs := xT4 186 (by decide +kernel) (by decide +kernel)
theorem aX7 : Cond.instantiable RX7 2 ∈ xTs := xT4 187 (by decide +kernel) (by decide +kernel)
theorem lX3_43 : Cond.methodLink RX3 43 yX7_init ∈ xTs := xT4 188 (by decide +kernel) (by decide +kernel)
theorem lX7_3 : Cond.methodLink RX7 3 objectInit ∈ xTs := xT4 191 (by decide +kernel) (by decide +kernel)
theorem lX7_15 : Cond.methodLink RX7 15 yX6_values ∈ xTs := xT4 192 (by decide +kernel) (by decide +kernel)
theorem lX3_50 : Cond.methodLink RX3 50 yX6_size ∈ xTs := xT4 200 (by decide +kernel) (by decide +kernel)
theorem lX10_154 : Cond.methodLink RX10 154 yX3_firstWrong ∈ xTs := xT4 238 (by decide +kernel) (by decide +kernel)
theorem lX3_69 : Cond.methodLink RX3 69 yX1_clear ∈ xTs := xT5 2 (by decide +kernel) (by decide +kernel)
theorem lX3_74 : Cond.methodLink RX3 74 yX3_isPlaced ∈ xTs := xT5 3 (by decide +kernel) (by decide +kernel)
theorem lX3_84 : Cond.methodLink RX3 84 yX6_parent ∈ xTs := xT5 7 (by decide +kernel) (by decide +kernel)
theorem lX3_88 : Cond.methodLink RX3 88 yX6_nameFrom ∈ xTs := xT5 8 (by decide +kernel) (by decide +kernel)
theorem lX3_91 : Cond.methodLink RX3 91 yX6_nameTo ∈ xTs := xT5 12 (by decide +kernel) (by decide +kernel)
theorem lX3_94 : Cond.methodLink RX3 94 yX4_readableClass ∈ xTs := xT5 16 (by decide +kernel) (by decide +kernel)
theorem lX4_73 : Cond.methodLink RX4 73 yX4_spells ∈ xTs := xT5 20 (by decide +kernel) (by decide +kernel)
theorem lX4_70 : Cond.methodLink RX4 70 yX5_at ∈ xTs := xT5 24 (by decide +kernel) (by decide +kernel)
theorem lX3_100 : Cond.methodLink RX3 100 yX3_begins ∈ xTs := xT5 25 (by decide +kernel) (by decide +kernel)
theorem lX3_111 : Cond.methodLink RX3 111 yX4_references ∈ xTs := xT5 29 (by decide +kernel) (by decide +kernel)
theorem lX3_114 : Cond.methodLink RX3 114 yX1_born ∈ xTs := xT5 30 (by decide +kernel) (by decide +kernel)
theorem lX3_118 : Cond.methodLink RX3 118 yX3_takesRole ∈ xTs := xT5 31 (by decide +kernel) (by decide +kernel)
theorem lX3_104 : Cond.methodLink RX3 104 yX3_isPlacedInObject ∈ xTs := xT5 35 (by decide +kernel) (by decide +kernel)
theorem lX3_122 : Cond.methodLink RX3 122 yX1_classOf ∈ xTs := xT5 39 (by decide +kernel) (by decide +kernel)
theorem lX3_125 : Cond.methodLink RX3 125 yX4_fieldNamed ∈ xTs := xT5 40 (by decide +kernel) (by decide +kernel)
theorem lX4_77 : Cond.methodLink RX4 77 yX4_fieldCount ∈ xTs := xT5 44 (by decide +kernel) (by decide +kernel)
theorem lX4_80 : Cond.methodLink RX4 80 yX4_isAttribute ∈ xTs := xT5 45 (by decide +kernel) (by decide +kernel)
theorem lX3_129 : Cond.methodLink RX3 129 yX4_implicit ∈ xTs := xT5 46 (by decide +kernel) (by decide +kernel)
theorem lX3_107 : Cond.methodLink RX3 107 yX3_isPlacedInList ∈ xTs := xT5 47 (by decide +kernel) (by decide +kernel)
theorem lX3_156 : Cond.methodLink RX3 156 yX1_append ∈ xTs := xT5 51 (by decide +kernel) (by decide +kernel)
theorem lX3_140 : Cond.methodLink RX3 140 yX6_attributeNamed ∈ xTs := xT5 53 (by decide +kernel) (by decide +kernel)
theorem lX6_103 : Cond.methodLink RX6 103 yX5_isAt ∈ xTs := xT5 57 (by decide +kernel) (by decide +kernel)
theorem lX3_160 : Cond.methodLink RX3 160 yX1_putCell ∈ xTs := xT5 61 (by decide +kernel) (by decide +kernel)
theorem lX3_132 : Cond.methodLink RX3 132 yX4_shape ∈ xTs := xT5 62 (by decide +kernel) (by decide +kernel)
theorem lX3_135 : Cond.methodLink RX3 135 yX3_isPlacedAsTarget ∈ xTs := xT5 63 (by decide +kernel) (by decide +kernel)
theorem lX3_146 : Cond.methodLink RX3 146 yX6_valueFrom ∈ xTs := xT5 68 (by decide +kernel) (by decide +kernel)
theorem lX6_89 : Cond.methodLink RX6 89 yX6_hasAttribute ∈ xTs := xT5 72 (by decide +kernel) (by decide +kernel)
theorem lX3_149 : Cond.methodLink RX3 149 yX6_valueTo ∈ xTs := xT5 76 (by decide +kernel) (by decide +kernel)
theorem lX3_152 : Cond.methodLink RX3 152 yX1_putHead ∈ xTs := xT5 80 (by decide +kernel) (by decide +kernel)
theorem lX3_78 : Cond.methodLink RX3 78 yX3_isSound ∈ xTs := xT5 81 (by decide +kernel) (by decide +kernel)
theorem lX3_163 : Cond.methodLink RX3 163 yX6_isSolid ∈ xTs := xT5 85 (by decide +kernel) (by decide +kernel)
theorem lX3_166 : Cond.methodLink RX3 166 yX3_areAttributesSound ∈ xTs := xT5 89 (by decide +kernel) (by decide +kernel)
theorem lX3_185 : Cond.methodLink RX3 185 yX6_firstAttribute ∈ xTs := xT5 93 (by decide +kernel) (by decide +kernel)
theorem lX3_169 : Cond.methodLink RX3 169 yX6_attributeCount ∈ xTs := xT5 94 (by decide +kernel) (by decide +kernel)
theorem lX3_188 : Cond.methodLink RX3 188 yX6_keyFrom ∈ xTs := xT5 95 (by decide +kernel) (by decide +kernel)
theorem lX3_191 : Cond.methodLink RX3 191 yX6_keyTo ∈ xTs := xT5 99 (by decide +kernel) (by decide +kernel)
theorem lX3_194 : Cond.methodLink RX3 194 yX5_isAt ∈ xTs := xT5 103 (by decide +kernel) (by decide +kernel)
theorem lX3_202 : Cond.methodLink RX3 202 yX3_isIdSound ∈ xTs := xT5 105 (by decide +kernel) (by decide +kernel)
theorem lX3_205 : Cond.methodLink RX3 205 yX3_idAt ∈ xTs := xT5 109 (by decide +kernel) (by decide +kernel)
theorem lX3_211 : Cond.methodLink RX3 211 yX5_at ∈ xTs := xT5 113 (by decide +kernel) (by decide +kernel)
theorem lX3_214 : (RX3, 214, yX10_isDigit, RX10) ∈ xNest := by decide +kernel
theorem lX3_208 : Cond.methodLink RX3 208 yX3_elementWithId ∈ xTs := xT5 115 (by decide +kernel) (by decide +kernel)
theorem lX3_181 : Cond.methodLink RX3 181 yX3_fills ∈ xTs := xT5 119 (by decide +kernel) (by decide +kernel)
theorem lX3_217 : Cond.methodLink RX3 217 yX3_fillsNumber ∈ xTs := xT5 123 (by decide +kernel) (by decide +kernel)
theorem qX3_228 : Cond.constantLong RX3 228 10 ∈ xTs := xT5 127 (by decide +kernel) (by decide +kernel)
theorem qX3_230 : Cond.constantLong RX3 230 48 ∈ xTs := xT5 128 (by decide +kernel) (by decide +kernel)
theorem lX3_220 : (RX3, 220, yX10_isFieldText, RX10) ∈ xNest := by decide +kernel
theorem lX3_224 : Cond.methodLink RX3 224 yX1_putText ∈ xTs := xT5 130 (by decide +kernel) (by decide +kernel)
theorem lX3_172 : Cond.methodLink RX3 172 yX6_kidCount ∈ xTs := xT5 131 (by decide +kernel) (by decide +kernel)
theorem lX3_175 : Cond.methodLink RX3 175 yX6_textFrom ∈ xTs := xT5 135 (by decide +kernel) (by decide +kernel)
theorem lX3_178 : Cond.methodLink RX3 178 yX6_textTo ∈ xTs := xT5 139 (by decide +kernel) (by decide +kernel)
theorem lX3_81 : Cond.methodLink RX3 81 yX3_leads ∈ xTs := xT5 143 (by decide +kernel) (by decide +kernel)
theorem lX3_232 : Cond.methodLink RX3 232 yX7_end ∈ xTs := xT5 147 (by decide +kernel) (by decide +kernel)
theorem lX7_24 : Cond.methodLink RX7 24 yX5_at ∈ xTs := xT5 151 (by decide +kernel) (by decide +kernel)
theorem lX7_30 : Cond.methodLink RX7 30 yX7_down ∈ xTs := xT5 152 (by decide +kernel) (by decide +kernel)
theorem lX7_41 : Cond.methodLink RX7 41 yX7_placeOf ∈ xTs := xT5 156 (by decide +kernel) (by decide +kernel)
theorem lX7_44 : Cond.methodLink RX7 44 yX7_rank ∈ xTs := xT5 160 (by decide +kernel) (by decide +kernel)
theorem lX7_52 : (RX7, 52, yX10_isDigit, RX10) ∈ xNest := by decide +kernel
theorem lX7_48 : Cond.methodLink RX7 48 yX6_child ∈ xTs := xT5 165 (by decide +kernel) (by decide +kernel)
theorem lX7_34 : Cond.methodLink RX7 34 yX7_goesUp ∈ xTs := xT5 169 (by decide +kernel) (by decide +kernel)
theorem lX7_38 : Cond.methodLink RX7 38 yX6_parent ∈ xTs := xT5 173 (by decide +kernel) (by decide +kernel)
theorem lX3_235 : Cond.methodLink RX3 235 yX4_spells ∈ xTs := xT5 174 (by decide +kernel) (by decide +kernel)
theorem lX10_155 : Cond.methodLink RX10 155 yX6_beginOf ∈ xTs := xT5 175 (by decide +kernel) (by decide +kernel)
theorem lX10_158 : Cond.methodLink RX10 158 yX1_size ∈ xTs := xT5 179 (by decide +kernel) (by decide +kernel)
theorem lL_69 : Cond.methodLink RL 69 yX10_same ∈ xTs := xT5 183 (by decide +kernel) (by decide +kernel)
theorem nX10_159 : Cond.classLink RX10 159 RX2 ∈ xTs := xT5 187 (by decide +kernel) (by decide +kernel)
theorem aX2 : Cond.instantiable RX2 7 ∈ xTs := xT5 188 (by decide +kernel) (by decide +kernel)
theorem lX10_161 : Cond.methodLink RX10 161 yX2_init ∈ xTs := xT5 189 (by decide +kernel) (by decide +kernel)
theorem lX2_3 : Cond.methodLink RX2 3 objectInit ∈ xTs := xT5 192 (by decide +kernel) (by decide +kernel)
theorem lX10_164 : Cond.methodLink RX10 164 yX2_holdsFrom ∈ xTs := xT5 215 (by decide +kernel) (by decide +kernel)
theorem lX2_36 : Cond.methodLink RX2 36 yJ7_fill_53178 ∈ xTs := xT5 219 (by decide +kernel) (by decide +kernel)
theorem lX2_42 : Cond.methodLink RX2 42 yX2_pairs ∈ xTs := xT5 222 (by decide +kernel) (by decide +kernel)
theorem lX2_49 : Cond.methodLink RX2 49 yX1_has ∈ xTs := xT5 226 (by decide +kernel) (by decide +kernel)
theorem lX2_55 : Cond.methodLink RX2 55 yX1_classOf ∈ xTs := xT5 227 (by decide +kernel) (by decide +kernel)
theorem lX2_46 : Cond.methodLink RX2 46 yX2_areFieldsAlike ∈ xTs := xT5 228 (by decide +kernel) (by decide +kernel)
theorem lX2_59 : Cond.methodLink RX2 59 yX4_fieldCount ∈ xTs := xT5 232 (by decide +kernel) (by decide +kernel)
theorem lX2_64 : Cond.methodLink RX2 64 yX4_shape ∈ xTs := xT5 233 (by decide +kernel) (by decide +kernel)
theorem lX2_68 : Cond.methodLink RX2 68 yX1_head ∈ xTs := xT5 234 (by decide +kernel) (by decide +kernel)
theorem lX2_71 : Cond.methodLink RX2 71 yX2_areTextsAlike ∈ xTs := xT5 235 (by decide +kernel) (by decide +kernel)
theorem lX2_78 : Cond.methodLink RX2 78 yX1_cell ∈ xTs := xT5 239 (by decide +kernel) (by decide +kernel)
theorem lX2_75 : Cond.methodLink RX2 75 yX2_areListsAlike ∈ xTs := xT6 0 (by decide +kernel) (by decide +kernel)
theorem lL_73 : Cond.methodLink RL 73 yX10_kind ∈ xTs := xT6 4 (by decide +kernel) (by decide +kernel)
theorem lX10_168 : Cond.methodLink RX10 168 yX10_isHeap ∈ xTs := xT6 8 (by decide +kernel) (by decide +kernel)
theorem lX10_171 : Cond.methodLink RX10 171 yX10_heapAt ∈ xTs := xT6 11 (by decide +kernel) (by decide +kernel)
theorem lL_77 : Cond.methodLink RL 77 yX10_value ∈ xTs := xT6 15 (by decide +kernel) (by decide +kernel)
theorem lX10_178 : Cond.methodLink RX10 178 yX1_head ∈ xTs := xT6 19 (by decide +kernel) (by decide +kernel)
theorem lX10_181 : Cond.methodLink RX10 181 yX1_cell ∈ xTs := xT6 20 (by decide +kernel) (by decide +kernel)
theorem lL_82 : Cond.methodLink RL 82 yX10_count ∈ xTs := xT6 21 (by decide +kernel) (by decide +kernel)
theorem lX10_184 : Cond.methodLink RX10 184 yX4_forbiddenSize ∈ xTs := xT6 25 (by decide +kernel) (by decide +kernel)
theorem nL_10 : Cond.classLink RL 10 RX11 ∈ xTs := xT6 29 (by decide +kernel) (by decide +kernel)
theorem aX11 : Cond.instantiable RX11 72 ∈ xTs := xT6 30 (by decide +kernel) (by decide +kernel)
theorem lL_12 : Cond.methodLink RL 12 yX11_init ∈ xTs := xT6 31 (by decide +kernel) (by decide +kernel)
theorem lX11_1 : Cond.methodLink RX11 1 objectInit ∈ xTs := xT6 34 (by decide +kernel) (by decide +kernel)
theorem lL_17 : Cond.methodLink RL 17 yX11_unit ∈ xTs := xT7 12 (by decide +kernel) (by decide +kernel)
theorem lX11_174 : Cond.methodLink RX11 174 yX11_in ∈ xTs := xT7 16 (by decide +kernel) (by decide +kernel)
theorem lX11_178 : Cond.methodLink RX11 178 yX11_isBlank ∈ xTs := xT7 19 (by decide +kernel) (by decide +kernel)
theorem lL_22 : Cond.methodLink RL 22 yX11_classes ∈ xTs := xT7 22 (by decide +kernel) (by decide +kernel)
theorem lX11_232 : Cond.methodLink RX11 232 yX11_oneClass ∈ xTs := xT7 26 (by decide +kernel) (by decide +kernel)
theorem lX11_217 : Cond.methodLink RX11 217 yX11_name ∈ xTs := xT7 30 (by decide +kernel) (by decide +kernel)
theorem lX11_203 : Cond.methodLink RX11 203 yX11_nameAt ∈ xTs := xT7 34 (by decide +kernel) (by decide +kernel)
theorem lX11_182 : Cond.methodLink RX11 182 yX11_signAt ∈ xTs := xT7 38 (by decide +kernel) (by decide +kernel)
theorem lX11_186 : Cond.methodLink RX11 186 yX11_isLetter ∈ xTs := xT7 42 (by decide +kernel) (by decide +kernel)
theorem lX11_189 : Cond.methodLink RX11 189 yX11_isDigit ∈ xTs := xT7 45 (by decide +kernel) (by decide +kernel)
theorem lX11_206 : Cond.methodLink RX11 206 yX11_areAlike ∈ xTs := xT7 48 (by decide +kernel) (by decide +kernel)
theorem lX11_224 : Cond.methodLink RX11 224 yX11_eat ∈ xTs := xT7 52 (by decide +kernel) (by decide +kernel)
theorem lX11_213 : Cond.methodLink RX11 213 yX11_want ∈ xTs := xT7 56 (by decide +kernel) (by decide +kernel)
theorem lX11_228 : Cond.methodLink RX11 228 yX11_field ∈ xTs := xT7 60 (by decide +kernel) (by decide +kernel)
theorem lX11_221 : Cond.methodLink RX11 221 yX11_isWord ∈ xTs := xT7 64 (by decide +kernel) (by decide +kernel)
theorem lX11_192 : Cond.methodLink RX11 192 yX11_letterOf ∈ xTs := xT7 68 (by decide +kernel) (by decide +kernel)
theorem lX11_235 : Cond.methodLink RX11 235 yX11_isMixed ∈ xTs := xT7 71 (by decide +kernel) (by decide +kernel)
theorem lL_27 : Cond.methodLink RL 27 yX11_make ∈ xTs := xT7 75 (by decide +kernel) (by decide +kernel)
theorem lX11_250 : Cond.methodLink RX11 250 yX11_object ∈ xTs := xT7 79 (by decide +kernel) (by decide +kernel)
theorem lL_32 : Cond.methodLink RL 32 yX11_set ∈ xTs := xT7 83 (by decide +kernel) (by decide +kernel)
theorem lX11_253 : Cond.methodLink RX11 253 yX11_kindAt ∈ xTs := xT7 87 (by decide +kernel) (by decide +kernel)
theorem lX11_247 : Cond.methodLink RX11 247 yX11_isObject ∈ xTs := xT7 91 (by decide +kernel) (by decide +kernel)
theorem lL_37 : Cond.methodLink RL 37 yX11_text ∈ xTs := xT7 95 (by decide +kernel) (by decide +kernel)
theorem lL_42 : Cond.methodLink RL 42 yX11_add ∈ xTs := xT7 99 (by decide +kernel) (by decide +kernel)
theorem lL_46 : Cond.methodLink RL 46 yX11_limit ∈ xTs := xT7 103 (by decide +kernel) (by decide +kernel)
theorem lL_51 : Cond.methodLink RL 51 yX11_write ∈ xTs := xT7 107 (by decide +kernel) (by decide +kernel)
theorem lX11_322 : Cond.methodLink RX11 322 yX11_begin ∈ xTs := xT7 111 (by decide +kernel) (by decide +kernel)
theorem lX11_297 : Cond.methodLink RX11 297 yX11_element ∈ xTs := xT7 115 (by decide +kernel) (by decide +kernel)
theorem lX11_281 : Cond.methodLink RX11 281 yX11_sameName ∈ xTs := xT7 119 (by decide +kernel) (by decide +kernel)
theorem lX11_260 : Cond.methodLink RX11 260 yX11_put ∈ xTs := xT7 123 (by decide +kernel) (by decide +kernel)
theorem lX11_284 : Cond.methodLink RX11 284 yX11_putName ∈ xTs := xT7 127 (by decide +kernel) (by decide +kernel)
theorem lX11_300 : Cond.methodLink RX11 300 yX11_putAttribute ∈ xTs := xT7 131 (by decide +kernel) (by decide +kernel)
theorem lX11_267 : Cond.methodLink RX11 267 yX11_putWord ∈ xTs := xT7 135 (by decide +kernel) (by decide +kernel)
theorem lX11_271 : Cond.methodLink RX11 271 yX11_putNumber ∈ xTs := xT7 139 (by decide +kernel) (by decide +kernel)
theorem qX11_263 : Cond.constantLong RX11 263 9 ∈ xTs := xT7 143 (by decide +kernel) (by decide +kernel)
theorem qX11_265 : Cond.constantLong RX11 265 10 ∈ xTs := xT7 144 (by decide +kernel) (by decide +kernel)
theorem lX11_309 : Cond.methodLink RX11 309 yX11_putValue ∈ xTs := xT7 145 (by decide +kernel) (by decide +kernel)
theorem lX11_274 : Cond.methodLink RX11 274 yX11_putText ∈ xTs := xT7 149 (by decide +kernel) (by decide +kernel)
theorem lX11_313 : Cond.methodLink RX11 313 yX11_hasContent ∈ xTs := xT7 153 (by decide +kernel) (by decide +kernel)
theorem lX11_337 : Cond.methodLink RX11 337 yX11_goesOn ∈ xTs := xT7 157 (by decide +kernel) (by decide +kernel)
theorem lX11_326 : Cond.methodLink RX11 326 yX11_end ∈ xTs := xT7 161 (by decide +kernel) (by decide +kernel)
theorem lX11_329 : Cond.methodLink RX11 329 yX11_lists ∈ xTs := xT7 165 (by decide +kernel) (by decide +kernel)
theorem lX11_333 : Cond.methodLink RX11 333 yX11_child ∈ xTs := xT7 169 (by decide +kernel) (by decide +kernel)
theorem lX11_319 : Cond.methodLink RX11 319 yX11_refer ∈ xTs := xT7 173 (by decide +kernel) (by decide +kernel)
theorem lX11_303 : Cond.methodLink RX11 303 yX11_putWay ∈ xTs := xT7 177 (by decide +kernel) (by decide +kernel)
theorem lX11_293 : Cond.methodLink RX11 293 yX11_putSteps ∈ xTs := xT7 181 (by decide +kernel) (by decide +kernel)
theorem lX11_287 : Cond.methodLink RX11 287 yX11_isAround ∈ xTs := xT7 185 (by decide +kernel) (by decide +kernel)
theorem lX11_290 : Cond.methodLink RX11 290 yX11_putStep ∈ xTs := xT7 189 (by decide +kernel) (by decide +kernel)
theorem lL_55 : Cond.methodLink RL 55 yX11_sign ∈ xTs := xT7 193 (by decide +kernel) (by decide +kernel)
theorem lL_59 : Cond.methodLink RL 59 yX11_take ∈ xTs := xT7 197 (by decide +kernel) (by decide +kernel)
theorem lL_64 : Cond.methodLink RL 64 yX11_forbid ∈ xTs := xT7 201 (by decide +kernel) (by decide +kernel)
theorem lL_68 : Cond.methodLink RL 68 yX11_read ∈ xTs := xT7 205 (by decide +kernel) (by decide +kernel)
theorem lX11_499 : Cond.methodLink RX11 499 yX11_parse ∈ xTs := xT7 209 (by decide +kernel) (by decide +kernel)
theorem lX11_389 : Cond.methodLink RX11 389 yX11_blanksFrom ∈ xTs := xT7 213 (by decide +kernel) (by decide +kernel)
theorem lX11_349 : Cond.methodLink RX11 349 yX11_docAt ∈ xTs := xT7 217 (by decide +kernel) (by decide +kernel)
theorem lX11_362 : Cond.methodLink RX11 362 yX11_fail ∈ xTs := xT7 221 (by decide +kernel) (by decide +kernel)
theorem lX11_383 : Cond.methodLink RX11 383 yX11_reference ∈ xTs := xT7 225 (by decide +kernel) (by decide +kernel)
theorem lX11_358 : Cond.methodLink RX11 358 yX11_figure ∈ xTs := xT7 229 (by decide +kernel) (by decide +kernel)
theorem lX11_365 : Cond.methodLink RX11 365 yX11_keep ∈ xTs := xT7 232 (by decide +kernel) (by decide +kernel)
theorem lX11_368 : Cond.methodLink RX11 368 yX11_entitySign ∈ xTs := xT7 236 (by decide +kernel) (by decide +kernel)
theorem lX11_371 : Cond.methodLink RX11 371 yX11_entity ∈ xTs := xT7 239 (by decide +kernel) (by decide +kernel)
theorem lX11_401 : Cond.methodLink RX11 401 yX11_endTag ∈ xTs := xT8 2 (by decide +kernel) (by decide +kernel)
theorem lX11_374 : Cond.methodLink RX11 374 yX11_nameEnd ∈ xTs := xT8 6 (by decide +kernel) (by decide +kernel)
theorem lX11_352 : Cond.methodLink RX11 352 yX11_inName ∈ xTs := xT8 10 (by decide +kernel) (by decide +kernel)
theorem lX11_346 : Cond.methodLink RX11 346 yX11_beginsName ∈ xTs := xT8 13 (by decide +kernel) (by decide +kernel)
theorem lX11_380 : Cond.methodLink RX11 380 yX11_sameNames ∈ xTs := xT8 16 (by decide +kernel) (by decide +kernel)
theorem lX11_404 : Cond.methodLink RX11 404 yX11_section ∈ xTs := xT8 20 (by decide +kernel) (by decide +kernel)
theorem lX11_398 : Cond.methodLink RX11 398 yX11_openerSign ∈ xTs := xT8 24 (by decide +kernel) (by decide +kernel)
theorem lX11_408 : Cond.methodLink RX11 408 yX11_beginTag ∈ xTs := xT8 27 (by decide +kernel) (by decide +kernel)
theorem lX11_392 : Cond.methodLink RX11 392 yX11_attribute ∈ xTs := xT8 31 (by decide +kernel) (by decide +kernel)
theorem lX11_502 : Cond.methodLink RX11 502 yX11_meaningless ∈ xTs := xT8 35 (by decide +kernel) (by decide +kernel)
theorem lX11_493 : Cond.methodLink RX11 493 yX11_hasMeaning ∈ xTs := xT8 39 (by decide +kernel) (by decide +kernel)
theorem lX11_460 : Cond.methodLink RX11 460 yX11_isObjectElement ∈ xTs := xT8 43 (by decide +kernel) (by decide +kernel)
theorem lX11_429 : Cond.methodLink RX11 429 yX11_isKey ∈ xTs := xT8 47 (by decide +kernel) (by decide +kernel)
theorem lX11_417 : Cond.methodLink RX11 417 yX11_wordSign ∈ xTs := xT8 51 (by decide +kernel) (by decide +kernel)
theorem lX11_432 : Cond.methodLink RX11 432 yX11_hasChild ∈ xTs := xT8 54 (by decide +kernel) (by decide +kernel)
theorem lX11_435 : Cond.methodLink RX11 435 yX11_textSize ∈ xTs := xT8 58 (by decide +kernel) (by decide +kernel)
theorem lX11_438 : Cond.methodLink RX11 438 yX11_classNamed ∈ xTs := xT8 62 (by decide +kernel) (by decide +kernel)
theorem lX11_414 : Cond.methodLink RX11 414 yX11_isNamed ∈ xTs := xT8 66 (by decide +kernel) (by decide +kernel)
theorem lX11_411 : Cond.methodLink RX11 411 yX11_writtenSign ∈ xTs := xT8 70 (by decide +kernel) (by decide +kernel)
theorem lX11_441 : Cond.methodLink RX11 441 yX11_classOfValue ∈ xTs := xT8 74 (by decide +kernel) (by decide +kernel)
theorem lX11_444 : Cond.methodLink RX11 444 yX11_isBlankWithin ∈ xTs := xT8 78 (by decide +kernel) (by decide +kernel)
theorem lX11_447 : Cond.methodLink RX11 447 yX11_fieldNamed ∈ xTs := xT8 82 (by decide +kernel) (by decide +kernel)
theorem lX11_451 : Cond.methodLink RX11 451 yX11_pieceOfValue ∈ xTs := xT8 86 (by decide +kernel) (by decide +kernel)
theorem lX11_454 : Cond.methodLink RX11 454 yX11_becomes ∈ xTs := xT8 90 (by decide +kernel) (by decide +kernel)
theorem qX11_423 : Cond.constantLong RX11 423 48 ∈ xTs := xT8 94 (by decide +kernel) (by decide +kernel)
theorem qX11_425 : Cond.constantLong RX11 425 (-2147483648) ∈ xTs := xT8 95 (by decide +kernel) (by decide +kernel)
theorem qX11_427 : Cond.constantLong RX11 427 2147483647 ∈ xTs := xT8 96 (by decide +kernel) (by decide +kernel)
theorem lX11_457 : Cond.methodLink RX11 457 yX11_isId ∈ xTs := xT8 97 (by decide +kernel) (by decide +kernel)
theorem lX11_464 : Cond.methodLink RX11 464 yX11_isListed ∈ xTs := xT8 101 (by decide +kernel) (by decide +kernel)
theorem lX11_467 : Cond.methodLink RX11 467 yX11_implicitOf ∈ xTs := xT8 105 (by decide +kernel) (by decide +kernel)
theorem lX11_470 : Cond.methodLink RX11 470 yX11_pieceOfText ∈ xTs := xT8 109 (by decide +kernel) (by decide +kernel)
theorem lX11_496 : Cond.methodLink RX11 496 yX11_leads ∈ xTs := xT8 113 (by decide +kernel) (by decide +kernel)
theorem lX11_490 : Cond.methodLink RX11 490 yX11_target ∈ xTs := xT8 117 (by decide +kernel) (by decide +kernel)
theorem lX11_473 : Cond.methodLink RX11 473 yX11_pieceAt ∈ xTs := xT8 121 (by decide +kernel) (by decide +kernel)
theorem lX11_483 : Cond.methodLink RX11 483 yX11_withId ∈ xTs := xT8 125 (by decide +kernel) (by decide +kernel)
theorem lX11_480 : Cond.methodLink RX11 480 yX11_steps ∈ xTs := xT8 129 (by decide +kernel) (by decide +kernel)
theorem lX11_476 : Cond.methodLink RX11 476 yX11_childAt ∈ xTs := xT8 133 (by decide +kernel) (by decide +kernel)
theorem lX11_487 : Cond.methodLink RX11 487 yX11_way ∈ xTs := xT8 137 (by decide +kernel) (by decide +kernel)
theorem lL_72 : Cond.methodLink RL 72 yX11_same ∈ xTs := xT8 141 (by decide +kernel) (by decide +kernel)
theorem lX11_508 : Cond.methodLink RX11 508 yX11_pair ∈ xTs := xT8 145 (by decide +kernel) (by decide +kernel)
theorem lX11_511 : Cond.methodLink RX11 511 yX11_areSame ∈ xTs := xT8 149 (by decide +kernel) (by decide +kernel)
theorem lL_76 : Cond.methodLink RL 76 yX11_kind ∈ xTs := xT8 153 (by decide +kernel) (by decide +kernel)
theorem lL_81 : Cond.methodLink RL 81 yX11_value ∈ xTs := xT8 157 (by decide +kernel) (by decide +kernel)
theorem lL_85 : Cond.methodLink RL 85 yX11_count ∈ xTs := xT8 161 (by decide +kernel) (by decide +kernel)
theorem obj_i : Cond.instanceMethod objectInit ∈ xTs := xT1 26 (by decide +kernel) (by decide +kernel)
theorem obj_c : Cond.code objectInit ⟨#[0xb1]⟩ 1 none ∈ xTs := xT1 27 (by decide +kernel) (by decide +kernel)
theorem ac_n : Cond.native arraycopyName ∈ xTs := xT1 210 (by decide +kernel) (by decide +kernel)
theorem ac_s : Cond.static arraycopyName ∈ xTs := xT1 209 (by decide +kernel) (by decide +kernel)
theorem ac_i : Cond.initialized "java/lang/System" ∈ xTs := xT1 8 (by decide +kernel) (by decide +kernel)

