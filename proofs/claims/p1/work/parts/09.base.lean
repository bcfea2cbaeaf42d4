theorem b_oi : Cond.instanceMethod objectInit ∈ TB := tb_of 110 (by decide +kernel)
theorem b_oc : Cond.code objectInit ⟨#[0xb1]⟩ 1 none ∈ TB := tb_of 111 (by decide +kernel)
theorem b_an : Cond.native arraycopyName ∈ TB := tb_of 1126 (by decide +kernel)
theorem b_as : Cond.static arraycopyName ∈ TB := tb_of 1125 (by decide +kernel)
set_option maxRecDepth 20000 in
theorem inX0 : ∀ w ∈ u_ws RX0 TX0 10, w ∈ TB := tb_all _ [204, 206, 208, 210, 212, 214, 216, 218, 220, 222] (by decide +kernel)
def df0X0 : List Value := [.null, .null, .null, .null, .null, .null, .null, .int 0, .int 0, .long 0]
theorem dfX0 : ∀ j, j < 10 → defaultValue (tyX0 j) = vp_V df0X0 j := by decide +kernel
set_option maxRecDepth 20000 in
theorem inX1 : ∀ w ∈ u_ws RX1 TX1 14, w ∈ TB := tb_all _ [382, 384, 386, 388, 390, 392, 394, 396, 398, 400, 402, 404, 406, 408] (by decide +kernel)
def df0X1 : List Value := [.null, .null, .null, .int 0, .int 0, .int 0, .int 0, .int 0, .int 0, .null, .null, .null, .null, .int 0]
theorem dfX1 : ∀ j, j < 14 → defaultValue (tyX1 j) = vp_V df0X1 j := by decide +kernel
set_option maxRecDepth 20000 in
theorem inX2 : ∀ w ∈ u_ws RX2 TX2 5, w ∈ TB := tb_all _ [335, 337, 339, 341, 343] (by decide +kernel)
def df0X2 : List Value := [.null, .null, .int 0, .null, .null]
theorem dfX2 : ∀ j, j < 5 → defaultValue (tyX2 j) = vp_V df0X2 j := by decide +kernel
set_option maxRecDepth 20000 in
theorem inX3 : ∀ w ∈ u_ws RX3 TX3 6, w ∈ TB := tb_all _ [165, 167, 169, 171, 173, 175] (by decide +kernel)
def df0X3 : List Value := [.null, .null, .null, .null, .null, .int 0]
theorem dfX3 : ∀ j, j < 6 → defaultValue (tyX3 j) = vp_V df0X3 j := by decide +kernel
set_option maxRecDepth 20000 in
theorem inX4 : ∀ w ∈ u_ws RX4 TX4 9, w ∈ TB := tb_all _ [244, 246, 248, 250, 252, 254, 256, 258, 260] (by decide +kernel)
def df0X4 : List Value := [.null, .null, .int 0, .int 0, .int 0, .int 0, .int 0, .int 0, .long 0]
theorem dfX4 : ∀ j, j < 9 → defaultValue (tyX4 j) = vp_V df0X4 j := by decide +kernel
set_option maxRecDepth 20000 in
theorem inX5 : ∀ w ∈ u_ws RX5 TX5 17, w ∈ TB := tb_all _ [446, 448, 450, 452, 454, 456, 458, 460, 462, 464, 466, 468, 470, 472, 474, 476, 478] (by decide +kernel)
def df0X5 : List Value := [.null, .null, .null, .int 0, .int 0, .int 0, .int 0, .int 0, .int 0, .int 0, .int 0, .long 0, .null, .null, .null, .null, .null]
theorem dfX5 : ∀ j, j < 17 → defaultValue (tyX5 j) = vp_V df0X5 j := by decide +kernel
set_option maxRecDepth 20000 in
theorem inX6 : ∀ w ∈ u_ws RX6 TX6 2, w ∈ TB := tb_all _ [123, 125] (by decide +kernel)
def df0X6 : List Value := [.null, .int 0]
theorem dfX6 : ∀ j, j < 2 → defaultValue (tyX6 j) = vp_V df0X6 j := by decide +kernel
set_option maxRecDepth 20000 in
theorem inX7 : ∀ w ∈ u_ws RX7 TX7 5, w ∈ TB := tb_all _ [308, 310, 312, 314, 316] (by decide +kernel)
def df0X7 : List Value := [.null, .null, .null, .int 0, .null]
theorem dfX7 : ∀ j, j < 5 → defaultValue (tyX7 j) = vp_V df0X7 j := by decide +kernel
set_option maxRecDepth 20000 in
theorem inX8 : ∀ w ∈ u_ws RX8 TX8 5, w ∈ TB := tb_all _ [282, 284, 286, 288, 290] (by decide +kernel)
def df0X8 : List Value := [.null, .null, .null, .int 0, .null]
theorem dfX8 : ∀ j, j < 5 → defaultValue (tyX8 j) = vp_V df0X8 j := by decide +kernel
set_option maxRecDepth 20000 in
theorem inX9 : ∀ w ∈ u_ws RX9 TX9 13, w ∈ TB := tb_all _ [494, 496, 498, 500, 502, 504, 506, 508, 510, 512, 514, 516, 518] (by decide +kernel)
def df0X9 : List Value := [.null, .null, .null, .null, .null, .null, .null, .null, .null, .null, .null, .int 0, .int 0]
theorem dfX9 : ∀ j, j < 13 → defaultValue (tyX9 j) = vp_V df0X9 j := by decide +kernel
set_option maxRecDepth 20000 in
theorem inX10 : ∀ w ∈ u_ws RX10 TX10 81, w ∈ TB := tb_all _ [1395, 1397, 1399, 1401, 1403, 1405, 1407, 1409, 1411, 1413, 1415, 1417, 1419, 1421, 1423, 1425, 1427, 1429, 1431, 1433, 1435, 1437, 1439, 1441, 1443, 1445, 1447, 1449, 1451, 1453, 1455, 1457, 1459, 1461, 1463, 1465, 1467, 1469, 1471, 1473, 1475, 1477, 1479, 1481, 1483, 1485, 1487, 1489, 1491, 1493, 1495, 1497, 1499, 1501, 1503, 1505, 1507, 1509, 1511, 1513, 1515, 1517, 1519, 1521, 1523, 1525, 1527, 1529, 1531, 1533, 1535, 1537, 1539, 1541, 1543, 1545, 1547, 1549, 1551, 1553, 1555] (by decide +kernel)
def df0X10 : List Value := [.int 0, .int 0, .null, .null, .null, .int 0, .null, .null, .null, .null, .int 0, .null, .int 0, .null, .int 0, .null, .int 0, .int 0, .int 0, .int 0, .int 0, .int 0, .int 0, .long 0, .null, .null, .null, .null, .null, .null, .null, .null, .null, .null, .int 0, .null, .null, .null, .null, .null, .null, .null, .null, .null, .null, .int 0, .null, .null, .null, .null, .null, .null, .null, .null, .null, .null, .null, .null, .null, .null, .int 0, .null, .null, .null, .null, .null, .null, .int 0, .long 0, .int 0, .int 0, .int 0, .int 0, .null, .null, .null, .int 0, .null, .null, .null, .null]
theorem dfX10 : ∀ j, j < 81 → defaultValue (tyX10 j) = vp_V df0X10 j := by decide +kernel
theorem b_983 : Cond.classLink RX9 166 "java/lang/IndexOutOfBoundsException" ∈ TB := tb_of 983 (by decide +kernel)
theorem b_99 : Cond.initialized "java/lang/IndexOutOfBoundsException" ∈ TB := tb_of 99 (by decide +kernel)
set_option maxRecDepth 20000 in
theorem x_ok_io : x_ok RX9 166 170 "java/lang/IndexOutOfBoundsException" := ⟨b_983, b_99, by decide +kernel, by decide +kernel, by decide +kernel, by decide +kernel⟩
theorem b_940 : Cond.classLink RX9 101 "java/lang/IllegalArgumentException" ∈ TB := tb_of 940 (by decide +kernel)
theorem b_93 : Cond.initialized "java/lang/IllegalArgumentException" ∈ TB := tb_of 93 (by decide +kernel)
set_option maxRecDepth 20000 in
theorem x_ok_ia : x_ok RX9 101 105 "java/lang/IllegalArgumentException" := ⟨b_940, b_93, by decide +kernel, by decide +kernel, by decide +kernel, by decide +kernel⟩
