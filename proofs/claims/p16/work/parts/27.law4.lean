set_option maxRecDepth 100000 in
theorem inl_X0 : ∀ w ∈ u_ws RX0 TX0 2, w ∈ lw_tbl := fun w h => (goodIn_r (big := lw_tbl) wsX00 [538, 540] (by decide +kernel) (by decide +kernel) w h).1
set_option maxRecDepth 100000 in
theorem inl_X1 : ∀ w ∈ u_ws RX1 TX1 9, w ∈ lw_tbl := fun w h => (goodIn_r (big := lw_tbl) wsX10 [236, 238, 240, 242, 244, 246, 248, 250, 252] (by decide +kernel) (by decide +kernel) w h).1
set_option maxRecDepth 100000 in
theorem inl_X2 : ∀ w ∈ u_ws RX2 TX2 6, w ∈ lw_tbl := fun w h => (goodIn_r (big := lw_tbl) wsX20 [555, 557, 559, 561, 563, 565] (by decide +kernel) (by decide +kernel) w h).1
set_option maxRecDepth 100000 in
theorem inl_X3 : ∀ w ∈ u_ws RX3 TX3 5, w ∈ lw_tbl := fun w h => (goodIn_r (big := lw_tbl) wsX30 [518, 520, 522, 524, 526] (by decide +kernel) (by decide +kernel) w h).1
set_option maxRecDepth 100000 in
theorem inl_X4 : ∀ w ∈ u_ws RX4 TX4 8, w ∈ lw_tbl := fun w h => (goodIn_r (big := lw_tbl) wsX40 [441, 443, 445, 447, 449, 451, 453, 455] (by decide +kernel) (by decide +kernel) w h).1
set_option maxRecDepth 100000 in
theorem inl_X5 : ∀ w ∈ u_ws RX5 TX5 10, w ∈ lw_tbl := fun w h => (goodIn_r (big := lw_tbl) wsX50 [315, 317, 319, 321, 323, 325, 327, 329, 331, 333] (by decide +kernel) (by decide +kernel) w h).1
set_option maxRecDepth 100000 in
theorem inl_X6 : ∀ w ∈ u_ws RX6 TX6 7, w ∈ lw_tbl := fun w h => (goodIn_r (big := lw_tbl) wsX60 [488, 490, 492, 494, 496, 498, 500] (by decide +kernel) (by decide +kernel) w h).1
set_option maxRecDepth 100000 in
theorem inl_X7 : ∀ w ∈ u_ws RX7 TX7 2, w ∈ lw_tbl := fun w h => (goodIn_r (big := lw_tbl) wsX70 [208, 210] (by decide +kernel) (by decide +kernel) w h).1
set_option maxRecDepth 100000 in
theorem inl_X8 : ∀ w ∈ u_ws RX8 TX8 8, w ∈ lw_tbl := fun w h => (goodIn_r (big := lw_tbl) wsX80 [583, 585, 587, 589, 591, 593, 595, 597] (by decide +kernel) (by decide +kernel) w h).1
set_option maxRecDepth 100000 in
theorem inl_X9 : ∀ w ∈ u_ws RX9 TX9 7, w ∈ lw_tbl := fun w h => (goodIn_r (big := lw_tbl) wsX90 [415, 417, 419, 421, 423, 425, 427] (by decide +kernel) (by decide +kernel) w h).1
set_option maxRecDepth 100000 in
theorem inl_X10 : ∀ w ∈ u_ws RX10 TX10 9, w ∈ lw_tbl := fun w h => (goodIn_r (big := lw_tbl) wsX100 [616, 618, 620, 622, 624, 626, 628, 630, 632] (by decide +kernel) (by decide +kernel) w h).1
set_option maxRecDepth 100000 in
theorem inl_X11 : ∀ w ∈ u_ws RX11 TX11 58, w ∈ lw_tbl := fun w h => (goodIn_r (big := lw_tbl) wsX110 [1421, 1423, 1425, 1427, 1429, 1431, 1433, 1435, 1437, 1439, 1441, 1443, 1445, 1447, 1449, 1451, 1453, 1455, 1457, 1459, 1461, 1463, 1465, 1467, 1469, 1471, 1473, 1475, 1477, 1479, 1481, 1483, 1485, 1487, 1489, 1491, 1493, 1495, 1497, 1499, 1501, 1503, 1505, 1507, 1509, 1511, 1513, 1515, 1517, 1519, 1521, 1523, 1525, 1527, 1529, 1531, 1533, 1535] (by decide +kernel) (by decide +kernel) w h).1
