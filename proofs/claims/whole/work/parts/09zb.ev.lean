set_option maxRecDepth 100000 in
theorem chk_0 : chkR 3 50 = true := by decide +kernel
set_option maxRecDepth 100000 in
theorem chk_1 : chkR 53 50 = true := by decide +kernel
set_option maxRecDepth 100000 in
theorem chk_2 : chkR 103 50 = true := by decide +kernel
set_option maxRecDepth 100000 in
theorem chk_3 : chkR 153 50 = true := by decide +kernel
set_option maxRecDepth 100000 in
theorem chk_4 : chkR 203 50 = true := by decide +kernel
set_option maxRecDepth 100000 in
theorem chk_5 : chkR 253 50 = true := by decide +kernel
set_option maxRecDepth 100000 in
theorem chk_6 : chkR 303 50 = true := by decide +kernel
set_option maxRecDepth 100000 in
theorem chk_7 : chkR 353 50 = true := by decide +kernel
set_option maxRecDepth 100000 in
theorem chk_8 : chkR 403 50 = true := by decide +kernel
set_option maxRecDepth 100000 in
theorem chk_9 : chkR 453 50 = true := by decide +kernel
set_option maxRecDepth 100000 in
theorem chk_10 : chkR 503 50 = true := by decide +kernel
set_option maxRecDepth 100000 in
theorem chk_11 : chkR 553 50 = true := by decide +kernel
set_option maxRecDepth 100000 in
theorem chk_12 : chkR 603 50 = true := by decide +kernel
set_option maxRecDepth 100000 in
theorem chk_13 : chkR 653 50 = true := by decide +kernel
set_option maxRecDepth 100000 in
theorem chk_14 : chkR 703 50 = true := by decide +kernel
set_option maxRecDepth 100000 in
theorem chk_15 : chkR 753 50 = true := by decide +kernel
set_option maxRecDepth 100000 in
theorem chk_16 : chkR 803 50 = true := by decide +kernel
set_option maxRecDepth 100000 in
theorem chk_17 : chkR 853 50 = true := by decide +kernel
set_option maxRecDepth 100000 in
theorem chk_18 : chkR 903 50 = true := by decide +kernel
set_option maxRecDepth 100000 in
theorem chk_19 : chkR 953 50 = true := by decide +kernel
set_option maxRecDepth 100000 in
theorem chk_20 : chkR 1003 50 = true := by decide +kernel
set_option maxRecDepth 100000 in
theorem chk_21 : chkR 1053 50 = true := by decide +kernel
set_option maxRecDepth 100000 in
theorem chk_22 : chkR 1103 50 = true := by decide +kernel
set_option maxRecDepth 100000 in
theorem chk_23 : chkR 1153 50 = true := by decide +kernel
set_option maxRecDepth 100000 in
theorem chk_24 : chkR 1203 50 = true := by decide +kernel
set_option maxRecDepth 100000 in
theorem chk_25 : chkR 1253 50 = true := by decide +kernel
set_option maxRecDepth 100000 in
theorem chk_26 : chkR 1303 50 = true := by decide +kernel
set_option maxRecDepth 100000 in
theorem chk_27 : chkR 1353 50 = true := by decide +kernel
set_option maxRecDepth 100000 in
theorem chk_28 : chkR 1403 50 = true := by decide +kernel
set_option maxRecDepth 100000 in
theorem chk_29 : chkR 1453 50 = true := by decide +kernel
set_option maxRecDepth 100000 in
theorem chk_30 : chkR 1503 50 = true := by decide +kernel
set_option maxRecDepth 100000 in
theorem chk_31 : chkR 1553 50 = true := by decide +kernel
set_option maxRecDepth 100000 in
theorem chk_32 : chkR 1603 50 = true := by decide +kernel
set_option maxRecDepth 100000 in
theorem chk_33 : chkR 1653 50 = true := by decide +kernel
set_option maxRecDepth 100000 in
theorem chk_34 : chkR 1703 50 = true := by decide +kernel
set_option maxRecDepth 100000 in
theorem chk_35 : chkR 1753 50 = true := by decide +kernel
set_option maxRecDepth 100000 in
theorem chk_36 : chkR 1803 50 = true := by decide +kernel
set_option maxRecDepth 100000 in
theorem chk_37 : chkR 1853 50 = true := by decide +kernel
set_option maxRecDepth 100000 in
theorem chk_38 : chkR 1903 50 = true := by decide +kernel
set_option maxRecDepth 100000 in
theorem chk_39 : chkR 1953 48 = true := by decide +kernel
