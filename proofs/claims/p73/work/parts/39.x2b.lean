set_option maxRecDepth 100000 in
theorem zk83_0 : z_ck0 zT1 (z_cnt zL0) 20000 [2, 23, 24] zm206 zc83 znl83 = true := by decide +kernel
set_option maxRecDepth 100000 in
theorem zk83_1 : z_ckn zT1 (z_cnt zL0) 20000 [2, 23, 24] zm206 zc83 znl83 zg83_1 = true := by decide +kernel
set_option maxRecDepth 100000 in
theorem zk83_2 : z_ckn zT1 (z_cnt zL0) 20000 [2, 23, 24] zm206 zc83 znl83 zg83_2 = true := by decide +kernel
set_option maxRecDepth 100000 in
theorem zk83_3 : z_ckn zT1 (z_cnt zL0) 20000 [2, 23, 24] zm206 zc83 znl83 zg83_3 = true := by decide +kernel
set_option maxRecDepth 100000 in
theorem zk83_4 : z_ckn zT1 (z_cnt zL0) 20000 [2, 23, 24] zm206 zc83 znl83 zg83_4 = true := by decide +kernel
set_option maxRecDepth 100000 in
theorem zk83_5 : z_ckn zT1 (z_cnt zL0) 20000 [2, 23, 24] zm206 zc83 znl83 zg83_5 = true := by decide +kernel
set_option maxRecDepth 100000 in
theorem zk83_6 : z_ckn zT1 (z_cnt zL0) 20000 [2, 23, 24] zm206 zc83 znl83 zg83_6 = true := by decide +kernel
set_option maxRecDepth 100000 in
theorem zk83_7 : z_ckn zT1 (z_cnt zL0) 20000 [2, 23, 24] zm206 zc83 znl83 zg83_7 = true := by decide +kernel
set_option maxRecDepth 100000 in
theorem zk83_8 : z_ckn zT1 (z_cnt zL0) 20000 [2, 23, 24] zm206 zc83 znl83 zg83_8 = true := by decide +kernel
set_option maxRecDepth 100000 in
theorem zk83_9 : z_ckn zT1 (z_cnt zL0) 20000 [2, 23, 24] zm206 zc83 znl83 zg83_9 = true := by decide +kernel
set_option maxRecDepth 100000 in
theorem zk83_10 : z_ckn zT1 (z_cnt zL0) 20000 [2, 23, 24] zm206 zc83 znl83 zg83_10 = true := by decide +kernel
set_option maxRecDepth 100000 in
theorem zk83_11 : z_ckn zT1 (z_cnt zL0) 20000 [2, 23, 24] zm206 zc83 znl83 zg83_11 = true := by decide +kernel
set_option maxRecDepth 100000 in
theorem zk83_12 : z_ckn zT1 (z_cnt zL0) 20000 [2, 23, 24] zm206 zc83 znl83 zg83_12 = true := by decide +kernel
set_option maxRecDepth 100000 in
theorem zk83_13 : z_ckn zT1 (z_cnt zL0) 20000 [2, 23, 24] zm206 zc83 znl83 zg83_13 = true := by decide +kernel
set_option maxRecDepth 100000 in
theorem zk83_14 : z_ckn zT1 (z_cnt zL0) 20000 [2, 23, 24] zm206 zc83 znl83 zg83_14 = true := by decide +kernel
set_option maxRecDepth 100000 in
theorem zk83_15 : z_ckn zT1 (z_cnt zL0) 20000 [2, 23, 24] zm206 zc83 znl83 zg83_15 = true := by decide +kernel
set_option maxRecDepth 100000 in
theorem zk83_16 : z_ckn zT1 (z_cnt zL0) 20000 [2, 23, 24] zm206 zc83 znl83 zg83_16 = true := by decide +kernel
set_option maxRecDepth 100000 in
theorem zk83_17 : z_ckn zT1 (z_cnt zL0) 20000 [2, 23, 24] zm206 zc83 znl83 zg83_17 = true := by decide +kernel
set_option maxRecDepth 100000 in
theorem zk83_18 : z_ckn zT1 (z_cnt zL0) 20000 [2, 23, 24] zm206 zc83 znl83 zg83_18 = true := by decide +kernel
set_option maxRecDepth 100000 in
theorem zk83_19 : z_ckn zT1 (z_cnt zL0) 20000 [2, 23, 24] zm206 zc83 znl83 zg83_19 = true := by decide +kernel
set_option maxRecDepth 100000 in
theorem zk83_20 : z_ckn zT1 (z_cnt zL0) 20000 [2, 23, 24] zm206 zc83 znl83 zg83_20 = true := by decide +kernel
set_option maxRecDepth 100000 in
theorem zk83_21 : z_ckn zT1 (z_cnt zL0) 20000 [2, 23, 24] zm206 zc83 znl83 zg83_21 = true := by decide +kernel
set_option maxRecDepth 100000 in
theorem zk83_22 : z_ckn zT1 (z_cnt zL0) 20000 [2, 23, 24] zm206 zc83 znl83 zg83_22 = true := by decide +kernel
set_option maxRecDepth 100000 in
theorem zk83_23 : z_ckn zT1 (z_cnt zL0) 20000 [2, 23, 24] zm206 zc83 znl83 zg83_23 = true := by decide +kernel
set_option maxRecDepth 100000 in
theorem zk83_24 : z_ckn zT1 (z_cnt zL0) 20000 [2, 23, 24] zm206 zc83 znl83 zg83_24 = true := by decide +kernel
set_option maxRecDepth 100000 in
theorem zk83_25 : z_ckn zT1 (z_cnt zL0) 20000 [2, 23, 24] zm206 zc83 znl83 zg83_25 = true := by decide +kernel
set_option maxRecDepth 100000 in
theorem zk83_26 : z_ckn zT1 (z_cnt zL0) 20000 [2, 23, 24] zm206 zc83 znl83 zg83_26 = true := by decide +kernel
set_option maxRecDepth 100000 in
theorem zk83_27 : z_ckn zT1 (z_cnt zL0) 20000 [2, 23, 24] zm206 zc83 znl83 zg83_27 = true := by decide +kernel
set_option maxRecDepth 100000 in
theorem zk83_28 : z_ckn zT1 (z_cnt zL0) 20000 [2, 23, 24] zm206 zc83 znl83 zg83_28 = true := by decide +kernel
set_option maxRecDepth 100000 in
theorem zk83_29 : z_ckn zT1 (z_cnt zL0) 20000 [2, 23, 24] zm206 zc83 znl83 zg83_29 = true := by decide +kernel
