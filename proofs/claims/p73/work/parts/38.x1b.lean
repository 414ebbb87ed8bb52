set_option maxRecDepth 100000 in
theorem zk82_0 : z_ck0 zT1 (z_cnt zL0) 20000 [2, 20, 21] zm205 zc82 znl82 = true := by decide +kernel
set_option maxRecDepth 100000 in
theorem zk82_1 : z_ckn zT1 (z_cnt zL0) 20000 [2, 20, 21] zm205 zc82 znl82 zg82_1 = true := by decide +kernel
set_option maxRecDepth 100000 in
theorem zk82_2 : z_ckn zT1 (z_cnt zL0) 20000 [2, 20, 21] zm205 zc82 znl82 zg82_2 = true := by decide +kernel
set_option maxRecDepth 100000 in
theorem zk82_3 : z_ckn zT1 (z_cnt zL0) 20000 [2, 20, 21] zm205 zc82 znl82 zg82_3 = true := by decide +kernel
set_option maxRecDepth 100000 in
theorem zk82_4 : z_ckn zT1 (z_cnt zL0) 20000 [2, 20, 21] zm205 zc82 znl82 zg82_4 = true := by decide +kernel
set_option maxRecDepth 100000 in
theorem zk82_5 : z_ckn zT1 (z_cnt zL0) 20000 [2, 20, 21] zm205 zc82 znl82 zg82_5 = true := by decide +kernel
set_option maxRecDepth 100000 in
theorem zk82_6 : z_ckn zT1 (z_cnt zL0) 20000 [2, 20, 21] zm205 zc82 znl82 zg82_6 = true := by decide +kernel
set_option maxRecDepth 100000 in
theorem zk82_7 : z_ckn zT1 (z_cnt zL0) 20000 [2, 20, 21] zm205 zc82 znl82 zg82_7 = true := by decide +kernel
set_option maxRecDepth 100000 in
theorem zk82_8 : z_ckn zT1 (z_cnt zL0) 20000 [2, 20, 21] zm205 zc82 znl82 zg82_8 = true := by decide +kernel
set_option maxRecDepth 100000 in
theorem zk82_9 : z_ckn zT1 (z_cnt zL0) 20000 [2, 20, 21] zm205 zc82 znl82 zg82_9 = true := by decide +kernel
set_option maxRecDepth 100000 in
theorem zk82_10 : z_ckn zT1 (z_cnt zL0) 20000 [2, 20, 21] zm205 zc82 znl82 zg82_10 = true := by decide +kernel
set_option maxRecDepth 100000 in
theorem zk82_11 : z_ckn zT1 (z_cnt zL0) 20000 [2, 20, 21] zm205 zc82 znl82 zg82_11 = true := by decide +kernel
set_option maxRecDepth 100000 in
theorem zk82_12 : z_ckn zT1 (z_cnt zL0) 20000 [2, 20, 21] zm205 zc82 znl82 zg82_12 = true := by decide +kernel
set_option maxRecDepth 100000 in
theorem zk82_13 : z_ckn zT1 (z_cnt zL0) 20000 [2, 20, 21] zm205 zc82 znl82 zg82_13 = true := by decide +kernel
set_option maxRecDepth 100000 in
theorem zk82_14 : z_ckn zT1 (z_cnt zL0) 20000 [2, 20, 21] zm205 zc82 znl82 zg82_14 = true := by decide +kernel
set_option maxRecDepth 100000 in
theorem zk82_15 : z_ckn zT1 (z_cnt zL0) 20000 [2, 20, 21] zm205 zc82 znl82 zg82_15 = true := by decide +kernel
set_option maxRecDepth 100000 in
theorem zk82_16 : z_ckn zT1 (z_cnt zL0) 20000 [2, 20, 21] zm205 zc82 znl82 zg82_16 = true := by decide +kernel
set_option maxRecDepth 100000 in
theorem zk82_17 : z_ckn zT1 (z_cnt zL0) 20000 [2, 20, 21] zm205 zc82 znl82 zg82_17 = true := by decide +kernel
set_option maxRecDepth 100000 in
theorem zk82_18 : z_ckn zT1 (z_cnt zL0) 20000 [2, 20, 21] zm205 zc82 znl82 zg82_18 = true := by decide +kernel
set_option maxRecDepth 100000 in
theorem zk82_19 : z_ckn zT1 (z_cnt zL0) 20000 [2, 20, 21] zm205 zc82 znl82 zg82_19 = true := by decide +kernel
set_option maxRecDepth 100000 in
theorem zk82_20 : z_ckn zT1 (z_cnt zL0) 20000 [2, 20, 21] zm205 zc82 znl82 zg82_20 = true := by decide +kernel
set_option maxRecDepth 100000 in
theorem zk82_21 : z_ckn zT1 (z_cnt zL0) 20000 [2, 20, 21] zm205 zc82 znl82 zg82_21 = true := by decide +kernel
set_option maxRecDepth 100000 in
theorem zk82_22 : z_ckn zT1 (z_cnt zL0) 20000 [2, 20, 21] zm205 zc82 znl82 zg82_22 = true := by decide +kernel
set_option maxRecDepth 100000 in
theorem zk82_23 : z_ckn zT1 (z_cnt zL0) 20000 [2, 20, 21] zm205 zc82 znl82 zg82_23 = true := by decide +kernel
set_option maxRecDepth 100000 in
theorem zk82_24 : z_ckn zT1 (z_cnt zL0) 20000 [2, 20, 21] zm205 zc82 znl82 zg82_24 = true := by decide +kernel
set_option maxRecDepth 100000 in
theorem zk82_25 : z_ckn zT1 (z_cnt zL0) 20000 [2, 20, 21] zm205 zc82 znl82 zg82_25 = true := by decide +kernel
set_option maxRecDepth 100000 in
theorem zk82_26 : z_ckn zT1 (z_cnt zL0) 20000 [2, 20, 21] zm205 zc82 znl82 zg82_26 = true := by decide +kernel
set_option maxRecDepth 100000 in
theorem zk82_27 : z_ckn zT1 (z_cnt zL0) 20000 [2, 20, 21] zm205 zc82 znl82 zg82_27 = true := by decide +kernel
set_option maxRecDepth 100000 in
theorem zk82_28 : z_ckn zT1 (z_cnt zL0) 20000 [2, 20, 21] zm205 zc82 znl82 zg82_28 = true := by decide +kernel
theorem zk82 : z_cok zT1 (z_cnt zL0) 20000 [2, 20, 21] zm205 zc82 znl82 = true := z_cok_of zk82_0 (z_ckn_app zk82_1 (z_ckn_app zk82_2 (z_ckn_app zk82_3 (z_ckn_app zk82_4 (z_ckn_app zk82_5 (z_ckn_app zk82_6 (z_ckn_app zk82_7 (z_ckn_app zk82_8 (z_ckn_app zk82_9 (z_ckn_app zk82_10 (z_ckn_app zk82_11 (z_ckn_app zk82_12 (z_ckn_app zk82_13 (z_ckn_app zk82_14 (z_ckn_app zk82_15 (z_ckn_app zk82_16 (z_ckn_app zk82_17 (z_ckn_app zk82_18 (z_ckn_app zk82_19 (z_ckn_app zk82_20 (z_ckn_app zk82_21 (z_ckn_app zk82_22 (z_ckn_app zk82_23 (z_ckn_app zk82_24 (z_ckn_app zk82_25 (z_ckn_app zk82_26 (z_ckn_app zk82_27 (zk82_28))))))))))))))))))))))))))))
