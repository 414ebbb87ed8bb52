set_option maxRecDepth 100000 in
theorem zk163_0 : z_ck0 zT1 (z_cnt zL1) 20000 [10, 12] zm30 zc163 znl163 = true := by decide +kernel
set_option maxRecDepth 100000 in
theorem zk163_1 : z_ckn zT1 (z_cnt zL1) 20000 [10, 12] zm30 zc163 znl163 zg163_1 = true := by decide +kernel
set_option maxRecDepth 100000 in
theorem zk163_2 : z_ckn zT1 (z_cnt zL1) 20000 [10, 12] zm30 zc163 znl163 zg163_2 = true := by decide +kernel
set_option maxRecDepth 100000 in
theorem zk163_3 : z_ckn zT1 (z_cnt zL1) 20000 [10, 12] zm30 zc163 znl163 zg163_3 = true := by decide +kernel
theorem zk163 : z_cok zT1 (z_cnt zL1) 20000 [10, 12] zm30 zc163 znl163 = true := z_cok_of zk163_0 (z_ckn_app zk163_1 (z_ckn_app zk163_2 (zk163_3)))
