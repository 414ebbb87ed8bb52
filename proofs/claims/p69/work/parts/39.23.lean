set_option maxRecDepth 100000 in
theorem zk362 : z_cok zT1 (z_cnt zL7) 20000 [] zm261 zc362 [] = true := by decide +kernel
