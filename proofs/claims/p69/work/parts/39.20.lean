set_option maxRecDepth 100000 in
theorem zk292 : z_cok zT1 (z_cnt zL4) 20000 [] zm55 zc292 [] = true := by decide +kernel
