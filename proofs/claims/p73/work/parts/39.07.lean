set_option maxRecDepth 100000 in
theorem zk120 : z_cok zT1 (z_cnt zL1) 20000 [] zm4 zc120 [] = true := by decide +kernel
set_option maxRecDepth 100000 in
theorem zk121 : z_cok zT1 (z_cnt zL1) 20000 [] zm10 zc121 [] = true := by decide +kernel
set_option maxRecDepth 100000 in
theorem zk122 : z_cok zT1 (z_cnt zL1) 20000 [] zm10 zc122 [] = true := by decide +kernel
set_option maxRecDepth 100000 in
theorem zk123 : z_cok zT1 (z_cnt zL1) 20000 [] zm10 zc123 [] = true := by decide +kernel
set_option maxRecDepth 100000 in
theorem zk124 : z_cok zT1 (z_cnt zL1) 20000 [] zm10 zc124 [] = true := by decide +kernel
set_option maxRecDepth 100000 in
theorem zk125 : z_cok zT1 (z_cnt zL1) 20000 [] zm10 zc125 [] = true := by decide +kernel
set_option maxRecDepth 100000 in
theorem zk126 : z_cok zT1 (z_cnt zL1) 20000 [] zm10 zc126 [] = true := by decide +kernel
set_option maxRecDepth 100000 in
theorem zk127 : z_cok zT1 (z_cnt zL1) 20000 [] zm10 zc127 [] = true := by decide +kernel
set_option maxRecDepth 100000 in
theorem zk128 : z_cok zT1 (z_cnt zL1) 20000 [] zm10 zc128 [] = true := by decide +kernel
set_option maxRecDepth 100000 in
theorem zk129 : z_cok zT1 (z_cnt zL1) 20000 [] zm10 zc129 [] = true := by decide +kernel
set_option maxRecDepth 100000 in
theorem zk130 : z_cok zT1 (z_cnt zL1) 20000 [] zm10 zc130 [] = true := by decide +kernel
set_option maxRecDepth 100000 in
theorem zk131 : z_cok zT1 (z_cnt zL1) 20000 [] zm10 zc131 [] = true := by decide +kernel
set_option maxRecDepth 100000 in
theorem zk132 : z_cok zT1 (z_cnt zL1) 20000 [] zm10 zc132 [] = true := by decide +kernel
set_option maxRecDepth 100000 in
theorem zk133 : z_cok zT1 (z_cnt zL1) 20000 [] zm10 zc133 [] = true := by decide +kernel
set_option maxRecDepth 100000 in
theorem zk134 : z_cok zT1 (z_cnt zL1) 20000 [] zm10 zc134 [] = true := by decide +kernel
set_option maxRecDepth 100000 in
theorem zk135 : z_cok zT1 (z_cnt zL1) 20000 [] zm10 zc135 [] = true := by decide +kernel
set_option maxRecDepth 100000 in
theorem zk136 : z_cok zT1 (z_cnt zL1) 20000 [] zm10 zc136 [] = true := by decide +kernel
set_option maxRecDepth 100000 in
theorem zk137 : z_cok zT1 (z_cnt zL1) 20000 [] zm10 zc137 [] = true := by decide +kernel
set_option maxRecDepth 100000 in
theorem zk138 : z_cok zT1 (z_cnt zL1) 20000 [] zm10 zc138 [] = true := by decide +kernel
set_option maxRecDepth 100000 in
theorem zk139 : z_cok zT1 (z_cnt zL1) 20000 [] zm10 zc139 [] = true := by decide +kernel
set_option maxRecDepth 100000 in
theorem zk140 : z_cok zT1 (z_cnt zL1) 20000 [] zm10 zc140 [] = true := by decide +kernel
