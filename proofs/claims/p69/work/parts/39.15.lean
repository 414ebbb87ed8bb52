set_option maxRecDepth 100000 in
theorem zk118 : z_cok zT1 (z_cnt zL0) 20000 [] zm354 zc118 [] = true := by decide +kernel
set_option maxRecDepth 100000 in
def zn119_0 : zNd := (113, (z_li [(0, 0), ((-2147483648), 2147483647), ((-2147483648), 2147483647), ((-2147483648), 2147483647), ((-2147483648), 2147483647), ((-2147483648), 2147483647), ((-2147483648), 2147483647), ((-2147483648), 2147483647), ((-2147483648), 2147483647), ((-2147483648), 2147483647), (0, 3), (0, 60), (0, 3), (0, 60), (0, 60), (0, 60)] (true, [(60, [(11, (-1)), (14, (-1))]), (60, [(13, (-1)), (14, (-1))])], [], [])), [(0, (2, 155, 0)), (1, (0, 10, 0)), (2, (0, 11, 0)), (3, (0, 12, 0)), (4, (0, 13, 0)), (5, (0, 14, 0)), (6, (0, 15, 0))], [], [], [(15, 1, 0, 6, 0)], (121, [(15, (-1))]), none)
set_option maxRecDepth 100000 in
def zn119_1 : zNd := (150, (z_li [(0, 0), ((-2147483648), 2147483647), ((-2147483648), 2147483647), ((-2147483648), 2147483647), ((-2147483648), 2147483647), ((-2147483648), 2147483647), ((-2147483648), 2147483647), ((-2147483648), 2147483647), ((-2147483648), 2147483647), ((-2147483648), 2147483647), (0, 3), (0, 60), (0, 3), (0, 60), (0, 60), (0, 60)] (true, [(60, [(11, (-1)), (14, (-1))]), (60, [(13, (-1)), (14, (-1))])], [], [])), [(0, (2, 155, 0)), (3, (0, 12, 0)), (4, (0, 13, 0)), (5, (0, 14, 0)), (6, (0, 15, 0))], [], [], [(15, 1, 0, 6, 0)], (60, [(15, (-1))]), none)
set_option maxRecDepth 100000 in
def znl119 : List zNd := [zn119_0, zn119_1]
set_option maxRecDepth 100000 in
theorem zk119_0 : z_ck0 zT1 (z_cnt zL0) 20000 [113, 150] zm355 zc119 znl119 = true := by decide +kernel
set_option maxRecDepth 100000 in
theorem zk119_1 : z_ckn zT1 (z_cnt zL0) 20000 [113, 150] zm355 zc119 znl119 [zn119_0, zn119_1] = true := by decide +kernel
set_option maxRecDepth 100000 in
theorem zk119 : z_cok zT1 (z_cnt zL0) 20000 [113, 150] zm355 zc119 znl119 = true := z_cok_of zk119_0 (zk119_1)
set_option maxRecDepth 100000 in
theorem zk120 : z_cok zT1 (z_cnt zL1) 20000 [] zm4 zc120 [] = true := by decide +kernel
set_option maxRecDepth 100000 in
theorem zk121 : z_cok zT1 (z_cnt zL1) 20000 [] zm11 zc121 [] = true := by decide +kernel
set_option maxRecDepth 100000 in
theorem zk122 : z_cok zT1 (z_cnt zL1) 20000 [] zm11 zc122 [] = true := by decide +kernel
set_option maxRecDepth 100000 in
theorem zk123 : z_cok zT1 (z_cnt zL1) 20000 [] zm11 zc123 [] = true := by decide +kernel
set_option maxRecDepth 100000 in
theorem zk124 : z_cok zT1 (z_cnt zL1) 20000 [] zm11 zc124 [] = true := by decide +kernel
set_option maxRecDepth 100000 in
theorem zk125 : z_cok zT1 (z_cnt zL1) 20000 [] zm11 zc125 [] = true := by decide +kernel
set_option maxRecDepth 100000 in
theorem zk126 : z_cok zT1 (z_cnt zL1) 20000 [] zm11 zc126 [] = true := by decide +kernel
set_option maxRecDepth 100000 in
theorem zk127 : z_cok zT1 (z_cnt zL1) 20000 [] zm11 zc127 [] = true := by decide +kernel
set_option maxRecDepth 100000 in
theorem zk128 : z_cok zT1 (z_cnt zL1) 20000 [] zm11 zc128 [] = true := by decide +kernel
set_option maxRecDepth 100000 in
theorem zk129 : z_cok zT1 (z_cnt zL1) 20000 [] zm11 zc129 [] = true := by decide +kernel
set_option maxRecDepth 100000 in
theorem zk130 : z_cok zT1 (z_cnt zL1) 20000 [] zm11 zc130 [] = true := by decide +kernel
set_option maxRecDepth 100000 in
theorem zk131 : z_cok zT1 (z_cnt zL1) 20000 [] zm11 zc131 [] = true := by decide +kernel
set_option maxRecDepth 100000 in
theorem zk132 : z_cok zT1 (z_cnt zL1) 20000 [] zm11 zc132 [] = true := by decide +kernel
set_option maxRecDepth 100000 in
theorem zk133 : z_cok zT1 (z_cnt zL1) 20000 [] zm11 zc133 [] = true := by decide +kernel
set_option maxRecDepth 100000 in
theorem zk134 : z_cok zT1 (z_cnt zL1) 20000 [] zm11 zc134 [] = true := by decide +kernel
