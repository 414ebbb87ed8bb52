set_option maxRecDepth 100000 in
theorem zk113 : z_cok zT1 (z_cnt zL0) 20000 [] zm346 zc113 [] = true := by decide +kernel
set_option maxRecDepth 100000 in
theorem zk114 : z_cok zT1 (z_cnt zL0) 20000 [] zm347 zc114 [] = true := by decide +kernel
set_option maxRecDepth 100000 in
theorem zk115 : z_cok zT1 (z_cnt zL0) 20000 [] zm349 zc115 [] = true := by decide +kernel
set_option maxRecDepth 100000 in
def zn116_0 : zNd := (52, (z_li [(0, 0), ((-2147483648), 2147483647), ((-2147483648), 2147483647), ((-2147483648), 2147483647), ((-2147483648), 2147483647), ((-2147483648), 2147483647), ((-2147483648), 2147483647), ((-2147483648), 2147483647), ((-2147483648), 2147483647), ((-2147483648), 2147483647), (0, 3), (0, 3), (0, 60), (0, 60)] (false, [], [], [])), [(0, (2, 155, 0)), (1, (0, 10, 0)), (4, (0, 13, 0))], [], [], [(13, 1, 0, 4, 0)], (60, [(13, (-1))]), none)
set_option maxRecDepth 100000 in
def znl116 : List zNd := [zn116_0]
set_option maxRecDepth 100000 in
theorem zk116_0 : z_ck0 zT1 (z_cnt zL0) 20000 [52] zm351 zc116 znl116 = true := by decide +kernel
set_option maxRecDepth 100000 in
theorem zk116_1 : z_ckn zT1 (z_cnt zL0) 20000 [52] zm351 zc116 znl116 [zn116_0] = true := by decide +kernel
set_option maxRecDepth 100000 in
theorem zk116 : z_cok zT1 (z_cnt zL0) 20000 [52] zm351 zc116 znl116 = true := z_cok_of zk116_0 (zk116_1)
set_option maxRecDepth 100000 in
theorem zk117 : z_cok zT1 (z_cnt zL0) 20000 [] zm352 zc117 [] = true := by decide +kernel
