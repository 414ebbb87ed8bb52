set_option maxRecDepth 100000 in
theorem zk89 : z_cok zT1 (z_cnt zL0) 20000 [] zm219 zc89 [] = true := by decide +kernel
set_option maxRecDepth 100000 in
theorem zk90 : z_cok zT1 (z_cnt zL0) 20000 [] zm220 zc90 [] = true := by decide +kernel
set_option maxRecDepth 100000 in
theorem zk91 : z_cok zT1 (z_cnt zL0) 20000 [] zm221 zc91 [] = true := by decide +kernel
set_option maxRecDepth 100000 in
theorem zk92 : z_cok zT1 (z_cnt zL0) 20000 [] zm222 zc92 [] = true := by decide +kernel
set_option maxRecDepth 100000 in
theorem zk93 : z_cok zT1 (z_cnt zL0) 20000 [] zm223 zc93 [] = true := by decide +kernel
set_option maxRecDepth 100000 in
theorem zk94 : z_cok zT1 (z_cnt zL0) 20000 [] zm224 zc94 [] = true := by decide +kernel
set_option maxRecDepth 100000 in
theorem zk95 : z_cok zT1 (z_cnt zL0) 20000 [] zm225 zc95 [] = true := by decide +kernel
set_option maxRecDepth 100000 in
theorem zk96 : z_cok zT1 (z_cnt zL0) 20000 [] zm226 zc96 [] = true := by decide +kernel
set_option maxRecDepth 100000 in
theorem zk97 : z_cok zT1 (z_cnt zL0) 20000 [] zm227 zc97 [] = true := by decide +kernel
set_option maxRecDepth 100000 in
theorem zk98 : z_cok zT1 (z_cnt zL0) 20000 [] zm228 zc98 [] = true := by decide +kernel
set_option maxRecDepth 100000 in
theorem zk99 : z_cok zT1 (z_cnt zL0) 20000 [] zm234 zc99 [] = true := by decide +kernel
set_option maxRecDepth 100000 in
theorem zk100 : z_cok zT1 (z_cnt zL0) 20000 [] zm238 zc100 [] = true := by decide +kernel
set_option maxRecDepth 100000 in
def zn101_0 : zNd := (15, (z_li [(0, 0), ((-2147483648), 2147483647), ((-2147483648), 2147483647), ((-2147483648), 2147483647), ((-2147483648), 2147483647), ((-2147483648), 2147483647), ((-2147483648), 2147483647), ((-2147483648), 2147483647), ((-2147483648), 2147483647), ((-2147483648), 2147483647), (0, 14), (0, 63), (0, 6)] (false, [], [], [])), [(0, (2, 0, 0)), (1, (0, 10, 0)), (2, (0, 11, 0)), (3, (0, 12, 0))], [], [], [(11, 1, 0, 2, 0), (12, 1, 0, 3, 0)], (6, [(12, (-1))]), none)
set_option maxRecDepth 100000 in
def znl101 : List zNd := [zn101_0]
set_option maxRecDepth 100000 in
theorem zk101_0 : z_ck0 zT1 (z_cnt zL0) 20000 [15] zm240 zc101 znl101 = true := by decide +kernel
set_option maxRecDepth 100000 in
theorem zk101_1 : z_ckn zT1 (z_cnt zL0) 20000 [15] zm240 zc101 znl101 [zn101_0] = true := by decide +kernel
set_option maxRecDepth 100000 in
theorem zk101 : z_cok zT1 (z_cnt zL0) 20000 [15] zm240 zc101 znl101 = true := z_cok_of zk101_0 (zk101_1)
set_option maxRecDepth 100000 in
def zn102_0 : zNd := (15, (z_li [(0, 0), ((-2147483648), 2147483647), ((-2147483648), 2147483647), ((-2147483648), 2147483647), ((-2147483648), 2147483647), ((-2147483648), 2147483647), ((-2147483648), 2147483647), ((-2147483648), 2147483647), ((-2147483648), 2147483647), ((-2147483648), 2147483647), (0, 5), (0, 214748390), (0, 15)] (false, [], [], [])), [(0, (2, 0, 0)), (1, (0, 10, 0)), (2, (0, 11, 0)), (3, (0, 12, 0))], [], [], [(11, 1, 0, 2, 0), (12, 1, 0, 3, 0)], (15, [(12, (-1))]), none)
set_option maxRecDepth 100000 in
def znl102 : List zNd := [zn102_0]
set_option maxRecDepth 100000 in
theorem zk102_0 : z_ck0 zT1 (z_cnt zL0) 20000 [15] zm258 zc102 znl102 = true := by decide +kernel
set_option maxRecDepth 100000 in
theorem zk102_1 : z_ckn zT1 (z_cnt zL0) 20000 [15] zm258 zc102 znl102 [zn102_0] = true := by decide +kernel
set_option maxRecDepth 100000 in
theorem zk102 : z_cok zT1 (z_cnt zL0) 20000 [15] zm258 zc102 znl102 = true := z_cok_of zk102_0 (zk102_1)
