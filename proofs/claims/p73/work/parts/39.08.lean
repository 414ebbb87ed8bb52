set_option maxRecDepth 100000 in
theorem zk91 : z_cok zT1 (z_cnt zL0) 20000 [] zm218 zc91 [] = true := by decide +kernel
set_option maxRecDepth 100000 in
theorem zk92 : z_cok zT1 (z_cnt zL0) 20000 [] zm219 zc92 [] = true := by decide +kernel
set_option maxRecDepth 100000 in
def zn93_0 : zNd := (42, (z_li [(.ofNat 0, .ofNat 0), (.negSucc 2147483647, .ofNat 2147483647), (.negSucc 2147483647, .ofNat 2147483647), (.negSucc 2147483647, .ofNat 2147483647), (.negSucc 2147483647, .ofNat 2147483647), (.negSucc 2147483647, .ofNat 2147483647), (.negSucc 2147483647, .ofNat 2147483647), (.negSucc 2147483647, .ofNat 2147483647), (.negSucc 2147483647, .ofNat 2147483647), (.negSucc 2147483647, .ofNat 2147483647), (.ofNat 12, .ofNat 12), (.ofNat 0, .ofNat 9), (.ofNat 0, .ofNat 6), (.negSucc 2147483647, .ofNat 2147483647), (.ofNat 0, .ofNat 4)] (true, [(.ofNat 0, [(12, .negSucc 0), (11, .ofNat 3)])], [], [])), [(0, (2, 155, .ofNat 0)), (2, (0, 13, .ofNat 0)), (3, (0, 14, .ofNat 0))], [], [(156, 3, 1, (0, 11, .ofNat 0)), (156, 7, 1, (0, 12, .ofNat 0))], [(13, 1, 0, 2, 0), (14, 1, 0, 3, 0)], (.ofNat 4, [(14, .negSucc 0)]), none)
def zg93_1 : List zNd := [zn93_0]
def znl93 : List zNd := zg93_1
set_option maxRecDepth 100000 in
theorem zk93_0 : z_ck0 zT1 (z_cnt zL0) 20000 [42] zm221 zc93 znl93 = true := by decide +kernel
set_option maxRecDepth 100000 in
theorem zk93_1 : z_ckn zT1 (z_cnt zL0) 20000 [42] zm221 zc93 znl93 zg93_1 = true := by decide +kernel
theorem zk93 : z_cok zT1 (z_cnt zL0) 20000 [42] zm221 zc93 znl93 = true := z_cok_of zk93_0 (zk93_1)
set_option maxRecDepth 100000 in
theorem zk94 : z_cok zT1 (z_cnt zL0) 20000 [] zm223 zc94 [] = true := by decide +kernel
set_option maxRecDepth 100000 in
theorem zk95 : z_cok zT1 (z_cnt zL0) 20000 [] zm229 zc95 [] = true := by decide +kernel
set_option maxRecDepth 100000 in
theorem zk96 : z_cok zT1 (z_cnt zL0) 20000 [] zm231 zc96 [] = true := by decide +kernel
set_option maxRecDepth 100000 in
theorem zk97 : z_cok zT1 (z_cnt zL0) 20000 [] zm282 zc97 [] = true := by decide +kernel
set_option maxRecDepth 100000 in
def zn98_0 : zNd := (23, (z_li [(.ofNat 0, .ofNat 0), (.negSucc 2147483647, .ofNat 2147483647), (.negSucc 2147483647, .ofNat 2147483647), (.negSucc 2147483647, .ofNat 2147483647), (.negSucc 2147483647, .ofNat 2147483647), (.negSucc 2147483647, .ofNat 2147483647), (.negSucc 2147483647, .ofNat 2147483647), (.negSucc 2147483647, .ofNat 2147483647), (.negSucc 2147483647, .ofNat 2147483647), (.negSucc 2147483647, .ofNat 2147483647), (.ofNat 0, .ofNat 13), (.ofNat 0, .ofNat 2147483647), (.ofNat 0, .ofNat 39)] (false, [], [], [])), [(0, (2, 0, .ofNat 0)), (1, (0, 10, .ofNat 0)), (2, (0, 11, .ofNat 0)), (3, (0, 12, .ofNat 0))], [], [], [(11, 1, 0, 2, 0), (12, 1, 0, 3, 0)], (.ofNat 39, [(12, .negSucc 0)]), none)
def zg98_1 : List zNd := [zn98_0]
def znl98 : List zNd := zg98_1
set_option maxRecDepth 100000 in
theorem zk98_0 : z_ck0 zT1 (z_cnt zL0) 20000 [23] zm286 zc98 znl98 = true := by decide +kernel
set_option maxRecDepth 100000 in
theorem zk98_1 : z_ckn zT1 (z_cnt zL0) 20000 [23] zm286 zc98 znl98 zg98_1 = true := by decide +kernel
theorem zk98 : z_cok zT1 (z_cnt zL0) 20000 [23] zm286 zc98 znl98 = true := z_cok_of zk98_0 (zk98_1)
set_option maxRecDepth 100000 in
def zn99_0 : zNd := (32, (z_li [(.ofNat 0, .ofNat 0), (.negSucc 2147483647, .ofNat 2147483647), (.negSucc 2147483647, .ofNat 2147483647), (.negSucc 2147483647, .ofNat 2147483647), (.negSucc 2147483647, .ofNat 2147483647), (.negSucc 2147483647, .ofNat 2147483647), (.negSucc 2147483647, .ofNat 2147483647), (.negSucc 2147483647, .ofNat 2147483647), (.negSucc 2147483647, .ofNat 2147483647), (.negSucc 2147483647, .ofNat 2147483647), (.ofNat 0, .ofNat 5), (.ofNat 0, .ofNat 14), (.negSucc 2147483647, .ofNat 2147483647), (.ofNat 0, .ofNat 15), (.ofNat 0, .ofNat 4)] (false, [], [], [])), [(0, (2, 0, .ofNat 0)), (3, (0, 12, .ofNat 0)), (4, (0, 13, .ofNat 0)), (5, (0, 14, .ofNat 0))], [], [], [(12, 1, 0, 3, 0), (13, 1, 0, 4, 0), (14, 1, 0, 5, 0)], (.ofNat 4, [(14, .negSucc 0)]), none)
def zg99_1 : List zNd := [zn99_0]
def znl99 : List zNd := zg99_1
set_option maxRecDepth 100000 in
theorem zk99_0 : z_ck0 zT1 (z_cnt zL0) 20000 [32] zm292 zc99 znl99 = true := by decide +kernel
set_option maxRecDepth 100000 in
theorem zk99_1 : z_ckn zT1 (z_cnt zL0) 20000 [32] zm292 zc99 znl99 zg99_1 = true := by decide +kernel
theorem zk99 : z_cok zT1 (z_cnt zL0) 20000 [32] zm292 zc99 znl99 = true := z_cok_of zk99_0 (zk99_1)
set_option maxRecDepth 100000 in
def zn100_0 : zNd := (15, (z_li [(.ofNat 0, .ofNat 0), (.negSucc 2147483647, .ofNat 2147483647), (.negSucc 2147483647, .ofNat 2147483647), (.negSucc 2147483647, .ofNat 2147483647), (.negSucc 2147483647, .ofNat 2147483647), (.negSucc 2147483647, .ofNat 2147483647), (.negSucc 2147483647, .ofNat 2147483647), (.negSucc 2147483647, .ofNat 2147483647), (.negSucc 2147483647, .ofNat 2147483647), (.negSucc 2147483647, .ofNat 2147483647), (.ofNat 0, .ofNat 14), (.ofNat 0, .ofNat 63), (.ofNat 0, .ofNat 6)] (false, [], [], [])), [(0, (2, 0, .ofNat 0)), (1, (0, 10, .ofNat 0)), (2, (0, 11, .ofNat 0)), (3, (0, 12, .ofNat 0))], [], [], [(11, 1, 0, 2, 0), (12, 1, 0, 3, 0)], (.ofNat 6, [(12, .negSucc 0)]), none)
def zg100_1 : List zNd := [zn100_0]
def znl100 : List zNd := zg100_1
set_option maxRecDepth 100000 in
theorem zk100_0 : z_ck0 zT1 (z_cnt zL0) 20000 [15] zm298 zc100 znl100 = true := by decide +kernel
set_option maxRecDepth 100000 in
theorem zk100_1 : z_ckn zT1 (z_cnt zL0) 20000 [15] zm298 zc100 znl100 zg100_1 = true := by decide +kernel
theorem zk100 : z_cok zT1 (z_cnt zL0) 20000 [15] zm298 zc100 znl100 = true := z_cok_of zk100_0 (zk100_1)
set_option maxRecDepth 100000 in
def zn101_0 : zNd := (21, (z_li [(.ofNat 0, .ofNat 0), (.negSucc 2147483647, .ofNat 2147483647), (.negSucc 2147483647, .ofNat 2147483647), (.negSucc 2147483647, .ofNat 2147483647), (.negSucc 2147483647, .ofNat 2147483647), (.negSucc 2147483647, .ofNat 2147483647), (.negSucc 2147483647, .ofNat 2147483647), (.negSucc 2147483647, .ofNat 2147483647), (.negSucc 2147483647, .ofNat 2147483647), (.negSucc 2147483647, .ofNat 2147483647), (.ofNat 0, .ofNat 5), (.ofNat 0, .ofNat 5), (.ofNat 0, .ofNat 15)] (false, [], [], [])), [(0, (2, 0, .ofNat 0)), (1, (0, 10, .ofNat 0)), (2, (0, 11, .ofNat 0)), (3, (0, 12, .ofNat 0))], [], [], [(12, 1, 0, 3, 0)], (.ofNat 15, [(12, .negSucc 0)]), none)
def zg101_1 : List zNd := [zn101_0]
def znl101 : List zNd := zg101_1
set_option maxRecDepth 100000 in
theorem zk101_0 : z_ck0 zT1 (z_cnt zL0) 20000 [21] zm302 zc101 znl101 = true := by decide +kernel
set_option maxRecDepth 100000 in
theorem zk101_1 : z_ckn zT1 (z_cnt zL0) 20000 [21] zm302 zc101 znl101 zg101_1 = true := by decide +kernel
theorem zk101 : z_cok zT1 (z_cnt zL0) 20000 [21] zm302 zc101 znl101 = true := z_cok_of zk101_0 (zk101_1)
set_option maxRecDepth 100000 in
def zn102_0 : zNd := (27, (z_li [(.ofNat 0, .ofNat 0), (.negSucc 2147483647, .ofNat 2147483647), (.negSucc 2147483647, .ofNat 2147483647), (.negSucc 2147483647, .ofNat 2147483647), (.negSucc 2147483647, .ofNat 2147483647), (.negSucc 2147483647, .ofNat 2147483647), (.negSucc 2147483647, .ofNat 2147483647), (.negSucc 2147483647, .ofNat 2147483647), (.negSucc 2147483647, .ofNat 2147483647), (.negSucc 2147483647, .ofNat 2147483647), (.ofNat 0, .ofNat 5), (.ofNat 0, .ofNat 5), (.ofNat 0, .ofNat 14)] (false, [], [], [])), [(0, (2, 0, .ofNat 0)), (1, (0, 10, .ofNat 0)), (2, (0, 11, .ofNat 0)), (3, (0, 12, .ofNat 0))], [], [], [], (.ofNat 3, []), none)
set_option maxRecDepth 100000 in
def zn102_1 : zNd := (35, (z_li [(.ofNat 0, .ofNat 0), (.negSucc 2147483647, .ofNat 2147483647), (.negSucc 2147483647, .ofNat 2147483647), (.negSucc 2147483647, .ofNat 2147483647), (.negSucc 2147483647, .ofNat 2147483647), (.negSucc 2147483647, .ofNat 2147483647), (.negSucc 2147483647, .ofNat 2147483647), (.negSucc 2147483647, .ofNat 2147483647), (.negSucc 2147483647, .ofNat 2147483647), (.negSucc 2147483647, .ofNat 2147483647), (.ofNat 0, .ofNat 5), (.ofNat 0, .ofNat 5), (.ofNat 0, .ofNat 14), (.negSucc 2147483647, .ofNat 2147483647)] (false, [], [], [])), [(0, (2, 0, .ofNat 0)), (2, (0, 11, .ofNat 0)), (3, (0, 12, .ofNat 0)), (4, (0, 13, .ofNat 0))], [], [], [(13, 1, 0, 4, 0)], (.ofNat 2, []), none)
set_option maxRecDepth 100000 in
def zn102_2 : zNd := (43, (z_li [(.ofNat 0, .ofNat 0), (.negSucc 2147483647, .ofNat 2147483647), (.negSucc 2147483647, .ofNat 2147483647), (.negSucc 2147483647, .ofNat 2147483647), (.negSucc 2147483647, .ofNat 2147483647), (.negSucc 2147483647, .ofNat 2147483647), (.negSucc 2147483647, .ofNat 2147483647), (.negSucc 2147483647, .ofNat 2147483647), (.negSucc 2147483647, .ofNat 2147483647), (.negSucc 2147483647, .ofNat 2147483647), (.ofNat 0, .ofNat 5), (.ofNat 0, .ofNat 5), (.ofNat 0, .ofNat 14), (.negSucc 2147483647, .ofNat 2147483647), (.negSucc 2147483647, .ofNat 2147483647)] (false, [], [], [])), [(4, (0, 13, .ofNat 0)), (5, (0, 14, .ofNat 0))], [], [], [(13, 1, 0, 4, 0), (14, 1, 0, 5, 0)], (.ofNat 1, []), none)
set_option maxRecDepth 100000 in
def zn102_3 : zNd := (59, (z_li [(.ofNat 0, .ofNat 0), (.negSucc 2147483647, .ofNat 2147483647), (.negSucc 2147483647, .ofNat 2147483647), (.negSucc 2147483647, .ofNat 2147483647), (.negSucc 2147483647, .ofNat 2147483647), (.negSucc 2147483647, .ofNat 2147483647), (.negSucc 2147483647, .ofNat 2147483647), (.negSucc 2147483647, .ofNat 2147483647), (.negSucc 2147483647, .ofNat 2147483647), (.negSucc 2147483647, .ofNat 2147483647), (.ofNat 0, .ofNat 5), (.ofNat 0, .ofNat 5), (.ofNat 0, .ofNat 14), (.negSucc 2147483647, .ofNat 2147483647), (.negSucc 2147483647, .ofNat 2147483647)] (false, [], [], [])), [(4, (0, 13, .ofNat 0)), (5, (0, 14, .ofNat 0))], [], [], [(13, 1, 0, 4, 0), (14, 1, 0, 5, 0)], (.ofNat 0, []), none)
def zg102_1 : List zNd := [zn102_0, zn102_1, zn102_2, zn102_3]
def znl102 : List zNd := zg102_1
set_option maxRecDepth 100000 in
theorem zk102_0 : z_ck0 zT1 (z_cnt zL0) 20000 [27, 35, 43, 59] zm304 zc102 znl102 = true := by decide +kernel
set_option maxRecDepth 100000 in
theorem zk102_1 : z_ckn zT1 (z_cnt zL0) 20000 [27, 35, 43, 59] zm304 zc102 znl102 zg102_1 = true := by decide +kernel
theorem zk102 : z_cok zT1 (z_cnt zL0) 20000 [27, 35, 43, 59] zm304 zc102 znl102 = true := z_cok_of zk102_0 (zk102_1)
set_option maxRecDepth 100000 in
def zn103_0 : zNd := (15, (z_li [(.ofNat 0, .ofNat 0), (.negSucc 2147483647, .ofNat 2147483647), (.negSucc 2147483647, .ofNat 2147483647), (.negSucc 2147483647, .ofNat 2147483647), (.negSucc 2147483647, .ofNat 2147483647), (.negSucc 2147483647, .ofNat 2147483647), (.negSucc 2147483647, .ofNat 2147483647), (.negSucc 2147483647, .ofNat 2147483647), (.negSucc 2147483647, .ofNat 2147483647), (.negSucc 2147483647, .ofNat 2147483647), (.ofNat 0, .ofNat 5), (.ofNat 0, .ofNat 214748390), (.ofNat 0, .ofNat 15)] (false, [], [], [])), [(0, (2, 0, .ofNat 0)), (1, (0, 10, .ofNat 0)), (2, (0, 11, .ofNat 0)), (3, (0, 12, .ofNat 0))], [], [], [(11, 1, 0, 2, 0), (12, 1, 0, 3, 0)], (.ofNat 15, [(12, .negSucc 0)]), none)
def zg103_1 : List zNd := [zn103_0]
def znl103 : List zNd := zg103_1
set_option maxRecDepth 100000 in
theorem zk103_0 : z_ck0 zT1 (z_cnt zL0) 20000 [15] zm306 zc103 znl103 = true := by decide +kernel
set_option maxRecDepth 100000 in
theorem zk103_1 : z_ckn zT1 (z_cnt zL0) 20000 [15] zm306 zc103 znl103 zg103_1 = true := by decide +kernel
theorem zk103 : z_cok zT1 (z_cnt zL0) 20000 [15] zm306 zc103 znl103 = true := z_cok_of zk103_0 (zk103_1)
set_option maxRecDepth 100000 in
def zn104_0 : zNd := (15, (z_li [(.ofNat 0, .ofNat 0), (.negSucc 2147483647, .ofNat 2147483647), (.negSucc 2147483647, .ofNat 2147483647), (.negSucc 2147483647, .ofNat 2147483647), (.negSucc 2147483647, .ofNat 2147483647), (.negSucc 2147483647, .ofNat 2147483647), (.negSucc 2147483647, .ofNat 2147483647), (.negSucc 2147483647, .ofNat 2147483647), (.negSucc 2147483647, .ofNat 2147483647), (.negSucc 2147483647, .ofNat 2147483647), (.ofNat 0, .ofNat 14), (.ofNat 0, .ofNat 63), (.ofNat 0, .ofNat 6)] (false, [], [], [])), [(0, (2, 0, .ofNat 0)), (1, (0, 10, .ofNat 0)), (2, (0, 11, .ofNat 0)), (3, (0, 12, .ofNat 0))], [], [], [(11, 1, 0, 2, 0), (12, 1, 0, 3, 0)], (.ofNat 6, [(12, .negSucc 0)]), none)
def zg104_1 : List zNd := [zn104_0]
def znl104 : List zNd := zg104_1
set_option maxRecDepth 100000 in
theorem zk104_0 : z_ck0 zT1 (z_cnt zL0) 20000 [15] zm324 zc104 znl104 = true := by decide +kernel
set_option maxRecDepth 100000 in
theorem zk104_1 : z_ckn zT1 (z_cnt zL0) 20000 [15] zm324 zc104 znl104 zg104_1 = true := by decide +kernel
theorem zk104 : z_cok zT1 (z_cnt zL0) 20000 [15] zm324 zc104 znl104 = true := z_cok_of zk104_0 (zk104_1)
set_option maxRecDepth 100000 in
theorem zk105 : z_cok zT1 (z_cnt zL0) 20000 [] zm326 zc105 [] = true := by decide +kernel
set_option maxRecDepth 100000 in
theorem zk106 : z_cok zT1 (z_cnt zL0) 20000 [] zm330 zc106 [] = true := by decide +kernel
set_option maxRecDepth 100000 in
theorem zk107 : z_cok zT1 (z_cnt zL0) 20000 [] zm336 zc107 [] = true := by decide +kernel
set_option maxRecDepth 100000 in
theorem zk108 : z_cok zT1 (z_cnt zL0) 20000 [] zm338 zc108 [] = true := by decide +kernel
set_option maxRecDepth 100000 in
theorem zk109 : z_cok zT1 (z_cnt zL0) 20000 [] zm339 zc109 [] = true := by decide +kernel
set_option maxRecDepth 100000 in
theorem zk110 : z_cok zT1 (z_cnt zL0) 20000 [] zm340 zc110 [] = true := by decide +kernel
set_option maxRecDepth 100000 in
theorem zk111 : z_cok zT1 (z_cnt zL0) 20000 [] zm341 zc111 [] = true := by decide +kernel
set_option maxRecDepth 100000 in
theorem zk112 : z_cok zT1 (z_cnt zL0) 20000 [] zm342 zc112 [] = true := by decide +kernel
set_option maxRecDepth 100000 in
theorem zk113 : z_cok zT1 (z_cnt zL0) 20000 [] zm343 zc113 [] = true := by decide +kernel
set_option maxRecDepth 100000 in
theorem zk114 : z_cok zT1 (z_cnt zL0) 20000 [] zm344 zc114 [] = true := by decide +kernel
set_option maxRecDepth 100000 in
theorem zk115 : z_cok zT1 (z_cnt zL0) 20000 [] zm345 zc115 [] = true := by decide +kernel
set_option maxRecDepth 100000 in
theorem zk116 : z_cok zT1 (z_cnt zL0) 20000 [] zm346 zc116 [] = true := by decide +kernel
set_option maxRecDepth 100000 in
theorem zk117 : z_cok zT1 (z_cnt zL0) 20000 [] zm347 zc117 [] = true := by decide +kernel
set_option maxRecDepth 100000 in
theorem zk118 : z_cok zT1 (z_cnt zL0) 20000 [] zm350 zc118 [] = true := by decide +kernel
set_option maxRecDepth 100000 in
theorem zk119 : z_cok zT1 (z_cnt zL0) 20000 [] zm351 zc119 [] = true := by decide +kernel
