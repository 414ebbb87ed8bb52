set_option maxRecDepth 100000 in
def zn10_0 : zNd := (56, (z_li [(.ofNat 0, .ofNat 0), (.negSucc 2147483647, .ofNat 2147483647), (.negSucc 2147483647, .ofNat 2147483647), (.negSucc 2147483647, .ofNat 2147483647), (.negSucc 2147483647, .ofNat 2147483647), (.negSucc 2147483647, .ofNat 2147483647), (.negSucc 2147483647, .ofNat 2147483647), (.negSucc 2147483647, .ofNat 2147483647), (.negSucc 2147483647, .ofNat 2147483647), (.negSucc 2147483647, .ofNat 2147483647), (.negSucc 2147483647, .ofNat 2147483647), (.negSucc 2147483646, .ofNat 2147483647), (.negSucc 715827880, .ofNat 715827883), (.negSucc 2147483647, .ofNat 2147483647), (.ofNat 0, .ofNat 1000000000)] (false, [], [], [])), [(0, (2, 59, .ofNat 0)), (3, (0, 12, .ofNat 0)), (4, (0, 13, .ofNat 0)), (5, (0, 14, .ofNat 0))], [], [], [(12, 1, 0, 3, 0), (13, 1, 0, 4, 0), (14, 1, 0, 5, 0)], (.ofNat 1000000000, [(14, .negSucc 0)]), none)
def zg10_1 : List zNd := [zn10_0]
def znl10 : List zNd := zg10_1
set_option maxRecDepth 100000 in
theorem zk10_0 : z_ck0 zT1 (z_cnt zL0) 20000 [56] zm36 zc10 znl10 = true := by decide +kernel
set_option maxRecDepth 100000 in
theorem zk10_1 : z_ckn zT1 (z_cnt zL0) 20000 [56] zm36 zc10 znl10 zg10_1 = true := by decide +kernel
theorem zk10 : z_cok zT1 (z_cnt zL0) 20000 [56] zm36 zc10 znl10 = true := z_cok_of zk10_0 (zk10_1)
set_option maxRecDepth 100000 in
def zn11_0 : zNd := (56, (z_li [(.ofNat 0, .ofNat 0), (.negSucc 2147483647, .ofNat 2147483647), (.negSucc 2147483647, .ofNat 2147483647), (.negSucc 2147483647, .ofNat 2147483647), (.negSucc 2147483647, .ofNat 2147483647), (.negSucc 2147483647, .ofNat 2147483647), (.negSucc 2147483647, .ofNat 2147483647), (.negSucc 2147483647, .ofNat 2147483647), (.negSucc 2147483647, .ofNat 2147483647), (.negSucc 2147483647, .ofNat 2147483647), (.negSucc 2147483647, .ofNat 2147483647), (.negSucc 2147483646, .ofNat 2147483647), (.negSucc 715827880, .ofNat 715827883), (.negSucc 2147483647, .ofNat 2147483647), (.ofNat 0, .ofNat 1000000000)] (false, [], [], [])), [(0, (2, 74, .ofNat 0)), (3, (0, 12, .ofNat 0)), (4, (0, 13, .ofNat 0)), (5, (0, 14, .ofNat 0))], [], [], [(12, 1, 0, 3, 0), (13, 1, 0, 4, 0), (14, 1, 0, 5, 0)], (.ofNat 1000000000, [(14, .negSucc 0)]), none)
def zg11_1 : List zNd := [zn11_0]
def znl11 : List zNd := zg11_1
set_option maxRecDepth 100000 in
theorem zk11_0 : z_ck0 zT1 (z_cnt zL0) 20000 [56] zm36 zc11 znl11 = true := by decide +kernel
set_option maxRecDepth 100000 in
theorem zk11_1 : z_ckn zT1 (z_cnt zL0) 20000 [56] zm36 zc11 znl11 zg11_1 = true := by decide +kernel
theorem zk11 : z_cok zT1 (z_cnt zL0) 20000 [56] zm36 zc11 znl11 = true := z_cok_of zk11_0 (zk11_1)
set_option maxRecDepth 100000 in
def zn12_0 : zNd := (39, (z_li [(.ofNat 0, .ofNat 0), (.negSucc 2147483647, .ofNat 2147483647), (.negSucc 2147483647, .ofNat 2147483647), (.negSucc 2147483647, .ofNat 2147483647), (.negSucc 2147483647, .ofNat 2147483647), (.negSucc 2147483647, .ofNat 2147483647), (.negSucc 2147483647, .ofNat 2147483647), (.negSucc 2147483647, .ofNat 2147483647), (.negSucc 2147483647, .ofNat 2147483647), (.negSucc 2147483647, .ofNat 2147483647), (.ofNat 0, .ofNat 700), (.ofNat 0, .ofNat 700), (.ofNat 0, .ofNat 0), (.ofNat 0, .ofNat 700)] (true, [(.ofNat 0, [(10, .negSucc 0), (13, .ofNat 1)])], [], [])), [(0, (2, 155, .ofNat 0))], [], [(155, 7, 1, (0, 11, .ofNat 0)), (155, 8, 1, (0, 13, .ofNat 0)), (155, 12, 1, (0, 12, .ofNat 0))], [(13, 1, 2, 155, 8)], (.ofNat 1402, []), none)
set_option maxRecDepth 100000 in
def zn12_1 : zNd := (36, (z_li [(.ofNat 0, .ofNat 0), (.negSucc 2147483647, .ofNat 2147483647), (.negSucc 2147483647, .ofNat 2147483647), (.negSucc 2147483647, .ofNat 2147483647), (.negSucc 2147483647, .ofNat 2147483647), (.negSucc 2147483647, .ofNat 2147483647), (.negSucc 2147483647, .ofNat 2147483647), (.negSucc 2147483647, .ofNat 2147483647), (.negSucc 2147483647, .ofNat 2147483647), (.negSucc 2147483647, .ofNat 2147483647), (.ofNat 0, .ofNat 699), (.ofNat 1, .ofNat 700), (.ofNat 0, .ofNat 0), (.ofNat 0, .ofNat 700)] (true, [(.ofNat 0, [(10, .negSucc 0), (13, .ofNat 1)]), (.negSucc 0, [(10, .negSucc 0), (13, .ofNat 1)])], [], [])), [(0, (2, 155, .ofNat 0))], [], [(155, 7, 1, (0, 11, .ofNat 0)), (155, 8, 1, (0, 13, .ofNat 0)), (155, 12, 1, (0, 12, .ofNat 0))], [(13, 1, 2, 155, 8)], (.ofNat 2103, [(13, .negSucc 0)]), none)
set_option maxRecDepth 100000 in
def zn12_2 : zNd := (203, (z_li [(.ofNat 0, .ofNat 0), (.negSucc 2147483647, .ofNat 2147483647), (.negSucc 2147483647, .ofNat 2147483647), (.negSucc 2147483647, .ofNat 2147483647), (.negSucc 2147483647, .ofNat 2147483647), (.negSucc 2147483647, .ofNat 2147483647), (.negSucc 2147483647, .ofNat 2147483647), (.negSucc 2147483647, .ofNat 2147483647), (.negSucc 2147483647, .ofNat 2147483647), (.negSucc 2147483647, .ofNat 2147483647), (.ofNat 0, .ofNat 699), (.ofNat 1, .ofNat 700), (.ofNat 0, .ofNat 0), (.ofNat 0, .ofNat 700)] (true, [(.ofNat 0, [(10, .negSucc 0), (13, .ofNat 1)]), (.negSucc 0, [(10, .negSucc 0), (13, .ofNat 1)])], [], [])), [(0, (2, 155, .ofNat 0))], [], [(155, 7, 1, (0, 11, .ofNat 0)), (155, 8, 1, (0, 13, .ofNat 0)), (155, 12, 1, (0, 12, .ofNat 0))], [(13, 1, 2, 155, 8)], (.ofNat 700, [(13, .negSucc 0)]), none)
set_option maxRecDepth 100000 in
def zn12_3 : zNd := (114, (z_li [(.ofNat 0, .ofNat 0), (.negSucc 2147483647, .ofNat 2147483647), (.negSucc 2147483647, .ofNat 2147483647), (.negSucc 2147483647, .ofNat 2147483647), (.negSucc 2147483647, .ofNat 2147483647), (.negSucc 2147483647, .ofNat 2147483647), (.negSucc 2147483647, .ofNat 2147483647), (.negSucc 2147483647, .ofNat 2147483647), (.negSucc 2147483647, .ofNat 2147483647), (.negSucc 2147483647, .ofNat 2147483647), (.ofNat 0, .ofNat 699), (.ofNat 1, .ofNat 700), (.ofNat 0, .ofNat 0), (.ofNat 0, .ofNat 700)] (true, [(.ofNat 0, [(10, .negSucc 0), (13, .ofNat 1)]), (.negSucc 0, [(10, .negSucc 0), (13, .ofNat 1)])], [], [])), [(0, (2, 155, .ofNat 0))], [], [(155, 7, 1, (0, 11, .ofNat 0)), (155, 8, 1, (0, 13, .ofNat 0)), (155, 12, 1, (0, 12, .ofNat 0))], [(13, 1, 2, 155, 8)], (.ofNat 1401, [(13, .negSucc 0)]), none)
def zg12_1 : List zNd := [zn12_0, zn12_1, zn12_2, zn12_3]
def znl12 : List zNd := zg12_1
set_option maxRecDepth 100000 in
theorem zk12_0 : z_ck0 zT1 (z_cnt zL0) 20000 [36, 39, 114, 203] zm43 zc12 znl12 = true := by decide +kernel
set_option maxRecDepth 100000 in
theorem zk12_1 : z_ckn zT1 (z_cnt zL0) 20000 [36, 39, 114, 203] zm43 zc12 znl12 zg12_1 = true := by decide +kernel
theorem zk12 : z_cok zT1 (z_cnt zL0) 20000 [36, 39, 114, 203] zm43 zc12 znl12 = true := z_cok_of zk12_0 (zk12_1)
set_option maxRecDepth 100000 in
theorem zk13 : z_cok zT1 (z_cnt zL0) 20000 [] zm48 zc13 [] = true := by decide +kernel
set_option maxRecDepth 100000 in
theorem zk14 : z_cok zT1 (z_cnt zL0) 20000 [] zm48 zc14 [] = true := by decide +kernel
set_option maxRecDepth 100000 in
theorem zk15 : z_cok zT1 (z_cnt zL0) 20000 [] zm48 zc15 [] = true := by decide +kernel
set_option maxRecDepth 100000 in
theorem zk16 : z_cok zT1 (z_cnt zL0) 20000 [] zm48 zc16 [] = true := by decide +kernel
set_option maxRecDepth 100000 in
theorem zk17 : z_cok zT1 (z_cnt zL0) 20000 [] zm48 zc17 [] = true := by decide +kernel
