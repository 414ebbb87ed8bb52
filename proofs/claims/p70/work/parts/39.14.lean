set_option maxRecDepth 100000 in
def zn0_0 : zNd := (16, (z_li [(.ofNat 0, .ofNat 0), (.negSucc 2147483647, .ofNat 2147483647), (.negSucc 2147483647, .ofNat 2147483647), (.negSucc 2147483647, .ofNat 2147483647), (.negSucc 2147483647, .ofNat 2147483647), (.negSucc 2147483647, .ofNat 2147483647), (.negSucc 2147483647, .ofNat 2147483647), (.negSucc 2147483647, .ofNat 2147483647), (.negSucc 2147483647, .ofNat 2147483647), (.negSucc 2147483647, .ofNat 2147483647), (.ofNat 0, .ofNat 0), (.ofNat 0, .ofNat 700), (.ofNat 0, .ofNat 700)] (true, [], [], [])), [(0, (2, 4, .ofNat 0))], [], [(4, 2, 1, (0, 11, .ofNat 0)), (4, 4, 1, (0, 12, .ofNat 0)), (4, 5, 1, (0, 10, .ofNat 0))], [(11, 1, 2, 4, 2), (12, 1, 2, 4, 4)], (.ofNat 1401, [(12, .negSucc 0)]), none)
set_option maxRecDepth 100000 in
def zn0_1 : zNd := (102, (z_li [(.ofNat 0, .ofNat 0), (.negSucc 2147483647, .ofNat 2147483647), (.negSucc 2147483647, .ofNat 2147483647), (.negSucc 2147483647, .ofNat 2147483647), (.negSucc 2147483647, .ofNat 2147483647), (.negSucc 2147483647, .ofNat 2147483647), (.negSucc 2147483647, .ofNat 2147483647), (.negSucc 2147483647, .ofNat 2147483647), (.negSucc 2147483647, .ofNat 2147483647), (.negSucc 2147483647, .ofNat 2147483647), (.ofNat 0, .ofNat 0), (.ofNat 0, .ofNat 1), (.ofNat 0, .ofNat 700), (.ofNat 0, .ofNat 700)] (true, [], [], [])), [(0, (2, 4, .ofNat 0)), (1, (0, 11, .ofNat 0))], [], [(4, 2, 1, (0, 12, .ofNat 0)), (4, 4, 1, (0, 13, .ofNat 0)), (4, 5, 1, (0, 10, .ofNat 0))], [(11, 1, 0, 1, 0), (12, 1, 2, 4, 2), (13, 1, 2, 4, 4)], (.ofNat 700, [(12, .negSucc 0)]), none)
def zg0_1 : List zNd := [zn0_0]
def zg0_2 : List zNd := [zn0_1]
def znl0 : List zNd := zg0_1 ++ (zg0_2)
set_option maxRecDepth 100000 in
theorem zk0_0 : z_ck0 zT1 (z_cnt zL0) 20000 [16, 102] zm5 zc0 znl0 = true := by decide +kernel
set_option maxRecDepth 100000 in
theorem zk0_1 : z_ckn zT1 (z_cnt zL0) 20000 [16, 102] zm5 zc0 znl0 zg0_1 = true := by decide +kernel
set_option maxRecDepth 100000 in
theorem zk0_2 : z_ckn zT1 (z_cnt zL0) 20000 [16, 102] zm5 zc0 znl0 zg0_2 = true := by decide +kernel
theorem zk0 : z_cok zT1 (z_cnt zL0) 20000 [16, 102] zm5 zc0 znl0 = true := z_cok_of zk0_0 (z_ckn_app zk0_1 (zk0_2))
set_option maxRecDepth 100000 in
theorem zk1 : z_cok zT1 (z_cnt zL0) 20000 [16, 102] zm5 zc1 [] = true := by decide +kernel
set_option maxRecDepth 100000 in
def zn2_0 : zNd := (16, (z_li [(.ofNat 0, .ofNat 0), (.negSucc 2147483647, .ofNat 2147483647), (.negSucc 2147483647, .ofNat 2147483647), (.negSucc 2147483647, .ofNat 2147483647), (.negSucc 2147483647, .ofNat 2147483647), (.negSucc 2147483647, .ofNat 2147483647), (.negSucc 2147483647, .ofNat 2147483647), (.negSucc 2147483647, .ofNat 2147483647), (.negSucc 2147483647, .ofNat 2147483647), (.negSucc 2147483647, .ofNat 2147483647), (.ofNat 0, .ofNat 0), (.ofNat 0, .ofNat 700), (.ofNat 0, .ofNat 700)] (true, [], [], [])), [(0, (2, 4, .ofNat 0))], [], [(4, 2, 1, (0, 11, .ofNat 0)), (4, 4, 1, (0, 12, .ofNat 0)), (4, 5, 1, (0, 10, .ofNat 0))], [(11, 1, 2, 4, 2), (12, 1, 2, 4, 4)], (.ofNat 1401, [(12, .negSucc 0)]), none)
set_option maxRecDepth 100000 in
def zn2_1 : zNd := (102, (z_li [(.ofNat 0, .ofNat 0), (.negSucc 2147483647, .ofNat 2147483647), (.negSucc 2147483647, .ofNat 2147483647), (.negSucc 2147483647, .ofNat 2147483647), (.negSucc 2147483647, .ofNat 2147483647), (.negSucc 2147483647, .ofNat 2147483647), (.negSucc 2147483647, .ofNat 2147483647), (.negSucc 2147483647, .ofNat 2147483647), (.negSucc 2147483647, .ofNat 2147483647), (.negSucc 2147483647, .ofNat 2147483647), (.ofNat 0, .ofNat 0), (.ofNat 0, .ofNat 1), (.ofNat 0, .ofNat 700), (.ofNat 0, .ofNat 700)] (true, [], [], [])), [(0, (2, 4, .ofNat 0)), (1, (0, 11, .ofNat 0))], [], [(4, 2, 1, (0, 12, .ofNat 0)), (4, 4, 1, (0, 13, .ofNat 0)), (4, 5, 1, (0, 10, .ofNat 0))], [(11, 1, 0, 1, 0), (12, 1, 2, 4, 2), (13, 1, 2, 4, 4)], (.ofNat 700, [(12, .negSucc 0)]), none)
def zg2_1 : List zNd := [zn2_0]
def zg2_2 : List zNd := [zn2_1]
def znl2 : List zNd := zg2_1 ++ (zg2_2)
set_option maxRecDepth 100000 in
theorem zk2_0 : z_ck0 zT1 (z_cnt zL0) 20000 [16, 102] zm5 zc2 znl2 = true := by decide +kernel
set_option maxRecDepth 100000 in
theorem zk2_1 : z_ckn zT1 (z_cnt zL0) 20000 [16, 102] zm5 zc2 znl2 zg2_1 = true := by decide +kernel
set_option maxRecDepth 100000 in
theorem zk2_2 : z_ckn zT1 (z_cnt zL0) 20000 [16, 102] zm5 zc2 znl2 zg2_2 = true := by decide +kernel
theorem zk2 : z_cok zT1 (z_cnt zL0) 20000 [16, 102] zm5 zc2 znl2 = true := z_cok_of zk2_0 (z_ckn_app zk2_1 (zk2_2))
set_option maxRecDepth 100000 in
def zn3_0 : zNd := (33, (z_li [(.ofNat 0, .ofNat 0), (.negSucc 2147483647, .ofNat 2147483647), (.negSucc 2147483647, .ofNat 2147483647), (.negSucc 2147483647, .ofNat 2147483647), (.negSucc 2147483647, .ofNat 2147483647), (.negSucc 2147483647, .ofNat 2147483647), (.negSucc 2147483647, .ofNat 2147483647), (.negSucc 2147483647, .ofNat 2147483647), (.negSucc 2147483647, .ofNat 2147483647), (.negSucc 2147483647, .ofNat 2147483647), (.ofNat 0, .ofNat 100)] (false, [], [], [])), [(0, (2, 41, .ofNat 0)), (1, (0, 10, .ofNat 0))], [], [(41, 4, 1, (0, 0, .negSucc 0))], [(10, 1, 0, 1, 0)], (.ofNat 109, [(10, .negSucc 0)]), none)
set_option maxRecDepth 100000 in
def zn3_1 : zNd := (54, (z_li [(.ofNat 0, .ofNat 0), (.negSucc 2147483647, .ofNat 2147483647), (.negSucc 2147483647, .ofNat 2147483647), (.negSucc 2147483647, .ofNat 2147483647), (.negSucc 2147483647, .ofNat 2147483647), (.negSucc 2147483647, .ofNat 2147483647), (.negSucc 2147483647, .ofNat 2147483647), (.negSucc 2147483647, .ofNat 2147483647), (.negSucc 2147483647, .ofNat 2147483647), (.negSucc 2147483647, .ofNat 2147483647), (.ofNat 0, .ofNat 8)] (false, [], [], [])), [(0, (2, 41, .ofNat 0)), (1, (0, 10, .ofNat 0))], [], [(41, 4, 1, (0, 0, .negSucc 0))], [(10, 1, 0, 1, 0)], (.ofNat 8, [(10, .negSucc 0)]), none)
def zg3_1 : List zNd := [zn3_0, zn3_1]
def znl3 : List zNd := zg3_1
set_option maxRecDepth 100000 in
theorem zk3_0 : z_ck0 zT1 (z_cnt zL0) 20000 [33, 54] zm31 zc3 znl3 = true := by decide +kernel
set_option maxRecDepth 100000 in
theorem zk3_1 : z_ckn zT1 (z_cnt zL0) 20000 [33, 54] zm31 zc3 znl3 zg3_1 = true := by decide +kernel
theorem zk3 : z_cok zT1 (z_cnt zL0) 20000 [33, 54] zm31 zc3 znl3 = true := z_cok_of zk3_0 (zk3_1)
set_option maxRecDepth 100000 in
def zn4_0 : zNd := (33, (z_li [(.ofNat 0, .ofNat 0), (.negSucc 2147483647, .ofNat 2147483647), (.negSucc 2147483647, .ofNat 2147483647), (.negSucc 2147483647, .ofNat 2147483647), (.negSucc 2147483647, .ofNat 2147483647), (.negSucc 2147483647, .ofNat 2147483647), (.negSucc 2147483647, .ofNat 2147483647), (.negSucc 2147483647, .ofNat 2147483647), (.negSucc 2147483647, .ofNat 2147483647), (.negSucc 2147483647, .ofNat 2147483647), (.ofNat 0, .ofNat 100)] (false, [], [], [])), [(0, (2, 71, .ofNat 0)), (1, (0, 10, .ofNat 0))], [], [(71, 4, 1, (0, 0, .negSucc 0))], [(10, 1, 0, 1, 0)], (.ofNat 109, [(10, .negSucc 0)]), none)
set_option maxRecDepth 100000 in
def zn4_1 : zNd := (54, (z_li [(.ofNat 0, .ofNat 0), (.negSucc 2147483647, .ofNat 2147483647), (.negSucc 2147483647, .ofNat 2147483647), (.negSucc 2147483647, .ofNat 2147483647), (.negSucc 2147483647, .ofNat 2147483647), (.negSucc 2147483647, .ofNat 2147483647), (.negSucc 2147483647, .ofNat 2147483647), (.negSucc 2147483647, .ofNat 2147483647), (.negSucc 2147483647, .ofNat 2147483647), (.negSucc 2147483647, .ofNat 2147483647), (.ofNat 0, .ofNat 8)] (false, [], [], [])), [(0, (2, 71, .ofNat 0)), (1, (0, 10, .ofNat 0))], [], [(71, 4, 1, (0, 0, .negSucc 0))], [(10, 1, 0, 1, 0)], (.ofNat 8, [(10, .negSucc 0)]), none)
def zg4_1 : List zNd := [zn4_0, zn4_1]
def znl4 : List zNd := zg4_1
set_option maxRecDepth 100000 in
theorem zk4_0 : z_ck0 zT1 (z_cnt zL0) 20000 [33, 54] zm31 zc4 znl4 = true := by decide +kernel
set_option maxRecDepth 100000 in
theorem zk4_1 : z_ckn zT1 (z_cnt zL0) 20000 [33, 54] zm31 zc4 znl4 zg4_1 = true := by decide +kernel
theorem zk4 : z_cok zT1 (z_cnt zL0) 20000 [33, 54] zm31 zc4 znl4 = true := z_cok_of zk4_0 (zk4_1)
set_option maxRecDepth 100000 in
def zn5_0 : zNd := (56, (z_li [(.ofNat 0, .ofNat 0), (.negSucc 2147483647, .ofNat 2147483647), (.negSucc 2147483647, .ofNat 2147483647), (.negSucc 2147483647, .ofNat 2147483647), (.negSucc 2147483647, .ofNat 2147483647), (.negSucc 2147483647, .ofNat 2147483647), (.negSucc 2147483647, .ofNat 2147483647), (.negSucc 2147483647, .ofNat 2147483647), (.negSucc 2147483647, .ofNat 2147483647), (.negSucc 2147483647, .ofNat 2147483647), (.negSucc 2147483647, .ofNat 2147483647), (.negSucc 2147483646, .ofNat 2147483647), (.negSucc 715827880, .ofNat 715827883), (.negSucc 2147483647, .ofNat 2147483647), (.ofNat 0, .ofNat 1000000000)] (false, [], [], [])), [(0, (2, 44, .ofNat 0)), (3, (0, 12, .ofNat 0)), (4, (0, 13, .ofNat 0)), (5, (0, 14, .ofNat 0))], [], [], [(12, 1, 0, 3, 0), (13, 1, 0, 4, 0), (14, 1, 0, 5, 0)], (.ofNat 1000000000, [(14, .negSucc 0)]), none)
def zg5_1 : List zNd := [zn5_0]
def znl5 : List zNd := zg5_1
set_option maxRecDepth 100000 in
theorem zk5_0 : z_ck0 zT1 (z_cnt zL0) 20000 [56] zm36 zc5 znl5 = true := by decide +kernel
set_option maxRecDepth 100000 in
theorem zk5_1 : z_ckn zT1 (z_cnt zL0) 20000 [56] zm36 zc5 znl5 zg5_1 = true := by decide +kernel
theorem zk5 : z_cok zT1 (z_cnt zL0) 20000 [56] zm36 zc5 znl5 = true := z_cok_of zk5_0 (zk5_1)
