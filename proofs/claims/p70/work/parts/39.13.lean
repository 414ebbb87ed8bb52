set_option maxRecDepth 100000 in
def zn6_0 : zNd := (56, (z_li [(.ofNat 0, .ofNat 0), (.negSucc 2147483647, .ofNat 2147483647), (.negSucc 2147483647, .ofNat 2147483647), (.negSucc 2147483647, .ofNat 2147483647), (.negSucc 2147483647, .ofNat 2147483647), (.negSucc 2147483647, .ofNat 2147483647), (.negSucc 2147483647, .ofNat 2147483647), (.negSucc 2147483647, .ofNat 2147483647), (.negSucc 2147483647, .ofNat 2147483647), (.negSucc 2147483647, .ofNat 2147483647), (.negSucc 2147483647, .ofNat 2147483647), (.negSucc 2147483646, .ofNat 2147483647), (.negSucc 715827880, .ofNat 715827883), (.negSucc 2147483647, .ofNat 2147483647), (.ofNat 0, .ofNat 1000000000)] (false, [], [], [])), [(0, (2, 47, .ofNat 0)), (3, (0, 12, .ofNat 0)), (4, (0, 13, .ofNat 0)), (5, (0, 14, .ofNat 0))], [], [], [(12, 1, 0, 3, 0), (13, 1, 0, 4, 0), (14, 1, 0, 5, 0)], (.ofNat 1000000000, [(14, .negSucc 0)]), none)
def zg6_1 : List zNd := [zn6_0]
def znl6 : List zNd := zg6_1
set_option maxRecDepth 100000 in
theorem zk6_0 : z_ck0 zT1 (z_cnt zL0) 20000 [56] zm36 zc6 znl6 = true := by decide +kernel
set_option maxRecDepth 100000 in
theorem zk6_1 : z_ckn zT1 (z_cnt zL0) 20000 [56] zm36 zc6 znl6 zg6_1 = true := by decide +kernel
theorem zk6 : z_cok zT1 (z_cnt zL0) 20000 [56] zm36 zc6 znl6 = true := z_cok_of zk6_0 (zk6_1)
set_option maxRecDepth 100000 in
def zn7_0 : zNd := (56, (z_li [(.ofNat 0, .ofNat 0), (.negSucc 2147483647, .ofNat 2147483647), (.negSucc 2147483647, .ofNat 2147483647), (.negSucc 2147483647, .ofNat 2147483647), (.negSucc 2147483647, .ofNat 2147483647), (.negSucc 2147483647, .ofNat 2147483647), (.negSucc 2147483647, .ofNat 2147483647), (.negSucc 2147483647, .ofNat 2147483647), (.negSucc 2147483647, .ofNat 2147483647), (.negSucc 2147483647, .ofNat 2147483647), (.negSucc 2147483647, .ofNat 2147483647), (.negSucc 2147483646, .ofNat 2147483647), (.negSucc 715827880, .ofNat 715827883), (.negSucc 2147483647, .ofNat 2147483647), (.ofNat 0, .ofNat 1000000000)] (false, [], [], [])), [(0, (2, 50, .ofNat 0)), (3, (0, 12, .ofNat 0)), (4, (0, 13, .ofNat 0)), (5, (0, 14, .ofNat 0))], [], [], [(12, 1, 0, 3, 0), (13, 1, 0, 4, 0), (14, 1, 0, 5, 0)], (.ofNat 1000000000, [(14, .negSucc 0)]), none)
def zg7_1 : List zNd := [zn7_0]
def znl7 : List zNd := zg7_1
set_option maxRecDepth 100000 in
theorem zk7_0 : z_ck0 zT1 (z_cnt zL0) 20000 [56] zm36 zc7 znl7 = true := by decide +kernel
set_option maxRecDepth 100000 in
theorem zk7_1 : z_ckn zT1 (z_cnt zL0) 20000 [56] zm36 zc7 znl7 zg7_1 = true := by decide +kernel
theorem zk7 : z_cok zT1 (z_cnt zL0) 20000 [56] zm36 zc7 znl7 = true := z_cok_of zk7_0 (zk7_1)
