set_option maxRecDepth 100000 in
def zn8_0 : zNd := (56, (z_li [(.ofNat 0, .ofNat 0), (.negSucc 2147483647, .ofNat 2147483647), (.negSucc 2147483647, .ofNat 2147483647), (.negSucc 2147483647, .ofNat 2147483647), (.negSucc 2147483647, .ofNat 2147483647), (.negSucc 2147483647, .ofNat 2147483647), (.negSucc 2147483647, .ofNat 2147483647), (.negSucc 2147483647, .ofNat 2147483647), (.negSucc 2147483647, .ofNat 2147483647), (.negSucc 2147483647, .ofNat 2147483647), (.negSucc 2147483647, .ofNat 2147483647), (.negSucc 2147483646, .ofNat 2147483647), (.negSucc 715827880, .ofNat 715827883), (.negSucc 2147483647, .ofNat 2147483647), (.ofNat 0, .ofNat 1000000000)] (false, [], [], [])), [(0, (2, 53, .ofNat 0)), (3, (0, 12, .ofNat 0)), (4, (0, 13, .ofNat 0)), (5, (0, 14, .ofNat 0))], [], [], [(12, 1, 0, 3, 0), (13, 1, 0, 4, 0), (14, 1, 0, 5, 0)], (.ofNat 1000000000, [(14, .negSucc 0)]), none)
def zg8_1 : List zNd := [zn8_0]
def znl8 : List zNd := zg8_1
set_option maxRecDepth 100000 in
theorem zk8_0 : z_ck0 zT1 (z_cnt zL0) 20000 [56] zm36 zc8 znl8 = true := by decide +kernel
set_option maxRecDepth 100000 in
theorem zk8_1 : z_ckn zT1 (z_cnt zL0) 20000 [56] zm36 zc8 znl8 zg8_1 = true := by decide +kernel
theorem zk8 : z_cok zT1 (z_cnt zL0) 20000 [56] zm36 zc8 znl8 = true := z_cok_of zk8_0 (zk8_1)
set_option maxRecDepth 100000 in
def zn9_0 : zNd := (56, (z_li [(.ofNat 0, .ofNat 0), (.negSucc 2147483647, .ofNat 2147483647), (.negSucc 2147483647, .ofNat 2147483647), (.negSucc 2147483647, .ofNat 2147483647), (.negSucc 2147483647, .ofNat 2147483647), (.negSucc 2147483647, .ofNat 2147483647), (.negSucc 2147483647, .ofNat 2147483647), (.negSucc 2147483647, .ofNat 2147483647), (.negSucc 2147483647, .ofNat 2147483647), (.negSucc 2147483647, .ofNat 2147483647), (.negSucc 2147483647, .ofNat 2147483647), (.negSucc 2147483646, .ofNat 2147483647), (.negSucc 715827880, .ofNat 715827883), (.negSucc 2147483647, .ofNat 2147483647), (.ofNat 0, .ofNat 1000000000)] (false, [], [], [])), [(0, (2, 56, .ofNat 0)), (3, (0, 12, .ofNat 0)), (4, (0, 13, .ofNat 0)), (5, (0, 14, .ofNat 0))], [], [], [(12, 1, 0, 3, 0), (13, 1, 0, 4, 0), (14, 1, 0, 5, 0)], (.ofNat 1000000000, [(14, .negSucc 0)]), none)
def zg9_1 : List zNd := [zn9_0]
def znl9 : List zNd := zg9_1
set_option maxRecDepth 100000 in
theorem zk9_0 : z_ck0 zT1 (z_cnt zL0) 20000 [56] zm36 zc9 znl9 = true := by decide +kernel
set_option maxRecDepth 100000 in
theorem zk9_1 : z_ckn zT1 (z_cnt zL0) 20000 [56] zm36 zc9 znl9 zg9_1 = true := by decide +kernel
theorem zk9 : z_cok zT1 (z_cnt zL0) 20000 [56] zm36 zc9 znl9 = true := z_cok_of zk9_0 (zk9_1)
