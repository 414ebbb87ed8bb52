set_option maxRecDepth 100000 in
theorem zk90 : z_cok zT1 (z_cnt zL0) 20000 [] zm217 zc90 [] = true := by decide +kernel
set_option maxRecDepth 100000 in
theorem zk91 : z_cok zT1 (z_cnt zL0) 20000 [] zm218 zc91 [] = true := by decide +kernel
set_option maxRecDepth 100000 in
theorem zk92 : z_cok zT1 (z_cnt zL0) 20000 [] zm219 zc92 [] = true := by decide +kernel
set_option maxRecDepth 100000 in
def zn93_0 : zNd := (42, (z_li [(.ofNat 0, .ofNat 0), (.negSucc 2147483647, .ofNat 2147483647), (.negSucc 2147483647, .ofNat 2147483647), (.negSucc 2147483647, .ofNat 2147483647), (.negSucc 2147483647, .ofNat 2147483647), (.negSucc 2147483647, .ofNat 2147483647), (.negSucc 2147483647, .ofNat 2147483647), (.negSucc 2147483647, .ofNat 2147483647), (.negSucc 2147483647, .ofNat 2147483647), (.negSucc 2147483647, .ofNat 2147483647), (.ofNat 12, .ofNat 12), (.ofNat 0, .ofNat 9), (.ofNat 0, .ofNat 6), (.negSucc 2147483647, .ofNat 2147483647), (.ofNat 0, .ofNat 4)] (true, [(.ofNat 0, [(12, .negSucc 0), (11, .ofNat 3)])], [], [])), [(0, (2, 155, .ofNat 0)), (2, (0, 13, .ofNat 0)), (3, (0, 14, .ofNat 0))], [], [(156, 3, 1, (0, 11, .ofNat 0)), (156, 7, 1, (0, 12, .ofNat 0))], [(13, 1, 0, 2, 0), (14, 1, 0, 3, 0)], (.ofNat 4, [(14, .negSucc 0)]), none)
def zg93_1 : List zNd := [zn93_0]
def znl93 : List zNd := zg93_1
set_option maxRecDepth 100000 in
theorem zk93_0 : z_ck0 zT1 (z_cnt zL0) 20000 [42] zm221 zc93 znl93 = true := by decide +kernel
set_option maxRecDepth 100000 in
theorem zk93_1 : z_ckn zT1 (z_cnt zL0) 20000 [42] zm221 zc93 znl93 zg93_1 = true := by decide +kernel
theorem zk93 : z_cok zT1 (z_cnt zL0) 20000 [42] zm221 zc93 znl93 = true := z_cok_of zk93_0 (zk93_1)
set_option maxRecDepth 100000 in
theorem zk94 : z_cok zT1 (z_cnt zL0) 20000 [] zm223 zc94 [] = true := by decide +kernel
set_option maxRecDepth 100000 in
theorem zk95 : z_cok zT1 (z_cnt zL0) 20000 [] zm229 zc95 [] = true := by decide +kernel
set_option maxRecDepth 100000 in
theorem zk96 : z_cok zT1 (z_cnt zL0) 20000 [] zm231 zc96 [] = true := by decide +kernel
set_option maxRecDepth 100000 in
theorem zk97 : z_cok zT1 (z_cnt zL0) 20000 [] zm282 zc97 [] = true := by decide +kernel
set_option maxRecDepth 100000 in
def zn98_0 : zNd := (23, (z_li [(.ofNat 0, .ofNat 0), (.negSucc 2147483647, .ofNat 2147483647), (.negSucc 2147483647, .ofNat 2147483647), (.negSucc 2147483647, .ofNat 2147483647), (.negSucc 2147483647, .ofNat 2147483647), (.negSucc 2147483647, .ofNat 2147483647), (.negSucc 2147483647, .ofNat 2147483647), (.negSucc 2147483647, .ofNat 2147483647), (.negSucc 2147483647, .ofNat 2147483647), (.negSucc 2147483647, .ofNat 2147483647), (.ofNat 0, .ofNat 13), (.ofNat 0, .ofNat 2147483647), (.ofNat 0, .ofNat 39)] (false, [], [], [])), [(0, (2, 0, .ofNat 0)), (1, (0, 10, .ofNat 0)), (2, (0, 11, .ofNat 0)), (3, (0, 12, .ofNat 0))], [], [], [(11, 1, 0, 2, 0), (12, 1, 0, 3, 0)], (.ofNat 39, [(12, .negSucc 0)]), none)
def zg98_1 : List zNd := [zn98_0]
def znl98 : List zNd := zg98_1
set_option maxRecDepth 100000 in
theorem zk98_0 : z_ck0 zT1 (z_cnt zL0) 20000 [23] zm286 zc98 znl98 = true := by decide +kernel
set_option maxRecDepth 100000 in
theorem zk98_1 : z_ckn zT1 (z_cnt zL0) 20000 [23] zm286 zc98 znl98 zg98_1 = true := by decide +kernel
theorem zk98 : z_cok zT1 (z_cnt zL0) 20000 [23] zm286 zc98 znl98 = true := z_cok_of zk98_0 (zk98_1)
