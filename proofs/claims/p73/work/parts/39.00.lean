set_option maxRecDepth 100000 in
theorem zk387 : z_cok zT1 (z_cnt zL7) 20000 [] zm331 zc387 [] = true := by decide +kernel
set_option maxRecDepth 100000 in
theorem zk388 : z_cok zT1 (z_cnt zL7) 20000 [] zm333 zc388 [] = true := by decide +kernel
set_option maxRecDepth 100000 in
theorem zk389 : z_cok zT1 (z_cnt zL7) 20000 [] zm335 zc389 [] = true := by decide +kernel
set_option maxRecDepth 100000 in
theorem zk390 : z_cok zT1 (z_cnt zL7) 20000 [] zm337 zc390 [] = true := by decide +kernel
set_option maxRecDepth 100000 in
def zn391_0 : zNd := (29, (z_li [(.ofNat 0, .ofNat 0), (.negSucc 2147483647, .ofNat 2147483647), (.negSucc 2147483647, .ofNat 2147483647), (.negSucc 2147483647, .ofNat 2147483647), (.negSucc 2147483647, .ofNat 2147483647), (.negSucc 2147483647, .ofNat 2147483647), (.negSucc 2147483647, .ofNat 2147483647), (.negSucc 2147483647, .ofNat 2147483647), (.negSucc 2147483647, .ofNat 2147483647), (.negSucc 2147483647, .ofNat 2147483647), (.ofNat 0, .ofNat 5), (.ofNat 0, .ofNat 89), (.ofNat 0, .ofNat 13), (.ofNat 1, .ofNat 9), (.ofNat 1, .ofNat 6)] (true, [(.ofNat 0, [(14, .negSucc 0), (13, .ofNat 3)])], [], [])), [(0, (2, 155, .ofNat 0)), (1, (0, 10, .ofNat 0)), (2, (0, 11, .ofNat 0)), (3, (0, 12, .ofNat 0))], [], [(156, 3, 1, (0, 13, .ofNat 0)), (156, 7, 1, (0, 14, .ofNat 0))], [], (.ofNat 0, []), none)
def zg391_1 : List zNd := [zn391_0]
def znl391 : List zNd := zg391_1
set_option maxRecDepth 100000 in
theorem zk391_0 : z_ck0 zT1 (z_cnt zL8) 20000 [29] zm233 zc391 znl391 = true := by decide +kernel
set_option maxRecDepth 100000 in
theorem zk391_1 : z_ckn zT1 (z_cnt zL8) 20000 [29] zm233 zc391 znl391 zg391_1 = true := by decide +kernel
theorem zk391 : z_cok zT1 (z_cnt zL8) 20000 [29] zm233 zc391 znl391 = true := z_cok_of zk391_0 (zk391_1)
set_option maxRecDepth 100000 in
theorem zk392 : z_cok zT1 (z_cnt zL8) 20000 [] zm235 zc392 [] = true := by decide +kernel
set_option maxRecDepth 100000 in
theorem zk393 : z_cok zT1 (z_cnt zL8) 20000 [] zm255 zc393 [] = true := by decide +kernel
set_option maxRecDepth 100000 in
theorem zk394 : z_cok zT1 (z_cnt zL8) 20000 [] zm257 zc394 [] = true := by decide +kernel
set_option maxRecDepth 100000 in
theorem zk395 : z_cok zT1 (z_cnt zL8) 20000 [] zm259 zc395 [] = true := by decide +kernel
set_option maxRecDepth 100000 in
theorem zk396 : z_cok zT1 (z_cnt zL8) 20000 [] zm261 zc396 [] = true := by decide +kernel
set_option maxRecDepth 100000 in
theorem zk397 : z_cok zT1 (z_cnt zL8) 20000 [] zm263 zc397 [] = true := by decide +kernel
