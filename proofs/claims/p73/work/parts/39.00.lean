set_option maxRecDepth 100000 in
theorem zk379 : z_cok zT1 (z_cnt zL7) 20000 [] zm315 zc379 [] = true := by decide +kernel
set_option maxRecDepth 100000 in
theorem zk380 : z_cok zT1 (z_cnt zL7) 20000 [] zm317 zc380 [] = true := by decide +kernel
set_option maxRecDepth 100000 in
theorem zk381 : z_cok zT1 (z_cnt zL7) 20000 [] zm319 zc381 [] = true := by decide +kernel
set_option maxRecDepth 100000 in
def zn382_0 : zNd := (14, (z_li [(.ofNat 0, .ofNat 0), (.negSucc 2147483647, .ofNat 2147483647), (.negSucc 2147483647, .ofNat 2147483647), (.negSucc 2147483647, .ofNat 2147483647), (.negSucc 2147483647, .ofNat 2147483647), (.negSucc 2147483647, .ofNat 2147483647), (.negSucc 2147483647, .ofNat 2147483647), (.negSucc 2147483647, .ofNat 2147483647), (.negSucc 2147483647, .ofNat 2147483647), (.negSucc 2147483647, .ofNat 2147483647), (.ofNat 0, .ofNat 9), (.ofNat 0, .ofNat 6), (.negSucc 0, .ofNat 5), (.ofNat 0, .ofNat 6)] (true, [(.ofNat 0, [(11, .negSucc 0), (10, .ofNat 3)])], [], [])), [(0, (2, 155, .ofNat 0)), (1, (0, 12, .ofNat 0)), (2, (0, 13, .ofNat 0))], [], [(156, 3, 1, (0, 10, .ofNat 0)), (156, 7, 1, (0, 11, .ofNat 0))], [(12, 1, 0, 1, 0), (13, 1, 0, 2, 0)], (.ofNat 6, [(13, .negSucc 0)]), none)
def zg382_1 : List zNd := [zn382_0]
def znl382 : List zNd := zg382_1
set_option maxRecDepth 100000 in
theorem zk382_0 : z_ck0 zT1 (z_cnt zL7) 20000 [14] zm321 zc382 znl382 = true := by decide +kernel
set_option maxRecDepth 100000 in
theorem zk382_1 : z_ckn zT1 (z_cnt zL7) 20000 [14] zm321 zc382 znl382 zg382_1 = true := by decide +kernel
theorem zk382 : z_cok zT1 (z_cnt zL7) 20000 [14] zm321 zc382 znl382 = true := z_cok_of zk382_0 (zk382_1)
set_option maxRecDepth 100000 in
theorem zk383 : z_cok zT1 (z_cnt zL7) 20000 [] zm323 zc383 [] = true := by decide +kernel
set_option maxRecDepth 100000 in
def zn384_0 : zNd := (15, (z_li [(.ofNat 0, .ofNat 0), (.negSucc 2147483647, .ofNat 2147483647), (.negSucc 2147483647, .ofNat 2147483647), (.negSucc 2147483647, .ofNat 2147483647), (.negSucc 2147483647, .ofNat 2147483647), (.negSucc 2147483647, .ofNat 2147483647), (.negSucc 2147483647, .ofNat 2147483647), (.negSucc 2147483647, .ofNat 2147483647), (.negSucc 2147483647, .ofNat 2147483647), (.negSucc 2147483647, .ofNat 2147483647), (.ofNat 0, .ofNat 14), (.ofNat 0, .ofNat 9), (.ofNat 0, .ofNat 6), (.ofNat 0, .ofNat 63), (.ofNat 0, .ofNat 6)] (true, [(.ofNat 0, [(12, .negSucc 0), (11, .ofNat 3)])], [], [])), [(0, (2, 155, .ofNat 0)), (1, (0, 10, .ofNat 0)), (2, (0, 13, .ofNat 0)), (3, (0, 14, .ofNat 0))], [], [(156, 3, 1, (0, 11, .ofNat 0)), (156, 7, 1, (0, 12, .ofNat 0))], [(13, 1, 0, 2, 0), (14, 1, 0, 3, 0)], (.ofNat 6, [(14, .negSucc 0)]), none)
def zg384_1 : List zNd := [zn384_0]
def znl384 : List zNd := zg384_1
set_option maxRecDepth 100000 in
theorem zk384_0 : z_ck0 zT1 (z_cnt zL7) 20000 [15] zm325 zc384 znl384 = true := by decide +kernel
set_option maxRecDepth 100000 in
theorem zk384_1 : z_ckn zT1 (z_cnt zL7) 20000 [15] zm325 zc384 znl384 zg384_1 = true := by decide +kernel
theorem zk384 : z_cok zT1 (z_cnt zL7) 20000 [15] zm325 zc384 znl384 = true := z_cok_of zk384_0 (zk384_1)
set_option maxRecDepth 100000 in
theorem zk385 : z_cok zT1 (z_cnt zL7) 20000 [] zm327 zc385 [] = true := by decide +kernel
set_option maxRecDepth 100000 in
theorem zk386 : z_cok zT1 (z_cnt zL7) 20000 [] zm329 zc386 [] = true := by decide +kernel
set_option maxRecDepth 100000 in
theorem zk387 : z_cok zT1 (z_cnt zL7) 20000 [] zm331 zc387 [] = true := by decide +kernel
set_option maxRecDepth 100000 in
theorem zk388 : z_cok zT1 (z_cnt zL7) 20000 [] zm333 zc388 [] = true := by decide +kernel
set_option maxRecDepth 100000 in
theorem zk389 : z_cok zT1 (z_cnt zL7) 20000 [] zm335 zc389 [] = true := by decide +kernel
set_option maxRecDepth 100000 in
theorem zk390 : z_cok zT1 (z_cnt zL7) 20000 [] zm337 zc390 [] = true := by decide +kernel
set_option maxRecDepth 100000 in
def zn391_0 : zNd := (29, (z_li [(.ofNat 0, .ofNat 0), (.negSucc 2147483647, .ofNat 2147483647), (.negSucc 2147483647, .ofNat 2147483647), (.negSucc 2147483647, .ofNat 2147483647), (.negSucc 2147483647, .ofNat 2147483647), (.negSucc 2147483647, .ofNat 2147483647), (.negSucc 2147483647, .ofNat 2147483647), (.negSucc 2147483647, .ofNat 2147483647), (.negSucc 2147483647, .ofNat 2147483647), (.negSucc 2147483647, .ofNat 2147483647), (.ofNat 0, .ofNat 5), (.ofNat 0, .ofNat 89), (.ofNat 0, .ofNat 13), (.ofNat 1, .ofNat 9), (.ofNat 1, .ofNat 6)] (true, [(.ofNat 0, [(14, .negSucc 0), (13, .ofNat 3)])], [], [])), [(0, (2, 155, .ofNat 0)), (1, (0, 10, .ofNat 0)), (2, (0, 11, .ofNat 0)), (3, (0, 12, .ofNat 0))], [], [(156, 3, 1, (0, 13, .ofNat 0)), (156, 7, 1, (0, 14, .ofNat 0))], [], (.ofNat 0, []), none)
def zg391_1 : List zNd := [zn391_0]
def znl391 : List zNd := zg391_1
set_option maxRecDepth 100000 in
theorem zk391_0 : z_ck0 zT1 (z_cnt zL8) 20000 [29] zm233 zc391 znl391 = true := by decide +kernel
set_option maxRecDepth 100000 in
theorem zk391_1 : z_ckn zT1 (z_cnt zL8) 20000 [29] zm233 zc391 znl391 zg391_1 = true := by decide +kernel
theorem zk391 : z_cok zT1 (z_cnt zL8) 20000 [29] zm233 zc391 znl391 = true := z_cok_of zk391_0 (zk391_1)
set_option maxRecDepth 100000 in
theorem zk392 : z_cok zT1 (z_cnt zL8) 20000 [] zm235 zc392 [] = true := by decide +kernel
set_option maxRecDepth 100000 in
theorem zk393 : z_cok zT1 (z_cnt zL8) 20000 [] zm255 zc393 [] = true := by decide +kernel
set_option maxRecDepth 100000 in
theorem zk394 : z_cok zT1 (z_cnt zL8) 20000 [] zm257 zc394 [] = true := by decide +kernel
set_option maxRecDepth 100000 in
theorem zk395 : z_cok zT1 (z_cnt zL8) 20000 [] zm259 zc395 [] = true := by decide +kernel
set_option maxRecDepth 100000 in
theorem zk396 : z_cok zT1 (z_cnt zL8) 20000 [] zm261 zc396 [] = true := by decide +kernel
set_option maxRecDepth 100000 in
theorem zk397 : z_cok zT1 (z_cnt zL8) 20000 [] zm263 zc397 [] = true := by decide +kernel
