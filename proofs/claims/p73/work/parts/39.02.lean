set_option maxRecDepth 100000 in
theorem zk321 : z_cok zT1 (z_cnt zL5) 20000 [] zm46 zc321 [] = true := by decide +kernel
set_option maxRecDepth 100000 in
def zn322_0 : zNd := (2, (z_li [(.ofNat 0, .ofNat 0), (.negSucc 2147483647, .ofNat 2147483647), (.negSucc 2147483647, .ofNat 2147483647), (.negSucc 2147483647, .ofNat 2147483647), (.negSucc 2147483647, .ofNat 2147483647), (.negSucc 2147483647, .ofNat 2147483647), (.negSucc 2147483647, .ofNat 2147483647), (.negSucc 2147483647, .ofNat 2147483647), (.negSucc 2147483647, .ofNat 2147483647), (.negSucc 2147483647, .ofNat 2147483647), (.ofNat 0, .ofNat 9), (.ofNat 0, .ofNat 6), (.ofNat 0, .ofNat 14), (.ofNat 0, .ofNat 6)] (true, [(.ofNat 0, [(11, .negSucc 0), (10, .ofNat 3)])], [], [])), [(0, (2, 155, .ofNat 0)), (1, (0, 13, .ofNat 0))], [], [(156, 0, 1, (0, 12, .ofNat 0)), (156, 3, 1, (0, 10, .ofNat 0)), (156, 7, 1, (0, 11, .ofNat 0))], [(13, 1, 0, 1, 0)], (.ofNat 231, [(13, .negSucc 0)]), none)
set_option maxRecDepth 100000 in
def zn322_1 : zNd := (42, (z_li [(.ofNat 0, .ofNat 0), (.negSucc 2147483647, .ofNat 2147483647), (.negSucc 2147483647, .ofNat 2147483647), (.negSucc 2147483647, .ofNat 2147483647), (.negSucc 2147483647, .ofNat 2147483647), (.negSucc 2147483647, .ofNat 2147483647), (.negSucc 2147483647, .ofNat 2147483647), (.negSucc 2147483647, .ofNat 2147483647), (.negSucc 2147483647, .ofNat 2147483647), (.negSucc 2147483647, .ofNat 2147483647), (.ofNat 0, .ofNat 9), (.ofNat 0, .ofNat 6), (.ofNat 0, .ofNat 14), (.ofNat 0, .ofNat 14)] (true, [(.ofNat 0, [(11, .negSucc 0), (10, .ofNat 3)])], [], [])), [(0, (2, 155, .ofNat 0)), (1, (0, 13, .ofNat 0))], [], [(156, 0, 1, (0, 12, .ofNat 0)), (156, 3, 1, (0, 10, .ofNat 0)), (156, 7, 1, (0, 11, .ofNat 0))], [(13, 1, 0, 1, 0)], (.ofNat 224, [(13, .negSucc 14)]), none)
set_option maxRecDepth 100000 in
def zn322_2 : zNd := (52, (z_li [(.ofNat 0, .ofNat 0), (.negSucc 2147483647, .ofNat 2147483647), (.negSucc 2147483647, .ofNat 2147483647), (.negSucc 2147483647, .ofNat 2147483647), (.negSucc 2147483647, .ofNat 2147483647), (.negSucc 2147483647, .ofNat 2147483647), (.negSucc 2147483647, .ofNat 2147483647), (.negSucc 2147483647, .ofNat 2147483647), (.negSucc 2147483647, .ofNat 2147483647), (.negSucc 2147483647, .ofNat 2147483647), (.ofNat 0, .ofNat 9), (.ofNat 0, .ofNat 6), (.ofNat 0, .ofNat 14), (.ofNat 0, .ofNat 14), (.ofNat 0, .ofNat 6)] (true, [(.ofNat 0, [(11, .negSucc 0), (10, .ofNat 3)]), (.ofNat 0, [(13, .negSucc 0), (12, .ofNat 1)])], [], [])), [(0, (2, 155, .ofNat 0)), (1, (0, 13, .ofNat 0)), (2, (0, 14, .ofNat 0))], [], [(156, 0, 1, (0, 12, .ofNat 0)), (156, 3, 1, (0, 10, .ofNat 0)), (156, 7, 1, (0, 11, .ofNat 0))], [(13, 1, 0, 1, 0), (14, 1, 0, 2, 0)], (.ofNat 223, [(14, .negSucc 0), (13, .negSucc 14)]), none)
set_option maxRecDepth 100000 in
def zn322_3 : zNd := (92, (z_li [(.ofNat 0, .ofNat 0), (.negSucc 2147483647, .ofNat 2147483647), (.negSucc 2147483647, .ofNat 2147483647), (.negSucc 2147483647, .ofNat 2147483647), (.negSucc 2147483647, .ofNat 2147483647), (.negSucc 2147483647, .ofNat 2147483647), (.negSucc 2147483647, .ofNat 2147483647), (.negSucc 2147483647, .ofNat 2147483647), (.negSucc 2147483647, .ofNat 2147483647), (.negSucc 2147483647, .ofNat 2147483647), (.ofNat 0, .ofNat 9), (.ofNat 0, .ofNat 6), (.ofNat 1, .ofNat 14), (.ofNat 0, .ofNat 13), (.ofNat 0, .ofNat 6)] (true, [(.ofNat 0, [(11, .negSucc 0), (10, .ofNat 3)]), (.ofNat 0, [(13, .negSucc 0), (12, .ofNat 1)])], [], [])), [(0, (2, 155, .ofNat 0)), (1, (0, 13, .ofNat 0)), (2, (0, 14, .ofNat 0))], [], [(156, 0, 1, (0, 12, .ofNat 0)), (156, 3, 1, (0, 10, .ofNat 0)), (156, 7, 1, (0, 11, .ofNat 0))], [(13, 1, 0, 1, 0), (14, 1, 0, 2, 0)], (.ofNat 216, [(14, .negSucc 0), (13, .negSucc 14)]), none)
def zg322_1 : List zNd := [zn322_0, zn322_1, zn322_2, zn322_3]
def znl322 : List zNd := zg322_1
set_option maxRecDepth 100000 in
theorem zk322_0 : z_ck0 zT1 (z_cnt zL5) 20000 [2, 42, 52, 92] zm80 zc322 znl322 = true := by decide +kernel
set_option maxRecDepth 100000 in
theorem zk322_1 : z_ckn zT1 (z_cnt zL5) 20000 [2, 42, 52, 92] zm80 zc322 znl322 zg322_1 = true := by decide +kernel
theorem zk322 : z_cok zT1 (z_cnt zL5) 20000 [2, 42, 52, 92] zm80 zc322 znl322 = true := z_cok_of zk322_0 (zk322_1)
set_option maxRecDepth 100000 in
theorem zk323 : z_cok zT1 (z_cnt zL5) 20000 [] zm242 zc323 [] = true := by decide +kernel
set_option maxRecDepth 100000 in
theorem zk324 : z_cok zT1 (z_cnt zL5) 20000 [] zm244 zc324 [] = true := by decide +kernel
set_option maxRecDepth 100000 in
theorem zk325 : z_cok zT1 (z_cnt zL5) 20000 [] zm248 zc325 [] = true := by decide +kernel
set_option maxRecDepth 100000 in
theorem zk326 : z_cok zT1 (z_cnt zL5) 20000 [] zm264 zc326 [] = true := by decide +kernel
set_option maxRecDepth 100000 in
theorem zk327 : z_cok zT1 (z_cnt zL5) 20000 [] zm266 zc327 [] = true := by decide +kernel
set_option maxRecDepth 100000 in
theorem zk328 : z_cok zT1 (z_cnt zL5) 20000 [] zm268 zc328 [] = true := by decide +kernel
set_option maxRecDepth 100000 in
theorem zk329 : z_cok zT1 (z_cnt zL5) 20000 [] zm348 zc329 [] = true := by decide +kernel
set_option maxRecDepth 100000 in
theorem zk330 : z_cok zT1 (z_cnt zL6) 20000 [] zm75 zc330 [] = true := by decide +kernel
set_option maxRecDepth 100000 in
def zn331_0 : zNd := (4, (z_li [(.ofNat 0, .ofNat 0), (.negSucc 2147483647, .ofNat 2147483647), (.negSucc 2147483647, .ofNat 2147483647), (.negSucc 2147483647, .ofNat 2147483647), (.negSucc 2147483647, .ofNat 2147483647), (.negSucc 2147483647, .ofNat 2147483647), (.negSucc 2147483647, .ofNat 2147483647), (.negSucc 2147483647, .ofNat 2147483647), (.negSucc 2147483647, .ofNat 2147483647), (.negSucc 2147483647, .ofNat 2147483647), (.ofNat 0, .ofNat 5), (.ofNat 1, .ofNat 9), (.ofNat 1, .ofNat 6), (.negSucc 0, .ofNat 15), (.ofNat 0, .ofNat 16)] (true, [(.ofNat 0, [(12, .negSucc 0), (11, .ofNat 3)])], [], [])), [(0, (2, 155, .ofNat 0)), (1, (0, 10, .ofNat 0)), (2, (0, 13, .ofNat 0)), (3, (0, 14, .ofNat 0))], [], [(156, 3, 1, (0, 11, .ofNat 0)), (156, 7, 1, (0, 12, .ofNat 0))], [(13, 1, 0, 2, 0), (14, 1, 0, 3, 0)], (.ofNat 101, [(14, .negSucc 5)]), none)
set_option maxRecDepth 100000 in
def zn331_1 : zNd := (20, (z_li [(.ofNat 0, .ofNat 0), (.negSucc 2147483647, .ofNat 2147483647), (.negSucc 2147483647, .ofNat 2147483647), (.negSucc 2147483647, .ofNat 2147483647), (.negSucc 2147483647, .ofNat 2147483647), (.negSucc 2147483647, .ofNat 2147483647), (.negSucc 2147483647, .ofNat 2147483647), (.negSucc 2147483647, .ofNat 2147483647), (.negSucc 2147483647, .ofNat 2147483647), (.negSucc 2147483647, .ofNat 2147483647), (.ofNat 0, .ofNat 5), (.ofNat 1, .ofNat 9), (.ofNat 1, .ofNat 6), (.negSucc 0, .ofNat 15), (.ofNat 0, .ofNat 15), (.ofNat 0, .ofNat 1), (.ofNat 0, .ofNat 4)] (true, [(.ofNat 0, [(12, .negSucc 0), (11, .ofNat 3)])], [], [])), [(0, (2, 155, .ofNat 0)), (1, (0, 10, .ofNat 0)), (2, (0, 13, .ofNat 0)), (3, (0, 14, .ofNat 0)), (4, (0, 15, .ofNat 0)), (5, (0, 16, .ofNat 0))], [], [(156, 3, 1, (0, 11, .ofNat 0)), (156, 7, 1, (0, 12, .ofNat 0))], [(13, 1, 0, 2, 0), (14, 1, 0, 3, 0), (15, 1, 0, 4, 0), (16, 1, 0, 5, 0)], (.ofNat 100, [(16, .negSucc 0), (14, .negSucc 5)]), none)
def zg331_1 : List zNd := [zn331_0, zn331_1]
def znl331 : List zNd := zg331_1
set_option maxRecDepth 100000 in
theorem zk331_0 : z_ck0 zT1 (z_cnt zL6) 20000 [4, 20] zm130 zc331 znl331 = true := by decide +kernel
set_option maxRecDepth 100000 in
theorem zk331_1 : z_ckn zT1 (z_cnt zL6) 20000 [4, 20] zm130 zc331 znl331 zg331_1 = true := by decide +kernel
theorem zk331 : z_cok zT1 (z_cnt zL6) 20000 [4, 20] zm130 zc331 znl331 = true := z_cok_of zk331_0 (zk331_1)
set_option maxRecDepth 100000 in
def zn332_0 : zNd := (20, (z_li [(.ofNat 0, .ofNat 0), (.negSucc 2147483647, .ofNat 2147483647), (.negSucc 2147483647, .ofNat 2147483647), (.negSucc 2147483647, .ofNat 2147483647), (.negSucc 2147483647, .ofNat 2147483647), (.negSucc 2147483647, .ofNat 2147483647), (.negSucc 2147483647, .ofNat 2147483647), (.negSucc 2147483647, .ofNat 2147483647), (.negSucc 2147483647, .ofNat 2147483647), (.negSucc 2147483647, .ofNat 2147483647), (.ofNat 0, .ofNat 5), (.ofNat 0, .ofNat 5), (.ofNat 0, .ofNat 13), (.ofNat 0, .ofNat 3), (.ofNat 1, .ofNat 9), (.ofNat 1, .ofNat 6), (.ofNat 1, .ofNat 41)] (true, [(.ofNat 0, [(15, .negSucc 0), (14, .ofNat 3)])], [], [])), [(0, (2, 155, .ofNat 0)), (1, (0, 10, .ofNat 0)), (2, (0, 11, .ofNat 0))], [], [(155, 19, 2, (0, 12, .ofNat 0)), (155, 21, 1, (0, 16, .ofNat 0)), (156, 3, 1, (0, 14, .ofNat 0)), (156, 7, 1, (0, 15, .ofNat 0))], [(16, 1, 2, 155, 21)], (.ofNat 41, [(16, .negSucc 0)]), none)
def zg332_1 : List zNd := [zn332_0]
def znl332 : List zNd := zg332_1
set_option maxRecDepth 100000 in
theorem zk332_0 : z_ck0 zT1 (z_cnt zL6) 20000 [20] zm134 zc332 znl332 = true := by decide +kernel
set_option maxRecDepth 100000 in
theorem zk332_1 : z_ckn zT1 (z_cnt zL6) 20000 [20] zm134 zc332 znl332 zg332_1 = true := by decide +kernel
theorem zk332 : z_cok zT1 (z_cnt zL6) 20000 [20] zm134 zc332 znl332 = true := z_cok_of zk332_0 (zk332_1)
set_option maxRecDepth 100000 in
theorem zk337 : z_cok zT1 (z_cnt zL6) 20000 [] zm164 zc337 [] = true := by decide +kernel
set_option maxRecDepth 100000 in
def zn338_0 : zNd := (13, (z_li [(.ofNat 0, .ofNat 0), (.negSucc 2147483647, .ofNat 2147483647), (.negSucc 2147483647, .ofNat 2147483647), (.negSucc 2147483647, .ofNat 2147483647), (.negSucc 2147483647, .ofNat 2147483647), (.negSucc 2147483647, .ofNat 2147483647), (.negSucc 2147483647, .ofNat 2147483647), (.negSucc 2147483647, .ofNat 2147483647), (.negSucc 2147483647, .ofNat 2147483647), (.negSucc 2147483647, .ofNat 2147483647), (.ofNat 0, .ofNat 255), (.ofNat 0, .ofNat 9), (.ofNat 0, .ofNat 6), (.negSucc 2147483647, .ofNat 2147483647), (.ofNat 0, .ofNat 6)] (true, [(.ofNat 0, [(12, .negSucc 0), (11, .ofNat 3)])], [], [])), [(0, (2, 155, .ofNat 0)), (2, (0, 13, .ofNat 0)), (3, (0, 14, .ofNat 0))], [], [(156, 3, 1, (0, 11, .ofNat 0)), (156, 7, 1, (0, 12, .ofNat 0))], [(13, 1, 0, 2, 0), (14, 1, 0, 3, 0)], (.ofNat 6, [(14, .negSucc 0)]), none)
def zg338_1 : List zNd := [zn338_0]
def znl338 : List zNd := zg338_1
set_option maxRecDepth 100000 in
theorem zk338_0 : z_ck0 zT1 (z_cnt zL6) 20000 [13] zm169 zc338 znl338 = true := by decide +kernel
set_option maxRecDepth 100000 in
theorem zk338_1 : z_ckn zT1 (z_cnt zL6) 20000 [13] zm169 zc338 znl338 zg338_1 = true := by decide +kernel
theorem zk338 : z_cok zT1 (z_cnt zL6) 20000 [13] zm169 zc338 znl338 = true := z_cok_of zk338_0 (zk338_1)
set_option maxRecDepth 100000 in
theorem zk339 : z_cok zT1 (z_cnt zL6) 20000 [] zm183 zc339 [] = true := by decide +kernel
set_option maxRecDepth 100000 in
def zn341_0 : zNd := (14, (z_li [(.ofNat 0, .ofNat 0), (.negSucc 2147483647, .ofNat 2147483647), (.negSucc 2147483647, .ofNat 2147483647), (.negSucc 2147483647, .ofNat 2147483647), (.negSucc 2147483647, .ofNat 2147483647), (.negSucc 2147483647, .ofNat 2147483647), (.negSucc 2147483647, .ofNat 2147483647), (.negSucc 2147483647, .ofNat 2147483647), (.negSucc 2147483647, .ofNat 2147483647), (.negSucc 2147483647, .ofNat 2147483647), (.ofNat 0, .ofNat 2147483647), (.ofNat 0, .ofNat 9), (.ofNat 0, .ofNat 6), (.ofNat 0, .ofNat 2147483647), (.ofNat 0, .ofNat 9)] (true, [(.ofNat 0, [(12, .negSucc 0), (11, .ofNat 3)])], [], [])), [(0, (2, 155, .ofNat 0)), (3, (1, 13, .ofNat 0)), (5, (0, 14, .ofNat 0))], [], [(156, 3, 1, (0, 11, .ofNat 0)), (156, 7, 1, (0, 12, .ofNat 0))], [(13, 1, 0, 3, 0), (14, 1, 0, 5, 0)], (.ofNat 16, [(14, .negSucc 0)]), none)
set_option maxRecDepth 100000 in
def zn341_1 : zNd := (93, (z_li [(.ofNat 0, .ofNat 0), (.negSucc 2147483647, .ofNat 2147483647), (.negSucc 2147483647, .ofNat 2147483647), (.negSucc 2147483647, .ofNat 2147483647), (.negSucc 2147483647, .ofNat 2147483647), (.negSucc 2147483647, .ofNat 2147483647), (.negSucc 2147483647, .ofNat 2147483647), (.negSucc 2147483647, .ofNat 2147483647), (.negSucc 2147483647, .ofNat 2147483647), (.negSucc 2147483647, .ofNat 2147483647), (.ofNat 0, .ofNat 2147483647), (.ofNat 0, .ofNat 9), (.ofNat 0, .ofNat 6), (.ofNat 0, .ofNat 63), (.ofNat 0, .ofNat 6)] (true, [(.ofNat 0, [(12, .negSucc 0), (11, .ofNat 3)])], [], [])), [(0, (2, 155, .ofNat 0)), (5, (0, 13, .ofNat 0)), (6, (0, 14, .ofNat 0))], [], [(156, 3, 1, (0, 11, .ofNat 0)), (156, 7, 1, (0, 12, .ofNat 0))], [(13, 1, 0, 5, 0), (14, 1, 0, 6, 0)], (.ofNat 6, [(14, .negSucc 0)]), none)
def zg341_1 : List zNd := [zn341_0, zn341_1]
def znl341 : List zNd := zg341_1
set_option maxRecDepth 100000 in
theorem zk341_0 : z_ck0 zT1 (z_cnt zL6) 20000 [14, 93] zm196 zc341 znl341 = true := by decide +kernel
set_option maxRecDepth 100000 in
theorem zk341_1 : z_ckn zT1 (z_cnt zL6) 20000 [14, 93] zm196 zc341 znl341 zg341_1 = true := by decide +kernel
theorem zk341 : z_cok zT1 (z_cnt zL6) 20000 [14, 93] zm196 zc341 znl341 = true := z_cok_of zk341_0 (zk341_1)
set_option maxRecDepth 100000 in
def zn342_0 : zNd := (53, (z_li [(.ofNat 0, .ofNat 0), (.negSucc 2147483647, .ofNat 2147483647), (.negSucc 2147483647, .ofNat 2147483647), (.negSucc 2147483647, .ofNat 2147483647), (.negSucc 2147483647, .ofNat 2147483647), (.negSucc 2147483647, .ofNat 2147483647), (.negSucc 2147483647, .ofNat 2147483647), (.negSucc 2147483647, .ofNat 2147483647), (.negSucc 2147483647, .ofNat 2147483647), (.negSucc 2147483647, .ofNat 2147483647), (.ofNat 0, .ofNat 9), (.ofNat 0, .ofNat 6), (.ofNat 0, .ofNat 700), (.ofNat 0, .ofNat 700), (.ofNat 0, .ofNat 4)] (true, [(.ofNat 0, [(11, .negSucc 0), (10, .ofNat 3)])], [], [])), [(0, (2, 155, .ofNat 0))], [], [(155, 7, 2, (0, 12, .ofNat 0)), (155, 10, 1, (0, 14, .ofNat 0)), (155, 12, 1, (0, 0, .ofNat 0)), (156, 3, 1, (0, 10, .ofNat 0)), (156, 7, 1, (0, 11, .ofNat 0)), (161, 0, 1, (0, 0, .ofNat 0)), (161, 1, 1, (0, 0, .ofNat 0)), (161, 2, 1, (0, 0, .ofNat 0)), (161, 3, 1, (0, 0, .ofNat 0)), (161, 4, 1, (0, 0, .ofNat 0)), (161, 5, 1, (0, 0, .ofNat 0)), (161, 6, 1, (0, 0, .ofNat 0)), (161, 7, 1, (0, 0, .ofNat 0)), (161, 8, 1, (0, 0, .ofNat 0)), (161, 9, 1, (0, 0, .ofNat 0)), (161, 10, 1, (0, 0, .ofNat 0)), (161, 11, 1, (0, 0, .ofNat 0)), (161, 12, 1, (0, 0, .ofNat 0)), (161, 13, 1, (0, 0, .ofNat 0)), (161, 14, 1, (0, 0, .ofNat 0)), (161, 15, 1, (0, 0, .ofNat 0)), (161, 16, 1, (0, 0, .ofNat 0)), (161, 17, 1, (0, 0, .ofNat 0)), (161, 18, 1, (0, 0, .ofNat 0)), (161, 19, 1, (0, 0, .ofNat 0)), (161, 20, 1, (0, 0, .ofNat 0)), (161, 21, 1, (0, 0, .ofNat 0)), (161, 22, 1, (0, 0, .ofNat 0)), (161, 23, 1, (0, 0, .ofNat 0)), (161, 24, 1, (0, 0, .ofNat 0)), (161, 25, 1, (0, 0, .ofNat 0)), (161, 26, 1, (0, 0, .ofNat 0)), (161, 27, 1, (0, 0, .ofNat 0)), (161, 28, 1, (0, 0, .ofNat 0)), (161, 29, 1, (0, 0, .ofNat 0)), (161, 30, 1, (0, 0, .ofNat 0)), (161, 31, 1, (0, 0, .ofNat 0)), (161, 32, 1, (0, 0, .ofNat 0)), (161, 33, 1, (0, 0, .ofNat 0)), (161, 34, 1, (0, 0, .ofNat 0)), (161, 35, 1, (0, 0, .ofNat 0)), (161, 36, 1, (0, 0, .ofNat 0)), (161, 37, 1, (0, 0, .ofNat 0)), (161, 38, 1, (0, 0, .ofNat 0)), (161, 39, 1, (0, 0, .ofNat 0)), (161, 40, 1, (0, 0, .ofNat 0)), (161, 41, 1, (0, 0, .ofNat 0)), (161, 42, 1, (0, 0, .ofNat 0)), (161, 43, 1, (0, 0, .ofNat 0)), (161, 44, 1, (0, 0, .ofNat 0)), (161, 45, 1, (0, 0, .ofNat 0)), (161, 46, 1, (0, 0, .ofNat 0)), (161, 47, 1, (0, 0, .ofNat 0)), (161, 48, 1, (0, 0, .ofNat 0)), (161, 49, 1, (0, 0, .ofNat 0)), (161, 50, 1, (0, 0, .ofNat 0)), (161, 51, 1, (0, 0, .ofNat 0)), (161, 52, 1, (0, 0, .ofNat 0)), (161, 53, 1, (0, 0, .ofNat 0)), (161, 54, 1, (0, 0, .ofNat 0)), (161, 55, 1, (0, 0, .ofNat 0)), (161, 56, 1, (0, 0, .ofNat 0)), (161, 57, 1, (0, 0, .ofNat 0)), (161, 58, 1, (0, 0, .ofNat 0)), (161, 59, 1, (0, 0, .ofNat 0)), (161, 60, 1, (0, 0, .ofNat 0)), (161, 61, 1, (0, 0, .ofNat 0)), (161, 62, 1, (0, 0, .ofNat 0)), (161, 63, 1, (0, 0, .ofNat 0)), (161, 64, 1, (0, 0, .ofNat 0)), (161, 65, 1, (0, 0, .ofNat 0)), (161, 66, 1, (0, 0, .ofNat 0)), (161, 67, 1, (0, 0, .ofNat 0)), (161, 68, 1, (0, 0, .ofNat 0)), (161, 69, 1, (0, 0, .ofNat 0)), (161, 70, 1, (0, 0, .ofNat 0)), (161, 71, 1, (0, 0, .ofNat 0)), (161, 72, 1, (0, 0, .ofNat 0)), (161, 73, 1, (0, 0, .ofNat 0)), (161, 74, 1, (0, 0, .ofNat 0)), (161, 75, 1, (0, 0, .ofNat 0)), (161, 76, 1, (0, 0, .ofNat 0)), (161, 77, 1, (0, 0, .ofNat 0)), (161, 78, 1, (0, 0, .ofNat 0)), (161, 79, 1, (0, 0, .ofNat 0)), (161, 80, 1, (0, 0, .ofNat 0)), (161, 81, 1, (0, 0, .ofNat 0)), (161, 82, 1, (0, 0, .ofNat 0)), (161, 83, 1, (0, 0, .ofNat 0)), (161, 84, 1, (0, 0, .ofNat 0)), (161, 85, 1, (0, 0, .ofNat 0)), (161, 86, 1, (0, 0, .ofNat 0)), (161, 87, 1, (0, 0, .ofNat 0)), (161, 88, 1, (0, 0, .ofNat 0)), (161, 89, 1, (0, 0, .ofNat 0)), (161, 90, 1, (0, 0, .ofNat 0)), (161, 91, 1, (0, 0, .ofNat 0)), (161, 92, 1, (0, 0, .ofNat 0)), (161, 93, 1, (0, 0, .ofNat 0)), (161, 94, 1, (0, 0, .ofNat 0)), (161, 95, 1, (0, 0, .ofNat 0)), (161, 96, 1, (0, 0, .ofNat 0)), (161, 97, 1, (0, 0, .ofNat 0)), (161, 98, 1, (0, 0, .ofNat 0)), (161, 99, 1, (0, 0, .ofNat 0))], [(12, 2, 2, 155, 7), (14, 1, 2, 155, 10)], (.ofNat 1390, []), none)
set_option maxRecDepth 100000 in
def zn342_1 : zNd := (53, (z_li [(.ofNat 0, .ofNat 0), (.negSucc 2147483647, .ofNat 2147483647), (.negSucc 2147483647, .ofNat 2147483647), (.negSucc 2147483647, .ofNat 2147483647), (.negSucc 2147483647, .ofNat 2147483647), (.negSucc 2147483647, .ofNat 2147483647), (.negSucc 2147483647, .ofNat 2147483647), (.negSucc 2147483647, .ofNat 2147483647), (.negSucc 2147483647, .ofNat 2147483647), (.negSucc 2147483647, .ofNat 2147483647), (.ofNat 0, .ofNat 9), (.ofNat 0, .ofNat 6), (.ofNat 0, .ofNat 700), (.ofNat 6, .ofNat 700), (.ofNat 0, .ofNat 4), (.ofNat 2, .ofNat 9), (.negSucc 2147483647, .ofNat 2147483647)] (true, [(.ofNat 0, [(11, .negSucc 0), (10, .ofNat 3)])], [], [])), [(0, (2, 155, .ofNat 0))], [], [(155, 7, 2, (0, 12, .ofNat 0)), (155, 10, 1, (0, 14, .ofNat 0)), (155, 12, 1, (0, 0, .ofNat 0)), (156, 3, 1, (0, 10, .ofNat 0)), (156, 7, 1, (0, 11, .ofNat 0)), (161, 3, 1, (0, 15, .ofNat 0)), (161, 10, 1, (0, 16, .ofNat 0))], [(12, 2, 2, 155, 7), (14, 1, 2, 155, 10), (15, 1, 2, 161, 3), (16, 1, 2, 161, 10)], (.ofNat 1401, [(13, .negSucc 1)]), none)
set_option maxRecDepth 100000 in
def zn342_2 : zNd := (53, (z_li [(.ofNat 0, .ofNat 0), (.negSucc 2147483647, .ofNat 2147483647), (.negSucc 2147483647, .ofNat 2147483647), (.negSucc 2147483647, .ofNat 2147483647), (.negSucc 2147483647, .ofNat 2147483647), (.negSucc 2147483647, .ofNat 2147483647), (.negSucc 2147483647, .ofNat 2147483647), (.negSucc 2147483647, .ofNat 2147483647), (.negSucc 2147483647, .ofNat 2147483647), (.negSucc 2147483647, .ofNat 2147483647), (.ofNat 0, .ofNat 9), (.ofNat 0, .ofNat 6), (.ofNat 0, .ofNat 700), (.ofNat 0, .ofNat 700), (.ofNat 0, .ofNat 4), (.ofNat 1, .ofNat 3), (.ofNat 0, .ofNat 9), (.negSucc 2147483647, .ofNat 2147483647)] (true, [(.ofNat 0, [(11, .negSucc 0), (10, .ofNat 3)])], [], [])), [(0, (2, 155, .ofNat 0))], [], [(155, 7, 2, (0, 12, .ofNat 0)), (155, 10, 1, (0, 14, .ofNat 0)), (155, 12, 1, (0, 15, .ofNat 0)), (156, 3, 1, (0, 10, .ofNat 0)), (156, 7, 1, (0, 11, .ofNat 0)), (161, 3, 1, (0, 16, .ofNat 0)), (161, 10, 1, (0, 17, .ofNat 0))], [(12, 2, 2, 155, 7), (14, 1, 2, 155, 10), (15, 1, 2, 155, 12), (16, 1, 2, 161, 3), (17, 1, 2, 161, 10)], (.ofNat 0, []), none)
def zg342_1 : List zNd := [zn342_0]
def zg342_2 : List zNd := [zn342_1, zn342_2]
def znl342 : List zNd := zg342_1 ++ (zg342_2)
set_option maxRecDepth 100000 in
theorem zk342_0 : z_ck0 zT1 (z_cnt zL6) 20000 [53] zm349 zc342 znl342 = true := by decide +kernel
set_option maxRecDepth 100000 in
theorem zk342_1 : z_ckn zT1 (z_cnt zL6) 20000 [53] zm349 zc342 znl342 zg342_1 = true := by decide +kernel
set_option maxRecDepth 100000 in
theorem zk342_2 : z_ckn zT1 (z_cnt zL6) 20000 [53] zm349 zc342 znl342 zg342_2 = true := by decide +kernel
theorem zk342 : z_cok zT1 (z_cnt zL6) 20000 [53] zm349 zc342 znl342 = true := z_cok_of zk342_0 (z_ckn_app zk342_1 (zk342_2))
set_option maxRecDepth 100000 in
theorem zk344 : z_cok zT1 (z_cnt zL7) 20000 [] zm190 zc344 [] = true := by decide +kernel
set_option maxRecDepth 100000 in
theorem zk345 : z_cok zT1 (z_cnt zL7) 20000 [] zm190 zc345 [] = true := by decide +kernel
set_option maxRecDepth 100000 in
def zn346_0 : zNd := (36, (z_li [(.ofNat 0, .ofNat 0), (.negSucc 2147483647, .ofNat 2147483647), (.negSucc 2147483647, .ofNat 2147483647), (.negSucc 2147483647, .ofNat 2147483647), (.negSucc 2147483647, .ofNat 2147483647), (.negSucc 2147483647, .ofNat 2147483647), (.negSucc 2147483647, .ofNat 2147483647), (.negSucc 2147483647, .ofNat 2147483647), (.negSucc 2147483647, .ofNat 2147483647), (.negSucc 2147483647, .ofNat 2147483647), (.ofNat 0, .ofNat 2000000000), (.ofNat 1, .ofNat 20), (.ofNat 0, .ofNat 5), (.ofNat 1, .ofNat 9), (.ofNat 1, .ofNat 6), (.negSucc 2147483647, .ofNat 2147483647), (.ofNat 0, .ofNat 20)] (true, [(.ofNat 0, [(14, .negSucc 0), (13, .ofNat 3)])], [], [])), [(0, (2, 155, .ofNat 0)), (1, (0, 10, .ofNat 0)), (2, (0, 11, .ofNat 0)), (3, (0, 12, .ofNat 0)), (4, (0, 15, .ofNat 0)), (5, (0, 16, .ofNat 0))], [], [(156, 3, 1, (0, 13, .ofNat 0)), (156, 7, 1, (0, 14, .ofNat 0))], [(15, 1, 0, 4, 0), (16, 1, 0, 5, 0)], (.ofNat 20, [(16, .negSucc 0)]), none)
def zg346_1 : List zNd := [zn346_0]
def znl346 : List zNd := zg346_1
set_option maxRecDepth 100000 in
theorem zk346_0 : z_ck0 zT1 (z_cnt zL7) 20000 [36] zm225 zc346 znl346 = true := by decide +kernel
set_option maxRecDepth 100000 in
theorem zk346_1 : z_ckn zT1 (z_cnt zL7) 20000 [36] zm225 zc346 znl346 zg346_1 = true := by decide +kernel
theorem zk346 : z_cok zT1 (z_cnt zL7) 20000 [36] zm225 zc346 znl346 = true := z_cok_of zk346_0 (zk346_1)
set_option maxRecDepth 100000 in
theorem zk347 : z_cok zT1 (z_cnt zL7) 20000 [] zm227 zc347 [] = true := by decide +kernel
set_option maxRecDepth 100000 in
theorem zk348 : z_cok zT1 (z_cnt zL7) 20000 [] zm237 zc348 [] = true := by decide +kernel
set_option maxRecDepth 100000 in
theorem zk349 : z_cok zT1 (z_cnt zL7) 20000 [] zm239 zc349 [] = true := by decide +kernel
set_option maxRecDepth 100000 in
theorem zk350 : z_cok zT1 (z_cnt zL7) 20000 [] zm241 zc350 [] = true := by decide +kernel
set_option maxRecDepth 100000 in
def zn351_0 : zNd := (17, (z_li [(.ofNat 0, .ofNat 0), (.negSucc 2147483647, .ofNat 2147483647), (.negSucc 2147483647, .ofNat 2147483647), (.negSucc 2147483647, .ofNat 2147483647), (.negSucc 2147483647, .ofNat 2147483647), (.negSucc 2147483647, .ofNat 2147483647), (.negSucc 2147483647, .ofNat 2147483647), (.negSucc 2147483647, .ofNat 2147483647), (.negSucc 2147483647, .ofNat 2147483647), (.negSucc 2147483647, .ofNat 2147483647), (.ofNat 0, .ofNat 5), (.ofNat 0, .ofNat 5), (.ofNat 0, .ofNat 9), (.ofNat 0, .ofNat 6), (.ofNat 0, .ofNat 15), (.ofNat 0, .ofNat 4)] (true, [(.ofNat 0, [(13, .negSucc 0), (12, .ofNat 3)])], [], [])), [(0, (2, 155, .ofNat 0)), (1, (0, 10, .ofNat 0)), (2, (0, 11, .ofNat 0)), (3, (0, 14, .ofNat 0)), (4, (0, 15, .ofNat 0))], [], [(156, 3, 1, (0, 12, .ofNat 0)), (156, 7, 1, (0, 13, .ofNat 0))], [(14, 1, 0, 3, 0), (15, 1, 0, 4, 0)], (.ofNat 4, [(15, .negSucc 0)]), none)
def zg351_1 : List zNd := [zn351_0]
def znl351 : List zNd := zg351_1
set_option maxRecDepth 100000 in
theorem zk351_0 : z_ck0 zT1 (z_cnt zL7) 20000 [17] zm243 zc351 znl351 = true := by decide +kernel
set_option maxRecDepth 100000 in
theorem zk351_1 : z_ckn zT1 (z_cnt zL7) 20000 [17] zm243 zc351 znl351 zg351_1 = true := by decide +kernel
theorem zk351 : z_cok zT1 (z_cnt zL7) 20000 [17] zm243 zc351 znl351 = true := z_cok_of zk351_0 (zk351_1)
set_option maxRecDepth 100000 in
def zn352_0 : zNd := (39, (z_li [(.ofNat 0, .ofNat 0), (.negSucc 2147483647, .ofNat 2147483647), (.negSucc 2147483647, .ofNat 2147483647), (.negSucc 2147483647, .ofNat 2147483647), (.negSucc 2147483647, .ofNat 2147483647), (.negSucc 2147483647, .ofNat 2147483647), (.negSucc 2147483647, .ofNat 2147483647), (.negSucc 2147483647, .ofNat 2147483647), (.negSucc 2147483647, .ofNat 2147483647), (.negSucc 2147483647, .ofNat 2147483647), (.ofNat 0, .ofNat 7), (.ofNat 0, .ofNat 1), (.ofNat 0, .ofNat 9), (.ofNat 0, .ofNat 6), (.ofNat 1, .ofNat 8), (.ofNat 0, .ofNat 256)] (true, [(.ofNat 0, [(13, .negSucc 0), (12, .ofNat 3)])], [], [])), [(0, (2, 155, .ofNat 0)), (1, (0, 10, .ofNat 0)), (2, (0, 11, .ofNat 0)), (3, (0, 14, .ofNat 0)), (4, (0, 15, .ofNat 0))], [], [(156, 3, 1, (0, 12, .ofNat 0)), (156, 7, 1, (0, 13, .ofNat 0))], [(14, 1, 0, 3, 0), (15, 1, 0, 4, 0)], (.ofNat 513, [(15, .negSucc 0)]), none)
set_option maxRecDepth 100000 in
def zn352_1 : zNd := (72, (z_li [(.ofNat 0, .ofNat 0), (.negSucc 2147483647, .ofNat 2147483647), (.negSucc 2147483647, .ofNat 2147483647), (.negSucc 2147483647, .ofNat 2147483647), (.negSucc 2147483647, .ofNat 2147483647), (.negSucc 2147483647, .ofNat 2147483647), (.negSucc 2147483647, .ofNat 2147483647), (.negSucc 2147483647, .ofNat 2147483647), (.negSucc 2147483647, .ofNat 2147483647), (.negSucc 2147483647, .ofNat 2147483647), (.ofNat 0, .ofNat 7), (.ofNat 0, .ofNat 1), (.ofNat 0, .ofNat 9), (.ofNat 0, .ofNat 6), (.ofNat 1, .ofNat 8), (.negSucc 9223372036854775807, .ofNat 9223372036854775807), (.ofNat 0, .ofNat 256)] (true, [(.ofNat 0, [(13, .negSucc 0), (12, .ofNat 3)])], [], [])), [(0, (2, 155, .ofNat 0)), (1, (0, 10, .ofNat 0)), (2, (0, 11, .ofNat 0)), (3, (0, 14, .ofNat 0)), (4, (1, 15, .ofNat 0)), (6, (0, 16, .ofNat 0))], [], [(156, 3, 1, (0, 12, .ofNat 0)), (156, 7, 1, (0, 13, .ofNat 0))], [(14, 1, 0, 3, 0), (15, 1, 0, 4, 0), (16, 1, 0, 6, 0)], (.ofNat 256, [(16, .negSucc 0)]), none)
def zg352_1 : List zNd := [zn352_0, zn352_1]
def znl352 : List zNd := zg352_1
set_option maxRecDepth 100000 in
theorem zk352_0 : z_ck0 zT1 (z_cnt zL7) 20000 [39, 72] zm245 zc352 znl352 = true := by decide +kernel
set_option maxRecDepth 100000 in
theorem zk352_1 : z_ckn zT1 (z_cnt zL7) 20000 [39, 72] zm245 zc352 znl352 zg352_1 = true := by decide +kernel
theorem zk352 : z_cok zT1 (z_cnt zL7) 20000 [39, 72] zm245 zc352 znl352 = true := z_cok_of zk352_0 (zk352_1)
set_option maxRecDepth 100000 in
theorem zk353 : z_cok zT1 (z_cnt zL7) 20000 [] zm247 zc353 [] = true := by decide +kernel
set_option maxRecDepth 100000 in
def zn354_0 : zNd := (18, (z_li [(.ofNat 0, .ofNat 0), (.negSucc 2147483647, .ofNat 2147483647), (.negSucc 2147483647, .ofNat 2147483647), (.negSucc 2147483647, .ofNat 2147483647), (.negSucc 2147483647, .ofNat 2147483647), (.negSucc 2147483647, .ofNat 2147483647), (.negSucc 2147483647, .ofNat 2147483647), (.negSucc 2147483647, .ofNat 2147483647), (.negSucc 2147483647, .ofNat 2147483647), (.negSucc 2147483647, .ofNat 2147483647), (.ofNat 0, .ofNat 9), (.ofNat 0, .ofNat 6), (.ofNat 0, .ofNat 3), (.negSucc 2147483647, .ofNat 2147483647), (.ofNat 0, .ofNat 4)] (true, [(.ofNat 0, [(11, .negSucc 0), (10, .ofNat 3)])], [], [])), [(0, (2, 155, .ofNat 0)), (1, (0, 12, .ofNat 0)), (2, (0, 13, .ofNat 0)), (3, (0, 14, .ofNat 0))], [], [(156, 3, 1, (0, 10, .ofNat 0)), (156, 7, 1, (0, 11, .ofNat 0))], [(12, 1, 0, 1, 0), (13, 1, 0, 2, 0), (14, 1, 0, 3, 0)], (.ofNat 4, [(14, .negSucc 0)]), none)
def zg354_1 : List zNd := [zn354_0]
def znl354 : List zNd := zg354_1
set_option maxRecDepth 100000 in
theorem zk354_0 : z_ck0 zT1 (z_cnt zL7) 20000 [18] zm249 zc354 znl354 = true := by decide +kernel
set_option maxRecDepth 100000 in
theorem zk354_1 : z_ckn zT1 (z_cnt zL7) 20000 [18] zm249 zc354 znl354 zg354_1 = true := by decide +kernel
theorem zk354 : z_cok zT1 (z_cnt zL7) 20000 [18] zm249 zc354 znl354 = true := z_cok_of zk354_0 (zk354_1)
set_option maxRecDepth 100000 in
theorem zk355 : z_cok zT1 (z_cnt zL7) 20000 [] zm251 zc355 [] = true := by decide +kernel
set_option maxRecDepth 100000 in
def zn357_0 : zNd := (19, (z_li [(.ofNat 0, .ofNat 0), (.negSucc 2147483647, .ofNat 2147483647), (.negSucc 2147483647, .ofNat 2147483647), (.negSucc 2147483647, .ofNat 2147483647), (.negSucc 2147483647, .ofNat 2147483647), (.negSucc 2147483647, .ofNat 2147483647), (.negSucc 2147483647, .ofNat 2147483647), (.negSucc 2147483647, .ofNat 2147483647), (.negSucc 2147483647, .ofNat 2147483647), (.negSucc 2147483647, .ofNat 2147483647), (.ofNat 0, .ofNat 9), (.ofNat 0, .ofNat 6), (.ofNat 0, .ofNat 16), (.negSucc 0, .ofNat 7), (.ofNat 0, .ofNat 8)] (true, [(.ofNat 0, [(11, .negSucc 0), (10, .ofNat 3)])], [], [])), [(0, (2, 155, .ofNat 0)), (1, (0, 12, .ofNat 0)), (2, (0, 13, .ofNat 0)), (3, (0, 14, .ofNat 0))], [], [(156, 3, 1, (0, 10, .ofNat 0)), (156, 7, 1, (0, 11, .ofNat 0))], [(12, 1, 0, 1, 0), (13, 1, 0, 2, 0), (14, 1, 0, 3, 0)], (.ofNat 8, [(14, .negSucc 0)]), none)
def zg357_1 : List zNd := [zn357_0]
def znl357 : List zNd := zg357_1
set_option maxRecDepth 100000 in
theorem zk357_0 : z_ck0 zT1 (z_cnt zL7) 20000 [19] zm265 zc357 znl357 = true := by decide +kernel
set_option maxRecDepth 100000 in
theorem zk357_1 : z_ckn zT1 (z_cnt zL7) 20000 [19] zm265 zc357 znl357 zg357_1 = true := by decide +kernel
theorem zk357 : z_cok zT1 (z_cnt zL7) 20000 [19] zm265 zc357 znl357 = true := z_cok_of zk357_0 (zk357_1)
set_option maxRecDepth 100000 in
def zn358_0 : zNd := (19, (z_li [(.ofNat 0, .ofNat 0), (.negSucc 2147483647, .ofNat 2147483647), (.negSucc 2147483647, .ofNat 2147483647), (.negSucc 2147483647, .ofNat 2147483647), (.negSucc 2147483647, .ofNat 2147483647), (.negSucc 2147483647, .ofNat 2147483647), (.negSucc 2147483647, .ofNat 2147483647), (.negSucc 2147483647, .ofNat 2147483647), (.negSucc 2147483647, .ofNat 2147483647), (.negSucc 2147483647, .ofNat 2147483647), (.ofNat 0, .ofNat 9), (.ofNat 0, .ofNat 6), (.ofNat 0, .ofNat 16), (.negSucc 0, .ofNat 8), (.ofNat 0, .ofNat 9)] (true, [(.ofNat 0, [(11, .negSucc 0), (10, .ofNat 3)])], [], [])), [(0, (2, 155, .ofNat 0)), (1, (0, 12, .ofNat 0)), (2, (0, 13, .ofNat 0)), (3, (0, 14, .ofNat 0))], [], [(156, 3, 1, (0, 10, .ofNat 0)), (156, 7, 1, (0, 11, .ofNat 0))], [(12, 1, 0, 1, 0), (13, 1, 0, 2, 0), (14, 1, 0, 3, 0)], (.ofNat 9, [(14, .negSucc 0)]), none)
def zg358_1 : List zNd := [zn358_0]
def znl358 : List zNd := zg358_1
set_option maxRecDepth 100000 in
theorem zk358_0 : z_ck0 zT1 (z_cnt zL7) 20000 [19] zm267 zc358 znl358 = true := by decide +kernel
set_option maxRecDepth 100000 in
theorem zk358_1 : z_ckn zT1 (z_cnt zL7) 20000 [19] zm267 zc358 znl358 zg358_1 = true := by decide +kernel
theorem zk358 : z_cok zT1 (z_cnt zL7) 20000 [19] zm267 zc358 znl358 = true := z_cok_of zk358_0 (zk358_1)
set_option maxRecDepth 100000 in
def zn359_0 : zNd := (29, (z_li [(.ofNat 0, .ofNat 0), (.negSucc 2147483647, .ofNat 2147483647), (.negSucc 2147483647, .ofNat 2147483647), (.negSucc 2147483647, .ofNat 2147483647), (.negSucc 2147483647, .ofNat 2147483647), (.negSucc 2147483647, .ofNat 2147483647), (.negSucc 2147483647, .ofNat 2147483647), (.negSucc 2147483647, .ofNat 2147483647), (.negSucc 2147483647, .ofNat 2147483647), (.negSucc 2147483647, .ofNat 2147483647), (.ofNat 0, .ofNat 5), (.ofNat 0, .ofNat 5), (.ofNat 1, .ofNat 9), (.ofNat 1, .ofNat 6), (.negSucc 0, .ofNat 239), (.ofNat 1, .ofNat 1000000000), (.ofNat 0, .ofNat 14)] (true, [(.ofNat 0, [(13, .negSucc 0), (12, .ofNat 3)])], [], [])), [(0, (2, 155, .ofNat 0)), (1, (0, 10, .ofNat 0)), (2, (0, 11, .ofNat 0)), (3, (0, 14, .ofNat 0)), (4, (0, 15, .ofNat 0)), (5, (0, 16, .ofNat 0))], [], [(156, 3, 1, (0, 12, .ofNat 0)), (156, 7, 1, (0, 13, .ofNat 0))], [(14, 1, 0, 3, 0), (15, 1, 0, 4, 0), (16, 1, 0, 5, 0)], (.negSucc 0, [(16, .negSucc 5), (15, .ofNat 90)]), none)
set_option maxRecDepth 100000 in
def zn359_1 : zNd := (41, (z_li [(.ofNat 0, .ofNat 0), (.negSucc 2147483647, .ofNat 2147483647), (.negSucc 2147483647, .ofNat 2147483647), (.negSucc 2147483647, .ofNat 2147483647), (.negSucc 2147483647, .ofNat 2147483647), (.negSucc 2147483647, .ofNat 2147483647), (.negSucc 2147483647, .ofNat 2147483647), (.negSucc 2147483647, .ofNat 2147483647), (.negSucc 2147483647, .ofNat 2147483647), (.negSucc 2147483647, .ofNat 2147483647), (.ofNat 0, .ofNat 5), (.ofNat 0, .ofNat 5), (.ofNat 1, .ofNat 9), (.ofNat 1, .ofNat 6), (.negSucc 0, .ofNat 239), (.ofNat 1, .ofNat 1000000000), (.ofNat 0, .ofNat 13), (.ofNat 0, .ofNat 4)] (true, [(.ofNat 0, [(13, .negSucc 0), (12, .ofNat 3)])], [], [])), [(0, (2, 155, .ofNat 0)), (1, (0, 10, .ofNat 0)), (2, (0, 11, .ofNat 0)), (3, (0, 14, .ofNat 0)), (4, (0, 15, .ofNat 0)), (5, (0, 16, .ofNat 0)), (6, (0, 17, .ofNat 0))], [], [(156, 3, 1, (0, 12, .ofNat 0)), (156, 7, 1, (0, 13, .ofNat 0))], [(14, 1, 0, 3, 0), (15, 1, 0, 4, 0), (16, 1, 0, 5, 0), (17, 1, 0, 6, 0)], (.negSucc 1, [(17, .negSucc 0), (16, .negSucc 5), (15, .ofNat 90)]), none)
def zg359_1 : List zNd := [zn359_0, zn359_1]
def znl359 : List zNd := zg359_1
set_option maxRecDepth 100000 in
theorem zk359_0 : z_ck0 zT1 (z_cnt zL7) 20000 [29, 41] zm269 zc359 znl359 = true := by decide +kernel
set_option maxRecDepth 100000 in
theorem zk359_1 : z_ckn zT1 (z_cnt zL7) 20000 [29, 41] zm269 zc359 znl359 zg359_1 = true := by decide +kernel
theorem zk359 : z_cok zT1 (z_cnt zL7) 20000 [29, 41] zm269 zc359 znl359 = true := z_cok_of zk359_0 (zk359_1)
