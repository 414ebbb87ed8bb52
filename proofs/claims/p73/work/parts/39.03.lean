set_option maxRecDepth 100000 in
def zn292_0 : zNd := (9, (z_li [(.ofNat 0, .ofNat 0), (.negSucc 2147483647, .ofNat 2147483647), (.negSucc 2147483647, .ofNat 2147483647), (.negSucc 2147483647, .ofNat 2147483647), (.negSucc 2147483647, .ofNat 2147483647), (.negSucc 2147483647, .ofNat 2147483647), (.negSucc 2147483647, .ofNat 2147483647), (.negSucc 2147483647, .ofNat 2147483647), (.negSucc 2147483647, .ofNat 2147483647), (.negSucc 2147483647, .ofNat 2147483647), (.ofNat 0, .ofNat 0), (.ofNat 6, .ofNat 700), (.ofNat 1, .ofNat 4), (.ofNat 0, .ofNat 700), (.ofNat 2, .ofNat 9)] (true, [], [], [])), [(0, (2, 155, .ofNat 0))], [], [(155, 7, 1, (0, 13, .ofNat 0)), (155, 8, 1, (0, 11, .ofNat 0)), (155, 10, 1, (0, 12, .ofNat 0)), (155, 12, 1, (0, 10, .ofNat 0)), (161, 3, 1, (0, 14, .ofNat 0))], [], (.ofNat 3, []), none)
set_option maxRecDepth 100000 in
def zn292_1 : zNd := (18, (z_li [(.ofNat 0, .ofNat 0), (.negSucc 2147483647, .ofNat 2147483647), (.negSucc 2147483647, .ofNat 2147483647), (.negSucc 2147483647, .ofNat 2147483647), (.negSucc 2147483647, .ofNat 2147483647), (.negSucc 2147483647, .ofNat 2147483647), (.negSucc 2147483647, .ofNat 2147483647), (.negSucc 2147483647, .ofNat 2147483647), (.negSucc 2147483647, .ofNat 2147483647), (.negSucc 2147483647, .ofNat 2147483647), (.ofNat 0, .ofNat 0), (.ofNat 6, .ofNat 700), (.ofNat 1, .ofNat 4), (.ofNat 0, .ofNat 700), (.ofNat 2, .ofNat 9)] (true, [], [], [])), [(0, (2, 155, .ofNat 0))], [], [(155, 7, 1, (0, 13, .ofNat 0)), (155, 8, 1, (0, 11, .ofNat 0)), (155, 10, 1, (0, 12, .ofNat 0)), (155, 12, 1, (0, 10, .ofNat 0)), (161, 3, 1, (0, 14, .ofNat 0))], [], (.ofNat 2, []), none)
set_option maxRecDepth 100000 in
def zn292_2 : zNd := (27, (z_li [(.ofNat 0, .ofNat 0), (.negSucc 2147483647, .ofNat 2147483647), (.negSucc 2147483647, .ofNat 2147483647), (.negSucc 2147483647, .ofNat 2147483647), (.negSucc 2147483647, .ofNat 2147483647), (.negSucc 2147483647, .ofNat 2147483647), (.negSucc 2147483647, .ofNat 2147483647), (.negSucc 2147483647, .ofNat 2147483647), (.negSucc 2147483647, .ofNat 2147483647), (.negSucc 2147483647, .ofNat 2147483647), (.ofNat 0, .ofNat 0), (.ofNat 6, .ofNat 700), (.ofNat 1, .ofNat 4), (.ofNat 0, .ofNat 700), (.ofNat 2, .ofNat 9)] (true, [], [], [])), [(0, (2, 155, .ofNat 0))], [], [(155, 7, 1, (0, 13, .ofNat 0)), (155, 8, 1, (0, 11, .ofNat 0)), (155, 10, 1, (0, 12, .ofNat 0)), (155, 12, 1, (0, 10, .ofNat 0)), (161, 3, 1, (0, 14, .ofNat 0))], [], (.ofNat 1, []), none)
set_option maxRecDepth 100000 in
def zn292_3 : zNd := (46, (z_li [(.ofNat 0, .ofNat 0), (.negSucc 2147483647, .ofNat 2147483647), (.negSucc 2147483647, .ofNat 2147483647), (.negSucc 2147483647, .ofNat 2147483647), (.negSucc 2147483647, .ofNat 2147483647), (.negSucc 2147483647, .ofNat 2147483647), (.negSucc 2147483647, .ofNat 2147483647), (.negSucc 2147483647, .ofNat 2147483647), (.negSucc 2147483647, .ofNat 2147483647), (.negSucc 2147483647, .ofNat 2147483647), (.ofNat 0, .ofNat 0), (.ofNat 6, .ofNat 700), (.ofNat 1, .ofNat 4), (.ofNat 0, .ofNat 700), (.ofNat 2, .ofNat 9)] (true, [], [], [])), [(0, (2, 155, .ofNat 0))], [], [(155, 7, 1, (0, 13, .ofNat 0)), (155, 8, 1, (0, 11, .ofNat 0)), (155, 10, 1, (0, 12, .ofNat 0)), (155, 12, 1, (0, 10, .ofNat 0)), (161, 3, 1, (0, 14, .ofNat 0))], [], (.ofNat 0, []), none)
def zg292_1 : List zNd := [zn292_0]
def zg292_2 : List zNd := [zn292_1]
def zg292_3 : List zNd := [zn292_2]
def zg292_4 : List zNd := [zn292_3]
def znl292 : List zNd := zg292_1 ++ (zg292_2 ++ (zg292_3 ++ (zg292_4)))
set_option maxRecDepth 100000 in
theorem zk292_0 : z_ck0 zT1 (z_cnt zL4) 20000 [9, 18, 27, 46] zm54 zc292 znl292 = true := by decide +kernel
set_option maxRecDepth 100000 in
theorem zk292_1 : z_ckn zT1 (z_cnt zL4) 20000 [9, 18, 27, 46] zm54 zc292 znl292 zg292_1 = true := by decide +kernel
set_option maxRecDepth 100000 in
theorem zk292_2 : z_ckn zT1 (z_cnt zL4) 20000 [9, 18, 27, 46] zm54 zc292 znl292 zg292_2 = true := by decide +kernel
set_option maxRecDepth 100000 in
theorem zk292_3 : z_ckn zT1 (z_cnt zL4) 20000 [9, 18, 27, 46] zm54 zc292 znl292 zg292_3 = true := by decide +kernel
set_option maxRecDepth 100000 in
theorem zk292_4 : z_ckn zT1 (z_cnt zL4) 20000 [9, 18, 27, 46] zm54 zc292 znl292 zg292_4 = true := by decide +kernel
theorem zk292 : z_cok zT1 (z_cnt zL4) 20000 [9, 18, 27, 46] zm54 zc292 znl292 = true := z_cok_of zk292_0 (z_ckn_app zk292_1 (z_ckn_app zk292_2 (z_ckn_app zk292_3 (zk292_4))))
set_option maxRecDepth 100000 in
def zn293_0 : zNd := (2, (z_li [(.ofNat 0, .ofNat 0), (.negSucc 2147483647, .ofNat 2147483647), (.negSucc 2147483647, .ofNat 2147483647), (.negSucc 2147483647, .ofNat 2147483647), (.negSucc 2147483647, .ofNat 2147483647), (.negSucc 2147483647, .ofNat 2147483647), (.negSucc 2147483647, .ofNat 2147483647), (.negSucc 2147483647, .ofNat 2147483647), (.negSucc 2147483647, .ofNat 2147483647), (.negSucc 2147483647, .ofNat 2147483647), (.ofNat 0, .ofNat 13), (.ofNat 0, .ofNat 9), (.ofNat 0, .ofNat 6), (.ofNat 0, .ofNat 9)] (true, [(.ofNat 0, [(12, .negSucc 0), (11, .ofNat 3)])], [], [])), [(0, (2, 155, .ofNat 0)), (1, (0, 10, .ofNat 0)), (2, (0, 13, .ofNat 0))], [], [(156, 3, 1, (0, 11, .ofNat 0)), (156, 7, 1, (0, 12, .ofNat 0))], [(13, 1, 0, 2, 0)], (.ofNat 71, [(13, .negSucc 0)]), none)
set_option maxRecDepth 100000 in
def zn293_1 : zNd := (61, (z_li [(.ofNat 0, .ofNat 0), (.negSucc 2147483647, .ofNat 2147483647), (.negSucc 2147483647, .ofNat 2147483647), (.negSucc 2147483647, .ofNat 2147483647), (.negSucc 2147483647, .ofNat 2147483647), (.negSucc 2147483647, .ofNat 2147483647), (.negSucc 2147483647, .ofNat 2147483647), (.negSucc 2147483647, .ofNat 2147483647), (.negSucc 2147483647, .ofNat 2147483647), (.negSucc 2147483647, .ofNat 2147483647), (.ofNat 0, .ofNat 13), (.ofNat 0, .ofNat 9), (.ofNat 0, .ofNat 6), (.ofNat 0, .ofNat 30)] (true, [(.ofNat 0, [(12, .negSucc 0), (11, .ofNat 3)])], [], [])), [(0, (2, 155, .ofNat 0)), (1, (0, 10, .ofNat 0)), (2, (0, 13, .ofNat 0))], [], [(156, 3, 1, (0, 11, .ofNat 0)), (156, 7, 1, (0, 12, .ofNat 0))], [(13, 1, 0, 2, 0)], (.ofNat 61, [(13, .negSucc 0)]), none)
set_option maxRecDepth 100000 in
def zn293_2 : zNd := (149, (z_li [(.ofNat 0, .ofNat 0), (.negSucc 2147483647, .ofNat 2147483647), (.negSucc 2147483647, .ofNat 2147483647), (.negSucc 2147483647, .ofNat 2147483647), (.negSucc 2147483647, .ofNat 2147483647), (.negSucc 2147483647, .ofNat 2147483647), (.negSucc 2147483647, .ofNat 2147483647), (.negSucc 2147483647, .ofNat 2147483647), (.negSucc 2147483647, .ofNat 2147483647), (.negSucc 2147483647, .ofNat 2147483647), (.ofNat 0, .ofNat 13), (.ofNat 0, .ofNat 9), (.ofNat 0, .ofNat 6), (.ofNat 0, .ofNat 30)] (true, [(.ofNat 0, [(12, .negSucc 0), (11, .ofNat 3)])], [], [])), [(0, (2, 155, .ofNat 0)), (1, (0, 10, .ofNat 0)), (2, (0, 13, .ofNat 0))], [], [(156, 3, 1, (0, 11, .ofNat 0)), (156, 7, 1, (0, 12, .ofNat 0))], [(13, 1, 0, 2, 0)], (.ofNat 30, [(13, .negSucc 0)]), none)
def zg293_1 : List zNd := [zn293_0, zn293_1, zn293_2]
def znl293 : List zNd := zg293_1
set_option maxRecDepth 100000 in
theorem zk293_0 : z_ck0 zT1 (z_cnt zL4) 20000 [2, 61, 149] zm82 zc293 znl293 = true := by decide +kernel
set_option maxRecDepth 100000 in
theorem zk293_1 : z_ckn zT1 (z_cnt zL4) 20000 [2, 61, 149] zm82 zc293 znl293 zg293_1 = true := by decide +kernel
theorem zk293 : z_cok zT1 (z_cnt zL4) 20000 [2, 61, 149] zm82 zc293 znl293 = true := z_cok_of zk293_0 (zk293_1)
set_option maxRecDepth 100000 in
def zn294_0 : zNd := (9, (z_li [(.ofNat 0, .ofNat 0), (.negSucc 2147483647, .ofNat 2147483647), (.negSucc 2147483647, .ofNat 2147483647), (.negSucc 2147483647, .ofNat 2147483647), (.negSucc 2147483647, .ofNat 2147483647), (.negSucc 2147483647, .ofNat 2147483647), (.negSucc 2147483647, .ofNat 2147483647), (.negSucc 2147483647, .ofNat 2147483647), (.negSucc 2147483647, .ofNat 2147483647), (.negSucc 2147483647, .ofNat 2147483647), (.ofNat 0, .ofNat 5), (.ofNat 0, .ofNat 5), (.negSucc 0, .ofNat 239), (.negSucc 0, .ofNat 40), (.ofNat 0, .ofNat 14)] (false, [], [], [])), [(0, (2, 70, .ofNat 0)), (1, (0, 10, .ofNat 0)), (2, (0, 11, .ofNat 0)), (3, (0, 12, .ofNat 0)), (4, (0, 13, .ofNat 0)), (5, (0, 14, .ofNat 0))], [], [], [(12, 1, 0, 3, 0), (13, 1, 0, 4, 0), (14, 1, 0, 5, 0)], (.ofNat 89, [(14, .negSucc 5)]), none)
set_option maxRecDepth 100000 in
def zn294_1 : zNd := (24, (z_li [(.ofNat 0, .ofNat 0), (.negSucc 2147483647, .ofNat 2147483647), (.negSucc 2147483647, .ofNat 2147483647), (.negSucc 2147483647, .ofNat 2147483647), (.negSucc 2147483647, .ofNat 2147483647), (.negSucc 2147483647, .ofNat 2147483647), (.negSucc 2147483647, .ofNat 2147483647), (.negSucc 2147483647, .ofNat 2147483647), (.negSucc 2147483647, .ofNat 2147483647), (.negSucc 2147483647, .ofNat 2147483647), (.ofNat 0, .ofNat 5), (.ofNat 0, .ofNat 5), (.negSucc 0, .ofNat 239), (.negSucc 0, .ofNat 40), (.ofNat 0, .ofNat 13), (.ofNat 0, .ofNat 4)] (false, [], [], [])), [(0, (2, 70, .ofNat 0)), (1, (0, 10, .ofNat 0)), (2, (0, 11, .ofNat 0)), (3, (0, 12, .ofNat 0)), (4, (0, 13, .ofNat 0)), (5, (0, 14, .ofNat 0)), (6, (0, 15, .ofNat 0))], [], [], [(12, 1, 0, 3, 0), (13, 1, 0, 4, 0), (14, 1, 0, 5, 0), (15, 1, 0, 6, 0)], (.ofNat 88, [(15, .negSucc 0), (14, .negSucc 5)]), none)
def zg294_1 : List zNd := [zn294_0, zn294_1]
def znl294 : List zNd := zg294_1
set_option maxRecDepth 100000 in
theorem zk294_0 : z_ck0 zT1 (z_cnt zL4) 20000 [9, 24] zm135 zc294 znl294 = true := by decide +kernel
set_option maxRecDepth 100000 in
theorem zk294_1 : z_ckn zT1 (z_cnt zL4) 20000 [9, 24] zm135 zc294 znl294 zg294_1 = true := by decide +kernel
theorem zk294 : z_cok zT1 (z_cnt zL4) 20000 [9, 24] zm135 zc294 znl294 = true := z_cok_of zk294_0 (zk294_1)
set_option maxRecDepth 100000 in
def zn295_0 : zNd := (19, (z_li [(.ofNat 0, .ofNat 0), (.negSucc 2147483647, .ofNat 2147483647), (.negSucc 2147483647, .ofNat 2147483647), (.negSucc 2147483647, .ofNat 2147483647), (.negSucc 2147483647, .ofNat 2147483647), (.negSucc 2147483647, .ofNat 2147483647), (.negSucc 2147483647, .ofNat 2147483647), (.negSucc 2147483647, .ofNat 2147483647), (.negSucc 2147483647, .ofNat 2147483647), (.negSucc 2147483647, .ofNat 2147483647), (.ofNat 0, .ofNat 63), (.negSucc 0, .ofNat 8), (.ofNat 0, .ofNat 9)] (false, [], [], [])), [(0, (2, 70, .ofNat 0)), (1, (0, 10, .ofNat 0)), (2, (0, 11, .ofNat 0)), (3, (0, 12, .ofNat 0))], [], [], [(10, 1, 0, 1, 0), (11, 1, 0, 2, 0), (12, 1, 0, 3, 0)], (.ofNat 9, [(12, .negSucc 0)]), none)
def zg295_1 : List zNd := [zn295_0]
def znl295 : List zNd := zg295_1
set_option maxRecDepth 100000 in
theorem zk295_0 : z_ck0 zT1 (z_cnt zL4) 20000 [19] zm136 zc295 znl295 = true := by decide +kernel
set_option maxRecDepth 100000 in
theorem zk295_1 : z_ckn zT1 (z_cnt zL4) 20000 [19] zm136 zc295 znl295 zg295_1 = true := by decide +kernel
theorem zk295 : z_cok zT1 (z_cnt zL4) 20000 [19] zm136 zc295 znl295 = true := z_cok_of zk295_0 (zk295_1)
set_option maxRecDepth 100000 in
def zn296_0 : zNd := (19, (z_li [(.ofNat 0, .ofNat 0), (.negSucc 2147483647, .ofNat 2147483647), (.negSucc 2147483647, .ofNat 2147483647), (.negSucc 2147483647, .ofNat 2147483647), (.negSucc 2147483647, .ofNat 2147483647), (.negSucc 2147483647, .ofNat 2147483647), (.negSucc 2147483647, .ofNat 2147483647), (.negSucc 2147483647, .ofNat 2147483647), (.negSucc 2147483647, .ofNat 2147483647), (.negSucc 2147483647, .ofNat 2147483647), (.ofNat 0, .ofNat 63), (.negSucc 0, .ofNat 7), (.ofNat 0, .ofNat 8)] (false, [], [], [])), [(0, (2, 70, .ofNat 0)), (1, (0, 10, .ofNat 0)), (2, (0, 11, .ofNat 0)), (3, (0, 12, .ofNat 0))], [], [], [(10, 1, 0, 1, 0), (11, 1, 0, 2, 0), (12, 1, 0, 3, 0)], (.ofNat 8, [(12, .negSucc 0)]), none)
def zg296_1 : List zNd := [zn296_0]
def znl296 : List zNd := zg296_1
set_option maxRecDepth 100000 in
theorem zk296_0 : z_ck0 zT1 (z_cnt zL4) 20000 [19] zm139 zc296 znl296 = true := by decide +kernel
set_option maxRecDepth 100000 in
theorem zk296_1 : z_ckn zT1 (z_cnt zL4) 20000 [19] zm139 zc296 znl296 zg296_1 = true := by decide +kernel
theorem zk296 : z_cok zT1 (z_cnt zL4) 20000 [19] zm139 zc296 znl296 = true := z_cok_of zk296_0 (zk296_1)
set_option maxRecDepth 100000 in
def zn297_0 : zNd := (10, (z_li [(.ofNat 0, .ofNat 0), (.negSucc 2147483647, .ofNat 2147483647), (.negSucc 2147483647, .ofNat 2147483647), (.negSucc 2147483647, .ofNat 2147483647), (.negSucc 2147483647, .ofNat 2147483647), (.negSucc 2147483647, .ofNat 2147483647), (.negSucc 2147483647, .ofNat 2147483647), (.negSucc 2147483647, .ofNat 2147483647), (.negSucc 2147483647, .ofNat 2147483647), (.negSucc 2147483647, .ofNat 2147483647), (.ofNat 0, .ofNat 3), (.negSucc 2147483647, .ofNat 2147483647), (.ofNat 1, .ofNat 4)] (false, [], [], [])), [(0, (2, 70, .ofNat 0)), (1, (0, 10, .ofNat 0)), (2, (0, 11, .ofNat 0)), (3, (0, 12, .ofNat 0))], [], [], [(10, 1, 0, 1, 0), (11, 1, 0, 2, 0), (12, 1, 0, 3, 0)], (.ofNat 4, [(12, .negSucc 0)]), none)
def zg297_1 : List zNd := [zn297_0]
def znl297 : List zNd := zg297_1
set_option maxRecDepth 100000 in
theorem zk297_0 : z_ck0 zT1 (z_cnt zL4) 20000 [10] zm165 zc297 znl297 = true := by decide +kernel
set_option maxRecDepth 100000 in
theorem zk297_1 : z_ckn zT1 (z_cnt zL4) 20000 [10] zm165 zc297 znl297 zg297_1 = true := by decide +kernel
theorem zk297 : z_cok zT1 (z_cnt zL4) 20000 [10] zm165 zc297 znl297 = true := z_cok_of zk297_0 (zk297_1)
set_option maxRecDepth 100000 in
def zn298_0 : zNd := (13, (z_li [(.ofNat 0, .ofNat 0), (.negSucc 2147483647, .ofNat 2147483647), (.negSucc 2147483647, .ofNat 2147483647), (.negSucc 2147483647, .ofNat 2147483647), (.negSucc 2147483647, .ofNat 2147483647), (.negSucc 2147483647, .ofNat 2147483647), (.negSucc 2147483647, .ofNat 2147483647), (.negSucc 2147483647, .ofNat 2147483647), (.negSucc 2147483647, .ofNat 2147483647), (.negSucc 2147483647, .ofNat 2147483647), (.ofNat 0, .ofNat 7), (.ofNat 0, .ofNat 1), (.ofNat 1, .ofNat 256), (.ofNat 0, .ofNat 256)] (false, [], [], [])), [(0, (2, 70, .ofNat 0)), (1, (0, 10, .ofNat 0)), (2, (0, 11, .ofNat 0)), (3, (0, 12, .ofNat 0)), (4, (0, 13, .ofNat 0))], [], [], [(12, 1, 0, 3, 0), (13, 1, 0, 4, 0)], (.ofNat 513, [(13, .negSucc 0)]), none)
set_option maxRecDepth 100000 in
def zn298_1 : zNd := (44, (z_li [(.ofNat 0, .ofNat 0), (.negSucc 2147483647, .ofNat 2147483647), (.negSucc 2147483647, .ofNat 2147483647), (.negSucc 2147483647, .ofNat 2147483647), (.negSucc 2147483647, .ofNat 2147483647), (.negSucc 2147483647, .ofNat 2147483647), (.negSucc 2147483647, .ofNat 2147483647), (.negSucc 2147483647, .ofNat 2147483647), (.negSucc 2147483647, .ofNat 2147483647), (.negSucc 2147483647, .ofNat 2147483647), (.ofNat 0, .ofNat 7), (.ofNat 0, .ofNat 1), (.ofNat 1, .ofNat 256), (.negSucc 2147483647, .ofNat 2147483647), (.ofNat 0, .ofNat 256)] (false, [], [], [])), [(0, (2, 70, .ofNat 0)), (1, (0, 10, .ofNat 0)), (2, (0, 11, .ofNat 0)), (3, (0, 12, .ofNat 0)), (4, (0, 13, .ofNat 0)), (5, (0, 14, .ofNat 0))], [], [], [(12, 1, 0, 3, 0), (13, 1, 0, 4, 0), (14, 1, 0, 5, 0)], (.ofNat 256, [(14, .negSucc 0)]), none)
def zg298_1 : List zNd := [zn298_0, zn298_1]
def znl298 : List zNd := zg298_1
set_option maxRecDepth 100000 in
theorem zk298_0 : z_ck0 zT1 (z_cnt zL4) 20000 [13, 44] zm171 zc298 znl298 = true := by decide +kernel
set_option maxRecDepth 100000 in
theorem zk298_1 : z_ckn zT1 (z_cnt zL4) 20000 [13, 44] zm171 zc298 znl298 zg298_1 = true := by decide +kernel
theorem zk298 : z_cok zT1 (z_cnt zL4) 20000 [13, 44] zm171 zc298 znl298 = true := z_cok_of zk298_0 (zk298_1)
set_option maxRecDepth 100000 in
def zn299_0 : zNd := (5, (z_li [(.ofNat 0, .ofNat 0), (.negSucc 2147483647, .ofNat 2147483647), (.negSucc 2147483647, .ofNat 2147483647), (.negSucc 2147483647, .ofNat 2147483647), (.negSucc 2147483647, .ofNat 2147483647), (.negSucc 2147483647, .ofNat 2147483647), (.negSucc 2147483647, .ofNat 2147483647), (.negSucc 2147483647, .ofNat 2147483647), (.negSucc 2147483647, .ofNat 2147483647), (.negSucc 2147483647, .ofNat 2147483647), (.ofNat 0, .ofNat 5), (.ofNat 0, .ofNat 5), (.ofNat 0, .ofNat 15), (.ofNat 0, .ofNat 4)] (false, [], [], [])), [(0, (2, 70, .ofNat 0)), (1, (0, 10, .ofNat 0)), (2, (0, 11, .ofNat 0)), (3, (0, 12, .ofNat 0)), (4, (0, 13, .ofNat 0))], [], [], [(12, 1, 0, 3, 0), (13, 1, 0, 4, 0)], (.ofNat 4, [(13, .negSucc 0)]), none)
def zg299_1 : List zNd := [zn299_0]
def znl299 : List zNd := zg299_1
set_option maxRecDepth 100000 in
theorem zk299_0 : z_ck0 zT1 (z_cnt zL4) 20000 [5] zm180 zc299 znl299 = true := by decide +kernel
set_option maxRecDepth 100000 in
theorem zk299_1 : z_ckn zT1 (z_cnt zL4) 20000 [5] zm180 zc299 znl299 zg299_1 = true := by decide +kernel
theorem zk299 : z_cok zT1 (z_cnt zL4) 20000 [5] zm180 zc299 znl299 = true := z_cok_of zk299_0 (zk299_1)
set_option maxRecDepth 100000 in
theorem zk300 : z_cok zT1 (z_cnt zL4) 20000 [] zm216 zc300 [] = true := by decide +kernel
set_option maxRecDepth 100000 in
theorem zk301 : z_cok zT1 (z_cnt zL4) 20000 [] zm222 zc301 [] = true := by decide +kernel
set_option maxRecDepth 100000 in
theorem zk302 : z_cok zT1 (z_cnt zL4) 20000 [] zm226 zc302 [] = true := by decide +kernel
set_option maxRecDepth 100000 in
theorem zk303 : z_cok zT1 (z_cnt zL4) 20000 [] zm228 zc303 [] = true := by decide +kernel
set_option maxRecDepth 100000 in
theorem zk304 : z_cok zT1 (z_cnt zL4) 20000 [] zm230 zc304 [] = true := by decide +kernel
set_option maxRecDepth 100000 in
theorem zk305 : z_cok zT1 (z_cnt zL4) 20000 [] zm232 zc305 [] = true := by decide +kernel
set_option maxRecDepth 100000 in
theorem zk306 : z_cok zT1 (z_cnt zL4) 20000 [] zm234 zc306 [] = true := by decide +kernel
set_option maxRecDepth 100000 in
theorem zk307 : z_cok zT1 (z_cnt zL4) 20000 [] zm236 zc307 [] = true := by decide +kernel
set_option maxRecDepth 100000 in
theorem zk308 : z_cok zT1 (z_cnt zL4) 20000 [] zm238 zc308 [] = true := by decide +kernel
set_option maxRecDepth 100000 in
theorem zk309 : z_cok zT1 (z_cnt zL4) 20000 [] zm240 zc309 [] = true := by decide +kernel
set_option maxRecDepth 100000 in
theorem zk310 : z_cok zT1 (z_cnt zL4) 20000 [] zm246 zc310 [] = true := by decide +kernel
set_option maxRecDepth 100000 in
theorem zk311 : z_cok zT1 (z_cnt zL4) 20000 [] zm250 zc311 [] = true := by decide +kernel
set_option maxRecDepth 100000 in
theorem zk312 : z_cok zT1 (z_cnt zL4) 20000 [] zm252 zc312 [] = true := by decide +kernel
set_option maxRecDepth 100000 in
theorem zk313 : z_cok zT1 (z_cnt zL4) 20000 [] zm254 zc313 [] = true := by decide +kernel
set_option maxRecDepth 100000 in
theorem zk314 : z_cok zT1 (z_cnt zL4) 20000 [] zm256 zc314 [] = true := by decide +kernel
set_option maxRecDepth 100000 in
theorem zk315 : z_cok zT1 (z_cnt zL4) 20000 [] zm258 zc315 [] = true := by decide +kernel
set_option maxRecDepth 100000 in
theorem zk316 : z_cok zT1 (z_cnt zL4) 20000 [] zm260 zc316 [] = true := by decide +kernel
set_option maxRecDepth 100000 in
theorem zk317 : z_cok zT1 (z_cnt zL4) 20000 [] zm262 zc317 [] = true := by decide +kernel
set_option maxRecDepth 100000 in
theorem zk318 : z_cok zT1 (z_cnt zL4) 20000 [] zm270 zc318 [] = true := by decide +kernel
set_option maxRecDepth 100000 in
theorem zk319 : z_cok zT1 (z_cnt zL4) 20000 [] zm272 zc319 [] = true := by decide +kernel
set_option maxRecDepth 100000 in
theorem zk320 : z_cok zT1 (z_cnt zL4) 20000 [] zm274 zc320 [] = true := by decide +kernel
