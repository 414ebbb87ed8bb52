set_option maxRecDepth 100000 in
def zn290_0 : zNd := (16, (z_li [(.ofNat 0, .ofNat 0), (.negSucc 2147483647, .ofNat 2147483647), (.negSucc 2147483647, .ofNat 2147483647), (.negSucc 2147483647, .ofNat 2147483647), (.negSucc 2147483647, .ofNat 2147483647), (.negSucc 2147483647, .ofNat 2147483647), (.negSucc 2147483647, .ofNat 2147483647), (.negSucc 2147483647, .ofNat 2147483647), (.negSucc 2147483647, .ofNat 2147483647), (.negSucc 2147483647, .ofNat 2147483647), (.ofNat 0, .ofNat 700)] (true, [], [], [])), [(0, (2, 3, .ofNat 0)), (1, (0, 10, .ofNat 0))], [], [(4, 5, 1, (0, 0, .ofNat 0)), (14, 0, 1, (0, 0, .ofNat 0))], [(10, 1, 0, 1, 0)], (.ofNat 4208, [(10, .negSucc 5)]), none)
set_option maxRecDepth 100000 in
def zn290_1 : zNd := (151, (z_li [(.ofNat 0, .ofNat 0), (.negSucc 2147483647, .ofNat 2147483647), (.negSucc 2147483647, .ofNat 2147483647), (.negSucc 2147483647, .ofNat 2147483647), (.negSucc 2147483647, .ofNat 2147483647), (.negSucc 2147483647, .ofNat 2147483647), (.negSucc 2147483647, .ofNat 2147483647), (.negSucc 2147483647, .ofNat 2147483647), (.negSucc 2147483647, .ofNat 2147483647), (.negSucc 2147483647, .ofNat 2147483647), (.ofNat 0, .ofNat 699)] (true, [], [], [])), [(0, (2, 3, .ofNat 0)), (1, (0, 10, .ofNat 0))], [], [(4, 5, 1, (0, 0, .ofNat 0)), (14, 0, 1, (0, 0, .ofNat 0))], [(10, 1, 0, 1, 0)], (.ofNat 4204, [(10, .negSucc 5)]), none)
set_option maxRecDepth 100000 in
def zn290_2 : zNd := (151, (z_li [(.ofNat 0, .ofNat 0), (.negSucc 2147483647, .ofNat 2147483647), (.negSucc 2147483647, .ofNat 2147483647), (.negSucc 2147483647, .ofNat 2147483647), (.negSucc 2147483647, .ofNat 2147483647), (.negSucc 2147483647, .ofNat 2147483647), (.negSucc 2147483647, .ofNat 2147483647), (.negSucc 2147483647, .ofNat 2147483647), (.negSucc 2147483647, .ofNat 2147483647), (.negSucc 2147483647, .ofNat 2147483647), (.ofNat 0, .ofNat 699), (.ofNat 1, .ofNat 3)] (true, [], [], [])), [(0, (2, 3, .ofNat 0)), (1, (0, 10, .ofNat 0))], [], [(4, 5, 1, (0, 11, .ofNat 0)), (14, 0, 1, (0, 0, .ofNat 0))], [(10, 1, 0, 1, 0), (11, 1, 2, 4, 5)], (.ofNat 1, []), none)
set_option maxRecDepth 100000 in
def zn290_3 : zNd := (16, (z_li [(.ofNat 0, .ofNat 0), (.negSucc 2147483647, .ofNat 2147483647), (.negSucc 2147483647, .ofNat 2147483647), (.negSucc 2147483647, .ofNat 2147483647), (.negSucc 2147483647, .ofNat 2147483647), (.negSucc 2147483647, .ofNat 2147483647), (.negSucc 2147483647, .ofNat 2147483647), (.negSucc 2147483647, .ofNat 2147483647), (.negSucc 2147483647, .ofNat 2147483647), (.negSucc 2147483647, .ofNat 2147483647), (.ofNat 0, .ofNat 700), (.ofNat 1, .ofNat 3)] (true, [], [], [])), [(0, (2, 3, .ofNat 0)), (1, (0, 10, .ofNat 0))], [], [(4, 5, 1, (0, 11, .ofNat 0)), (14, 0, 1, (0, 0, .ofNat 0))], [(10, 1, 0, 1, 0), (11, 1, 2, 4, 5)], (.ofNat 0, []), none)
set_option maxRecDepth 100000 in
def zn290_4 : zNd := (79, (z_li [(.ofNat 0, .ofNat 0), (.negSucc 2147483647, .ofNat 2147483647), (.negSucc 2147483647, .ofNat 2147483647), (.negSucc 2147483647, .ofNat 2147483647), (.negSucc 2147483647, .ofNat 2147483647), (.negSucc 2147483647, .ofNat 2147483647), (.negSucc 2147483647, .ofNat 2147483647), (.negSucc 2147483647, .ofNat 2147483647), (.negSucc 2147483647, .ofNat 2147483647), (.negSucc 2147483647, .ofNat 2147483647), (.ofNat 0, .ofNat 699)] (true, [], [], [])), [(0, (2, 3, .ofNat 0)), (1, (0, 10, .ofNat 0))], [], [(4, 5, 1, (0, 0, .ofNat 0)), (14, 0, 1, (0, 0, .ofNat 0))], [(10, 1, 0, 1, 0)], (.ofNat 4207, [(10, .negSucc 5)]), none)
set_option maxRecDepth 100000 in
def zn290_5 : zNd := (151, (z_li [(.ofNat 0, .ofNat 0), (.negSucc 2147483647, .ofNat 2147483647), (.negSucc 2147483647, .ofNat 2147483647), (.negSucc 2147483647, .ofNat 2147483647), (.negSucc 2147483647, .ofNat 2147483647), (.negSucc 2147483647, .ofNat 2147483647), (.negSucc 2147483647, .ofNat 2147483647), (.negSucc 2147483647, .ofNat 2147483647), (.negSucc 2147483647, .ofNat 2147483647), (.negSucc 2147483647, .ofNat 2147483647), (.ofNat 0, .ofNat 699), (.ofNat 0, .ofNat 3)] (true, [], [], [])), [(0, (2, 3, .ofNat 0)), (1, (0, 10, .ofNat 0))], [], [(4, 5, 1, (0, 11, .ofNat 0)), (14, 0, 1, (0, 0, .ofNat 0))], [(10, 1, 0, 1, 0), (11, 1, 2, 4, 5)], (.ofNat 4203, [(10, .negSucc 5)]), none)
set_option maxRecDepth 100000 in
def zn290_6 : zNd := (98, (z_li [(.ofNat 0, .ofNat 0), (.negSucc 2147483647, .ofNat 2147483647), (.negSucc 2147483647, .ofNat 2147483647), (.negSucc 2147483647, .ofNat 2147483647), (.negSucc 2147483647, .ofNat 2147483647), (.negSucc 2147483647, .ofNat 2147483647), (.negSucc 2147483647, .ofNat 2147483647), (.negSucc 2147483647, .ofNat 2147483647), (.negSucc 2147483647, .ofNat 2147483647), (.negSucc 2147483647, .ofNat 2147483647), (.ofNat 0, .ofNat 699)] (true, [], [], [])), [(0, (2, 3, .ofNat 0)), (1, (0, 10, .ofNat 0))], [], [(4, 5, 1, (0, 0, .ofNat 0)), (14, 0, 1, (0, 0, .ofNat 0))], [(10, 1, 0, 1, 0)], (.ofNat 4206, [(10, .negSucc 5)]), none)
set_option maxRecDepth 100000 in
def zn290_7 : zNd := (117, (z_li [(.ofNat 0, .ofNat 0), (.negSucc 2147483647, .ofNat 2147483647), (.negSucc 2147483647, .ofNat 2147483647), (.negSucc 2147483647, .ofNat 2147483647), (.negSucc 2147483647, .ofNat 2147483647), (.negSucc 2147483647, .ofNat 2147483647), (.negSucc 2147483647, .ofNat 2147483647), (.negSucc 2147483647, .ofNat 2147483647), (.negSucc 2147483647, .ofNat 2147483647), (.negSucc 2147483647, .ofNat 2147483647), (.ofNat 0, .ofNat 699)] (true, [], [], [])), [(0, (2, 3, .ofNat 0)), (1, (0, 10, .ofNat 0))], [], [(4, 5, 1, (0, 0, .ofNat 0)), (14, 0, 1, (0, 0, .ofNat 0))], [(10, 1, 0, 1, 0)], (.ofNat 4205, [(10, .negSucc 5)]), none)
set_option maxRecDepth 100000 in
def zn290_8 : zNd := (136, (z_li [(.ofNat 0, .ofNat 0), (.negSucc 2147483647, .ofNat 2147483647), (.negSucc 2147483647, .ofNat 2147483647), (.negSucc 2147483647, .ofNat 2147483647), (.negSucc 2147483647, .ofNat 2147483647), (.negSucc 2147483647, .ofNat 2147483647), (.negSucc 2147483647, .ofNat 2147483647), (.negSucc 2147483647, .ofNat 2147483647), (.negSucc 2147483647, .ofNat 2147483647), (.negSucc 2147483647, .ofNat 2147483647), (.ofNat 0, .ofNat 699)] (true, [], [], [])), [(0, (2, 3, .ofNat 0)), (1, (0, 10, .ofNat 0))], [], [(4, 5, 1, (0, 0, .ofNat 0)), (14, 0, 1, (0, 0, .ofNat 0))], [(10, 1, 0, 1, 0)], (.ofNat 2, []), none)
def zg290_1 : List zNd := [zn290_0, zn290_1, zn290_2, zn290_3]
def zg290_2 : List zNd := [zn290_4, zn290_5, zn290_6, zn290_7, zn290_8]
def znl290 : List zNd := zg290_1 ++ (zg290_2)
set_option maxRecDepth 100000 in
theorem zk290_0 : z_ck0 zT1 (z_cnt zL4) 20000 [16, 79, 98, 117, 136, 151] zm2 zc290 znl290 = true := by decide +kernel
set_option maxRecDepth 100000 in
theorem zk290_1 : z_ckn zT1 (z_cnt zL4) 20000 [16, 79, 98, 117, 136, 151] zm2 zc290 znl290 zg290_1 = true := by decide +kernel
set_option maxRecDepth 100000 in
theorem zk290_2 : z_ckn zT1 (z_cnt zL4) 20000 [16, 79, 98, 117, 136, 151] zm2 zc290 znl290 zg290_2 = true := by decide +kernel
theorem zk290 : z_cok zT1 (z_cnt zL4) 20000 [16, 79, 98, 117, 136, 151] zm2 zc290 znl290 = true := z_cok_of zk290_0 (z_ckn_app zk290_1 (zk290_2))
set_option maxRecDepth 100000 in
theorem zk291 : z_cok zT1 (z_cnt zL4) 20000 [] zm46 zc291 [] = true := by decide +kernel
set_option maxRecDepth 100000 in
def zn292_0 : zNd := (9, (z_li [(.ofNat 0, .ofNat 0), (.negSucc 2147483647, .ofNat 2147483647), (.negSucc 2147483647, .ofNat 2147483647), (.negSucc 2147483647, .ofNat 2147483647), (.negSucc 2147483647, .ofNat 2147483647), (.negSucc 2147483647, .ofNat 2147483647), (.negSucc 2147483647, .ofNat 2147483647), (.negSucc 2147483647, .ofNat 2147483647), (.negSucc 2147483647, .ofNat 2147483647), (.negSucc 2147483647, .ofNat 2147483647), (.ofNat 0, .ofNat 0), (.ofNat 6, .ofNat 700), (.ofNat 1, .ofNat 4), (.ofNat 0, .ofNat 700), (.ofNat 2, .ofNat 9)] (true, [], [], [])), [(0, (2, 155, .ofNat 0))], [], [(155, 7, 1, (0, 13, .ofNat 0)), (155, 8, 1, (0, 11, .ofNat 0)), (155, 10, 1, (0, 12, .ofNat 0)), (155, 12, 1, (0, 10, .ofNat 0)), (161, 3, 1, (0, 14, .ofNat 0))], [], (.ofNat 3, []), none)
set_option maxRecDepth 100000 in
def zn292_1 : zNd := (18, (z_li [(.ofNat 0, .ofNat 0), (.negSucc 2147483647, .ofNat 2147483647), (.negSucc 2147483647, .ofNat 2147483647), (.negSucc 2147483647, .ofNat 2147483647), (.negSucc 2147483647, .ofNat 2147483647), (.negSucc 2147483647, .ofNat 2147483647), (.negSucc 2147483647, .ofNat 2147483647), (.negSucc 2147483647, .ofNat 2147483647), (.negSucc 2147483647, .ofNat 2147483647), (.negSucc 2147483647, .ofNat 2147483647), (.ofNat 0, .ofNat 0), (.ofNat 6, .ofNat 700), (.ofNat 1, .ofNat 4), (.ofNat 0, .ofNat 700), (.ofNat 2, .ofNat 9)] (true, [], [], [])), [(0, (2, 155, .ofNat 0))], [], [(155, 7, 1, (0, 13, .ofNat 0)), (155, 8, 1, (0, 11, .ofNat 0)), (155, 10, 1, (0, 12, .ofNat 0)), (155, 12, 1, (0, 10, .ofNat 0)), (161, 3, 1, (0, 14, .ofNat 0))], [], (.ofNat 2, []), none)
set_option maxRecDepth 100000 in
def zn292_2 : zNd := (27, (z_li [(.ofNat 0, .ofNat 0), (.negSucc 2147483647, .ofNat 2147483647), (.negSucc 2147483647, .ofNat 2147483647), (.negSucc 2147483647, .ofNat 2147483647), (.negSucc 2147483647, .ofNat 2147483647), (.negSucc 2147483647, .ofNat 2147483647), (.negSucc 2147483647, .ofNat 2147483647), (.negSucc 2147483647, .ofNat 2147483647), (.negSucc 2147483647, .ofNat 2147483647), (.negSucc 2147483647, .ofNat 2147483647), (.ofNat 0, .ofNat 0), (.ofNat 6, .ofNat 700), (.ofNat 1, .ofNat 4), (.ofNat 0, .ofNat 700), (.ofNat 2, .ofNat 9)] (true, [], [], [])), [(0, (2, 155, .ofNat 0))], [], [(155, 7, 1, (0, 13, .ofNat 0)), (155, 8, 1, (0, 11, .ofNat 0)), (155, 10, 1, (0, 12, .ofNat 0)), (155, 12, 1, (0, 10, .ofNat 0)), (161, 3, 1, (0, 14, .ofNat 0))], [], (.ofNat 1, []), none)
set_option maxRecDepth 100000 in
def zn292_3 : zNd := (46, (z_li [(.ofNat 0, .ofNat 0), (.negSucc 2147483647, .ofNat 2147483647), (.negSucc 2147483647, .ofNat 2147483647), (.negSucc 2147483647, .ofNat 2147483647), (.negSucc 2147483647, .ofNat 2147483647), (.negSucc 2147483647, .ofNat 2147483647), (.negSucc 2147483647, .ofNat 2147483647), (.negSucc 2147483647, .ofNat 2147483647), (.negSucc 2147483647, .ofNat 2147483647), (.negSucc 2147483647, .ofNat 2147483647), (.ofNat 0, .ofNat 0), (.ofNat 6, .ofNat 700), (.ofNat 1, .ofNat 4), (.ofNat 0, .ofNat 700), (.ofNat 2, .ofNat 9)] (true, [], [], [])), [(0, (2, 155, .ofNat 0))], [], [(155, 7, 1, (0, 13, .ofNat 0)), (155, 8, 1, (0, 11, .ofNat 0)), (155, 10, 1, (0, 12, .ofNat 0)), (155, 12, 1, (0, 10, .ofNat 0)), (161, 3, 1, (0, 14, .ofNat 0))], [], (.ofNat 0, []), none)
def zg292_1 : List zNd := [zn292_0]
def zg292_2 : List zNd := [zn292_1]
def zg292_3 : List zNd := [zn292_2]
def zg292_4 : List zNd := [zn292_3]
def znl292 : List zNd := zg292_1 ++ (zg292_2 ++ (zg292_3 ++ (zg292_4)))
set_option maxRecDepth 100000 in
theorem zk292_0 : z_ck0 zT1 (z_cnt zL4) 20000 [9, 18, 27, 46] zm54 zc292 znl292 = true := by decide +kernel
set_option maxRecDepth 100000 in
theorem zk292_1 : z_ckn zT1 (z_cnt zL4) 20000 [9, 18, 27, 46] zm54 zc292 znl292 zg292_1 = true := by decide +kernel
set_option maxRecDepth 100000 in
theorem zk292_2 : z_ckn zT1 (z_cnt zL4) 20000 [9, 18, 27, 46] zm54 zc292 znl292 zg292_2 = true := by decide +kernel
set_option maxRecDepth 100000 in
theorem zk292_3 : z_ckn zT1 (z_cnt zL4) 20000 [9, 18, 27, 46] zm54 zc292 znl292 zg292_3 = true := by decide +kernel
set_option maxRecDepth 100000 in
theorem zk292_4 : z_ckn zT1 (z_cnt zL4) 20000 [9, 18, 27, 46] zm54 zc292 znl292 zg292_4 = true := by decide +kernel
theorem zk292 : z_cok zT1 (z_cnt zL4) 20000 [9, 18, 27, 46] zm54 zc292 znl292 = true := z_cok_of zk292_0 (z_ckn_app zk292_1 (z_ckn_app zk292_2 (z_ckn_app zk292_3 (zk292_4))))
set_option maxRecDepth 100000 in
def zn293_0 : zNd := (2, (z_li [(.ofNat 0, .ofNat 0), (.negSucc 2147483647, .ofNat 2147483647), (.negSucc 2147483647, .ofNat 2147483647), (.negSucc 2147483647, .ofNat 2147483647), (.negSucc 2147483647, .ofNat 2147483647), (.negSucc 2147483647, .ofNat 2147483647), (.negSucc 2147483647, .ofNat 2147483647), (.negSucc 2147483647, .ofNat 2147483647), (.negSucc 2147483647, .ofNat 2147483647), (.negSucc 2147483647, .ofNat 2147483647), (.ofNat 0, .ofNat 13), (.ofNat 0, .ofNat 9), (.ofNat 0, .ofNat 6), (.ofNat 0, .ofNat 9)] (true, [(.ofNat 0, [(12, .negSucc 0), (11, .ofNat 3)])], [], [])), [(0, (2, 155, .ofNat 0)), (1, (0, 10, .ofNat 0)), (2, (0, 13, .ofNat 0))], [], [(156, 3, 1, (0, 11, .ofNat 0)), (156, 7, 1, (0, 12, .ofNat 0))], [(13, 1, 0, 2, 0)], (.ofNat 71, [(13, .negSucc 0)]), none)
set_option maxRecDepth 100000 in
def zn293_1 : zNd := (61, (z_li [(.ofNat 0, .ofNat 0), (.negSucc 2147483647, .ofNat 2147483647), (.negSucc 2147483647, .ofNat 2147483647), (.negSucc 2147483647, .ofNat 2147483647), (.negSucc 2147483647, .ofNat 2147483647), (.negSucc 2147483647, .ofNat 2147483647), (.negSucc 2147483647, .ofNat 2147483647), (.negSucc 2147483647, .ofNat 2147483647), (.negSucc 2147483647, .ofNat 2147483647), (.negSucc 2147483647, .ofNat 2147483647), (.ofNat 0, .ofNat 13), (.ofNat 0, .ofNat 9), (.ofNat 0, .ofNat 6), (.ofNat 0, .ofNat 30)] (true, [(.ofNat 0, [(12, .negSucc 0), (11, .ofNat 3)])], [], [])), [(0, (2, 155, .ofNat 0)), (1, (0, 10, .ofNat 0)), (2, (0, 13, .ofNat 0))], [], [(156, 3, 1, (0, 11, .ofNat 0)), (156, 7, 1, (0, 12, .ofNat 0))], [(13, 1, 0, 2, 0)], (.ofNat 61, [(13, .negSucc 0)]), none)
set_option maxRecDepth 100000 in
def zn293_2 : zNd := (149, (z_li [(.ofNat 0, .ofNat 0), (.negSucc 2147483647, .ofNat 2147483647), (.negSucc 2147483647, .ofNat 2147483647), (.negSucc 2147483647, .ofNat 2147483647), (.negSucc 2147483647, .ofNat 2147483647), (.negSucc 2147483647, .ofNat 2147483647), (.negSucc 2147483647, .ofNat 2147483647), (.negSucc 2147483647, .ofNat 2147483647), (.negSucc 2147483647, .ofNat 2147483647), (.negSucc 2147483647, .ofNat 2147483647), (.ofNat 0, .ofNat 13), (.ofNat 0, .ofNat 9), (.ofNat 0, .ofNat 6), (.ofNat 0, .ofNat 30)] (true, [(.ofNat 0, [(12, .negSucc 0), (11, .ofNat 3)])], [], [])), [(0, (2, 155, .ofNat 0)), (1, (0, 10, .ofNat 0)), (2, (0, 13, .ofNat 0))], [], [(156, 3, 1, (0, 11, .ofNat 0)), (156, 7, 1, (0, 12, .ofNat 0))], [(13, 1, 0, 2, 0)], (.ofNat 30, [(13, .negSucc 0)]), none)
def zg293_1 : List zNd := [zn293_0, zn293_1, zn293_2]
def znl293 : List zNd := zg293_1
set_option maxRecDepth 100000 in
theorem zk293_0 : z_ck0 zT1 (z_cnt zL4) 20000 [2, 61, 149] zm82 zc293 znl293 = true := by decide +kernel
set_option maxRecDepth 100000 in
theorem zk293_1 : z_ckn zT1 (z_cnt zL4) 20000 [2, 61, 149] zm82 zc293 znl293 zg293_1 = true := by decide +kernel
theorem zk293 : z_cok zT1 (z_cnt zL4) 20000 [2, 61, 149] zm82 zc293 znl293 = true := z_cok_of zk293_0 (zk293_1)
set_option maxRecDepth 100000 in
def zn294_0 : zNd := (9, (z_li [(.ofNat 0, .ofNat 0), (.negSucc 2147483647, .ofNat 2147483647), (.negSucc 2147483647, .ofNat 2147483647), (.negSucc 2147483647, .ofNat 2147483647), (.negSucc 2147483647, .ofNat 2147483647), (.negSucc 2147483647, .ofNat 2147483647), (.negSucc 2147483647, .ofNat 2147483647), (.negSucc 2147483647, .ofNat 2147483647), (.negSucc 2147483647, .ofNat 2147483647), (.negSucc 2147483647, .ofNat 2147483647), (.ofNat 0, .ofNat 5), (.ofNat 0, .ofNat 5), (.negSucc 0, .ofNat 239), (.negSucc 0, .ofNat 40), (.ofNat 0, .ofNat 14)] (false, [], [], [])), [(0, (2, 70, .ofNat 0)), (1, (0, 10, .ofNat 0)), (2, (0, 11, .ofNat 0)), (3, (0, 12, .ofNat 0)), (4, (0, 13, .ofNat 0)), (5, (0, 14, .ofNat 0))], [], [], [(12, 1, 0, 3, 0), (13, 1, 0, 4, 0), (14, 1, 0, 5, 0)], (.ofNat 89, [(14, .negSucc 5)]), none)
set_option maxRecDepth 100000 in
def zn294_1 : zNd := (24, (z_li [(.ofNat 0, .ofNat 0), (.negSucc 2147483647, .ofNat 2147483647), (.negSucc 2147483647, .ofNat 2147483647), (.negSucc 2147483647, .ofNat 2147483647), (.negSucc 2147483647, .ofNat 2147483647), (.negSucc 2147483647, .ofNat 2147483647), (.negSucc 2147483647, .ofNat 2147483647), (.negSucc 2147483647, .ofNat 2147483647), (.negSucc 2147483647, .ofNat 2147483647), (.negSucc 2147483647, .ofNat 2147483647), (.ofNat 0, .ofNat 5), (.ofNat 0, .ofNat 5), (.negSucc 0, .ofNat 239), (.negSucc 0, .ofNat 40), (.ofNat 0, .ofNat 13), (.ofNat 0, .ofNat 4)] (false, [], [], [])), [(0, (2, 70, .ofNat 0)), (1, (0, 10, .ofNat 0)), (2, (0, 11, .ofNat 0)), (3, (0, 12, .ofNat 0)), (4, (0, 13, .ofNat 0)), (5, (0, 14, .ofNat 0)), (6, (0, 15, .ofNat 0))], [], [], [(12, 1, 0, 3, 0), (13, 1, 0, 4, 0), (14, 1, 0, 5, 0), (15, 1, 0, 6, 0)], (.ofNat 88, [(15, .negSucc 0), (14, .negSucc 5)]), none)
def zg294_1 : List zNd := [zn294_0, zn294_1]
def znl294 : List zNd := zg294_1
set_option maxRecDepth 100000 in
theorem zk294_0 : z_ck0 zT1 (z_cnt zL4) 20000 [9, 24] zm135 zc294 znl294 = true := by decide +kernel
set_option maxRecDepth 100000 in
theorem zk294_1 : z_ckn zT1 (z_cnt zL4) 20000 [9, 24] zm135 zc294 znl294 zg294_1 = true := by decide +kernel
theorem zk294 : z_cok zT1 (z_cnt zL4) 20000 [9, 24] zm135 zc294 znl294 = true := z_cok_of zk294_0 (zk294_1)
set_option maxRecDepth 100000 in
def zn295_0 : zNd := (19, (z_li [(.ofNat 0, .ofNat 0), (.negSucc 2147483647, .ofNat 2147483647), (.negSucc 2147483647, .ofNat 2147483647), (.negSucc 2147483647, .ofNat 2147483647), (.negSucc 2147483647, .ofNat 2147483647), (.negSucc 2147483647, .ofNat 2147483647), (.negSucc 2147483647, .ofNat 2147483647), (.negSucc 2147483647, .ofNat 2147483647), (.negSucc 2147483647, .ofNat 2147483647), (.negSucc 2147483647, .ofNat 2147483647), (.ofNat 0, .ofNat 63), (.negSucc 0, .ofNat 8), (.ofNat 0, .ofNat 9)] (false, [], [], [])), [(0, (2, 70, .ofNat 0)), (1, (0, 10, .ofNat 0)), (2, (0, 11, .ofNat 0)), (3, (0, 12, .ofNat 0))], [], [], [(10, 1, 0, 1, 0), (11, 1, 0, 2, 0), (12, 1, 0, 3, 0)], (.ofNat 9, [(12, .negSucc 0)]), none)
def zg295_1 : List zNd := [zn295_0]
def znl295 : List zNd := zg295_1
set_option maxRecDepth 100000 in
theorem zk295_0 : z_ck0 zT1 (z_cnt zL4) 20000 [19] zm136 zc295 znl295 = true := by decide +kernel
set_option maxRecDepth 100000 in
theorem zk295_1 : z_ckn zT1 (z_cnt zL4) 20000 [19] zm136 zc295 znl295 zg295_1 = true := by decide +kernel
theorem zk295 : z_cok zT1 (z_cnt zL4) 20000 [19] zm136 zc295 znl295 = true := z_cok_of zk295_0 (zk295_1)
set_option maxRecDepth 100000 in
def zn296_0 : zNd := (19, (z_li [(.ofNat 0, .ofNat 0), (.negSucc 2147483647, .ofNat 2147483647), (.negSucc 2147483647, .ofNat 2147483647), (.negSucc 2147483647, .ofNat 2147483647), (.negSucc 2147483647, .ofNat 2147483647), (.negSucc 2147483647, .ofNat 2147483647), (.negSucc 2147483647, .ofNat 2147483647), (.negSucc 2147483647, .ofNat 2147483647), (.negSucc 2147483647, .ofNat 2147483647), (.negSucc 2147483647, .ofNat 2147483647), (.ofNat 0, .ofNat 63), (.negSucc 0, .ofNat 7), (.ofNat 0, .ofNat 8)] (false, [], [], [])), [(0, (2, 70, .ofNat 0)), (1, (0, 10, .ofNat 0)), (2, (0, 11, .ofNat 0)), (3, (0, 12, .ofNat 0))], [], [], [(10, 1, 0, 1, 0), (11, 1, 0, 2, 0), (12, 1, 0, 3, 0)], (.ofNat 8, [(12, .negSucc 0)]), none)
def zg296_1 : List zNd := [zn296_0]
def znl296 : List zNd := zg296_1
set_option maxRecDepth 100000 in
theorem zk296_0 : z_ck0 zT1 (z_cnt zL4) 20000 [19] zm139 zc296 znl296 = true := by decide +kernel
set_option maxRecDepth 100000 in
theorem zk296_1 : z_ckn zT1 (z_cnt zL4) 20000 [19] zm139 zc296 znl296 zg296_1 = true := by decide +kernel
theorem zk296 : z_cok zT1 (z_cnt zL4) 20000 [19] zm139 zc296 znl296 = true := z_cok_of zk296_0 (zk296_1)
set_option maxRecDepth 100000 in
def zn297_0 : zNd := (10, (z_li [(.ofNat 0, .ofNat 0), (.negSucc 2147483647, .ofNat 2147483647), (.negSucc 2147483647, .ofNat 2147483647), (.negSucc 2147483647, .ofNat 2147483647), (.negSucc 2147483647, .ofNat 2147483647), (.negSucc 2147483647, .ofNat 2147483647), (.negSucc 2147483647, .ofNat 2147483647), (.negSucc 2147483647, .ofNat 2147483647), (.negSucc 2147483647, .ofNat 2147483647), (.negSucc 2147483647, .ofNat 2147483647), (.ofNat 0, .ofNat 3), (.negSucc 2147483647, .ofNat 2147483647), (.ofNat 1, .ofNat 4)] (false, [], [], [])), [(0, (2, 70, .ofNat 0)), (1, (0, 10, .ofNat 0)), (2, (0, 11, .ofNat 0)), (3, (0, 12, .ofNat 0))], [], [], [(10, 1, 0, 1, 0), (11, 1, 0, 2, 0), (12, 1, 0, 3, 0)], (.ofNat 4, [(12, .negSucc 0)]), none)
def zg297_1 : List zNd := [zn297_0]
def znl297 : List zNd := zg297_1
set_option maxRecDepth 100000 in
theorem zk297_0 : z_ck0 zT1 (z_cnt zL4) 20000 [10] zm165 zc297 znl297 = true := by decide +kernel
set_option maxRecDepth 100000 in
theorem zk297_1 : z_ckn zT1 (z_cnt zL4) 20000 [10] zm165 zc297 znl297 zg297_1 = true := by decide +kernel
theorem zk297 : z_cok zT1 (z_cnt zL4) 20000 [10] zm165 zc297 znl297 = true := z_cok_of zk297_0 (zk297_1)
