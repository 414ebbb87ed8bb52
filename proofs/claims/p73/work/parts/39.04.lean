set_option maxRecDepth 100000 in
def zn240_0 : zNd := (8, (z_li [(.ofNat 0, .ofNat 0), (.negSucc 2147483647, .ofNat 2147483647), (.negSucc 2147483647, .ofNat 2147483647), (.negSucc 2147483647, .ofNat 2147483647), (.negSucc 2147483647, .ofNat 2147483647), (.negSucc 2147483647, .ofNat 2147483647), (.negSucc 2147483647, .ofNat 2147483647), (.negSucc 2147483647, .ofNat 2147483647), (.negSucc 2147483647, .ofNat 2147483647), (.negSucc 2147483647, .ofNat 2147483647), (.ofNat 0, .ofNat 0), (.ofNat 0, .ofNat 30), (.ofNat 0, .ofNat 14)] (false, [], [], [])), [(0, (2, 44, .ofNat 0)), (3, (0, 12, .ofNat 0))], [], [], [(12, 1, 0, 3, 0)], (.ofNat 14, [(12, .negSucc 0)]), none)
def zg240_1 : List zNd := [zn240_0]
def znl240 : List zNd := zg240_1
set_option maxRecDepth 100000 in
theorem zk240_0 : z_ck0 zT1 (z_cnt zL2) 20000 [8] zm33 zc240 znl240 = true := by decide +kernel
set_option maxRecDepth 100000 in
theorem zk240_1 : z_ckn zT1 (z_cnt zL2) 20000 [8] zm33 zc240 znl240 zg240_1 = true := by decide +kernel
theorem zk240 : z_cok zT1 (z_cnt zL2) 20000 [8] zm33 zc240 znl240 = true := z_cok_of zk240_0 (zk240_1)
set_option maxRecDepth 100000 in
def zn241_0 : zNd := (8, (z_li [(.ofNat 0, .ofNat 0), (.negSucc 2147483647, .ofNat 2147483647), (.negSucc 2147483647, .ofNat 2147483647), (.negSucc 2147483647, .ofNat 2147483647), (.negSucc 2147483647, .ofNat 2147483647), (.negSucc 2147483647, .ofNat 2147483647), (.negSucc 2147483647, .ofNat 2147483647), (.negSucc 2147483647, .ofNat 2147483647), (.negSucc 2147483647, .ofNat 2147483647), (.negSucc 2147483647, .ofNat 2147483647), (.ofNat 1, .ofNat 1), (.ofNat 0, .ofNat 30), (.ofNat 0, .ofNat 14)] (false, [], [], [])), [(0, (2, 47, .ofNat 0)), (3, (0, 12, .ofNat 0))], [], [], [(12, 1, 0, 3, 0)], (.ofNat 14, [(12, .negSucc 0)]), none)
def zg241_1 : List zNd := [zn241_0]
def znl241 : List zNd := zg241_1
set_option maxRecDepth 100000 in
theorem zk241_0 : z_ck0 zT1 (z_cnt zL2) 20000 [8] zm33 zc241 znl241 = true := by decide +kernel
set_option maxRecDepth 100000 in
theorem zk241_1 : z_ckn zT1 (z_cnt zL2) 20000 [8] zm33 zc241 znl241 zg241_1 = true := by decide +kernel
theorem zk241 : z_cok zT1 (z_cnt zL2) 20000 [8] zm33 zc241 znl241 = true := z_cok_of zk241_0 (zk241_1)
set_option maxRecDepth 100000 in
def zn242_0 : zNd := (8, (z_li [(.ofNat 0, .ofNat 0), (.negSucc 2147483647, .ofNat 2147483647), (.negSucc 2147483647, .ofNat 2147483647), (.negSucc 2147483647, .ofNat 2147483647), (.negSucc 2147483647, .ofNat 2147483647), (.negSucc 2147483647, .ofNat 2147483647), (.negSucc 2147483647, .ofNat 2147483647), (.negSucc 2147483647, .ofNat 2147483647), (.negSucc 2147483647, .ofNat 2147483647), (.negSucc 2147483647, .ofNat 2147483647), (.ofNat 2, .ofNat 2), (.ofNat 0, .ofNat 30), (.ofNat 0, .ofNat 14)] (false, [], [], [])), [(0, (2, 50, .ofNat 0)), (3, (0, 12, .ofNat 0))], [], [], [(12, 1, 0, 3, 0)], (.ofNat 14, [(12, .negSucc 0)]), none)
def zg242_1 : List zNd := [zn242_0]
def znl242 : List zNd := zg242_1
set_option maxRecDepth 100000 in
theorem zk242_0 : z_ck0 zT1 (z_cnt zL2) 20000 [8] zm33 zc242 znl242 = true := by decide +kernel
set_option maxRecDepth 100000 in
theorem zk242_1 : z_ckn zT1 (z_cnt zL2) 20000 [8] zm33 zc242 znl242 zg242_1 = true := by decide +kernel
theorem zk242 : z_cok zT1 (z_cnt zL2) 20000 [8] zm33 zc242 znl242 = true := z_cok_of zk242_0 (zk242_1)
set_option maxRecDepth 100000 in
def zn243_0 : zNd := (8, (z_li [(.ofNat 0, .ofNat 0), (.negSucc 2147483647, .ofNat 2147483647), (.negSucc 2147483647, .ofNat 2147483647), (.negSucc 2147483647, .ofNat 2147483647), (.negSucc 2147483647, .ofNat 2147483647), (.negSucc 2147483647, .ofNat 2147483647), (.negSucc 2147483647, .ofNat 2147483647), (.negSucc 2147483647, .ofNat 2147483647), (.negSucc 2147483647, .ofNat 2147483647), (.negSucc 2147483647, .ofNat 2147483647), (.ofNat 3, .ofNat 3), (.ofNat 0, .ofNat 30), (.ofNat 0, .ofNat 14)] (false, [], [], [])), [(0, (2, 53, .ofNat 0)), (3, (0, 12, .ofNat 0))], [], [], [(12, 1, 0, 3, 0)], (.ofNat 14, [(12, .negSucc 0)]), none)
def zg243_1 : List zNd := [zn243_0]
def znl243 : List zNd := zg243_1
set_option maxRecDepth 100000 in
theorem zk243_0 : z_ck0 zT1 (z_cnt zL2) 20000 [8] zm33 zc243 znl243 = true := by decide +kernel
set_option maxRecDepth 100000 in
theorem zk243_1 : z_ckn zT1 (z_cnt zL2) 20000 [8] zm33 zc243 znl243 zg243_1 = true := by decide +kernel
theorem zk243 : z_cok zT1 (z_cnt zL2) 20000 [8] zm33 zc243 znl243 = true := z_cok_of zk243_0 (zk243_1)
set_option maxRecDepth 100000 in
def zn244_0 : zNd := (8, (z_li [(.ofNat 0, .ofNat 0), (.negSucc 2147483647, .ofNat 2147483647), (.negSucc 2147483647, .ofNat 2147483647), (.negSucc 2147483647, .ofNat 2147483647), (.negSucc 2147483647, .ofNat 2147483647), (.negSucc 2147483647, .ofNat 2147483647), (.negSucc 2147483647, .ofNat 2147483647), (.negSucc 2147483647, .ofNat 2147483647), (.negSucc 2147483647, .ofNat 2147483647), (.negSucc 2147483647, .ofNat 2147483647), (.ofNat 4, .ofNat 4), (.ofNat 0, .ofNat 30), (.ofNat 0, .ofNat 14)] (false, [], [], [])), [(0, (2, 56, .ofNat 0)), (3, (0, 12, .ofNat 0))], [], [], [(12, 1, 0, 3, 0)], (.ofNat 14, [(12, .negSucc 0)]), none)
def zg244_1 : List zNd := [zn244_0]
def znl244 : List zNd := zg244_1
set_option maxRecDepth 100000 in
theorem zk244_0 : z_ck0 zT1 (z_cnt zL2) 20000 [8] zm33 zc244 znl244 = true := by decide +kernel
set_option maxRecDepth 100000 in
theorem zk244_1 : z_ckn zT1 (z_cnt zL2) 20000 [8] zm33 zc244 znl244 zg244_1 = true := by decide +kernel
theorem zk244 : z_cok zT1 (z_cnt zL2) 20000 [8] zm33 zc244 znl244 = true := z_cok_of zk244_0 (zk244_1)
set_option maxRecDepth 100000 in
def zn245_0 : zNd := (8, (z_li [(.ofNat 0, .ofNat 0), (.negSucc 2147483647, .ofNat 2147483647), (.negSucc 2147483647, .ofNat 2147483647), (.negSucc 2147483647, .ofNat 2147483647), (.negSucc 2147483647, .ofNat 2147483647), (.negSucc 2147483647, .ofNat 2147483647), (.negSucc 2147483647, .ofNat 2147483647), (.negSucc 2147483647, .ofNat 2147483647), (.negSucc 2147483647, .ofNat 2147483647), (.negSucc 2147483647, .ofNat 2147483647), (.ofNat 5, .ofNat 5), (.ofNat 0, .ofNat 30), (.ofNat 0, .ofNat 14)] (false, [], [], [])), [(0, (2, 59, .ofNat 0)), (3, (0, 12, .ofNat 0))], [], [], [(12, 1, 0, 3, 0)], (.ofNat 14, [(12, .negSucc 0)]), none)
def zg245_1 : List zNd := [zn245_0]
def znl245 : List zNd := zg245_1
set_option maxRecDepth 100000 in
theorem zk245_0 : z_ck0 zT1 (z_cnt zL2) 20000 [8] zm33 zc245 znl245 = true := by decide +kernel
set_option maxRecDepth 100000 in
theorem zk245_1 : z_ckn zT1 (z_cnt zL2) 20000 [8] zm33 zc245 znl245 zg245_1 = true := by decide +kernel
theorem zk245 : z_cok zT1 (z_cnt zL2) 20000 [8] zm33 zc245 znl245 = true := z_cok_of zk245_0 (zk245_1)
set_option maxRecDepth 100000 in
def zn246_0 : zNd := (8, (z_li [(.ofNat 0, .ofNat 0), (.negSucc 2147483647, .ofNat 2147483647), (.negSucc 2147483647, .ofNat 2147483647), (.negSucc 2147483647, .ofNat 2147483647), (.negSucc 2147483647, .ofNat 2147483647), (.negSucc 2147483647, .ofNat 2147483647), (.negSucc 2147483647, .ofNat 2147483647), (.negSucc 2147483647, .ofNat 2147483647), (.negSucc 2147483647, .ofNat 2147483647), (.negSucc 2147483647, .ofNat 2147483647), (.ofNat 0, .ofNat 5), (.ofNat 0, .ofNat 30), (.ofNat 0, .ofNat 14)] (false, [], [], [])), [(0, (2, 74, .ofNat 0)), (3, (0, 12, .ofNat 0))], [], [], [(12, 1, 0, 3, 0)], (.ofNat 14, [(12, .negSucc 0)]), none)
def zg246_1 : List zNd := [zn246_0]
def znl246 : List zNd := zg246_1
set_option maxRecDepth 100000 in
theorem zk246_0 : z_ck0 zT1 (z_cnt zL2) 20000 [8] zm33 zc246 znl246 = true := by decide +kernel
set_option maxRecDepth 100000 in
theorem zk246_1 : z_ckn zT1 (z_cnt zL2) 20000 [8] zm33 zc246 znl246 zg246_1 = true := by decide +kernel
theorem zk246 : z_cok zT1 (z_cnt zL2) 20000 [8] zm33 zc246 znl246 = true := z_cok_of zk246_0 (zk246_1)
set_option maxRecDepth 100000 in
theorem zk247 : z_cok zT1 (z_cnt zL2) 20000 [] zm52 zc247 [] = true := by decide +kernel
set_option maxRecDepth 100000 in
theorem zk248 : z_cok zT1 (z_cnt zL2) 20000 [] zm52 zc248 [] = true := by decide +kernel
set_option maxRecDepth 100000 in
theorem zk249 : z_cok zT1 (z_cnt zL2) 20000 [] zm52 zc249 [] = true := by decide +kernel
set_option maxRecDepth 100000 in
theorem zk250 : z_cok zT1 (z_cnt zL2) 20000 [] zm52 zc250 [] = true := by decide +kernel
set_option maxRecDepth 100000 in
theorem zk251 : z_cok zT1 (z_cnt zL2) 20000 [] zm52 zc251 [] = true := by decide +kernel
set_option maxRecDepth 100000 in
theorem zk252 : z_cok zT1 (z_cnt zL2) 20000 [] zm52 zc252 [] = true := by decide +kernel
set_option maxRecDepth 100000 in
theorem zk253 : z_cok zT1 (z_cnt zL2) 20000 [] zm52 zc253 [] = true := by decide +kernel
set_option maxRecDepth 100000 in
theorem zk254 : z_cok zT1 (z_cnt zL2) 20000 [] zm52 zc254 [] = true := by decide +kernel
set_option maxRecDepth 100000 in
theorem zk255 : z_cok zT1 (z_cnt zL2) 20000 [] zm56 zc255 [] = true := by decide +kernel
set_option maxRecDepth 100000 in
theorem zk256 : z_cok zT1 (z_cnt zL2) 20000 [] zm56 zc256 [] = true := by decide +kernel
set_option maxRecDepth 100000 in
theorem zk257 : z_cok zT1 (z_cnt zL2) 20000 [] zm56 zc257 [] = true := by decide +kernel
set_option maxRecDepth 100000 in
def zn258_0 : zNd := (56, (z_li [(.ofNat 0, .ofNat 0), (.negSucc 2147483647, .ofNat 2147483647), (.negSucc 2147483647, .ofNat 2147483647), (.negSucc 2147483647, .ofNat 2147483647), (.negSucc 2147483647, .ofNat 2147483647), (.negSucc 2147483647, .ofNat 2147483647), (.negSucc 2147483647, .ofNat 2147483647), (.negSucc 2147483647, .ofNat 2147483647), (.negSucc 2147483647, .ofNat 2147483647), (.negSucc 2147483647, .ofNat 2147483647), (.ofNat 0, .ofNat 5), (.negSucc 2147483647, .ofNat 2147483647), (.ofNat 1, .ofNat 2147483647), (.ofNat 1, .ofNat 9), (.negSucc 27, .ofNat 715827883), (.negSucc 2147483647, .ofNat 2147483647), (.negSucc 2147483647, .ofNat 2147483647)] (true, [], [], [])), [(0, (2, 155, .ofNat 0)), (1, (0, 10, .ofNat 0)), (4, (0, 14, .ofNat 0)), (5, (0, 15, .ofNat 0)), (6, (0, 16, .ofNat 0))], [], [(156, 3, 1, (0, 13, .ofNat 0))], [(14, 1, 0, 4, 0), (15, 1, 0, 5, 0), (16, 1, 0, 6, 0)], (.ofNat 28, [(14, .ofNat 1)]), none)
def zg258_1 : List zNd := [zn258_0]
def znl258 : List zNd := zg258_1
set_option maxRecDepth 100000 in
theorem zk258_0 : z_ck0 zT1 (z_cnt zL2) 20000 [56] zm84 zc258 znl258 = true := by decide +kernel
set_option maxRecDepth 100000 in
theorem zk258_1 : z_ckn zT1 (z_cnt zL2) 20000 [56] zm84 zc258 znl258 zg258_1 = true := by decide +kernel
theorem zk258 : z_cok zT1 (z_cnt zL2) 20000 [56] zm84 zc258 znl258 = true := z_cok_of zk258_0 (zk258_1)
set_option maxRecDepth 100000 in
def zn259_0 : zNd := (16, (z_li [(.ofNat 0, .ofNat 0), (.negSucc 2147483647, .ofNat 2147483647), (.negSucc 2147483647, .ofNat 2147483647), (.negSucc 2147483647, .ofNat 2147483647), (.negSucc 2147483647, .ofNat 2147483647), (.negSucc 2147483647, .ofNat 2147483647), (.negSucc 2147483647, .ofNat 2147483647), (.negSucc 2147483647, .ofNat 2147483647), (.negSucc 2147483647, .ofNat 2147483647), (.negSucc 2147483647, .ofNat 2147483647), (.ofNat 0, .ofNat 5), (.ofNat 0, .ofNat 14)] (false, [], [], [])), [(0, (2, 74, .ofNat 0)), (2, (0, 11, .ofNat 0))], [], [], [(11, 1, 0, 2, 0)], (.ofNat 14, [(11, .negSucc 0)]), none)
def zg259_1 : List zNd := [zn259_0]
def znl259 : List zNd := zg259_1
set_option maxRecDepth 100000 in
theorem zk259_0 : z_ck0 zT1 (z_cnt zL2) 20000 [16] zm129 zc259 znl259 = true := by decide +kernel
set_option maxRecDepth 100000 in
theorem zk259_1 : z_ckn zT1 (z_cnt zL2) 20000 [16] zm129 zc259 znl259 zg259_1 = true := by decide +kernel
theorem zk259 : z_cok zT1 (z_cnt zL2) 20000 [16] zm129 zc259 znl259 = true := z_cok_of zk259_0 (zk259_1)
set_option maxRecDepth 100000 in
def zn260_0 : zNd := (12, (z_li [(.ofNat 0, .ofNat 0), (.negSucc 2147483647, .ofNat 2147483647), (.negSucc 2147483647, .ofNat 2147483647), (.negSucc 2147483647, .ofNat 2147483647), (.negSucc 2147483647, .ofNat 2147483647), (.negSucc 2147483647, .ofNat 2147483647), (.negSucc 2147483647, .ofNat 2147483647), (.negSucc 2147483647, .ofNat 2147483647), (.negSucc 2147483647, .ofNat 2147483647), (.negSucc 2147483647, .ofNat 2147483647), (.ofNat 0, .ofNat 13), (.ofNat 0, .ofNat 14)] (false, [], [], [])), [(0, (2, 74, .ofNat 0)), (2, (0, 11, .ofNat 0))], [], [], [(11, 1, 0, 2, 0)], (.ofNat 14, [(11, .negSucc 0)]), none)
def zg260_1 : List zNd := [zn260_0]
def znl260 : List zNd := zg260_1
set_option maxRecDepth 100000 in
theorem zk260_0 : z_ck0 zT1 (z_cnt zL2) 20000 [12] zm133 zc260 znl260 = true := by decide +kernel
set_option maxRecDepth 100000 in
theorem zk260_1 : z_ckn zT1 (z_cnt zL2) 20000 [12] zm133 zc260 znl260 zg260_1 = true := by decide +kernel
theorem zk260 : z_cok zT1 (z_cnt zL2) 20000 [12] zm133 zc260 znl260 = true := z_cok_of zk260_0 (zk260_1)
set_option maxRecDepth 100000 in
def zn265_0 : zNd := (15, (z_li [(.ofNat 0, .ofNat 0), (.negSucc 2147483647, .ofNat 2147483647), (.negSucc 2147483647, .ofNat 2147483647), (.negSucc 2147483647, .ofNat 2147483647), (.negSucc 2147483647, .ofNat 2147483647), (.negSucc 2147483647, .ofNat 2147483647), (.negSucc 2147483647, .ofNat 2147483647), (.negSucc 2147483647, .ofNat 2147483647), (.negSucc 2147483647, .ofNat 2147483647), (.negSucc 2147483647, .ofNat 2147483647), (.ofNat 0, .ofNat 15)] (false, [], [], [])), [(0, (2, 77, .ofNat 0)), (1, (0, 10, .ofNat 0))], [], [], [(10, 1, 0, 1, 0)], (.ofNat 15, [(10, .negSucc 0)]), none)
def zg265_1 : List zNd := [zn265_0]
def znl265 : List zNd := zg265_1
set_option maxRecDepth 100000 in
theorem zk265_0 : z_ck0 zT1 (z_cnt zL2) 20000 [15] zm157 zc265 znl265 = true := by decide +kernel
set_option maxRecDepth 100000 in
theorem zk265_1 : z_ckn zT1 (z_cnt zL2) 20000 [15] zm157 zc265 znl265 zg265_1 = true := by decide +kernel
theorem zk265 : z_cok zT1 (z_cnt zL2) 20000 [15] zm157 zc265 znl265 = true := z_cok_of zk265_0 (zk265_1)
set_option maxRecDepth 100000 in
def zn266_0 : zNd := (17, (z_li [(.ofNat 0, .ofNat 0), (.negSucc 2147483647, .ofNat 2147483647), (.negSucc 2147483647, .ofNat 2147483647), (.negSucc 2147483647, .ofNat 2147483647), (.negSucc 2147483647, .ofNat 2147483647), (.negSucc 2147483647, .ofNat 2147483647), (.negSucc 2147483647, .ofNat 2147483647), (.negSucc 2147483647, .ofNat 2147483647), (.negSucc 2147483647, .ofNat 2147483647), (.negSucc 2147483647, .ofNat 2147483647), (.negSucc 2147483647, .ofNat 2147483647), (.ofNat 0, .ofNat 100)] (false, [], [], [])), [(0, (2, 0, .ofNat 0)), (1, (0, 10, .ofNat 0)), (2, (0, 11, .ofNat 0))], [], [], [(10, 1, 0, 1, 0), (11, 1, 0, 2, 0)], (.ofNat 100, [(11, .negSucc 0)]), none)
def zg266_1 : List zNd := [zn266_0]
def znl266 : List zNd := zg266_1
set_option maxRecDepth 100000 in
theorem zk266_0 : z_ck0 zT1 (z_cnt zL2) 20000 [17] zm276 zc266 znl266 = true := by decide +kernel
set_option maxRecDepth 100000 in
theorem zk266_1 : z_ckn zT1 (z_cnt zL2) 20000 [17] zm276 zc266 znl266 zg266_1 = true := by decide +kernel
theorem zk266 : z_cok zT1 (z_cnt zL2) 20000 [17] zm276 zc266 znl266 = true := z_cok_of zk266_0 (zk266_1)
set_option maxRecDepth 100000 in
def zn267_0 : zNd := (18, (z_li [(.ofNat 0, .ofNat 0), (.negSucc 2147483647, .ofNat 2147483647), (.negSucc 2147483647, .ofNat 2147483647), (.negSucc 2147483647, .ofNat 2147483647), (.negSucc 2147483647, .ofNat 2147483647), (.negSucc 2147483647, .ofNat 2147483647), (.negSucc 2147483647, .ofNat 2147483647), (.negSucc 2147483647, .ofNat 2147483647), (.negSucc 2147483647, .ofNat 2147483647), (.negSucc 2147483647, .ofNat 2147483647), (.ofNat 0, .ofNat 5), (.negSucc 0, .ofNat 5), (.ofNat 0, .ofNat 2147483647), (.ofNat 0, .ofNat 6)] (false, [], [], [])), [(0, (2, 0, .ofNat 0)), (1, (0, 10, .ofNat 0)), (2, (0, 11, .ofNat 0)), (3, (0, 12, .ofNat 0)), (4, (0, 13, .ofNat 0))], [], [], [(11, 1, 0, 2, 0), (12, 1, 0, 3, 0), (13, 1, 0, 4, 0)], (.ofNat 6, [(13, .negSucc 0)]), none)
def zg267_1 : List zNd := [zn267_0]
def znl267 : List zNd := zg267_1
set_option maxRecDepth 100000 in
theorem zk267_0 : z_ck0 zT1 (z_cnt zL2) 20000 [18] zm294 zc267 znl267 = true := by decide +kernel
set_option maxRecDepth 100000 in
theorem zk267_1 : z_ckn zT1 (z_cnt zL2) 20000 [18] zm294 zc267 znl267 zg267_1 = true := by decide +kernel
theorem zk267 : z_cok zT1 (z_cnt zL2) 20000 [18] zm294 zc267 znl267 = true := z_cok_of zk267_0 (zk267_1)
set_option maxRecDepth 100000 in
def zn268_0 : zNd := (18, (z_li [(.ofNat 0, .ofNat 0), (.negSucc 2147483647, .ofNat 2147483647), (.negSucc 2147483647, .ofNat 2147483647), (.negSucc 2147483647, .ofNat 2147483647), (.negSucc 2147483647, .ofNat 2147483647), (.negSucc 2147483647, .ofNat 2147483647), (.negSucc 2147483647, .ofNat 2147483647), (.negSucc 2147483647, .ofNat 2147483647), (.negSucc 2147483647, .ofNat 2147483647), (.negSucc 2147483647, .ofNat 2147483647), (.ofNat 0, .ofNat 14), (.negSucc 0, .ofNat 5), (.ofNat 0, .ofNat 63), (.ofNat 0, .ofNat 6)] (false, [], [], [])), [(0, (2, 0, .ofNat 0)), (1, (0, 10, .ofNat 0)), (2, (0, 11, .ofNat 0)), (3, (0, 12, .ofNat 0)), (4, (0, 13, .ofNat 0))], [], [], [(11, 1, 0, 2, 0), (12, 1, 0, 3, 0), (13, 1, 0, 4, 0)], (.ofNat 6, [(13, .negSucc 0)]), none)
def zg268_1 : List zNd := [zn268_0]
def znl268 : List zNd := zg268_1
set_option maxRecDepth 100000 in
theorem zk268_0 : z_ck0 zT1 (z_cnt zL2) 20000 [18] zm310 zc268 znl268 = true := by decide +kernel
set_option maxRecDepth 100000 in
theorem zk268_1 : z_ckn zT1 (z_cnt zL2) 20000 [18] zm310 zc268 znl268 zg268_1 = true := by decide +kernel
theorem zk268 : z_cok zT1 (z_cnt zL2) 20000 [18] zm310 zc268 znl268 = true := z_cok_of zk268_0 (zk268_1)
set_option maxRecDepth 100000 in
theorem zk269 : z_cok zT1 (z_cnt zL2) 20000 [] zm314 zc269 [] = true := by decide +kernel
set_option maxRecDepth 100000 in
theorem zk270 : z_cok zT1 (z_cnt zL3) 20000 [] zm22 zc270 [] = true := by decide +kernel
set_option maxRecDepth 100000 in
theorem zk271 : z_cok zT1 (z_cnt zL3) 20000 [] zm24 zc271 [] = true := by decide +kernel
set_option maxRecDepth 100000 in
theorem zk272 : z_cok zT1 (z_cnt zL3) 20000 [] zm25 zc272 [] = true := by decide +kernel
set_option maxRecDepth 100000 in
def zn273_0 : zNd := (20, (z_li [(.ofNat 0, .ofNat 0), (.negSucc 2147483647, .ofNat 2147483647), (.negSucc 2147483647, .ofNat 2147483647), (.negSucc 2147483647, .ofNat 2147483647), (.negSucc 2147483647, .ofNat 2147483647), (.negSucc 2147483647, .ofNat 2147483647), (.negSucc 2147483647, .ofNat 2147483647), (.negSucc 2147483647, .ofNat 2147483647), (.negSucc 2147483647, .ofNat 2147483647), (.negSucc 2147483647, .ofNat 2147483647), (.ofNat 0, .ofNat 6)] (false, [], [], [])), [(0, (2, 0, .ofNat 0)), (1, (0, 10, .ofNat 0))], [], [], [(10, 1, 0, 1, 0)], (.ofNat 6, [(10, .negSucc 0)]), none)
def zg273_1 : List zNd := [zn273_0]
def znl273 : List zNd := zg273_1
set_option maxRecDepth 100000 in
theorem zk273_0 : z_ck0 zT1 (z_cnt zL3) 20000 [20] zm29 zc273 znl273 = true := by decide +kernel
set_option maxRecDepth 100000 in
theorem zk273_1 : z_ckn zT1 (z_cnt zL3) 20000 [20] zm29 zc273 znl273 zg273_1 = true := by decide +kernel
theorem zk273 : z_cok zT1 (z_cnt zL3) 20000 [20] zm29 zc273 znl273 = true := z_cok_of zk273_0 (zk273_1)
set_option maxRecDepth 100000 in
def zn274_0 : zNd := (35, (z_li [(.ofNat 0, .ofNat 0), (.negSucc 2147483647, .ofNat 2147483647), (.negSucc 2147483647, .ofNat 2147483647), (.negSucc 2147483647, .ofNat 2147483647), (.negSucc 2147483647, .ofNat 2147483647), (.negSucc 2147483647, .ofNat 2147483647), (.negSucc 2147483647, .ofNat 2147483647), (.negSucc 2147483647, .ofNat 2147483647), (.negSucc 2147483647, .ofNat 2147483647), (.negSucc 2147483647, .ofNat 2147483647), (.ofNat 0, .ofNat 0), (.ofNat 5, .ofNat 700), (.ofNat 1, .ofNat 1), (.ofNat 0, .ofNat 700), (.ofNat 0, .ofNat 9), (.ofNat 5, .ofNat 700), (.ofNat 0, .ofNat 4)] (true, [(.ofNat 0, [(11, .negSucc 0), (15, .ofNat 1)])], [], [])), [(0, (2, 155, .ofNat 0))], [], [(155, 7, 1, (0, 13, .ofNat 0)), (155, 8, 1, (0, 15, .ofNat 0)), (155, 10, 1, (0, 16, .ofNat 0)), (155, 12, 1, (0, 10, .ofNat 0)), (161, 3, 1, (0, 14, .ofNat 0))], [(15, 1, 2, 155, 8), (16, 1, 2, 155, 10)], (.ofNat 2, []), none)
set_option maxRecDepth 100000 in
def zn274_1 : zNd := (35, (z_li [(.ofNat 0, .ofNat 0), (.negSucc 2147483647, .ofNat 2147483647), (.negSucc 2147483647, .ofNat 2147483647), (.negSucc 2147483647, .ofNat 2147483647), (.negSucc 2147483647, .ofNat 2147483647), (.negSucc 2147483647, .ofNat 2147483647), (.negSucc 2147483647, .ofNat 2147483647), (.negSucc 2147483647, .ofNat 2147483647), (.negSucc 2147483647, .ofNat 2147483647), (.negSucc 2147483647, .ofNat 2147483647), (.ofNat 0, .ofNat 0), (.ofNat 0, .ofNat 700), (.ofNat 1, .ofNat 4), (.ofNat 0, .ofNat 700), (.ofNat 0, .ofNat 9), (.ofNat 0, .ofNat 700), (.ofNat 0, .ofNat 4), (.ofNat 1, .ofNat 2)] (true, [(.ofNat 0, [(11, .negSucc 0), (15, .ofNat 1)])], [], [])), [(0, (2, 155, .ofNat 0))], [], [(155, 7, 1, (0, 13, .ofNat 0)), (155, 8, 1, (0, 15, .ofNat 0)), (155, 10, 1, (0, 16, .ofNat 0)), (155, 12, 1, (0, 17, .ofNat 0)), (161, 1, 1, (0, 0, .ofNat 0)), (161, 3, 1, (0, 14, .ofNat 0))], [(15, 1, 2, 155, 8), (16, 1, 2, 155, 10), (17, 1, 2, 155, 12)], (.ofNat 3, []), none)
set_option maxRecDepth 100000 in
def zn274_2 : zNd := (65, (z_li [(.ofNat 0, .ofNat 0), (.negSucc 2147483647, .ofNat 2147483647), (.negSucc 2147483647, .ofNat 2147483647), (.negSucc 2147483647, .ofNat 2147483647), (.negSucc 2147483647, .ofNat 2147483647), (.negSucc 2147483647, .ofNat 2147483647), (.negSucc 2147483647, .ofNat 2147483647), (.negSucc 2147483647, .ofNat 2147483647), (.negSucc 2147483647, .ofNat 2147483647), (.negSucc 2147483647, .ofNat 2147483647), (.ofNat 0, .ofNat 0), (.ofNat 5, .ofNat 700), (.ofNat 1, .ofNat 1), (.ofNat 0, .ofNat 700), (.ofNat 0, .ofNat 9), (.ofNat 5, .ofNat 700), (.ofNat 0, .ofNat 4), (.ofNat 2, .ofNat 9)] (true, [(.ofNat 0, [(11, .negSucc 0), (15, .ofNat 1)])], [], [])), [(0, (2, 155, .ofNat 0))], [], [(155, 7, 1, (0, 13, .ofNat 0)), (155, 8, 1, (0, 15, .ofNat 0)), (155, 10, 1, (0, 16, .ofNat 0)), (155, 12, 1, (0, 10, .ofNat 0)), (161, 3, 1, (0, 17, .ofNat 0))], [(15, 1, 2, 155, 8), (16, 1, 2, 155, 10), (17, 1, 2, 161, 3)], (.ofNat 0, []), none)
set_option maxRecDepth 100000 in
def zn274_3 : zNd := (65, (z_li [(.ofNat 0, .ofNat 0), (.negSucc 2147483647, .ofNat 2147483647), (.negSucc 2147483647, .ofNat 2147483647), (.negSucc 2147483647, .ofNat 2147483647), (.negSucc 2147483647, .ofNat 2147483647), (.negSucc 2147483647, .ofNat 2147483647), (.negSucc 2147483647, .ofNat 2147483647), (.negSucc 2147483647, .ofNat 2147483647), (.negSucc 2147483647, .ofNat 2147483647), (.negSucc 2147483647, .ofNat 2147483647), (.ofNat 0, .ofNat 0), (.ofNat 0, .ofNat 700), (.ofNat 1, .ofNat 4), (.ofNat 0, .ofNat 700), (.ofNat 0, .ofNat 9), (.ofNat 0, .ofNat 700), (.ofNat 0, .ofNat 4), (.ofNat 1, .ofNat 2)] (true, [(.ofNat 0, [(11, .negSucc 0), (15, .ofNat 1)])], [], [])), [(0, (2, 155, .ofNat 0))], [], [(155, 7, 1, (0, 13, .ofNat 0)), (155, 8, 1, (0, 15, .ofNat 0)), (155, 10, 1, (0, 16, .ofNat 0)), (155, 12, 1, (0, 17, .ofNat 0)), (161, 3, 1, (0, 0, .ofNat 0))], [(15, 1, 2, 155, 8), (16, 1, 2, 155, 10), (17, 1, 2, 155, 12)], (.ofNat 1, []), none)
def zg274_1 : List zNd := [zn274_0, zn274_1, zn274_2, zn274_3]
def znl274 : List zNd := zg274_1
set_option maxRecDepth 100000 in
theorem zk274_0 : z_ck0 zT1 (z_cnt zL3) 20000 [35, 65] zm47 zc274 znl274 = true := by decide +kernel
set_option maxRecDepth 100000 in
theorem zk274_1 : z_ckn zT1 (z_cnt zL3) 20000 [35, 65] zm47 zc274 znl274 zg274_1 = true := by decide +kernel
theorem zk274 : z_cok zT1 (z_cnt zL3) 20000 [35, 65] zm47 zc274 znl274 = true := z_cok_of zk274_0 (zk274_1)
set_option maxRecDepth 100000 in
theorem zk275 : z_cok zT1 (z_cnt zL3) 20000 [] zm58 zc275 [] = true := by decide +kernel
set_option maxRecDepth 100000 in
theorem zk276 : z_cok zT1 (z_cnt zL3) 20000 [] zm59 zc276 [] = true := by decide +kernel
set_option maxRecDepth 100000 in
def zn277_0 : zNd := (3, (z_li [(.ofNat 0, .ofNat 0), (.negSucc 2147483647, .ofNat 2147483647), (.negSucc 2147483647, .ofNat 2147483647), (.negSucc 2147483647, .ofNat 2147483647), (.negSucc 2147483647, .ofNat 2147483647), (.negSucc 2147483647, .ofNat 2147483647), (.negSucc 2147483647, .ofNat 2147483647), (.negSucc 2147483647, .ofNat 2147483647), (.negSucc 2147483647, .ofNat 2147483647), (.negSucc 2147483647, .ofNat 2147483647), (.ofNat 0, .ofNat 13), (.negSucc 2147483647, .ofNat 2147483647), (.negSucc 2147483647, .ofNat 2147483647), (.negSucc 0, .ofNat 8), (.ofNat 0, .ofNat 9), (.ofNat 0, .ofNat 6), (.ofNat 0, .ofNat 6)] (true, [(.ofNat 0, [(15, .negSucc 0), (14, .ofNat 3)])], [], [])), [(0, (2, 155, .ofNat 0)), (1, (0, 10, .ofNat 0)), (2, (0, 11, .ofNat 0)), (3, (0, 12, .ofNat 0)), (4, (0, 13, .ofNat 0)), (5, (0, 16, .ofNat 0))], [], [(156, 3, 1, (0, 14, .ofNat 0)), (156, 7, 1, (0, 15, .ofNat 0))], [(16, 1, 0, 5, 0)], (.ofNat 6, [(16, .negSucc 0)]), none)
def zg277_1 : List zNd := [zn277_0]
def znl277 : List zNd := zg277_1
set_option maxRecDepth 100000 in
theorem zk277_0 : z_ck0 zT1 (z_cnt zL3) 20000 [3] zm83 zc277 znl277 = true := by decide +kernel
set_option maxRecDepth 100000 in
theorem zk277_1 : z_ckn zT1 (z_cnt zL3) 20000 [3] zm83 zc277 znl277 zg277_1 = true := by decide +kernel
theorem zk277 : z_cok zT1 (z_cnt zL3) 20000 [3] zm83 zc277 znl277 = true := z_cok_of zk277_0 (zk277_1)
set_option maxRecDepth 100000 in
def zn278_0 : zNd := (4, (z_li [(.ofNat 0, .ofNat 0), (.negSucc 2147483647, .ofNat 2147483647), (.negSucc 2147483647, .ofNat 2147483647), (.negSucc 2147483647, .ofNat 2147483647), (.negSucc 2147483647, .ofNat 2147483647), (.negSucc 2147483647, .ofNat 2147483647), (.negSucc 2147483647, .ofNat 2147483647), (.negSucc 2147483647, .ofNat 2147483647), (.negSucc 2147483647, .ofNat 2147483647), (.negSucc 2147483647, .ofNat 2147483647), (.ofNat 0, .ofNat 5), (.negSucc 0, .ofNat 15), (.ofNat 0, .ofNat 16)] (false, [], [], [])), [(0, (2, 70, .ofNat 0)), (1, (0, 10, .ofNat 0)), (2, (0, 11, .ofNat 0)), (3, (0, 12, .ofNat 0))], [], [], [(11, 1, 0, 2, 0), (12, 1, 0, 3, 0)], (.ofNat 16, [(12, .negSucc 0)]), none)
def zg278_1 : List zNd := [zn278_0]
def znl278 : List zNd := zg278_1
set_option maxRecDepth 100000 in
theorem zk278_0 : z_ck0 zT1 (z_cnt zL3) 20000 [4] zm127 zc278 znl278 = true := by decide +kernel
set_option maxRecDepth 100000 in
theorem zk278_1 : z_ckn zT1 (z_cnt zL3) 20000 [4] zm127 zc278 znl278 zg278_1 = true := by decide +kernel
theorem zk278 : z_cok zT1 (z_cnt zL3) 20000 [4] zm127 zc278 znl278 = true := z_cok_of zk278_0 (zk278_1)
set_option maxRecDepth 100000 in
def zn279_0 : zNd := (48, (z_li [(.ofNat 0, .ofNat 0), (.negSucc 2147483647, .ofNat 2147483647), (.negSucc 2147483647, .ofNat 2147483647), (.negSucc 2147483647, .ofNat 2147483647), (.negSucc 2147483647, .ofNat 2147483647), (.negSucc 2147483647, .ofNat 2147483647), (.negSucc 2147483647, .ofNat 2147483647), (.negSucc 2147483647, .ofNat 2147483647), (.negSucc 2147483647, .ofNat 2147483647), (.negSucc 2147483647, .ofNat 2147483647), (.ofNat 0, .ofNat 5), (.ofNat 0, .ofNat 5), (.ofNat 0, .ofNat 13), (.ofNat 0, .ofNat 3), (.ofNat 1, .ofNat 40), (.ofNat 0, .ofNat 30), (.ofNat 1, .ofNat 59)] (false, [], [], [])), [(0, (2, 70, .ofNat 0)), (2, (0, 11, .ofNat 0)), (3, (0, 12, .ofNat 0)), (5, (0, 14, .ofNat 0)), (6, (0, 15, .ofNat 0)), (7, (0, 16, .ofNat 0))], [], [(71, 4, 2, (0, 12, .ofNat 0))], [(15, 1, 0, 6, 0), (16, 1, 0, 7, 0)], (.ofNat 59, [(16, .negSucc 0)]), none)
def zg279_1 : List zNd := [zn279_0]
def znl279 : List zNd := zg279_1
set_option maxRecDepth 100000 in
theorem zk279_0 : z_ck0 zT1 (z_cnt zL3) 20000 [48] zm132 zc279 znl279 = true := by decide +kernel
set_option maxRecDepth 100000 in
theorem zk279_1 : z_ckn zT1 (z_cnt zL3) 20000 [48] zm132 zc279 znl279 zg279_1 = true := by decide +kernel
theorem zk279 : z_cok zT1 (z_cnt zL3) 20000 [48] zm132 zc279 znl279 = true := z_cok_of zk279_0 (zk279_1)
set_option maxRecDepth 100000 in
def zn280_0 : zNd := (4, (z_li [(.ofNat 0, .ofNat 0), (.negSucc 2147483647, .ofNat 2147483647), (.negSucc 2147483647, .ofNat 2147483647), (.negSucc 2147483647, .ofNat 2147483647), (.negSucc 2147483647, .ofNat 2147483647), (.negSucc 2147483647, .ofNat 2147483647), (.negSucc 2147483647, .ofNat 2147483647), (.negSucc 2147483647, .ofNat 2147483647), (.negSucc 2147483647, .ofNat 2147483647), (.negSucc 2147483647, .ofNat 2147483647), (.ofNat 0, .ofNat 63), (.ofNat 0, .ofNat 6)] (false, [], [], [])), [(0, (2, 70, .ofNat 0)), (1, (0, 10, .ofNat 0)), (2, (0, 11, .ofNat 0))], [], [], [(10, 1, 0, 1, 0), (11, 1, 0, 2, 0)], (.ofNat 6, [(11, .negSucc 0)]), none)
def zg280_1 : List zNd := [zn280_0]
def znl280 : List zNd := zg280_1
set_option maxRecDepth 100000 in
theorem zk280_0 : z_ck0 zT1 (z_cnt zL3) 20000 [4] zm137 zc280 znl280 = true := by decide +kernel
set_option maxRecDepth 100000 in
theorem zk280_1 : z_ckn zT1 (z_cnt zL3) 20000 [4] zm137 zc280 znl280 zg280_1 = true := by decide +kernel
theorem zk280 : z_cok zT1 (z_cnt zL3) 20000 [4] zm137 zc280 znl280 = true := z_cok_of zk280_0 (zk280_1)
set_option maxRecDepth 100000 in
def zn281_0 : zNd := (26, (z_li [(.ofNat 0, .ofNat 0), (.negSucc 2147483647, .ofNat 2147483647), (.negSucc 2147483647, .ofNat 2147483647), (.negSucc 2147483647, .ofNat 2147483647), (.negSucc 2147483647, .ofNat 2147483647), (.negSucc 2147483647, .ofNat 2147483647), (.negSucc 2147483647, .ofNat 2147483647), (.negSucc 2147483647, .ofNat 2147483647), (.negSucc 2147483647, .ofNat 2147483647), (.negSucc 2147483647, .ofNat 2147483647), (.ofNat 0, .ofNat 3), (.ofNat 0, .ofNat 5), (.ofNat 0, .ofNat 31)] (false, [], [], [])), [(0, (2, 77, .ofNat 0)), (1, (0, 10, .ofNat 0)), (2, (0, 11, .ofNat 0)), (4, (0, 12, .ofNat 0))], [], [], [(12, 1, 0, 4, 0)], (.ofNat 31, [(12, .negSucc 0)]), none)
def zg281_1 : List zNd := [zn281_0]
def znl281 : List zNd := zg281_1
set_option maxRecDepth 100000 in
theorem zk281_0 : z_ck0 zT1 (z_cnt zL3) 20000 [26] zm141 zc281 znl281 = true := by decide +kernel
set_option maxRecDepth 100000 in
theorem zk281_1 : z_ckn zT1 (z_cnt zL3) 20000 [26] zm141 zc281 znl281 zg281_1 = true := by decide +kernel
theorem zk281 : z_cok zT1 (z_cnt zL3) 20000 [26] zm141 zc281 znl281 = true := z_cok_of zk281_0 (zk281_1)
set_option maxRecDepth 100000 in
def zn282_0 : zNd := (15, (z_li [(.ofNat 0, .ofNat 0), (.negSucc 2147483647, .ofNat 2147483647), (.negSucc 2147483647, .ofNat 2147483647), (.negSucc 2147483647, .ofNat 2147483647), (.negSucc 2147483647, .ofNat 2147483647), (.negSucc 2147483647, .ofNat 2147483647), (.negSucc 2147483647, .ofNat 2147483647), (.negSucc 2147483647, .ofNat 2147483647), (.negSucc 2147483647, .ofNat 2147483647), (.negSucc 2147483647, .ofNat 2147483647), (.ofNat 0, .ofNat 3), (.ofNat 0, .ofNat 5), (.ofNat 0, .ofNat 15), (.ofNat 0, .ofNat 4)] (false, [], [], [])), [(0, (2, 77, .ofNat 0)), (1, (0, 10, .ofNat 0)), (2, (0, 11, .ofNat 0)), (3, (0, 12, .ofNat 0)), (4, (0, 13, .ofNat 0))], [], [], [(12, 1, 0, 3, 0), (13, 1, 0, 4, 0)], (.ofNat 4, [(13, .negSucc 0)]), none)
def zg282_1 : List zNd := [zn282_0]
def znl282 : List zNd := zg282_1
set_option maxRecDepth 100000 in
theorem zk282_0 : z_ck0 zT1 (z_cnt zL3) 20000 [15] zm162 zc282 znl282 = true := by decide +kernel
set_option maxRecDepth 100000 in
theorem zk282_1 : z_ckn zT1 (z_cnt zL3) 20000 [15] zm162 zc282 znl282 zg282_1 = true := by decide +kernel
theorem zk282 : z_cok zT1 (z_cnt zL3) 20000 [15] zm162 zc282 znl282 = true := z_cok_of zk282_0 (zk282_1)
set_option maxRecDepth 100000 in
def zn283_0 : zNd := (19, (z_li [(.ofNat 0, .ofNat 0), (.negSucc 2147483647, .ofNat 2147483647), (.negSucc 2147483647, .ofNat 2147483647), (.negSucc 2147483647, .ofNat 2147483647), (.negSucc 2147483647, .ofNat 2147483647), (.negSucc 2147483647, .ofNat 2147483647), (.negSucc 2147483647, .ofNat 2147483647), (.negSucc 2147483647, .ofNat 2147483647), (.negSucc 2147483647, .ofNat 2147483647), (.negSucc 2147483647, .ofNat 2147483647), (.ofNat 0, .ofNat 3), (.negSucc 2147483647, .ofNat 2147483647), (.ofNat 0, .ofNat 6)] (false, [], [], [])), [(0, (2, 70, .ofNat 0)), (2, (0, 11, .ofNat 0)), (3, (0, 12, .ofNat 0))], [], [(71, 2, 1, (0, 10, .ofNat 0))], [(11, 1, 0, 2, 0), (12, 1, 0, 3, 0)], (.ofNat 6, [(12, .negSucc 0)]), none)
def zg283_1 : List zNd := [zn283_0]
def znl283 : List zNd := zg283_1
set_option maxRecDepth 100000 in
theorem zk283_0 : z_ck0 zT1 (z_cnt zL3) 20000 [19] zm166 zc283 znl283 = true := by decide +kernel
set_option maxRecDepth 100000 in
theorem zk283_1 : z_ckn zT1 (z_cnt zL3) 20000 [19] zm166 zc283 znl283 zg283_1 = true := by decide +kernel
theorem zk283 : z_cok zT1 (z_cnt zL3) 20000 [19] zm166 zc283 znl283 = true := z_cok_of zk283_0 (zk283_1)
set_option maxRecDepth 100000 in
def zn284_0 : zNd := (9, (z_li [(.ofNat 0, .ofNat 0), (.negSucc 2147483647, .ofNat 2147483647), (.negSucc 2147483647, .ofNat 2147483647), (.negSucc 2147483647, .ofNat 2147483647), (.negSucc 2147483647, .ofNat 2147483647), (.negSucc 2147483647, .ofNat 2147483647), (.negSucc 2147483647, .ofNat 2147483647), (.negSucc 2147483647, .ofNat 2147483647), (.negSucc 2147483647, .ofNat 2147483647), (.negSucc 2147483647, .ofNat 2147483647), (.ofNat 0, .ofNat 255), (.ofNat 0, .ofNat 8)] (false, [], [], [])), [(0, (2, 70, .ofNat 0)), (1, (0, 10, .ofNat 0)), (2, (0, 11, .ofNat 0))], [], [], [(11, 1, 0, 2, 0)], (.ofNat 15, [(11, .negSucc 0)]), none)
set_option maxRecDepth 100000 in
def zn284_1 : zNd := (54, (z_li [(.ofNat 0, .ofNat 0), (.negSucc 2147483647, .ofNat 2147483647), (.negSucc 2147483647, .ofNat 2147483647), (.negSucc 2147483647, .ofNat 2147483647), (.negSucc 2147483647, .ofNat 2147483647), (.negSucc 2147483647, .ofNat 2147483647), (.negSucc 2147483647, .ofNat 2147483647), (.negSucc 2147483647, .ofNat 2147483647), (.negSucc 2147483647, .ofNat 2147483647), (.negSucc 2147483647, .ofNat 2147483647), (.ofNat 0, .ofNat 255), (.negSucc 2147483647, .ofNat 2147483647), (.ofNat 0, .ofNat 6)] (false, [], [], [])), [(0, (2, 70, .ofNat 0)), (2, (0, 11, .ofNat 0)), (3, (0, 12, .ofNat 0))], [], [], [(11, 1, 0, 2, 0), (12, 1, 0, 3, 0)], (.ofNat 6, [(12, .negSucc 0)]), none)
def zg284_1 : List zNd := [zn284_0, zn284_1]
def znl284 : List zNd := zg284_1
set_option maxRecDepth 100000 in
theorem zk284_0 : z_ck0 zT1 (z_cnt zL3) 20000 [9, 54] zm168 zc284 znl284 = true := by decide +kernel
set_option maxRecDepth 100000 in
theorem zk284_1 : z_ckn zT1 (z_cnt zL3) 20000 [9, 54] zm168 zc284 znl284 zg284_1 = true := by decide +kernel
theorem zk284 : z_cok zT1 (z_cnt zL3) 20000 [9, 54] zm168 zc284 znl284 = true := z_cok_of zk284_0 (zk284_1)
set_option maxRecDepth 100000 in
def zn285_0 : zNd := (66, (z_li [(.ofNat 0, .ofNat 0), (.negSucc 2147483647, .ofNat 2147483647), (.negSucc 2147483647, .ofNat 2147483647), (.negSucc 2147483647, .ofNat 2147483647), (.negSucc 2147483647, .ofNat 2147483647), (.negSucc 2147483647, .ofNat 2147483647), (.negSucc 2147483647, .ofNat 2147483647), (.negSucc 2147483647, .ofNat 2147483647), (.negSucc 2147483647, .ofNat 2147483647), (.negSucc 2147483647, .ofNat 2147483647), (.ofNat 0, .ofNat 5), (.ofNat 0, .ofNat 5), (.negSucc 2147483647, .ofNat 2147483647), (.negSucc 2147483647, .ofNat 2147483647), (.negSucc 2147483647, .ofNat 2147483647), (.ofNat 0, .ofNat 6)] (false, [], [], [])), [(0, (2, 70, .ofNat 0)), (1, (0, 10, .ofNat 0)), (5, (0, 14, .ofNat 0)), (6, (0, 15, .ofNat 0))], [], [], [(14, 1, 0, 5, 0), (15, 1, 0, 6, 0)], (.ofNat 6, [(15, .negSucc 0)]), none)
def zg285_1 : List zNd := [zn285_0]
def znl285 : List zNd := zg285_1
set_option maxRecDepth 100000 in
theorem zk285_0 : z_ck0 zT1 (z_cnt zL3) 20000 [66] zm181 zc285 znl285 = true := by decide +kernel
set_option maxRecDepth 100000 in
theorem zk285_1 : z_ckn zT1 (z_cnt zL3) 20000 [66] zm181 zc285 znl285 zg285_1 = true := by decide +kernel
theorem zk285 : z_cok zT1 (z_cnt zL3) 20000 [66] zm181 zc285 znl285 = true := z_cok_of zk285_0 (zk285_1)
set_option maxRecDepth 100000 in
def zn286_0 : zNd := (12, (z_li [(.ofNat 0, .ofNat 0), (.negSucc 2147483647, .ofNat 2147483647), (.negSucc 2147483647, .ofNat 2147483647), (.negSucc 2147483647, .ofNat 2147483647), (.negSucc 2147483647, .ofNat 2147483647), (.negSucc 2147483647, .ofNat 2147483647), (.negSucc 2147483647, .ofNat 2147483647), (.negSucc 2147483647, .ofNat 2147483647), (.negSucc 2147483647, .ofNat 2147483647), (.negSucc 2147483647, .ofNat 2147483647), (.ofNat 0, .ofNat 5), (.ofNat 0, .ofNat 1), (.negSucc 9223372036854775807, .ofNat 9223372036854775807), (.ofNat 0, .ofNat 512)] (false, [], [], [])), [(0, (2, 70, .ofNat 0)), (1, (0, 10, .ofNat 0)), (2, (0, 11, .ofNat 0)), (3, (1, 12, .ofNat 0)), (5, (0, 13, .ofNat 0))], [], [], [(12, 1, 0, 3, 0), (13, 1, 0, 5, 0)], (.ofNat 512, [(13, .negSucc 0)]), none)
def zg286_1 : List zNd := [zn286_0]
def znl286 : List zNd := zg286_1
set_option maxRecDepth 100000 in
theorem zk286_0 : z_ck0 zT1 (z_cnt zL3) 20000 [12] zm184 zc286 znl286 = true := by decide +kernel
set_option maxRecDepth 100000 in
theorem zk286_1 : z_ckn zT1 (z_cnt zL3) 20000 [12] zm184 zc286 znl286 zg286_1 = true := by decide +kernel
theorem zk286 : z_cok zT1 (z_cnt zL3) 20000 [12] zm184 zc286 znl286 = true := z_cok_of zk286_0 (zk286_1)
set_option maxRecDepth 100000 in
def zn287_0 : zNd := (12, (z_li [(.ofNat 0, .ofNat 0), (.negSucc 2147483647, .ofNat 2147483647), (.negSucc 2147483647, .ofNat 2147483647), (.negSucc 2147483647, .ofNat 2147483647), (.negSucc 2147483647, .ofNat 2147483647), (.negSucc 2147483647, .ofNat 2147483647), (.negSucc 2147483647, .ofNat 2147483647), (.negSucc 2147483647, .ofNat 2147483647), (.negSucc 2147483647, .ofNat 2147483647), (.negSucc 2147483647, .ofNat 2147483647), (.ofNat 0, .ofNat 5), (.ofNat 0, .ofNat 1), (.negSucc 9223372036854775807, .ofNat 9223372036854775807), (.ofNat 0, .ofNat 512)] (false, [], [], [])), [(0, (2, 70, .ofNat 0)), (1, (0, 10, .ofNat 0)), (2, (0, 11, .ofNat 0)), (3, (1, 12, .ofNat 0)), (5, (0, 13, .ofNat 0))], [], [], [(12, 1, 0, 3, 0), (13, 1, 0, 5, 0)], (.ofNat 512, [(13, .negSucc 0)]), none)
def zg287_1 : List zNd := [zn287_0]
def znl287 : List zNd := zg287_1
set_option maxRecDepth 100000 in
theorem zk287_0 : z_ck0 zT1 (z_cnt zL3) 20000 [12] zm188 zc287 znl287 = true := by decide +kernel
set_option maxRecDepth 100000 in
theorem zk287_1 : z_ckn zT1 (z_cnt zL3) 20000 [12] zm188 zc287 znl287 zg287_1 = true := by decide +kernel
theorem zk287 : z_cok zT1 (z_cnt zL3) 20000 [12] zm188 zc287 znl287 = true := z_cok_of zk287_0 (zk287_1)
set_option maxRecDepth 100000 in
def zn288_0 : zNd := (4, (z_li [(.ofNat 0, .ofNat 0), (.negSucc 2147483647, .ofNat 2147483647), (.negSucc 2147483647, .ofNat 2147483647), (.negSucc 2147483647, .ofNat 2147483647), (.negSucc 2147483647, .ofNat 2147483647), (.negSucc 2147483647, .ofNat 2147483647), (.negSucc 2147483647, .ofNat 2147483647), (.negSucc 2147483647, .ofNat 2147483647), (.negSucc 2147483647, .ofNat 2147483647), (.negSucc 2147483647, .ofNat 2147483647), (.ofNat 0, .ofNat 511), (.ofNat 0, .ofNat 63), (.ofNat 0, .ofNat 6)] (false, [], [], [])), [(0, (2, 70, .ofNat 0)), (1, (0, 10, .ofNat 0)), (2, (0, 11, .ofNat 0)), (3, (0, 12, .ofNat 0))], [], [], [(11, 1, 0, 2, 0), (12, 1, 0, 3, 0)], (.ofNat 6, [(12, .negSucc 0)]), none)
def zg288_1 : List zNd := [zn288_0]
def znl288 : List zNd := zg288_1
set_option maxRecDepth 100000 in
theorem zk288_0 : z_ck0 zT1 (z_cnt zL3) 20000 [4] zm193 zc288 znl288 = true := by decide +kernel
set_option maxRecDepth 100000 in
theorem zk288_1 : z_ckn zT1 (z_cnt zL3) 20000 [4] zm193 zc288 znl288 zg288_1 = true := by decide +kernel
theorem zk288 : z_cok zT1 (z_cnt zL3) 20000 [4] zm193 zc288 znl288 = true := z_cok_of zk288_0 (zk288_1)
set_option maxRecDepth 100000 in
def zn289_0 : zNd := (35, (z_li [(.ofNat 0, .ofNat 0), (.negSucc 2147483647, .ofNat 2147483647), (.negSucc 2147483647, .ofNat 2147483647), (.negSucc 2147483647, .ofNat 2147483647), (.negSucc 2147483647, .ofNat 2147483647), (.negSucc 2147483647, .ofNat 2147483647), (.negSucc 2147483647, .ofNat 2147483647), (.negSucc 2147483647, .ofNat 2147483647), (.negSucc 2147483647, .ofNat 2147483647), (.negSucc 2147483647, .ofNat 2147483647), (.ofNat 0, .ofNat 2000000000), (.ofNat 1, .ofNat 20), (.ofNat 0, .ofNat 5), (.negSucc 2147483647, .ofNat 2147483647), (.ofNat 0, .ofNat 20)] (false, [], [], [])), [(0, (2, 0, .ofNat 0)), (1, (0, 10, .ofNat 0)), (2, (0, 11, .ofNat 0)), (3, (0, 12, .ofNat 0)), (4, (0, 13, .ofNat 0)), (5, (0, 14, .ofNat 0))], [], [], [(13, 1, 0, 4, 0), (14, 1, 0, 5, 0)], (.ofNat 20, [(14, .negSucc 0)]), none)
def zg289_1 : List zNd := [zn289_0]
def znl289 : List zNd := zg289_1
set_option maxRecDepth 100000 in
theorem zk289_0 : z_ck0 zT1 (z_cnt zL3) 20000 [35] zm224 zc289 znl289 = true := by decide +kernel
set_option maxRecDepth 100000 in
theorem zk289_1 : z_ckn zT1 (z_cnt zL3) 20000 [35] zm224 zc289 znl289 zg289_1 = true := by decide +kernel
theorem zk289 : z_cok zT1 (z_cnt zL3) 20000 [35] zm224 zc289 znl289 = true := z_cok_of zk289_0 (zk289_1)
set_option maxRecDepth 100000 in
def zn290_0 : zNd := (16, (z_li [(.ofNat 0, .ofNat 0), (.negSucc 2147483647, .ofNat 2147483647), (.negSucc 2147483647, .ofNat 2147483647), (.negSucc 2147483647, .ofNat 2147483647), (.negSucc 2147483647, .ofNat 2147483647), (.negSucc 2147483647, .ofNat 2147483647), (.negSucc 2147483647, .ofNat 2147483647), (.negSucc 2147483647, .ofNat 2147483647), (.negSucc 2147483647, .ofNat 2147483647), (.negSucc 2147483647, .ofNat 2147483647), (.ofNat 0, .ofNat 700)] (true, [], [], [])), [(0, (2, 3, .ofNat 0)), (1, (0, 10, .ofNat 0))], [], [(4, 5, 1, (0, 0, .ofNat 0)), (14, 0, 1, (0, 0, .ofNat 0))], [(10, 1, 0, 1, 0)], (.ofNat 4208, [(10, .negSucc 5)]), none)
set_option maxRecDepth 100000 in
def zn290_1 : zNd := (151, (z_li [(.ofNat 0, .ofNat 0), (.negSucc 2147483647, .ofNat 2147483647), (.negSucc 2147483647, .ofNat 2147483647), (.negSucc 2147483647, .ofNat 2147483647), (.negSucc 2147483647, .ofNat 2147483647), (.negSucc 2147483647, .ofNat 2147483647), (.negSucc 2147483647, .ofNat 2147483647), (.negSucc 2147483647, .ofNat 2147483647), (.negSucc 2147483647, .ofNat 2147483647), (.negSucc 2147483647, .ofNat 2147483647), (.ofNat 0, .ofNat 699)] (true, [], [], [])), [(0, (2, 3, .ofNat 0)), (1, (0, 10, .ofNat 0))], [], [(4, 5, 1, (0, 0, .ofNat 0)), (14, 0, 1, (0, 0, .ofNat 0))], [(10, 1, 0, 1, 0)], (.ofNat 4204, [(10, .negSucc 5)]), none)
set_option maxRecDepth 100000 in
def zn290_2 : zNd := (151, (z_li [(.ofNat 0, .ofNat 0), (.negSucc 2147483647, .ofNat 2147483647), (.negSucc 2147483647, .ofNat 2147483647), (.negSucc 2147483647, .ofNat 2147483647), (.negSucc 2147483647, .ofNat 2147483647), (.negSucc 2147483647, .ofNat 2147483647), (.negSucc 2147483647, .ofNat 2147483647), (.negSucc 2147483647, .ofNat 2147483647), (.negSucc 2147483647, .ofNat 2147483647), (.negSucc 2147483647, .ofNat 2147483647), (.ofNat 0, .ofNat 699), (.ofNat 1, .ofNat 3)] (true, [], [], [])), [(0, (2, 3, .ofNat 0)), (1, (0, 10, .ofNat 0))], [], [(4, 5, 1, (0, 11, .ofNat 0)), (14, 0, 1, (0, 0, .ofNat 0))], [(10, 1, 0, 1, 0), (11, 1, 2, 4, 5)], (.ofNat 1, []), none)
set_option maxRecDepth 100000 in
def zn290_3 : zNd := (16, (z_li [(.ofNat 0, .ofNat 0), (.negSucc 2147483647, .ofNat 2147483647), (.negSucc 2147483647, .ofNat 2147483647), (.negSucc 2147483647, .ofNat 2147483647), (.negSucc 2147483647, .ofNat 2147483647), (.negSucc 2147483647, .ofNat 2147483647), (.negSucc 2147483647, .ofNat 2147483647), (.negSucc 2147483647, .ofNat 2147483647), (.negSucc 2147483647, .ofNat 2147483647), (.negSucc 2147483647, .ofNat 2147483647), (.ofNat 0, .ofNat 700), (.ofNat 1, .ofNat 3)] (true, [], [], [])), [(0, (2, 3, .ofNat 0)), (1, (0, 10, .ofNat 0))], [], [(4, 5, 1, (0, 11, .ofNat 0)), (14, 0, 1, (0, 0, .ofNat 0))], [(10, 1, 0, 1, 0), (11, 1, 2, 4, 5)], (.ofNat 0, []), none)
set_option maxRecDepth 100000 in
def zn290_4 : zNd := (79, (z_li [(.ofNat 0, .ofNat 0), (.negSucc 2147483647, .ofNat 2147483647), (.negSucc 2147483647, .ofNat 2147483647), (.negSucc 2147483647, .ofNat 2147483647), (.negSucc 2147483647, .ofNat 2147483647), (.negSucc 2147483647, .ofNat 2147483647), (.negSucc 2147483647, .ofNat 2147483647), (.negSucc 2147483647, .ofNat 2147483647), (.negSucc 2147483647, .ofNat 2147483647), (.negSucc 2147483647, .ofNat 2147483647), (.ofNat 0, .ofNat 699)] (true, [], [], [])), [(0, (2, 3, .ofNat 0)), (1, (0, 10, .ofNat 0))], [], [(4, 5, 1, (0, 0, .ofNat 0)), (14, 0, 1, (0, 0, .ofNat 0))], [(10, 1, 0, 1, 0)], (.ofNat 4207, [(10, .negSucc 5)]), none)
set_option maxRecDepth 100000 in
def zn290_5 : zNd := (151, (z_li [(.ofNat 0, .ofNat 0), (.negSucc 2147483647, .ofNat 2147483647), (.negSucc 2147483647, .ofNat 2147483647), (.negSucc 2147483647, .ofNat 2147483647), (.negSucc 2147483647, .ofNat 2147483647), (.negSucc 2147483647, .ofNat 2147483647), (.negSucc 2147483647, .ofNat 2147483647), (.negSucc 2147483647, .ofNat 2147483647), (.negSucc 2147483647, .ofNat 2147483647), (.negSucc 2147483647, .ofNat 2147483647), (.ofNat 0, .ofNat 699), (.ofNat 0, .ofNat 3)] (true, [], [], [])), [(0, (2, 3, .ofNat 0)), (1, (0, 10, .ofNat 0))], [], [(4, 5, 1, (0, 11, .ofNat 0)), (14, 0, 1, (0, 0, .ofNat 0))], [(10, 1, 0, 1, 0), (11, 1, 2, 4, 5)], (.ofNat 4203, [(10, .negSucc 5)]), none)
set_option maxRecDepth 100000 in
def zn290_6 : zNd := (98, (z_li [(.ofNat 0, .ofNat 0), (.negSucc 2147483647, .ofNat 2147483647), (.negSucc 2147483647, .ofNat 2147483647), (.negSucc 2147483647, .ofNat 2147483647), (.negSucc 2147483647, .ofNat 2147483647), (.negSucc 2147483647, .ofNat 2147483647), (.negSucc 2147483647, .ofNat 2147483647), (.negSucc 2147483647, .ofNat 2147483647), (.negSucc 2147483647, .ofNat 2147483647), (.negSucc 2147483647, .ofNat 2147483647), (.ofNat 0, .ofNat 699)] (true, [], [], [])), [(0, (2, 3, .ofNat 0)), (1, (0, 10, .ofNat 0))], [], [(4, 5, 1, (0, 0, .ofNat 0)), (14, 0, 1, (0, 0, .ofNat 0))], [(10, 1, 0, 1, 0)], (.ofNat 4206, [(10, .negSucc 5)]), none)
set_option maxRecDepth 100000 in
def zn290_7 : zNd := (117, (z_li [(.ofNat 0, .ofNat 0), (.negSucc 2147483647, .ofNat 2147483647), (.negSucc 2147483647, .ofNat 2147483647), (.negSucc 2147483647, .ofNat 2147483647), (.negSucc 2147483647, .ofNat 2147483647), (.negSucc 2147483647, .ofNat 2147483647), (.negSucc 2147483647, .ofNat 2147483647), (.negSucc 2147483647, .ofNat 2147483647), (.negSucc 2147483647, .ofNat 2147483647), (.negSucc 2147483647, .ofNat 2147483647), (.ofNat 0, .ofNat 699)] (true, [], [], [])), [(0, (2, 3, .ofNat 0)), (1, (0, 10, .ofNat 0))], [], [(4, 5, 1, (0, 0, .ofNat 0)), (14, 0, 1, (0, 0, .ofNat 0))], [(10, 1, 0, 1, 0)], (.ofNat 4205, [(10, .negSucc 5)]), none)
set_option maxRecDepth 100000 in
def zn290_8 : zNd := (136, (z_li [(.ofNat 0, .ofNat 0), (.negSucc 2147483647, .ofNat 2147483647), (.negSucc 2147483647, .ofNat 2147483647), (.negSucc 2147483647, .ofNat 2147483647), (.negSucc 2147483647, .ofNat 2147483647), (.negSucc 2147483647, .ofNat 2147483647), (.negSucc 2147483647, .ofNat 2147483647), (.negSucc 2147483647, .ofNat 2147483647), (.negSucc 2147483647, .ofNat 2147483647), (.negSucc 2147483647, .ofNat 2147483647), (.ofNat 0, .ofNat 699)] (true, [], [], [])), [(0, (2, 3, .ofNat 0)), (1, (0, 10, .ofNat 0))], [], [(4, 5, 1, (0, 0, .ofNat 0)), (14, 0, 1, (0, 0, .ofNat 0))], [(10, 1, 0, 1, 0)], (.ofNat 2, []), none)
def zg290_1 : List zNd := [zn290_0, zn290_1, zn290_2, zn290_3]
def zg290_2 : List zNd := [zn290_4, zn290_5, zn290_6, zn290_7, zn290_8]
def znl290 : List zNd := zg290_1 ++ (zg290_2)
set_option maxRecDepth 100000 in
theorem zk290_0 : z_ck0 zT1 (z_cnt zL4) 20000 [16, 79, 98, 117, 136, 151] zm2 zc290 znl290 = true := by decide +kernel
set_option maxRecDepth 100000 in
theorem zk290_1 : z_ckn zT1 (z_cnt zL4) 20000 [16, 79, 98, 117, 136, 151] zm2 zc290 znl290 zg290_1 = true := by decide +kernel
set_option maxRecDepth 100000 in
theorem zk290_2 : z_ckn zT1 (z_cnt zL4) 20000 [16, 79, 98, 117, 136, 151] zm2 zc290 znl290 zg290_2 = true := by decide +kernel
theorem zk290 : z_cok zT1 (z_cnt zL4) 20000 [16, 79, 98, 117, 136, 151] zm2 zc290 znl290 = true := z_cok_of zk290_0 (z_ckn_app zk290_1 (zk290_2))
set_option maxRecDepth 100000 in
theorem zk291 : z_cok zT1 (z_cnt zL4) 20000 [] zm46 zc291 [] = true := by decide +kernel
