set_option maxRecDepth 100000 in
theorem zk350 : z_cok zT1 (z_cnt zL7) 20000 [] zm241 zc350 [] = true := by decide +kernel
set_option maxRecDepth 100000 in
def zn351_0 : zNd := (17, (z_li [(.ofNat 0, .ofNat 0), (.negSucc 2147483647, .ofNat 2147483647), (.negSucc 2147483647, .ofNat 2147483647), (.negSucc 2147483647, .ofNat 2147483647), (.negSucc 2147483647, .ofNat 2147483647), (.negSucc 2147483647, .ofNat 2147483647), (.negSucc 2147483647, .ofNat 2147483647), (.negSucc 2147483647, .ofNat 2147483647), (.negSucc 2147483647, .ofNat 2147483647), (.negSucc 2147483647, .ofNat 2147483647), (.ofNat 0, .ofNat 5), (.ofNat 0, .ofNat 5), (.ofNat 0, .ofNat 9), (.ofNat 0, .ofNat 6), (.ofNat 0, .ofNat 15), (.ofNat 0, .ofNat 4)] (true, [(.ofNat 0, [(13, .negSucc 0), (12, .ofNat 3)])], [], [])), [(0, (2, 155, .ofNat 0)), (1, (0, 10, .ofNat 0)), (2, (0, 11, .ofNat 0)), (3, (0, 14, .ofNat 0)), (4, (0, 15, .ofNat 0))], [], [(156, 3, 1, (0, 12, .ofNat 0)), (156, 7, 1, (0, 13, .ofNat 0))], [(14, 1, 0, 3, 0), (15, 1, 0, 4, 0)], (.ofNat 4, [(15, .negSucc 0)]), none)
def zg351_1 : List zNd := [zn351_0]
def znl351 : List zNd := zg351_1
set_option maxRecDepth 100000 in
theorem zk351_0 : z_ck0 zT1 (z_cnt zL7) 20000 [17] zm243 zc351 znl351 = true := by decide +kernel
set_option maxRecDepth 100000 in
theorem zk351_1 : z_ckn zT1 (z_cnt zL7) 20000 [17] zm243 zc351 znl351 zg351_1 = true := by decide +kernel
theorem zk351 : z_cok zT1 (z_cnt zL7) 20000 [17] zm243 zc351 znl351 = true := z_cok_of zk351_0 (zk351_1)
set_option maxRecDepth 100000 in
def zn352_0 : zNd := (39, (z_li [(.ofNat 0, .ofNat 0), (.negSucc 2147483647, .ofNat 2147483647), (.negSucc 2147483647, .ofNat 2147483647), (.negSucc 2147483647, .ofNat 2147483647), (.negSucc 2147483647, .ofNat 2147483647), (.negSucc 2147483647, .ofNat 2147483647), (.negSucc 2147483647, .ofNat 2147483647), (.negSucc 2147483647, .ofNat 2147483647), (.negSucc 2147483647, .ofNat 2147483647), (.negSucc 2147483647, .ofNat 2147483647), (.ofNat 0, .ofNat 7), (.ofNat 0, .ofNat 1), (.ofNat 0, .ofNat 9), (.ofNat 0, .ofNat 6), (.ofNat 1, .ofNat 8), (.ofNat 0, .ofNat 256)] (true, [(.ofNat 0, [(13, .negSucc 0), (12, .ofNat 3)])], [], [])), [(0, (2, 155, .ofNat 0)), (1, (0, 10, .ofNat 0)), (2, (0, 11, .ofNat 0)), (3, (0, 14, .ofNat 0)), (4, (0, 15, .ofNat 0))], [], [(156, 3, 1, (0, 12, .ofNat 0)), (156, 7, 1, (0, 13, .ofNat 0))], [(14, 1, 0, 3, 0), (15, 1, 0, 4, 0)], (.ofNat 513, [(15, .negSucc 0)]), none)
set_option maxRecDepth 100000 in
def zn352_1 : zNd := (72, (z_li [(.ofNat 0, .ofNat 0), (.negSucc 2147483647, .ofNat 2147483647), (.negSucc 2147483647, .ofNat 2147483647), (.negSucc 2147483647, .ofNat 2147483647), (.negSucc 2147483647, .ofNat 2147483647), (.negSucc 2147483647, .ofNat 2147483647), (.negSucc 2147483647, .ofNat 2147483647), (.negSucc 2147483647, .ofNat 2147483647), (.negSucc 2147483647, .ofNat 2147483647), (.negSucc 2147483647, .ofNat 2147483647), (.ofNat 0, .ofNat 7), (.ofNat 0, .ofNat 1), (.ofNat 0, .ofNat 9), (.ofNat 0, .ofNat 6), (.ofNat 1, .ofNat 8), (.negSucc 9223372036854775807, .ofNat 9223372036854775807), (.ofNat 0, .ofNat 256)] (true, [(.ofNat 0, [(13, .negSucc 0), (12, .ofNat 3)])], [], [])), [(0, (2, 155, .ofNat 0)), (1, (0, 10, .ofNat 0)), (2, (0, 11, .ofNat 0)), (3, (0, 14, .ofNat 0)), (4, (1, 15, .ofNat 0)), (6, (0, 16, .ofNat 0))], [], [(156, 3, 1, (0, 12, .ofNat 0)), (156, 7, 1, (0, 13, .ofNat 0))], [(14, 1, 0, 3, 0), (15, 1, 0, 4, 0), (16, 1, 0, 6, 0)], (.ofNat 256, [(16, .negSucc 0)]), none)
def zg352_1 : List zNd := [zn352_0, zn352_1]
def znl352 : List zNd := zg352_1
set_option maxRecDepth 100000 in
theorem zk352_0 : z_ck0 zT1 (z_cnt zL7) 20000 [39, 72] zm245 zc352 znl352 = true := by decide +kernel
set_option maxRecDepth 100000 in
theorem zk352_1 : z_ckn zT1 (z_cnt zL7) 20000 [39, 72] zm245 zc352 znl352 zg352_1 = true := by decide +kernel
theorem zk352 : z_cok zT1 (z_cnt zL7) 20000 [39, 72] zm245 zc352 znl352 = true := z_cok_of zk352_0 (zk352_1)
set_option maxRecDepth 100000 in
theorem zk353 : z_cok zT1 (z_cnt zL7) 20000 [] zm247 zc353 [] = true := by decide +kernel
set_option maxRecDepth 100000 in
def zn354_0 : zNd := (18, (z_li [(.ofNat 0, .ofNat 0), (.negSucc 2147483647, .ofNat 2147483647), (.negSucc 2147483647, .ofNat 2147483647), (.negSucc 2147483647, .ofNat 2147483647), (.negSucc 2147483647, .ofNat 2147483647), (.negSucc 2147483647, .ofNat 2147483647), (.negSucc 2147483647, .ofNat 2147483647), (.negSucc 2147483647, .ofNat 2147483647), (.negSucc 2147483647, .ofNat 2147483647), (.negSucc 2147483647, .ofNat 2147483647), (.ofNat 0, .ofNat 9), (.ofNat 0, .ofNat 6), (.ofNat 0, .ofNat 3), (.negSucc 2147483647, .ofNat 2147483647), (.ofNat 0, .ofNat 4)] (true, [(.ofNat 0, [(11, .negSucc 0), (10, .ofNat 3)])], [], [])), [(0, (2, 155, .ofNat 0)), (1, (0, 12, .ofNat 0)), (2, (0, 13, .ofNat 0)), (3, (0, 14, .ofNat 0))], [], [(156, 3, 1, (0, 10, .ofNat 0)), (156, 7, 1, (0, 11, .ofNat 0))], [(12, 1, 0, 1, 0), (13, 1, 0, 2, 0), (14, 1, 0, 3, 0)], (.ofNat 4, [(14, .negSucc 0)]), none)
def zg354_1 : List zNd := [zn354_0]
def znl354 : List zNd := zg354_1
set_option maxRecDepth 100000 in
theorem zk354_0 : z_ck0 zT1 (z_cnt zL7) 20000 [18] zm249 zc354 znl354 = true := by decide +kernel
set_option maxRecDepth 100000 in
theorem zk354_1 : z_ckn zT1 (z_cnt zL7) 20000 [18] zm249 zc354 znl354 zg354_1 = true := by decide +kernel
theorem zk354 : z_cok zT1 (z_cnt zL7) 20000 [18] zm249 zc354 znl354 = true := z_cok_of zk354_0 (zk354_1)
set_option maxRecDepth 100000 in
theorem zk355 : z_cok zT1 (z_cnt zL7) 20000 [] zm251 zc355 [] = true := by decide +kernel
set_option maxRecDepth 100000 in
def zn357_0 : zNd := (19, (z_li [(.ofNat 0, .ofNat 0), (.negSucc 2147483647, .ofNat 2147483647), (.negSucc 2147483647, .ofNat 2147483647), (.negSucc 2147483647, .ofNat 2147483647), (.negSucc 2147483647, .ofNat 2147483647), (.negSucc 2147483647, .ofNat 2147483647), (.negSucc 2147483647, .ofNat 2147483647), (.negSucc 2147483647, .ofNat 2147483647), (.negSucc 2147483647, .ofNat 2147483647), (.negSucc 2147483647, .ofNat 2147483647), (.ofNat 0, .ofNat 9), (.ofNat 0, .ofNat 6), (.ofNat 0, .ofNat 16), (.negSucc 0, .ofNat 7), (.ofNat 0, .ofNat 8)] (true, [(.ofNat 0, [(11, .negSucc 0), (10, .ofNat 3)])], [], [])), [(0, (2, 155, .ofNat 0)), (1, (0, 12, .ofNat 0)), (2, (0, 13, .ofNat 0)), (3, (0, 14, .ofNat 0))], [], [(156, 3, 1, (0, 10, .ofNat 0)), (156, 7, 1, (0, 11, .ofNat 0))], [(12, 1, 0, 1, 0), (13, 1, 0, 2, 0), (14, 1, 0, 3, 0)], (.ofNat 8, [(14, .negSucc 0)]), none)
def zg357_1 : List zNd := [zn357_0]
def znl357 : List zNd := zg357_1
set_option maxRecDepth 100000 in
theorem zk357_0 : z_ck0 zT1 (z_cnt zL7) 20000 [19] zm265 zc357 znl357 = true := by decide +kernel
set_option maxRecDepth 100000 in
theorem zk357_1 : z_ckn zT1 (z_cnt zL7) 20000 [19] zm265 zc357 znl357 zg357_1 = true := by decide +kernel
theorem zk357 : z_cok zT1 (z_cnt zL7) 20000 [19] zm265 zc357 znl357 = true := z_cok_of zk357_0 (zk357_1)
set_option maxRecDepth 100000 in
def zn358_0 : zNd := (19, (z_li [(.ofNat 0, .ofNat 0), (.negSucc 2147483647, .ofNat 2147483647), (.negSucc 2147483647, .ofNat 2147483647), (.negSucc 2147483647, .ofNat 2147483647), (.negSucc 2147483647, .ofNat 2147483647), (.negSucc 2147483647, .ofNat 2147483647), (.negSucc 2147483647, .ofNat 2147483647), (.negSucc 2147483647, .ofNat 2147483647), (.negSucc 2147483647, .ofNat 2147483647), (.negSucc 2147483647, .ofNat 2147483647), (.ofNat 0, .ofNat 9), (.ofNat 0, .ofNat 6), (.ofNat 0, .ofNat 16), (.negSucc 0, .ofNat 8), (.ofNat 0, .ofNat 9)] (true, [(.ofNat 0, [(11, .negSucc 0), (10, .ofNat 3)])], [], [])), [(0, (2, 155, .ofNat 0)), (1, (0, 12, .ofNat 0)), (2, (0, 13, .ofNat 0)), (3, (0, 14, .ofNat 0))], [], [(156, 3, 1, (0, 10, .ofNat 0)), (156, 7, 1, (0, 11, .ofNat 0))], [(12, 1, 0, 1, 0), (13, 1, 0, 2, 0), (14, 1, 0, 3, 0)], (.ofNat 9, [(14, .negSucc 0)]), none)
def zg358_1 : List zNd := [zn358_0]
def znl358 : List zNd := zg358_1
set_option maxRecDepth 100000 in
theorem zk358_0 : z_ck0 zT1 (z_cnt zL7) 20000 [19] zm267 zc358 znl358 = true := by decide +kernel
set_option maxRecDepth 100000 in
theorem zk358_1 : z_ckn zT1 (z_cnt zL7) 20000 [19] zm267 zc358 znl358 zg358_1 = true := by decide +kernel
theorem zk358 : z_cok zT1 (z_cnt zL7) 20000 [19] zm267 zc358 znl358 = true := z_cok_of zk358_0 (zk358_1)
set_option maxRecDepth 100000 in
def zn359_0 : zNd := (29, (z_li [(.ofNat 0, .ofNat 0), (.negSucc 2147483647, .ofNat 2147483647), (.negSucc 2147483647, .ofNat 2147483647), (.negSucc 2147483647, .ofNat 2147483647), (.negSucc 2147483647, .ofNat 2147483647), (.negSucc 2147483647, .ofNat 2147483647), (.negSucc 2147483647, .ofNat 2147483647), (.negSucc 2147483647, .ofNat 2147483647), (.negSucc 2147483647, .ofNat 2147483647), (.negSucc 2147483647, .ofNat 2147483647), (.ofNat 0, .ofNat 5), (.ofNat 0, .ofNat 5), (.ofNat 1, .ofNat 9), (.ofNat 1, .ofNat 6), (.negSucc 0, .ofNat 239), (.ofNat 1, .ofNat 1000000000), (.ofNat 0, .ofNat 14)] (true, [(.ofNat 0, [(13, .negSucc 0), (12, .ofNat 3)])], [], [])), [(0, (2, 155, .ofNat 0)), (1, (0, 10, .ofNat 0)), (2, (0, 11, .ofNat 0)), (3, (0, 14, .ofNat 0)), (4, (0, 15, .ofNat 0)), (5, (0, 16, .ofNat 0))], [], [(156, 3, 1, (0, 12, .ofNat 0)), (156, 7, 1, (0, 13, .ofNat 0))], [(14, 1, 0, 3, 0), (15, 1, 0, 4, 0), (16, 1, 0, 5, 0)], (.negSucc 0, [(16, .negSucc 5), (15, .ofNat 90)]), none)
set_option maxRecDepth 100000 in
def zn359_1 : zNd := (41, (z_li [(.ofNat 0, .ofNat 0), (.negSucc 2147483647, .ofNat 2147483647), (.negSucc 2147483647, .ofNat 2147483647), (.negSucc 2147483647, .ofNat 2147483647), (.negSucc 2147483647, .ofNat 2147483647), (.negSucc 2147483647, .ofNat 2147483647), (.negSucc 2147483647, .ofNat 2147483647), (.negSucc 2147483647, .ofNat 2147483647), (.negSucc 2147483647, .ofNat 2147483647), (.negSucc 2147483647, .ofNat 2147483647), (.ofNat 0, .ofNat 5), (.ofNat 0, .ofNat 5), (.ofNat 1, .ofNat 9), (.ofNat 1, .ofNat 6), (.negSucc 0, .ofNat 239), (.ofNat 1, .ofNat 1000000000), (.ofNat 0, .ofNat 13), (.ofNat 0, .ofNat 4)] (true, [(.ofNat 0, [(13, .negSucc 0), (12, .ofNat 3)])], [], [])), [(0, (2, 155, .ofNat 0)), (1, (0, 10, .ofNat 0)), (2, (0, 11, .ofNat 0)), (3, (0, 14, .ofNat 0)), (4, (0, 15, .ofNat 0)), (5, (0, 16, .ofNat 0)), (6, (0, 17, .ofNat 0))], [], [(156, 3, 1, (0, 12, .ofNat 0)), (156, 7, 1, (0, 13, .ofNat 0))], [(14, 1, 0, 3, 0), (15, 1, 0, 4, 0), (16, 1, 0, 5, 0), (17, 1, 0, 6, 0)], (.negSucc 1, [(17, .negSucc 0), (16, .negSucc 5), (15, .ofNat 90)]), none)
def zg359_1 : List zNd := [zn359_0, zn359_1]
def znl359 : List zNd := zg359_1
set_option maxRecDepth 100000 in
theorem zk359_0 : z_ck0 zT1 (z_cnt zL7) 20000 [29, 41] zm269 zc359 znl359 = true := by decide +kernel
set_option maxRecDepth 100000 in
theorem zk359_1 : z_ckn zT1 (z_cnt zL7) 20000 [29, 41] zm269 zc359 znl359 zg359_1 = true := by decide +kernel
theorem zk359 : z_cok zT1 (z_cnt zL7) 20000 [29, 41] zm269 zc359 znl359 = true := z_cok_of zk359_0 (zk359_1)
set_option maxRecDepth 100000 in
def zn360_0 : zNd := (16, (z_li [(.ofNat 0, .ofNat 0), (.negSucc 2147483647, .ofNat 2147483647), (.negSucc 2147483647, .ofNat 2147483647), (.negSucc 2147483647, .ofNat 2147483647), (.negSucc 2147483647, .ofNat 2147483647), (.negSucc 2147483647, .ofNat 2147483647), (.negSucc 2147483647, .ofNat 2147483647), (.negSucc 2147483647, .ofNat 2147483647), (.negSucc 2147483647, .ofNat 2147483647), (.negSucc 2147483647, .ofNat 2147483647), (.ofNat 0, .ofNat 5), (.ofNat 0, .ofNat 5), (.negSucc 2147483647, .ofNat 2147483647), (.negSucc 2147483647, .ofNat 2147483647), (.ofNat 1, .ofNat 9), (.ofNat 1, .ofNat 6)] (true, [(.ofNat 0, [(15, .negSucc 0), (14, .ofNat 3)])], [], [])), [(0, (2, 155, .ofNat 0)), (1, (0, 10, .ofNat 0)), (2, (0, 11, .ofNat 0)), (3, (0, 12, .ofNat 0)), (4, (0, 13, .ofNat 0))], [], [(156, 3, 1, (0, 14, .ofNat 0)), (156, 7, 1, (0, 15, .ofNat 0))], [], (.ofNat 2, []), none)
set_option maxRecDepth 100000 in
def zn360_1 : zNd := (25, (z_li [(.ofNat 0, .ofNat 0), (.negSucc 2147483647, .ofNat 2147483647), (.negSucc 2147483647, .ofNat 2147483647), (.negSucc 2147483647, .ofNat 2147483647), (.negSucc 2147483647, .ofNat 2147483647), (.negSucc 2147483647, .ofNat 2147483647), (.negSucc 2147483647, .ofNat 2147483647), (.negSucc 2147483647, .ofNat 2147483647), (.negSucc 2147483647, .ofNat 2147483647), (.negSucc 2147483647, .ofNat 2147483647), (.ofNat 0, .ofNat 5), (.ofNat 0, .ofNat 5), (.ofNat 0, .ofNat 13), (.negSucc 2147483647, .ofNat 2147483647), (.ofNat 1, .ofNat 9), (.ofNat 1, .ofNat 6)] (true, [(.ofNat 0, [(15, .negSucc 0), (14, .ofNat 3)])], [], [])), [(0, (2, 155, .ofNat 0)), (1, (0, 10, .ofNat 0)), (2, (0, 11, .ofNat 0)), (3, (0, 12, .ofNat 0)), (4, (0, 13, .ofNat 0))], [], [(156, 3, 1, (0, 14, .ofNat 0)), (156, 7, 1, (0, 15, .ofNat 0))], [], (.ofNat 1, []), none)
set_option maxRecDepth 100000 in
def zn360_2 : zNd := (41, (z_li [(.ofNat 0, .ofNat 0), (.negSucc 2147483647, .ofNat 2147483647), (.negSucc 2147483647, .ofNat 2147483647), (.negSucc 2147483647, .ofNat 2147483647), (.negSucc 2147483647, .ofNat 2147483647), (.negSucc 2147483647, .ofNat 2147483647), (.negSucc 2147483647, .ofNat 2147483647), (.negSucc 2147483647, .ofNat 2147483647), (.negSucc 2147483647, .ofNat 2147483647), (.negSucc 2147483647, .ofNat 2147483647), (.ofNat 0, .ofNat 5), (.ofNat 0, .ofNat 5), (.ofNat 0, .ofNat 13), (.ofNat 0, .ofNat 3), (.ofNat 1, .ofNat 9), (.ofNat 1, .ofNat 6)] (true, [(.ofNat 0, [(15, .negSucc 0), (14, .ofNat 3)])], [], [])), [(0, (2, 155, .ofNat 0)), (1, (0, 10, .ofNat 0)), (2, (0, 11, .ofNat 0)), (3, (0, 12, .ofNat 0)), (4, (0, 13, .ofNat 0))], [], [(156, 3, 1, (0, 14, .ofNat 0)), (156, 7, 1, (0, 15, .ofNat 0))], [], (.ofNat 0, []), none)
def zg360_1 : List zNd := [zn360_0, zn360_1, zn360_2]
def znl360 : List zNd := zg360_1
set_option maxRecDepth 100000 in
theorem zk360_0 : z_ck0 zT1 (z_cnt zL7) 20000 [16, 25, 41] zm271 zc360 znl360 = true := by decide +kernel
set_option maxRecDepth 100000 in
theorem zk360_1 : z_ckn zT1 (z_cnt zL7) 20000 [16, 25, 41] zm271 zc360 znl360 zg360_1 = true := by decide +kernel
theorem zk360 : z_cok zT1 (z_cnt zL7) 20000 [16, 25, 41] zm271 zc360 znl360 = true := z_cok_of zk360_0 (zk360_1)
set_option maxRecDepth 100000 in
theorem zk361 : z_cok zT1 (z_cnt zL7) 20000 [] zm273 zc361 [] = true := by decide +kernel
set_option maxRecDepth 100000 in
theorem zk362 : z_cok zT1 (z_cnt zL7) 20000 [] zm275 zc362 [] = true := by decide +kernel
set_option maxRecDepth 100000 in
def zn363_0 : zNd := (14, (z_li [(.ofNat 0, .ofNat 0), (.negSucc 2147483647, .ofNat 2147483647), (.negSucc 2147483647, .ofNat 2147483647), (.negSucc 2147483647, .ofNat 2147483647), (.negSucc 2147483647, .ofNat 2147483647), (.negSucc 2147483647, .ofNat 2147483647), (.negSucc 2147483647, .ofNat 2147483647), (.negSucc 2147483647, .ofNat 2147483647), (.negSucc 2147483647, .ofNat 2147483647), (.negSucc 2147483647, .ofNat 2147483647), (.ofNat 0, .ofNat 9), (.ofNat 0, .ofNat 6), (.negSucc 2147483647, .ofNat 2147483647), (.ofNat 0, .ofNat 100)] (true, [(.ofNat 0, [(11, .negSucc 0), (10, .ofNat 3)])], [], [])), [(0, (2, 155, .ofNat 0)), (1, (0, 12, .ofNat 0)), (2, (0, 13, .ofNat 0))], [], [(156, 3, 1, (0, 10, .ofNat 0)), (156, 7, 1, (0, 11, .ofNat 0))], [(12, 1, 0, 1, 0), (13, 1, 0, 2, 0)], (.ofNat 1716, [(13, .negSucc 16)]), none)
set_option maxRecDepth 100000 in
def zn363_1 : zNd := (25, (z_li [(.ofNat 0, .ofNat 0), (.negSucc 2147483647, .ofNat 2147483647), (.negSucc 2147483647, .ofNat 2147483647), (.negSucc 2147483647, .ofNat 2147483647), (.negSucc 2147483647, .ofNat 2147483647), (.negSucc 2147483647, .ofNat 2147483647), (.negSucc 2147483647, .ofNat 2147483647), (.negSucc 2147483647, .ofNat 2147483647), (.negSucc 2147483647, .ofNat 2147483647), (.negSucc 2147483647, .ofNat 2147483647), (.ofNat 0, .ofNat 9), (.ofNat 0, .ofNat 6), (.negSucc 2147483647, .ofNat 2147483647), (.ofNat 0, .ofNat 99), (.ofNat 0, .ofNat 1), (.ofNat 0, .ofNat 15)] (true, [(.ofNat 0, [(11, .negSucc 0), (10, .ofNat 3)])], [], [])), [(0, (2, 155, .ofNat 0)), (1, (0, 12, .ofNat 0)), (2, (0, 13, .ofNat 0)), (3, (0, 14, .ofNat 0)), (4, (0, 15, .ofNat 0))], [], [(156, 3, 1, (0, 10, .ofNat 0)), (156, 7, 1, (0, 11, .ofNat 0))], [(12, 1, 0, 1, 0), (13, 1, 0, 2, 0), (14, 1, 0, 3, 0), (15, 1, 0, 4, 0)], (.ofNat 1715, [(15, .negSucc 0), (13, .negSucc 16)]), none)
def zg363_1 : List zNd := [zn363_0, zn363_1]
def znl363 : List zNd := zg363_1
set_option maxRecDepth 100000 in
theorem zk363_0 : z_ck0 zT1 (z_cnt zL7) 20000 [14, 25] zm277 zc363 znl363 = true := by decide +kernel
set_option maxRecDepth 100000 in
theorem zk363_1 : z_ckn zT1 (z_cnt zL7) 20000 [14, 25] zm277 zc363 znl363 zg363_1 = true := by decide +kernel
theorem zk363 : z_cok zT1 (z_cnt zL7) 20000 [14, 25] zm277 zc363 znl363 = true := z_cok_of zk363_0 (zk363_1)
set_option maxRecDepth 100000 in
def zn364_0 : zNd := (14, (z_li [(.ofNat 0, .ofNat 0), (.negSucc 2147483647, .ofNat 2147483647), (.negSucc 2147483647, .ofNat 2147483647), (.negSucc 2147483647, .ofNat 2147483647), (.negSucc 2147483647, .ofNat 2147483647), (.negSucc 2147483647, .ofNat 2147483647), (.negSucc 2147483647, .ofNat 2147483647), (.negSucc 2147483647, .ofNat 2147483647), (.negSucc 2147483647, .ofNat 2147483647), (.negSucc 2147483647, .ofNat 2147483647), (.ofNat 0, .ofNat 9), (.ofNat 0, .ofNat 6), (.ofNat 0, .ofNat 511), (.ofNat 0, .ofNat 9)] (true, [(.ofNat 0, [(11, .negSucc 0), (10, .ofNat 3)])], [], [])), [(0, (2, 155, .ofNat 0)), (1, (0, 12, .ofNat 0)), (2, (0, 13, .ofNat 0))], [], [(156, 3, 1, (0, 10, .ofNat 0)), (156, 7, 1, (0, 11, .ofNat 0))], [(12, 1, 0, 1, 0), (13, 1, 0, 2, 0)], (.ofNat 9, [(13, .negSucc 0)]), none)
def zg364_1 : List zNd := [zn364_0]
def znl364 : List zNd := zg364_1
set_option maxRecDepth 100000 in
theorem zk364_0 : z_ck0 zT1 (z_cnt zL7) 20000 [14] zm279 zc364 znl364 = true := by decide +kernel
set_option maxRecDepth 100000 in
theorem zk364_1 : z_ckn zT1 (z_cnt zL7) 20000 [14] zm279 zc364 znl364 zg364_1 = true := by decide +kernel
theorem zk364 : z_cok zT1 (z_cnt zL7) 20000 [14] zm279 zc364 znl364 = true := z_cok_of zk364_0 (zk364_1)
set_option maxRecDepth 100000 in
theorem zk365 : z_cok zT1 (z_cnt zL7) 20000 [] zm281 zc365 [] = true := by decide +kernel
set_option maxRecDepth 100000 in
theorem zk366 : z_cok zT1 (z_cnt zL7) 20000 [] zm283 zc366 [] = true := by decide +kernel
set_option maxRecDepth 100000 in
def zn367_0 : zNd := (14, (z_li [(.ofNat 0, .ofNat 0), (.negSucc 2147483647, .ofNat 2147483647), (.negSucc 2147483647, .ofNat 2147483647), (.negSucc 2147483647, .ofNat 2147483647), (.negSucc 2147483647, .ofNat 2147483647), (.negSucc 2147483647, .ofNat 2147483647), (.negSucc 2147483647, .ofNat 2147483647), (.negSucc 2147483647, .ofNat 2147483647), (.negSucc 2147483647, .ofNat 2147483647), (.negSucc 2147483647, .ofNat 2147483647), (.ofNat 0, .ofNat 9), (.ofNat 0, .ofNat 6), (.negSucc 0, .ofNat 13), (.ofNat 0, .ofNat 14)] (true, [(.ofNat 0, [(11, .negSucc 0), (10, .ofNat 3)])], [], [])), [(0, (2, 155, .ofNat 0)), (1, (0, 12, .ofNat 0)), (2, (0, 13, .ofNat 0))], [], [(156, 3, 1, (0, 10, .ofNat 0)), (156, 7, 1, (0, 11, .ofNat 0))], [(12, 1, 0, 1, 0), (13, 1, 0, 2, 0)], (.ofNat 14, [(13, .negSucc 0)]), none)
def zg367_1 : List zNd := [zn367_0]
def znl367 : List zNd := zg367_1
set_option maxRecDepth 100000 in
theorem zk367_0 : z_ck0 zT1 (z_cnt zL7) 20000 [14] zm285 zc367 znl367 = true := by decide +kernel
set_option maxRecDepth 100000 in
theorem zk367_1 : z_ckn zT1 (z_cnt zL7) 20000 [14] zm285 zc367 znl367 zg367_1 = true := by decide +kernel
theorem zk367 : z_cok zT1 (z_cnt zL7) 20000 [14] zm285 zc367 znl367 = true := z_cok_of zk367_0 (zk367_1)
set_option maxRecDepth 100000 in
def zn368_0 : zNd := (24, (z_li [(.ofNat 0, .ofNat 0), (.negSucc 2147483647, .ofNat 2147483647), (.negSucc 2147483647, .ofNat 2147483647), (.negSucc 2147483647, .ofNat 2147483647), (.negSucc 2147483647, .ofNat 2147483647), (.negSucc 2147483647, .ofNat 2147483647), (.negSucc 2147483647, .ofNat 2147483647), (.negSucc 2147483647, .ofNat 2147483647), (.negSucc 2147483647, .ofNat 2147483647), (.negSucc 2147483647, .ofNat 2147483647), (.ofNat 0, .ofNat 5), (.ofNat 0, .ofNat 14), (.ofNat 1, .ofNat 9), (.ofNat 1, .ofNat 6), (.ofNat 0, .ofNat 15), (.ofNat 0, .ofNat 4)] (true, [(.ofNat 0, [(13, .negSucc 0), (12, .ofNat 3)])], [], [])), [(0, (2, 155, .ofNat 0)), (1, (0, 10, .ofNat 0)), (2, (0, 11, .ofNat 0)), (3, (0, 14, .ofNat 0)), (4, (0, 15, .ofNat 0))], [], [(156, 3, 1, (0, 12, .ofNat 0)), (156, 7, 1, (0, 13, .ofNat 0))], [(14, 1, 0, 3, 0), (15, 1, 0, 4, 0)], (.ofNat 4, [(15, .negSucc 0)]), none)
def zg368_1 : List zNd := [zn368_0]
def znl368 : List zNd := zg368_1
set_option maxRecDepth 100000 in
theorem zk368_0 : z_ck0 zT1 (z_cnt zL7) 20000 [24] zm293 zc368 znl368 = true := by decide +kernel
set_option maxRecDepth 100000 in
theorem zk368_1 : z_ckn zT1 (z_cnt zL7) 20000 [24] zm293 zc368 znl368 zg368_1 = true := by decide +kernel
theorem zk368 : z_cok zT1 (z_cnt zL7) 20000 [24] zm293 zc368 znl368 = true := z_cok_of zk368_0 (zk368_1)
set_option maxRecDepth 100000 in
def zn369_0 : zNd := (18, (z_li [(.ofNat 0, .ofNat 0), (.negSucc 2147483647, .ofNat 2147483647), (.negSucc 2147483647, .ofNat 2147483647), (.negSucc 2147483647, .ofNat 2147483647), (.negSucc 2147483647, .ofNat 2147483647), (.negSucc 2147483647, .ofNat 2147483647), (.negSucc 2147483647, .ofNat 2147483647), (.negSucc 2147483647, .ofNat 2147483647), (.negSucc 2147483647, .ofNat 2147483647), (.negSucc 2147483647, .ofNat 2147483647), (.ofNat 0, .ofNat 5), (.ofNat 1, .ofNat 9), (.ofNat 1, .ofNat 6), (.negSucc 0, .ofNat 5), (.ofNat 0, .ofNat 2147483647), (.ofNat 0, .ofNat 6)] (true, [(.ofNat 0, [(12, .negSucc 0), (11, .ofNat 3)])], [], [])), [(0, (2, 155, .ofNat 0)), (1, (0, 10, .ofNat 0)), (2, (0, 13, .ofNat 0)), (3, (0, 14, .ofNat 0)), (4, (0, 15, .ofNat 0))], [], [(156, 3, 1, (0, 11, .ofNat 0)), (156, 7, 1, (0, 12, .ofNat 0))], [(13, 1, 0, 2, 0), (14, 1, 0, 3, 0), (15, 1, 0, 4, 0)], (.ofNat 118, [(15, .negSucc 16)]), none)
set_option maxRecDepth 100000 in
def zn369_1 : zNd := (33, (z_li [(.ofNat 0, .ofNat 0), (.negSucc 2147483647, .ofNat 2147483647), (.negSucc 2147483647, .ofNat 2147483647), (.negSucc 2147483647, .ofNat 2147483647), (.negSucc 2147483647, .ofNat 2147483647), (.negSucc 2147483647, .ofNat 2147483647), (.negSucc 2147483647, .ofNat 2147483647), (.negSucc 2147483647, .ofNat 2147483647), (.negSucc 2147483647, .ofNat 2147483647), (.negSucc 2147483647, .ofNat 2147483647), (.ofNat 0, .ofNat 5), (.ofNat 1, .ofNat 9), (.ofNat 1, .ofNat 6), (.negSucc 0, .ofNat 5), (.ofNat 0, .ofNat 2147483647), (.ofNat 0, .ofNat 5), (.negSucc 2147483647, .ofNat 2147483647), (.ofNat 0, .ofNat 15)] (true, [(.ofNat 0, [(12, .negSucc 0), (11, .ofNat 3)])], [], [])), [(0, (2, 155, .ofNat 0)), (1, (0, 10, .ofNat 0)), (2, (0, 13, .ofNat 0)), (3, (0, 14, .ofNat 0)), (4, (0, 15, .ofNat 0)), (5, (0, 16, .ofNat 0)), (6, (0, 17, .ofNat 0))], [], [(156, 3, 1, (0, 11, .ofNat 0)), (156, 7, 1, (0, 12, .ofNat 0))], [(13, 1, 0, 2, 0), (14, 1, 0, 3, 0), (15, 1, 0, 4, 0), (16, 1, 0, 5, 0), (17, 1, 0, 6, 0)], (.ofNat 117, [(17, .negSucc 0), (15, .negSucc 16)]), none)
def zg369_1 : List zNd := [zn369_0, zn369_1]
def znl369 : List zNd := zg369_1
set_option maxRecDepth 100000 in
theorem zk369_0 : z_ck0 zT1 (z_cnt zL7) 20000 [18, 33] zm295 zc369 znl369 = true := by decide +kernel
set_option maxRecDepth 100000 in
theorem zk369_1 : z_ckn zT1 (z_cnt zL7) 20000 [18, 33] zm295 zc369 znl369 zg369_1 = true := by decide +kernel
theorem zk369 : z_cok zT1 (z_cnt zL7) 20000 [18, 33] zm295 zc369 znl369 = true := z_cok_of zk369_0 (zk369_1)
set_option maxRecDepth 100000 in
def zn370_0 : zNd := (15, (z_li [(.ofNat 0, .ofNat 0), (.negSucc 2147483647, .ofNat 2147483647), (.negSucc 2147483647, .ofNat 2147483647), (.negSucc 2147483647, .ofNat 2147483647), (.negSucc 2147483647, .ofNat 2147483647), (.negSucc 2147483647, .ofNat 2147483647), (.negSucc 2147483647, .ofNat 2147483647), (.negSucc 2147483647, .ofNat 2147483647), (.negSucc 2147483647, .ofNat 2147483647), (.negSucc 2147483647, .ofNat 2147483647), (.ofNat 0, .ofNat 14), (.ofNat 0, .ofNat 9), (.ofNat 0, .ofNat 6), (.ofNat 0, .ofNat 63), (.ofNat 0, .ofNat 6)] (true, [(.ofNat 0, [(12, .negSucc 0), (11, .ofNat 3)])], [], [])), [(0, (2, 155, .ofNat 0)), (1, (0, 10, .ofNat 0)), (2, (0, 13, .ofNat 0)), (3, (0, 14, .ofNat 0))], [], [(156, 3, 1, (0, 11, .ofNat 0)), (156, 7, 1, (0, 12, .ofNat 0))], [(13, 1, 0, 2, 0), (14, 1, 0, 3, 0)], (.ofNat 6, [(14, .negSucc 0)]), none)
def zg370_1 : List zNd := [zn370_0]
def znl370 : List zNd := zg370_1
set_option maxRecDepth 100000 in
theorem zk370_0 : z_ck0 zT1 (z_cnt zL7) 20000 [15] zm297 zc370 znl370 = true := by decide +kernel
set_option maxRecDepth 100000 in
theorem zk370_1 : z_ckn zT1 (z_cnt zL7) 20000 [15] zm297 zc370 znl370 zg370_1 = true := by decide +kernel
theorem zk370 : z_cok zT1 (z_cnt zL7) 20000 [15] zm297 zc370 znl370 = true := z_cok_of zk370_0 (zk370_1)
set_option maxRecDepth 100000 in
def zn371_0 : zNd := (15, (z_li [(.ofNat 0, .ofNat 0), (.negSucc 2147483647, .ofNat 2147483647), (.negSucc 2147483647, .ofNat 2147483647), (.negSucc 2147483647, .ofNat 2147483647), (.negSucc 2147483647, .ofNat 2147483647), (.negSucc 2147483647, .ofNat 2147483647), (.negSucc 2147483647, .ofNat 2147483647), (.negSucc 2147483647, .ofNat 2147483647), (.negSucc 2147483647, .ofNat 2147483647), (.negSucc 2147483647, .ofNat 2147483647), (.ofNat 0, .ofNat 14), (.ofNat 0, .ofNat 9), (.ofNat 0, .ofNat 6), (.ofNat 0, .ofNat 63), (.ofNat 0, .ofNat 6)] (true, [(.ofNat 0, [(12, .negSucc 0), (11, .ofNat 3)])], [], [])), [(0, (2, 155, .ofNat 0)), (1, (0, 10, .ofNat 0)), (2, (0, 13, .ofNat 0)), (3, (0, 14, .ofNat 0))], [], [(156, 3, 1, (0, 11, .ofNat 0)), (156, 7, 1, (0, 12, .ofNat 0))], [(13, 1, 0, 2, 0), (14, 1, 0, 3, 0)], (.ofNat 6, [(14, .negSucc 0)]), none)
def zg371_1 : List zNd := [zn371_0]
def znl371 : List zNd := zg371_1
set_option maxRecDepth 100000 in
theorem zk371_0 : z_ck0 zT1 (z_cnt zL7) 20000 [15] zm299 zc371 znl371 = true := by decide +kernel
set_option maxRecDepth 100000 in
theorem zk371_1 : z_ckn zT1 (z_cnt zL7) 20000 [15] zm299 zc371 znl371 zg371_1 = true := by decide +kernel
theorem zk371 : z_cok zT1 (z_cnt zL7) 20000 [15] zm299 zc371 znl371 = true := z_cok_of zk371_0 (zk371_1)
set_option maxRecDepth 100000 in
def zn372_0 : zNd := (15, (z_li [(.ofNat 0, .ofNat 0), (.negSucc 2147483647, .ofNat 2147483647), (.negSucc 2147483647, .ofNat 2147483647), (.negSucc 2147483647, .ofNat 2147483647), (.negSucc 2147483647, .ofNat 2147483647), (.negSucc 2147483647, .ofNat 2147483647), (.negSucc 2147483647, .ofNat 2147483647), (.negSucc 2147483647, .ofNat 2147483647), (.negSucc 2147483647, .ofNat 2147483647), (.negSucc 2147483647, .ofNat 2147483647), (.ofNat 0, .ofNat 14), (.ofNat 0, .ofNat 9), (.ofNat 0, .ofNat 6), (.ofNat 0, .ofNat 16), (.ofNat 0, .ofNat 6)] (true, [(.ofNat 0, [(12, .negSucc 0), (11, .ofNat 3)])], [], [])), [(0, (2, 155, .ofNat 0)), (1, (0, 10, .ofNat 0)), (2, (0, 13, .ofNat 0)), (3, (0, 14, .ofNat 0))], [], [(156, 3, 1, (0, 11, .ofNat 0)), (156, 7, 1, (0, 12, .ofNat 0))], [(13, 1, 0, 2, 0), (14, 1, 0, 3, 0)], (.ofNat 6, [(14, .negSucc 0)]), none)
def zg372_1 : List zNd := [zn372_0]
def znl372 : List zNd := zg372_1
set_option maxRecDepth 100000 in
theorem zk372_0 : z_ck0 zT1 (z_cnt zL7) 20000 [15] zm301 zc372 znl372 = true := by decide +kernel
set_option maxRecDepth 100000 in
theorem zk372_1 : z_ckn zT1 (z_cnt zL7) 20000 [15] zm301 zc372 znl372 zg372_1 = true := by decide +kernel
theorem zk372 : z_cok zT1 (z_cnt zL7) 20000 [15] zm301 zc372 znl372 = true := z_cok_of zk372_0 (zk372_1)
set_option maxRecDepth 100000 in
def zn373_0 : zNd := (26, (z_li [(.ofNat 0, .ofNat 0), (.negSucc 2147483647, .ofNat 2147483647), (.negSucc 2147483647, .ofNat 2147483647), (.negSucc 2147483647, .ofNat 2147483647), (.negSucc 2147483647, .ofNat 2147483647), (.negSucc 2147483647, .ofNat 2147483647), (.negSucc 2147483647, .ofNat 2147483647), (.negSucc 2147483647, .ofNat 2147483647), (.negSucc 2147483647, .ofNat 2147483647), (.negSucc 2147483647, .ofNat 2147483647), (.ofNat 0, .ofNat 5), (.ofNat 0, .ofNat 5), (.ofNat 1, .ofNat 9), (.ofNat 1, .ofNat 6), (.ofNat 0, .ofNat 15)] (true, [(.ofNat 0, [(13, .negSucc 0), (12, .ofNat 3)])], [], [])), [(0, (2, 155, .ofNat 0)), (1, (0, 10, .ofNat 0)), (2, (0, 11, .ofNat 0)), (3, (0, 14, .ofNat 0))], [], [(156, 3, 1, (0, 12, .ofNat 0)), (156, 7, 1, (0, 13, .ofNat 0))], [(14, 1, 0, 3, 0)], (.ofNat 15, [(14, .negSucc 0)]), none)
def zg373_1 : List zNd := [zn373_0]
def znl373 : List zNd := zg373_1
set_option maxRecDepth 100000 in
theorem zk373_0 : z_ck0 zT1 (z_cnt zL7) 20000 [26] zm303 zc373 znl373 = true := by decide +kernel
set_option maxRecDepth 100000 in
theorem zk373_1 : z_ckn zT1 (z_cnt zL7) 20000 [26] zm303 zc373 znl373 zg373_1 = true := by decide +kernel
theorem zk373 : z_cok zT1 (z_cnt zL7) 20000 [26] zm303 zc373 znl373 = true := z_cok_of zk373_0 (zk373_1)
set_option maxRecDepth 100000 in
def zn374_0 : zNd := (27, (z_li [(.ofNat 0, .ofNat 0), (.negSucc 2147483647, .ofNat 2147483647), (.negSucc 2147483647, .ofNat 2147483647), (.negSucc 2147483647, .ofNat 2147483647), (.negSucc 2147483647, .ofNat 2147483647), (.negSucc 2147483647, .ofNat 2147483647), (.negSucc 2147483647, .ofNat 2147483647), (.negSucc 2147483647, .ofNat 2147483647), (.negSucc 2147483647, .ofNat 2147483647), (.negSucc 2147483647, .ofNat 2147483647), (.ofNat 0, .ofNat 5), (.ofNat 0, .ofNat 5), (.ofNat 0, .ofNat 14), (.ofNat 1, .ofNat 9), (.ofNat 1, .ofNat 6)] (true, [(.ofNat 0, [(14, .negSucc 0), (13, .ofNat 3)])], [], [])), [(0, (2, 155, .ofNat 0)), (1, (0, 10, .ofNat 0)), (2, (0, 11, .ofNat 0)), (3, (0, 12, .ofNat 0))], [], [(156, 3, 1, (0, 13, .ofNat 0)), (156, 7, 1, (0, 14, .ofNat 0))], [], (.ofNat 2, []), none)
set_option maxRecDepth 100000 in
def zn374_1 : zNd := (37, (z_li [(.ofNat 0, .ofNat 0), (.negSucc 2147483647, .ofNat 2147483647), (.negSucc 2147483647, .ofNat 2147483647), (.negSucc 2147483647, .ofNat 2147483647), (.negSucc 2147483647, .ofNat 2147483647), (.negSucc 2147483647, .ofNat 2147483647), (.negSucc 2147483647, .ofNat 2147483647), (.negSucc 2147483647, .ofNat 2147483647), (.negSucc 2147483647, .ofNat 2147483647), (.negSucc 2147483647, .ofNat 2147483647), (.ofNat 0, .ofNat 5), (.ofNat 0, .ofNat 5), (.ofNat 0, .ofNat 14), (.ofNat 1, .ofNat 9), (.ofNat 1, .ofNat 6)] (true, [(.ofNat 0, [(14, .negSucc 0), (13, .ofNat 3)])], [], [])), [(0, (2, 155, .ofNat 0)), (1, (0, 10, .ofNat 0)), (2, (0, 11, .ofNat 0)), (3, (0, 12, .ofNat 0))], [], [(156, 3, 1, (0, 13, .ofNat 0)), (156, 7, 1, (0, 14, .ofNat 0))], [], (.ofNat 1, []), none)
set_option maxRecDepth 100000 in
def zn374_2 : zNd := (51, (z_li [(.ofNat 0, .ofNat 0), (.negSucc 2147483647, .ofNat 2147483647), (.negSucc 2147483647, .ofNat 2147483647), (.negSucc 2147483647, .ofNat 2147483647), (.negSucc 2147483647, .ofNat 2147483647), (.negSucc 2147483647, .ofNat 2147483647), (.negSucc 2147483647, .ofNat 2147483647), (.negSucc 2147483647, .ofNat 2147483647), (.negSucc 2147483647, .ofNat 2147483647), (.negSucc 2147483647, .ofNat 2147483647), (.ofNat 0, .ofNat 5), (.ofNat 0, .ofNat 5), (.ofNat 0, .ofNat 14), (.ofNat 1, .ofNat 9), (.ofNat 1, .ofNat 6)] (true, [(.ofNat 0, [(14, .negSucc 0), (13, .ofNat 3)])], [], [])), [(0, (2, 155, .ofNat 0)), (1, (0, 10, .ofNat 0)), (2, (0, 11, .ofNat 0)), (3, (0, 12, .ofNat 0))], [], [(156, 3, 1, (0, 13, .ofNat 0)), (156, 7, 1, (0, 14, .ofNat 0))], [], (.ofNat 0, []), none)
def zg374_1 : List zNd := [zn374_0, zn374_1, zn374_2]
def znl374 : List zNd := zg374_1
set_option maxRecDepth 100000 in
theorem zk374_0 : z_ck0 zT1 (z_cnt zL7) 20000 [27, 37, 51] zm305 zc374 znl374 = true := by decide +kernel
set_option maxRecDepth 100000 in
theorem zk374_1 : z_ckn zT1 (z_cnt zL7) 20000 [27, 37, 51] zm305 zc374 znl374 zg374_1 = true := by decide +kernel
theorem zk374 : z_cok zT1 (z_cnt zL7) 20000 [27, 37, 51] zm305 zc374 znl374 = true := z_cok_of zk374_0 (zk374_1)
set_option maxRecDepth 100000 in
def zn375_0 : zNd := (15, (z_li [(.ofNat 0, .ofNat 0), (.negSucc 2147483647, .ofNat 2147483647), (.negSucc 2147483647, .ofNat 2147483647), (.negSucc 2147483647, .ofNat 2147483647), (.negSucc 2147483647, .ofNat 2147483647), (.negSucc 2147483647, .ofNat 2147483647), (.negSucc 2147483647, .ofNat 2147483647), (.negSucc 2147483647, .ofNat 2147483647), (.negSucc 2147483647, .ofNat 2147483647), (.negSucc 2147483647, .ofNat 2147483647), (.ofNat 0, .ofNat 5), (.ofNat 1, .ofNat 9), (.ofNat 1, .ofNat 6), (.ofNat 0, .ofNat 18), (.ofNat 0, .ofNat 15)] (true, [(.ofNat 0, [(12, .negSucc 0), (11, .ofNat 3)])], [], [])), [(0, (2, 155, .ofNat 0)), (1, (0, 10, .ofNat 0)), (2, (0, 13, .ofNat 0)), (3, (0, 14, .ofNat 0))], [], [(156, 3, 1, (0, 11, .ofNat 0)), (156, 7, 1, (0, 12, .ofNat 0))], [(13, 1, 0, 2, 0), (14, 1, 0, 3, 0)], (.ofNat 15, [(14, .negSucc 0)]), none)
def zg375_1 : List zNd := [zn375_0]
def znl375 : List zNd := zg375_1
set_option maxRecDepth 100000 in
theorem zk375_0 : z_ck0 zT1 (z_cnt zL7) 20000 [15] zm307 zc375 znl375 = true := by decide +kernel
set_option maxRecDepth 100000 in
theorem zk375_1 : z_ckn zT1 (z_cnt zL7) 20000 [15] zm307 zc375 znl375 zg375_1 = true := by decide +kernel
theorem zk375 : z_cok zT1 (z_cnt zL7) 20000 [15] zm307 zc375 znl375 = true := z_cok_of zk375_0 (zk375_1)
set_option maxRecDepth 100000 in
def zn376_0 : zNd := (13, (z_li [(.ofNat 0, .ofNat 0), (.negSucc 2147483647, .ofNat 2147483647), (.negSucc 2147483647, .ofNat 2147483647), (.negSucc 2147483647, .ofNat 2147483647), (.negSucc 2147483647, .ofNat 2147483647), (.negSucc 2147483647, .ofNat 2147483647), (.negSucc 2147483647, .ofNat 2147483647), (.negSucc 2147483647, .ofNat 2147483647), (.negSucc 2147483647, .ofNat 2147483647), (.negSucc 2147483647, .ofNat 2147483647), (.ofNat 0, .ofNat 5), (.ofNat 1, .ofNat 9), (.ofNat 1, .ofNat 6), (.ofNat 0, .ofNat 15)] (true, [(.ofNat 0, [(12, .negSucc 0), (11, .ofNat 3)])], [], [])), [(0, (2, 155, .ofNat 0)), (1, (0, 10, .ofNat 0)), (2, (0, 13, .ofNat 0))], [], [(156, 3, 1, (0, 11, .ofNat 0)), (156, 7, 1, (0, 12, .ofNat 0))], [(13, 1, 0, 2, 0)], (.ofNat 15, [(13, .negSucc 0)]), none)
def zg376_1 : List zNd := [zn376_0]
def znl376 : List zNd := zg376_1
set_option maxRecDepth 100000 in
theorem zk376_0 : z_ck0 zT1 (z_cnt zL7) 20000 [13] zm309 zc376 znl376 = true := by decide +kernel
set_option maxRecDepth 100000 in
theorem zk376_1 : z_ckn zT1 (z_cnt zL7) 20000 [13] zm309 zc376 znl376 zg376_1 = true := by decide +kernel
theorem zk376 : z_cok zT1 (z_cnt zL7) 20000 [13] zm309 zc376 znl376 = true := z_cok_of zk376_0 (zk376_1)
set_option maxRecDepth 100000 in
def zn377_0 : zNd := (15, (z_li [(.ofNat 0, .ofNat 0), (.negSucc 2147483647, .ofNat 2147483647), (.negSucc 2147483647, .ofNat 2147483647), (.negSucc 2147483647, .ofNat 2147483647), (.negSucc 2147483647, .ofNat 2147483647), (.negSucc 2147483647, .ofNat 2147483647), (.negSucc 2147483647, .ofNat 2147483647), (.negSucc 2147483647, .ofNat 2147483647), (.negSucc 2147483647, .ofNat 2147483647), (.negSucc 2147483647, .ofNat 2147483647), (.ofNat 0, .ofNat 14), (.ofNat 0, .ofNat 9), (.ofNat 0, .ofNat 6), (.negSucc 0, .ofNat 5), (.ofNat 0, .ofNat 6)] (true, [(.ofNat 0, [(12, .negSucc 0), (11, .ofNat 3)])], [], [])), [(0, (2, 155, .ofNat 0)), (1, (0, 10, .ofNat 0)), (2, (0, 13, .ofNat 0)), (3, (0, 14, .ofNat 0))], [], [(156, 3, 1, (0, 11, .ofNat 0)), (156, 7, 1, (0, 12, .ofNat 0))], [(13, 1, 0, 2, 0), (14, 1, 0, 3, 0)], (.ofNat 6, [(14, .negSucc 0)]), none)
def zg377_1 : List zNd := [zn377_0]
def znl377 : List zNd := zg377_1
set_option maxRecDepth 100000 in
theorem zk377_0 : z_ck0 zT1 (z_cnt zL7) 20000 [15] zm311 zc377 znl377 = true := by decide +kernel
set_option maxRecDepth 100000 in
theorem zk377_1 : z_ckn zT1 (z_cnt zL7) 20000 [15] zm311 zc377 znl377 zg377_1 = true := by decide +kernel
theorem zk377 : z_cok zT1 (z_cnt zL7) 20000 [15] zm311 zc377 znl377 = true := z_cok_of zk377_0 (zk377_1)
set_option maxRecDepth 100000 in
theorem zk378 : z_cok zT1 (z_cnt zL7) 20000 [] zm313 zc378 [] = true := by decide +kernel
