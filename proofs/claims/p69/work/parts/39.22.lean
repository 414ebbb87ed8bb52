set_option maxRecDepth 100000 in
theorem zk349 : z_cok zT1 (z_cnt zL7) 20000 [] zm235 zc349 [] = true := by decide +kernel
set_option maxRecDepth 100000 in
theorem zk350 : z_cok zT1 (z_cnt zL7) 20000 [] zm237 zc350 [] = true := by decide +kernel
set_option maxRecDepth 100000 in
theorem zk351 : z_cok zT1 (z_cnt zL7) 20000 [] zm239 zc351 [] = true := by decide +kernel
set_option maxRecDepth 100000 in
def zn352_0 : zNd := (15, (z_li [(0, 0), ((-2147483648), 2147483647), ((-2147483648), 2147483647), ((-2147483648), 2147483647), ((-2147483648), 2147483647), ((-2147483648), 2147483647), ((-2147483648), 2147483647), ((-2147483648), 2147483647), ((-2147483648), 2147483647), ((-2147483648), 2147483647), (0, 14), (0, 9), (0, 6), (0, 63), (0, 6)] (true, [(0, [(11, 3), (12, (-1))])], [], [])), [(0, (2, 155, 0)), (1, (0, 10, 0)), (2, (0, 13, 0)), (3, (0, 14, 0))], [], [(156, 3, 1, (0, 11, 0)), (156, 7, 1, (0, 12, 0))], [(13, 1, 0, 2, 0), (14, 1, 0, 3, 0)], (6, [(14, (-1))]), none)
set_option maxRecDepth 100000 in
def znl352 : List zNd := [zn352_0]
set_option maxRecDepth 100000 in
theorem zk352_0 : z_ck0 zT1 (z_cnt zL7) 20000 [15] zm241 zc352 znl352 = true := by decide +kernel
set_option maxRecDepth 100000 in
theorem zk352_1 : z_ckn zT1 (z_cnt zL7) 20000 [15] zm241 zc352 znl352 [zn352_0] = true := by decide +kernel
set_option maxRecDepth 100000 in
theorem zk352 : z_cok zT1 (z_cnt zL7) 20000 [15] zm241 zc352 znl352 = true := z_cok_of zk352_0 (zk352_1)
set_option maxRecDepth 100000 in
theorem zk353 : z_cok zT1 (z_cnt zL7) 20000 [] zm243 zc353 [] = true := by decide +kernel
set_option maxRecDepth 100000 in
def zn354_0 : zNd := (14, (z_li [(0, 0), ((-2147483648), 2147483647), ((-2147483648), 2147483647), ((-2147483648), 2147483647), ((-2147483648), 2147483647), ((-2147483648), 2147483647), ((-2147483648), 2147483647), ((-2147483648), 2147483647), ((-2147483648), 2147483647), ((-2147483648), 2147483647), (0, 9), (0, 6), ((-1), 5), (0, 6)] (true, [(0, [(10, 3), (11, (-1))])], [], [])), [(0, (2, 155, 0)), (1, (0, 12, 0)), (2, (0, 13, 0))], [], [(156, 3, 1, (0, 10, 0)), (156, 7, 1, (0, 11, 0))], [(12, 1, 0, 1, 0), (13, 1, 0, 2, 0)], (6, [(13, (-1))]), none)
set_option maxRecDepth 100000 in
def znl354 : List zNd := [zn354_0]
set_option maxRecDepth 100000 in
theorem zk354_0 : z_ck0 zT1 (z_cnt zL7) 20000 [14] zm245 zc354 znl354 = true := by decide +kernel
set_option maxRecDepth 100000 in
theorem zk354_1 : z_ckn zT1 (z_cnt zL7) 20000 [14] zm245 zc354 znl354 [zn354_0] = true := by decide +kernel
set_option maxRecDepth 100000 in
theorem zk354 : z_cok zT1 (z_cnt zL7) 20000 [14] zm245 zc354 znl354 = true := z_cok_of zk354_0 (zk354_1)
set_option maxRecDepth 100000 in
theorem zk355 : z_cok zT1 (z_cnt zL7) 20000 [] zm247 zc355 [] = true := by decide +kernel
set_option maxRecDepth 100000 in
theorem zk356 : z_cok zT1 (z_cnt zL7) 20000 [] zm249 zc356 [] = true := by decide +kernel
set_option maxRecDepth 100000 in
theorem zk357 : z_cok zT1 (z_cnt zL7) 20000 [] zm251 zc357 [] = true := by decide +kernel
set_option maxRecDepth 100000 in
theorem zk358 : z_cok zT1 (z_cnt zL7) 20000 [] zm253 zc358 [] = true := by decide +kernel
set_option maxRecDepth 100000 in
def zn359_0 : zNd := (15, (z_li [(0, 0), ((-2147483648), 2147483647), ((-2147483648), 2147483647), ((-2147483648), 2147483647), ((-2147483648), 2147483647), ((-2147483648), 2147483647), ((-2147483648), 2147483647), ((-2147483648), 2147483647), ((-2147483648), 2147483647), ((-2147483648), 2147483647), (0, 14), (0, 9), (0, 6), ((-1), 5), (0, 6)] (true, [(0, [(11, 3), (12, (-1))])], [], [])), [(0, (2, 155, 0)), (1, (0, 10, 0)), (2, (0, 13, 0)), (3, (0, 14, 0))], [], [(156, 3, 1, (0, 11, 0)), (156, 7, 1, (0, 12, 0))], [(13, 1, 0, 2, 0), (14, 1, 0, 3, 0)], (6, [(14, (-1))]), none)
set_option maxRecDepth 100000 in
def znl359 : List zNd := [zn359_0]
set_option maxRecDepth 100000 in
theorem zk359_0 : z_ck0 zT1 (z_cnt zL7) 20000 [15] zm255 zc359 znl359 = true := by decide +kernel
set_option maxRecDepth 100000 in
theorem zk359_1 : z_ckn zT1 (z_cnt zL7) 20000 [15] zm255 zc359 znl359 [zn359_0] = true := by decide +kernel
set_option maxRecDepth 100000 in
theorem zk359 : z_cok zT1 (z_cnt zL7) 20000 [15] zm255 zc359 znl359 = true := z_cok_of zk359_0 (zk359_1)
set_option maxRecDepth 100000 in
def zn360_0 : zNd := (13, (z_li [(0, 0), ((-2147483648), 2147483647), ((-2147483648), 2147483647), ((-2147483648), 2147483647), ((-2147483648), 2147483647), ((-2147483648), 2147483647), ((-2147483648), 2147483647), ((-2147483648), 2147483647), ((-2147483648), 2147483647), ((-2147483648), 2147483647), (0, 5), (1, 9), (1, 6), (0, 15)] (true, [(0, [(11, 3), (12, (-1))])], [], [])), [(0, (2, 155, 0)), (1, (0, 10, 0)), (2, (0, 13, 0))], [], [(156, 3, 1, (0, 11, 0)), (156, 7, 1, (0, 12, 0))], [(13, 1, 0, 2, 0)], (15, [(13, (-1))]), none)
set_option maxRecDepth 100000 in
def znl360 : List zNd := [zn360_0]
set_option maxRecDepth 100000 in
theorem zk360_0 : z_ck0 zT1 (z_cnt zL7) 20000 [13] zm257 zc360 znl360 = true := by decide +kernel
set_option maxRecDepth 100000 in
theorem zk360_1 : z_ckn zT1 (z_cnt zL7) 20000 [13] zm257 zc360 znl360 [zn360_0] = true := by decide +kernel
set_option maxRecDepth 100000 in
theorem zk360 : z_cok zT1 (z_cnt zL7) 20000 [13] zm257 zc360 znl360 = true := z_cok_of zk360_0 (zk360_1)
set_option maxRecDepth 100000 in
def zn361_0 : zNd := (15, (z_li [(0, 0), ((-2147483648), 2147483647), ((-2147483648), 2147483647), ((-2147483648), 2147483647), ((-2147483648), 2147483647), ((-2147483648), 2147483647), ((-2147483648), 2147483647), ((-2147483648), 2147483647), ((-2147483648), 2147483647), ((-2147483648), 2147483647), (0, 5), (1, 9), (1, 6), (0, 18), (0, 15)] (true, [(0, [(11, 3), (12, (-1))])], [], [])), [(0, (2, 155, 0)), (1, (0, 10, 0)), (2, (0, 13, 0)), (3, (0, 14, 0))], [], [(156, 3, 1, (0, 11, 0)), (156, 7, 1, (0, 12, 0))], [(13, 1, 0, 2, 0), (14, 1, 0, 3, 0)], (15, [(14, (-1))]), none)
set_option maxRecDepth 100000 in
def znl361 : List zNd := [zn361_0]
set_option maxRecDepth 100000 in
theorem zk361_0 : z_ck0 zT1 (z_cnt zL7) 20000 [15] zm259 zc361 znl361 = true := by decide +kernel
set_option maxRecDepth 100000 in
theorem zk361_1 : z_ckn zT1 (z_cnt zL7) 20000 [15] zm259 zc361 znl361 [zn361_0] = true := by decide +kernel
set_option maxRecDepth 100000 in
theorem zk361 : z_cok zT1 (z_cnt zL7) 20000 [15] zm259 zc361 znl361 = true := z_cok_of zk361_0 (zk361_1)
