set_option maxRecDepth 100000 in
def zn219_0 : zNd := (15, (z_li [(0, 0), ((-2147483648), 2147483647), ((-2147483648), 2147483647), ((-2147483648), 2147483647), ((-2147483648), 2147483647), ((-2147483648), 2147483647), ((-2147483648), 2147483647), ((-2147483648), 2147483647), ((-2147483648), 2147483647), ((-2147483648), 2147483647), (0, 14), (0, 63), (0, 6)] (false, [], [], [])), [(0, (2, 0, 0)), (1, (0, 10, 0)), (2, (0, 11, 0)), (3, (0, 12, 0))], [], [], [(11, 1, 0, 2, 0), (12, 1, 0, 3, 0)], (6, [(12, (-1))]), none)
set_option maxRecDepth 100000 in
def znl219 : List zNd := [zn219_0]
set_option maxRecDepth 100000 in
theorem zk219_0 : z_ck0 zT1 (z_cnt zL1) 20000 [15] zm264 zc219 znl219 = true := by decide +kernel
set_option maxRecDepth 100000 in
theorem zk219_1 : z_ckn zT1 (z_cnt zL1) 20000 [15] zm264 zc219 znl219 [zn219_0] = true := by decide +kernel
set_option maxRecDepth 100000 in
theorem zk219 : z_cok zT1 (z_cnt zL1) 20000 [15] zm264 zc219 znl219 = true := z_cok_of zk219_0 (zk219_1)
set_option maxRecDepth 100000 in
def zn220_0 : zNd := (15, (z_li [(0, 0), ((-2147483648), 2147483647), ((-2147483648), 2147483647), ((-2147483648), 2147483647), ((-2147483648), 2147483647), ((-2147483648), 2147483647), ((-2147483648), 2147483647), ((-2147483648), 2147483647), ((-2147483648), 2147483647), ((-2147483648), 2147483647), (0, 14), (0, 63), (0, 6)] (false, [], [], [])), [(0, (2, 0, 0)), (1, (0, 10, 0)), (2, (0, 11, 0)), (3, (0, 12, 0))], [], [], [(11, 1, 0, 2, 0), (12, 1, 0, 3, 0)], (6, [(12, (-1))]), none)
set_option maxRecDepth 100000 in
def znl220 : List zNd := [zn220_0]
set_option maxRecDepth 100000 in
theorem zk220_0 : z_ck0 zT1 (z_cnt zL1) 20000 [15] zm268 zc220 znl220 = true := by decide +kernel
set_option maxRecDepth 100000 in
theorem zk220_1 : z_ckn zT1 (z_cnt zL1) 20000 [15] zm268 zc220 znl220 [zn220_0] = true := by decide +kernel
set_option maxRecDepth 100000 in
theorem zk220 : z_cok zT1 (z_cnt zL1) 20000 [15] zm268 zc220 znl220 = true := z_cok_of zk220_0 (zk220_1)
set_option maxRecDepth 100000 in
theorem zk221 : z_cok zT1 (z_cnt zL1) 20000 [] zm274 zc221 [] = true := by decide +kernel
set_option maxRecDepth 100000 in
def zn222_0 : zNd := (14, (z_li [(0, 0), ((-2147483648), 2147483647), ((-2147483648), 2147483647), ((-2147483648), 2147483647), ((-2147483648), 2147483647), ((-2147483648), 2147483647), ((-2147483648), 2147483647), ((-2147483648), 2147483647), ((-2147483648), 2147483647), ((-2147483648), 2147483647), (0, 9), (0, 6), (0, 2147483647), (0, 14)] (true, [(0, [(10, 3), (11, (-1))])], [], [])), [(0, (2, 155, 0)), (1, (0, 12, 0)), (2, (0, 13, 0))], [], [(156, 3, 1, (0, 10, 0)), (156, 7, 1, (0, 11, 0))], [(12, 1, 0, 1, 0), (13, 1, 0, 2, 0)], (14, [(13, (-1))]), none)
set_option maxRecDepth 100000 in
def znl222 : List zNd := [zn222_0]
set_option maxRecDepth 100000 in
theorem zk222_0 : z_ck0 zT1 (z_cnt zL1) 20000 [14] zm275 zc222 znl222 = true := by decide +kernel
set_option maxRecDepth 100000 in
theorem zk222_1 : z_ckn zT1 (z_cnt zL1) 20000 [14] zm275 zc222 znl222 [zn222_0] = true := by decide +kernel
set_option maxRecDepth 100000 in
theorem zk222 : z_cok zT1 (z_cnt zL1) 20000 [14] zm275 zc222 znl222 = true := z_cok_of zk222_0 (zk222_1)
set_option maxRecDepth 100000 in
def zn223_0 : zNd := (25, (z_li [(0, 0), ((-2147483648), 2147483647), ((-2147483648), 2147483647), ((-2147483648), 2147483647), ((-2147483648), 2147483647), ((-2147483648), 2147483647), ((-2147483648), 2147483647), ((-2147483648), 2147483647), ((-2147483648), 2147483647), ((-2147483648), 2147483647), (0, 2147483647), (0, 2147483647), ((-2147483648), 2147483647), (0, 14)] (false, [], [], [])), [(0, (2, 0, 0)), (1, (0, 10, 0)), (2, (0, 11, 0)), (3, (0, 12, 0)), (4, (0, 13, 0))], [], [], [(10, 1, 0, 1, 0), (11, 1, 0, 2, 0), (12, 1, 0, 3, 0), (13, 1, 0, 4, 0)], (14, [(13, (-1))]), none)
set_option maxRecDepth 100000 in
def znl223 : List zNd := [zn223_0]
set_option maxRecDepth 100000 in
theorem zk223_0 : z_ck0 zT1 (z_cnt zL1) 20000 [25] zm276 zc223 znl223 = true := by decide +kernel
set_option maxRecDepth 100000 in
theorem zk223_1 : z_ckn zT1 (z_cnt zL1) 20000 [25] zm276 zc223 znl223 [zn223_0] = true := by decide +kernel
set_option maxRecDepth 100000 in
theorem zk223 : z_cok zT1 (z_cnt zL1) 20000 [25] zm276 zc223 znl223 = true := z_cok_of zk223_0 (zk223_1)
set_option maxRecDepth 100000 in
def zn224_0 : zNd := (16, (z_li [(0, 0), ((-2147483648), 2147483647), ((-2147483648), 2147483647), ((-2147483648), 2147483647), ((-2147483648), 2147483647), ((-2147483648), 2147483647), ((-2147483648), 2147483647), ((-2147483648), 2147483647), ((-2147483648), 2147483647), ((-2147483648), 2147483647), (0, 9), (0, 6), (0, 2147483647), ((-2147483648), 2147483647), (0, 14)] (true, [(0, [(10, 3), (11, (-1))])], [], [])), [(0, (2, 155, 0)), (1, (0, 12, 0)), (2, (0, 13, 0)), (3, (0, 14, 0))], [], [(156, 3, 1, (0, 10, 0)), (156, 7, 1, (0, 11, 0))], [(12, 1, 0, 1, 0), (13, 1, 0, 2, 0), (14, 1, 0, 3, 0)], (14, [(14, (-1))]), none)
set_option maxRecDepth 100000 in
def znl224 : List zNd := [zn224_0]
set_option maxRecDepth 100000 in
theorem zk224_0 : z_ck0 zT1 (z_cnt zL1) 20000 [16] zm277 zc224 znl224 = true := by decide +kernel
set_option maxRecDepth 100000 in
theorem zk224_1 : z_ckn zT1 (z_cnt zL1) 20000 [16] zm277 zc224 znl224 [zn224_0] = true := by decide +kernel
set_option maxRecDepth 100000 in
theorem zk224 : z_cok zT1 (z_cnt zL1) 20000 [16] zm277 zc224 znl224 = true := z_cok_of zk224_0 (zk224_1)
set_option maxRecDepth 100000 in
theorem zk225 : z_cok zT1 (z_cnt zL1) 20000 [] zm279 zc225 [] = true := by decide +kernel
set_option maxRecDepth 100000 in
def zn226_0 : zNd := (19, (z_li [(0, 0), ((-2147483648), 2147483647), ((-2147483648), 2147483647), ((-2147483648), 2147483647), ((-2147483648), 2147483647), ((-2147483648), 2147483647), ((-2147483648), 2147483647), ((-2147483648), 2147483647), ((-2147483648), 2147483647), ((-2147483648), 2147483647), ((-1), 13), (0, 63), (0, 14)] (false, [], [], [])), [(0, (2, 0, 0)), (1, (0, 10, 0)), (2, (0, 11, 0)), (3, (0, 12, 0))], [], [], [(10, 1, 0, 1, 0), (11, 1, 0, 2, 0), (12, 1, 0, 3, 0)], (14, [(12, (-1))]), none)
set_option maxRecDepth 100000 in
def znl226 : List zNd := [zn226_0]
set_option maxRecDepth 100000 in
theorem zk226_0 : z_ck0 zT1 (z_cnt zL1) 20000 [19] zm280 zc226 znl226 = true := by decide +kernel
set_option maxRecDepth 100000 in
theorem zk226_1 : z_ckn zT1 (z_cnt zL1) 20000 [19] zm280 zc226 znl226 [zn226_0] = true := by decide +kernel
set_option maxRecDepth 100000 in
theorem zk226 : z_cok zT1 (z_cnt zL1) 20000 [19] zm280 zc226 znl226 = true := z_cok_of zk226_0 (zk226_1)
set_option maxRecDepth 100000 in
theorem zk227 : z_cok zT1 (z_cnt zL1) 20000 [] zm284 zc227 [] = true := by decide +kernel
set_option maxRecDepth 100000 in
def zn228_0 : zNd := (17, (z_li [(0, 0), ((-2147483648), 2147483647), ((-2147483648), 2147483647), ((-2147483648), 2147483647), ((-2147483648), 2147483647), ((-2147483648), 2147483647), ((-2147483648), 2147483647), ((-2147483648), 2147483647), ((-2147483648), 2147483647), ((-2147483648), 2147483647), (0, 511), (0, 9)] (false, [], [], [])), [(0, (2, 0, 0)), (1, (0, 10, 0)), (2, (0, 11, 0))], [], [], [(10, 1, 0, 1, 0), (11, 1, 0, 2, 0)], (9, [(11, (-1))]), none)
set_option maxRecDepth 100000 in
def znl228 : List zNd := [zn228_0]
set_option maxRecDepth 100000 in
theorem zk228_0 : z_ck0 zT1 (z_cnt zL1) 20000 [17] zm286 zc228 znl228 = true := by decide +kernel
set_option maxRecDepth 100000 in
theorem zk228_1 : z_ckn zT1 (z_cnt zL1) 20000 [17] zm286 zc228 znl228 [zn228_0] = true := by decide +kernel
set_option maxRecDepth 100000 in
theorem zk228 : z_cok zT1 (z_cnt zL1) 20000 [17] zm286 zc228 znl228 = true := z_cok_of zk228_0 (zk228_1)
set_option maxRecDepth 100000 in
theorem zk229 : z_cok zT1 (z_cnt zL1) 20000 [] zm344 zc229 [] = true := by decide +kernel
set_option maxRecDepth 100000 in
theorem zk230 : z_cok zT1 (z_cnt zL1) 20000 [] zm350 zc230 [] = true := by decide +kernel
set_option maxRecDepth 100000 in
theorem zk231 : z_cok zT1 (z_cnt zL1) 20000 [] zm353 zc231 [] = true := by decide +kernel
set_option maxRecDepth 100000 in
theorem zk232 : z_cok zT1 (z_cnt zL2) 20000 [] zm10 zc232 [] = true := by decide +kernel
set_option maxRecDepth 100000 in
def zn233_0 : zNd := (58, (z_li [(0, 0), ((-2147483648), 2147483647), ((-2147483648), 2147483647), ((-2147483648), 2147483647), ((-2147483648), 2147483647), ((-2147483648), 2147483647), ((-2147483648), 2147483647), ((-2147483648), 2147483647), ((-2147483648), 2147483647), ((-2147483648), 2147483647), (0, 5), (0, 0), (0, 700), (0, 88), (0, 5)] (true, [], [], [])), [(0, (2, 3, 0)), (1, (2, 6, 0)), (2, (0, 10, 0)), (4, (0, 12, 0)), (6, (0, 13, 0)), (7, (0, 14, 0))], [], [], [(12, 1, 0, 4, 0), (13, 1, 0, 6, 0), (14, 1, 0, 7, 0)], (5, [(14, (-1))]), none)
set_option maxRecDepth 100000 in
def znl233 : List zNd := [zn233_0]
set_option maxRecDepth 100000 in
theorem zk233_0 : z_ck0 zT1 (z_cnt zL2) 20000 [58] zm24 zc233 znl233 = true := by decide +kernel
set_option maxRecDepth 100000 in
theorem zk233_1 : z_ckn zT1 (z_cnt zL2) 20000 [58] zm24 zc233 znl233 [zn233_0] = true := by decide +kernel
set_option maxRecDepth 100000 in
theorem zk233 : z_cok zT1 (z_cnt zL2) 20000 [58] zm24 zc233 znl233 = true := z_cok_of zk233_0 (zk233_1)
set_option maxRecDepth 100000 in
def zn234_0 : zNd := (58, (z_li [(0, 0), ((-2147483648), 2147483647), ((-2147483648), 2147483647), ((-2147483648), 2147483647), ((-2147483648), 2147483647), ((-2147483648), 2147483647), ((-2147483648), 2147483647), ((-2147483648), 2147483647), ((-2147483648), 2147483647), ((-2147483648), 2147483647), (0, 5), (1, 1), (0, 700), (0, 5)] (true, [], [], [])), [(0, (2, 3, 0)), (1, (2, 6, 0)), (2, (0, 10, 0)), (4, (0, 12, 0)), (6, (0, 0, 0)), (7, (0, 13, 0))], [], [(4, 5, 1, (0, 11, 0))], [(12, 1, 0, 4, 0), (13, 1, 0, 7, 0)], (5, [(13, (-1))]), none)
set_option maxRecDepth 100000 in
def znl234 : List zNd := [zn234_0]
set_option maxRecDepth 100000 in
theorem zk234_0 : z_ck0 zT1 (z_cnt zL2) 20000 [58] zm24 zc234 znl234 = true := by decide +kernel
set_option maxRecDepth 100000 in
theorem zk234_1 : z_ckn zT1 (z_cnt zL2) 20000 [58] zm24 zc234 znl234 [zn234_0] = true := by decide +kernel
set_option maxRecDepth 100000 in
theorem zk234 : z_cok zT1 (z_cnt zL2) 20000 [58] zm24 zc234 znl234 = true := z_cok_of zk234_0 (zk234_1)
set_option maxRecDepth 100000 in
def zn235_0 : zNd := (58, (z_li [(0, 0), ((-2147483648), 2147483647), ((-2147483648), 2147483647), ((-2147483648), 2147483647), ((-2147483648), 2147483647), ((-2147483648), 2147483647), ((-2147483648), 2147483647), ((-2147483648), 2147483647), ((-2147483648), 2147483647), ((-2147483648), 2147483647), (0, 7), (0, 0), (0, 700), (0, 88), (0, 7)] (true, [], [], [])), [(0, (2, 3, 0)), (1, (2, 7, 0)), (2, (0, 10, 0)), (4, (0, 12, 0)), (6, (0, 13, 0)), (7, (0, 14, 0))], [], [], [(12, 1, 0, 4, 0), (13, 1, 0, 6, 0), (14, 1, 0, 7, 0)], (7, [(14, (-1))]), none)
set_option maxRecDepth 100000 in
def znl235 : List zNd := [zn235_0]
set_option maxRecDepth 100000 in
theorem zk235_0 : z_ck0 zT1 (z_cnt zL2) 20000 [58] zm24 zc235 znl235 = true := by decide +kernel
set_option maxRecDepth 100000 in
theorem zk235_1 : z_ckn zT1 (z_cnt zL2) 20000 [58] zm24 zc235 znl235 [zn235_0] = true := by decide +kernel
set_option maxRecDepth 100000 in
theorem zk235 : z_cok zT1 (z_cnt zL2) 20000 [58] zm24 zc235 znl235 = true := z_cok_of zk235_0 (zk235_1)
set_option maxRecDepth 100000 in
def zn236_0 : zNd := (58, (z_li [(0, 0), ((-2147483648), 2147483647), ((-2147483648), 2147483647), ((-2147483648), 2147483647), ((-2147483648), 2147483647), ((-2147483648), 2147483647), ((-2147483648), 2147483647), ((-2147483648), 2147483647), ((-2147483648), 2147483647), ((-2147483648), 2147483647), (0, 7), (1, 1), (0, 700), (0, 7)] (true, [], [], [])), [(0, (2, 3, 0)), (1, (2, 7, 0)), (2, (0, 10, 0)), (4, (0, 12, 0)), (6, (0, 0, 0)), (7, (0, 13, 0))], [], [(4, 5, 1, (0, 11, 0))], [(12, 1, 0, 4, 0), (13, 1, 0, 7, 0)], (7, [(13, (-1))]), none)
set_option maxRecDepth 100000 in
def znl236 : List zNd := [zn236_0]
set_option maxRecDepth 100000 in
theorem zk236_0 : z_ck0 zT1 (z_cnt zL2) 20000 [58] zm24 zc236 znl236 = true := by decide +kernel
set_option maxRecDepth 100000 in
theorem zk236_1 : z_ckn zT1 (z_cnt zL2) 20000 [58] zm24 zc236 znl236 [zn236_0] = true := by decide +kernel
set_option maxRecDepth 100000 in
theorem zk236 : z_cok zT1 (z_cnt zL2) 20000 [58] zm24 zc236 znl236 = true := z_cok_of zk236_0 (zk236_1)
set_option maxRecDepth 100000 in
def zn237_0 : zNd := (58, (z_li [(0, 0), ((-2147483648), 2147483647), ((-2147483648), 2147483647), ((-2147483648), 2147483647), ((-2147483648), 2147483647), ((-2147483648), 2147483647), ((-2147483648), 2147483647), ((-2147483648), 2147483647), ((-2147483648), 2147483647), ((-2147483648), 2147483647), (0, 0), (0, 0), (0, 700), (0, 88)] (true, [], [], [])), [(0, (2, 3, 0)), (1, (2, 9, 0)), (2, (0, 10, 0)), (4, (0, 12, 0)), (6, (0, 13, 0)), (7, (0, 0, 0))], [], [], [(12, 1, 0, 4, 0), (13, 1, 0, 6, 0)], (0, []), none)
set_option maxRecDepth 100000 in
def znl237 : List zNd := [zn237_0]
set_option maxRecDepth 100000 in
theorem zk237_0 : z_ck0 zT1 (z_cnt zL2) 20000 [58] zm24 zc237 znl237 = true := by decide +kernel
set_option maxRecDepth 100000 in
theorem zk237_1 : z_ckn zT1 (z_cnt zL2) 20000 [58] zm24 zc237 znl237 [zn237_0] = true := by decide +kernel
set_option maxRecDepth 100000 in
theorem zk237 : z_cok zT1 (z_cnt zL2) 20000 [58] zm24 zc237 znl237 = true := z_cok_of zk237_0 (zk237_1)
set_option maxRecDepth 100000 in
def zn238_0 : zNd := (58, (z_li [(0, 0), ((-2147483648), 2147483647), ((-2147483648), 2147483647), ((-2147483648), 2147483647), ((-2147483648), 2147483647), ((-2147483648), 2147483647), ((-2147483648), 2147483647), ((-2147483648), 2147483647), ((-2147483648), 2147483647), ((-2147483648), 2147483647), (0, 0), (1, 2), (0, 700)] (true, [], [], [])), [(0, (2, 3, 0)), (1, (2, 9, 0)), (2, (0, 10, 0)), (4, (0, 12, 0)), (6, (0, 0, 0)), (7, (0, 0, 0))], [], [(4, 5, 1, (0, 11, 0))], [(12, 1, 0, 4, 0)], (0, []), none)
set_option maxRecDepth 100000 in
def znl238 : List zNd := [zn238_0]
set_option maxRecDepth 100000 in
theorem zk238_0 : z_ck0 zT1 (z_cnt zL2) 20000 [58] zm24 zc238 znl238 = true := by decide +kernel
set_option maxRecDepth 100000 in
theorem zk238_1 : z_ckn zT1 (z_cnt zL2) 20000 [58] zm24 zc238 znl238 [zn238_0] = true := by decide +kernel
set_option maxRecDepth 100000 in
theorem zk238 : z_cok zT1 (z_cnt zL2) 20000 [58] zm24 zc238 znl238 = true := z_cok_of zk238_0 (zk238_1)
set_option maxRecDepth 100000 in
theorem zk239 : z_cok zT1 (z_cnt zL2) 20000 [] zm27 zc239 [] = true := by decide +kernel
set_option maxRecDepth 100000 in
def zn240_0 : zNd := (8, (z_li [(0, 0), ((-2147483648), 2147483647), ((-2147483648), 2147483647), ((-2147483648), 2147483647), ((-2147483648), 2147483647), ((-2147483648), 2147483647), ((-2147483648), 2147483647), ((-2147483648), 2147483647), ((-2147483648), 2147483647), ((-2147483648), 2147483647), (0, 0), (0, 30), (0, 14)] (false, [], [], [])), [(0, (2, 44, 0)), (3, (0, 12, 0))], [], [], [(12, 1, 0, 3, 0)], (14, [(12, (-1))]), none)
set_option maxRecDepth 100000 in
def znl240 : List zNd := [zn240_0]
set_option maxRecDepth 100000 in
theorem zk240_0 : z_ck0 zT1 (z_cnt zL2) 20000 [8] zm34 zc240 znl240 = true := by decide +kernel
set_option maxRecDepth 100000 in
theorem zk240_1 : z_ckn zT1 (z_cnt zL2) 20000 [8] zm34 zc240 znl240 [zn240_0] = true := by decide +kernel
set_option maxRecDepth 100000 in
theorem zk240 : z_cok zT1 (z_cnt zL2) 20000 [8] zm34 zc240 znl240 = true := z_cok_of zk240_0 (zk240_1)
set_option maxRecDepth 100000 in
def zn241_0 : zNd := (8, (z_li [(0, 0), ((-2147483648), 2147483647), ((-2147483648), 2147483647), ((-2147483648), 2147483647), ((-2147483648), 2147483647), ((-2147483648), 2147483647), ((-2147483648), 2147483647), ((-2147483648), 2147483647), ((-2147483648), 2147483647), ((-2147483648), 2147483647), (1, 1), (0, 30), (0, 14)] (false, [], [], [])), [(0, (2, 47, 0)), (3, (0, 12, 0))], [], [], [(12, 1, 0, 3, 0)], (14, [(12, (-1))]), none)
set_option maxRecDepth 100000 in
def znl241 : List zNd := [zn241_0]
set_option maxRecDepth 100000 in
theorem zk241_0 : z_ck0 zT1 (z_cnt zL2) 20000 [8] zm34 zc241 znl241 = true := by decide +kernel
set_option maxRecDepth 100000 in
theorem zk241_1 : z_ckn zT1 (z_cnt zL2) 20000 [8] zm34 zc241 znl241 [zn241_0] = true := by decide +kernel
set_option maxRecDepth 100000 in
theorem zk241 : z_cok zT1 (z_cnt zL2) 20000 [8] zm34 zc241 znl241 = true := z_cok_of zk241_0 (zk241_1)
set_option maxRecDepth 100000 in
def zn242_0 : zNd := (8, (z_li [(0, 0), ((-2147483648), 2147483647), ((-2147483648), 2147483647), ((-2147483648), 2147483647), ((-2147483648), 2147483647), ((-2147483648), 2147483647), ((-2147483648), 2147483647), ((-2147483648), 2147483647), ((-2147483648), 2147483647), ((-2147483648), 2147483647), (2, 2), (0, 30), (0, 14)] (false, [], [], [])), [(0, (2, 50, 0)), (3, (0, 12, 0))], [], [], [(12, 1, 0, 3, 0)], (14, [(12, (-1))]), none)
set_option maxRecDepth 100000 in
def znl242 : List zNd := [zn242_0]
set_option maxRecDepth 100000 in
theorem zk242_0 : z_ck0 zT1 (z_cnt zL2) 20000 [8] zm34 zc242 znl242 = true := by decide +kernel
set_option maxRecDepth 100000 in
theorem zk242_1 : z_ckn zT1 (z_cnt zL2) 20000 [8] zm34 zc242 znl242 [zn242_0] = true := by decide +kernel
set_option maxRecDepth 100000 in
theorem zk242 : z_cok zT1 (z_cnt zL2) 20000 [8] zm34 zc242 znl242 = true := z_cok_of zk242_0 (zk242_1)
set_option maxRecDepth 100000 in
def zn243_0 : zNd := (8, (z_li [(0, 0), ((-2147483648), 2147483647), ((-2147483648), 2147483647), ((-2147483648), 2147483647), ((-2147483648), 2147483647), ((-2147483648), 2147483647), ((-2147483648), 2147483647), ((-2147483648), 2147483647), ((-2147483648), 2147483647), ((-2147483648), 2147483647), (3, 3), (0, 30), (0, 14)] (false, [], [], [])), [(0, (2, 53, 0)), (3, (0, 12, 0))], [], [], [(12, 1, 0, 3, 0)], (14, [(12, (-1))]), none)
set_option maxRecDepth 100000 in
def znl243 : List zNd := [zn243_0]
set_option maxRecDepth 100000 in
theorem zk243_0 : z_ck0 zT1 (z_cnt zL2) 20000 [8] zm34 zc243 znl243 = true := by decide +kernel
set_option maxRecDepth 100000 in
theorem zk243_1 : z_ckn zT1 (z_cnt zL2) 20000 [8] zm34 zc243 znl243 [zn243_0] = true := by decide +kernel
set_option maxRecDepth 100000 in
theorem zk243 : z_cok zT1 (z_cnt zL2) 20000 [8] zm34 zc243 znl243 = true := z_cok_of zk243_0 (zk243_1)
set_option maxRecDepth 100000 in
def zn244_0 : zNd := (8, (z_li [(0, 0), ((-2147483648), 2147483647), ((-2147483648), 2147483647), ((-2147483648), 2147483647), ((-2147483648), 2147483647), ((-2147483648), 2147483647), ((-2147483648), 2147483647), ((-2147483648), 2147483647), ((-2147483648), 2147483647), ((-2147483648), 2147483647), (4, 4), (0, 30), (0, 14)] (false, [], [], [])), [(0, (2, 56, 0)), (3, (0, 12, 0))], [], [], [(12, 1, 0, 3, 0)], (14, [(12, (-1))]), none)
set_option maxRecDepth 100000 in
def znl244 : List zNd := [zn244_0]
set_option maxRecDepth 100000 in
theorem zk244_0 : z_ck0 zT1 (z_cnt zL2) 20000 [8] zm34 zc244 znl244 = true := by decide +kernel
set_option maxRecDepth 100000 in
theorem zk244_1 : z_ckn zT1 (z_cnt zL2) 20000 [8] zm34 zc244 znl244 [zn244_0] = true := by decide +kernel
set_option maxRecDepth 100000 in
theorem zk244 : z_cok zT1 (z_cnt zL2) 20000 [8] zm34 zc244 znl244 = true := z_cok_of zk244_0 (zk244_1)
set_option maxRecDepth 100000 in
def zn245_0 : zNd := (8, (z_li [(0, 0), ((-2147483648), 2147483647), ((-2147483648), 2147483647), ((-2147483648), 2147483647), ((-2147483648), 2147483647), ((-2147483648), 2147483647), ((-2147483648), 2147483647), ((-2147483648), 2147483647), ((-2147483648), 2147483647), ((-2147483648), 2147483647), (5, 5), (0, 30), (0, 14)] (false, [], [], [])), [(0, (2, 59, 0)), (3, (0, 12, 0))], [], [], [(12, 1, 0, 3, 0)], (14, [(12, (-1))]), none)
set_option maxRecDepth 100000 in
def znl245 : List zNd := [zn245_0]
set_option maxRecDepth 100000 in
theorem zk245_0 : z_ck0 zT1 (z_cnt zL2) 20000 [8] zm34 zc245 znl245 = true := by decide +kernel
set_option maxRecDepth 100000 in
theorem zk245_1 : z_ckn zT1 (z_cnt zL2) 20000 [8] zm34 zc245 znl245 [zn245_0] = true := by decide +kernel
set_option maxRecDepth 100000 in
theorem zk245 : z_cok zT1 (z_cnt zL2) 20000 [8] zm34 zc245 znl245 = true := z_cok_of zk245_0 (zk245_1)
set_option maxRecDepth 100000 in
def zn246_0 : zNd := (8, (z_li [(0, 0), ((-2147483648), 2147483647), ((-2147483648), 2147483647), ((-2147483648), 2147483647), ((-2147483648), 2147483647), ((-2147483648), 2147483647), ((-2147483648), 2147483647), ((-2147483648), 2147483647), ((-2147483648), 2147483647), ((-2147483648), 2147483647), (0, 5), (0, 30), (0, 14)] (false, [], [], [])), [(0, (2, 74, 0)), (3, (0, 12, 0))], [], [], [(12, 1, 0, 3, 0)], (14, [(12, (-1))]), none)
set_option maxRecDepth 100000 in
def znl246 : List zNd := [zn246_0]
set_option maxRecDepth 100000 in
theorem zk246_0 : z_ck0 zT1 (z_cnt zL2) 20000 [8] zm34 zc246 znl246 = true := by decide +kernel
set_option maxRecDepth 100000 in
theorem zk246_1 : z_ckn zT1 (z_cnt zL2) 20000 [8] zm34 zc246 znl246 [zn246_0] = true := by decide +kernel
set_option maxRecDepth 100000 in
theorem zk246 : z_cok zT1 (z_cnt zL2) 20000 [8] zm34 zc246 znl246 = true := z_cok_of zk246_0 (zk246_1)
set_option maxRecDepth 100000 in
theorem zk247 : z_cok zT1 (z_cnt zL2) 20000 [] zm53 zc247 [] = true := by decide +kernel
set_option maxRecDepth 100000 in
theorem zk248 : z_cok zT1 (z_cnt zL2) 20000 [] zm53 zc248 [] = true := by decide +kernel
set_option maxRecDepth 100000 in
theorem zk249 : z_cok zT1 (z_cnt zL2) 20000 [] zm53 zc249 [] = true := by decide +kernel
set_option maxRecDepth 100000 in
theorem zk250 : z_cok zT1 (z_cnt zL2) 20000 [] zm53 zc250 [] = true := by decide +kernel
set_option maxRecDepth 100000 in
theorem zk251 : z_cok zT1 (z_cnt zL2) 20000 [] zm53 zc251 [] = true := by decide +kernel
set_option maxRecDepth 100000 in
theorem zk252 : z_cok zT1 (z_cnt zL2) 20000 [] zm53 zc252 [] = true := by decide +kernel
set_option maxRecDepth 100000 in
theorem zk253 : z_cok zT1 (z_cnt zL2) 20000 [] zm53 zc253 [] = true := by decide +kernel
set_option maxRecDepth 100000 in
theorem zk254 : z_cok zT1 (z_cnt zL2) 20000 [] zm53 zc254 [] = true := by decide +kernel
set_option maxRecDepth 100000 in
theorem zk255 : z_cok zT1 (z_cnt zL2) 20000 [] zm57 zc255 [] = true := by decide +kernel
set_option maxRecDepth 100000 in
theorem zk256 : z_cok zT1 (z_cnt zL2) 20000 [] zm57 zc256 [] = true := by decide +kernel
set_option maxRecDepth 100000 in
theorem zk257 : z_cok zT1 (z_cnt zL2) 20000 [] zm57 zc257 [] = true := by decide +kernel
set_option maxRecDepth 100000 in
def zn258_0 : zNd := (56, (z_li [(0, 0), ((-2147483648), 2147483647), ((-2147483648), 2147483647), ((-2147483648), 2147483647), ((-2147483648), 2147483647), ((-2147483648), 2147483647), ((-2147483648), 2147483647), ((-2147483648), 2147483647), ((-2147483648), 2147483647), ((-2147483648), 2147483647), (0, 5), ((-2147483648), 2147483647), (1, 2147483647), (1, 9), ((-28), 715827883), ((-2147483648), 2147483647), ((-2147483648), 2147483647)] (true, [], [], [])), [(0, (2, 155, 0)), (1, (0, 10, 0)), (4, (0, 14, 0)), (5, (0, 15, 0)), (6, (0, 16, 0))], [], [(156, 3, 1, (0, 13, 0))], [(14, 1, 0, 4, 0), (15, 1, 0, 5, 0), (16, 1, 0, 6, 0)], (28, [(14, 1)]), none)
set_option maxRecDepth 100000 in
def znl258 : List zNd := [zn258_0]
set_option maxRecDepth 100000 in
theorem zk258_0 : z_ck0 zT1 (z_cnt zL2) 20000 [56] zm85 zc258 znl258 = true := by decide +kernel
set_option maxRecDepth 100000 in
theorem zk258_1 : z_ckn zT1 (z_cnt zL2) 20000 [56] zm85 zc258 znl258 [zn258_0] = true := by decide +kernel
set_option maxRecDepth 100000 in
theorem zk258 : z_cok zT1 (z_cnt zL2) 20000 [56] zm85 zc258 znl258 = true := z_cok_of zk258_0 (zk258_1)
set_option maxRecDepth 100000 in
def zn259_0 : zNd := (16, (z_li [(0, 0), ((-2147483648), 2147483647), ((-2147483648), 2147483647), ((-2147483648), 2147483647), ((-2147483648), 2147483647), ((-2147483648), 2147483647), ((-2147483648), 2147483647), ((-2147483648), 2147483647), ((-2147483648), 2147483647), ((-2147483648), 2147483647), (0, 5), (0, 14)] (false, [], [], [])), [(0, (2, 74, 0)), (2, (0, 11, 0))], [], [], [(11, 1, 0, 2, 0)], (14, [(11, (-1))]), none)
set_option maxRecDepth 100000 in
def znl259 : List zNd := [zn259_0]
set_option maxRecDepth 100000 in
theorem zk259_0 : z_ck0 zT1 (z_cnt zL2) 20000 [16] zm132 zc259 znl259 = true := by decide +kernel
set_option maxRecDepth 100000 in
theorem zk259_1 : z_ckn zT1 (z_cnt zL2) 20000 [16] zm132 zc259 znl259 [zn259_0] = true := by decide +kernel
set_option maxRecDepth 100000 in
theorem zk259 : z_cok zT1 (z_cnt zL2) 20000 [16] zm132 zc259 znl259 = true := z_cok_of zk259_0 (zk259_1)
set_option maxRecDepth 100000 in
def zn260_0 : zNd := (12, (z_li [(0, 0), ((-2147483648), 2147483647), ((-2147483648), 2147483647), ((-2147483648), 2147483647), ((-2147483648), 2147483647), ((-2147483648), 2147483647), ((-2147483648), 2147483647), ((-2147483648), 2147483647), ((-2147483648), 2147483647), ((-2147483648), 2147483647), (0, 13), (0, 14)] (false, [], [], [])), [(0, (2, 74, 0)), (2, (0, 11, 0))], [], [], [(11, 1, 0, 2, 0)], (14, [(11, (-1))]), none)
set_option maxRecDepth 100000 in
def znl260 : List zNd := [zn260_0]
set_option maxRecDepth 100000 in
theorem zk260_0 : z_ck0 zT1 (z_cnt zL2) 20000 [12] zm136 zc260 znl260 = true := by decide +kernel
set_option maxRecDepth 100000 in
theorem zk260_1 : z_ckn zT1 (z_cnt zL2) 20000 [12] zm136 zc260 znl260 [zn260_0] = true := by decide +kernel
set_option maxRecDepth 100000 in
theorem zk260 : z_cok zT1 (z_cnt zL2) 20000 [12] zm136 zc260 znl260 = true := z_cok_of zk260_0 (zk260_1)
set_option maxRecDepth 100000 in
def zn265_0 : zNd := (15, (z_li [(0, 0), ((-2147483648), 2147483647), ((-2147483648), 2147483647), ((-2147483648), 2147483647), ((-2147483648), 2147483647), ((-2147483648), 2147483647), ((-2147483648), 2147483647), ((-2147483648), 2147483647), ((-2147483648), 2147483647), ((-2147483648), 2147483647), (0, 15)] (false, [], [], [])), [(0, (2, 77, 0)), (1, (0, 10, 0))], [], [], [(10, 1, 0, 1, 0)], (15, [(10, (-1))]), none)
set_option maxRecDepth 100000 in
def znl265 : List zNd := [zn265_0]
set_option maxRecDepth 100000 in
theorem zk265_0 : z_ck0 zT1 (z_cnt zL2) 20000 [15] zm160 zc265 znl265 = true := by decide +kernel
set_option maxRecDepth 100000 in
theorem zk265_1 : z_ckn zT1 (z_cnt zL2) 20000 [15] zm160 zc265 znl265 [zn265_0] = true := by decide +kernel
set_option maxRecDepth 100000 in
theorem zk265 : z_cok zT1 (z_cnt zL2) 20000 [15] zm160 zc265 znl265 = true := z_cok_of zk265_0 (zk265_1)
set_option maxRecDepth 100000 in
theorem zk266 : z_cok zT1 (z_cnt zL2) 20000 [] zm250 zc266 [] = true := by decide +kernel
set_option maxRecDepth 100000 in
def zn267_0 : zNd := (18, (z_li [(0, 0), ((-2147483648), 2147483647), ((-2147483648), 2147483647), ((-2147483648), 2147483647), ((-2147483648), 2147483647), ((-2147483648), 2147483647), ((-2147483648), 2147483647), ((-2147483648), 2147483647), ((-2147483648), 2147483647), ((-2147483648), 2147483647), (0, 14), ((-1), 5), (0, 63), (0, 6)] (false, [], [], [])), [(0, (2, 0, 0)), (1, (0, 10, 0)), (2, (0, 11, 0)), (3, (0, 12, 0)), (4, (0, 13, 0))], [], [], [(11, 1, 0, 2, 0), (12, 1, 0, 3, 0), (13, 1, 0, 4, 0)], (6, [(13, (-1))]), none)
set_option maxRecDepth 100000 in
def znl267 : List zNd := [zn267_0]
set_option maxRecDepth 100000 in
theorem zk267_0 : z_ck0 zT1 (z_cnt zL2) 20000 [18] zm254 zc267 znl267 = true := by decide +kernel
set_option maxRecDepth 100000 in
theorem zk267_1 : z_ckn zT1 (z_cnt zL2) 20000 [18] zm254 zc267 znl267 [zn267_0] = true := by decide +kernel
set_option maxRecDepth 100000 in
theorem zk267 : z_cok zT1 (z_cnt zL2) 20000 [18] zm254 zc267 znl267 = true := z_cok_of zk267_0 (zk267_1)
set_option maxRecDepth 100000 in
def zn268_0 : zNd := (18, (z_li [(0, 0), ((-2147483648), 2147483647), ((-2147483648), 2147483647), ((-2147483648), 2147483647), ((-2147483648), 2147483647), ((-2147483648), 2147483647), ((-2147483648), 2147483647), ((-2147483648), 2147483647), ((-2147483648), 2147483647), ((-2147483648), 2147483647), (0, 5), ((-1), 5), (0, 2147483647), (0, 6)] (false, [], [], [])), [(0, (2, 0, 0)), (1, (0, 10, 0)), (2, (0, 11, 0)), (3, (0, 12, 0)), (4, (0, 13, 0))], [], [], [(11, 1, 0, 2, 0), (12, 1, 0, 3, 0), (13, 1, 0, 4, 0)], (6, [(13, (-1))]), none)
set_option maxRecDepth 100000 in
def znl268 : List zNd := [zn268_0]
set_option maxRecDepth 100000 in
theorem zk268_0 : z_ck0 zT1 (z_cnt zL2) 20000 [18] zm270 zc268 znl268 = true := by decide +kernel
set_option maxRecDepth 100000 in
theorem zk268_1 : z_ckn zT1 (z_cnt zL2) 20000 [18] zm270 zc268 znl268 [zn268_0] = true := by decide +kernel
set_option maxRecDepth 100000 in
theorem zk268 : z_cok zT1 (z_cnt zL2) 20000 [18] zm270 zc268 znl268 = true := z_cok_of zk268_0 (zk268_1)
set_option maxRecDepth 100000 in
def zn269_0 : zNd := (17, (z_li [(0, 0), ((-2147483648), 2147483647), ((-2147483648), 2147483647), ((-2147483648), 2147483647), ((-2147483648), 2147483647), ((-2147483648), 2147483647), ((-2147483648), 2147483647), ((-2147483648), 2147483647), ((-2147483648), 2147483647), ((-2147483648), 2147483647), ((-2147483648), 2147483647), (0, 100)] (false, [], [], [])), [(0, (2, 0, 0)), (1, (0, 10, 0)), (2, (0, 11, 0))], [], [], [(10, 1, 0, 1, 0), (11, 1, 0, 2, 0)], (100, [(11, (-1))]), none)
set_option maxRecDepth 100000 in
def znl269 : List zNd := [zn269_0]
set_option maxRecDepth 100000 in
theorem zk269_0 : z_ck0 zT1 (z_cnt zL2) 20000 [17] zm288 zc269 znl269 = true := by decide +kernel
set_option maxRecDepth 100000 in
theorem zk269_1 : z_ckn zT1 (z_cnt zL2) 20000 [17] zm288 zc269 znl269 [zn269_0] = true := by decide +kernel
set_option maxRecDepth 100000 in
theorem zk269 : z_cok zT1 (z_cnt zL2) 20000 [17] zm288 zc269 znl269 = true := z_cok_of zk269_0 (zk269_1)
set_option maxRecDepth 100000 in
theorem zk270 : z_cok zT1 (z_cnt zL3) 20000 [] zm23 zc270 [] = true := by decide +kernel
set_option maxRecDepth 100000 in
theorem zk271 : z_cok zT1 (z_cnt zL3) 20000 [] zm25 zc271 [] = true := by decide +kernel
set_option maxRecDepth 100000 in
theorem zk272 : z_cok zT1 (z_cnt zL3) 20000 [] zm26 zc272 [] = true := by decide +kernel
set_option maxRecDepth 100000 in
def zn273_0 : zNd := (20, (z_li [(0, 0), ((-2147483648), 2147483647), ((-2147483648), 2147483647), ((-2147483648), 2147483647), ((-2147483648), 2147483647), ((-2147483648), 2147483647), ((-2147483648), 2147483647), ((-2147483648), 2147483647), ((-2147483648), 2147483647), ((-2147483648), 2147483647), (0, 6)] (false, [], [], [])), [(0, (2, 0, 0)), (1, (0, 10, 0))], [], [], [(10, 1, 0, 1, 0)], (6, [(10, (-1))]), none)
set_option maxRecDepth 100000 in
def znl273 : List zNd := [zn273_0]
set_option maxRecDepth 100000 in
theorem zk273_0 : z_ck0 zT1 (z_cnt zL3) 20000 [20] zm30 zc273 znl273 = true := by decide +kernel
set_option maxRecDepth 100000 in
theorem zk273_1 : z_ckn zT1 (z_cnt zL3) 20000 [20] zm30 zc273 znl273 [zn273_0] = true := by decide +kernel
set_option maxRecDepth 100000 in
theorem zk273 : z_cok zT1 (z_cnt zL3) 20000 [20] zm30 zc273 znl273 = true := z_cok_of zk273_0 (zk273_1)
set_option maxRecDepth 100000 in
def zn274_0 : zNd := (35, (z_li [(0, 0), ((-2147483648), 2147483647), ((-2147483648), 2147483647), ((-2147483648), 2147483647), ((-2147483648), 2147483647), ((-2147483648), 2147483647), ((-2147483648), 2147483647), ((-2147483648), 2147483647), ((-2147483648), 2147483647), ((-2147483648), 2147483647), (0, 0), (5, 700), (1, 1), (0, 700), (0, 9), (5, 700), (0, 4)] (true, [(0, [(15, 1), (11, (-1))])], [], [])), [(0, (2, 155, 0))], [], [(155, 7, 1, (0, 13, 0)), (155, 8, 1, (0, 15, 0)), (155, 10, 1, (0, 16, 0)), (155, 12, 1, (0, 10, 0)), (161, 3, 1, (0, 14, 0))], [(15, 1, 2, 155, 8), (16, 1, 2, 155, 10)], (2, []), none)
set_option maxRecDepth 100000 in
def zn274_1 : zNd := (35, (z_li [(0, 0), ((-2147483648), 2147483647), ((-2147483648), 2147483647), ((-2147483648), 2147483647), ((-2147483648), 2147483647), ((-2147483648), 2147483647), ((-2147483648), 2147483647), ((-2147483648), 2147483647), ((-2147483648), 2147483647), ((-2147483648), 2147483647), (0, 0), (0, 700), (1, 4), (0, 700), (0, 9), (0, 700), (0, 4), (1, 2)] (true, [(0, [(15, 1), (11, (-1))])], [], [])), [(0, (2, 155, 0))], [], [(155, 7, 1, (0, 13, 0)), (155, 8, 1, (0, 15, 0)), (155, 10, 1, (0, 16, 0)), (155, 12, 1, (0, 17, 0)), (161, 1, 1, (0, 0, 0)), (161, 3, 1, (0, 14, 0))], [(15, 1, 2, 155, 8), (16, 1, 2, 155, 10), (17, 1, 2, 155, 12)], (3, []), none)
set_option maxRecDepth 100000 in
def zn274_2 : zNd := (65, (z_li [(0, 0), ((-2147483648), 2147483647), ((-2147483648), 2147483647), ((-2147483648), 2147483647), ((-2147483648), 2147483647), ((-2147483648), 2147483647), ((-2147483648), 2147483647), ((-2147483648), 2147483647), ((-2147483648), 2147483647), ((-2147483648), 2147483647), (0, 0), (5, 700), (1, 1), (0, 700), (0, 9), (5, 700), (0, 4), (2, 9)] (true, [(0, [(15, 1), (11, (-1))])], [], [])), [(0, (2, 155, 0))], [], [(155, 7, 1, (0, 13, 0)), (155, 8, 1, (0, 15, 0)), (155, 10, 1, (0, 16, 0)), (155, 12, 1, (0, 10, 0)), (161, 3, 1, (0, 17, 0))], [(15, 1, 2, 155, 8), (16, 1, 2, 155, 10), (17, 1, 2, 161, 3)], (0, []), none)
set_option maxRecDepth 100000 in
def zn274_3 : zNd := (65, (z_li [(0, 0), ((-2147483648), 2147483647), ((-2147483648), 2147483647), ((-2147483648), 2147483647), ((-2147483648), 2147483647), ((-2147483648), 2147483647), ((-2147483648), 2147483647), ((-2147483648), 2147483647), ((-2147483648), 2147483647), ((-2147483648), 2147483647), (0, 0), (0, 700), (1, 4), (0, 700), (0, 9), (0, 700), (0, 4), (1, 2)] (true, [(0, [(15, 1), (11, (-1))])], [], [])), [(0, (2, 155, 0))], [], [(155, 7, 1, (0, 13, 0)), (155, 8, 1, (0, 15, 0)), (155, 10, 1, (0, 16, 0)), (155, 12, 1, (0, 17, 0)), (161, 3, 1, (0, 0, 0))], [(15, 1, 2, 155, 8), (16, 1, 2, 155, 10), (17, 1, 2, 155, 12)], (1, []), none)
set_option maxRecDepth 100000 in
def znl274 : List zNd := [zn274_0, zn274_1, zn274_2, zn274_3]
set_option maxRecDepth 100000 in
theorem zk274_0 : z_ck0 zT1 (z_cnt zL3) 20000 [35, 65] zm48 zc274 znl274 = true := by decide +kernel
set_option maxRecDepth 100000 in
theorem zk274_1 : z_ckn zT1 (z_cnt zL3) 20000 [35, 65] zm48 zc274 znl274 [zn274_0, zn274_1, zn274_2, zn274_3] = true := by decide +kernel
set_option maxRecDepth 100000 in
theorem zk274 : z_cok zT1 (z_cnt zL3) 20000 [35, 65] zm48 zc274 znl274 = true := z_cok_of zk274_0 (zk274_1)
set_option maxRecDepth 100000 in
theorem zk275 : z_cok zT1 (z_cnt zL3) 20000 [] zm59 zc275 [] = true := by decide +kernel
set_option maxRecDepth 100000 in
theorem zk276 : z_cok zT1 (z_cnt zL3) 20000 [] zm60 zc276 [] = true := by decide +kernel
set_option maxRecDepth 100000 in
def zn277_0 : zNd := (3, (z_li [(0, 0), ((-2147483648), 2147483647), ((-2147483648), 2147483647), ((-2147483648), 2147483647), ((-2147483648), 2147483647), ((-2147483648), 2147483647), ((-2147483648), 2147483647), ((-2147483648), 2147483647), ((-2147483648), 2147483647), ((-2147483648), 2147483647), (0, 13), ((-2147483648), 2147483647), ((-2147483648), 2147483647), ((-1), 8), (0, 9), (0, 6), (0, 6)] (true, [(0, [(14, 3), (15, (-1))])], [], [])), [(0, (2, 155, 0)), (1, (0, 10, 0)), (2, (0, 11, 0)), (3, (0, 12, 0)), (4, (0, 13, 0)), (5, (0, 16, 0))], [], [(156, 3, 1, (0, 14, 0)), (156, 7, 1, (0, 15, 0))], [(16, 1, 0, 5, 0)], (6, [(16, (-1))]), none)
set_option maxRecDepth 100000 in
def znl277 : List zNd := [zn277_0]
set_option maxRecDepth 100000 in
theorem zk277_0 : z_ck0 zT1 (z_cnt zL3) 20000 [3] zm84 zc277 znl277 = true := by decide +kernel
set_option maxRecDepth 100000 in
theorem zk277_1 : z_ckn zT1 (z_cnt zL3) 20000 [3] zm84 zc277 znl277 [zn277_0] = true := by decide +kernel
set_option maxRecDepth 100000 in
theorem zk277 : z_cok zT1 (z_cnt zL3) 20000 [3] zm84 zc277 znl277 = true := z_cok_of zk277_0 (zk277_1)
set_option maxRecDepth 100000 in
def zn278_0 : zNd := (4, (z_li [(0, 0), ((-2147483648), 2147483647), ((-2147483648), 2147483647), ((-2147483648), 2147483647), ((-2147483648), 2147483647), ((-2147483648), 2147483647), ((-2147483648), 2147483647), ((-2147483648), 2147483647), ((-2147483648), 2147483647), ((-2147483648), 2147483647), (0, 5), ((-1), 15), (0, 16)] (false, [], [], [])), [(0, (2, 70, 0)), (1, (0, 10, 0)), (2, (0, 11, 0)), (3, (0, 12, 0))], [], [], [(11, 1, 0, 2, 0), (12, 1, 0, 3, 0)], (16, [(12, (-1))]), none)
set_option maxRecDepth 100000 in
def znl278 : List zNd := [zn278_0]
set_option maxRecDepth 100000 in
theorem zk278_0 : z_ck0 zT1 (z_cnt zL3) 20000 [4] zm130 zc278 znl278 = true := by decide +kernel
set_option maxRecDepth 100000 in
theorem zk278_1 : z_ckn zT1 (z_cnt zL3) 20000 [4] zm130 zc278 znl278 [zn278_0] = true := by decide +kernel
set_option maxRecDepth 100000 in
theorem zk278 : z_cok zT1 (z_cnt zL3) 20000 [4] zm130 zc278 znl278 = true := z_cok_of zk278_0 (zk278_1)
set_option maxRecDepth 100000 in
def zn279_0 : zNd := (48, (z_li [(0, 0), ((-2147483648), 2147483647), ((-2147483648), 2147483647), ((-2147483648), 2147483647), ((-2147483648), 2147483647), ((-2147483648), 2147483647), ((-2147483648), 2147483647), ((-2147483648), 2147483647), ((-2147483648), 2147483647), ((-2147483648), 2147483647), (0, 5), (0, 5), (0, 13), (0, 3), (1, 40), (0, 30), (1, 59)] (false, [], [], [])), [(0, (2, 70, 0)), (2, (0, 11, 0)), (3, (0, 12, 0)), (5, (0, 14, 0)), (6, (0, 15, 0)), (7, (0, 16, 0))], [], [(71, 4, 1, (0, 12, 0)), (71, 5, 1, (0, 13, 0))], [(15, 1, 0, 6, 0), (16, 1, 0, 7, 0)], (59, [(16, (-1))]), none)
set_option maxRecDepth 100000 in
def znl279 : List zNd := [zn279_0]
set_option maxRecDepth 100000 in
theorem zk279_0 : z_ck0 zT1 (z_cnt zL3) 20000 [48] zm135 zc279 znl279 = true := by decide +kernel
set_option maxRecDepth 100000 in
theorem zk279_1 : z_ckn zT1 (z_cnt zL3) 20000 [48] zm135 zc279 znl279 [zn279_0] = true := by decide +kernel
set_option maxRecDepth 100000 in
theorem zk279 : z_cok zT1 (z_cnt zL3) 20000 [48] zm135 zc279 znl279 = true := z_cok_of zk279_0 (zk279_1)
set_option maxRecDepth 100000 in
def zn280_0 : zNd := (4, (z_li [(0, 0), ((-2147483648), 2147483647), ((-2147483648), 2147483647), ((-2147483648), 2147483647), ((-2147483648), 2147483647), ((-2147483648), 2147483647), ((-2147483648), 2147483647), ((-2147483648), 2147483647), ((-2147483648), 2147483647), ((-2147483648), 2147483647), (0, 63), (0, 6)] (false, [], [], [])), [(0, (2, 70, 0)), (1, (0, 10, 0)), (2, (0, 11, 0))], [], [], [(10, 1, 0, 1, 0), (11, 1, 0, 2, 0)], (6, [(11, (-1))]), none)
set_option maxRecDepth 100000 in
def znl280 : List zNd := [zn280_0]
set_option maxRecDepth 100000 in
theorem zk280_0 : z_ck0 zT1 (z_cnt zL3) 20000 [4] zm140 zc280 znl280 = true := by decide +kernel
set_option maxRecDepth 100000 in
theorem zk280_1 : z_ckn zT1 (z_cnt zL3) 20000 [4] zm140 zc280 znl280 [zn280_0] = true := by decide +kernel
set_option maxRecDepth 100000 in
theorem zk280 : z_cok zT1 (z_cnt zL3) 20000 [4] zm140 zc280 znl280 = true := z_cok_of zk280_0 (zk280_1)
set_option maxRecDepth 100000 in
def zn281_0 : zNd := (26, (z_li [(0, 0), ((-2147483648), 2147483647), ((-2147483648), 2147483647), ((-2147483648), 2147483647), ((-2147483648), 2147483647), ((-2147483648), 2147483647), ((-2147483648), 2147483647), ((-2147483648), 2147483647), ((-2147483648), 2147483647), ((-2147483648), 2147483647), (0, 3), (0, 5), (0, 31)] (false, [], [], [])), [(0, (2, 77, 0)), (1, (0, 10, 0)), (2, (0, 11, 0)), (4, (0, 12, 0))], [], [], [(12, 1, 0, 4, 0)], (31, [(12, (-1))]), none)
set_option maxRecDepth 100000 in
def znl281 : List zNd := [zn281_0]
set_option maxRecDepth 100000 in
theorem zk281_0 : z_ck0 zT1 (z_cnt zL3) 20000 [26] zm144 zc281 znl281 = true := by decide +kernel
set_option maxRecDepth 100000 in
theorem zk281_1 : z_ckn zT1 (z_cnt zL3) 20000 [26] zm144 zc281 znl281 [zn281_0] = true := by decide +kernel
set_option maxRecDepth 100000 in
theorem zk281 : z_cok zT1 (z_cnt zL3) 20000 [26] zm144 zc281 znl281 = true := z_cok_of zk281_0 (zk281_1)
set_option maxRecDepth 100000 in
def zn282_0 : zNd := (15, (z_li [(0, 0), ((-2147483648), 2147483647), ((-2147483648), 2147483647), ((-2147483648), 2147483647), ((-2147483648), 2147483647), ((-2147483648), 2147483647), ((-2147483648), 2147483647), ((-2147483648), 2147483647), ((-2147483648), 2147483647), ((-2147483648), 2147483647), (0, 3), (0, 5), (0, 15), (0, 4)] (false, [], [], [])), [(0, (2, 77, 0)), (1, (0, 10, 0)), (2, (0, 11, 0)), (3, (0, 12, 0)), (4, (0, 13, 0))], [], [], [(12, 1, 0, 3, 0), (13, 1, 0, 4, 0)], (4, [(13, (-1))]), none)
set_option maxRecDepth 100000 in
def znl282 : List zNd := [zn282_0]
set_option maxRecDepth 100000 in
theorem zk282_0 : z_ck0 zT1 (z_cnt zL3) 20000 [15] zm165 zc282 znl282 = true := by decide +kernel
set_option maxRecDepth 100000 in
theorem zk282_1 : z_ckn zT1 (z_cnt zL3) 20000 [15] zm165 zc282 znl282 [zn282_0] = true := by decide +kernel
set_option maxRecDepth 100000 in
theorem zk282 : z_cok zT1 (z_cnt zL3) 20000 [15] zm165 zc282 znl282 = true := z_cok_of zk282_0 (zk282_1)
set_option maxRecDepth 100000 in
def zn283_0 : zNd := (19, (z_li [(0, 0), ((-2147483648), 2147483647), ((-2147483648), 2147483647), ((-2147483648), 2147483647), ((-2147483648), 2147483647), ((-2147483648), 2147483647), ((-2147483648), 2147483647), ((-2147483648), 2147483647), ((-2147483648), 2147483647), ((-2147483648), 2147483647), (0, 3), ((-2147483648), 2147483647), (0, 6)] (false, [], [], [])), [(0, (2, 70, 0)), (2, (0, 11, 0)), (3, (0, 12, 0))], [], [(71, 2, 1, (0, 10, 0))], [(11, 1, 0, 2, 0), (12, 1, 0, 3, 0)], (6, [(12, (-1))]), none)
set_option maxRecDepth 100000 in
def znl283 : List zNd := [zn283_0]
set_option maxRecDepth 100000 in
theorem zk283_0 : z_ck0 zT1 (z_cnt zL3) 20000 [19] zm169 zc283 znl283 = true := by decide +kernel
set_option maxRecDepth 100000 in
theorem zk283_1 : z_ckn zT1 (z_cnt zL3) 20000 [19] zm169 zc283 znl283 [zn283_0] = true := by decide +kernel
set_option maxRecDepth 100000 in
theorem zk283 : z_cok zT1 (z_cnt zL3) 20000 [19] zm169 zc283 znl283 = true := z_cok_of zk283_0 (zk283_1)
set_option maxRecDepth 100000 in
def zn284_0 : zNd := (9, (z_li [(0, 0), ((-2147483648), 2147483647), ((-2147483648), 2147483647), ((-2147483648), 2147483647), ((-2147483648), 2147483647), ((-2147483648), 2147483647), ((-2147483648), 2147483647), ((-2147483648), 2147483647), ((-2147483648), 2147483647), ((-2147483648), 2147483647), (0, 255), (0, 8)] (false, [], [], [])), [(0, (2, 70, 0)), (1, (0, 10, 0)), (2, (0, 11, 0))], [], [], [(11, 1, 0, 2, 0)], (15, [(11, (-1))]), none)
set_option maxRecDepth 100000 in
def zn284_1 : zNd := (54, (z_li [(0, 0), ((-2147483648), 2147483647), ((-2147483648), 2147483647), ((-2147483648), 2147483647), ((-2147483648), 2147483647), ((-2147483648), 2147483647), ((-2147483648), 2147483647), ((-2147483648), 2147483647), ((-2147483648), 2147483647), ((-2147483648), 2147483647), (0, 255), ((-2147483648), 2147483647), (0, 6)] (false, [], [], [])), [(0, (2, 70, 0)), (2, (0, 11, 0)), (3, (0, 12, 0))], [], [], [(11, 1, 0, 2, 0), (12, 1, 0, 3, 0)], (6, [(12, (-1))]), none)
set_option maxRecDepth 100000 in
def znl284 : List zNd := [zn284_0, zn284_1]
set_option maxRecDepth 100000 in
theorem zk284_0 : z_ck0 zT1 (z_cnt zL3) 20000 [9, 54] zm171 zc284 znl284 = true := by decide +kernel
set_option maxRecDepth 100000 in
theorem zk284_1 : z_ckn zT1 (z_cnt zL3) 20000 [9, 54] zm171 zc284 znl284 [zn284_0, zn284_1] = true := by decide +kernel
set_option maxRecDepth 100000 in
theorem zk284 : z_cok zT1 (z_cnt zL3) 20000 [9, 54] zm171 zc284 znl284 = true := z_cok_of zk284_0 (zk284_1)
set_option maxRecDepth 100000 in
def zn285_0 : zNd := (66, (z_li [(0, 0), ((-2147483648), 2147483647), ((-2147483648), 2147483647), ((-2147483648), 2147483647), ((-2147483648), 2147483647), ((-2147483648), 2147483647), ((-2147483648), 2147483647), ((-2147483648), 2147483647), ((-2147483648), 2147483647), ((-2147483648), 2147483647), (0, 5), (0, 5), ((-2147483648), 2147483647), ((-2147483648), 2147483647), ((-2147483648), 2147483647), (0, 6)] (false, [], [], [])), [(0, (2, 70, 0)), (1, (0, 10, 0)), (5, (0, 14, 0)), (6, (0, 15, 0))], [], [], [(14, 1, 0, 5, 0), (15, 1, 0, 6, 0)], (6, [(15, (-1))]), none)
set_option maxRecDepth 100000 in
def znl285 : List zNd := [zn285_0]
set_option maxRecDepth 100000 in
theorem zk285_0 : z_ck0 zT1 (z_cnt zL3) 20000 [66] zm185 zc285 znl285 = true := by decide +kernel
set_option maxRecDepth 100000 in
theorem zk285_1 : z_ckn zT1 (z_cnt zL3) 20000 [66] zm185 zc285 znl285 [zn285_0] = true := by decide +kernel
set_option maxRecDepth 100000 in
theorem zk285 : z_cok zT1 (z_cnt zL3) 20000 [66] zm185 zc285 znl285 = true := z_cok_of zk285_0 (zk285_1)
set_option maxRecDepth 100000 in
def zn286_0 : zNd := (12, (z_li [(0, 0), ((-2147483648), 2147483647), ((-2147483648), 2147483647), ((-2147483648), 2147483647), ((-2147483648), 2147483647), ((-2147483648), 2147483647), ((-2147483648), 2147483647), ((-2147483648), 2147483647), ((-2147483648), 2147483647), ((-2147483648), 2147483647), (0, 5), (0, 1), ((-9223372036854775808), 9223372036854775807), (0, 512)] (false, [], [], [])), [(0, (2, 70, 0)), (1, (0, 10, 0)), (2, (0, 11, 0)), (3, (1, 12, 0)), (5, (0, 13, 0))], [], [], [(12, 1, 0, 3, 0), (13, 1, 0, 5, 0)], (512, [(13, (-1))]), none)
set_option maxRecDepth 100000 in
def znl286 : List zNd := [zn286_0]
set_option maxRecDepth 100000 in
theorem zk286_0 : z_ck0 zT1 (z_cnt zL3) 20000 [12] zm188 zc286 znl286 = true := by decide +kernel
set_option maxRecDepth 100000 in
theorem zk286_1 : z_ckn zT1 (z_cnt zL3) 20000 [12] zm188 zc286 znl286 [zn286_0] = true := by decide +kernel
set_option maxRecDepth 100000 in
theorem zk286 : z_cok zT1 (z_cnt zL3) 20000 [12] zm188 zc286 znl286 = true := z_cok_of zk286_0 (zk286_1)
set_option maxRecDepth 100000 in
def zn287_0 : zNd := (12, (z_li [(0, 0), ((-2147483648), 2147483647), ((-2147483648), 2147483647), ((-2147483648), 2147483647), ((-2147483648), 2147483647), ((-2147483648), 2147483647), ((-2147483648), 2147483647), ((-2147483648), 2147483647), ((-2147483648), 2147483647), ((-2147483648), 2147483647), (0, 5), (0, 1), ((-9223372036854775808), 9223372036854775807), (0, 512)] (false, [], [], [])), [(0, (2, 70, 0)), (1, (0, 10, 0)), (2, (0, 11, 0)), (3, (1, 12, 0)), (5, (0, 13, 0))], [], [], [(12, 1, 0, 3, 0), (13, 1, 0, 5, 0)], (512, [(13, (-1))]), none)
set_option maxRecDepth 100000 in
def znl287 : List zNd := [zn287_0]
set_option maxRecDepth 100000 in
theorem zk287_0 : z_ck0 zT1 (z_cnt zL3) 20000 [12] zm192 zc287 znl287 = true := by decide +kernel
set_option maxRecDepth 100000 in
theorem zk287_1 : z_ckn zT1 (z_cnt zL3) 20000 [12] zm192 zc287 znl287 [zn287_0] = true := by decide +kernel
set_option maxRecDepth 100000 in
theorem zk287 : z_cok zT1 (z_cnt zL3) 20000 [12] zm192 zc287 znl287 = true := z_cok_of zk287_0 (zk287_1)
set_option maxRecDepth 100000 in
def zn288_0 : zNd := (4, (z_li [(0, 0), ((-2147483648), 2147483647), ((-2147483648), 2147483647), ((-2147483648), 2147483647), ((-2147483648), 2147483647), ((-2147483648), 2147483647), ((-2147483648), 2147483647), ((-2147483648), 2147483647), ((-2147483648), 2147483647), ((-2147483648), 2147483647), (0, 511), (0, 63), (0, 6)] (false, [], [], [])), [(0, (2, 70, 0)), (1, (0, 10, 0)), (2, (0, 11, 0)), (3, (0, 12, 0))], [], [], [(11, 1, 0, 2, 0), (12, 1, 0, 3, 0)], (6, [(12, (-1))]), none)
set_option maxRecDepth 100000 in
def znl288 : List zNd := [zn288_0]
set_option maxRecDepth 100000 in
theorem zk288_0 : z_ck0 zT1 (z_cnt zL3) 20000 [4] zm197 zc288 znl288 = true := by decide +kernel
set_option maxRecDepth 100000 in
theorem zk288_1 : z_ckn zT1 (z_cnt zL3) 20000 [4] zm197 zc288 znl288 [zn288_0] = true := by decide +kernel
set_option maxRecDepth 100000 in
theorem zk288 : z_cok zT1 (z_cnt zL3) 20000 [4] zm197 zc288 znl288 = true := z_cok_of zk288_0 (zk288_1)
set_option maxRecDepth 100000 in
def zn289_0 : zNd := (35, (z_li [(0, 0), ((-2147483648), 2147483647), ((-2147483648), 2147483647), ((-2147483648), 2147483647), ((-2147483648), 2147483647), ((-2147483648), 2147483647), ((-2147483648), 2147483647), ((-2147483648), 2147483647), ((-2147483648), 2147483647), ((-2147483648), 2147483647), (0, 2000000000), (1, 20), (0, 5), ((-2147483648), 2147483647), (0, 20)] (false, [], [], [])), [(0, (2, 0, 0)), (1, (0, 10, 0)), (2, (0, 11, 0)), (3, (0, 12, 0)), (4, (0, 13, 0)), (5, (0, 14, 0))], [], [], [(13, 1, 0, 4, 0), (14, 1, 0, 5, 0)], (20, [(14, (-1))]), none)
set_option maxRecDepth 100000 in
def znl289 : List zNd := [zn289_0]
set_option maxRecDepth 100000 in
theorem zk289_0 : z_ck0 zT1 (z_cnt zL3) 20000 [35] zm340 zc289 znl289 = true := by decide +kernel
set_option maxRecDepth 100000 in
theorem zk289_1 : z_ckn zT1 (z_cnt zL3) 20000 [35] zm340 zc289 znl289 [zn289_0] = true := by decide +kernel
set_option maxRecDepth 100000 in
theorem zk289 : z_cok zT1 (z_cnt zL3) 20000 [35] zm340 zc289 znl289 = true := z_cok_of zk289_0 (zk289_1)
