set_option maxRecDepth 100000 in
def zn360_0 : zNd := (16, (z_li [(.ofNat 0, .ofNat 0), (.negSucc 2147483647, .ofNat 2147483647), (.negSucc 2147483647, .ofNat 2147483647), (.negSucc 2147483647, .ofNat 2147483647), (.negSucc 2147483647, .ofNat 2147483647), (.negSucc 2147483647, .ofNat 2147483647), (.negSucc 2147483647, .ofNat 2147483647), (.negSucc 2147483647, .ofNat 2147483647), (.negSucc 2147483647, .ofNat 2147483647), (.negSucc 2147483647, .ofNat 2147483647), (.ofNat 0, .ofNat 5), (.ofNat 0, .ofNat 5), (.negSucc 2147483647, .ofNat 2147483647), (.negSucc 2147483647, .ofNat 2147483647), (.ofNat 1, .ofNat 9), (.ofNat 1, .ofNat 6)] (true, [(.ofNat 0, [(15, .negSucc 0), (14, .ofNat 3)])], [], [])), [(0, (2, 155, .ofNat 0)), (1, (0, 10, .ofNat 0)), (2, (0, 11, .ofNat 0)), (3, (0, 12, .ofNat 0)), (4, (0, 13, .ofNat 0))], [], [(156, 3, 1, (0, 14, .ofNat 0)), (156, 7, 1, (0, 15, .ofNat 0))], [], (.ofNat 2, []), none)
set_option maxRecDepth 100000 in
def zn360_1 : zNd := (25, (z_li [(.ofNat 0, .ofNat 0), (.negSucc 2147483647, .ofNat 2147483647), (.negSucc 2147483647, .ofNat 2147483647), (.negSucc 2147483647, .ofNat 2147483647), (.negSucc 2147483647, .ofNat 2147483647), (.negSucc 2147483647, .ofNat 2147483647), (.negSucc 2147483647, .ofNat 2147483647), (.negSucc 2147483647, .ofNat 2147483647), (.negSucc 2147483647, .ofNat 2147483647), (.negSucc 2147483647, .ofNat 2147483647), (.ofNat 0, .ofNat 5), (.ofNat 0, .ofNat 5), (.ofNat 0, .ofNat 13), (.negSucc 2147483647, .ofNat 2147483647), (.ofNat 1, .ofNat 9), (.ofNat 1, .ofNat 6)] (true, [(.ofNat 0, [(15, .negSucc 0), (14, .ofNat 3)])], [], [])), [(0, (2, 155, .ofNat 0)), (1, (0, 10, .ofNat 0)), (2, (0, 11, .ofNat 0)), (3, (0, 12, .ofNat 0)), (4, (0, 13, .ofNat 0))], [], [(156, 3, 1, (0, 14, .ofNat 0)), (156, 7, 1, (0, 15, .ofNat 0))], [], (.ofNat 1, []), none)
set_option maxRecDepth 100000 in
def zn360_2 : zNd := (41, (z_li [(.ofNat 0, .ofNat 0), (.negSucc 2147483647, .ofNat 2147483647), (.negSucc 2147483647, .ofNat 2147483647), (.negSucc 2147483647, .ofNat 2147483647), (.negSucc 2147483647, .ofNat 2147483647), (.negSucc 2147483647, .ofNat 2147483647), (.negSucc 2147483647, .ofNat 2147483647), (.negSucc 2147483647, .ofNat 2147483647), (.negSucc 2147483647, .ofNat 2147483647), (.negSucc 2147483647, .ofNat 2147483647), (.ofNat 0, .ofNat 5), (.ofNat 0, .ofNat 5), (.ofNat 0, .ofNat 13), (.ofNat 0, .ofNat 3), (.ofNat 1, .ofNat 9), (.ofNat 1, .ofNat 6)] (true, [(.ofNat 0, [(15, .negSucc 0), (14, .ofNat 3)])], [], [])), [(0, (2, 155, .ofNat 0)), (1, (0, 10, .ofNat 0)), (2, (0, 11, .ofNat 0)), (3, (0, 12, .ofNat 0)), (4, (0, 13, .ofNat 0))], [], [(156, 3, 1, (0, 14, .ofNat 0)), (156, 7, 1, (0, 15, .ofNat 0))], [], (.ofNat 0, []), none)
def zg360_1 : List zNd := [zn360_0, zn360_1, zn360_2]
def znl360 : List zNd := zg360_1
set_option maxRecDepth 100000 in
theorem zk360_0 : z_ck0 zT1 (z_cnt zL7) 20000 [16, 25, 41] zm271 zc360 znl360 = true := by decide +kernel
set_option maxRecDepth 100000 in
theorem zk360_1 : z_ckn zT1 (z_cnt zL7) 20000 [16, 25, 41] zm271 zc360 znl360 zg360_1 = true := by decide +kernel
theorem zk360 : z_cok zT1 (z_cnt zL7) 20000 [16, 25, 41] zm271 zc360 znl360 = true := z_cok_of zk360_0 (zk360_1)
set_option maxRecDepth 100000 in
theorem zk361 : z_cok zT1 (z_cnt zL7) 20000 [] zm273 zc361 [] = true := by decide +kernel
set_option maxRecDepth 100000 in
theorem zk362 : z_cok zT1 (z_cnt zL7) 20000 [] zm275 zc362 [] = true := by decide +kernel
set_option maxRecDepth 100000 in
def zn363_0 : zNd := (14, (z_li [(.ofNat 0, .ofNat 0), (.negSucc 2147483647, .ofNat 2147483647), (.negSucc 2147483647, .ofNat 2147483647), (.negSucc 2147483647, .ofNat 2147483647), (.negSucc 2147483647, .ofNat 2147483647), (.negSucc 2147483647, .ofNat 2147483647), (.negSucc 2147483647, .ofNat 2147483647), (.negSucc 2147483647, .ofNat 2147483647), (.negSucc 2147483647, .ofNat 2147483647), (.negSucc 2147483647, .ofNat 2147483647), (.ofNat 0, .ofNat 9), (.ofNat 0, .ofNat 6), (.negSucc 2147483647, .ofNat 2147483647), (.ofNat 0, .ofNat 100)] (true, [(.ofNat 0, [(11, .negSucc 0), (10, .ofNat 3)])], [], [])), [(0, (2, 155, .ofNat 0)), (1, (0, 12, .ofNat 0)), (2, (0, 13, .ofNat 0))], [], [(156, 3, 1, (0, 10, .ofNat 0)), (156, 7, 1, (0, 11, .ofNat 0))], [(12, 1, 0, 1, 0), (13, 1, 0, 2, 0)], (.ofNat 1716, [(13, .negSucc 16)]), none)
set_option maxRecDepth 100000 in
def zn363_1 : zNd := (25, (z_li [(.ofNat 0, .ofNat 0), (.negSucc 2147483647, .ofNat 2147483647), (.negSucc 2147483647, .ofNat 2147483647), (.negSucc 2147483647, .ofNat 2147483647), (.negSucc 2147483647, .ofNat 2147483647), (.negSucc 2147483647, .ofNat 2147483647), (.negSucc 2147483647, .ofNat 2147483647), (.negSucc 2147483647, .ofNat 2147483647), (.negSucc 2147483647, .ofNat 2147483647), (.negSucc 2147483647, .ofNat 2147483647), (.ofNat 0, .ofNat 9), (.ofNat 0, .ofNat 6), (.negSucc 2147483647, .ofNat 2147483647), (.ofNat 0, .ofNat 99), (.ofNat 0, .ofNat 1), (.ofNat 0, .ofNat 15)] (true, [(.ofNat 0, [(11, .negSucc 0), (10, .ofNat 3)])], [], [])), [(0, (2, 155, .ofNat 0)), (1, (0, 12, .ofNat 0)), (2, (0, 13, .ofNat 0)), (3, (0, 14, .ofNat 0)), (4, (0, 15, .ofNat 0))], [], [(156, 3, 1, (0, 10, .ofNat 0)), (156, 7, 1, (0, 11, .ofNat 0))], [(12, 1, 0, 1, 0), (13, 1, 0, 2, 0), (14, 1, 0, 3, 0), (15, 1, 0, 4, 0)], (.ofNat 1715, [(15, .negSucc 0), (13, .negSucc 16)]), none)
def zg363_1 : List zNd := [zn363_0, zn363_1]
def znl363 : List zNd := zg363_1
set_option maxRecDepth 100000 in
theorem zk363_0 : z_ck0 zT1 (z_cnt zL7) 20000 [14, 25] zm277 zc363 znl363 = true := by decide +kernel
set_option maxRecDepth 100000 in
theorem zk363_1 : z_ckn zT1 (z_cnt zL7) 20000 [14, 25] zm277 zc363 znl363 zg363_1 = true := by decide +kernel
theorem zk363 : z_cok zT1 (z_cnt zL7) 20000 [14, 25] zm277 zc363 znl363 = true := z_cok_of zk363_0 (zk363_1)
set_option maxRecDepth 100000 in
def zn364_0 : zNd := (14, (z_li [(.ofNat 0, .ofNat 0), (.negSucc 2147483647, .ofNat 2147483647), (.negSucc 2147483647, .ofNat 2147483647), (.negSucc 2147483647, .ofNat 2147483647), (.negSucc 2147483647, .ofNat 2147483647), (.negSucc 2147483647, .ofNat 2147483647), (.negSucc 2147483647, .ofNat 2147483647), (.negSucc 2147483647, .ofNat 2147483647), (.negSucc 2147483647, .ofNat 2147483647), (.negSucc 2147483647, .ofNat 2147483647), (.ofNat 0, .ofNat 9), (.ofNat 0, .ofNat 6), (.ofNat 0, .ofNat 511), (.ofNat 0, .ofNat 9)] (true, [(.ofNat 0, [(11, .negSucc 0), (10, .ofNat 3)])], [], [])), [(0, (2, 155, .ofNat 0)), (1, (0, 12, .ofNat 0)), (2, (0, 13, .ofNat 0))], [], [(156, 3, 1, (0, 10, .ofNat 0)), (156, 7, 1, (0, 11, .ofNat 0))], [(12, 1, 0, 1, 0), (13, 1, 0, 2, 0)], (.ofNat 9, [(13, .negSucc 0)]), none)
def zg364_1 : List zNd := [zn364_0]
def znl364 : List zNd := zg364_1
set_option maxRecDepth 100000 in
theorem zk364_0 : z_ck0 zT1 (z_cnt zL7) 20000 [14] zm279 zc364 znl364 = true := by decide +kernel
set_option maxRecDepth 100000 in
theorem zk364_1 : z_ckn zT1 (z_cnt zL7) 20000 [14] zm279 zc364 znl364 zg364_1 = true := by decide +kernel
theorem zk364 : z_cok zT1 (z_cnt zL7) 20000 [14] zm279 zc364 znl364 = true := z_cok_of zk364_0 (zk364_1)
set_option maxRecDepth 100000 in
theorem zk365 : z_cok zT1 (z_cnt zL7) 20000 [] zm281 zc365 [] = true := by decide +kernel
set_option maxRecDepth 100000 in
theorem zk366 : z_cok zT1 (z_cnt zL7) 20000 [] zm283 zc366 [] = true := by decide +kernel
set_option maxRecDepth 100000 in
def zn367_0 : zNd := (14, (z_li [(.ofNat 0, .ofNat 0), (.negSucc 2147483647, .ofNat 2147483647), (.negSucc 2147483647, .ofNat 2147483647), (.negSucc 2147483647, .ofNat 2147483647), (.negSucc 2147483647, .ofNat 2147483647), (.negSucc 2147483647, .ofNat 2147483647), (.negSucc 2147483647, .ofNat 2147483647), (.negSucc 2147483647, .ofNat 2147483647), (.negSucc 2147483647, .ofNat 2147483647), (.negSucc 2147483647, .ofNat 2147483647), (.ofNat 0, .ofNat 9), (.ofNat 0, .ofNat 6), (.negSucc 0, .ofNat 13), (.ofNat 0, .ofNat 14)] (true, [(.ofNat 0, [(11, .negSucc 0), (10, .ofNat 3)])], [], [])), [(0, (2, 155, .ofNat 0)), (1, (0, 12, .ofNat 0)), (2, (0, 13, .ofNat 0))], [], [(156, 3, 1, (0, 10, .ofNat 0)), (156, 7, 1, (0, 11, .ofNat 0))], [(12, 1, 0, 1, 0), (13, 1, 0, 2, 0)], (.ofNat 14, [(13, .negSucc 0)]), none)
def zg367_1 : List zNd := [zn367_0]
def znl367 : List zNd := zg367_1
set_option maxRecDepth 100000 in
theorem zk367_0 : z_ck0 zT1 (z_cnt zL7) 20000 [14] zm285 zc367 znl367 = true := by decide +kernel
set_option maxRecDepth 100000 in
theorem zk367_1 : z_ckn zT1 (z_cnt zL7) 20000 [14] zm285 zc367 znl367 zg367_1 = true := by decide +kernel
theorem zk367 : z_cok zT1 (z_cnt zL7) 20000 [14] zm285 zc367 znl367 = true := z_cok_of zk367_0 (zk367_1)
set_option maxRecDepth 100000 in
def zn368_0 : zNd := (24, (z_li [(.ofNat 0, .ofNat 0), (.negSucc 2147483647, .ofNat 2147483647), (.negSucc 2147483647, .ofNat 2147483647), (.negSucc 2147483647, .ofNat 2147483647), (.negSucc 2147483647, .ofNat 2147483647), (.negSucc 2147483647, .ofNat 2147483647), (.negSucc 2147483647, .ofNat 2147483647), (.negSucc 2147483647, .ofNat 2147483647), (.negSucc 2147483647, .ofNat 2147483647), (.negSucc 2147483647, .ofNat 2147483647), (.ofNat 0, .ofNat 5), (.ofNat 0, .ofNat 14), (.ofNat 1, .ofNat 9), (.ofNat 1, .ofNat 6), (.ofNat 0, .ofNat 15), (.ofNat 0, .ofNat 4)] (true, [(.ofNat 0, [(13, .negSucc 0), (12, .ofNat 3)])], [], [])), [(0, (2, 155, .ofNat 0)), (1, (0, 10, .ofNat 0)), (2, (0, 11, .ofNat 0)), (3, (0, 14, .ofNat 0)), (4, (0, 15, .ofNat 0))], [], [(156, 3, 1, (0, 12, .ofNat 0)), (156, 7, 1, (0, 13, .ofNat 0))], [(14, 1, 0, 3, 0), (15, 1, 0, 4, 0)], (.ofNat 4, [(15, .negSucc 0)]), none)
def zg368_1 : List zNd := [zn368_0]
def znl368 : List zNd := zg368_1
set_option maxRecDepth 100000 in
theorem zk368_0 : z_ck0 zT1 (z_cnt zL7) 20000 [24] zm293 zc368 znl368 = true := by decide +kernel
set_option maxRecDepth 100000 in
theorem zk368_1 : z_ckn zT1 (z_cnt zL7) 20000 [24] zm293 zc368 znl368 zg368_1 = true := by decide +kernel
theorem zk368 : z_cok zT1 (z_cnt zL7) 20000 [24] zm293 zc368 znl368 = true := z_cok_of zk368_0 (zk368_1)
set_option maxRecDepth 100000 in
def zn369_0 : zNd := (18, (z_li [(.ofNat 0, .ofNat 0), (.negSucc 2147483647, .ofNat 2147483647), (.negSucc 2147483647, .ofNat 2147483647), (.negSucc 2147483647, .ofNat 2147483647), (.negSucc 2147483647, .ofNat 2147483647), (.negSucc 2147483647, .ofNat 2147483647), (.negSucc 2147483647, .ofNat 2147483647), (.negSucc 2147483647, .ofNat 2147483647), (.negSucc 2147483647, .ofNat 2147483647), (.negSucc 2147483647, .ofNat 2147483647), (.ofNat 0, .ofNat 5), (.ofNat 1, .ofNat 9), (.ofNat 1, .ofNat 6), (.negSucc 0, .ofNat 5), (.ofNat 0, .ofNat 2147483647), (.ofNat 0, .ofNat 6)] (true, [(.ofNat 0, [(12, .negSucc 0), (11, .ofNat 3)])], [], [])), [(0, (2, 155, .ofNat 0)), (1, (0, 10, .ofNat 0)), (2, (0, 13, .ofNat 0)), (3, (0, 14, .ofNat 0)), (4, (0, 15, .ofNat 0))], [], [(156, 3, 1, (0, 11, .ofNat 0)), (156, 7, 1, (0, 12, .ofNat 0))], [(13, 1, 0, 2, 0), (14, 1, 0, 3, 0), (15, 1, 0, 4, 0)], (.ofNat 118, [(15, .negSucc 16)]), none)
set_option maxRecDepth 100000 in
def zn369_1 : zNd := (33, (z_li [(.ofNat 0, .ofNat 0), (.negSucc 2147483647, .ofNat 2147483647), (.negSucc 2147483647, .ofNat 2147483647), (.negSucc 2147483647, .ofNat 2147483647), (.negSucc 2147483647, .ofNat 2147483647), (.negSucc 2147483647, .ofNat 2147483647), (.negSucc 2147483647, .ofNat 2147483647), (.negSucc 2147483647, .ofNat 2147483647), (.negSucc 2147483647, .ofNat 2147483647), (.negSucc 2147483647, .ofNat 2147483647), (.ofNat 0, .ofNat 5), (.ofNat 1, .ofNat 9), (.ofNat 1, .ofNat 6), (.negSucc 0, .ofNat 5), (.ofNat 0, .ofNat 2147483647), (.ofNat 0, .ofNat 5), (.negSucc 2147483647, .ofNat 2147483647), (.ofNat 0, .ofNat 15)] (true, [(.ofNat 0, [(12, .negSucc 0), (11, .ofNat 3)])], [], [])), [(0, (2, 155, .ofNat 0)), (1, (0, 10, .ofNat 0)), (2, (0, 13, .ofNat 0)), (3, (0, 14, .ofNat 0)), (4, (0, 15, .ofNat 0)), (5, (0, 16, .ofNat 0)), (6, (0, 17, .ofNat 0))], [], [(156, 3, 1, (0, 11, .ofNat 0)), (156, 7, 1, (0, 12, .ofNat 0))], [(13, 1, 0, 2, 0), (14, 1, 0, 3, 0), (15, 1, 0, 4, 0), (16, 1, 0, 5, 0), (17, 1, 0, 6, 0)], (.ofNat 117, [(17, .negSucc 0), (15, .negSucc 16)]), none)
def zg369_1 : List zNd := [zn369_0, zn369_1]
def znl369 : List zNd := zg369_1
set_option maxRecDepth 100000 in
theorem zk369_0 : z_ck0 zT1 (z_cnt zL7) 20000 [18, 33] zm295 zc369 znl369 = true := by decide +kernel
set_option maxRecDepth 100000 in
theorem zk369_1 : z_ckn zT1 (z_cnt zL7) 20000 [18, 33] zm295 zc369 znl369 zg369_1 = true := by decide +kernel
theorem zk369 : z_cok zT1 (z_cnt zL7) 20000 [18, 33] zm295 zc369 znl369 = true := z_cok_of zk369_0 (zk369_1)
set_option maxRecDepth 100000 in
def zn370_0 : zNd := (15, (z_li [(.ofNat 0, .ofNat 0), (.negSucc 2147483647, .ofNat 2147483647), (.negSucc 2147483647, .ofNat 2147483647), (.negSucc 2147483647, .ofNat 2147483647), (.negSucc 2147483647, .ofNat 2147483647), (.negSucc 2147483647, .ofNat 2147483647), (.negSucc 2147483647, .ofNat 2147483647), (.negSucc 2147483647, .ofNat 2147483647), (.negSucc 2147483647, .ofNat 2147483647), (.negSucc 2147483647, .ofNat 2147483647), (.ofNat 0, .ofNat 14), (.ofNat 0, .ofNat 9), (.ofNat 0, .ofNat 6), (.ofNat 0, .ofNat 63), (.ofNat 0, .ofNat 6)] (true, [(.ofNat 0, [(12, .negSucc 0), (11, .ofNat 3)])], [], [])), [(0, (2, 155, .ofNat 0)), (1, (0, 10, .ofNat 0)), (2, (0, 13, .ofNat 0)), (3, (0, 14, .ofNat 0))], [], [(156, 3, 1, (0, 11, .ofNat 0)), (156, 7, 1, (0, 12, .ofNat 0))], [(13, 1, 0, 2, 0), (14, 1, 0, 3, 0)], (.ofNat 6, [(14, .negSucc 0)]), none)
def zg370_1 : List zNd := [zn370_0]
def znl370 : List zNd := zg370_1
set_option maxRecDepth 100000 in
theorem zk370_0 : z_ck0 zT1 (z_cnt zL7) 20000 [15] zm297 zc370 znl370 = true := by decide +kernel
set_option maxRecDepth 100000 in
theorem zk370_1 : z_ckn zT1 (z_cnt zL7) 20000 [15] zm297 zc370 znl370 zg370_1 = true := by decide +kernel
theorem zk370 : z_cok zT1 (z_cnt zL7) 20000 [15] zm297 zc370 znl370 = true := z_cok_of zk370_0 (zk370_1)
set_option maxRecDepth 100000 in
def zn371_0 : zNd := (15, (z_li [(.ofNat 0, .ofNat 0), (.negSucc 2147483647, .ofNat 2147483647), (.negSucc 2147483647, .ofNat 2147483647), (.negSucc 2147483647, .ofNat 2147483647), (.negSucc 2147483647, .ofNat 2147483647), (.negSucc 2147483647, .ofNat 2147483647), (.negSucc 2147483647, .ofNat 2147483647), (.negSucc 2147483647, .ofNat 2147483647), (.negSucc 2147483647, .ofNat 2147483647), (.negSucc 2147483647, .ofNat 2147483647), (.ofNat 0, .ofNat 14), (.ofNat 0, .ofNat 9), (.ofNat 0, .ofNat 6), (.ofNat 0, .ofNat 63), (.ofNat 0, .ofNat 6)] (true, [(.ofNat 0, [(12, .negSucc 0), (11, .ofNat 3)])], [], [])), [(0, (2, 155, .ofNat 0)), (1, (0, 10, .ofNat 0)), (2, (0, 13, .ofNat 0)), (3, (0, 14, .ofNat 0))], [], [(156, 3, 1, (0, 11, .ofNat 0)), (156, 7, 1, (0, 12, .ofNat 0))], [(13, 1, 0, 2, 0), (14, 1, 0, 3, 0)], (.ofNat 6, [(14, .negSucc 0)]), none)
def zg371_1 : List zNd := [zn371_0]
def znl371 : List zNd := zg371_1
set_option maxRecDepth 100000 in
theorem zk371_0 : z_ck0 zT1 (z_cnt zL7) 20000 [15] zm299 zc371 znl371 = true := by decide +kernel
set_option maxRecDepth 100000 in
theorem zk371_1 : z_ckn zT1 (z_cnt zL7) 20000 [15] zm299 zc371 znl371 zg371_1 = true := by decide +kernel
theorem zk371 : z_cok zT1 (z_cnt zL7) 20000 [15] zm299 zc371 znl371 = true := z_cok_of zk371_0 (zk371_1)
set_option maxRecDepth 100000 in
def zn372_0 : zNd := (15, (z_li [(.ofNat 0, .ofNat 0), (.negSucc 2147483647, .ofNat 2147483647), (.negSucc 2147483647, .ofNat 2147483647), (.negSucc 2147483647, .ofNat 2147483647), (.negSucc 2147483647, .ofNat 2147483647), (.negSucc 2147483647, .ofNat 2147483647), (.negSucc 2147483647, .ofNat 2147483647), (.negSucc 2147483647, .ofNat 2147483647), (.negSucc 2147483647, .ofNat 2147483647), (.negSucc 2147483647, .ofNat 2147483647), (.ofNat 0, .ofNat 14), (.ofNat 0, .ofNat 9), (.ofNat 0, .ofNat 6), (.ofNat 0, .ofNat 16), (.ofNat 0, .ofNat 6)] (true, [(.ofNat 0, [(12, .negSucc 0), (11, .ofNat 3)])], [], [])), [(0, (2, 155, .ofNat 0)), (1, (0, 10, .ofNat 0)), (2, (0, 13, .ofNat 0)), (3, (0, 14, .ofNat 0))], [], [(156, 3, 1, (0, 11, .ofNat 0)), (156, 7, 1, (0, 12, .ofNat 0))], [(13, 1, 0, 2, 0), (14, 1, 0, 3, 0)], (.ofNat 6, [(14, .negSucc 0)]), none)
def zg372_1 : List zNd := [zn372_0]
def znl372 : List zNd := zg372_1
set_option maxRecDepth 100000 in
theorem zk372_0 : z_ck0 zT1 (z_cnt zL7) 20000 [15] zm301 zc372 znl372 = true := by decide +kernel
set_option maxRecDepth 100000 in
theorem zk372_1 : z_ckn zT1 (z_cnt zL7) 20000 [15] zm301 zc372 znl372 zg372_1 = true := by decide +kernel
theorem zk372 : z_cok zT1 (z_cnt zL7) 20000 [15] zm301 zc372 znl372 = true := z_cok_of zk372_0 (zk372_1)
set_option maxRecDepth 100000 in
def zn373_0 : zNd := (26, (z_li [(.ofNat 0, .ofNat 0), (.negSucc 2147483647, .ofNat 2147483647), (.negSucc 2147483647, .ofNat 2147483647), (.negSucc 2147483647, .ofNat 2147483647), (.negSucc 2147483647, .ofNat 2147483647), (.negSucc 2147483647, .ofNat 2147483647), (.negSucc 2147483647, .ofNat 2147483647), (.negSucc 2147483647, .ofNat 2147483647), (.negSucc 2147483647, .ofNat 2147483647), (.negSucc 2147483647, .ofNat 2147483647), (.ofNat 0, .ofNat 5), (.ofNat 0, .ofNat 5), (.ofNat 1, .ofNat 9), (.ofNat 1, .ofNat 6), (.ofNat 0, .ofNat 15)] (true, [(.ofNat 0, [(13, .negSucc 0), (12, .ofNat 3)])], [], [])), [(0, (2, 155, .ofNat 0)), (1, (0, 10, .ofNat 0)), (2, (0, 11, .ofNat 0)), (3, (0, 14, .ofNat 0))], [], [(156, 3, 1, (0, 12, .ofNat 0)), (156, 7, 1, (0, 13, .ofNat 0))], [(14, 1, 0, 3, 0)], (.ofNat 15, [(14, .negSucc 0)]), none)
def zg373_1 : List zNd := [zn373_0]
def znl373 : List zNd := zg373_1
set_option maxRecDepth 100000 in
theorem zk373_0 : z_ck0 zT1 (z_cnt zL7) 20000 [26] zm303 zc373 znl373 = true := by decide +kernel
set_option maxRecDepth 100000 in
theorem zk373_1 : z_ckn zT1 (z_cnt zL7) 20000 [26] zm303 zc373 znl373 zg373_1 = true := by decide +kernel
theorem zk373 : z_cok zT1 (z_cnt zL7) 20000 [26] zm303 zc373 znl373 = true := z_cok_of zk373_0 (zk373_1)
set_option maxRecDepth 100000 in
def zn374_0 : zNd := (27, (z_li [(.ofNat 0, .ofNat 0), (.negSucc 2147483647, .ofNat 2147483647), (.negSucc 2147483647, .ofNat 2147483647), (.negSucc 2147483647, .ofNat 2147483647), (.negSucc 2147483647, .ofNat 2147483647), (.negSucc 2147483647, .ofNat 2147483647), (.negSucc 2147483647, .ofNat 2147483647), (.negSucc 2147483647, .ofNat 2147483647), (.negSucc 2147483647, .ofNat 2147483647), (.negSucc 2147483647, .ofNat 2147483647), (.ofNat 0, .ofNat 5), (.ofNat 0, .ofNat 5), (.ofNat 0, .ofNat 14), (.ofNat 1, .ofNat 9), (.ofNat 1, .ofNat 6)] (true, [(.ofNat 0, [(14, .negSucc 0), (13, .ofNat 3)])], [], [])), [(0, (2, 155, .ofNat 0)), (1, (0, 10, .ofNat 0)), (2, (0, 11, .ofNat 0)), (3, (0, 12, .ofNat 0))], [], [(156, 3, 1, (0, 13, .ofNat 0)), (156, 7, 1, (0, 14, .ofNat 0))], [], (.ofNat 2, []), none)
set_option maxRecDepth 100000 in
def zn374_1 : zNd := (37, (z_li [(.ofNat 0, .ofNat 0), (.negSucc 2147483647, .ofNat 2147483647), (.negSucc 2147483647, .ofNat 2147483647), (.negSucc 2147483647, .ofNat 2147483647), (.negSucc 2147483647, .ofNat 2147483647), (.negSucc 2147483647, .ofNat 2147483647), (.negSucc 2147483647, .ofNat 2147483647), (.negSucc 2147483647, .ofNat 2147483647), (.negSucc 2147483647, .ofNat 2147483647), (.negSucc 2147483647, .ofNat 2147483647), (.ofNat 0, .ofNat 5), (.ofNat 0, .ofNat 5), (.ofNat 0, .ofNat 14), (.ofNat 1, .ofNat 9), (.ofNat 1, .ofNat 6)] (true, [(.ofNat 0, [(14, .negSucc 0), (13, .ofNat 3)])], [], [])), [(0, (2, 155, .ofNat 0)), (1, (0, 10, .ofNat 0)), (2, (0, 11, .ofNat 0)), (3, (0, 12, .ofNat 0))], [], [(156, 3, 1, (0, 13, .ofNat 0)), (156, 7, 1, (0, 14, .ofNat 0))], [], (.ofNat 1, []), none)
set_option maxRecDepth 100000 in
def zn374_2 : zNd := (51, (z_li [(.ofNat 0, .ofNat 0), (.negSucc 2147483647, .ofNat 2147483647), (.negSucc 2147483647, .ofNat 2147483647), (.negSucc 2147483647, .ofNat 2147483647), (.negSucc 2147483647, .ofNat 2147483647), (.negSucc 2147483647, .ofNat 2147483647), (.negSucc 2147483647, .ofNat 2147483647), (.negSucc 2147483647, .ofNat 2147483647), (.negSucc 2147483647, .ofNat 2147483647), (.negSucc 2147483647, .ofNat 2147483647), (.ofNat 0, .ofNat 5), (.ofNat 0, .ofNat 5), (.ofNat 0, .ofNat 14), (.ofNat 1, .ofNat 9), (.ofNat 1, .ofNat 6)] (true, [(.ofNat 0, [(14, .negSucc 0), (13, .ofNat 3)])], [], [])), [(0, (2, 155, .ofNat 0)), (1, (0, 10, .ofNat 0)), (2, (0, 11, .ofNat 0)), (3, (0, 12, .ofNat 0))], [], [(156, 3, 1, (0, 13, .ofNat 0)), (156, 7, 1, (0, 14, .ofNat 0))], [], (.ofNat 0, []), none)
def zg374_1 : List zNd := [zn374_0, zn374_1, zn374_2]
def znl374 : List zNd := zg374_1
set_option maxRecDepth 100000 in
theorem zk374_0 : z_ck0 zT1 (z_cnt zL7) 20000 [27, 37, 51] zm305 zc374 znl374 = true := by decide +kernel
set_option maxRecDepth 100000 in
theorem zk374_1 : z_ckn zT1 (z_cnt zL7) 20000 [27, 37, 51] zm305 zc374 znl374 zg374_1 = true := by decide +kernel
theorem zk374 : z_cok zT1 (z_cnt zL7) 20000 [27, 37, 51] zm305 zc374 znl374 = true := z_cok_of zk374_0 (zk374_1)
set_option maxRecDepth 100000 in
def zn375_0 : zNd := (15, (z_li [(.ofNat 0, .ofNat 0), (.negSucc 2147483647, .ofNat 2147483647), (.negSucc 2147483647, .ofNat 2147483647), (.negSucc 2147483647, .ofNat 2147483647), (.negSucc 2147483647, .ofNat 2147483647), (.negSucc 2147483647, .ofNat 2147483647), (.negSucc 2147483647, .ofNat 2147483647), (.negSucc 2147483647, .ofNat 2147483647), (.negSucc 2147483647, .ofNat 2147483647), (.negSucc 2147483647, .ofNat 2147483647), (.ofNat 0, .ofNat 5), (.ofNat 1, .ofNat 9), (.ofNat 1, .ofNat 6), (.ofNat 0, .ofNat 18), (.ofNat 0, .ofNat 15)] (true, [(.ofNat 0, [(12, .negSucc 0), (11, .ofNat 3)])], [], [])), [(0, (2, 155, .ofNat 0)), (1, (0, 10, .ofNat 0)), (2, (0, 13, .ofNat 0)), (3, (0, 14, .ofNat 0))], [], [(156, 3, 1, (0, 11, .ofNat 0)), (156, 7, 1, (0, 12, .ofNat 0))], [(13, 1, 0, 2, 0), (14, 1, 0, 3, 0)], (.ofNat 15, [(14, .negSucc 0)]), none)
def zg375_1 : List zNd := [zn375_0]
def znl375 : List zNd := zg375_1
set_option maxRecDepth 100000 in
theorem zk375_0 : z_ck0 zT1 (z_cnt zL7) 20000 [15] zm307 zc375 znl375 = true := by decide +kernel
set_option maxRecDepth 100000 in
theorem zk375_1 : z_ckn zT1 (z_cnt zL7) 20000 [15] zm307 zc375 znl375 zg375_1 = true := by decide +kernel
theorem zk375 : z_cok zT1 (z_cnt zL7) 20000 [15] zm307 zc375 znl375 = true := z_cok_of zk375_0 (zk375_1)
set_option maxRecDepth 100000 in
def zn376_0 : zNd := (13, (z_li [(.ofNat 0, .ofNat 0), (.negSucc 2147483647, .ofNat 2147483647), (.negSucc 2147483647, .ofNat 2147483647), (.negSucc 2147483647, .ofNat 2147483647), (.negSucc 2147483647, .ofNat 2147483647), (.negSucc 2147483647, .ofNat 2147483647), (.negSucc 2147483647, .ofNat 2147483647), (.negSucc 2147483647, .ofNat 2147483647), (.negSucc 2147483647, .ofNat 2147483647), (.negSucc 2147483647, .ofNat 2147483647), (.ofNat 0, .ofNat 5), (.ofNat 1, .ofNat 9), (.ofNat 1, .ofNat 6), (.ofNat 0, .ofNat 15)] (true, [(.ofNat 0, [(12, .negSucc 0), (11, .ofNat 3)])], [], [])), [(0, (2, 155, .ofNat 0)), (1, (0, 10, .ofNat 0)), (2, (0, 13, .ofNat 0))], [], [(156, 3, 1, (0, 11, .ofNat 0)), (156, 7, 1, (0, 12, .ofNat 0))], [(13, 1, 0, 2, 0)], (.ofNat 15, [(13, .negSucc 0)]), none)
def zg376_1 : List zNd := [zn376_0]
def znl376 : List zNd := zg376_1
set_option maxRecDepth 100000 in
theorem zk376_0 : z_ck0 zT1 (z_cnt zL7) 20000 [13] zm309 zc376 znl376 = true := by decide +kernel
set_option maxRecDepth 100000 in
theorem zk376_1 : z_ckn zT1 (z_cnt zL7) 20000 [13] zm309 zc376 znl376 zg376_1 = true := by decide +kernel
theorem zk376 : z_cok zT1 (z_cnt zL7) 20000 [13] zm309 zc376 znl376 = true := z_cok_of zk376_0 (zk376_1)
set_option maxRecDepth 100000 in
def zn377_0 : zNd := (15, (z_li [(.ofNat 0, .ofNat 0), (.negSucc 2147483647, .ofNat 2147483647), (.negSucc 2147483647, .ofNat 2147483647), (.negSucc 2147483647, .ofNat 2147483647), (.negSucc 2147483647, .ofNat 2147483647), (.negSucc 2147483647, .ofNat 2147483647), (.negSucc 2147483647, .ofNat 2147483647), (.negSucc 2147483647, .ofNat 2147483647), (.negSucc 2147483647, .ofNat 2147483647), (.negSucc 2147483647, .ofNat 2147483647), (.ofNat 0, .ofNat 14), (.ofNat 0, .ofNat 9), (.ofNat 0, .ofNat 6), (.negSucc 0, .ofNat 5), (.ofNat 0, .ofNat 6)] (true, [(.ofNat 0, [(12, .negSucc 0), (11, .ofNat 3)])], [], [])), [(0, (2, 155, .ofNat 0)), (1, (0, 10, .ofNat 0)), (2, (0, 13, .ofNat 0)), (3, (0, 14, .ofNat 0))], [], [(156, 3, 1, (0, 11, .ofNat 0)), (156, 7, 1, (0, 12, .ofNat 0))], [(13, 1, 0, 2, 0), (14, 1, 0, 3, 0)], (.ofNat 6, [(14, .negSucc 0)]), none)
def zg377_1 : List zNd := [zn377_0]
def znl377 : List zNd := zg377_1
set_option maxRecDepth 100000 in
theorem zk377_0 : z_ck0 zT1 (z_cnt zL7) 20000 [15] zm311 zc377 znl377 = true := by decide +kernel
set_option maxRecDepth 100000 in
theorem zk377_1 : z_ckn zT1 (z_cnt zL7) 20000 [15] zm311 zc377 znl377 zg377_1 = true := by decide +kernel
theorem zk377 : z_cok zT1 (z_cnt zL7) 20000 [15] zm311 zc377 znl377 = true := z_cok_of zk377_0 (zk377_1)
set_option maxRecDepth 100000 in
theorem zk378 : z_cok zT1 (z_cnt zL7) 20000 [] zm313 zc378 [] = true := by decide +kernel
set_option maxRecDepth 100000 in
theorem zk379 : z_cok zT1 (z_cnt zL7) 20000 [] zm315 zc379 [] = true := by decide +kernel
set_option maxRecDepth 100000 in
theorem zk380 : z_cok zT1 (z_cnt zL7) 20000 [] zm317 zc380 [] = true := by decide +kernel
set_option maxRecDepth 100000 in
theorem zk381 : z_cok zT1 (z_cnt zL7) 20000 [] zm319 zc381 [] = true := by decide +kernel
set_option maxRecDepth 100000 in
def zn382_0 : zNd := (14, (z_li [(.ofNat 0, .ofNat 0), (.negSucc 2147483647, .ofNat 2147483647), (.negSucc 2147483647, .ofNat 2147483647), (.negSucc 2147483647, .ofNat 2147483647), (.negSucc 2147483647, .ofNat 2147483647), (.negSucc 2147483647, .ofNat 2147483647), (.negSucc 2147483647, .ofNat 2147483647), (.negSucc 2147483647, .ofNat 2147483647), (.negSucc 2147483647, .ofNat 2147483647), (.negSucc 2147483647, .ofNat 2147483647), (.ofNat 0, .ofNat 9), (.ofNat 0, .ofNat 6), (.negSucc 0, .ofNat 5), (.ofNat 0, .ofNat 6)] (true, [(.ofNat 0, [(11, .negSucc 0), (10, .ofNat 3)])], [], [])), [(0, (2, 155, .ofNat 0)), (1, (0, 12, .ofNat 0)), (2, (0, 13, .ofNat 0))], [], [(156, 3, 1, (0, 10, .ofNat 0)), (156, 7, 1, (0, 11, .ofNat 0))], [(12, 1, 0, 1, 0), (13, 1, 0, 2, 0)], (.ofNat 6, [(13, .negSucc 0)]), none)
def zg382_1 : List zNd := [zn382_0]
def znl382 : List zNd := zg382_1
set_option maxRecDepth 100000 in
theorem zk382_0 : z_ck0 zT1 (z_cnt zL7) 20000 [14] zm321 zc382 znl382 = true := by decide +kernel
set_option maxRecDepth 100000 in
theorem zk382_1 : z_ckn zT1 (z_cnt zL7) 20000 [14] zm321 zc382 znl382 zg382_1 = true := by decide +kernel
theorem zk382 : z_cok zT1 (z_cnt zL7) 20000 [14] zm321 zc382 znl382 = true := z_cok_of zk382_0 (zk382_1)
set_option maxRecDepth 100000 in
theorem zk383 : z_cok zT1 (z_cnt zL7) 20000 [] zm323 zc383 [] = true := by decide +kernel
set_option maxRecDepth 100000 in
def zn384_0 : zNd := (15, (z_li [(.ofNat 0, .ofNat 0), (.negSucc 2147483647, .ofNat 2147483647), (.negSucc 2147483647, .ofNat 2147483647), (.negSucc 2147483647, .ofNat 2147483647), (.negSucc 2147483647, .ofNat 2147483647), (.negSucc 2147483647, .ofNat 2147483647), (.negSucc 2147483647, .ofNat 2147483647), (.negSucc 2147483647, .ofNat 2147483647), (.negSucc 2147483647, .ofNat 2147483647), (.negSucc 2147483647, .ofNat 2147483647), (.ofNat 0, .ofNat 14), (.ofNat 0, .ofNat 9), (.ofNat 0, .ofNat 6), (.ofNat 0, .ofNat 63), (.ofNat 0, .ofNat 6)] (true, [(.ofNat 0, [(12, .negSucc 0), (11, .ofNat 3)])], [], [])), [(0, (2, 155, .ofNat 0)), (1, (0, 10, .ofNat 0)), (2, (0, 13, .ofNat 0)), (3, (0, 14, .ofNat 0))], [], [(156, 3, 1, (0, 11, .ofNat 0)), (156, 7, 1, (0, 12, .ofNat 0))], [(13, 1, 0, 2, 0), (14, 1, 0, 3, 0)], (.ofNat 6, [(14, .negSucc 0)]), none)
def zg384_1 : List zNd := [zn384_0]
def znl384 : List zNd := zg384_1
set_option maxRecDepth 100000 in
theorem zk384_0 : z_ck0 zT1 (z_cnt zL7) 20000 [15] zm325 zc384 znl384 = true := by decide +kernel
set_option maxRecDepth 100000 in
theorem zk384_1 : z_ckn zT1 (z_cnt zL7) 20000 [15] zm325 zc384 znl384 zg384_1 = true := by decide +kernel
theorem zk384 : z_cok zT1 (z_cnt zL7) 20000 [15] zm325 zc384 znl384 = true := z_cok_of zk384_0 (zk384_1)
set_option maxRecDepth 100000 in
theorem zk385 : z_cok zT1 (z_cnt zL7) 20000 [] zm327 zc385 [] = true := by decide +kernel
set_option maxRecDepth 100000 in
theorem zk386 : z_cok zT1 (z_cnt zL7) 20000 [] zm329 zc386 [] = true := by decide +kernel
