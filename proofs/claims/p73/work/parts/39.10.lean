set_option maxRecDepth 100000 in
def zn9_0 : zNd := (56, (z_li [(.ofNat 0, .ofNat 0), (.negSucc 2147483647, .ofNat 2147483647), (.negSucc 2147483647, .ofNat 2147483647), (.negSucc 2147483647, .ofNat 2147483647), (.negSucc 2147483647, .ofNat 2147483647), (.negSucc 2147483647, .ofNat 2147483647), (.negSucc 2147483647, .ofNat 2147483647), (.negSucc 2147483647, .ofNat 2147483647), (.negSucc 2147483647, .ofNat 2147483647), (.negSucc 2147483647, .ofNat 2147483647), (.negSucc 2147483647, .ofNat 2147483647), (.negSucc 2147483646, .ofNat 2147483647), (.negSucc 715827880, .ofNat 715827883), (.negSucc 2147483647, .ofNat 2147483647), (.ofNat 0, .ofNat 2147483647)] (false, [], [], [])), [(0, (2, 56, .ofNat 0)), (3, (0, 12, .ofNat 0)), (4, (0, 13, .ofNat 0)), (5, (0, 14, .ofNat 0))], [], [], [(12, 1, 0, 3, 0), (13, 1, 0, 4, 0), (14, 1, 0, 5, 0)], (.ofNat 6442450943, [(14, .negSucc 2)]), none)
set_option maxRecDepth 100000 in
def zn9_1 : zNd := (77, (z_li [(.ofNat 0, .ofNat 0), (.negSucc 2147483647, .ofNat 2147483647), (.negSucc 2147483647, .ofNat 2147483647), (.negSucc 2147483647, .ofNat 2147483647), (.negSucc 2147483647, .ofNat 2147483647), (.negSucc 2147483647, .ofNat 2147483647), (.negSucc 2147483647, .ofNat 2147483647), (.negSucc 2147483647, .ofNat 2147483647), (.negSucc 2147483647, .ofNat 2147483647), (.negSucc 2147483647, .ofNat 2147483647), (.negSucc 2147483647, .ofNat 2147483647), (.negSucc 2147483646, .ofNat 2147483647), (.ofNat 1, .ofNat 715827883), (.negSucc 2147483647, .ofNat 2147483647), (.ofNat 0, .ofNat 1000000000), (.negSucc 2147483647, .ofNat 2147483647)] (false, [], [], [])), [(0, (2, 56, .ofNat 0)), (3, (0, 12, .ofNat 0)), (4, (0, 13, .ofNat 0)), (5, (0, 14, .ofNat 0)), (6, (0, 15, .ofNat 0))], [], [], [(12, 1, 0, 3, 0), (13, 1, 0, 4, 0), (14, 1, 0, 5, 0), (15, 1, 0, 6, 0)], (.ofNat 6442450942, [(14, .negSucc 2)]), none)
set_option maxRecDepth 100000 in
def zn9_2 : zNd := (175, (z_li [(.ofNat 0, .ofNat 0), (.negSucc 2147483647, .ofNat 2147483647), (.negSucc 2147483647, .ofNat 2147483647), (.negSucc 2147483647, .ofNat 2147483647), (.negSucc 2147483647, .ofNat 2147483647), (.negSucc 2147483647, .ofNat 2147483647), (.negSucc 2147483647, .ofNat 2147483647), (.negSucc 2147483647, .ofNat 2147483647), (.negSucc 2147483647, .ofNat 2147483647), (.negSucc 2147483647, .ofNat 2147483647), (.negSucc 2147483647, .ofNat 2147483647), (.negSucc 2147483646, .ofNat 2147483647), (.ofNat 1, .ofNat 715827883), (.negSucc 2147483647, .ofNat 2147483647), (.ofNat 0, .ofNat 1000000000), (.negSucc 2147483647, .ofNat 2147483647)] (false, [], [], [])), [(0, (2, 56, .ofNat 0)), (3, (0, 12, .ofNat 0)), (4, (0, 13, .ofNat 0)), (5, (0, 14, .ofNat 0)), (6, (0, 15, .ofNat 0))], [], [], [(12, 1, 0, 3, 0), (13, 1, 0, 4, 0), (14, 1, 0, 5, 0), (15, 1, 0, 6, 0)], (.ofNat 6442450941, [(14, .negSucc 2)]), none)
def zg9_1 : List zNd := [zn9_0, zn9_1, zn9_2]
def znl9 : List zNd := zg9_1
set_option maxRecDepth 100000 in
theorem zk9_0 : z_ck0 zT1 (z_cnt zL0) 20000 [56, 77, 175] zm36 zc9 znl9 = true := by decide +kernel
set_option maxRecDepth 100000 in
theorem zk9_1 : z_ckn zT1 (z_cnt zL0) 20000 [56, 77, 175] zm36 zc9 znl9 zg9_1 = true := by decide +kernel
theorem zk9 : z_cok zT1 (z_cnt zL0) 20000 [56, 77, 175] zm36 zc9 znl9 = true := z_cok_of zk9_0 (zk9_1)
set_option maxRecDepth 100000 in
def zn10_0 : zNd := (56, (z_li [(.ofNat 0, .ofNat 0), (.negSucc 2147483647, .ofNat 2147483647), (.negSucc 2147483647, .ofNat 2147483647), (.negSucc 2147483647, .ofNat 2147483647), (.negSucc 2147483647, .ofNat 2147483647), (.negSucc 2147483647, .ofNat 2147483647), (.negSucc 2147483647, .ofNat 2147483647), (.negSucc 2147483647, .ofNat 2147483647), (.negSucc 2147483647, .ofNat 2147483647), (.negSucc 2147483647, .ofNat 2147483647), (.negSucc 2147483647, .ofNat 2147483647), (.negSucc 2147483646, .ofNat 2147483647), (.negSucc 715827880, .ofNat 715827883), (.negSucc 2147483647, .ofNat 2147483647), (.ofNat 0, .ofNat 2147483647)] (false, [], [], [])), [(0, (2, 59, .ofNat 0)), (3, (0, 12, .ofNat 0)), (4, (0, 13, .ofNat 0)), (5, (0, 14, .ofNat 0))], [], [], [(12, 1, 0, 3, 0), (13, 1, 0, 4, 0), (14, 1, 0, 5, 0)], (.ofNat 6442450943, [(14, .negSucc 2)]), none)
set_option maxRecDepth 100000 in
def zn10_1 : zNd := (77, (z_li [(.ofNat 0, .ofNat 0), (.negSucc 2147483647, .ofNat 2147483647), (.negSucc 2147483647, .ofNat 2147483647), (.negSucc 2147483647, .ofNat 2147483647), (.negSucc 2147483647, .ofNat 2147483647), (.negSucc 2147483647, .ofNat 2147483647), (.negSucc 2147483647, .ofNat 2147483647), (.negSucc 2147483647, .ofNat 2147483647), (.negSucc 2147483647, .ofNat 2147483647), (.negSucc 2147483647, .ofNat 2147483647), (.negSucc 2147483647, .ofNat 2147483647), (.negSucc 2147483646, .ofNat 2147483647), (.ofNat 1, .ofNat 715827883), (.negSucc 2147483647, .ofNat 2147483647), (.ofNat 0, .ofNat 1000000000), (.negSucc 2147483647, .ofNat 2147483647)] (false, [], [], [])), [(0, (2, 59, .ofNat 0)), (3, (0, 12, .ofNat 0)), (4, (0, 13, .ofNat 0)), (5, (0, 14, .ofNat 0)), (6, (0, 15, .ofNat 0))], [], [], [(12, 1, 0, 3, 0), (13, 1, 0, 4, 0), (14, 1, 0, 5, 0), (15, 1, 0, 6, 0)], (.ofNat 6442450942, [(14, .negSucc 2)]), none)
set_option maxRecDepth 100000 in
def zn10_2 : zNd := (175, (z_li [(.ofNat 0, .ofNat 0), (.negSucc 2147483647, .ofNat 2147483647), (.negSucc 2147483647, .ofNat 2147483647), (.negSucc 2147483647, .ofNat 2147483647), (.negSucc 2147483647, .ofNat 2147483647), (.negSucc 2147483647, .ofNat 2147483647), (.negSucc 2147483647, .ofNat 2147483647), (.negSucc 2147483647, .ofNat 2147483647), (.negSucc 2147483647, .ofNat 2147483647), (.negSucc 2147483647, .ofNat 2147483647), (.negSucc 2147483647, .ofNat 2147483647), (.negSucc 2147483646, .ofNat 2147483647), (.ofNat 1, .ofNat 715827883), (.negSucc 2147483647, .ofNat 2147483647), (.ofNat 0, .ofNat 1000000000), (.negSucc 2147483647, .ofNat 2147483647)] (false, [], [], [])), [(0, (2, 59, .ofNat 0)), (3, (0, 12, .ofNat 0)), (4, (0, 13, .ofNat 0)), (5, (0, 14, .ofNat 0)), (6, (0, 15, .ofNat 0))], [], [], [(12, 1, 0, 3, 0), (13, 1, 0, 4, 0), (14, 1, 0, 5, 0), (15, 1, 0, 6, 0)], (.ofNat 6442450941, [(14, .negSucc 2)]), none)
def zg10_1 : List zNd := [zn10_0, zn10_1, zn10_2]
def znl10 : List zNd := zg10_1
set_option maxRecDepth 100000 in
theorem zk10_0 : z_ck0 zT1 (z_cnt zL0) 20000 [56, 77, 175] zm36 zc10 znl10 = true := by decide +kernel
set_option maxRecDepth 100000 in
theorem zk10_1 : z_ckn zT1 (z_cnt zL0) 20000 [56, 77, 175] zm36 zc10 znl10 zg10_1 = true := by decide +kernel
theorem zk10 : z_cok zT1 (z_cnt zL0) 20000 [56, 77, 175] zm36 zc10 znl10 = true := z_cok_of zk10_0 (zk10_1)
set_option maxRecDepth 100000 in
def zn11_0 : zNd := (56, (z_li [(.ofNat 0, .ofNat 0), (.negSucc 2147483647, .ofNat 2147483647), (.negSucc 2147483647, .ofNat 2147483647), (.negSucc 2147483647, .ofNat 2147483647), (.negSucc 2147483647, .ofNat 2147483647), (.negSucc 2147483647, .ofNat 2147483647), (.negSucc 2147483647, .ofNat 2147483647), (.negSucc 2147483647, .ofNat 2147483647), (.negSucc 2147483647, .ofNat 2147483647), (.negSucc 2147483647, .ofNat 2147483647), (.negSucc 2147483647, .ofNat 2147483647), (.negSucc 2147483646, .ofNat 2147483647), (.negSucc 715827880, .ofNat 715827883), (.negSucc 2147483647, .ofNat 2147483647), (.ofNat 0, .ofNat 2147483647)] (false, [], [], [])), [(0, (2, 74, .ofNat 0)), (3, (0, 12, .ofNat 0)), (4, (0, 13, .ofNat 0)), (5, (0, 14, .ofNat 0))], [], [], [(12, 1, 0, 3, 0), (13, 1, 0, 4, 0), (14, 1, 0, 5, 0)], (.ofNat 6442450943, [(14, .negSucc 2)]), none)
set_option maxRecDepth 100000 in
def zn11_1 : zNd := (77, (z_li [(.ofNat 0, .ofNat 0), (.negSucc 2147483647, .ofNat 2147483647), (.negSucc 2147483647, .ofNat 2147483647), (.negSucc 2147483647, .ofNat 2147483647), (.negSucc 2147483647, .ofNat 2147483647), (.negSucc 2147483647, .ofNat 2147483647), (.negSucc 2147483647, .ofNat 2147483647), (.negSucc 2147483647, .ofNat 2147483647), (.negSucc 2147483647, .ofNat 2147483647), (.negSucc 2147483647, .ofNat 2147483647), (.negSucc 2147483647, .ofNat 2147483647), (.negSucc 2147483646, .ofNat 2147483647), (.ofNat 1, .ofNat 715827883), (.negSucc 2147483647, .ofNat 2147483647), (.ofNat 0, .ofNat 1000000000), (.negSucc 2147483647, .ofNat 2147483647)] (false, [], [], [])), [(0, (2, 74, .ofNat 0)), (3, (0, 12, .ofNat 0)), (4, (0, 13, .ofNat 0)), (5, (0, 14, .ofNat 0)), (6, (0, 15, .ofNat 0))], [], [], [(12, 1, 0, 3, 0), (13, 1, 0, 4, 0), (14, 1, 0, 5, 0), (15, 1, 0, 6, 0)], (.ofNat 6442450942, [(14, .negSucc 2)]), none)
set_option maxRecDepth 100000 in
def zn11_2 : zNd := (175, (z_li [(.ofNat 0, .ofNat 0), (.negSucc 2147483647, .ofNat 2147483647), (.negSucc 2147483647, .ofNat 2147483647), (.negSucc 2147483647, .ofNat 2147483647), (.negSucc 2147483647, .ofNat 2147483647), (.negSucc 2147483647, .ofNat 2147483647), (.negSucc 2147483647, .ofNat 2147483647), (.negSucc 2147483647, .ofNat 2147483647), (.negSucc 2147483647, .ofNat 2147483647), (.negSucc 2147483647, .ofNat 2147483647), (.negSucc 2147483647, .ofNat 2147483647), (.negSucc 2147483646, .ofNat 2147483647), (.ofNat 1, .ofNat 715827883), (.negSucc 2147483647, .ofNat 2147483647), (.ofNat 0, .ofNat 1000000000), (.negSucc 2147483647, .ofNat 2147483647)] (false, [], [], [])), [(0, (2, 74, .ofNat 0)), (3, (0, 12, .ofNat 0)), (4, (0, 13, .ofNat 0)), (5, (0, 14, .ofNat 0)), (6, (0, 15, .ofNat 0))], [], [], [(12, 1, 0, 3, 0), (13, 1, 0, 4, 0), (14, 1, 0, 5, 0), (15, 1, 0, 6, 0)], (.ofNat 6442450941, [(14, .negSucc 2)]), none)
def zg11_1 : List zNd := [zn11_0, zn11_1, zn11_2]
def znl11 : List zNd := zg11_1
set_option maxRecDepth 100000 in
theorem zk11_0 : z_ck0 zT1 (z_cnt zL0) 20000 [56, 77, 175] zm36 zc11 znl11 = true := by decide +kernel
set_option maxRecDepth 100000 in
theorem zk11_1 : z_ckn zT1 (z_cnt zL0) 20000 [56, 77, 175] zm36 zc11 znl11 zg11_1 = true := by decide +kernel
theorem zk11 : z_cok zT1 (z_cnt zL0) 20000 [56, 77, 175] zm36 zc11 znl11 = true := z_cok_of zk11_0 (zk11_1)
set_option maxRecDepth 100000 in
def zn12_0 : zNd := (39, (z_li [(.ofNat 0, .ofNat 0), (.negSucc 2147483647, .ofNat 2147483647), (.negSucc 2147483647, .ofNat 2147483647), (.negSucc 2147483647, .ofNat 2147483647), (.negSucc 2147483647, .ofNat 2147483647), (.negSucc 2147483647, .ofNat 2147483647), (.negSucc 2147483647, .ofNat 2147483647), (.negSucc 2147483647, .ofNat 2147483647), (.negSucc 2147483647, .ofNat 2147483647), (.negSucc 2147483647, .ofNat 2147483647), (.ofNat 0, .ofNat 700), (.ofNat 0, .ofNat 700), (.ofNat 0, .ofNat 0), (.ofNat 0, .ofNat 700)] (true, [(.ofNat 0, [(10, .negSucc 0), (13, .ofNat 1)])], [], [])), [(0, (2, 155, .ofNat 0))], [], [(155, 7, 1, (0, 11, .ofNat 0)), (155, 8, 1, (0, 13, .ofNat 0)), (155, 12, 1, (0, 12, .ofNat 0))], [(13, 1, 2, 155, 8)], (.ofNat 1402, []), none)
set_option maxRecDepth 100000 in
def zn12_1 : zNd := (36, (z_li [(.ofNat 0, .ofNat 0), (.negSucc 2147483647, .ofNat 2147483647), (.negSucc 2147483647, .ofNat 2147483647), (.negSucc 2147483647, .ofNat 2147483647), (.negSucc 2147483647, .ofNat 2147483647), (.negSucc 2147483647, .ofNat 2147483647), (.negSucc 2147483647, .ofNat 2147483647), (.negSucc 2147483647, .ofNat 2147483647), (.negSucc 2147483647, .ofNat 2147483647), (.negSucc 2147483647, .ofNat 2147483647), (.ofNat 0, .ofNat 699), (.ofNat 1, .ofNat 700), (.ofNat 0, .ofNat 0), (.ofNat 0, .ofNat 700)] (true, [(.ofNat 0, [(10, .negSucc 0), (13, .ofNat 1)]), (.negSucc 0, [(10, .negSucc 0), (13, .ofNat 1)])], [], [])), [(0, (2, 155, .ofNat 0))], [], [(155, 7, 1, (0, 11, .ofNat 0)), (155, 8, 1, (0, 13, .ofNat 0)), (155, 12, 1, (0, 12, .ofNat 0))], [(13, 1, 2, 155, 8)], (.ofNat 2103, [(13, .negSucc 0)]), none)
set_option maxRecDepth 100000 in
def zn12_2 : zNd := (203, (z_li [(.ofNat 0, .ofNat 0), (.negSucc 2147483647, .ofNat 2147483647), (.negSucc 2147483647, .ofNat 2147483647), (.negSucc 2147483647, .ofNat 2147483647), (.negSucc 2147483647, .ofNat 2147483647), (.negSucc 2147483647, .ofNat 2147483647), (.negSucc 2147483647, .ofNat 2147483647), (.negSucc 2147483647, .ofNat 2147483647), (.negSucc 2147483647, .ofNat 2147483647), (.negSucc 2147483647, .ofNat 2147483647), (.ofNat 0, .ofNat 699), (.ofNat 1, .ofNat 700), (.ofNat 0, .ofNat 0), (.ofNat 0, .ofNat 700)] (true, [(.ofNat 0, [(10, .negSucc 0), (13, .ofNat 1)]), (.negSucc 0, [(10, .negSucc 0), (13, .ofNat 1)])], [], [])), [(0, (2, 155, .ofNat 0))], [], [(155, 7, 1, (0, 11, .ofNat 0)), (155, 8, 1, (0, 13, .ofNat 0)), (155, 12, 1, (0, 12, .ofNat 0))], [(13, 1, 2, 155, 8)], (.ofNat 700, [(13, .negSucc 0)]), none)
set_option maxRecDepth 100000 in
def zn12_3 : zNd := (114, (z_li [(.ofNat 0, .ofNat 0), (.negSucc 2147483647, .ofNat 2147483647), (.negSucc 2147483647, .ofNat 2147483647), (.negSucc 2147483647, .ofNat 2147483647), (.negSucc 2147483647, .ofNat 2147483647), (.negSucc 2147483647, .ofNat 2147483647), (.negSucc 2147483647, .ofNat 2147483647), (.negSucc 2147483647, .ofNat 2147483647), (.negSucc 2147483647, .ofNat 2147483647), (.negSucc 2147483647, .ofNat 2147483647), (.ofNat 0, .ofNat 699), (.ofNat 1, .ofNat 700), (.ofNat 0, .ofNat 0), (.ofNat 0, .ofNat 700)] (true, [(.ofNat 0, [(10, .negSucc 0), (13, .ofNat 1)]), (.negSucc 0, [(10, .negSucc 0), (13, .ofNat 1)])], [], [])), [(0, (2, 155, .ofNat 0))], [], [(155, 7, 1, (0, 11, .ofNat 0)), (155, 8, 1, (0, 13, .ofNat 0)), (155, 12, 1, (0, 12, .ofNat 0))], [(13, 1, 2, 155, 8)], (.ofNat 1401, [(13, .negSucc 0)]), none)
def zg12_1 : List zNd := [zn12_0, zn12_1, zn12_2, zn12_3]
def znl12 : List zNd := zg12_1
set_option maxRecDepth 100000 in
theorem zk12_0 : z_ck0 zT1 (z_cnt zL0) 20000 [36, 39, 114, 203] zm43 zc12 znl12 = true := by decide +kernel
set_option maxRecDepth 100000 in
theorem zk12_1 : z_ckn zT1 (z_cnt zL0) 20000 [36, 39, 114, 203] zm43 zc12 znl12 zg12_1 = true := by decide +kernel
theorem zk12 : z_cok zT1 (z_cnt zL0) 20000 [36, 39, 114, 203] zm43 zc12 znl12 = true := z_cok_of zk12_0 (zk12_1)
set_option maxRecDepth 100000 in
theorem zk13 : z_cok zT1 (z_cnt zL0) 20000 [] zm48 zc13 [] = true := by decide +kernel
set_option maxRecDepth 100000 in
theorem zk14 : z_cok zT1 (z_cnt zL0) 20000 [] zm48 zc14 [] = true := by decide +kernel
set_option maxRecDepth 100000 in
theorem zk15 : z_cok zT1 (z_cnt zL0) 20000 [] zm48 zc15 [] = true := by decide +kernel
set_option maxRecDepth 100000 in
theorem zk16 : z_cok zT1 (z_cnt zL0) 20000 [] zm48 zc16 [] = true := by decide +kernel
set_option maxRecDepth 100000 in
theorem zk17 : z_cok zT1 (z_cnt zL0) 20000 [] zm48 zc17 [] = true := by decide +kernel
set_option maxRecDepth 100000 in
theorem zk18 : z_cok zT1 (z_cnt zL0) 20000 [] zm48 zc18 [] = true := by decide +kernel
set_option maxRecDepth 100000 in
theorem zk19 : z_cok zT1 (z_cnt zL0) 20000 [] zm48 zc19 [] = true := by decide +kernel
set_option maxRecDepth 100000 in
theorem zk20 : z_cok zT1 (z_cnt zL0) 20000 [] zm53 zc20 [] = true := by decide +kernel
set_option maxRecDepth 100000 in
theorem zk21 : z_cok zT1 (z_cnt zL0) 20000 [] zm53 zc21 [] = true := by decide +kernel
set_option maxRecDepth 100000 in
theorem zk22 : z_cok zT1 (z_cnt zL0) 20000 [] zm53 zc22 [] = true := by decide +kernel
set_option maxRecDepth 100000 in
theorem zk23 : z_cok zT1 (z_cnt zL0) 20000 [] zm53 zc23 [] = true := by decide +kernel
set_option maxRecDepth 100000 in
theorem zk24 : z_cok zT1 (z_cnt zL0) 20000 [] zm53 zc24 [] = true := by decide +kernel
set_option maxRecDepth 100000 in
theorem zk25 : z_cok zT1 (z_cnt zL0) 20000 [] zm53 zc25 [] = true := by decide +kernel
set_option maxRecDepth 100000 in
theorem zk26 : z_cok zT1 (z_cnt zL0) 20000 [] zm53 zc26 [] = true := by decide +kernel
set_option maxRecDepth 100000 in
theorem zk27 : z_cok zT1 (z_cnt zL0) 20000 [] zm53 zc27 [] = true := by decide +kernel
set_option maxRecDepth 100000 in
theorem zk28 : z_cok zT1 (z_cnt zL0) 20000 [] zm53 zc28 [] = true := by decide +kernel
set_option maxRecDepth 100000 in
theorem zk29 : z_cok zT1 (z_cnt zL0) 20000 [] zm53 zc29 [] = true := by decide +kernel
set_option maxRecDepth 100000 in
theorem zk30 : z_cok zT1 (z_cnt zL0) 20000 [] zm53 zc30 [] = true := by decide +kernel
set_option maxRecDepth 100000 in
def zn31_0 : zNd := (6, (z_li [(.ofNat 0, .ofNat 0), (.negSucc 2147483647, .ofNat 2147483647), (.negSucc 2147483647, .ofNat 2147483647), (.negSucc 2147483647, .ofNat 2147483647), (.negSucc 2147483647, .ofNat 2147483647), (.negSucc 2147483647, .ofNat 2147483647), (.negSucc 2147483647, .ofNat 2147483647), (.negSucc 2147483647, .ofNat 2147483647), (.negSucc 2147483647, .ofNat 2147483647), (.negSucc 2147483647, .ofNat 2147483647), (.ofNat 0, .ofNat 88), (.ofNat 0, .ofNat 17), (.ofNat 0, .ofNat 7), (.ofNat 0, .ofNat 1), (.ofNat 0, .ofNat 7)] (false, [], [], [])), [(0, (2, 155, .ofNat 0)), (1, (0, 10, .ofNat 0)), (2, (0, 11, .ofNat 0)), (3, (0, 12, .ofNat 0)), (4, (0, 13, .ofNat 0)), (5, (0, 14, .ofNat 0))], [], [], [(13, 1, 0, 4, 0), (14, 1, 0, 5, 0)], (.ofNat 7, [(14, .negSucc 0)]), none)
def zg31_1 : List zNd := [zn31_0]
def znl31 : List zNd := zg31_1
set_option maxRecDepth 100000 in
theorem zk31_0 : z_ck0 zT1 (z_cnt zL0) 20000 [6] zm57 zc31 znl31 = true := by decide +kernel
set_option maxRecDepth 100000 in
theorem zk31_1 : z_ckn zT1 (z_cnt zL0) 20000 [6] zm57 zc31 znl31 zg31_1 = true := by decide +kernel
theorem zk31 : z_cok zT1 (z_cnt zL0) 20000 [6] zm57 zc31 znl31 = true := z_cok_of zk31_0 (zk31_1)
set_option maxRecDepth 100000 in
def zn32_0 : zNd := (2, (z_li [(.ofNat 0, .ofNat 0), (.negSucc 2147483647, .ofNat 2147483647), (.negSucc 2147483647, .ofNat 2147483647), (.negSucc 2147483647, .ofNat 2147483647), (.negSucc 2147483647, .ofNat 2147483647), (.negSucc 2147483647, .ofNat 2147483647), (.negSucc 2147483647, .ofNat 2147483647), (.negSucc 2147483647, .ofNat 2147483647), (.negSucc 2147483647, .ofNat 2147483647), (.negSucc 2147483647, .ofNat 2147483647), (.ofNat 0, .ofNat 255), (.ofNat 0, .ofNat 100)] (false, [], [], [])), [(0, (2, 155, .ofNat 0)), (1, (0, 10, .ofNat 0)), (2, (0, 11, .ofNat 0))], [], [], [(11, 1, 0, 2, 0)], (.ofNat 109, [(11, .negSucc 0)]), none)
set_option maxRecDepth 100000 in
def zn32_1 : zNd := (23, (z_li [(.ofNat 0, .ofNat 0), (.negSucc 2147483647, .ofNat 2147483647), (.negSucc 2147483647, .ofNat 2147483647), (.negSucc 2147483647, .ofNat 2147483647), (.negSucc 2147483647, .ofNat 2147483647), (.negSucc 2147483647, .ofNat 2147483647), (.negSucc 2147483647, .ofNat 2147483647), (.negSucc 2147483647, .ofNat 2147483647), (.negSucc 2147483647, .ofNat 2147483647), (.negSucc 2147483647, .ofNat 2147483647), (.ofNat 0, .ofNat 255), (.ofNat 0, .ofNat 8)] (false, [], [], [])), [(0, (2, 155, .ofNat 0)), (1, (0, 10, .ofNat 0)), (2, (0, 11, .ofNat 0))], [], [], [(11, 1, 0, 2, 0)], (.ofNat 8, [(11, .negSucc 0)]), none)
def zg32_1 : List zNd := [zn32_0, zn32_1]
def znl32 : List zNd := zg32_1
set_option maxRecDepth 100000 in
theorem zk32_0 : z_ck0 zT1 (z_cnt zL0) 20000 [2, 23] zm78 zc32 znl32 = true := by decide +kernel
set_option maxRecDepth 100000 in
theorem zk32_1 : z_ckn zT1 (z_cnt zL0) 20000 [2, 23] zm78 zc32 znl32 zg32_1 = true := by decide +kernel
theorem zk32 : z_cok zT1 (z_cnt zL0) 20000 [2, 23] zm78 zc32 znl32 = true := z_cok_of zk32_0 (zk32_1)
set_option maxRecDepth 100000 in
theorem zk33 : z_cok zT1 (z_cnt zL0) 20000 [] zm87 zc33 [] = true := by decide +kernel
set_option maxRecDepth 100000 in
theorem zk34 : z_cok zT1 (z_cnt zL0) 20000 [] zm90 zc34 [] = true := by decide +kernel
set_option maxRecDepth 100000 in
def zn35_0 : zNd := (5, (z_li [(.ofNat 0, .ofNat 0), (.negSucc 2147483647, .ofNat 2147483647), (.negSucc 2147483647, .ofNat 2147483647), (.negSucc 2147483647, .ofNat 2147483647), (.negSucc 2147483647, .ofNat 2147483647), (.negSucc 2147483647, .ofNat 2147483647), (.negSucc 2147483647, .ofNat 2147483647), (.negSucc 2147483647, .ofNat 2147483647), (.negSucc 2147483647, .ofNat 2147483647), (.negSucc 2147483647, .ofNat 2147483647), (.negSucc 2147483647, .ofNat 2147483647), (.ofNat 0, .ofNat 14), (.ofNat 0, .ofNat 63), (.ofNat 0, .ofNat 6)] (false, [], [], [])), [(0, (2, 0, .ofNat 0)), (1, (0, 10, .ofNat 0)), (2, (0, 11, .ofNat 0)), (3, (0, 12, .ofNat 0)), (4, (0, 13, .ofNat 0))], [], [], [(12, 1, 0, 3, 0), (13, 1, 0, 4, 0)], (.ofNat 6, [(13, .negSucc 0)]), none)
def zg35_1 : List zNd := [zn35_0]
def znl35 : List zNd := zg35_1
set_option maxRecDepth 100000 in
theorem zk35_0 : z_ck0 zT1 (z_cnt zL0) 20000 [5] zm95 zc35 znl35 = true := by decide +kernel
set_option maxRecDepth 100000 in
theorem zk35_1 : z_ckn zT1 (z_cnt zL0) 20000 [5] zm95 zc35 znl35 zg35_1 = true := by decide +kernel
theorem zk35 : z_cok zT1 (z_cnt zL0) 20000 [5] zm95 zc35 znl35 = true := z_cok_of zk35_0 (zk35_1)
set_option maxRecDepth 100000 in
theorem zk36 : z_cok zT1 (z_cnt zL0) 20000 [] zm96 zc36 [] = true := by decide +kernel
set_option maxRecDepth 100000 in
def zn37_0 : zNd := (5, (z_li [(.ofNat 0, .ofNat 0), (.negSucc 2147483647, .ofNat 2147483647), (.negSucc 2147483647, .ofNat 2147483647), (.negSucc 2147483647, .ofNat 2147483647), (.negSucc 2147483647, .ofNat 2147483647), (.negSucc 2147483647, .ofNat 2147483647), (.negSucc 2147483647, .ofNat 2147483647), (.negSucc 2147483647, .ofNat 2147483647), (.negSucc 2147483647, .ofNat 2147483647), (.negSucc 2147483647, .ofNat 2147483647), (.negSucc 0, .ofNat 99), (.ofNat 0, .ofNat 14), (.ofNat 0, .ofNat 63), (.ofNat 0, .ofNat 6)] (false, [], [], [])), [(0, (2, 155, .ofNat 0)), (1, (0, 10, .ofNat 0)), (2, (0, 11, .ofNat 0)), (3, (0, 12, .ofNat 0)), (4, (0, 13, .ofNat 0))], [], [], [(12, 1, 0, 3, 0), (13, 1, 0, 4, 0)], (.ofNat 6, [(13, .negSucc 0)]), none)
def zg37_1 : List zNd := [zn37_0]
def znl37 : List zNd := zg37_1
set_option maxRecDepth 100000 in
theorem zk37_0 : z_ck0 zT1 (z_cnt zL0) 20000 [5] zm97 zc37 znl37 = true := by decide +kernel
set_option maxRecDepth 100000 in
theorem zk37_1 : z_ckn zT1 (z_cnt zL0) 20000 [5] zm97 zc37 znl37 zg37_1 = true := by decide +kernel
theorem zk37 : z_cok zT1 (z_cnt zL0) 20000 [5] zm97 zc37 znl37 = true := z_cok_of zk37_0 (zk37_1)
set_option maxRecDepth 100000 in
def zn38_0 : zNd := (4, (z_li [(.ofNat 0, .ofNat 0), (.negSucc 2147483647, .ofNat 2147483647), (.negSucc 2147483647, .ofNat 2147483647), (.negSucc 2147483647, .ofNat 2147483647), (.negSucc 2147483647, .ofNat 2147483647), (.negSucc 2147483647, .ofNat 2147483647), (.negSucc 2147483647, .ofNat 2147483647), (.negSucc 2147483647, .ofNat 2147483647), (.negSucc 2147483647, .ofNat 2147483647), (.negSucc 2147483647, .ofNat 2147483647), (.ofNat 0, .ofNat 13), (.ofNat 0, .ofNat 63), (.ofNat 0, .ofNat 6)] (false, [], [], [])), [(0, (2, 0, .ofNat 0)), (1, (0, 10, .ofNat 0)), (2, (0, 11, .ofNat 0)), (3, (0, 12, .ofNat 0))], [], [], [(11, 1, 0, 2, 0), (12, 1, 0, 3, 0)], (.ofNat 6, [(12, .negSucc 0)]), none)
def zg38_1 : List zNd := [zn38_0]
def znl38 : List zNd := zg38_1
set_option maxRecDepth 100000 in
theorem zk38_0 : z_ck0 zT1 (z_cnt zL0) 20000 [4] zm99 zc38 znl38 = true := by decide +kernel
set_option maxRecDepth 100000 in
theorem zk38_1 : z_ckn zT1 (z_cnt zL0) 20000 [4] zm99 zc38 znl38 zg38_1 = true := by decide +kernel
theorem zk38 : z_cok zT1 (z_cnt zL0) 20000 [4] zm99 zc38 znl38 = true := z_cok_of zk38_0 (zk38_1)
set_option maxRecDepth 100000 in
def zn39_0 : zNd := (4, (z_li [(.ofNat 0, .ofNat 0), (.negSucc 2147483647, .ofNat 2147483647), (.negSucc 2147483647, .ofNat 2147483647), (.negSucc 2147483647, .ofNat 2147483647), (.negSucc 2147483647, .ofNat 2147483647), (.negSucc 2147483647, .ofNat 2147483647), (.negSucc 2147483647, .ofNat 2147483647), (.negSucc 2147483647, .ofNat 2147483647), (.negSucc 2147483647, .ofNat 2147483647), (.negSucc 2147483647, .ofNat 2147483647), (.ofNat 0, .ofNat 13), (.ofNat 0, .ofNat 63), (.ofNat 0, .ofNat 6)] (false, [], [], [])), [(0, (2, 155, .ofNat 0)), (1, (0, 10, .ofNat 0)), (2, (0, 11, .ofNat 0)), (3, (0, 12, .ofNat 0))], [], [], [(11, 1, 0, 2, 0), (12, 1, 0, 3, 0)], (.ofNat 6, [(12, .negSucc 0)]), none)
def zg39_1 : List zNd := [zn39_0]
def znl39 : List zNd := zg39_1
set_option maxRecDepth 100000 in
theorem zk39_0 : z_ck0 zT1 (z_cnt zL0) 20000 [4] zm102 zc39 znl39 = true := by decide +kernel
set_option maxRecDepth 100000 in
theorem zk39_1 : z_ckn zT1 (z_cnt zL0) 20000 [4] zm102 zc39 znl39 zg39_1 = true := by decide +kernel
theorem zk39 : z_cok zT1 (z_cnt zL0) 20000 [4] zm102 zc39 znl39 = true := z_cok_of zk39_0 (zk39_1)
set_option maxRecDepth 100000 in
def zn40_0 : zNd := (4, (z_li [(.ofNat 0, .ofNat 0), (.negSucc 2147483647, .ofNat 2147483647), (.negSucc 2147483647, .ofNat 2147483647), (.negSucc 2147483647, .ofNat 2147483647), (.negSucc 2147483647, .ofNat 2147483647), (.negSucc 2147483647, .ofNat 2147483647), (.negSucc 2147483647, .ofNat 2147483647), (.negSucc 2147483647, .ofNat 2147483647), (.negSucc 2147483647, .ofNat 2147483647), (.negSucc 2147483647, .ofNat 2147483647), (.negSucc 2147483647, .ofNat 2147483647), (.ofNat 0, .ofNat 14)] (false, [], [], [])), [(0, (2, 44, .ofNat 0)), (1, (0, 10, .ofNat 0)), (2, (0, 11, .ofNat 0))], [], [], [(10, 1, 0, 1, 0), (11, 1, 0, 2, 0)], (.ofNat 14, [(11, .negSucc 0)]), none)
def zg40_1 : List zNd := [zn40_0]
def znl40 : List zNd := zg40_1
set_option maxRecDepth 100000 in
theorem zk40_0 : z_ck0 zT1 (z_cnt zL0) 20000 [4] zm103 zc40 znl40 = true := by decide +kernel
set_option maxRecDepth 100000 in
theorem zk40_1 : z_ckn zT1 (z_cnt zL0) 20000 [4] zm103 zc40 znl40 zg40_1 = true := by decide +kernel
theorem zk40 : z_cok zT1 (z_cnt zL0) 20000 [4] zm103 zc40 znl40 = true := z_cok_of zk40_0 (zk40_1)
set_option maxRecDepth 100000 in
def zn41_0 : zNd := (4, (z_li [(.ofNat 0, .ofNat 0), (.negSucc 2147483647, .ofNat 2147483647), (.negSucc 2147483647, .ofNat 2147483647), (.negSucc 2147483647, .ofNat 2147483647), (.negSucc 2147483647, .ofNat 2147483647), (.negSucc 2147483647, .ofNat 2147483647), (.negSucc 2147483647, .ofNat 2147483647), (.negSucc 2147483647, .ofNat 2147483647), (.negSucc 2147483647, .ofNat 2147483647), (.negSucc 2147483647, .ofNat 2147483647), (.negSucc 2147483647, .ofNat 2147483647), (.ofNat 0, .ofNat 14)] (false, [], [], [])), [(0, (2, 47, .ofNat 0)), (1, (0, 10, .ofNat 0)), (2, (0, 11, .ofNat 0))], [], [], [(10, 1, 0, 1, 0), (11, 1, 0, 2, 0)], (.ofNat 14, [(11, .negSucc 0)]), none)
def zg41_1 : List zNd := [zn41_0]
def znl41 : List zNd := zg41_1
set_option maxRecDepth 100000 in
theorem zk41_0 : z_ck0 zT1 (z_cnt zL0) 20000 [4] zm103 zc41 znl41 = true := by decide +kernel
set_option maxRecDepth 100000 in
theorem zk41_1 : z_ckn zT1 (z_cnt zL0) 20000 [4] zm103 zc41 znl41 zg41_1 = true := by decide +kernel
theorem zk41 : z_cok zT1 (z_cnt zL0) 20000 [4] zm103 zc41 znl41 = true := z_cok_of zk41_0 (zk41_1)
set_option maxRecDepth 100000 in
def zn42_0 : zNd := (4, (z_li [(.ofNat 0, .ofNat 0), (.negSucc 2147483647, .ofNat 2147483647), (.negSucc 2147483647, .ofNat 2147483647), (.negSucc 2147483647, .ofNat 2147483647), (.negSucc 2147483647, .ofNat 2147483647), (.negSucc 2147483647, .ofNat 2147483647), (.negSucc 2147483647, .ofNat 2147483647), (.negSucc 2147483647, .ofNat 2147483647), (.negSucc 2147483647, .ofNat 2147483647), (.negSucc 2147483647, .ofNat 2147483647), (.negSucc 2147483647, .ofNat 2147483647), (.ofNat 0, .ofNat 14)] (false, [], [], [])), [(0, (2, 50, .ofNat 0)), (1, (0, 10, .ofNat 0)), (2, (0, 11, .ofNat 0))], [], [], [(10, 1, 0, 1, 0), (11, 1, 0, 2, 0)], (.ofNat 14, [(11, .negSucc 0)]), none)
def zg42_1 : List zNd := [zn42_0]
def znl42 : List zNd := zg42_1
set_option maxRecDepth 100000 in
theorem zk42_0 : z_ck0 zT1 (z_cnt zL0) 20000 [4] zm103 zc42 znl42 = true := by decide +kernel
set_option maxRecDepth 100000 in
theorem zk42_1 : z_ckn zT1 (z_cnt zL0) 20000 [4] zm103 zc42 znl42 zg42_1 = true := by decide +kernel
theorem zk42 : z_cok zT1 (z_cnt zL0) 20000 [4] zm103 zc42 znl42 = true := z_cok_of zk42_0 (zk42_1)
set_option maxRecDepth 100000 in
def zn43_0 : zNd := (4, (z_li [(.ofNat 0, .ofNat 0), (.negSucc 2147483647, .ofNat 2147483647), (.negSucc 2147483647, .ofNat 2147483647), (.negSucc 2147483647, .ofNat 2147483647), (.negSucc 2147483647, .ofNat 2147483647), (.negSucc 2147483647, .ofNat 2147483647), (.negSucc 2147483647, .ofNat 2147483647), (.negSucc 2147483647, .ofNat 2147483647), (.negSucc 2147483647, .ofNat 2147483647), (.negSucc 2147483647, .ofNat 2147483647), (.negSucc 2147483647, .ofNat 2147483647), (.ofNat 0, .ofNat 14)] (false, [], [], [])), [(0, (2, 53, .ofNat 0)), (1, (0, 10, .ofNat 0)), (2, (0, 11, .ofNat 0))], [], [], [(10, 1, 0, 1, 0), (11, 1, 0, 2, 0)], (.ofNat 14, [(11, .negSucc 0)]), none)
def zg43_1 : List zNd := [zn43_0]
def znl43 : List zNd := zg43_1
set_option maxRecDepth 100000 in
theorem zk43_0 : z_ck0 zT1 (z_cnt zL0) 20000 [4] zm103 zc43 znl43 = true := by decide +kernel
set_option maxRecDepth 100000 in
theorem zk43_1 : z_ckn zT1 (z_cnt zL0) 20000 [4] zm103 zc43 znl43 zg43_1 = true := by decide +kernel
theorem zk43 : z_cok zT1 (z_cnt zL0) 20000 [4] zm103 zc43 znl43 = true := z_cok_of zk43_0 (zk43_1)
set_option maxRecDepth 100000 in
def zn44_0 : zNd := (4, (z_li [(.ofNat 0, .ofNat 0), (.negSucc 2147483647, .ofNat 2147483647), (.negSucc 2147483647, .ofNat 2147483647), (.negSucc 2147483647, .ofNat 2147483647), (.negSucc 2147483647, .ofNat 2147483647), (.negSucc 2147483647, .ofNat 2147483647), (.negSucc 2147483647, .ofNat 2147483647), (.negSucc 2147483647, .ofNat 2147483647), (.negSucc 2147483647, .ofNat 2147483647), (.negSucc 2147483647, .ofNat 2147483647), (.negSucc 2147483647, .ofNat 2147483647), (.ofNat 0, .ofNat 14)] (false, [], [], [])), [(0, (2, 56, .ofNat 0)), (1, (0, 10, .ofNat 0)), (2, (0, 11, .ofNat 0))], [], [], [(10, 1, 0, 1, 0), (11, 1, 0, 2, 0)], (.ofNat 14, [(11, .negSucc 0)]), none)
def zg44_1 : List zNd := [zn44_0]
def znl44 : List zNd := zg44_1
set_option maxRecDepth 100000 in
theorem zk44_0 : z_ck0 zT1 (z_cnt zL0) 20000 [4] zm103 zc44 znl44 = true := by decide +kernel
set_option maxRecDepth 100000 in
theorem zk44_1 : z_ckn zT1 (z_cnt zL0) 20000 [4] zm103 zc44 znl44 zg44_1 = true := by decide +kernel
theorem zk44 : z_cok zT1 (z_cnt zL0) 20000 [4] zm103 zc44 znl44 = true := z_cok_of zk44_0 (zk44_1)
set_option maxRecDepth 100000 in
def zn45_0 : zNd := (4, (z_li [(.ofNat 0, .ofNat 0), (.negSucc 2147483647, .ofNat 2147483647), (.negSucc 2147483647, .ofNat 2147483647), (.negSucc 2147483647, .ofNat 2147483647), (.negSucc 2147483647, .ofNat 2147483647), (.negSucc 2147483647, .ofNat 2147483647), (.negSucc 2147483647, .ofNat 2147483647), (.negSucc 2147483647, .ofNat 2147483647), (.negSucc 2147483647, .ofNat 2147483647), (.negSucc 2147483647, .ofNat 2147483647), (.negSucc 2147483647, .ofNat 2147483647), (.ofNat 0, .ofNat 14)] (false, [], [], [])), [(0, (2, 59, .ofNat 0)), (1, (0, 10, .ofNat 0)), (2, (0, 11, .ofNat 0))], [], [], [(10, 1, 0, 1, 0), (11, 1, 0, 2, 0)], (.ofNat 14, [(11, .negSucc 0)]), none)
def zg45_1 : List zNd := [zn45_0]
def znl45 : List zNd := zg45_1
set_option maxRecDepth 100000 in
theorem zk45_0 : z_ck0 zT1 (z_cnt zL0) 20000 [4] zm103 zc45 znl45 = true := by decide +kernel
set_option maxRecDepth 100000 in
theorem zk45_1 : z_ckn zT1 (z_cnt zL0) 20000 [4] zm103 zc45 znl45 zg45_1 = true := by decide +kernel
theorem zk45 : z_cok zT1 (z_cnt zL0) 20000 [4] zm103 zc45 znl45 = true := z_cok_of zk45_0 (zk45_1)
set_option maxRecDepth 100000 in
def zn46_0 : zNd := (4, (z_li [(.ofNat 0, .ofNat 0), (.negSucc 2147483647, .ofNat 2147483647), (.negSucc 2147483647, .ofNat 2147483647), (.negSucc 2147483647, .ofNat 2147483647), (.negSucc 2147483647, .ofNat 2147483647), (.negSucc 2147483647, .ofNat 2147483647), (.negSucc 2147483647, .ofNat 2147483647), (.negSucc 2147483647, .ofNat 2147483647), (.negSucc 2147483647, .ofNat 2147483647), (.negSucc 2147483647, .ofNat 2147483647), (.negSucc 2147483647, .ofNat 2147483647), (.ofNat 0, .ofNat 14)] (false, [], [], [])), [(0, (2, 74, .ofNat 0)), (1, (0, 10, .ofNat 0)), (2, (0, 11, .ofNat 0))], [], [], [(10, 1, 0, 1, 0), (11, 1, 0, 2, 0)], (.ofNat 14, [(11, .negSucc 0)]), none)
def zg46_1 : List zNd := [zn46_0]
def znl46 : List zNd := zg46_1
set_option maxRecDepth 100000 in
theorem zk46_0 : z_ck0 zT1 (z_cnt zL0) 20000 [4] zm103 zc46 znl46 = true := by decide +kernel
set_option maxRecDepth 100000 in
theorem zk46_1 : z_ckn zT1 (z_cnt zL0) 20000 [4] zm103 zc46 znl46 zg46_1 = true := by decide +kernel
theorem zk46 : z_cok zT1 (z_cnt zL0) 20000 [4] zm103 zc46 znl46 = true := z_cok_of zk46_0 (zk46_1)
set_option maxRecDepth 100000 in
def zn47_0 : zNd := (4, (z_li [(.ofNat 0, .ofNat 0), (.negSucc 2147483647, .ofNat 2147483647), (.negSucc 2147483647, .ofNat 2147483647), (.negSucc 2147483647, .ofNat 2147483647), (.negSucc 2147483647, .ofNat 2147483647), (.negSucc 2147483647, .ofNat 2147483647), (.negSucc 2147483647, .ofNat 2147483647), (.negSucc 2147483647, .ofNat 2147483647), (.negSucc 2147483647, .ofNat 2147483647), (.negSucc 2147483647, .ofNat 2147483647), (.ofNat 0, .ofNat 5), (.negSucc 2147483647, .ofNat 2147483647), (.ofNat 0, .ofNat 14)] (false, [], [], [])), [(0, (2, 155, .ofNat 0)), (1, (0, 10, .ofNat 0)), (2, (0, 11, .ofNat 0)), (3, (0, 12, .ofNat 0))], [], [], [(11, 1, 0, 2, 0), (12, 1, 0, 3, 0)], (.ofNat 14, [(12, .negSucc 0)]), none)
def zg47_1 : List zNd := [zn47_0]
def znl47 : List zNd := zg47_1
set_option maxRecDepth 100000 in
theorem zk47_0 : z_ck0 zT1 (z_cnt zL0) 20000 [4] zm105 zc47 znl47 = true := by decide +kernel
set_option maxRecDepth 100000 in
theorem zk47_1 : z_ckn zT1 (z_cnt zL0) 20000 [4] zm105 zc47 znl47 zg47_1 = true := by decide +kernel
theorem zk47 : z_cok zT1 (z_cnt zL0) 20000 [4] zm105 zc47 znl47 = true := z_cok_of zk47_0 (zk47_1)
set_option maxRecDepth 100000 in
def zn48_0 : zNd := (4, (z_li [(.ofNat 0, .ofNat 0), (.negSucc 2147483647, .ofNat 2147483647), (.negSucc 2147483647, .ofNat 2147483647), (.negSucc 2147483647, .ofNat 2147483647), (.negSucc 2147483647, .ofNat 2147483647), (.negSucc 2147483647, .ofNat 2147483647), (.negSucc 2147483647, .ofNat 2147483647), (.negSucc 2147483647, .ofNat 2147483647), (.negSucc 2147483647, .ofNat 2147483647), (.negSucc 2147483647, .ofNat 2147483647), (.ofNat 0, .ofNat 5), (.negSucc 2147483647, .ofNat 2147483647), (.ofNat 0, .ofNat 15)] (false, [], [], [])), [(0, (2, 0, .ofNat 0)), (1, (0, 10, .ofNat 0)), (2, (0, 11, .ofNat 0)), (3, (0, 12, .ofNat 0))], [], [], [(11, 1, 0, 2, 0), (12, 1, 0, 3, 0)], (.ofNat 15, [(12, .negSucc 0)]), none)
def zg48_1 : List zNd := [zn48_0]
def znl48 : List zNd := zg48_1
set_option maxRecDepth 100000 in
theorem zk48_0 : z_ck0 zT1 (z_cnt zL0) 20000 [4] zm106 zc48 znl48 = true := by decide +kernel
set_option maxRecDepth 100000 in
theorem zk48_1 : z_ckn zT1 (z_cnt zL0) 20000 [4] zm106 zc48 znl48 zg48_1 = true := by decide +kernel
theorem zk48 : z_cok zT1 (z_cnt zL0) 20000 [4] zm106 zc48 znl48 = true := z_cok_of zk48_0 (zk48_1)
set_option maxRecDepth 100000 in
def zn49_0 : zNd := (4, (z_li [(.ofNat 0, .ofNat 0), (.negSucc 2147483647, .ofNat 2147483647), (.negSucc 2147483647, .ofNat 2147483647), (.negSucc 2147483647, .ofNat 2147483647), (.negSucc 2147483647, .ofNat 2147483647), (.negSucc 2147483647, .ofNat 2147483647), (.negSucc 2147483647, .ofNat 2147483647), (.negSucc 2147483647, .ofNat 2147483647), (.negSucc 2147483647, .ofNat 2147483647), (.negSucc 2147483647, .ofNat 2147483647), (.ofNat 0, .ofNat 5), (.negSucc 2147483647, .ofNat 2147483647), (.ofNat 0, .ofNat 15)] (false, [], [], [])), [(0, (2, 155, .ofNat 0)), (1, (0, 10, .ofNat 0)), (2, (0, 11, .ofNat 0)), (3, (0, 12, .ofNat 0))], [], [], [(11, 1, 0, 2, 0), (12, 1, 0, 3, 0)], (.ofNat 15, [(12, .negSucc 0)]), none)
def zg49_1 : List zNd := [zn49_0]
def znl49 : List zNd := zg49_1
set_option maxRecDepth 100000 in
theorem zk49_0 : z_ck0 zT1 (z_cnt zL0) 20000 [4] zm107 zc49 znl49 = true := by decide +kernel
set_option maxRecDepth 100000 in
theorem zk49_1 : z_ckn zT1 (z_cnt zL0) 20000 [4] zm107 zc49 znl49 zg49_1 = true := by decide +kernel
theorem zk49 : z_cok zT1 (z_cnt zL0) 20000 [4] zm107 zc49 znl49 = true := z_cok_of zk49_0 (zk49_1)
set_option maxRecDepth 100000 in
def zn50_0 : zNd := (7, (z_li [(.ofNat 0, .ofNat 0), (.negSucc 2147483647, .ofNat 2147483647), (.negSucc 2147483647, .ofNat 2147483647), (.negSucc 2147483647, .ofNat 2147483647), (.negSucc 2147483647, .ofNat 2147483647), (.negSucc 2147483647, .ofNat 2147483647), (.negSucc 2147483647, .ofNat 2147483647), (.negSucc 2147483647, .ofNat 2147483647), (.negSucc 2147483647, .ofNat 2147483647), (.negSucc 2147483647, .ofNat 2147483647), (.negSucc 2147483647, .ofNat 2147483647), (.negSucc 0, .ofNat 5), (.ofNat 0, .ofNat 214748390), (.ofNat 0, .ofNat 6)] (false, [], [], [])), [(0, (2, 19, .ofNat 0)), (1, (0, 10, .ofNat 0)), (2, (0, 11, .ofNat 0)), (3, (0, 12, .ofNat 0)), (4, (0, 13, .ofNat 0))], [], [], [(11, 1, 0, 2, 0), (12, 1, 0, 3, 0), (13, 1, 0, 4, 0)], (.ofNat 6, [(13, .negSucc 0)]), none)
def zg50_1 : List zNd := [zn50_0]
def znl50 : List zNd := zg50_1
set_option maxRecDepth 100000 in
theorem zk50_0 : z_ck0 zT1 (z_cnt zL0) 20000 [7] zm109 zc50 znl50 = true := by decide +kernel
set_option maxRecDepth 100000 in
theorem zk50_1 : z_ckn zT1 (z_cnt zL0) 20000 [7] zm109 zc50 znl50 zg50_1 = true := by decide +kernel
theorem zk50 : z_cok zT1 (z_cnt zL0) 20000 [7] zm109 zc50 znl50 = true := z_cok_of zk50_0 (zk50_1)
set_option maxRecDepth 100000 in
def zn51_0 : zNd := (13, (z_li [(.ofNat 0, .ofNat 0), (.negSucc 2147483647, .ofNat 2147483647), (.negSucc 2147483647, .ofNat 2147483647), (.negSucc 2147483647, .ofNat 2147483647), (.negSucc 2147483647, .ofNat 2147483647), (.negSucc 2147483647, .ofNat 2147483647), (.negSucc 2147483647, .ofNat 2147483647), (.negSucc 2147483647, .ofNat 2147483647), (.negSucc 2147483647, .ofNat 2147483647), (.negSucc 2147483647, .ofNat 2147483647), (.ofNat 0, .ofNat 5), (.ofNat 0, .ofNat 14), (.negSucc 0, .ofNat 99), (.negSucc 0, .ofNat 5), (.ofNat 0, .ofNat 6)] (false, [], [], [])), [(0, (2, 155, .ofNat 0)), (3, (0, 12, .ofNat 0)), (4, (0, 13, .ofNat 0)), (5, (0, 14, .ofNat 0))], [], [], [(12, 1, 0, 3, 0), (13, 1, 0, 4, 0), (14, 1, 0, 5, 0)], (.ofNat 6, [(14, .negSucc 0)]), none)
def zg51_1 : List zNd := [zn51_0]
def znl51 : List zNd := zg51_1
set_option maxRecDepth 100000 in
theorem zk51_0 : z_ck0 zT1 (z_cnt zL0) 20000 [13] zm111 zc51 znl51 = true := by decide +kernel
set_option maxRecDepth 100000 in
theorem zk51_1 : z_ckn zT1 (z_cnt zL0) 20000 [13] zm111 zc51 znl51 zg51_1 = true := by decide +kernel
theorem zk51 : z_cok zT1 (z_cnt zL0) 20000 [13] zm111 zc51 znl51 = true := z_cok_of zk51_0 (zk51_1)
set_option maxRecDepth 100000 in
theorem zk52 : z_cok zT1 (z_cnt zL0) 20000 [] zm118 zc52 [] = true := by decide +kernel
set_option maxRecDepth 100000 in
def zn53_0 : zNd := (2, (z_li [(.ofNat 0, .ofNat 0), (.negSucc 2147483647, .ofNat 2147483647), (.negSucc 2147483647, .ofNat 2147483647), (.negSucc 2147483647, .ofNat 2147483647), (.negSucc 2147483647, .ofNat 2147483647), (.negSucc 2147483647, .ofNat 2147483647), (.negSucc 2147483647, .ofNat 2147483647), (.negSucc 2147483647, .ofNat 2147483647), (.negSucc 2147483647, .ofNat 2147483647), (.negSucc 2147483647, .ofNat 2147483647), (.negSucc 2147483647, .ofNat 2147483647), (.ofNat 0, .ofNat 4)] (false, [], [], [])), [(0, (2, 19, .ofNat 0)), (1, (0, 10, .ofNat 0)), (2, (0, 11, .ofNat 0))], [], [], [(11, 1, 0, 2, 0)], (.ofNat 4, [(11, .negSucc 0)]), none)
def zg53_1 : List zNd := [zn53_0]
def znl53 : List zNd := zg53_1
set_option maxRecDepth 100000 in
theorem zk53_0 : z_ck0 zT1 (z_cnt zL0) 20000 [2] zm119 zc53 znl53 = true := by decide +kernel
set_option maxRecDepth 100000 in
theorem zk53_1 : z_ckn zT1 (z_cnt zL0) 20000 [2] zm119 zc53 znl53 zg53_1 = true := by decide +kernel
theorem zk53 : z_cok zT1 (z_cnt zL0) 20000 [2] zm119 zc53 znl53 = true := z_cok_of zk53_0 (zk53_1)
set_option maxRecDepth 100000 in
def zn54_0 : zNd := (4, (z_li [(.ofNat 0, .ofNat 0), (.negSucc 2147483647, .ofNat 2147483647), (.negSucc 2147483647, .ofNat 2147483647), (.negSucc 2147483647, .ofNat 2147483647), (.negSucc 2147483647, .ofNat 2147483647), (.negSucc 2147483647, .ofNat 2147483647), (.negSucc 2147483647, .ofNat 2147483647), (.negSucc 2147483647, .ofNat 2147483647), (.negSucc 2147483647, .ofNat 2147483647), (.negSucc 2147483647, .ofNat 2147483647), (.ofNat 0, .ofNat 2147483647), (.ofNat 0, .ofNat 14)] (false, [], [], [])), [(0, (2, 0, .ofNat 0)), (1, (0, 10, .ofNat 0)), (2, (0, 11, .ofNat 0))], [], [], [(10, 1, 0, 1, 0), (11, 1, 0, 2, 0)], (.ofNat 14, [(11, .negSucc 0)]), none)
def zg54_1 : List zNd := [zn54_0]
def znl54 : List zNd := zg54_1
set_option maxRecDepth 100000 in
theorem zk54_0 : z_ck0 zT1 (z_cnt zL0) 20000 [4] zm122 zc54 znl54 = true := by decide +kernel
set_option maxRecDepth 100000 in
theorem zk54_1 : z_ckn zT1 (z_cnt zL0) 20000 [4] zm122 zc54 znl54 zg54_1 = true := by decide +kernel
theorem zk54 : z_cok zT1 (z_cnt zL0) 20000 [4] zm122 zc54 znl54 = true := z_cok_of zk54_0 (zk54_1)
set_option maxRecDepth 100000 in
def zn55_0 : zNd := (4, (z_li [(.ofNat 0, .ofNat 0), (.negSucc 2147483647, .ofNat 2147483647), (.negSucc 2147483647, .ofNat 2147483647), (.negSucc 2147483647, .ofNat 2147483647), (.negSucc 2147483647, .ofNat 2147483647), (.negSucc 2147483647, .ofNat 2147483647), (.negSucc 2147483647, .ofNat 2147483647), (.negSucc 2147483647, .ofNat 2147483647), (.negSucc 2147483647, .ofNat 2147483647), (.negSucc 2147483647, .ofNat 2147483647), (.ofNat 0, .ofNat 13), (.ofNat 0, .ofNat 40), (.ofNat 0, .ofNat 9)] (false, [], [], [])), [(0, (2, 155, .ofNat 0)), (1, (0, 10, .ofNat 0)), (2, (0, 11, .ofNat 0)), (3, (0, 12, .ofNat 0))], [], [], [(11, 1, 0, 2, 0), (12, 1, 0, 3, 0)], (.ofNat 40, [(12, .negSucc 0)]), none)
set_option maxRecDepth 100000 in
def zn55_1 : zNd := (44, (z_li [(.ofNat 0, .ofNat 0), (.negSucc 2147483647, .ofNat 2147483647), (.negSucc 2147483647, .ofNat 2147483647), (.negSucc 2147483647, .ofNat 2147483647), (.negSucc 2147483647, .ofNat 2147483647), (.negSucc 2147483647, .ofNat 2147483647), (.negSucc 2147483647, .ofNat 2147483647), (.negSucc 2147483647, .ofNat 2147483647), (.negSucc 2147483647, .ofNat 2147483647), (.negSucc 2147483647, .ofNat 2147483647), (.ofNat 0, .ofNat 13), (.ofNat 0, .ofNat 999), (.ofNat 0, .ofNat 30)] (false, [], [], [])), [(0, (2, 155, .ofNat 0)), (1, (0, 10, .ofNat 0)), (2, (0, 11, .ofNat 0)), (3, (0, 12, .ofNat 0))], [], [], [(11, 1, 0, 2, 0), (12, 1, 0, 3, 0)], (.ofNat 30, [(12, .negSucc 0)]), none)
def zg55_1 : List zNd := [zn55_0, zn55_1]
def znl55 : List zNd := zg55_1
set_option maxRecDepth 100000 in
theorem zk55_0 : z_ck0 zT1 (z_cnt zL0) 20000 [4, 44] zm123 zc55 znl55 = true := by decide +kernel
set_option maxRecDepth 100000 in
theorem zk55_1 : z_ckn zT1 (z_cnt zL0) 20000 [4, 44] zm123 zc55 znl55 zg55_1 = true := by decide +kernel
theorem zk55 : z_cok zT1 (z_cnt zL0) 20000 [4, 44] zm123 zc55 znl55 = true := z_cok_of zk55_0 (zk55_1)
