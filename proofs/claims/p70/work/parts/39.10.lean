set_option maxRecDepth 100000 in
theorem zk18 : z_cok zT1 (z_cnt zL0) 20000 [] zm48 zc18 [] = true := by decide +kernel
set_option maxRecDepth 100000 in
theorem zk19 : z_cok zT1 (z_cnt zL0) 20000 [] zm48 zc19 [] = true := by decide +kernel
set_option maxRecDepth 100000 in
theorem zk20 : z_cok zT1 (z_cnt zL0) 20000 [] zm53 zc20 [] = true := by decide +kernel
set_option maxRecDepth 100000 in
theorem zk21 : z_cok zT1 (z_cnt zL0) 20000 [] zm53 zc21 [] = true := by decide +kernel
set_option maxRecDepth 100000 in
theorem zk22 : z_cok zT1 (z_cnt zL0) 20000 [] zm53 zc22 [] = true := by decide +kernel
set_option maxRecDepth 100000 in
theorem zk23 : z_cok zT1 (z_cnt zL0) 20000 [] zm53 zc23 [] = true := by decide +kernel
set_option maxRecDepth 100000 in
theorem zk24 : z_cok zT1 (z_cnt zL0) 20000 [] zm53 zc24 [] = true := by decide +kernel
set_option maxRecDepth 100000 in
theorem zk25 : z_cok zT1 (z_cnt zL0) 20000 [] zm53 zc25 [] = true := by decide +kernel
set_option maxRecDepth 100000 in
theorem zk26 : z_cok zT1 (z_cnt zL0) 20000 [] zm53 zc26 [] = true := by decide +kernel
set_option maxRecDepth 100000 in
theorem zk27 : z_cok zT1 (z_cnt zL0) 20000 [] zm53 zc27 [] = true := by decide +kernel
set_option maxRecDepth 100000 in
theorem zk28 : z_cok zT1 (z_cnt zL0) 20000 [] zm53 zc28 [] = true := by decide +kernel
set_option maxRecDepth 100000 in
theorem zk29 : z_cok zT1 (z_cnt zL0) 20000 [] zm53 zc29 [] = true := by decide +kernel
set_option maxRecDepth 100000 in
theorem zk30 : z_cok zT1 (z_cnt zL0) 20000 [] zm53 zc30 [] = true := by decide +kernel
set_option maxRecDepth 100000 in
def zn31_0 : zNd := (6, (z_li [(.ofNat 0, .ofNat 0), (.negSucc 2147483647, .ofNat 2147483647), (.negSucc 2147483647, .ofNat 2147483647), (.negSucc 2147483647, .ofNat 2147483647), (.negSucc 2147483647, .ofNat 2147483647), (.negSucc 2147483647, .ofNat 2147483647), (.negSucc 2147483647, .ofNat 2147483647), (.negSucc 2147483647, .ofNat 2147483647), (.negSucc 2147483647, .ofNat 2147483647), (.negSucc 2147483647, .ofNat 2147483647), (.ofNat 0, .ofNat 88), (.ofNat 0, .ofNat 17), (.ofNat 0, .ofNat 7), (.ofNat 0, .ofNat 1), (.ofNat 0, .ofNat 7)] (false, [], [], [])), [(0, (2, 155, .ofNat 0)), (1, (0, 10, .ofNat 0)), (2, (0, 11, .ofNat 0)), (3, (0, 12, .ofNat 0)), (4, (0, 13, .ofNat 0)), (5, (0, 14, .ofNat 0))], [], [], [(13, 1, 0, 4, 0), (14, 1, 0, 5, 0)], (.ofNat 7, [(14, .negSucc 0)]), none)
def zg31_1 : List zNd := [zn31_0]
def znl31 : List zNd := zg31_1
set_option maxRecDepth 100000 in
theorem zk31_0 : z_ck0 zT1 (z_cnt zL0) 20000 [6] zm57 zc31 znl31 = true := by decide +kernel
set_option maxRecDepth 100000 in
theorem zk31_1 : z_ckn zT1 (z_cnt zL0) 20000 [6] zm57 zc31 znl31 zg31_1 = true := by decide +kernel
theorem zk31 : z_cok zT1 (z_cnt zL0) 20000 [6] zm57 zc31 znl31 = true := z_cok_of zk31_0 (zk31_1)
set_option maxRecDepth 100000 in
def zn32_0 : zNd := (2, (z_li [(.ofNat 0, .ofNat 0), (.negSucc 2147483647, .ofNat 2147483647), (.negSucc 2147483647, .ofNat 2147483647), (.negSucc 2147483647, .ofNat 2147483647), (.negSucc 2147483647, .ofNat 2147483647), (.negSucc 2147483647, .ofNat 2147483647), (.negSucc 2147483647, .ofNat 2147483647), (.negSucc 2147483647, .ofNat 2147483647), (.negSucc 2147483647, .ofNat 2147483647), (.negSucc 2147483647, .ofNat 2147483647), (.ofNat 0, .ofNat 255), (.ofNat 0, .ofNat 100)] (false, [], [], [])), [(0, (2, 155, .ofNat 0)), (1, (0, 10, .ofNat 0)), (2, (0, 11, .ofNat 0))], [], [], [(11, 1, 0, 2, 0)], (.ofNat 109, [(11, .negSucc 0)]), none)
set_option maxRecDepth 100000 in
def zn32_1 : zNd := (23, (z_li [(.ofNat 0, .ofNat 0), (.negSucc 2147483647, .ofNat 2147483647), (.negSucc 2147483647, .ofNat 2147483647), (.negSucc 2147483647, .ofNat 2147483647), (.negSucc 2147483647, .ofNat 2147483647), (.negSucc 2147483647, .ofNat 2147483647), (.negSucc 2147483647, .ofNat 2147483647), (.negSucc 2147483647, .ofNat 2147483647), (.negSucc 2147483647, .ofNat 2147483647), (.negSucc 2147483647, .ofNat 2147483647), (.ofNat 0, .ofNat 255), (.ofNat 0, .ofNat 8)] (false, [], [], [])), [(0, (2, 155, .ofNat 0)), (1, (0, 10, .ofNat 0)), (2, (0, 11, .ofNat 0))], [], [], [(11, 1, 0, 2, 0)], (.ofNat 8, [(11, .negSucc 0)]), none)
def zg32_1 : List zNd := [zn32_0, zn32_1]
def znl32 : List zNd := zg32_1
set_option maxRecDepth 100000 in
theorem zk32_0 : z_ck0 zT1 (z_cnt zL0) 20000 [2, 23] zm78 zc32 znl32 = true := by decide +kernel
set_option maxRecDepth 100000 in
theorem zk32_1 : z_ckn zT1 (z_cnt zL0) 20000 [2, 23] zm78 zc32 znl32 zg32_1 = true := by decide +kernel
theorem zk32 : z_cok zT1 (z_cnt zL0) 20000 [2, 23] zm78 zc32 znl32 = true := z_cok_of zk32_0 (zk32_1)
set_option maxRecDepth 100000 in
theorem zk33 : z_cok zT1 (z_cnt zL0) 20000 [] zm87 zc33 [] = true := by decide +kernel
set_option maxRecDepth 100000 in
theorem zk34 : z_cok zT1 (z_cnt zL0) 20000 [] zm90 zc34 [] = true := by decide +kernel
set_option maxRecDepth 100000 in
def zn35_0 : zNd := (5, (z_li [(.ofNat 0, .ofNat 0), (.negSucc 2147483647, .ofNat 2147483647), (.negSucc 2147483647, .ofNat 2147483647), (.negSucc 2147483647, .ofNat 2147483647), (.negSucc 2147483647, .ofNat 2147483647), (.negSucc 2147483647, .ofNat 2147483647), (.negSucc 2147483647, .ofNat 2147483647), (.negSucc 2147483647, .ofNat 2147483647), (.negSucc 2147483647, .ofNat 2147483647), (.negSucc 2147483647, .ofNat 2147483647), (.negSucc 2147483647, .ofNat 2147483647), (.ofNat 0, .ofNat 14), (.ofNat 0, .ofNat 63), (.ofNat 0, .ofNat 6)] (false, [], [], [])), [(0, (2, 0, .ofNat 0)), (1, (0, 10, .ofNat 0)), (2, (0, 11, .ofNat 0)), (3, (0, 12, .ofNat 0)), (4, (0, 13, .ofNat 0))], [], [], [(12, 1, 0, 3, 0), (13, 1, 0, 4, 0)], (.ofNat 6, [(13, .negSucc 0)]), none)
def zg35_1 : List zNd := [zn35_0]
def znl35 : List zNd := zg35_1
set_option maxRecDepth 100000 in
theorem zk35_0 : z_ck0 zT1 (z_cnt zL0) 20000 [5] zm95 zc35 znl35 = true := by decide +kernel
set_option maxRecDepth 100000 in
theorem zk35_1 : z_ckn zT1 (z_cnt zL0) 20000 [5] zm95 zc35 znl35 zg35_1 = true := by decide +kernel
theorem zk35 : z_cok zT1 (z_cnt zL0) 20000 [5] zm95 zc35 znl35 = true := z_cok_of zk35_0 (zk35_1)
set_option maxRecDepth 100000 in
theorem zk36 : z_cok zT1 (z_cnt zL0) 20000 [] zm96 zc36 [] = true := by decide +kernel
set_option maxRecDepth 100000 in
def zn37_0 : zNd := (5, (z_li [(.ofNat 0, .ofNat 0), (.negSucc 2147483647, .ofNat 2147483647), (.negSucc 2147483647, .ofNat 2147483647), (.negSucc 2147483647, .ofNat 2147483647), (.negSucc 2147483647, .ofNat 2147483647), (.negSucc 2147483647, .ofNat 2147483647), (.negSucc 2147483647, .ofNat 2147483647), (.negSucc 2147483647, .ofNat 2147483647), (.negSucc 2147483647, .ofNat 2147483647), (.negSucc 2147483647, .ofNat 2147483647), (.negSucc 0, .ofNat 99), (.ofNat 0, .ofNat 14), (.ofNat 0, .ofNat 63), (.ofNat 0, .ofNat 6)] (false, [], [], [])), [(0, (2, 155, .ofNat 0)), (1, (0, 10, .ofNat 0)), (2, (0, 11, .ofNat 0)), (3, (0, 12, .ofNat 0)), (4, (0, 13, .ofNat 0))], [], [], [(12, 1, 0, 3, 0), (13, 1, 0, 4, 0)], (.ofNat 6, [(13, .negSucc 0)]), none)
def zg37_1 : List zNd := [zn37_0]
def znl37 : List zNd := zg37_1
set_option maxRecDepth 100000 in
theorem zk37_0 : z_ck0 zT1 (z_cnt zL0) 20000 [5] zm97 zc37 znl37 = true := by decide +kernel
set_option maxRecDepth 100000 in
theorem zk37_1 : z_ckn zT1 (z_cnt zL0) 20000 [5] zm97 zc37 znl37 zg37_1 = true := by decide +kernel
theorem zk37 : z_cok zT1 (z_cnt zL0) 20000 [5] zm97 zc37 znl37 = true := z_cok_of zk37_0 (zk37_1)
set_option maxRecDepth 100000 in
def zn38_0 : zNd := (4, (z_li [(.ofNat 0, .ofNat 0), (.negSucc 2147483647, .ofNat 2147483647), (.negSucc 2147483647, .ofNat 2147483647), (.negSucc 2147483647, .ofNat 2147483647), (.negSucc 2147483647, .ofNat 2147483647), (.negSucc 2147483647, .ofNat 2147483647), (.negSucc 2147483647, .ofNat 2147483647), (.negSucc 2147483647, .ofNat 2147483647), (.negSucc 2147483647, .ofNat 2147483647), (.negSucc 2147483647, .ofNat 2147483647), (.ofNat 0, .ofNat 13), (.ofNat 0, .ofNat 63), (.ofNat 0, .ofNat 6)] (false, [], [], [])), [(0, (2, 0, .ofNat 0)), (1, (0, 10, .ofNat 0)), (2, (0, 11, .ofNat 0)), (3, (0, 12, .ofNat 0))], [], [], [(11, 1, 0, 2, 0), (12, 1, 0, 3, 0)], (.ofNat 6, [(12, .negSucc 0)]), none)
def zg38_1 : List zNd := [zn38_0]
def znl38 : List zNd := zg38_1
set_option maxRecDepth 100000 in
theorem zk38_0 : z_ck0 zT1 (z_cnt zL0) 20000 [4] zm99 zc38 znl38 = true := by decide +kernel
set_option maxRecDepth 100000 in
theorem zk38_1 : z_ckn zT1 (z_cnt zL0) 20000 [4] zm99 zc38 znl38 zg38_1 = true := by decide +kernel
theorem zk38 : z_cok zT1 (z_cnt zL0) 20000 [4] zm99 zc38 znl38 = true := z_cok_of zk38_0 (zk38_1)
set_option maxRecDepth 100000 in
def zn39_0 : zNd := (4, (z_li [(.ofNat 0, .ofNat 0), (.negSucc 2147483647, .ofNat 2147483647), (.negSucc 2147483647, .ofNat 2147483647), (.negSucc 2147483647, .ofNat 2147483647), (.negSucc 2147483647, .ofNat 2147483647), (.negSucc 2147483647, .ofNat 2147483647), (.negSucc 2147483647, .ofNat 2147483647), (.negSucc 2147483647, .ofNat 2147483647), (.negSucc 2147483647, .ofNat 2147483647), (.negSucc 2147483647, .ofNat 2147483647), (.ofNat 0, .ofNat 13), (.ofNat 0, .ofNat 63), (.ofNat 0, .ofNat 6)] (false, [], [], [])), [(0, (2, 155, .ofNat 0)), (1, (0, 10, .ofNat 0)), (2, (0, 11, .ofNat 0)), (3, (0, 12, .ofNat 0))], [], [], [(11, 1, 0, 2, 0), (12, 1, 0, 3, 0)], (.ofNat 6, [(12, .negSucc 0)]), none)
def zg39_1 : List zNd := [zn39_0]
def znl39 : List zNd := zg39_1
set_option maxRecDepth 100000 in
theorem zk39_0 : z_ck0 zT1 (z_cnt zL0) 20000 [4] zm102 zc39 znl39 = true := by decide +kernel
set_option maxRecDepth 100000 in
theorem zk39_1 : z_ckn zT1 (z_cnt zL0) 20000 [4] zm102 zc39 znl39 zg39_1 = true := by decide +kernel
theorem zk39 : z_cok zT1 (z_cnt zL0) 20000 [4] zm102 zc39 znl39 = true := z_cok_of zk39_0 (zk39_1)
set_option maxRecDepth 100000 in
def zn40_0 : zNd := (4, (z_li [(.ofNat 0, .ofNat 0), (.negSucc 2147483647, .ofNat 2147483647), (.negSucc 2147483647, .ofNat 2147483647), (.negSucc 2147483647, .ofNat 2147483647), (.negSucc 2147483647, .ofNat 2147483647), (.negSucc 2147483647, .ofNat 2147483647), (.negSucc 2147483647, .ofNat 2147483647), (.negSucc 2147483647, .ofNat 2147483647), (.negSucc 2147483647, .ofNat 2147483647), (.negSucc 2147483647, .ofNat 2147483647), (.negSucc 2147483647, .ofNat 2147483647), (.ofNat 0, .ofNat 14)] (false, [], [], [])), [(0, (2, 44, .ofNat 0)), (1, (0, 10, .ofNat 0)), (2, (0, 11, .ofNat 0))], [], [], [(10, 1, 0, 1, 0), (11, 1, 0, 2, 0)], (.ofNat 14, [(11, .negSucc 0)]), none)
def zg40_1 : List zNd := [zn40_0]
def znl40 : List zNd := zg40_1
set_option maxRecDepth 100000 in
theorem zk40_0 : z_ck0 zT1 (z_cnt zL0) 20000 [4] zm103 zc40 znl40 = true := by decide +kernel
set_option maxRecDepth 100000 in
theorem zk40_1 : z_ckn zT1 (z_cnt zL0) 20000 [4] zm103 zc40 znl40 zg40_1 = true := by decide +kernel
theorem zk40 : z_cok zT1 (z_cnt zL0) 20000 [4] zm103 zc40 znl40 = true := z_cok_of zk40_0 (zk40_1)
set_option maxRecDepth 100000 in
def zn41_0 : zNd := (4, (z_li [(.ofNat 0, .ofNat 0), (.negSucc 2147483647, .ofNat 2147483647), (.negSucc 2147483647, .ofNat 2147483647), (.negSucc 2147483647, .ofNat 2147483647), (.negSucc 2147483647, .ofNat 2147483647), (.negSucc 2147483647, .ofNat 2147483647), (.negSucc 2147483647, .ofNat 2147483647), (.negSucc 2147483647, .ofNat 2147483647), (.negSucc 2147483647, .ofNat 2147483647), (.negSucc 2147483647, .ofNat 2147483647), (.negSucc 2147483647, .ofNat 2147483647), (.ofNat 0, .ofNat 14)] (false, [], [], [])), [(0, (2, 47, .ofNat 0)), (1, (0, 10, .ofNat 0)), (2, (0, 11, .ofNat 0))], [], [], [(10, 1, 0, 1, 0), (11, 1, 0, 2, 0)], (.ofNat 14, [(11, .negSucc 0)]), none)
def zg41_1 : List zNd := [zn41_0]
def znl41 : List zNd := zg41_1
set_option maxRecDepth 100000 in
theorem zk41_0 : z_ck0 zT1 (z_cnt zL0) 20000 [4] zm103 zc41 znl41 = true := by decide +kernel
set_option maxRecDepth 100000 in
theorem zk41_1 : z_ckn zT1 (z_cnt zL0) 20000 [4] zm103 zc41 znl41 zg41_1 = true := by decide +kernel
theorem zk41 : z_cok zT1 (z_cnt zL0) 20000 [4] zm103 zc41 znl41 = true := z_cok_of zk41_0 (zk41_1)
set_option maxRecDepth 100000 in
def zn42_0 : zNd := (4, (z_li [(.ofNat 0, .ofNat 0), (.negSucc 2147483647, .ofNat 2147483647), (.negSucc 2147483647, .ofNat 2147483647), (.negSucc 2147483647, .ofNat 2147483647), (.negSucc 2147483647, .ofNat 2147483647), (.negSucc 2147483647, .ofNat 2147483647), (.negSucc 2147483647, .ofNat 2147483647), (.negSucc 2147483647, .ofNat 2147483647), (.negSucc 2147483647, .ofNat 2147483647), (.negSucc 2147483647, .ofNat 2147483647), (.negSucc 2147483647, .ofNat 2147483647), (.ofNat 0, .ofNat 14)] (false, [], [], [])), [(0, (2, 50, .ofNat 0)), (1, (0, 10, .ofNat 0)), (2, (0, 11, .ofNat 0))], [], [], [(10, 1, 0, 1, 0), (11, 1, 0, 2, 0)], (.ofNat 14, [(11, .negSucc 0)]), none)
def zg42_1 : List zNd := [zn42_0]
def znl42 : List zNd := zg42_1
set_option maxRecDepth 100000 in
theorem zk42_0 : z_ck0 zT1 (z_cnt zL0) 20000 [4] zm103 zc42 znl42 = true := by decide +kernel
set_option maxRecDepth 100000 in
theorem zk42_1 : z_ckn zT1 (z_cnt zL0) 20000 [4] zm103 zc42 znl42 zg42_1 = true := by decide +kernel
theorem zk42 : z_cok zT1 (z_cnt zL0) 20000 [4] zm103 zc42 znl42 = true := z_cok_of zk42_0 (zk42_1)
set_option maxRecDepth 100000 in
def zn43_0 : zNd := (4, (z_li [(.ofNat 0, .ofNat 0), (.negSucc 2147483647, .ofNat 2147483647), (.negSucc 2147483647, .ofNat 2147483647), (.negSucc 2147483647, .ofNat 2147483647), (.negSucc 2147483647, .ofNat 2147483647), (.negSucc 2147483647, .ofNat 2147483647), (.negSucc 2147483647, .ofNat 2147483647), (.negSucc 2147483647, .ofNat 2147483647), (.negSucc 2147483647, .ofNat 2147483647), (.negSucc 2147483647, .ofNat 2147483647), (.negSucc 2147483647, .ofNat 2147483647), (.ofNat 0, .ofNat 14)] (false, [], [], [])), [(0, (2, 53, .ofNat 0)), (1, (0, 10, .ofNat 0)), (2, (0, 11, .ofNat 0))], [], [], [(10, 1, 0, 1, 0), (11, 1, 0, 2, 0)], (.ofNat 14, [(11, .negSucc 0)]), none)
def zg43_1 : List zNd := [zn43_0]
def znl43 : List zNd := zg43_1
set_option maxRecDepth 100000 in
theorem zk43_0 : z_ck0 zT1 (z_cnt zL0) 20000 [4] zm103 zc43 znl43 = true := by decide +kernel
set_option maxRecDepth 100000 in
theorem zk43_1 : z_ckn zT1 (z_cnt zL0) 20000 [4] zm103 zc43 znl43 zg43_1 = true := by decide +kernel
theorem zk43 : z_cok zT1 (z_cnt zL0) 20000 [4] zm103 zc43 znl43 = true := z_cok_of zk43_0 (zk43_1)
set_option maxRecDepth 100000 in
def zn44_0 : zNd := (4, (z_li [(.ofNat 0, .ofNat 0), (.negSucc 2147483647, .ofNat 2147483647), (.negSucc 2147483647, .ofNat 2147483647), (.negSucc 2147483647, .ofNat 2147483647), (.negSucc 2147483647, .ofNat 2147483647), (.negSucc 2147483647, .ofNat 2147483647), (.negSucc 2147483647, .ofNat 2147483647), (.negSucc 2147483647, .ofNat 2147483647), (.negSucc 2147483647, .ofNat 2147483647), (.negSucc 2147483647, .ofNat 2147483647), (.negSucc 2147483647, .ofNat 2147483647), (.ofNat 0, .ofNat 14)] (false, [], [], [])), [(0, (2, 56, .ofNat 0)), (1, (0, 10, .ofNat 0)), (2, (0, 11, .ofNat 0))], [], [], [(10, 1, 0, 1, 0), (11, 1, 0, 2, 0)], (.ofNat 14, [(11, .negSucc 0)]), none)
def zg44_1 : List zNd := [zn44_0]
def znl44 : List zNd := zg44_1
set_option maxRecDepth 100000 in
theorem zk44_0 : z_ck0 zT1 (z_cnt zL0) 20000 [4] zm103 zc44 znl44 = true := by decide +kernel
set_option maxRecDepth 100000 in
theorem zk44_1 : z_ckn zT1 (z_cnt zL0) 20000 [4] zm103 zc44 znl44 zg44_1 = true := by decide +kernel
theorem zk44 : z_cok zT1 (z_cnt zL0) 20000 [4] zm103 zc44 znl44 = true := z_cok_of zk44_0 (zk44_1)
set_option maxRecDepth 100000 in
def zn45_0 : zNd := (4, (z_li [(.ofNat 0, .ofNat 0), (.negSucc 2147483647, .ofNat 2147483647), (.negSucc 2147483647, .ofNat 2147483647), (.negSucc 2147483647, .ofNat 2147483647), (.negSucc 2147483647, .ofNat 2147483647), (.negSucc 2147483647, .ofNat 2147483647), (.negSucc 2147483647, .ofNat 2147483647), (.negSucc 2147483647, .ofNat 2147483647), (.negSucc 2147483647, .ofNat 2147483647), (.negSucc 2147483647, .ofNat 2147483647), (.negSucc 2147483647, .ofNat 2147483647), (.ofNat 0, .ofNat 14)] (false, [], [], [])), [(0, (2, 59, .ofNat 0)), (1, (0, 10, .ofNat 0)), (2, (0, 11, .ofNat 0))], [], [], [(10, 1, 0, 1, 0), (11, 1, 0, 2, 0)], (.ofNat 14, [(11, .negSucc 0)]), none)
def zg45_1 : List zNd := [zn45_0]
def znl45 : List zNd := zg45_1
set_option maxRecDepth 100000 in
theorem zk45_0 : z_ck0 zT1 (z_cnt zL0) 20000 [4] zm103 zc45 znl45 = true := by decide +kernel
set_option maxRecDepth 100000 in
theorem zk45_1 : z_ckn zT1 (z_cnt zL0) 20000 [4] zm103 zc45 znl45 zg45_1 = true := by decide +kernel
theorem zk45 : z_cok zT1 (z_cnt zL0) 20000 [4] zm103 zc45 znl45 = true := z_cok_of zk45_0 (zk45_1)
set_option maxRecDepth 100000 in
def zn46_0 : zNd := (4, (z_li [(.ofNat 0, .ofNat 0), (.negSucc 2147483647, .ofNat 2147483647), (.negSucc 2147483647, .ofNat 2147483647), (.negSucc 2147483647, .ofNat 2147483647), (.negSucc 2147483647, .ofNat 2147483647), (.negSucc 2147483647, .ofNat 2147483647), (.negSucc 2147483647, .ofNat 2147483647), (.negSucc 2147483647, .ofNat 2147483647), (.negSucc 2147483647, .ofNat 2147483647), (.negSucc 2147483647, .ofNat 2147483647), (.negSucc 2147483647, .ofNat 2147483647), (.ofNat 0, .ofNat 14)] (false, [], [], [])), [(0, (2, 74, .ofNat 0)), (1, (0, 10, .ofNat 0)), (2, (0, 11, .ofNat 0))], [], [], [(10, 1, 0, 1, 0), (11, 1, 0, 2, 0)], (.ofNat 14, [(11, .negSucc 0)]), none)
def zg46_1 : List zNd := [zn46_0]
def znl46 : List zNd := zg46_1
set_option maxRecDepth 100000 in
theorem zk46_0 : z_ck0 zT1 (z_cnt zL0) 20000 [4] zm103 zc46 znl46 = true := by decide +kernel
set_option maxRecDepth 100000 in
theorem zk46_1 : z_ckn zT1 (z_cnt zL0) 20000 [4] zm103 zc46 znl46 zg46_1 = true := by decide +kernel
theorem zk46 : z_cok zT1 (z_cnt zL0) 20000 [4] zm103 zc46 znl46 = true := z_cok_of zk46_0 (zk46_1)
set_option maxRecDepth 100000 in
def zn47_0 : zNd := (4, (z_li [(.ofNat 0, .ofNat 0), (.negSucc 2147483647, .ofNat 2147483647), (.negSucc 2147483647, .ofNat 2147483647), (.negSucc 2147483647, .ofNat 2147483647), (.negSucc 2147483647, .ofNat 2147483647), (.negSucc 2147483647, .ofNat 2147483647), (.negSucc 2147483647, .ofNat 2147483647), (.negSucc 2147483647, .ofNat 2147483647), (.negSucc 2147483647, .ofNat 2147483647), (.negSucc 2147483647, .ofNat 2147483647), (.ofNat 0, .ofNat 5), (.negSucc 2147483647, .ofNat 2147483647), (.ofNat 0, .ofNat 14)] (false, [], [], [])), [(0, (2, 155, .ofNat 0)), (1, (0, 10, .ofNat 0)), (2, (0, 11, .ofNat 0)), (3, (0, 12, .ofNat 0))], [], [], [(11, 1, 0, 2, 0), (12, 1, 0, 3, 0)], (.ofNat 14, [(12, .negSucc 0)]), none)
def zg47_1 : List zNd := [zn47_0]
def znl47 : List zNd := zg47_1
set_option maxRecDepth 100000 in
theorem zk47_0 : z_ck0 zT1 (z_cnt zL0) 20000 [4] zm105 zc47 znl47 = true := by decide +kernel
set_option maxRecDepth 100000 in
theorem zk47_1 : z_ckn zT1 (z_cnt zL0) 20000 [4] zm105 zc47 znl47 zg47_1 = true := by decide +kernel
theorem zk47 : z_cok zT1 (z_cnt zL0) 20000 [4] zm105 zc47 znl47 = true := z_cok_of zk47_0 (zk47_1)
set_option maxRecDepth 100000 in
def zn48_0 : zNd := (4, (z_li [(.ofNat 0, .ofNat 0), (.negSucc 2147483647, .ofNat 2147483647), (.negSucc 2147483647, .ofNat 2147483647), (.negSucc 2147483647, .ofNat 2147483647), (.negSucc 2147483647, .ofNat 2147483647), (.negSucc 2147483647, .ofNat 2147483647), (.negSucc 2147483647, .ofNat 2147483647), (.negSucc 2147483647, .ofNat 2147483647), (.negSucc 2147483647, .ofNat 2147483647), (.negSucc 2147483647, .ofNat 2147483647), (.ofNat 0, .ofNat 5), (.negSucc 2147483647, .ofNat 2147483647), (.ofNat 0, .ofNat 15)] (false, [], [], [])), [(0, (2, 0, .ofNat 0)), (1, (0, 10, .ofNat 0)), (2, (0, 11, .ofNat 0)), (3, (0, 12, .ofNat 0))], [], [], [(11, 1, 0, 2, 0), (12, 1, 0, 3, 0)], (.ofNat 15, [(12, .negSucc 0)]), none)
def zg48_1 : List zNd := [zn48_0]
def znl48 : List zNd := zg48_1
set_option maxRecDepth 100000 in
theorem zk48_0 : z_ck0 zT1 (z_cnt zL0) 20000 [4] zm106 zc48 znl48 = true := by decide +kernel
set_option maxRecDepth 100000 in
theorem zk48_1 : z_ckn zT1 (z_cnt zL0) 20000 [4] zm106 zc48 znl48 zg48_1 = true := by decide +kernel
theorem zk48 : z_cok zT1 (z_cnt zL0) 20000 [4] zm106 zc48 znl48 = true := z_cok_of zk48_0 (zk48_1)
set_option maxRecDepth 100000 in
def zn49_0 : zNd := (4, (z_li [(.ofNat 0, .ofNat 0), (.negSucc 2147483647, .ofNat 2147483647), (.negSucc 2147483647, .ofNat 2147483647), (.negSucc 2147483647, .ofNat 2147483647), (.negSucc 2147483647, .ofNat 2147483647), (.negSucc 2147483647, .ofNat 2147483647), (.negSucc 2147483647, .ofNat 2147483647), (.negSucc 2147483647, .ofNat 2147483647), (.negSucc 2147483647, .ofNat 2147483647), (.negSucc 2147483647, .ofNat 2147483647), (.ofNat 0, .ofNat 5), (.negSucc 2147483647, .ofNat 2147483647), (.ofNat 0, .ofNat 15)] (false, [], [], [])), [(0, (2, 155, .ofNat 0)), (1, (0, 10, .ofNat 0)), (2, (0, 11, .ofNat 0)), (3, (0, 12, .ofNat 0))], [], [], [(11, 1, 0, 2, 0), (12, 1, 0, 3, 0)], (.ofNat 15, [(12, .negSucc 0)]), none)
def zg49_1 : List zNd := [zn49_0]
def znl49 : List zNd := zg49_1
set_option maxRecDepth 100000 in
theorem zk49_0 : z_ck0 zT1 (z_cnt zL0) 20000 [4] zm107 zc49 znl49 = true := by decide +kernel
set_option maxRecDepth 100000 in
theorem zk49_1 : z_ckn zT1 (z_cnt zL0) 20000 [4] zm107 zc49 znl49 zg49_1 = true := by decide +kernel
theorem zk49 : z_cok zT1 (z_cnt zL0) 20000 [4] zm107 zc49 znl49 = true := z_cok_of zk49_0 (zk49_1)
set_option maxRecDepth 100000 in
def zn50_0 : zNd := (7, (z_li [(.ofNat 0, .ofNat 0), (.negSucc 2147483647, .ofNat 2147483647), (.negSucc 2147483647, .ofNat 2147483647), (.negSucc 2147483647, .ofNat 2147483647), (.negSucc 2147483647, .ofNat 2147483647), (.negSucc 2147483647, .ofNat 2147483647), (.negSucc 2147483647, .ofNat 2147483647), (.negSucc 2147483647, .ofNat 2147483647), (.negSucc 2147483647, .ofNat 2147483647), (.negSucc 2147483647, .ofNat 2147483647), (.negSucc 2147483647, .ofNat 2147483647), (.negSucc 0, .ofNat 5), (.ofNat 0, .ofNat 214748390), (.ofNat 0, .ofNat 6)] (false, [], [], [])), [(0, (2, 19, .ofNat 0)), (1, (0, 10, .ofNat 0)), (2, (0, 11, .ofNat 0)), (3, (0, 12, .ofNat 0)), (4, (0, 13, .ofNat 0))], [], [], [(11, 1, 0, 2, 0), (12, 1, 0, 3, 0), (13, 1, 0, 4, 0)], (.ofNat 6, [(13, .negSucc 0)]), none)
def zg50_1 : List zNd := [zn50_0]
def znl50 : List zNd := zg50_1
set_option maxRecDepth 100000 in
theorem zk50_0 : z_ck0 zT1 (z_cnt zL0) 20000 [7] zm109 zc50 znl50 = true := by decide +kernel
set_option maxRecDepth 100000 in
theorem zk50_1 : z_ckn zT1 (z_cnt zL0) 20000 [7] zm109 zc50 znl50 zg50_1 = true := by decide +kernel
theorem zk50 : z_cok zT1 (z_cnt zL0) 20000 [7] zm109 zc50 znl50 = true := z_cok_of zk50_0 (zk50_1)
set_option maxRecDepth 100000 in
def zn51_0 : zNd := (13, (z_li [(.ofNat 0, .ofNat 0), (.negSucc 2147483647, .ofNat 2147483647), (.negSucc 2147483647, .ofNat 2147483647), (.negSucc 2147483647, .ofNat 2147483647), (.negSucc 2147483647, .ofNat 2147483647), (.negSucc 2147483647, .ofNat 2147483647), (.negSucc 2147483647, .ofNat 2147483647), (.negSucc 2147483647, .ofNat 2147483647), (.negSucc 2147483647, .ofNat 2147483647), (.negSucc 2147483647, .ofNat 2147483647), (.ofNat 0, .ofNat 5), (.ofNat 0, .ofNat 14), (.negSucc 0, .ofNat 99), (.negSucc 0, .ofNat 5), (.ofNat 0, .ofNat 6)] (false, [], [], [])), [(0, (2, 155, .ofNat 0)), (3, (0, 12, .ofNat 0)), (4, (0, 13, .ofNat 0)), (5, (0, 14, .ofNat 0))], [], [], [(12, 1, 0, 3, 0), (13, 1, 0, 4, 0), (14, 1, 0, 5, 0)], (.ofNat 6, [(14, .negSucc 0)]), none)
def zg51_1 : List zNd := [zn51_0]
def znl51 : List zNd := zg51_1
set_option maxRecDepth 100000 in
theorem zk51_0 : z_ck0 zT1 (z_cnt zL0) 20000 [13] zm111 zc51 znl51 = true := by decide +kernel
set_option maxRecDepth 100000 in
theorem zk51_1 : z_ckn zT1 (z_cnt zL0) 20000 [13] zm111 zc51 znl51 zg51_1 = true := by decide +kernel
theorem zk51 : z_cok zT1 (z_cnt zL0) 20000 [13] zm111 zc51 znl51 = true := z_cok_of zk51_0 (zk51_1)
set_option maxRecDepth 100000 in
theorem zk52 : z_cok zT1 (z_cnt zL0) 20000 [] zm118 zc52 [] = true := by decide +kernel
set_option maxRecDepth 100000 in
def zn53_0 : zNd := (2, (z_li [(.ofNat 0, .ofNat 0), (.negSucc 2147483647, .ofNat 2147483647), (.negSucc 2147483647, .ofNat 2147483647), (.negSucc 2147483647, .ofNat 2147483647), (.negSucc 2147483647, .ofNat 2147483647), (.negSucc 2147483647, .ofNat 2147483647), (.negSucc 2147483647, .ofNat 2147483647), (.negSucc 2147483647, .ofNat 2147483647), (.negSucc 2147483647, .ofNat 2147483647), (.negSucc 2147483647, .ofNat 2147483647), (.negSucc 2147483647, .ofNat 2147483647), (.ofNat 0, .ofNat 4)] (false, [], [], [])), [(0, (2, 19, .ofNat 0)), (1, (0, 10, .ofNat 0)), (2, (0, 11, .ofNat 0))], [], [], [(11, 1, 0, 2, 0)], (.ofNat 4, [(11, .negSucc 0)]), none)
def zg53_1 : List zNd := [zn53_0]
def znl53 : List zNd := zg53_1
set_option maxRecDepth 100000 in
theorem zk53_0 : z_ck0 zT1 (z_cnt zL0) 20000 [2] zm119 zc53 znl53 = true := by decide +kernel
set_option maxRecDepth 100000 in
theorem zk53_1 : z_ckn zT1 (z_cnt zL0) 20000 [2] zm119 zc53 znl53 zg53_1 = true := by decide +kernel
theorem zk53 : z_cok zT1 (z_cnt zL0) 20000 [2] zm119 zc53 znl53 = true := z_cok_of zk53_0 (zk53_1)
set_option maxRecDepth 100000 in
def zn54_0 : zNd := (4, (z_li [(.ofNat 0, .ofNat 0), (.negSucc 2147483647, .ofNat 2147483647), (.negSucc 2147483647, .ofNat 2147483647), (.negSucc 2147483647, .ofNat 2147483647), (.negSucc 2147483647, .ofNat 2147483647), (.negSucc 2147483647, .ofNat 2147483647), (.negSucc 2147483647, .ofNat 2147483647), (.negSucc 2147483647, .ofNat 2147483647), (.negSucc 2147483647, .ofNat 2147483647), (.negSucc 2147483647, .ofNat 2147483647), (.ofNat 0, .ofNat 2147483647), (.ofNat 0, .ofNat 14)] (false, [], [], [])), [(0, (2, 0, .ofNat 0)), (1, (0, 10, .ofNat 0)), (2, (0, 11, .ofNat 0))], [], [], [(10, 1, 0, 1, 0), (11, 1, 0, 2, 0)], (.ofNat 14, [(11, .negSucc 0)]), none)
def zg54_1 : List zNd := [zn54_0]
def znl54 : List zNd := zg54_1
set_option maxRecDepth 100000 in
theorem zk54_0 : z_ck0 zT1 (z_cnt zL0) 20000 [4] zm122 zc54 znl54 = true := by decide +kernel
set_option maxRecDepth 100000 in
theorem zk54_1 : z_ckn zT1 (z_cnt zL0) 20000 [4] zm122 zc54 znl54 zg54_1 = true := by decide +kernel
theorem zk54 : z_cok zT1 (z_cnt zL0) 20000 [4] zm122 zc54 znl54 = true := z_cok_of zk54_0 (zk54_1)
set_option maxRecDepth 100000 in
def zn55_0 : zNd := (4, (z_li [(.ofNat 0, .ofNat 0), (.negSucc 2147483647, .ofNat 2147483647), (.negSucc 2147483647, .ofNat 2147483647), (.negSucc 2147483647, .ofNat 2147483647), (.negSucc 2147483647, .ofNat 2147483647), (.negSucc 2147483647, .ofNat 2147483647), (.negSucc 2147483647, .ofNat 2147483647), (.negSucc 2147483647, .ofNat 2147483647), (.negSucc 2147483647, .ofNat 2147483647), (.negSucc 2147483647, .ofNat 2147483647), (.ofNat 0, .ofNat 13), (.ofNat 0, .ofNat 40), (.ofNat 0, .ofNat 9)] (false, [], [], [])), [(0, (2, 155, .ofNat 0)), (1, (0, 10, .ofNat 0)), (2, (0, 11, .ofNat 0)), (3, (0, 12, .ofNat 0))], [], [], [(11, 1, 0, 2, 0), (12, 1, 0, 3, 0)], (.ofNat 40, [(12, .negSucc 0)]), none)
set_option maxRecDepth 100000 in
def zn55_1 : zNd := (44, (z_li [(.ofNat 0, .ofNat 0), (.negSucc 2147483647, .ofNat 2147483647), (.negSucc 2147483647, .ofNat 2147483647), (.negSucc 2147483647, .ofNat 2147483647), (.negSucc 2147483647, .ofNat 2147483647), (.negSucc 2147483647, .ofNat 2147483647), (.negSucc 2147483647, .ofNat 2147483647), (.negSucc 2147483647, .ofNat 2147483647), (.negSucc 2147483647, .ofNat 2147483647), (.negSucc 2147483647, .ofNat 2147483647), (.ofNat 0, .ofNat 13), (.ofNat 0, .ofNat 999), (.ofNat 0, .ofNat 30)] (false, [], [], [])), [(0, (2, 155, .ofNat 0)), (1, (0, 10, .ofNat 0)), (2, (0, 11, .ofNat 0)), (3, (0, 12, .ofNat 0))], [], [], [(11, 1, 0, 2, 0), (12, 1, 0, 3, 0)], (.ofNat 30, [(12, .negSucc 0)]), none)
def zg55_1 : List zNd := [zn55_0, zn55_1]
def znl55 : List zNd := zg55_1
set_option maxRecDepth 100000 in
theorem zk55_0 : z_ck0 zT1 (z_cnt zL0) 20000 [4, 44] zm123 zc55 znl55 = true := by decide +kernel
set_option maxRecDepth 100000 in
theorem zk55_1 : z_ckn zT1 (z_cnt zL0) 20000 [4, 44] zm123 zc55 znl55 zg55_1 = true := by decide +kernel
theorem zk55 : z_cok zT1 (z_cnt zL0) 20000 [4, 44] zm123 zc55 znl55 = true := z_cok_of zk55_0 (zk55_1)
set_option maxRecDepth 100000 in
def zn56_0 : zNd := (4, (z_li [(.ofNat 0, .ofNat 0), (.negSucc 2147483647, .ofNat 2147483647), (.negSucc 2147483647, .ofNat 2147483647), (.negSucc 2147483647, .ofNat 2147483647), (.negSucc 2147483647, .ofNat 2147483647), (.negSucc 2147483647, .ofNat 2147483647), (.negSucc 2147483647, .ofNat 2147483647), (.negSucc 2147483647, .ofNat 2147483647), (.negSucc 2147483647, .ofNat 2147483647), (.negSucc 2147483647, .ofNat 2147483647), (.ofNat 0, .ofNat 8), (.ofNat 0, .ofNat 63), (.ofNat 0, .ofNat 6)] (false, [], [], [])), [(0, (2, 0, .ofNat 0)), (1, (0, 10, .ofNat 0)), (2, (0, 11, .ofNat 0)), (3, (0, 12, .ofNat 0))], [], [], [(11, 1, 0, 2, 0), (12, 1, 0, 3, 0)], (.ofNat 6, [(12, .negSucc 0)]), none)
def zg56_1 : List zNd := [zn56_0]
def znl56 : List zNd := zg56_1
set_option maxRecDepth 100000 in
theorem zk56_0 : z_ck0 zT1 (z_cnt zL0) 20000 [4] zm124 zc56 znl56 = true := by decide +kernel
set_option maxRecDepth 100000 in
theorem zk56_1 : z_ckn zT1 (z_cnt zL0) 20000 [4] zm124 zc56 znl56 zg56_1 = true := by decide +kernel
theorem zk56 : z_cok zT1 (z_cnt zL0) 20000 [4] zm124 zc56 znl56 = true := z_cok_of zk56_0 (zk56_1)
set_option maxRecDepth 100000 in
def zn57_0 : zNd := (4, (z_li [(.ofNat 0, .ofNat 0), (.negSucc 2147483647, .ofNat 2147483647), (.negSucc 2147483647, .ofNat 2147483647), (.negSucc 2147483647, .ofNat 2147483647), (.negSucc 2147483647, .ofNat 2147483647), (.negSucc 2147483647, .ofNat 2147483647), (.negSucc 2147483647, .ofNat 2147483647), (.negSucc 2147483647, .ofNat 2147483647), (.negSucc 2147483647, .ofNat 2147483647), (.negSucc 2147483647, .ofNat 2147483647), (.ofNat 0, .ofNat 8), (.ofNat 0, .ofNat 63), (.ofNat 0, .ofNat 6)] (false, [], [], [])), [(0, (2, 155, .ofNat 0)), (1, (0, 10, .ofNat 0)), (2, (0, 11, .ofNat 0)), (3, (0, 12, .ofNat 0))], [], [], [(11, 1, 0, 2, 0), (12, 1, 0, 3, 0)], (.ofNat 6, [(12, .negSucc 0)]), none)
def zg57_1 : List zNd := [zn57_0]
def znl57 : List zNd := zg57_1
set_option maxRecDepth 100000 in
theorem zk57_0 : z_ck0 zT1 (z_cnt zL0) 20000 [4] zm125 zc57 znl57 = true := by decide +kernel
set_option maxRecDepth 100000 in
theorem zk57_1 : z_ckn zT1 (z_cnt zL0) 20000 [4] zm125 zc57 znl57 zg57_1 = true := by decide +kernel
theorem zk57 : z_cok zT1 (z_cnt zL0) 20000 [4] zm125 zc57 znl57 = true := z_cok_of zk57_0 (zk57_1)
set_option maxRecDepth 100000 in
def zn58_0 : zNd := (20, (z_li [(.ofNat 0, .ofNat 0), (.negSucc 2147483647, .ofNat 2147483647), (.negSucc 2147483647, .ofNat 2147483647), (.negSucc 2147483647, .ofNat 2147483647), (.negSucc 2147483647, .ofNat 2147483647), (.negSucc 2147483647, .ofNat 2147483647), (.negSucc 2147483647, .ofNat 2147483647), (.negSucc 2147483647, .ofNat 2147483647), (.negSucc 2147483647, .ofNat 2147483647), (.negSucc 2147483647, .ofNat 2147483647), (.ofNat 0, .ofNat 3), (.negSucc 0, .ofNat 60), (.ofNat 0, .ofNat 60)] (false, [], [], [])), [(0, (2, 77, .ofNat 0)), (1, (0, 10, .ofNat 0)), (2, (0, 11, .ofNat 0)), (3, (0, 12, .ofNat 0))], [], [], [(11, 1, 0, 2, 0), (12, 1, 0, 3, 0)], (.ofNat 60, [(12, .negSucc 0)]), none)
def zg58_1 : List zNd := [zn58_0]
def znl58 : List zNd := zg58_1
set_option maxRecDepth 100000 in
theorem zk58_0 : z_ck0 zT1 (z_cnt zL0) 20000 [20] zm145 zc58 znl58 = true := by decide +kernel
set_option maxRecDepth 100000 in
theorem zk58_1 : z_ckn zT1 (z_cnt zL0) 20000 [20] zm145 zc58 znl58 zg58_1 = true := by decide +kernel
theorem zk58 : z_cok zT1 (z_cnt zL0) 20000 [20] zm145 zc58 znl58 = true := z_cok_of zk58_0 (zk58_1)
set_option maxRecDepth 100000 in
def zn59_0 : zNd := (2, (z_li [(.ofNat 0, .ofNat 0), (.negSucc 2147483647, .ofNat 2147483647), (.negSucc 2147483647, .ofNat 2147483647), (.negSucc 2147483647, .ofNat 2147483647), (.negSucc 2147483647, .ofNat 2147483647), (.negSucc 2147483647, .ofNat 2147483647), (.negSucc 2147483647, .ofNat 2147483647), (.negSucc 2147483647, .ofNat 2147483647), (.negSucc 2147483647, .ofNat 2147483647), (.negSucc 2147483647, .ofNat 2147483647), (.ofNat 0, .ofNat 3), (.ofNat 0, .ofNat 60)] (false, [], [], [])), [(0, (2, 77, .ofNat 0)), (1, (0, 10, .ofNat 0)), (2, (0, 11, .ofNat 0))], [], [], [(11, 1, 0, 2, 0)], (.ofNat 60, [(11, .negSucc 0)]), none)
def zg59_1 : List zNd := [zn59_0]
def znl59 : List zNd := zg59_1
set_option maxRecDepth 100000 in
theorem zk59_0 : z_ck0 zT1 (z_cnt zL0) 20000 [2] zm148 zc59 znl59 = true := by decide +kernel
set_option maxRecDepth 100000 in
theorem zk59_1 : z_ckn zT1 (z_cnt zL0) 20000 [2] zm148 zc59 znl59 zg59_1 = true := by decide +kernel
theorem zk59 : z_cok zT1 (z_cnt zL0) 20000 [2] zm148 zc59 znl59 = true := z_cok_of zk59_0 (zk59_1)
set_option maxRecDepth 100000 in
def zn60_0 : zNd := (4, (z_li [(.ofNat 0, .ofNat 0), (.negSucc 2147483647, .ofNat 2147483647), (.negSucc 2147483647, .ofNat 2147483647), (.negSucc 2147483647, .ofNat 2147483647), (.negSucc 2147483647, .ofNat 2147483647), (.negSucc 2147483647, .ofNat 2147483647), (.negSucc 2147483647, .ofNat 2147483647), (.negSucc 2147483647, .ofNat 2147483647), (.negSucc 2147483647, .ofNat 2147483647), (.negSucc 2147483647, .ofNat 2147483647), (.negSucc 2147483647, .ofNat 2147483647), (.ofNat 0, .ofNat 31)] (false, [], [], [])), [(0, (2, 77, .ofNat 0)), (1, (0, 10, .ofNat 0)), (2, (0, 11, .ofNat 0))], [], [], [(10, 1, 0, 1, 0), (11, 1, 0, 2, 0)], (.ofNat 31, [(11, .negSucc 0)]), none)
def zg60_1 : List zNd := [zn60_0]
def znl60 : List zNd := zg60_1
set_option maxRecDepth 100000 in
theorem zk60_0 : z_ck0 zT1 (z_cnt zL0) 20000 [4] zm149 zc60 znl60 = true := by decide +kernel
set_option maxRecDepth 100000 in
theorem zk60_1 : z_ckn zT1 (z_cnt zL0) 20000 [4] zm149 zc60 znl60 zg60_1 = true := by decide +kernel
theorem zk60 : z_cok zT1 (z_cnt zL0) 20000 [4] zm149 zc60 znl60 = true := z_cok_of zk60_0 (zk60_1)
set_option maxRecDepth 100000 in
theorem zk61 : z_cok zT1 (z_cnt zL0) 20000 [47] zm151 zc61 [] = true := by decide +kernel
set_option maxRecDepth 100000 in
theorem zk62 : z_cok zT1 (z_cnt zL0) 20000 [47] zm151 zc62 [] = true := by decide +kernel
set_option maxRecDepth 100000 in
def zn63_0 : zNd := (2, (z_li [(.ofNat 0, .ofNat 0), (.negSucc 2147483647, .ofNat 2147483647), (.negSucc 2147483647, .ofNat 2147483647), (.negSucc 2147483647, .ofNat 2147483647), (.negSucc 2147483647, .ofNat 2147483647), (.negSucc 2147483647, .ofNat 2147483647), (.negSucc 2147483647, .ofNat 2147483647), (.negSucc 2147483647, .ofNat 2147483647), (.negSucc 2147483647, .ofNat 2147483647), (.negSucc 2147483647, .ofNat 2147483647), (.ofNat 0, .ofNat 31)] (false, [], [], [])), [(0, (2, 77, .ofNat 0)), (1, (0, 10, .ofNat 0))], [], [], [(10, 1, 0, 1, 0)], (.ofNat 31, [(10, .negSucc 0)]), none)
def zg63_1 : List zNd := [zn63_0]
def znl63 : List zNd := zg63_1
set_option maxRecDepth 100000 in
theorem zk63_0 : z_ck0 zT1 (z_cnt zL0) 20000 [2] zm155 zc63 znl63 = true := by decide +kernel
set_option maxRecDepth 100000 in
theorem zk63_1 : z_ckn zT1 (z_cnt zL0) 20000 [2] zm155 zc63 znl63 zg63_1 = true := by decide +kernel
theorem zk63 : z_cok zT1 (z_cnt zL0) 20000 [2] zm155 zc63 znl63 = true := z_cok_of zk63_0 (zk63_1)
set_option maxRecDepth 100000 in
def zn64_0 : zNd := (3, (z_li [(.ofNat 0, .ofNat 0), (.negSucc 2147483647, .ofNat 2147483647), (.negSucc 2147483647, .ofNat 2147483647), (.negSucc 2147483647, .ofNat 2147483647), (.negSucc 2147483647, .ofNat 2147483647), (.negSucc 2147483647, .ofNat 2147483647), (.negSucc 2147483647, .ofNat 2147483647), (.negSucc 2147483647, .ofNat 2147483647), (.negSucc 2147483647, .ofNat 2147483647), (.negSucc 2147483647, .ofNat 2147483647), (.negSucc 0, .ofNat 30)] (false, [], [], [])), [(0, (2, 77, .ofNat 0)), (1, (0, 10, .ofNat 0))], [], [], [(10, 1, 0, 1, 0)], (.ofNat 1, [(10, .ofNat 1)]), none)
def zg64_1 : List zNd := [zn64_0]
def znl64 : List zNd := zg64_1
set_option maxRecDepth 100000 in
theorem zk64_0 : z_ck0 zT1 (z_cnt zL0) 20000 [3] zm156 zc64 znl64 = true := by decide +kernel
set_option maxRecDepth 100000 in
theorem zk64_1 : z_ckn zT1 (z_cnt zL0) 20000 [3] zm156 zc64 znl64 zg64_1 = true := by decide +kernel
theorem zk64 : z_cok zT1 (z_cnt zL0) 20000 [3] zm156 zc64 znl64 = true := z_cok_of zk64_0 (zk64_1)
set_option maxRecDepth 100000 in
def zn65_0 : zNd := (5, (z_li [(.ofNat 0, .ofNat 0), (.negSucc 2147483647, .ofNat 2147483647), (.negSucc 2147483647, .ofNat 2147483647), (.negSucc 2147483647, .ofNat 2147483647), (.negSucc 2147483647, .ofNat 2147483647), (.negSucc 2147483647, .ofNat 2147483647), (.negSucc 2147483647, .ofNat 2147483647), (.negSucc 2147483647, .ofNat 2147483647), (.negSucc 2147483647, .ofNat 2147483647), (.negSucc 2147483647, .ofNat 2147483647), (.negSucc 2147483647, .ofNat 2147483647), (.ofNat 0, .ofNat 14), (.negSucc 2147483647, .ofNat 2147483647), (.ofNat 0, .ofNat 31)] (false, [], [], [])), [(0, (2, 77, .ofNat 0)), (1, (0, 10, .ofNat 0)), (2, (0, 11, .ofNat 0)), (3, (0, 12, .ofNat 0)), (4, (0, 13, .ofNat 0))], [], [], [(12, 1, 0, 3, 0), (13, 1, 0, 4, 0)], (.ofNat 31, [(13, .negSucc 0)]), none)
def zg65_1 : List zNd := [zn65_0]
def znl65 : List zNd := zg65_1
set_option maxRecDepth 100000 in
theorem zk65_0 : z_ck0 zT1 (z_cnt zL0) 20000 [5] zm159 zc65 znl65 = true := by decide +kernel
set_option maxRecDepth 100000 in
theorem zk65_1 : z_ckn zT1 (z_cnt zL0) 20000 [5] zm159 zc65 znl65 zg65_1 = true := by decide +kernel
theorem zk65 : z_cok zT1 (z_cnt zL0) 20000 [5] zm159 zc65 znl65 = true := z_cok_of zk65_0 (zk65_1)
set_option maxRecDepth 100000 in
def zn66_0 : zNd := (4, (z_li [(.ofNat 0, .ofNat 0), (.negSucc 2147483647, .ofNat 2147483647), (.negSucc 2147483647, .ofNat 2147483647), (.negSucc 2147483647, .ofNat 2147483647), (.negSucc 2147483647, .ofNat 2147483647), (.negSucc 2147483647, .ofNat 2147483647), (.negSucc 2147483647, .ofNat 2147483647), (.negSucc 2147483647, .ofNat 2147483647), (.negSucc 2147483647, .ofNat 2147483647), (.negSucc 2147483647, .ofNat 2147483647), (.ofNat 0, .ofNat 14), (.ofNat 0, .ofNat 2147483647), (.ofNat 0, .ofNat 31)] (false, [], [], [])), [(0, (2, 155, .ofNat 0)), (1, (0, 10, .ofNat 0)), (2, (0, 11, .ofNat 0)), (3, (0, 12, .ofNat 0))], [], [], [(11, 1, 0, 2, 0), (12, 1, 0, 3, 0)], (.ofNat 1055, [(12, .negSucc 32)]), none)
set_option maxRecDepth 100000 in
def zn66_1 : zNd := (18, (z_li [(.ofNat 0, .ofNat 0), (.negSucc 2147483647, .ofNat 2147483647), (.negSucc 2147483647, .ofNat 2147483647), (.negSucc 2147483647, .ofNat 2147483647), (.negSucc 2147483647, .ofNat 2147483647), (.negSucc 2147483647, .ofNat 2147483647), (.negSucc 2147483647, .ofNat 2147483647), (.negSucc 2147483647, .ofNat 2147483647), (.negSucc 2147483647, .ofNat 2147483647), (.negSucc 2147483647, .ofNat 2147483647), (.ofNat 0, .ofNat 14), (.ofNat 0, .ofNat 2147483647), (.ofNat 0, .ofNat 30), (.negSucc 2147483647, .ofNat 2147483647), (.ofNat 0, .ofNat 31)] (false, [], [], [])), [(0, (2, 155, .ofNat 0)), (1, (0, 10, .ofNat 0)), (2, (0, 11, .ofNat 0)), (3, (0, 12, .ofNat 0)), (4, (0, 13, .ofNat 0)), (5, (0, 14, .ofNat 0))], [], [], [(11, 1, 0, 2, 0), (12, 1, 0, 3, 0), (13, 1, 0, 4, 0), (14, 1, 0, 5, 0)], (.ofNat 1054, [(14, .negSucc 0), (12, .negSucc 32)]), none)
def zg66_1 : List zNd := [zn66_0, zn66_1]
def znl66 : List zNd := zg66_1
set_option maxRecDepth 100000 in
theorem zk66_0 : z_ck0 zT1 (z_cnt zL0) 20000 [4, 18] zm161 zc66 znl66 = true := by decide +kernel
set_option maxRecDepth 100000 in
theorem zk66_1 : z_ckn zT1 (z_cnt zL0) 20000 [4, 18] zm161 zc66 znl66 zg66_1 = true := by decide +kernel
theorem zk66 : z_cok zT1 (z_cnt zL0) 20000 [4, 18] zm161 zc66 znl66 = true := z_cok_of zk66_0 (zk66_1)
set_option maxRecDepth 100000 in
def zn67_0 : zNd := (4, (z_li [(.ofNat 0, .ofNat 0), (.negSucc 2147483647, .ofNat 2147483647), (.negSucc 2147483647, .ofNat 2147483647), (.negSucc 2147483647, .ofNat 2147483647), (.negSucc 2147483647, .ofNat 2147483647), (.negSucc 2147483647, .ofNat 2147483647), (.negSucc 2147483647, .ofNat 2147483647), (.negSucc 2147483647, .ofNat 2147483647), (.negSucc 2147483647, .ofNat 2147483647), (.negSucc 2147483647, .ofNat 2147483647), (.negSucc 127, .ofNat 63), (.negSucc 2147483647, .ofNat 2147483647), (.ofNat 2, .ofNat 64)] (false, [], [], [])), [(0, (0, 10, .ofNat 0)), (1, (0, 11, .ofNat 0)), (2, (0, 12, .ofNat 0))], [], [], [(11, 1, 0, 1, 0), (12, 1, 0, 2, 0)], (.ofNat 64, [(12, .negSucc 0)]), none)
def zg67_1 : List zNd := [zn67_0]
def znl67 : List zNd := zg67_1
set_option maxRecDepth 100000 in
theorem zk67_0 : z_ck0 zT1 (z_cnt zL0) 20000 [4] zm173 zc67 znl67 = true := by decide +kernel
set_option maxRecDepth 100000 in
theorem zk67_1 : z_ckn zT1 (z_cnt zL0) 20000 [4] zm173 zc67 znl67 zg67_1 = true := by decide +kernel
theorem zk67 : z_cok zT1 (z_cnt zL0) 20000 [4] zm173 zc67 znl67 = true := z_cok_of zk67_0 (zk67_1)
set_option maxRecDepth 100000 in
def zn68_0 : zNd := (9, (z_li [(.ofNat 0, .ofNat 0), (.negSucc 2147483647, .ofNat 2147483647), (.negSucc 2147483647, .ofNat 2147483647), (.negSucc 2147483647, .ofNat 2147483647), (.negSucc 2147483647, .ofNat 2147483647), (.negSucc 2147483647, .ofNat 2147483647), (.negSucc 2147483647, .ofNat 2147483647), (.negSucc 2147483647, .ofNat 2147483647), (.negSucc 2147483647, .ofNat 2147483647), (.negSucc 2147483647, .ofNat 2147483647), (.negSucc 9223372036854775807, .ofNat 9223372036854775807), (.negSucc 9223372036854775807, .ofNat 9223372036854775807), (.negSucc 9223372036854775807, .ofNat 9223372036854775807), (.negSucc 9223372036854775807, .ofNat 9223372036854775807), (.ofNat 0, .ofNat 239)] (false, [], [], [])), [(4, (1, 12, .ofNat 0)), (6, (1, 13, .ofNat 0)), (8, (0, 14, .ofNat 0))], [], [], [(12, 1, 0, 4, 0), (13, 1, 0, 6, 0), (14, 1, 0, 8, 0)], (.ofNat 239, [(14, .negSucc 0)]), none)
def zg68_1 : List zNd := [zn68_0]
def znl68 : List zNd := zg68_1
set_option maxRecDepth 100000 in
theorem zk68_0 : z_ck0 zT1 (z_cnt zL0) 20000 [9] zm175 zc68 znl68 = true := by decide +kernel
set_option maxRecDepth 100000 in
theorem zk68_1 : z_ckn zT1 (z_cnt zL0) 20000 [9] zm175 zc68 znl68 zg68_1 = true := by decide +kernel
theorem zk68 : z_cok zT1 (z_cnt zL0) 20000 [9] zm175 zc68 znl68 = true := z_cok_of zk68_0 (zk68_1)
set_option maxRecDepth 100000 in
theorem zk69 : z_cok zT1 (z_cnt zL0) 20000 [] zm176 zc69 [] = true := by decide +kernel
set_option maxRecDepth 100000 in
theorem zk70 : z_cok zT1 (z_cnt zL0) 20000 [] zm176 zc70 [] = true := by decide +kernel
set_option maxRecDepth 100000 in
theorem zk71 : z_cok zT1 (z_cnt zL0) 20000 [] zm176 zc71 [] = true := by decide +kernel
set_option maxRecDepth 100000 in
def zn72_0 : zNd := (31, (z_li [(.ofNat 0, .ofNat 0), (.negSucc 2147483647, .ofNat 2147483647), (.negSucc 2147483647, .ofNat 2147483647), (.negSucc 2147483647, .ofNat 2147483647), (.negSucc 2147483647, .ofNat 2147483647), (.negSucc 2147483647, .ofNat 2147483647), (.negSucc 2147483647, .ofNat 2147483647), (.negSucc 2147483647, .ofNat 2147483647), (.negSucc 2147483647, .ofNat 2147483647), (.negSucc 2147483647, .ofNat 2147483647), (.negSucc 9223372036854775807, .negSucc 0), (.ofNat 1, .ofNat 512000000000), (.ofNat 1, .ofNat 512000000000), (.negSucc 511999999998, .ofNat 0)] (true, [], [], [])), [(4, (1, 12, .ofNat 0)), (6, (1, 13, .ofNat 0))], [], [], [(12, 1, 0, 4, 0), (13, 1, 0, 6, 0)], (.ofNat 1, [(13, .negSucc 1)]), none)
set_option maxRecDepth 100000 in
def zn72_1 : zNd := (31, (z_li [(.ofNat 0, .ofNat 0), (.negSucc 2147483647, .ofNat 2147483647), (.negSucc 2147483647, .ofNat 2147483647), (.negSucc 2147483647, .ofNat 2147483647), (.negSucc 2147483647, .ofNat 2147483647), (.negSucc 2147483647, .ofNat 2147483647), (.negSucc 2147483647, .ofNat 2147483647), (.negSucc 2147483647, .ofNat 2147483647), (.negSucc 2147483647, .ofNat 2147483647), (.negSucc 2147483647, .ofNat 2147483647), (.negSucc 9223372036854775807, .ofNat 9223372036854775807), (.ofNat 1, .ofNat 512000000000), (.ofNat 1, .ofNat 512000000000), (.ofNat 0, .ofNat 511999999999)] (true, [], [], [])), [(4, (1, 12, .ofNat 0)), (6, (1, 13, .ofNat 0))], [], [], [(12, 1, 0, 4, 0), (13, 1, 0, 6, 0)], (.ofNat 1024000000000, [(13, .ofNat 1)]), none)
set_option maxRecDepth 100000 in
def zn72_2 : zNd := (31, (z_li [(.ofNat 0, .ofNat 0), (.negSucc 2147483647, .ofNat 2147483647), (.negSucc 2147483647, .ofNat 2147483647), (.negSucc 2147483647, .ofNat 2147483647), (.negSucc 2147483647, .ofNat 2147483647), (.negSucc 2147483647, .ofNat 2147483647), (.negSucc 2147483647, .ofNat 2147483647), (.negSucc 2147483647, .ofNat 2147483647), (.negSucc 2147483647, .ofNat 2147483647), (.negSucc 2147483647, .ofNat 2147483647), (.negSucc 9223372036854775807, .negSucc 0), (.ofNat 1, .ofNat 512000000000), (.negSucc 511999999998, .negSucc 0), (.ofNat 0, .ofNat 511999999998)] (true, [], [], [])), [(4, (1, 12, .ofNat 0)), (6, (1, 13, .ofNat 0))], [], [], [(12, 1, 0, 4, 0), (13, 1, 0, 6, 0)], (.ofNat 0, [(13, .ofNat 2)]), none)
def zg72_1 : List zNd := [zn72_0, zn72_1, zn72_2]
def znl72 : List zNd := zg72_1
set_option maxRecDepth 100000 in
theorem zk72_0 : z_ck0 zT1 (z_cnt zL0) 20000 [31] zm178 zc72 znl72 = true := by decide +kernel
set_option maxRecDepth 100000 in
theorem zk72_1 : z_ckn zT1 (z_cnt zL0) 20000 [31] zm178 zc72 znl72 zg72_1 = true := by decide +kernel
theorem zk72 : z_cok zT1 (z_cnt zL0) 20000 [31] zm178 zc72 znl72 = true := z_cok_of zk72_0 (zk72_1)
set_option maxRecDepth 100000 in
def zn73_0 : zNd := (5, (z_li [(.ofNat 0, .ofNat 0), (.negSucc 2147483647, .ofNat 2147483647), (.negSucc 2147483647, .ofNat 2147483647), (.negSucc 2147483647, .ofNat 2147483647), (.negSucc 2147483647, .ofNat 2147483647), (.negSucc 2147483647, .ofNat 2147483647), (.negSucc 2147483647, .ofNat 2147483647), (.negSucc 2147483647, .ofNat 2147483647), (.negSucc 2147483647, .ofNat 2147483647), (.negSucc 2147483647, .ofNat 2147483647), (.ofNat 0, .ofNat 511), (.negSucc 9223372036854775807, .ofNat 9223372036854775807), (.ofNat 0, .ofNat 9)] (false, [], [], [])), [(0, (2, 70, .ofNat 0)), (1, (0, 10, .ofNat 0)), (2, (1, 11, .ofNat 0)), (4, (0, 12, .ofNat 0))], [], [], [(11, 1, 0, 2, 0), (12, 1, 0, 4, 0)], (.ofNat 9, [(12, .negSucc 0)]), none)
def zg73_1 : List zNd := [zn73_0]
def znl73 : List zNd := zg73_1
set_option maxRecDepth 100000 in
theorem zk73_0 : z_ck0 zT1 (z_cnt zL0) 20000 [5] zm185 zc73 znl73 = true := by decide +kernel
set_option maxRecDepth 100000 in
theorem zk73_1 : z_ckn zT1 (z_cnt zL0) 20000 [5] zm185 zc73 znl73 zg73_1 = true := by decide +kernel
theorem zk73 : z_cok zT1 (z_cnt zL0) 20000 [5] zm185 zc73 znl73 = true := z_cok_of zk73_0 (zk73_1)
set_option maxRecDepth 100000 in
def zn74_0 : zNd := (4, (z_li [(.ofNat 0, .ofNat 0), (.negSucc 2147483647, .ofNat 2147483647), (.negSucc 2147483647, .ofNat 2147483647), (.negSucc 2147483647, .ofNat 2147483647), (.negSucc 2147483647, .ofNat 2147483647), (.negSucc 2147483647, .ofNat 2147483647), (.negSucc 2147483647, .ofNat 2147483647), (.negSucc 2147483647, .ofNat 2147483647), (.negSucc 2147483647, .ofNat 2147483647), (.negSucc 2147483647, .ofNat 2147483647), (.negSucc 9223372036854775807, .ofNat 9223372036854775807), (.ofNat 0, .ofNat 9)] (false, [], [], [])), [(0, (2, 70, .ofNat 0)), (1, (1, 10, .ofNat 0)), (3, (0, 11, .ofNat 0))], [], [], [(10, 1, 0, 1, 0), (11, 1, 0, 3, 0)], (.ofNat 9, [(11, .negSucc 0)]), none)
def zg74_1 : List zNd := [zn74_0]
def znl74 : List zNd := zg74_1
set_option maxRecDepth 100000 in
theorem zk74_0 : z_ck0 zT1 (z_cnt zL0) 20000 [4] zm186 zc74 znl74 = true := by decide +kernel
set_option maxRecDepth 100000 in
theorem zk74_1 : z_ckn zT1 (z_cnt zL0) 20000 [4] zm186 zc74 znl74 zg74_1 = true := by decide +kernel
theorem zk74 : z_cok zT1 (z_cnt zL0) 20000 [4] zm186 zc74 znl74 = true := z_cok_of zk74_0 (zk74_1)
set_option maxRecDepth 100000 in
def zn75_0 : zNd := (9, (z_li [(.ofNat 0, .ofNat 0), (.negSucc 2147483647, .ofNat 2147483647), (.negSucc 2147483647, .ofNat 2147483647), (.negSucc 2147483647, .ofNat 2147483647), (.negSucc 2147483647, .ofNat 2147483647), (.negSucc 2147483647, .ofNat 2147483647), (.negSucc 2147483647, .ofNat 2147483647), (.negSucc 2147483647, .ofNat 2147483647), (.negSucc 2147483647, .ofNat 2147483647), (.negSucc 2147483647, .ofNat 2147483647), (.ofNat 0, .ofNat 2147483647), (.ofNat 0, .ofNat 2147483647), (.ofNat 0, .ofNat 511), (.ofNat 0, .ofNat 9)] (false, [], [], [])), [(0, (2, 70, .ofNat 0)), (2, (1, 11, .ofNat 0)), (4, (0, 12, .ofNat 0)), (5, (0, 13, .ofNat 0))], [], [], [(11, 1, 0, 2, 0), (12, 1, 0, 4, 0), (13, 1, 0, 5, 0)], (.ofNat 9, [(13, .negSucc 0)]), none)
def zg75_1 : List zNd := [zn75_0]
def znl75 : List zNd := zg75_1
set_option maxRecDepth 100000 in
theorem zk75_0 : z_ck0 zT1 (z_cnt zL0) 20000 [9] zm192 zc75 znl75 = true := by decide +kernel
set_option maxRecDepth 100000 in
theorem zk75_1 : z_ckn zT1 (z_cnt zL0) 20000 [9] zm192 zc75 znl75 zg75_1 = true := by decide +kernel
theorem zk75 : z_cok zT1 (z_cnt zL0) 20000 [9] zm192 zc75 znl75 = true := z_cok_of zk75_0 (zk75_1)
set_option maxRecDepth 100000 in
def zn76_0 : zNd := (4, (z_li [(.ofNat 0, .ofNat 0), (.negSucc 2147483647, .ofNat 2147483647), (.negSucc 2147483647, .ofNat 2147483647), (.negSucc 2147483647, .ofNat 2147483647), (.negSucc 2147483647, .ofNat 2147483647), (.negSucc 2147483647, .ofNat 2147483647), (.negSucc 2147483647, .ofNat 2147483647), (.negSucc 2147483647, .ofNat 2147483647), (.negSucc 2147483647, .ofNat 2147483647), (.negSucc 2147483647, .ofNat 2147483647), (.negSucc 2147483647, .ofNat 2147483647), (.ofNat 0, .ofNat 4)] (false, [], [], [])), [(0, (2, 62, .ofNat 0)), (1, (0, 10, .ofNat 0)), (2, (0, 11, .ofNat 0))], [], [], [(10, 1, 0, 1, 0), (11, 1, 0, 2, 0)], (.ofNat 4, [(11, .negSucc 0)]), none)
def zg76_1 : List zNd := [zn76_0]
def znl76 : List zNd := zg76_1
set_option maxRecDepth 100000 in
theorem zk76_0 : z_ck0 zT1 (z_cnt zL0) 20000 [4] zm197 zc76 znl76 = true := by decide +kernel
set_option maxRecDepth 100000 in
theorem zk76_1 : z_ckn zT1 (z_cnt zL0) 20000 [4] zm197 zc76 znl76 zg76_1 = true := by decide +kernel
theorem zk76 : z_cok zT1 (z_cnt zL0) 20000 [4] zm197 zc76 znl76 = true := z_cok_of zk76_0 (zk76_1)
set_option maxRecDepth 100000 in
def zn77_0 : zNd := (6, (z_li [(.ofNat 0, .ofNat 0), (.negSucc 2147483647, .ofNat 2147483647), (.negSucc 2147483647, .ofNat 2147483647), (.negSucc 2147483647, .ofNat 2147483647), (.negSucc 2147483647, .ofNat 2147483647), (.negSucc 2147483647, .ofNat 2147483647), (.negSucc 2147483647, .ofNat 2147483647), (.negSucc 2147483647, .ofNat 2147483647), (.negSucc 2147483647, .ofNat 2147483647), (.negSucc 2147483647, .ofNat 2147483647), (.ofNat 0, .ofNat 0), (.ofNat 0, .ofNat 60)] (false, [], [], [])), [(0, (2, 64, .ofNat 0)), (1, (1, 10, .ofNat 0)), (3, (0, 11, .ofNat 0)), (4, (0, 0, .ofNat 60))], [], [], [(11, 1, 0, 3, 0)], (.ofNat 60, [(11, .negSucc 0)]), none)
def zg77_1 : List zNd := [zn77_0]
def znl77 : List zNd := zg77_1
set_option maxRecDepth 100000 in
theorem zk77_0 : z_ck0 zT1 (z_cnt zL0) 20000 [6] zm200 zc77 znl77 = true := by decide +kernel
set_option maxRecDepth 100000 in
theorem zk77_1 : z_ckn zT1 (z_cnt zL0) 20000 [6] zm200 zc77 znl77 zg77_1 = true := by decide +kernel
theorem zk77 : z_cok zT1 (z_cnt zL0) 20000 [6] zm200 zc77 znl77 = true := z_cok_of zk77_0 (zk77_1)
set_option maxRecDepth 100000 in
def zn78_0 : zNd := (6, (z_li [(.ofNat 0, .ofNat 0), (.negSucc 2147483647, .ofNat 2147483647), (.negSucc 2147483647, .ofNat 2147483647), (.negSucc 2147483647, .ofNat 2147483647), (.negSucc 2147483647, .ofNat 2147483647), (.negSucc 2147483647, .ofNat 2147483647), (.negSucc 2147483647, .ofNat 2147483647), (.negSucc 2147483647, .ofNat 2147483647), (.negSucc 2147483647, .ofNat 2147483647), (.negSucc 2147483647, .ofNat 2147483647), (.ofNat 0, .ofNat 0), (.ofNat 0, .ofNat 60)] (false, [], [], [])), [(0, (2, 65, .ofNat 0)), (1, (1, 10, .ofNat 0)), (3, (0, 11, .ofNat 0)), (4, (0, 0, .ofNat 60))], [], [], [(11, 1, 0, 3, 0)], (.ofNat 60, [(11, .negSucc 0)]), none)
def zg78_1 : List zNd := [zn78_0]
def znl78 : List zNd := zg78_1
set_option maxRecDepth 100000 in
theorem zk78_0 : z_ck0 zT1 (z_cnt zL0) 20000 [6] zm200 zc78 znl78 = true := by decide +kernel
set_option maxRecDepth 100000 in
theorem zk78_1 : z_ckn zT1 (z_cnt zL0) 20000 [6] zm200 zc78 znl78 zg78_1 = true := by decide +kernel
theorem zk78 : z_cok zT1 (z_cnt zL0) 20000 [6] zm200 zc78 znl78 = true := z_cok_of zk78_0 (zk78_1)
set_option maxRecDepth 100000 in
def zn79_0 : zNd := (6, (z_li [(.ofNat 0, .ofNat 0), (.negSucc 2147483647, .ofNat 2147483647), (.negSucc 2147483647, .ofNat 2147483647), (.negSucc 2147483647, .ofNat 2147483647), (.negSucc 2147483647, .ofNat 2147483647), (.negSucc 2147483647, .ofNat 2147483647), (.negSucc 2147483647, .ofNat 2147483647), (.negSucc 2147483647, .ofNat 2147483647), (.negSucc 2147483647, .ofNat 2147483647), (.negSucc 2147483647, .ofNat 2147483647), (.ofNat 0, .ofNat 0), (.ofNat 0, .ofNat 60)] (false, [], [], [])), [(0, (2, 66, .ofNat 0)), (1, (1, 10, .ofNat 0)), (3, (0, 11, .ofNat 0)), (4, (0, 0, .ofNat 60))], [], [], [(11, 1, 0, 3, 0)], (.ofNat 60, [(11, .negSucc 0)]), none)
def zg79_1 : List zNd := [zn79_0]
def znl79 : List zNd := zg79_1
set_option maxRecDepth 100000 in
theorem zk79_0 : z_ck0 zT1 (z_cnt zL0) 20000 [6] zm200 zc79 znl79 = true := by decide +kernel
set_option maxRecDepth 100000 in
theorem zk79_1 : z_ckn zT1 (z_cnt zL0) 20000 [6] zm200 zc79 znl79 zg79_1 = true := by decide +kernel
theorem zk79 : z_cok zT1 (z_cnt zL0) 20000 [6] zm200 zc79 znl79 = true := z_cok_of zk79_0 (zk79_1)
set_option maxRecDepth 100000 in
def zn80_0 : zNd := (6, (z_li [(.ofNat 0, .ofNat 0), (.negSucc 2147483647, .ofNat 2147483647), (.negSucc 2147483647, .ofNat 2147483647), (.negSucc 2147483647, .ofNat 2147483647), (.negSucc 2147483647, .ofNat 2147483647), (.negSucc 2147483647, .ofNat 2147483647), (.negSucc 2147483647, .ofNat 2147483647), (.negSucc 2147483647, .ofNat 2147483647), (.negSucc 2147483647, .ofNat 2147483647), (.negSucc 2147483647, .ofNat 2147483647), (.ofNat 0, .ofNat 0), (.ofNat 0, .ofNat 60)] (false, [], [], [])), [(0, (2, 67, .ofNat 0)), (1, (1, 10, .ofNat 0)), (3, (0, 11, .ofNat 0)), (4, (0, 0, .ofNat 60))], [], [], [(11, 1, 0, 3, 0)], (.ofNat 60, [(11, .negSucc 0)]), none)
def zg80_1 : List zNd := [zn80_0]
def znl80 : List zNd := zg80_1
set_option maxRecDepth 100000 in
theorem zk80_0 : z_ck0 zT1 (z_cnt zL0) 20000 [6] zm200 zc80 znl80 = true := by decide +kernel
set_option maxRecDepth 100000 in
theorem zk80_1 : z_ckn zT1 (z_cnt zL0) 20000 [6] zm200 zc80 znl80 zg80_1 = true := by decide +kernel
theorem zk80 : z_cok zT1 (z_cnt zL0) 20000 [6] zm200 zc80 znl80 = true := z_cok_of zk80_0 (zk80_1)
set_option maxRecDepth 100000 in
theorem zk81 : z_cok zT1 (z_cnt zL0) 20000 [] zm203 zc81 [] = true := by decide +kernel
set_option maxRecDepth 100000 in
theorem zk84 : z_cok zT1 (z_cnt zL0) 20000 [] zm208 zc84 [] = true := by decide +kernel
set_option maxRecDepth 100000 in
def zn85_0 : zNd := (55, (z_li [(.ofNat 0, .ofNat 0), (.negSucc 2147483647, .ofNat 2147483647), (.negSucc 2147483647, .ofNat 2147483647), (.negSucc 2147483647, .ofNat 2147483647), (.negSucc 2147483647, .ofNat 2147483647), (.negSucc 2147483647, .ofNat 2147483647), (.negSucc 2147483647, .ofNat 2147483647), (.negSucc 2147483647, .ofNat 2147483647), (.negSucc 2147483647, .ofNat 2147483647), (.negSucc 2147483647, .ofNat 2147483647), (.negSucc 2147483647, .ofNat 2147483647), (.negSucc 2147483647, .ofNat 2147483647), (.negSucc 2147483647, .ofNat 2147483647), (.negSucc 2147483647, .ofNat 2147483647), (.negSucc 2147483647, .ofNat 2147483647), (.ofNat 0, .ofNat 680), (.ofNat 0, .ofNat 20)] (false, [], [], [])), [(0, (2, 155, .ofNat 0)), (6, (0, 16, .ofNat 0))], [], [(155, 5, 1, (0, 15, .ofNat 0)), (160, 0, 5, (0, 10, .ofNat 0))], [(16, 1, 0, 6, 0)], (.ofNat 20, [(16, .negSucc 0)]), none)
def zg85_1 : List zNd := [zn85_0]
def znl85 : List zNd := zg85_1
set_option maxRecDepth 100000 in
theorem zk85_0 : z_ck0 zT1 (z_cnt zL0) 20000 [55] zm209 zc85 znl85 = true := by decide +kernel
set_option maxRecDepth 100000 in
theorem zk85_1 : z_ckn zT1 (z_cnt zL0) 20000 [55] zm209 zc85 znl85 zg85_1 = true := by decide +kernel
theorem zk85 : z_cok zT1 (z_cnt zL0) 20000 [55] zm209 zc85 znl85 = true := z_cok_of zk85_0 (zk85_1)
