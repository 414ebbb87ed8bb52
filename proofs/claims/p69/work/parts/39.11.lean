set_option maxRecDepth 100000 in
theorem zk16 : z_cok zT1 (z_cnt zL0) 20000 [] zm49 zc16 [] = true := by decide +kernel
set_option maxRecDepth 100000 in
theorem zk17 : z_cok zT1 (z_cnt zL0) 20000 [] zm49 zc17 [] = true := by decide +kernel
set_option maxRecDepth 100000 in
theorem zk18 : z_cok zT1 (z_cnt zL0) 20000 [] zm49 zc18 [] = true := by decide +kernel
set_option maxRecDepth 100000 in
theorem zk19 : z_cok zT1 (z_cnt zL0) 20000 [] zm49 zc19 [] = true := by decide +kernel
set_option maxRecDepth 100000 in
theorem zk20 : z_cok zT1 (z_cnt zL0) 20000 [] zm54 zc20 [] = true := by decide +kernel
set_option maxRecDepth 100000 in
theorem zk21 : z_cok zT1 (z_cnt zL0) 20000 [] zm54 zc21 [] = true := by decide +kernel
set_option maxRecDepth 100000 in
theorem zk22 : z_cok zT1 (z_cnt zL0) 20000 [] zm54 zc22 [] = true := by decide +kernel
set_option maxRecDepth 100000 in
theorem zk23 : z_cok zT1 (z_cnt zL0) 20000 [] zm54 zc23 [] = true := by decide +kernel
set_option maxRecDepth 100000 in
theorem zk24 : z_cok zT1 (z_cnt zL0) 20000 [] zm54 zc24 [] = true := by decide +kernel
set_option maxRecDepth 100000 in
theorem zk25 : z_cok zT1 (z_cnt zL0) 20000 [] zm54 zc25 [] = true := by decide +kernel
set_option maxRecDepth 100000 in
theorem zk26 : z_cok zT1 (z_cnt zL0) 20000 [] zm54 zc26 [] = true := by decide +kernel
set_option maxRecDepth 100000 in
theorem zk27 : z_cok zT1 (z_cnt zL0) 20000 [] zm54 zc27 [] = true := by decide +kernel
set_option maxRecDepth 100000 in
theorem zk28 : z_cok zT1 (z_cnt zL0) 20000 [] zm54 zc28 [] = true := by decide +kernel
set_option maxRecDepth 100000 in
theorem zk29 : z_cok zT1 (z_cnt zL0) 20000 [] zm54 zc29 [] = true := by decide +kernel
set_option maxRecDepth 100000 in
theorem zk30 : z_cok zT1 (z_cnt zL0) 20000 [] zm54 zc30 [] = true := by decide +kernel
set_option maxRecDepth 100000 in
def zn31_0 : zNd := (6, (z_li [(0, 0), ((-2147483648), 2147483647), ((-2147483648), 2147483647), ((-2147483648), 2147483647), ((-2147483648), 2147483647), ((-2147483648), 2147483647), ((-2147483648), 2147483647), ((-2147483648), 2147483647), ((-2147483648), 2147483647), ((-2147483648), 2147483647), (0, 88), (0, 17), (0, 7), (0, 1), (0, 7)] (false, [], [], [])), [(0, (2, 155, 0)), (1, (0, 10, 0)), (2, (0, 11, 0)), (3, (0, 12, 0)), (4, (0, 13, 0)), (5, (0, 14, 0))], [], [], [(13, 1, 0, 4, 0), (14, 1, 0, 5, 0)], (7, [(14, (-1))]), none)
set_option maxRecDepth 100000 in
def znl31 : List zNd := [zn31_0]
set_option maxRecDepth 100000 in
theorem zk31_0 : z_ck0 zT1 (z_cnt zL0) 20000 [6] zm58 zc31 znl31 = true := by decide +kernel
set_option maxRecDepth 100000 in
theorem zk31_1 : z_ckn zT1 (z_cnt zL0) 20000 [6] zm58 zc31 znl31 [zn31_0] = true := by decide +kernel
set_option maxRecDepth 100000 in
theorem zk31 : z_cok zT1 (z_cnt zL0) 20000 [6] zm58 zc31 znl31 = true := z_cok_of zk31_0 (zk31_1)
set_option maxRecDepth 100000 in
def zn32_0 : zNd := (2, (z_li [(0, 0), ((-2147483648), 2147483647), ((-2147483648), 2147483647), ((-2147483648), 2147483647), ((-2147483648), 2147483647), ((-2147483648), 2147483647), ((-2147483648), 2147483647), ((-2147483648), 2147483647), ((-2147483648), 2147483647), ((-2147483648), 2147483647), (0, 255), (0, 100)] (false, [], [], [])), [(0, (2, 155, 0)), (1, (0, 10, 0)), (2, (0, 11, 0))], [], [], [(11, 1, 0, 2, 0)], (109, [(11, (-1))]), none)
set_option maxRecDepth 100000 in
def zn32_1 : zNd := (23, (z_li [(0, 0), ((-2147483648), 2147483647), ((-2147483648), 2147483647), ((-2147483648), 2147483647), ((-2147483648), 2147483647), ((-2147483648), 2147483647), ((-2147483648), 2147483647), ((-2147483648), 2147483647), ((-2147483648), 2147483647), ((-2147483648), 2147483647), (0, 255), (0, 8)] (false, [], [], [])), [(0, (2, 155, 0)), (1, (0, 10, 0)), (2, (0, 11, 0))], [], [], [(11, 1, 0, 2, 0)], (8, [(11, (-1))]), none)
set_option maxRecDepth 100000 in
def znl32 : List zNd := [zn32_0, zn32_1]
set_option maxRecDepth 100000 in
theorem zk32_0 : z_ck0 zT1 (z_cnt zL0) 20000 [2, 23] zm79 zc32 znl32 = true := by decide +kernel
set_option maxRecDepth 100000 in
theorem zk32_1 : z_ckn zT1 (z_cnt zL0) 20000 [2, 23] zm79 zc32 znl32 [zn32_0, zn32_1] = true := by decide +kernel
set_option maxRecDepth 100000 in
theorem zk32 : z_cok zT1 (z_cnt zL0) 20000 [2, 23] zm79 zc32 znl32 = true := z_cok_of zk32_0 (zk32_1)
set_option maxRecDepth 100000 in
theorem zk33 : z_cok zT1 (z_cnt zL0) 20000 [] zm88 zc33 [] = true := by decide +kernel
set_option maxRecDepth 100000 in
theorem zk34 : z_cok zT1 (z_cnt zL0) 20000 [] zm91 zc34 [] = true := by decide +kernel
set_option maxRecDepth 100000 in
def zn35_0 : zNd := (5, (z_li [(0, 0), ((-2147483648), 2147483647), ((-2147483648), 2147483647), ((-2147483648), 2147483647), ((-2147483648), 2147483647), ((-2147483648), 2147483647), ((-2147483648), 2147483647), ((-2147483648), 2147483647), ((-2147483648), 2147483647), ((-2147483648), 2147483647), ((-2147483648), 2147483647), (0, 14), (0, 63), (0, 6)] (false, [], [], [])), [(0, (2, 0, 0)), (1, (0, 10, 0)), (2, (0, 11, 0)), (3, (0, 12, 0)), (4, (0, 13, 0))], [], [], [(12, 1, 0, 3, 0), (13, 1, 0, 4, 0)], (6, [(13, (-1))]), none)
set_option maxRecDepth 100000 in
def znl35 : List zNd := [zn35_0]
set_option maxRecDepth 100000 in
theorem zk35_0 : z_ck0 zT1 (z_cnt zL0) 20000 [5] zm96 zc35 znl35 = true := by decide +kernel
set_option maxRecDepth 100000 in
theorem zk35_1 : z_ckn zT1 (z_cnt zL0) 20000 [5] zm96 zc35 znl35 [zn35_0] = true := by decide +kernel
set_option maxRecDepth 100000 in
theorem zk35 : z_cok zT1 (z_cnt zL0) 20000 [5] zm96 zc35 znl35 = true := z_cok_of zk35_0 (zk35_1)
set_option maxRecDepth 100000 in
theorem zk36 : z_cok zT1 (z_cnt zL0) 20000 [] zm97 zc36 [] = true := by decide +kernel
set_option maxRecDepth 100000 in
def zn37_0 : zNd := (5, (z_li [(0, 0), ((-2147483648), 2147483647), ((-2147483648), 2147483647), ((-2147483648), 2147483647), ((-2147483648), 2147483647), ((-2147483648), 2147483647), ((-2147483648), 2147483647), ((-2147483648), 2147483647), ((-2147483648), 2147483647), ((-2147483648), 2147483647), ((-1), 99), (0, 14), (0, 63), (0, 6)] (false, [], [], [])), [(0, (2, 155, 0)), (1, (0, 10, 0)), (2, (0, 11, 0)), (3, (0, 12, 0)), (4, (0, 13, 0))], [], [], [(12, 1, 0, 3, 0), (13, 1, 0, 4, 0)], (6, [(13, (-1))]), none)
set_option maxRecDepth 100000 in
def znl37 : List zNd := [zn37_0]
set_option maxRecDepth 100000 in
theorem zk37_0 : z_ck0 zT1 (z_cnt zL0) 20000 [5] zm98 zc37 znl37 = true := by decide +kernel
set_option maxRecDepth 100000 in
theorem zk37_1 : z_ckn zT1 (z_cnt zL0) 20000 [5] zm98 zc37 znl37 [zn37_0] = true := by decide +kernel
set_option maxRecDepth 100000 in
theorem zk37 : z_cok zT1 (z_cnt zL0) 20000 [5] zm98 zc37 znl37 = true := z_cok_of zk37_0 (zk37_1)
set_option maxRecDepth 100000 in
def zn38_0 : zNd := (4, (z_li [(0, 0), ((-2147483648), 2147483647), ((-2147483648), 2147483647), ((-2147483648), 2147483647), ((-2147483648), 2147483647), ((-2147483648), 2147483647), ((-2147483648), 2147483647), ((-2147483648), 2147483647), ((-2147483648), 2147483647), ((-2147483648), 2147483647), (0, 13), (0, 63), (0, 6)] (false, [], [], [])), [(0, (2, 0, 0)), (1, (0, 10, 0)), (2, (0, 11, 0)), (3, (0, 12, 0))], [], [], [(11, 1, 0, 2, 0), (12, 1, 0, 3, 0)], (6, [(12, (-1))]), none)
set_option maxRecDepth 100000 in
def znl38 : List zNd := [zn38_0]
set_option maxRecDepth 100000 in
theorem zk38_0 : z_ck0 zT1 (z_cnt zL0) 20000 [4] zm100 zc38 znl38 = true := by decide +kernel
set_option maxRecDepth 100000 in
theorem zk38_1 : z_ckn zT1 (z_cnt zL0) 20000 [4] zm100 zc38 znl38 [zn38_0] = true := by decide +kernel
set_option maxRecDepth 100000 in
theorem zk38 : z_cok zT1 (z_cnt zL0) 20000 [4] zm100 zc38 znl38 = true := z_cok_of zk38_0 (zk38_1)
set_option maxRecDepth 100000 in
def zn39_0 : zNd := (4, (z_li [(0, 0), ((-2147483648), 2147483647), ((-2147483648), 2147483647), ((-2147483648), 2147483647), ((-2147483648), 2147483647), ((-2147483648), 2147483647), ((-2147483648), 2147483647), ((-2147483648), 2147483647), ((-2147483648), 2147483647), ((-2147483648), 2147483647), (0, 13), (0, 63), (0, 6)] (false, [], [], [])), [(0, (2, 155, 0)), (1, (0, 10, 0)), (2, (0, 11, 0)), (3, (0, 12, 0))], [], [], [(11, 1, 0, 2, 0), (12, 1, 0, 3, 0)], (6, [(12, (-1))]), none)
set_option maxRecDepth 100000 in
def znl39 : List zNd := [zn39_0]
set_option maxRecDepth 100000 in
theorem zk39_0 : z_ck0 zT1 (z_cnt zL0) 20000 [4] zm103 zc39 znl39 = true := by decide +kernel
set_option maxRecDepth 100000 in
theorem zk39_1 : z_ckn zT1 (z_cnt zL0) 20000 [4] zm103 zc39 znl39 [zn39_0] = true := by decide +kernel
set_option maxRecDepth 100000 in
theorem zk39 : z_cok zT1 (z_cnt zL0) 20000 [4] zm103 zc39 znl39 = true := z_cok_of zk39_0 (zk39_1)
set_option maxRecDepth 100000 in
def zn40_0 : zNd := (4, (z_li [(0, 0), ((-2147483648), 2147483647), ((-2147483648), 2147483647), ((-2147483648), 2147483647), ((-2147483648), 2147483647), ((-2147483648), 2147483647), ((-2147483648), 2147483647), ((-2147483648), 2147483647), ((-2147483648), 2147483647), ((-2147483648), 2147483647), ((-2147483648), 2147483647), (0, 14)] (false, [], [], [])), [(0, (2, 44, 0)), (1, (0, 10, 0)), (2, (0, 11, 0))], [], [], [(10, 1, 0, 1, 0), (11, 1, 0, 2, 0)], (14, [(11, (-1))]), none)
set_option maxRecDepth 100000 in
def znl40 : List zNd := [zn40_0]
set_option maxRecDepth 100000 in
theorem zk40_0 : z_ck0 zT1 (z_cnt zL0) 20000 [4] zm104 zc40 znl40 = true := by decide +kernel
set_option maxRecDepth 100000 in
theorem zk40_1 : z_ckn zT1 (z_cnt zL0) 20000 [4] zm104 zc40 znl40 [zn40_0] = true := by decide +kernel
set_option maxRecDepth 100000 in
theorem zk40 : z_cok zT1 (z_cnt zL0) 20000 [4] zm104 zc40 znl40 = true := z_cok_of zk40_0 (zk40_1)
set_option maxRecDepth 100000 in
def zn41_0 : zNd := (4, (z_li [(0, 0), ((-2147483648), 2147483647), ((-2147483648), 2147483647), ((-2147483648), 2147483647), ((-2147483648), 2147483647), ((-2147483648), 2147483647), ((-2147483648), 2147483647), ((-2147483648), 2147483647), ((-2147483648), 2147483647), ((-2147483648), 2147483647), ((-2147483648), 2147483647), (0, 14)] (false, [], [], [])), [(0, (2, 47, 0)), (1, (0, 10, 0)), (2, (0, 11, 0))], [], [], [(10, 1, 0, 1, 0), (11, 1, 0, 2, 0)], (14, [(11, (-1))]), none)
set_option maxRecDepth 100000 in
def znl41 : List zNd := [zn41_0]
set_option maxRecDepth 100000 in
theorem zk41_0 : z_ck0 zT1 (z_cnt zL0) 20000 [4] zm104 zc41 znl41 = true := by decide +kernel
set_option maxRecDepth 100000 in
theorem zk41_1 : z_ckn zT1 (z_cnt zL0) 20000 [4] zm104 zc41 znl41 [zn41_0] = true := by decide +kernel
set_option maxRecDepth 100000 in
theorem zk41 : z_cok zT1 (z_cnt zL0) 20000 [4] zm104 zc41 znl41 = true := z_cok_of zk41_0 (zk41_1)
set_option maxRecDepth 100000 in
def zn42_0 : zNd := (4, (z_li [(0, 0), ((-2147483648), 2147483647), ((-2147483648), 2147483647), ((-2147483648), 2147483647), ((-2147483648), 2147483647), ((-2147483648), 2147483647), ((-2147483648), 2147483647), ((-2147483648), 2147483647), ((-2147483648), 2147483647), ((-2147483648), 2147483647), ((-2147483648), 2147483647), (0, 14)] (false, [], [], [])), [(0, (2, 50, 0)), (1, (0, 10, 0)), (2, (0, 11, 0))], [], [], [(10, 1, 0, 1, 0), (11, 1, 0, 2, 0)], (14, [(11, (-1))]), none)
set_option maxRecDepth 100000 in
def znl42 : List zNd := [zn42_0]
set_option maxRecDepth 100000 in
theorem zk42_0 : z_ck0 zT1 (z_cnt zL0) 20000 [4] zm104 zc42 znl42 = true := by decide +kernel
set_option maxRecDepth 100000 in
theorem zk42_1 : z_ckn zT1 (z_cnt zL0) 20000 [4] zm104 zc42 znl42 [zn42_0] = true := by decide +kernel
set_option maxRecDepth 100000 in
theorem zk42 : z_cok zT1 (z_cnt zL0) 20000 [4] zm104 zc42 znl42 = true := z_cok_of zk42_0 (zk42_1)
set_option maxRecDepth 100000 in
def zn43_0 : zNd := (4, (z_li [(0, 0), ((-2147483648), 2147483647), ((-2147483648), 2147483647), ((-2147483648), 2147483647), ((-2147483648), 2147483647), ((-2147483648), 2147483647), ((-2147483648), 2147483647), ((-2147483648), 2147483647), ((-2147483648), 2147483647), ((-2147483648), 2147483647), ((-2147483648), 2147483647), (0, 14)] (false, [], [], [])), [(0, (2, 53, 0)), (1, (0, 10, 0)), (2, (0, 11, 0))], [], [], [(10, 1, 0, 1, 0), (11, 1, 0, 2, 0)], (14, [(11, (-1))]), none)
set_option maxRecDepth 100000 in
def znl43 : List zNd := [zn43_0]
set_option maxRecDepth 100000 in
theorem zk43_0 : z_ck0 zT1 (z_cnt zL0) 20000 [4] zm104 zc43 znl43 = true := by decide +kernel
set_option maxRecDepth 100000 in
theorem zk43_1 : z_ckn zT1 (z_cnt zL0) 20000 [4] zm104 zc43 znl43 [zn43_0] = true := by decide +kernel
set_option maxRecDepth 100000 in
theorem zk43 : z_cok zT1 (z_cnt zL0) 20000 [4] zm104 zc43 znl43 = true := z_cok_of zk43_0 (zk43_1)
set_option maxRecDepth 100000 in
def zn44_0 : zNd := (4, (z_li [(0, 0), ((-2147483648), 2147483647), ((-2147483648), 2147483647), ((-2147483648), 2147483647), ((-2147483648), 2147483647), ((-2147483648), 2147483647), ((-2147483648), 2147483647), ((-2147483648), 2147483647), ((-2147483648), 2147483647), ((-2147483648), 2147483647), ((-2147483648), 2147483647), (0, 14)] (false, [], [], [])), [(0, (2, 56, 0)), (1, (0, 10, 0)), (2, (0, 11, 0))], [], [], [(10, 1, 0, 1, 0), (11, 1, 0, 2, 0)], (14, [(11, (-1))]), none)
set_option maxRecDepth 100000 in
def znl44 : List zNd := [zn44_0]
set_option maxRecDepth 100000 in
theorem zk44_0 : z_ck0 zT1 (z_cnt zL0) 20000 [4] zm104 zc44 znl44 = true := by decide +kernel
set_option maxRecDepth 100000 in
theorem zk44_1 : z_ckn zT1 (z_cnt zL0) 20000 [4] zm104 zc44 znl44 [zn44_0] = true := by decide +kernel
set_option maxRecDepth 100000 in
theorem zk44 : z_cok zT1 (z_cnt zL0) 20000 [4] zm104 zc44 znl44 = true := z_cok_of zk44_0 (zk44_1)
set_option maxRecDepth 100000 in
def zn45_0 : zNd := (4, (z_li [(0, 0), ((-2147483648), 2147483647), ((-2147483648), 2147483647), ((-2147483648), 2147483647), ((-2147483648), 2147483647), ((-2147483648), 2147483647), ((-2147483648), 2147483647), ((-2147483648), 2147483647), ((-2147483648), 2147483647), ((-2147483648), 2147483647), ((-2147483648), 2147483647), (0, 14)] (false, [], [], [])), [(0, (2, 59, 0)), (1, (0, 10, 0)), (2, (0, 11, 0))], [], [], [(10, 1, 0, 1, 0), (11, 1, 0, 2, 0)], (14, [(11, (-1))]), none)
set_option maxRecDepth 100000 in
def znl45 : List zNd := [zn45_0]
set_option maxRecDepth 100000 in
theorem zk45_0 : z_ck0 zT1 (z_cnt zL0) 20000 [4] zm104 zc45 znl45 = true := by decide +kernel
set_option maxRecDepth 100000 in
theorem zk45_1 : z_ckn zT1 (z_cnt zL0) 20000 [4] zm104 zc45 znl45 [zn45_0] = true := by decide +kernel
set_option maxRecDepth 100000 in
theorem zk45 : z_cok zT1 (z_cnt zL0) 20000 [4] zm104 zc45 znl45 = true := z_cok_of zk45_0 (zk45_1)
set_option maxRecDepth 100000 in
def zn46_0 : zNd := (4, (z_li [(0, 0), ((-2147483648), 2147483647), ((-2147483648), 2147483647), ((-2147483648), 2147483647), ((-2147483648), 2147483647), ((-2147483648), 2147483647), ((-2147483648), 2147483647), ((-2147483648), 2147483647), ((-2147483648), 2147483647), ((-2147483648), 2147483647), ((-2147483648), 2147483647), (0, 14)] (false, [], [], [])), [(0, (2, 74, 0)), (1, (0, 10, 0)), (2, (0, 11, 0))], [], [], [(10, 1, 0, 1, 0), (11, 1, 0, 2, 0)], (14, [(11, (-1))]), none)
set_option maxRecDepth 100000 in
def znl46 : List zNd := [zn46_0]
set_option maxRecDepth 100000 in
theorem zk46_0 : z_ck0 zT1 (z_cnt zL0) 20000 [4] zm104 zc46 znl46 = true := by decide +kernel
set_option maxRecDepth 100000 in
theorem zk46_1 : z_ckn zT1 (z_cnt zL0) 20000 [4] zm104 zc46 znl46 [zn46_0] = true := by decide +kernel
set_option maxRecDepth 100000 in
theorem zk46 : z_cok zT1 (z_cnt zL0) 20000 [4] zm104 zc46 znl46 = true := z_cok_of zk46_0 (zk46_1)
set_option maxRecDepth 100000 in
def zn47_0 : zNd := (4, (z_li [(0, 0), ((-2147483648), 2147483647), ((-2147483648), 2147483647), ((-2147483648), 2147483647), ((-2147483648), 2147483647), ((-2147483648), 2147483647), ((-2147483648), 2147483647), ((-2147483648), 2147483647), ((-2147483648), 2147483647), ((-2147483648), 2147483647), (0, 5), ((-2147483648), 2147483647), (0, 14)] (false, [], [], [])), [(0, (2, 155, 0)), (1, (0, 10, 0)), (2, (0, 11, 0)), (3, (0, 12, 0))], [], [], [(11, 1, 0, 2, 0), (12, 1, 0, 3, 0)], (14, [(12, (-1))]), none)
set_option maxRecDepth 100000 in
def znl47 : List zNd := [zn47_0]
set_option maxRecDepth 100000 in
theorem zk47_0 : z_ck0 zT1 (z_cnt zL0) 20000 [4] zm106 zc47 znl47 = true := by decide +kernel
set_option maxRecDepth 100000 in
theorem zk47_1 : z_ckn zT1 (z_cnt zL0) 20000 [4] zm106 zc47 znl47 [zn47_0] = true := by decide +kernel
set_option maxRecDepth 100000 in
theorem zk47 : z_cok zT1 (z_cnt zL0) 20000 [4] zm106 zc47 znl47 = true := z_cok_of zk47_0 (zk47_1)
set_option maxRecDepth 100000 in
def zn48_0 : zNd := (4, (z_li [(0, 0), ((-2147483648), 2147483647), ((-2147483648), 2147483647), ((-2147483648), 2147483647), ((-2147483648), 2147483647), ((-2147483648), 2147483647), ((-2147483648), 2147483647), ((-2147483648), 2147483647), ((-2147483648), 2147483647), ((-2147483648), 2147483647), (0, 5), ((-2147483648), 2147483647), (0, 15)] (false, [], [], [])), [(0, (2, 0, 0)), (1, (0, 10, 0)), (2, (0, 11, 0)), (3, (0, 12, 0))], [], [], [(11, 1, 0, 2, 0), (12, 1, 0, 3, 0)], (15, [(12, (-1))]), none)
set_option maxRecDepth 100000 in
def znl48 : List zNd := [zn48_0]
set_option maxRecDepth 100000 in
theorem zk48_0 : z_ck0 zT1 (z_cnt zL0) 20000 [4] zm107 zc48 znl48 = true := by decide +kernel
set_option maxRecDepth 100000 in
theorem zk48_1 : z_ckn zT1 (z_cnt zL0) 20000 [4] zm107 zc48 znl48 [zn48_0] = true := by decide +kernel
set_option maxRecDepth 100000 in
theorem zk48 : z_cok zT1 (z_cnt zL0) 20000 [4] zm107 zc48 znl48 = true := z_cok_of zk48_0 (zk48_1)
set_option maxRecDepth 100000 in
def zn49_0 : zNd := (4, (z_li [(0, 0), ((-2147483648), 2147483647), ((-2147483648), 2147483647), ((-2147483648), 2147483647), ((-2147483648), 2147483647), ((-2147483648), 2147483647), ((-2147483648), 2147483647), ((-2147483648), 2147483647), ((-2147483648), 2147483647), ((-2147483648), 2147483647), (0, 5), ((-2147483648), 2147483647), (0, 15)] (false, [], [], [])), [(0, (2, 155, 0)), (1, (0, 10, 0)), (2, (0, 11, 0)), (3, (0, 12, 0))], [], [], [(11, 1, 0, 2, 0), (12, 1, 0, 3, 0)], (15, [(12, (-1))]), none)
set_option maxRecDepth 100000 in
def znl49 : List zNd := [zn49_0]
set_option maxRecDepth 100000 in
theorem zk49_0 : z_ck0 zT1 (z_cnt zL0) 20000 [4] zm108 zc49 znl49 = true := by decide +kernel
set_option maxRecDepth 100000 in
theorem zk49_1 : z_ckn zT1 (z_cnt zL0) 20000 [4] zm108 zc49 znl49 [zn49_0] = true := by decide +kernel
set_option maxRecDepth 100000 in
theorem zk49 : z_cok zT1 (z_cnt zL0) 20000 [4] zm108 zc49 znl49 = true := z_cok_of zk49_0 (zk49_1)
set_option maxRecDepth 100000 in
def zn50_0 : zNd := (7, (z_li [(0, 0), ((-2147483648), 2147483647), ((-2147483648), 2147483647), ((-2147483648), 2147483647), ((-2147483648), 2147483647), ((-2147483648), 2147483647), ((-2147483648), 2147483647), ((-2147483648), 2147483647), ((-2147483648), 2147483647), ((-2147483648), 2147483647), ((-2147483648), 2147483647), ((-1), 5), (0, 214748390), (0, 6)] (false, [], [], [])), [(0, (2, 19, 0)), (1, (0, 10, 0)), (2, (0, 11, 0)), (3, (0, 12, 0)), (4, (0, 13, 0))], [], [], [(11, 1, 0, 2, 0), (12, 1, 0, 3, 0), (13, 1, 0, 4, 0)], (6, [(13, (-1))]), none)
set_option maxRecDepth 100000 in
def znl50 : List zNd := [zn50_0]
set_option maxRecDepth 100000 in
theorem zk50_0 : z_ck0 zT1 (z_cnt zL0) 20000 [7] zm110 zc50 znl50 = true := by decide +kernel
set_option maxRecDepth 100000 in
theorem zk50_1 : z_ckn zT1 (z_cnt zL0) 20000 [7] zm110 zc50 znl50 [zn50_0] = true := by decide +kernel
set_option maxRecDepth 100000 in
theorem zk50 : z_cok zT1 (z_cnt zL0) 20000 [7] zm110 zc50 znl50 = true := z_cok_of zk50_0 (zk50_1)
set_option maxRecDepth 100000 in
def zn51_0 : zNd := (13, (z_li [(0, 0), ((-2147483648), 2147483647), ((-2147483648), 2147483647), ((-2147483648), 2147483647), ((-2147483648), 2147483647), ((-2147483648), 2147483647), ((-2147483648), 2147483647), ((-2147483648), 2147483647), ((-2147483648), 2147483647), ((-2147483648), 2147483647), (0, 5), (0, 14), ((-1), 99), ((-1), 5), (0, 6)] (false, [], [], [])), [(0, (2, 155, 0)), (3, (0, 12, 0)), (4, (0, 13, 0)), (5, (0, 14, 0))], [], [], [(12, 1, 0, 3, 0), (13, 1, 0, 4, 0), (14, 1, 0, 5, 0)], (6, [(14, (-1))]), none)
set_option maxRecDepth 100000 in
def znl51 : List zNd := [zn51_0]
set_option maxRecDepth 100000 in
theorem zk51_0 : z_ck0 zT1 (z_cnt zL0) 20000 [13] zm113 zc51 znl51 = true := by decide +kernel
set_option maxRecDepth 100000 in
theorem zk51_1 : z_ckn zT1 (z_cnt zL0) 20000 [13] zm113 zc51 znl51 [zn51_0] = true := by decide +kernel
set_option maxRecDepth 100000 in
theorem zk51 : z_cok zT1 (z_cnt zL0) 20000 [13] zm113 zc51 znl51 = true := z_cok_of zk51_0 (zk51_1)
set_option maxRecDepth 100000 in
theorem zk52 : z_cok zT1 (z_cnt zL0) 20000 [] zm120 zc52 [] = true := by decide +kernel
set_option maxRecDepth 100000 in
def zn53_0 : zNd := (2, (z_li [(0, 0), ((-2147483648), 2147483647), ((-2147483648), 2147483647), ((-2147483648), 2147483647), ((-2147483648), 2147483647), ((-2147483648), 2147483647), ((-2147483648), 2147483647), ((-2147483648), 2147483647), ((-2147483648), 2147483647), ((-2147483648), 2147483647), ((-2147483648), 2147483647), (0, 4)] (false, [], [], [])), [(0, (2, 19, 0)), (1, (0, 10, 0)), (2, (0, 11, 0))], [], [], [(11, 1, 0, 2, 0)], (4, [(11, (-1))]), none)
set_option maxRecDepth 100000 in
def znl53 : List zNd := [zn53_0]
set_option maxRecDepth 100000 in
theorem zk53_0 : z_ck0 zT1 (z_cnt zL0) 20000 [2] zm122 zc53 znl53 = true := by decide +kernel
set_option maxRecDepth 100000 in
theorem zk53_1 : z_ckn zT1 (z_cnt zL0) 20000 [2] zm122 zc53 znl53 [zn53_0] = true := by decide +kernel
set_option maxRecDepth 100000 in
theorem zk53 : z_cok zT1 (z_cnt zL0) 20000 [2] zm122 zc53 znl53 = true := z_cok_of zk53_0 (zk53_1)
set_option maxRecDepth 100000 in
def zn54_0 : zNd := (4, (z_li [(0, 0), ((-2147483648), 2147483647), ((-2147483648), 2147483647), ((-2147483648), 2147483647), ((-2147483648), 2147483647), ((-2147483648), 2147483647), ((-2147483648), 2147483647), ((-2147483648), 2147483647), ((-2147483648), 2147483647), ((-2147483648), 2147483647), (0, 2147483647), (0, 14)] (false, [], [], [])), [(0, (2, 0, 0)), (1, (0, 10, 0)), (2, (0, 11, 0))], [], [], [(10, 1, 0, 1, 0), (11, 1, 0, 2, 0)], (14, [(11, (-1))]), none)
set_option maxRecDepth 100000 in
def znl54 : List zNd := [zn54_0]
set_option maxRecDepth 100000 in
theorem zk54_0 : z_ck0 zT1 (z_cnt zL0) 20000 [4] zm125 zc54 znl54 = true := by decide +kernel
set_option maxRecDepth 100000 in
theorem zk54_1 : z_ckn zT1 (z_cnt zL0) 20000 [4] zm125 zc54 znl54 [zn54_0] = true := by decide +kernel
set_option maxRecDepth 100000 in
theorem zk54 : z_cok zT1 (z_cnt zL0) 20000 [4] zm125 zc54 znl54 = true := z_cok_of zk54_0 (zk54_1)
set_option maxRecDepth 100000 in
def zn55_0 : zNd := (4, (z_li [(0, 0), ((-2147483648), 2147483647), ((-2147483648), 2147483647), ((-2147483648), 2147483647), ((-2147483648), 2147483647), ((-2147483648), 2147483647), ((-2147483648), 2147483647), ((-2147483648), 2147483647), ((-2147483648), 2147483647), ((-2147483648), 2147483647), (0, 13), (0, 40), (0, 9)] (false, [], [], [])), [(0, (2, 155, 0)), (1, (0, 10, 0)), (2, (0, 11, 0)), (3, (0, 12, 0))], [], [], [(11, 1, 0, 2, 0), (12, 1, 0, 3, 0)], (40, [(12, (-1))]), none)
set_option maxRecDepth 100000 in
def zn55_1 : zNd := (44, (z_li [(0, 0), ((-2147483648), 2147483647), ((-2147483648), 2147483647), ((-2147483648), 2147483647), ((-2147483648), 2147483647), ((-2147483648), 2147483647), ((-2147483648), 2147483647), ((-2147483648), 2147483647), ((-2147483648), 2147483647), ((-2147483648), 2147483647), (0, 13), (0, 999), (0, 30)] (false, [], [], [])), [(0, (2, 155, 0)), (1, (0, 10, 0)), (2, (0, 11, 0)), (3, (0, 12, 0))], [], [], [(11, 1, 0, 2, 0), (12, 1, 0, 3, 0)], (30, [(12, (-1))]), none)
set_option maxRecDepth 100000 in
def znl55 : List zNd := [zn55_0, zn55_1]
set_option maxRecDepth 100000 in
theorem zk55_0 : z_ck0 zT1 (z_cnt zL0) 20000 [4, 44] zm126 zc55 znl55 = true := by decide +kernel
set_option maxRecDepth 100000 in
theorem zk55_1 : z_ckn zT1 (z_cnt zL0) 20000 [4, 44] zm126 zc55 znl55 [zn55_0, zn55_1] = true := by decide +kernel
set_option maxRecDepth 100000 in
theorem zk55 : z_cok zT1 (z_cnt zL0) 20000 [4, 44] zm126 zc55 znl55 = true := z_cok_of zk55_0 (zk55_1)
set_option maxRecDepth 100000 in
def zn56_0 : zNd := (4, (z_li [(0, 0), ((-2147483648), 2147483647), ((-2147483648), 2147483647), ((-2147483648), 2147483647), ((-2147483648), 2147483647), ((-2147483648), 2147483647), ((-2147483648), 2147483647), ((-2147483648), 2147483647), ((-2147483648), 2147483647), ((-2147483648), 2147483647), (0, 8), (0, 63), (0, 6)] (false, [], [], [])), [(0, (2, 0, 0)), (1, (0, 10, 0)), (2, (0, 11, 0)), (3, (0, 12, 0))], [], [], [(11, 1, 0, 2, 0), (12, 1, 0, 3, 0)], (6, [(12, (-1))]), none)
set_option maxRecDepth 100000 in
def znl56 : List zNd := [zn56_0]
set_option maxRecDepth 100000 in
theorem zk56_0 : z_ck0 zT1 (z_cnt zL0) 20000 [4] zm127 zc56 znl56 = true := by decide +kernel
set_option maxRecDepth 100000 in
theorem zk56_1 : z_ckn zT1 (z_cnt zL0) 20000 [4] zm127 zc56 znl56 [zn56_0] = true := by decide +kernel
set_option maxRecDepth 100000 in
theorem zk56 : z_cok zT1 (z_cnt zL0) 20000 [4] zm127 zc56 znl56 = true := z_cok_of zk56_0 (zk56_1)
set_option maxRecDepth 100000 in
def zn57_0 : zNd := (4, (z_li [(0, 0), ((-2147483648), 2147483647), ((-2147483648), 2147483647), ((-2147483648), 2147483647), ((-2147483648), 2147483647), ((-2147483648), 2147483647), ((-2147483648), 2147483647), ((-2147483648), 2147483647), ((-2147483648), 2147483647), ((-2147483648), 2147483647), (0, 8), (0, 63), (0, 6)] (false, [], [], [])), [(0, (2, 155, 0)), (1, (0, 10, 0)), (2, (0, 11, 0)), (3, (0, 12, 0))], [], [], [(11, 1, 0, 2, 0), (12, 1, 0, 3, 0)], (6, [(12, (-1))]), none)
set_option maxRecDepth 100000 in
def znl57 : List zNd := [zn57_0]
set_option maxRecDepth 100000 in
theorem zk57_0 : z_ck0 zT1 (z_cnt zL0) 20000 [4] zm128 zc57 znl57 = true := by decide +kernel
set_option maxRecDepth 100000 in
theorem zk57_1 : z_ckn zT1 (z_cnt zL0) 20000 [4] zm128 zc57 znl57 [zn57_0] = true := by decide +kernel
set_option maxRecDepth 100000 in
theorem zk57 : z_cok zT1 (z_cnt zL0) 20000 [4] zm128 zc57 znl57 = true := z_cok_of zk57_0 (zk57_1)
set_option maxRecDepth 100000 in
def zn58_0 : zNd := (20, (z_li [(0, 0), ((-2147483648), 2147483647), ((-2147483648), 2147483647), ((-2147483648), 2147483647), ((-2147483648), 2147483647), ((-2147483648), 2147483647), ((-2147483648), 2147483647), ((-2147483648), 2147483647), ((-2147483648), 2147483647), ((-2147483648), 2147483647), (0, 3), ((-1), 60), (0, 60)] (false, [], [], [])), [(0, (2, 77, 0)), (1, (0, 10, 0)), (2, (0, 11, 0)), (3, (0, 12, 0))], [], [], [(11, 1, 0, 2, 0), (12, 1, 0, 3, 0)], (60, [(12, (-1))]), none)
set_option maxRecDepth 100000 in
def znl58 : List zNd := [zn58_0]
set_option maxRecDepth 100000 in
theorem zk58_0 : z_ck0 zT1 (z_cnt zL0) 20000 [20] zm148 zc58 znl58 = true := by decide +kernel
set_option maxRecDepth 100000 in
theorem zk58_1 : z_ckn zT1 (z_cnt zL0) 20000 [20] zm148 zc58 znl58 [zn58_0] = true := by decide +kernel
set_option maxRecDepth 100000 in
theorem zk58 : z_cok zT1 (z_cnt zL0) 20000 [20] zm148 zc58 znl58 = true := z_cok_of zk58_0 (zk58_1)
set_option maxRecDepth 100000 in
def zn59_0 : zNd := (2, (z_li [(0, 0), ((-2147483648), 2147483647), ((-2147483648), 2147483647), ((-2147483648), 2147483647), ((-2147483648), 2147483647), ((-2147483648), 2147483647), ((-2147483648), 2147483647), ((-2147483648), 2147483647), ((-2147483648), 2147483647), ((-2147483648), 2147483647), (0, 3), (0, 60)] (false, [], [], [])), [(0, (2, 77, 0)), (1, (0, 10, 0)), (2, (0, 11, 0))], [], [], [(11, 1, 0, 2, 0)], (60, [(11, (-1))]), none)
set_option maxRecDepth 100000 in
def znl59 : List zNd := [zn59_0]
set_option maxRecDepth 100000 in
theorem zk59_0 : z_ck0 zT1 (z_cnt zL0) 20000 [2] zm151 zc59 znl59 = true := by decide +kernel
set_option maxRecDepth 100000 in
theorem zk59_1 : z_ckn zT1 (z_cnt zL0) 20000 [2] zm151 zc59 znl59 [zn59_0] = true := by decide +kernel
set_option maxRecDepth 100000 in
theorem zk59 : z_cok zT1 (z_cnt zL0) 20000 [2] zm151 zc59 znl59 = true := z_cok_of zk59_0 (zk59_1)
set_option maxRecDepth 100000 in
def zn60_0 : zNd := (4, (z_li [(0, 0), ((-2147483648), 2147483647), ((-2147483648), 2147483647), ((-2147483648), 2147483647), ((-2147483648), 2147483647), ((-2147483648), 2147483647), ((-2147483648), 2147483647), ((-2147483648), 2147483647), ((-2147483648), 2147483647), ((-2147483648), 2147483647), ((-2147483648), 2147483647), (0, 31)] (false, [], [], [])), [(0, (2, 77, 0)), (1, (0, 10, 0)), (2, (0, 11, 0))], [], [], [(10, 1, 0, 1, 0), (11, 1, 0, 2, 0)], (31, [(11, (-1))]), none)
set_option maxRecDepth 100000 in
def znl60 : List zNd := [zn60_0]
set_option maxRecDepth 100000 in
theorem zk60_0 : z_ck0 zT1 (z_cnt zL0) 20000 [4] zm152 zc60 znl60 = true := by decide +kernel
set_option maxRecDepth 100000 in
theorem zk60_1 : z_ckn zT1 (z_cnt zL0) 20000 [4] zm152 zc60 znl60 [zn60_0] = true := by decide +kernel
set_option maxRecDepth 100000 in
theorem zk60 : z_cok zT1 (z_cnt zL0) 20000 [4] zm152 zc60 znl60 = true := z_cok_of zk60_0 (zk60_1)
set_option maxRecDepth 100000 in
theorem zk61 : z_cok zT1 (z_cnt zL0) 20000 [47] zm154 zc61 [] = true := by decide +kernel
set_option maxRecDepth 100000 in
theorem zk62 : z_cok zT1 (z_cnt zL0) 20000 [47] zm154 zc62 [] = true := by decide +kernel
set_option maxRecDepth 100000 in
def zn63_0 : zNd := (2, (z_li [(0, 0), ((-2147483648), 2147483647), ((-2147483648), 2147483647), ((-2147483648), 2147483647), ((-2147483648), 2147483647), ((-2147483648), 2147483647), ((-2147483648), 2147483647), ((-2147483648), 2147483647), ((-2147483648), 2147483647), ((-2147483648), 2147483647), (0, 31)] (false, [], [], [])), [(0, (2, 77, 0)), (1, (0, 10, 0))], [], [], [(10, 1, 0, 1, 0)], (31, [(10, (-1))]), none)
set_option maxRecDepth 100000 in
def znl63 : List zNd := [zn63_0]
set_option maxRecDepth 100000 in
theorem zk63_0 : z_ck0 zT1 (z_cnt zL0) 20000 [2] zm158 zc63 znl63 = true := by decide +kernel
set_option maxRecDepth 100000 in
theorem zk63_1 : z_ckn zT1 (z_cnt zL0) 20000 [2] zm158 zc63 znl63 [zn63_0] = true := by decide +kernel
set_option maxRecDepth 100000 in
theorem zk63 : z_cok zT1 (z_cnt zL0) 20000 [2] zm158 zc63 znl63 = true := z_cok_of zk63_0 (zk63_1)
set_option maxRecDepth 100000 in
def zn64_0 : zNd := (3, (z_li [(0, 0), ((-2147483648), 2147483647), ((-2147483648), 2147483647), ((-2147483648), 2147483647), ((-2147483648), 2147483647), ((-2147483648), 2147483647), ((-2147483648), 2147483647), ((-2147483648), 2147483647), ((-2147483648), 2147483647), ((-2147483648), 2147483647), ((-1), 30)] (false, [], [], [])), [(0, (2, 77, 0)), (1, (0, 10, 0))], [], [], [(10, 1, 0, 1, 0)], (1, [(10, 1)]), none)
set_option maxRecDepth 100000 in
def znl64 : List zNd := [zn64_0]
set_option maxRecDepth 100000 in
theorem zk64_0 : z_ck0 zT1 (z_cnt zL0) 20000 [3] zm159 zc64 znl64 = true := by decide +kernel
set_option maxRecDepth 100000 in
theorem zk64_1 : z_ckn zT1 (z_cnt zL0) 20000 [3] zm159 zc64 znl64 [zn64_0] = true := by decide +kernel
set_option maxRecDepth 100000 in
theorem zk64 : z_cok zT1 (z_cnt zL0) 20000 [3] zm159 zc64 znl64 = true := z_cok_of zk64_0 (zk64_1)
set_option maxRecDepth 100000 in
def zn65_0 : zNd := (5, (z_li [(0, 0), ((-2147483648), 2147483647), ((-2147483648), 2147483647), ((-2147483648), 2147483647), ((-2147483648), 2147483647), ((-2147483648), 2147483647), ((-2147483648), 2147483647), ((-2147483648), 2147483647), ((-2147483648), 2147483647), ((-2147483648), 2147483647), ((-2147483648), 2147483647), (0, 14), ((-2147483648), 2147483647), (0, 31)] (false, [], [], [])), [(0, (2, 77, 0)), (1, (0, 10, 0)), (2, (0, 11, 0)), (3, (0, 12, 0)), (4, (0, 13, 0))], [], [], [(12, 1, 0, 3, 0), (13, 1, 0, 4, 0)], (31, [(13, (-1))]), none)
set_option maxRecDepth 100000 in
def znl65 : List zNd := [zn65_0]
set_option maxRecDepth 100000 in
theorem zk65_0 : z_ck0 zT1 (z_cnt zL0) 20000 [5] zm162 zc65 znl65 = true := by decide +kernel
set_option maxRecDepth 100000 in
theorem zk65_1 : z_ckn zT1 (z_cnt zL0) 20000 [5] zm162 zc65 znl65 [zn65_0] = true := by decide +kernel
set_option maxRecDepth 100000 in
theorem zk65 : z_cok zT1 (z_cnt zL0) 20000 [5] zm162 zc65 znl65 = true := z_cok_of zk65_0 (zk65_1)
set_option maxRecDepth 100000 in
def zn66_0 : zNd := (4, (z_li [(0, 0), ((-2147483648), 2147483647), ((-2147483648), 2147483647), ((-2147483648), 2147483647), ((-2147483648), 2147483647), ((-2147483648), 2147483647), ((-2147483648), 2147483647), ((-2147483648), 2147483647), ((-2147483648), 2147483647), ((-2147483648), 2147483647), (0, 14), (0, 2147483647), (0, 31)] (false, [], [], [])), [(0, (2, 155, 0)), (1, (0, 10, 0)), (2, (0, 11, 0)), (3, (0, 12, 0))], [], [], [(11, 1, 0, 2, 0), (12, 1, 0, 3, 0)], (1055, [(12, (-33))]), none)
set_option maxRecDepth 100000 in
def zn66_1 : zNd := (18, (z_li [(0, 0), ((-2147483648), 2147483647), ((-2147483648), 2147483647), ((-2147483648), 2147483647), ((-2147483648), 2147483647), ((-2147483648), 2147483647), ((-2147483648), 2147483647), ((-2147483648), 2147483647), ((-2147483648), 2147483647), ((-2147483648), 2147483647), (0, 14), (0, 2147483647), (0, 30), ((-2147483648), 2147483647), (0, 31)] (false, [], [], [])), [(0, (2, 155, 0)), (1, (0, 10, 0)), (2, (0, 11, 0)), (3, (0, 12, 0)), (4, (0, 13, 0)), (5, (0, 14, 0))], [], [], [(11, 1, 0, 2, 0), (12, 1, 0, 3, 0), (13, 1, 0, 4, 0), (14, 1, 0, 5, 0)], (1054, [(12, (-33)), (14, (-1))]), none)
set_option maxRecDepth 100000 in
def znl66 : List zNd := [zn66_0, zn66_1]
set_option maxRecDepth 100000 in
theorem zk66_0 : z_ck0 zT1 (z_cnt zL0) 20000 [4, 18] zm164 zc66 znl66 = true := by decide +kernel
set_option maxRecDepth 100000 in
theorem zk66_1 : z_ckn zT1 (z_cnt zL0) 20000 [4, 18] zm164 zc66 znl66 [zn66_0, zn66_1] = true := by decide +kernel
set_option maxRecDepth 100000 in
theorem zk66 : z_cok zT1 (z_cnt zL0) 20000 [4, 18] zm164 zc66 znl66 = true := z_cok_of zk66_0 (zk66_1)
set_option maxRecDepth 100000 in
def zn67_0 : zNd := (4, (z_li [(0, 0), ((-2147483648), 2147483647), ((-2147483648), 2147483647), ((-2147483648), 2147483647), ((-2147483648), 2147483647), ((-2147483648), 2147483647), ((-2147483648), 2147483647), ((-2147483648), 2147483647), ((-2147483648), 2147483647), ((-2147483648), 2147483647), ((-128), 63), ((-2147483648), 2147483647), (2, 64)] (false, [], [], [])), [(0, (0, 10, 0)), (1, (0, 11, 0)), (2, (0, 12, 0))], [], [], [(11, 1, 0, 1, 0), (12, 1, 0, 2, 0)], (64, [(12, (-1))]), none)
set_option maxRecDepth 100000 in
def znl67 : List zNd := [zn67_0]
set_option maxRecDepth 100000 in
theorem zk67_0 : z_ck0 zT1 (z_cnt zL0) 20000 [4] zm176 zc67 znl67 = true := by decide +kernel
set_option maxRecDepth 100000 in
theorem zk67_1 : z_ckn zT1 (z_cnt zL0) 20000 [4] zm176 zc67 znl67 [zn67_0] = true := by decide +kernel
set_option maxRecDepth 100000 in
theorem zk67 : z_cok zT1 (z_cnt zL0) 20000 [4] zm176 zc67 znl67 = true := z_cok_of zk67_0 (zk67_1)
set_option maxRecDepth 100000 in
def zn68_0 : zNd := (9, (z_li [(0, 0), ((-2147483648), 2147483647), ((-2147483648), 2147483647), ((-2147483648), 2147483647), ((-2147483648), 2147483647), ((-2147483648), 2147483647), ((-2147483648), 2147483647), ((-2147483648), 2147483647), ((-2147483648), 2147483647), ((-2147483648), 2147483647), ((-9223372036854775808), 9223372036854775807), ((-9223372036854775808), 9223372036854775807), ((-9223372036854775808), 9223372036854775807), ((-9223372036854775808), 9223372036854775807), (0, 239)] (false, [], [], [])), [(4, (1, 12, 0)), (6, (1, 13, 0)), (8, (0, 14, 0))], [], [], [(12, 1, 0, 4, 0), (13, 1, 0, 6, 0), (14, 1, 0, 8, 0)], (239, [(14, (-1))]), none)
set_option maxRecDepth 100000 in
def znl68 : List zNd := [zn68_0]
set_option maxRecDepth 100000 in
theorem zk68_0 : z_ck0 zT1 (z_cnt zL0) 20000 [9] zm179 zc68 znl68 = true := by decide +kernel
set_option maxRecDepth 100000 in
theorem zk68_1 : z_ckn zT1 (z_cnt zL0) 20000 [9] zm179 zc68 znl68 [zn68_0] = true := by decide +kernel
set_option maxRecDepth 100000 in
theorem zk68 : z_cok zT1 (z_cnt zL0) 20000 [9] zm179 zc68 znl68 = true := z_cok_of zk68_0 (zk68_1)
set_option maxRecDepth 100000 in
theorem zk69 : z_cok zT1 (z_cnt zL0) 20000 [] zm180 zc69 [] = true := by decide +kernel
set_option maxRecDepth 100000 in
theorem zk70 : z_cok zT1 (z_cnt zL0) 20000 [] zm180 zc70 [] = true := by decide +kernel
set_option maxRecDepth 100000 in
theorem zk71 : z_cok zT1 (z_cnt zL0) 20000 [] zm180 zc71 [] = true := by decide +kernel
set_option maxRecDepth 100000 in
def zn72_0 : zNd := (31, (z_li [(0, 0), ((-2147483648), 2147483647), ((-2147483648), 2147483647), ((-2147483648), 2147483647), ((-2147483648), 2147483647), ((-2147483648), 2147483647), ((-2147483648), 2147483647), ((-2147483648), 2147483647), ((-2147483648), 2147483647), ((-2147483648), 2147483647), ((-9223372036854775808), (-1)), (1, 512000000000), (1, 512000000000), ((-511999999999), 0)] (true, [], [], [])), [(4, (1, 12, 0)), (6, (1, 13, 0))], [], [], [(12, 1, 0, 4, 0), (13, 1, 0, 6, 0)], (1, [(13, (-2))]), none)
set_option maxRecDepth 100000 in
def zn72_1 : zNd := (31, (z_li [(0, 0), ((-2147483648), 2147483647), ((-2147483648), 2147483647), ((-2147483648), 2147483647), ((-2147483648), 2147483647), ((-2147483648), 2147483647), ((-2147483648), 2147483647), ((-2147483648), 2147483647), ((-2147483648), 2147483647), ((-2147483648), 2147483647), ((-9223372036854775808), 9223372036854775807), (1, 512000000000), (1, 512000000000), (0, 511999999999)] (true, [], [], [])), [(4, (1, 12, 0)), (6, (1, 13, 0))], [], [], [(12, 1, 0, 4, 0), (13, 1, 0, 6, 0)], (1024000000000, [(13, 1)]), none)
set_option maxRecDepth 100000 in
def zn72_2 : zNd := (31, (z_li [(0, 0), ((-2147483648), 2147483647), ((-2147483648), 2147483647), ((-2147483648), 2147483647), ((-2147483648), 2147483647), ((-2147483648), 2147483647), ((-2147483648), 2147483647), ((-2147483648), 2147483647), ((-2147483648), 2147483647), ((-2147483648), 2147483647), ((-9223372036854775808), (-1)), (1, 512000000000), ((-511999999999), (-1)), (0, 511999999998)] (true, [], [], [])), [(4, (1, 12, 0)), (6, (1, 13, 0))], [], [], [(12, 1, 0, 4, 0), (13, 1, 0, 6, 0)], (0, [(13, 2)]), none)
set_option maxRecDepth 100000 in
def znl72 : List zNd := [zn72_0, zn72_1, zn72_2]
set_option maxRecDepth 100000 in
theorem zk72_0 : z_ck0 zT1 (z_cnt zL0) 20000 [31] zm182 zc72 znl72 = true := by decide +kernel
set_option maxRecDepth 100000 in
theorem zk72_1 : z_ckn zT1 (z_cnt zL0) 20000 [31] zm182 zc72 znl72 [zn72_0, zn72_1, zn72_2] = true := by decide +kernel
set_option maxRecDepth 100000 in
theorem zk72 : z_cok zT1 (z_cnt zL0) 20000 [31] zm182 zc72 znl72 = true := z_cok_of zk72_0 (zk72_1)
set_option maxRecDepth 100000 in
def zn73_0 : zNd := (5, (z_li [(0, 0), ((-2147483648), 2147483647), ((-2147483648), 2147483647), ((-2147483648), 2147483647), ((-2147483648), 2147483647), ((-2147483648), 2147483647), ((-2147483648), 2147483647), ((-2147483648), 2147483647), ((-2147483648), 2147483647), ((-2147483648), 2147483647), (0, 511), ((-9223372036854775808), 9223372036854775807), (0, 9)] (false, [], [], [])), [(0, (2, 70, 0)), (1, (0, 10, 0)), (2, (1, 11, 0)), (4, (0, 12, 0))], [], [], [(11, 1, 0, 2, 0), (12, 1, 0, 4, 0)], (9, [(12, (-1))]), none)
set_option maxRecDepth 100000 in
def znl73 : List zNd := [zn73_0]
set_option maxRecDepth 100000 in
theorem zk73_0 : z_ck0 zT1 (z_cnt zL0) 20000 [5] zm189 zc73 znl73 = true := by decide +kernel
set_option maxRecDepth 100000 in
theorem zk73_1 : z_ckn zT1 (z_cnt zL0) 20000 [5] zm189 zc73 znl73 [zn73_0] = true := by decide +kernel
set_option maxRecDepth 100000 in
theorem zk73 : z_cok zT1 (z_cnt zL0) 20000 [5] zm189 zc73 znl73 = true := z_cok_of zk73_0 (zk73_1)
set_option maxRecDepth 100000 in
def zn74_0 : zNd := (4, (z_li [(0, 0), ((-2147483648), 2147483647), ((-2147483648), 2147483647), ((-2147483648), 2147483647), ((-2147483648), 2147483647), ((-2147483648), 2147483647), ((-2147483648), 2147483647), ((-2147483648), 2147483647), ((-2147483648), 2147483647), ((-2147483648), 2147483647), ((-9223372036854775808), 9223372036854775807), (0, 9)] (false, [], [], [])), [(0, (2, 70, 0)), (1, (1, 10, 0)), (3, (0, 11, 0))], [], [], [(10, 1, 0, 1, 0), (11, 1, 0, 3, 0)], (9, [(11, (-1))]), none)
set_option maxRecDepth 100000 in
def znl74 : List zNd := [zn74_0]
set_option maxRecDepth 100000 in
theorem zk74_0 : z_ck0 zT1 (z_cnt zL0) 20000 [4] zm190 zc74 znl74 = true := by decide +kernel
set_option maxRecDepth 100000 in
theorem zk74_1 : z_ckn zT1 (z_cnt zL0) 20000 [4] zm190 zc74 znl74 [zn74_0] = true := by decide +kernel
set_option maxRecDepth 100000 in
theorem zk74 : z_cok zT1 (z_cnt zL0) 20000 [4] zm190 zc74 znl74 = true := z_cok_of zk74_0 (zk74_1)
set_option maxRecDepth 100000 in
def zn75_0 : zNd := (9, (z_li [(0, 0), ((-2147483648), 2147483647), ((-2147483648), 2147483647), ((-2147483648), 2147483647), ((-2147483648), 2147483647), ((-2147483648), 2147483647), ((-2147483648), 2147483647), ((-2147483648), 2147483647), ((-2147483648), 2147483647), ((-2147483648), 2147483647), (0, 2147483647), (0, 2147483647), (0, 511), (0, 9)] (false, [], [], [])), [(0, (2, 70, 0)), (2, (1, 11, 0)), (4, (0, 12, 0)), (5, (0, 13, 0))], [], [], [(11, 1, 0, 2, 0), (12, 1, 0, 4, 0), (13, 1, 0, 5, 0)], (9, [(13, (-1))]), none)
set_option maxRecDepth 100000 in
def znl75 : List zNd := [zn75_0]
set_option maxRecDepth 100000 in
theorem zk75_0 : z_ck0 zT1 (z_cnt zL0) 20000 [9] zm196 zc75 znl75 = true := by decide +kernel
set_option maxRecDepth 100000 in
theorem zk75_1 : z_ckn zT1 (z_cnt zL0) 20000 [9] zm196 zc75 znl75 [zn75_0] = true := by decide +kernel
set_option maxRecDepth 100000 in
theorem zk75 : z_cok zT1 (z_cnt zL0) 20000 [9] zm196 zc75 znl75 = true := z_cok_of zk75_0 (zk75_1)
set_option maxRecDepth 100000 in
def zn76_0 : zNd := (4, (z_li [(0, 0), ((-2147483648), 2147483647), ((-2147483648), 2147483647), ((-2147483648), 2147483647), ((-2147483648), 2147483647), ((-2147483648), 2147483647), ((-2147483648), 2147483647), ((-2147483648), 2147483647), ((-2147483648), 2147483647), ((-2147483648), 2147483647), ((-2147483648), 2147483647), (0, 4)] (false, [], [], [])), [(0, (2, 62, 0)), (1, (0, 10, 0)), (2, (0, 11, 0))], [], [], [(10, 1, 0, 1, 0), (11, 1, 0, 2, 0)], (4, [(11, (-1))]), none)
set_option maxRecDepth 100000 in
def znl76 : List zNd := [zn76_0]
set_option maxRecDepth 100000 in
theorem zk76_0 : z_ck0 zT1 (z_cnt zL0) 20000 [4] zm201 zc76 znl76 = true := by decide +kernel
set_option maxRecDepth 100000 in
theorem zk76_1 : z_ckn zT1 (z_cnt zL0) 20000 [4] zm201 zc76 znl76 [zn76_0] = true := by decide +kernel
set_option maxRecDepth 100000 in
theorem zk76 : z_cok zT1 (z_cnt zL0) 20000 [4] zm201 zc76 znl76 = true := z_cok_of zk76_0 (zk76_1)
set_option maxRecDepth 100000 in
def zn77_0 : zNd := (6, (z_li [(0, 0), ((-2147483648), 2147483647), ((-2147483648), 2147483647), ((-2147483648), 2147483647), ((-2147483648), 2147483647), ((-2147483648), 2147483647), ((-2147483648), 2147483647), ((-2147483648), 2147483647), ((-2147483648), 2147483647), ((-2147483648), 2147483647), (0, 0), (0, 60)] (false, [], [], [])), [(0, (2, 64, 0)), (1, (1, 10, 0)), (3, (0, 11, 0)), (4, (0, 0, 60))], [], [], [(11, 1, 0, 3, 0)], (60, [(11, (-1))]), none)
set_option maxRecDepth 100000 in
def znl77 : List zNd := [zn77_0]
set_option maxRecDepth 100000 in
theorem zk77_0 : z_ck0 zT1 (z_cnt zL0) 20000 [6] zm204 zc77 znl77 = true := by decide +kernel
set_option maxRecDepth 100000 in
theorem zk77_1 : z_ckn zT1 (z_cnt zL0) 20000 [6] zm204 zc77 znl77 [zn77_0] = true := by decide +kernel
set_option maxRecDepth 100000 in
theorem zk77 : z_cok zT1 (z_cnt zL0) 20000 [6] zm204 zc77 znl77 = true := z_cok_of zk77_0 (zk77_1)
set_option maxRecDepth 100000 in
def zn78_0 : zNd := (6, (z_li [(0, 0), ((-2147483648), 2147483647), ((-2147483648), 2147483647), ((-2147483648), 2147483647), ((-2147483648), 2147483647), ((-2147483648), 2147483647), ((-2147483648), 2147483647), ((-2147483648), 2147483647), ((-2147483648), 2147483647), ((-2147483648), 2147483647), (0, 0), (0, 60)] (false, [], [], [])), [(0, (2, 65, 0)), (1, (1, 10, 0)), (3, (0, 11, 0)), (4, (0, 0, 60))], [], [], [(11, 1, 0, 3, 0)], (60, [(11, (-1))]), none)
set_option maxRecDepth 100000 in
def znl78 : List zNd := [zn78_0]
set_option maxRecDepth 100000 in
theorem zk78_0 : z_ck0 zT1 (z_cnt zL0) 20000 [6] zm204 zc78 znl78 = true := by decide +kernel
set_option maxRecDepth 100000 in
theorem zk78_1 : z_ckn zT1 (z_cnt zL0) 20000 [6] zm204 zc78 znl78 [zn78_0] = true := by decide +kernel
set_option maxRecDepth 100000 in
theorem zk78 : z_cok zT1 (z_cnt zL0) 20000 [6] zm204 zc78 znl78 = true := z_cok_of zk78_0 (zk78_1)
set_option maxRecDepth 100000 in
def zn79_0 : zNd := (6, (z_li [(0, 0), ((-2147483648), 2147483647), ((-2147483648), 2147483647), ((-2147483648), 2147483647), ((-2147483648), 2147483647), ((-2147483648), 2147483647), ((-2147483648), 2147483647), ((-2147483648), 2147483647), ((-2147483648), 2147483647), ((-2147483648), 2147483647), (0, 0), (0, 60)] (false, [], [], [])), [(0, (2, 66, 0)), (1, (1, 10, 0)), (3, (0, 11, 0)), (4, (0, 0, 60))], [], [], [(11, 1, 0, 3, 0)], (60, [(11, (-1))]), none)
set_option maxRecDepth 100000 in
def znl79 : List zNd := [zn79_0]
set_option maxRecDepth 100000 in
theorem zk79_0 : z_ck0 zT1 (z_cnt zL0) 20000 [6] zm204 zc79 znl79 = true := by decide +kernel
set_option maxRecDepth 100000 in
theorem zk79_1 : z_ckn zT1 (z_cnt zL0) 20000 [6] zm204 zc79 znl79 [zn79_0] = true := by decide +kernel
set_option maxRecDepth 100000 in
theorem zk79 : z_cok zT1 (z_cnt zL0) 20000 [6] zm204 zc79 znl79 = true := z_cok_of zk79_0 (zk79_1)
set_option maxRecDepth 100000 in
def zn80_0 : zNd := (6, (z_li [(0, 0), ((-2147483648), 2147483647), ((-2147483648), 2147483647), ((-2147483648), 2147483647), ((-2147483648), 2147483647), ((-2147483648), 2147483647), ((-2147483648), 2147483647), ((-2147483648), 2147483647), ((-2147483648), 2147483647), ((-2147483648), 2147483647), (0, 0), (0, 60)] (false, [], [], [])), [(0, (2, 67, 0)), (1, (1, 10, 0)), (3, (0, 11, 0)), (4, (0, 0, 60))], [], [], [(11, 1, 0, 3, 0)], (60, [(11, (-1))]), none)
set_option maxRecDepth 100000 in
def znl80 : List zNd := [zn80_0]
set_option maxRecDepth 100000 in
theorem zk80_0 : z_ck0 zT1 (z_cnt zL0) 20000 [6] zm204 zc80 znl80 = true := by decide +kernel
set_option maxRecDepth 100000 in
theorem zk80_1 : z_ckn zT1 (z_cnt zL0) 20000 [6] zm204 zc80 znl80 [zn80_0] = true := by decide +kernel
set_option maxRecDepth 100000 in
theorem zk80 : z_cok zT1 (z_cnt zL0) 20000 [6] zm204 zc80 znl80 = true := z_cok_of zk80_0 (zk80_1)
set_option maxRecDepth 100000 in
theorem zk81 : z_cok zT1 (z_cnt zL0) 20000 [] zm207 zc81 [] = true := by decide +kernel
set_option maxRecDepth 100000 in
theorem zk84 : z_cok zT1 (z_cnt zL0) 20000 [] zm212 zc84 [] = true := by decide +kernel
set_option maxRecDepth 100000 in
def zn85_0 : zNd := (55, (z_li [(0, 0), ((-2147483648), 2147483647), ((-2147483648), 2147483647), ((-2147483648), 2147483647), ((-2147483648), 2147483647), ((-2147483648), 2147483647), ((-2147483648), 2147483647), ((-2147483648), 2147483647), ((-2147483648), 2147483647), ((-2147483648), 2147483647), ((-2147483648), 2147483647), ((-2147483648), 2147483647), ((-2147483648), 2147483647), ((-2147483648), 2147483647), ((-2147483648), 2147483647), (0, 680), (0, 20)] (false, [], [], [])), [(0, (2, 155, 0)), (6, (0, 16, 0))], [], [(155, 5, 1, (0, 15, 0)), (160, 0, 1, (0, 10, 0)), (160, 1, 1, (0, 11, 0)), (160, 2, 1, (0, 12, 0)), (160, 3, 1, (0, 13, 0)), (160, 4, 1, (0, 14, 0))], [(16, 1, 0, 6, 0)], (20, [(16, (-1))]), none)
set_option maxRecDepth 100000 in
def znl85 : List zNd := [zn85_0]
set_option maxRecDepth 100000 in
theorem zk85_0 : z_ck0 zT1 (z_cnt zL0) 20000 [55] zm213 zc85 znl85 = true := by decide +kernel
set_option maxRecDepth 100000 in
theorem zk85_1 : z_ckn zT1 (z_cnt zL0) 20000 [55] zm213 zc85 znl85 [zn85_0] = true := by decide +kernel
set_option maxRecDepth 100000 in
theorem zk85 : z_cok zT1 (z_cnt zL0) 20000 [55] zm213 zc85 znl85 = true := z_cok_of zk85_0 (zk85_1)
set_option maxRecDepth 100000 in
theorem zk86 : z_cok zT1 (z_cnt zL0) 20000 [] zm214 zc86 [] = true := by decide +kernel
set_option maxRecDepth 100000 in
theorem zk87 : z_cok zT1 (z_cnt zL0) 20000 [] zm215 zc87 [] = true := by decide +kernel
set_option maxRecDepth 100000 in
theorem zk88 : z_cok zT1 (z_cnt zL0) 20000 [] zm218 zc88 [] = true := by decide +kernel
