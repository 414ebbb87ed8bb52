set_option maxRecDepth 100000 in
theorem zk177 : z_cok zT1 (z_cnt zL1) 20000 [] zm48 zc177 [] = true := by decide +kernel
set_option maxRecDepth 100000 in
theorem zk178 : z_cok zT1 (z_cnt zL1) 20000 [] zm48 zc178 [] = true := by decide +kernel
set_option maxRecDepth 100000 in
theorem zk179 : z_cok zT1 (z_cnt zL1) 20000 [] zm48 zc179 [] = true := by decide +kernel
set_option maxRecDepth 100000 in
theorem zk180 : z_cok zT1 (z_cnt zL1) 20000 [] zm52 zc180 [] = true := by decide +kernel
set_option maxRecDepth 100000 in
theorem zk181 : z_cok zT1 (z_cnt zL1) 20000 [] zm52 zc181 [] = true := by decide +kernel
set_option maxRecDepth 100000 in
theorem zk182 : z_cok zT1 (z_cnt zL1) 20000 [] zm52 zc182 [] = true := by decide +kernel
set_option maxRecDepth 100000 in
theorem zk183 : z_cok zT1 (z_cnt zL1) 20000 [] zm52 zc183 [] = true := by decide +kernel
set_option maxRecDepth 100000 in
theorem zk184 : z_cok zT1 (z_cnt zL1) 20000 [] zm52 zc184 [] = true := by decide +kernel
set_option maxRecDepth 100000 in
theorem zk185 : z_cok zT1 (z_cnt zL1) 20000 [] zm52 zc185 [] = true := by decide +kernel
set_option maxRecDepth 100000 in
theorem zk186 : z_cok zT1 (z_cnt zL1) 20000 [] zm52 zc186 [] = true := by decide +kernel
set_option maxRecDepth 100000 in
theorem zk187 : z_cok zT1 (z_cnt zL1) 20000 [] zm53 zc187 [] = true := by decide +kernel
set_option maxRecDepth 100000 in
theorem zk188 : z_cok zT1 (z_cnt zL1) 20000 [] zm53 zc188 [] = true := by decide +kernel
set_option maxRecDepth 100000 in
theorem zk189 : z_cok zT1 (z_cnt zL1) 20000 [] zm53 zc189 [] = true := by decide +kernel
set_option maxRecDepth 100000 in
theorem zk190 : z_cok zT1 (z_cnt zL1) 20000 [] zm53 zc190 [] = true := by decide +kernel
set_option maxRecDepth 100000 in
theorem zk191 : z_cok zT1 (z_cnt zL1) 20000 [] zm53 zc191 [] = true := by decide +kernel
set_option maxRecDepth 100000 in
theorem zk192 : z_cok zT1 (z_cnt zL1) 20000 [] zm53 zc192 [] = true := by decide +kernel
set_option maxRecDepth 100000 in
theorem zk193 : z_cok zT1 (z_cnt zL1) 20000 [] zm53 zc193 [] = true := by decide +kernel
set_option maxRecDepth 100000 in
theorem zk194 : z_cok zT1 (z_cnt zL1) 20000 [] zm53 zc194 [] = true := by decide +kernel
set_option maxRecDepth 100000 in
theorem zk195 : z_cok zT1 (z_cnt zL1) 20000 [] zm53 zc195 [] = true := by decide +kernel
set_option maxRecDepth 100000 in
theorem zk196 : z_cok zT1 (z_cnt zL1) 20000 [] zm53 zc196 [] = true := by decide +kernel
set_option maxRecDepth 100000 in
theorem zk197 : z_cok zT1 (z_cnt zL1) 20000 [] zm56 zc197 [] = true := by decide +kernel
set_option maxRecDepth 100000 in
def zn198_0 : zNd := (32, (z_li [(.ofNat 0, .ofNat 0), (.negSucc 2147483647, .ofNat 2147483647), (.negSucc 2147483647, .ofNat 2147483647), (.negSucc 2147483647, .ofNat 2147483647), (.negSucc 2147483647, .ofNat 2147483647), (.negSucc 2147483647, .ofNat 2147483647), (.negSucc 2147483647, .ofNat 2147483647), (.negSucc 2147483647, .ofNat 2147483647), (.negSucc 2147483647, .ofNat 2147483647), (.negSucc 2147483647, .ofNat 2147483647), (.ofNat 0, .ofNat 512000000000), (.ofNat 0, .ofNat 6)] (false, [], [], [])), [(0, (2, 155, .ofNat 0)), (1, (0, 11, .ofNat 0))], [], [(155, 18, 1, (0, 0, .ofNat 511)), (155, 19, 1, (0, 0, .negSucc 0)), (155, 32, 1, (1, 10, .ofNat 0))], [(11, 1, 0, 1, 0)], (.ofNat 6, [(11, .negSucc 0)]), none)
def zg198_1 : List zNd := [zn198_0]
def znl198 : List zNd := zg198_1
set_option maxRecDepth 100000 in
theorem zk198_0 : z_ck0 zT1 (z_cnt zL1) 20000 [32] zm76 zc198 znl198 = true := by decide +kernel
set_option maxRecDepth 100000 in
theorem zk198_1 : z_ckn zT1 (z_cnt zL1) 20000 [32] zm76 zc198 znl198 zg198_1 = true := by decide +kernel
theorem zk198 : z_cok zT1 (z_cnt zL1) 20000 [32] zm76 zc198 znl198 = true := z_cok_of zk198_0 (zk198_1)
set_option maxRecDepth 100000 in
theorem zk199 : z_cok zT1 (z_cnt zL1) 20000 [] zm85 zc199 [] = true := by decide +kernel
set_option maxRecDepth 100000 in
def zn200_0 : zNd := (5, (z_li [(.ofNat 0, .ofNat 0), (.negSucc 2147483647, .ofNat 2147483647), (.negSucc 2147483647, .ofNat 2147483647), (.negSucc 2147483647, .ofNat 2147483647), (.negSucc 2147483647, .ofNat 2147483647), (.negSucc 2147483647, .ofNat 2147483647), (.negSucc 2147483647, .ofNat 2147483647), (.negSucc 2147483647, .ofNat 2147483647), (.negSucc 2147483647, .ofNat 2147483647), (.negSucc 2147483647, .ofNat 2147483647), (.ofNat 0, .ofNat 5), (.ofNat 0, .ofNat 14), (.ofNat 0, .ofNat 63), (.ofNat 0, .ofNat 6)] (false, [], [], [])), [(0, (2, 0, .ofNat 0)), (1, (0, 10, .ofNat 0)), (2, (0, 11, .ofNat 0)), (3, (0, 12, .ofNat 0)), (4, (0, 13, .ofNat 0))], [], [], [(12, 1, 0, 3, 0), (13, 1, 0, 4, 0)], (.ofNat 6, [(13, .negSucc 0)]), none)
def zg200_1 : List zNd := [zn200_0]
def znl200 : List zNd := zg200_1
set_option maxRecDepth 100000 in
theorem zk200_0 : z_ck0 zT1 (z_cnt zL1) 20000 [5] zm113 zc200 znl200 = true := by decide +kernel
set_option maxRecDepth 100000 in
theorem zk200_1 : z_ckn zT1 (z_cnt zL1) 20000 [5] zm113 zc200 znl200 zg200_1 = true := by decide +kernel
theorem zk200 : z_cok zT1 (z_cnt zL1) 20000 [5] zm113 zc200 znl200 = true := z_cok_of zk200_0 (zk200_1)
set_option maxRecDepth 100000 in
def zn201_0 : zNd := (5, (z_li [(.ofNat 0, .ofNat 0), (.negSucc 2147483647, .ofNat 2147483647), (.negSucc 2147483647, .ofNat 2147483647), (.negSucc 2147483647, .ofNat 2147483647), (.negSucc 2147483647, .ofNat 2147483647), (.negSucc 2147483647, .ofNat 2147483647), (.negSucc 2147483647, .ofNat 2147483647), (.negSucc 2147483647, .ofNat 2147483647), (.negSucc 2147483647, .ofNat 2147483647), (.negSucc 2147483647, .ofNat 2147483647), (.ofNat 0, .ofNat 5), (.ofNat 0, .ofNat 14), (.ofNat 0, .ofNat 63), (.ofNat 0, .ofNat 6)] (false, [], [], [])), [(0, (2, 155, .ofNat 0)), (1, (0, 10, .ofNat 0)), (2, (0, 11, .ofNat 0)), (3, (0, 12, .ofNat 0)), (4, (0, 13, .ofNat 0))], [], [], [(12, 1, 0, 3, 0), (13, 1, 0, 4, 0)], (.ofNat 6, [(13, .negSucc 0)]), none)
def zg201_1 : List zNd := [zn201_0]
def znl201 : List zNd := zg201_1
set_option maxRecDepth 100000 in
theorem zk201_0 : z_ck0 zT1 (z_cnt zL1) 20000 [5] zm114 zc201 znl201 = true := by decide +kernel
set_option maxRecDepth 100000 in
theorem zk201_1 : z_ckn zT1 (z_cnt zL1) 20000 [5] zm114 zc201 znl201 zg201_1 = true := by decide +kernel
theorem zk201 : z_cok zT1 (z_cnt zL1) 20000 [5] zm114 zc201 znl201 = true := z_cok_of zk201_0 (zk201_1)
set_option maxRecDepth 100000 in
def zn202_0 : zNd := (4, (z_li [(.ofNat 0, .ofNat 0), (.negSucc 2147483647, .ofNat 2147483647), (.negSucc 2147483647, .ofNat 2147483647), (.negSucc 2147483647, .ofNat 2147483647), (.negSucc 2147483647, .ofNat 2147483647), (.negSucc 2147483647, .ofNat 2147483647), (.negSucc 2147483647, .ofNat 2147483647), (.negSucc 2147483647, .ofNat 2147483647), (.negSucc 2147483647, .ofNat 2147483647), (.negSucc 2147483647, .ofNat 2147483647), (.ofNat 0, .ofNat 14), (.ofNat 0, .ofNat 63), (.ofNat 0, .ofNat 6)] (false, [], [], [])), [(0, (2, 155, .ofNat 0)), (1, (0, 10, .ofNat 0)), (2, (0, 11, .ofNat 0)), (3, (0, 12, .ofNat 0))], [], [], [(11, 1, 0, 2, 0), (12, 1, 0, 3, 0)], (.ofNat 6, [(12, .negSucc 0)]), none)
def zg202_1 : List zNd := [zn202_0]
def znl202 : List zNd := zg202_1
set_option maxRecDepth 100000 in
theorem zk202_0 : z_ck0 zT1 (z_cnt zL1) 20000 [4] zm116 zc202 znl202 = true := by decide +kernel
set_option maxRecDepth 100000 in
theorem zk202_1 : z_ckn zT1 (z_cnt zL1) 20000 [4] zm116 zc202 znl202 zg202_1 = true := by decide +kernel
theorem zk202 : z_cok zT1 (z_cnt zL1) 20000 [4] zm116 zc202 znl202 = true := z_cok_of zk202_0 (zk202_1)
set_option maxRecDepth 100000 in
def zn203_0 : zNd := (4, (z_li [(.ofNat 0, .ofNat 0), (.negSucc 2147483647, .ofNat 2147483647), (.negSucc 2147483647, .ofNat 2147483647), (.negSucc 2147483647, .ofNat 2147483647), (.negSucc 2147483647, .ofNat 2147483647), (.negSucc 2147483647, .ofNat 2147483647), (.negSucc 2147483647, .ofNat 2147483647), (.negSucc 2147483647, .ofNat 2147483647), (.negSucc 2147483647, .ofNat 2147483647), (.negSucc 2147483647, .ofNat 2147483647), (.ofNat 0, .ofNat 99), (.ofNat 0, .ofNat 1), (.ofNat 0, .ofNat 4)] (false, [], [], [])), [(0, (2, 155, .ofNat 0)), (1, (0, 10, .ofNat 0)), (2, (0, 11, .ofNat 0)), (3, (0, 12, .ofNat 0))], [], [], [(11, 1, 0, 2, 0), (12, 1, 0, 3, 0)], (.ofNat 4, [(12, .negSucc 0)]), none)
def zg203_1 : List zNd := [zn203_0]
def znl203 : List zNd := zg203_1
set_option maxRecDepth 100000 in
theorem zk203_0 : z_ck0 zT1 (z_cnt zL1) 20000 [4] zm120 zc203 znl203 = true := by decide +kernel
set_option maxRecDepth 100000 in
theorem zk203_1 : z_ckn zT1 (z_cnt zL1) 20000 [4] zm120 zc203 znl203 zg203_1 = true := by decide +kernel
theorem zk203 : z_cok zT1 (z_cnt zL1) 20000 [4] zm120 zc203 znl203 = true := z_cok_of zk203_0 (zk203_1)
set_option maxRecDepth 100000 in
def zn204_0 : zNd := (5, (z_li [(.ofNat 0, .ofNat 0), (.negSucc 2147483647, .ofNat 2147483647), (.negSucc 2147483647, .ofNat 2147483647), (.negSucc 2147483647, .ofNat 2147483647), (.negSucc 2147483647, .ofNat 2147483647), (.negSucc 2147483647, .ofNat 2147483647), (.negSucc 2147483647, .ofNat 2147483647), (.negSucc 2147483647, .ofNat 2147483647), (.negSucc 2147483647, .ofNat 2147483647), (.negSucc 2147483647, .ofNat 2147483647), (.ofNat 0, .ofNat 5), (.ofNat 0, .ofNat 5), (.negSucc 2147483647, .ofNat 2147483647), (.ofNat 0, .ofNat 15)] (false, [], [], [])), [(0, (2, 0, .ofNat 0)), (1, (0, 10, .ofNat 0)), (2, (0, 11, .ofNat 0)), (3, (0, 12, .ofNat 0)), (4, (0, 13, .ofNat 0))], [], [], [(12, 1, 0, 3, 0), (13, 1, 0, 4, 0)], (.ofNat 15, [(13, .negSucc 0)]), none)
def zg204_1 : List zNd := [zn204_0]
def znl204 : List zNd := zg204_1
set_option maxRecDepth 100000 in
theorem zk204_0 : z_ck0 zT1 (z_cnt zL1) 20000 [5] zm121 zc204 znl204 = true := by decide +kernel
set_option maxRecDepth 100000 in
theorem zk204_1 : z_ckn zT1 (z_cnt zL1) 20000 [5] zm121 zc204 znl204 zg204_1 = true := by decide +kernel
theorem zk204 : z_cok zT1 (z_cnt zL1) 20000 [5] zm121 zc204 znl204 = true := z_cok_of zk204_0 (zk204_1)
set_option maxRecDepth 100000 in
def zn205_0 : zNd := (2, (z_li [(.ofNat 0, .ofNat 0), (.negSucc 2147483647, .ofNat 2147483647), (.negSucc 2147483647, .ofNat 2147483647), (.negSucc 2147483647, .ofNat 2147483647), (.negSucc 2147483647, .ofNat 2147483647), (.negSucc 2147483647, .ofNat 2147483647), (.negSucc 2147483647, .ofNat 2147483647), (.negSucc 2147483647, .ofNat 2147483647), (.negSucc 2147483647, .ofNat 2147483647), (.negSucc 2147483647, .ofNat 2147483647), (.ofNat 0, .ofNat 99), (.ofNat 0, .ofNat 15)] (false, [], [], [])), [(0, (2, 0, .ofNat 0)), (1, (0, 10, .ofNat 0)), (2, (0, 11, .ofNat 0))], [], [], [(11, 1, 0, 2, 0)], (.ofNat 15, [(11, .negSucc 0)]), none)
def zg205_1 : List zNd := [zn205_0]
def znl205 : List zNd := zg205_1
set_option maxRecDepth 100000 in
theorem zk205_0 : z_ck0 zT1 (z_cnt zL1) 20000 [2] zm126 zc205 znl205 = true := by decide +kernel
set_option maxRecDepth 100000 in
theorem zk205_1 : z_ckn zT1 (z_cnt zL1) 20000 [2] zm126 zc205 znl205 zg205_1 = true := by decide +kernel
theorem zk205 : z_cok zT1 (z_cnt zL1) 20000 [2] zm126 zc205 znl205 = true := z_cok_of zk205_0 (zk205_1)
set_option maxRecDepth 100000 in
def zn206_0 : zNd := (9, (z_li [(.ofNat 0, .ofNat 0), (.negSucc 2147483647, .ofNat 2147483647), (.negSucc 2147483647, .ofNat 2147483647), (.negSucc 2147483647, .ofNat 2147483647), (.negSucc 2147483647, .ofNat 2147483647), (.negSucc 2147483647, .ofNat 2147483647), (.negSucc 2147483647, .ofNat 2147483647), (.negSucc 2147483647, .ofNat 2147483647), (.negSucc 2147483647, .ofNat 2147483647), (.negSucc 2147483647, .ofNat 2147483647), (.ofNat 0, .ofNat 5), (.ofNat 0, .ofNat 15), (.ofNat 0, .ofNat 4)] (false, [], [], [])), [(0, (2, 70, .ofNat 0)), (1, (0, 10, .ofNat 0)), (2, (0, 11, .ofNat 0)), (3, (0, 12, .ofNat 0))], [], [], [(12, 1, 0, 3, 0)], (.ofNat 4, [(12, .negSucc 0)]), none)
def zg206_1 : List zNd := [zn206_0]
def znl206 : List zNd := zg206_1
set_option maxRecDepth 100000 in
theorem zk206_0 : z_ck0 zT1 (z_cnt zL1) 20000 [9] zm128 zc206 znl206 = true := by decide +kernel
set_option maxRecDepth 100000 in
theorem zk206_1 : z_ckn zT1 (z_cnt zL1) 20000 [9] zm128 zc206 znl206 zg206_1 = true := by decide +kernel
theorem zk206 : z_cok zT1 (z_cnt zL1) 20000 [9] zm128 zc206 znl206 = true := z_cok_of zk206_0 (zk206_1)
set_option maxRecDepth 100000 in
def zn207_0 : zNd := (4, (z_li [(.ofNat 0, .ofNat 0), (.negSucc 2147483647, .ofNat 2147483647), (.negSucc 2147483647, .ofNat 2147483647), (.negSucc 2147483647, .ofNat 2147483647), (.negSucc 2147483647, .ofNat 2147483647), (.negSucc 2147483647, .ofNat 2147483647), (.negSucc 2147483647, .ofNat 2147483647), (.negSucc 2147483647, .ofNat 2147483647), (.negSucc 2147483647, .ofNat 2147483647), (.negSucc 2147483647, .ofNat 2147483647), (.ofNat 0, .ofNat 14), (.ofNat 0, .ofNat 2147483647), (.ofNat 0, .ofNat 31)] (false, [], [], [])), [(0, (2, 77, .ofNat 0)), (1, (0, 10, .ofNat 0)), (2, (0, 11, .ofNat 0)), (3, (0, 12, .ofNat 0))], [], [], [(11, 1, 0, 2, 0), (12, 1, 0, 3, 0)], (.ofNat 31, [(12, .negSucc 0)]), none)
def zg207_1 : List zNd := [zn207_0]
def znl207 : List zNd := zg207_1
set_option maxRecDepth 100000 in
theorem zk207_0 : z_ck0 zT1 (z_cnt zL1) 20000 [4] zm158 zc207 znl207 = true := by decide +kernel
set_option maxRecDepth 100000 in
theorem zk207_1 : z_ckn zT1 (z_cnt zL1) 20000 [4] zm158 zc207 znl207 zg207_1 = true := by decide +kernel
theorem zk207 : z_cok zT1 (z_cnt zL1) 20000 [4] zm158 zc207 znl207 = true := z_cok_of zk207_0 (zk207_1)
set_option maxRecDepth 100000 in
def zn208_0 : zNd := (12, (z_li [(.ofNat 0, .ofNat 0), (.negSucc 2147483647, .ofNat 2147483647), (.negSucc 2147483647, .ofNat 2147483647), (.negSucc 2147483647, .ofNat 2147483647), (.negSucc 2147483647, .ofNat 2147483647), (.negSucc 2147483647, .ofNat 2147483647), (.negSucc 2147483647, .ofNat 2147483647), (.negSucc 2147483647, .ofNat 2147483647), (.negSucc 2147483647, .ofNat 2147483647), (.negSucc 2147483647, .ofNat 2147483647), (.negSucc 0, .ofNat 14), (.ofNat 0, .ofNat 15)] (false, [], [], [])), [(0, (2, 155, .ofNat 0)), (1, (0, 10, .ofNat 0)), (2, (0, 11, .ofNat 0))], [], [], [(10, 1, 0, 1, 0), (11, 1, 0, 2, 0)], (.ofNat 15, [(11, .negSucc 0)]), none)
def zg208_1 : List zNd := [zn208_0]
def znl208 : List zNd := zg208_1
set_option maxRecDepth 100000 in
theorem zk208_0 : z_ck0 zT1 (z_cnt zL1) 20000 [12] zm160 zc208 znl208 = true := by decide +kernel
set_option maxRecDepth 100000 in
theorem zk208_1 : z_ckn zT1 (z_cnt zL1) 20000 [12] zm160 zc208 znl208 zg208_1 = true := by decide +kernel
theorem zk208 : z_cok zT1 (z_cnt zL1) 20000 [12] zm160 zc208 znl208 = true := z_cok_of zk208_0 (zk208_1)
set_option maxRecDepth 100000 in
def zn209_0 : zNd := (4, (z_li [(.ofNat 0, .ofNat 0), (.negSucc 2147483647, .ofNat 2147483647), (.negSucc 2147483647, .ofNat 2147483647), (.negSucc 2147483647, .ofNat 2147483647), (.negSucc 2147483647, .ofNat 2147483647), (.negSucc 2147483647, .ofNat 2147483647), (.negSucc 2147483647, .ofNat 2147483647), (.negSucc 2147483647, .ofNat 2147483647), (.negSucc 2147483647, .ofNat 2147483647), (.negSucc 2147483647, .ofNat 2147483647), (.negSucc 2147483647, .ofNat 2147483647), (.ofNat 0, .ofNat 6)] (false, [], [], [])), [(0, (2, 155, .ofNat 0)), (1, (0, 10, .ofNat 0)), (2, (0, 11, .ofNat 0))], [], [], [(10, 1, 0, 1, 0), (11, 1, 0, 2, 0)], (.ofNat 6, [(11, .negSucc 0)]), none)
def zg209_1 : List zNd := [zn209_0]
def znl209 : List zNd := zg209_1
set_option maxRecDepth 100000 in
theorem zk209_0 : z_ck0 zT1 (z_cnt zL1) 20000 [4] zm167 zc209 znl209 = true := by decide +kernel
set_option maxRecDepth 100000 in
theorem zk209_1 : z_ckn zT1 (z_cnt zL1) 20000 [4] zm167 zc209 znl209 zg209_1 = true := by decide +kernel
theorem zk209 : z_cok zT1 (z_cnt zL1) 20000 [4] zm167 zc209 znl209 = true := z_cok_of zk209_0 (zk209_1)
set_option maxRecDepth 100000 in
theorem zk210 : z_cok zT1 (z_cnt zL1) 20000 [] zm213 zc210 [] = true := by decide +kernel
set_option maxRecDepth 100000 in
theorem zk211 : z_cok zT1 (z_cnt zL1) 20000 [] zm214 zc211 [] = true := by decide +kernel
set_option maxRecDepth 100000 in
theorem zk212 : z_cok zT1 (z_cnt zL1) 20000 [] zm220 zc212 [] = true := by decide +kernel
set_option maxRecDepth 100000 in
def zn213_0 : zNd := (17, (z_li [(.ofNat 0, .ofNat 0), (.negSucc 2147483647, .ofNat 2147483647), (.negSucc 2147483647, .ofNat 2147483647), (.negSucc 2147483647, .ofNat 2147483647), (.negSucc 2147483647, .ofNat 2147483647), (.negSucc 2147483647, .ofNat 2147483647), (.negSucc 2147483647, .ofNat 2147483647), (.negSucc 2147483647, .ofNat 2147483647), (.negSucc 2147483647, .ofNat 2147483647), (.negSucc 2147483647, .ofNat 2147483647), (.ofNat 0, .ofNat 511), (.ofNat 0, .ofNat 9)] (false, [], [], [])), [(0, (2, 0, .ofNat 0)), (1, (0, 10, .ofNat 0)), (2, (0, 11, .ofNat 0))], [], [], [(10, 1, 0, 1, 0), (11, 1, 0, 2, 0)], (.ofNat 9, [(11, .negSucc 0)]), none)
def zg213_1 : List zNd := [zn213_0]
def znl213 : List zNd := zg213_1
set_option maxRecDepth 100000 in
theorem zk213_0 : z_ck0 zT1 (z_cnt zL1) 20000 [17] zm278 zc213 znl213 = true := by decide +kernel
set_option maxRecDepth 100000 in
theorem zk213_1 : z_ckn zT1 (z_cnt zL1) 20000 [17] zm278 zc213 znl213 zg213_1 = true := by decide +kernel
theorem zk213 : z_cok zT1 (z_cnt zL1) 20000 [17] zm278 zc213 znl213 = true := z_cok_of zk213_0 (zk213_1)
set_option maxRecDepth 100000 in
theorem zk214 : z_cok zT1 (z_cnt zL1) 20000 [] zm280 zc214 [] = true := by decide +kernel
set_option maxRecDepth 100000 in
def zn215_0 : zNd := (19, (z_li [(.ofNat 0, .ofNat 0), (.negSucc 2147483647, .ofNat 2147483647), (.negSucc 2147483647, .ofNat 2147483647), (.negSucc 2147483647, .ofNat 2147483647), (.negSucc 2147483647, .ofNat 2147483647), (.negSucc 2147483647, .ofNat 2147483647), (.negSucc 2147483647, .ofNat 2147483647), (.negSucc 2147483647, .ofNat 2147483647), (.negSucc 2147483647, .ofNat 2147483647), (.negSucc 2147483647, .ofNat 2147483647), (.negSucc 0, .ofNat 13), (.ofNat 0, .ofNat 63), (.ofNat 0, .ofNat 14)] (false, [], [], [])), [(0, (2, 0, .ofNat 0)), (1, (0, 10, .ofNat 0)), (2, (0, 11, .ofNat 0)), (3, (0, 12, .ofNat 0))], [], [], [(10, 1, 0, 1, 0), (11, 1, 0, 2, 0), (12, 1, 0, 3, 0)], (.ofNat 14, [(12, .negSucc 0)]), none)
def zg215_1 : List zNd := [zn215_0]
def znl215 : List zNd := zg215_1
set_option maxRecDepth 100000 in
theorem zk215_0 : z_ck0 zT1 (z_cnt zL1) 20000 [19] zm284 zc215 znl215 = true := by decide +kernel
set_option maxRecDepth 100000 in
theorem zk215_1 : z_ckn zT1 (z_cnt zL1) 20000 [19] zm284 zc215 znl215 zg215_1 = true := by decide +kernel
theorem zk215 : z_cok zT1 (z_cnt zL1) 20000 [19] zm284 zc215 znl215 = true := z_cok_of zk215_0 (zk215_1)
set_option maxRecDepth 100000 in
theorem zk216 : z_cok zT1 (z_cnt zL1) 20000 [] zm287 zc216 [] = true := by decide +kernel
set_option maxRecDepth 100000 in
def zn217_0 : zNd := (25, (z_li [(.ofNat 0, .ofNat 0), (.negSucc 2147483647, .ofNat 2147483647), (.negSucc 2147483647, .ofNat 2147483647), (.negSucc 2147483647, .ofNat 2147483647), (.negSucc 2147483647, .ofNat 2147483647), (.negSucc 2147483647, .ofNat 2147483647), (.negSucc 2147483647, .ofNat 2147483647), (.negSucc 2147483647, .ofNat 2147483647), (.negSucc 2147483647, .ofNat 2147483647), (.negSucc 2147483647, .ofNat 2147483647), (.ofNat 0, .ofNat 2147483647), (.ofNat 0, .ofNat 2147483647), (.negSucc 2147483647, .ofNat 2147483647), (.ofNat 0, .ofNat 14)] (false, [], [], [])), [(0, (2, 0, .ofNat 0)), (1, (0, 10, .ofNat 0)), (2, (0, 11, .ofNat 0)), (3, (0, 12, .ofNat 0)), (4, (0, 13, .ofNat 0))], [], [], [(10, 1, 0, 1, 0), (11, 1, 0, 2, 0), (12, 1, 0, 3, 0), (13, 1, 0, 4, 0)], (.ofNat 14, [(13, .negSucc 0)]), none)
def zg217_1 : List zNd := [zn217_0]
def znl217 : List zNd := zg217_1
set_option maxRecDepth 100000 in
theorem zk217_0 : z_ck0 zT1 (z_cnt zL1) 20000 [25] zm288 zc217 znl217 = true := by decide +kernel
set_option maxRecDepth 100000 in
theorem zk217_1 : z_ckn zT1 (z_cnt zL1) 20000 [25] zm288 zc217 znl217 zg217_1 = true := by decide +kernel
theorem zk217 : z_cok zT1 (z_cnt zL1) 20000 [25] zm288 zc217 znl217 = true := z_cok_of zk217_0 (zk217_1)
set_option maxRecDepth 100000 in
def zn218_0 : zNd := (16, (z_li [(.ofNat 0, .ofNat 0), (.negSucc 2147483647, .ofNat 2147483647), (.negSucc 2147483647, .ofNat 2147483647), (.negSucc 2147483647, .ofNat 2147483647), (.negSucc 2147483647, .ofNat 2147483647), (.negSucc 2147483647, .ofNat 2147483647), (.negSucc 2147483647, .ofNat 2147483647), (.negSucc 2147483647, .ofNat 2147483647), (.negSucc 2147483647, .ofNat 2147483647), (.negSucc 2147483647, .ofNat 2147483647), (.ofNat 0, .ofNat 9), (.ofNat 0, .ofNat 6), (.ofNat 0, .ofNat 2147483647), (.negSucc 2147483647, .ofNat 2147483647), (.ofNat 0, .ofNat 14)] (true, [(.ofNat 0, [(11, .negSucc 0), (10, .ofNat 3)])], [], [])), [(0, (2, 155, .ofNat 0)), (1, (0, 12, .ofNat 0)), (2, (0, 13, .ofNat 0)), (3, (0, 14, .ofNat 0))], [], [(156, 3, 1, (0, 10, .ofNat 0)), (156, 7, 1, (0, 11, .ofNat 0))], [(12, 1, 0, 1, 0), (13, 1, 0, 2, 0), (14, 1, 0, 3, 0)], (.ofNat 14, [(14, .negSucc 0)]), none)
def zg218_1 : List zNd := [zn218_0]
def znl218 : List zNd := zg218_1
set_option maxRecDepth 100000 in
theorem zk218_0 : z_ck0 zT1 (z_cnt zL1) 20000 [16] zm289 zc218 znl218 = true := by decide +kernel
set_option maxRecDepth 100000 in
theorem zk218_1 : z_ckn zT1 (z_cnt zL1) 20000 [16] zm289 zc218 znl218 zg218_1 = true := by decide +kernel
theorem zk218 : z_cok zT1 (z_cnt zL1) 20000 [16] zm289 zc218 znl218 = true := z_cok_of zk218_0 (zk218_1)
set_option maxRecDepth 100000 in
theorem zk219 : z_cok zT1 (z_cnt zL1) 20000 [] zm290 zc219 [] = true := by decide +kernel
set_option maxRecDepth 100000 in
def zn220_0 : zNd := (14, (z_li [(.ofNat 0, .ofNat 0), (.negSucc 2147483647, .ofNat 2147483647), (.negSucc 2147483647, .ofNat 2147483647), (.negSucc 2147483647, .ofNat 2147483647), (.negSucc 2147483647, .ofNat 2147483647), (.negSucc 2147483647, .ofNat 2147483647), (.negSucc 2147483647, .ofNat 2147483647), (.negSucc 2147483647, .ofNat 2147483647), (.negSucc 2147483647, .ofNat 2147483647), (.negSucc 2147483647, .ofNat 2147483647), (.ofNat 0, .ofNat 9), (.ofNat 0, .ofNat 6), (.ofNat 0, .ofNat 2147483647), (.ofNat 0, .ofNat 14)] (true, [(.ofNat 0, [(11, .negSucc 0), (10, .ofNat 3)])], [], [])), [(0, (2, 155, .ofNat 0)), (1, (0, 12, .ofNat 0)), (2, (0, 13, .ofNat 0))], [], [(156, 3, 1, (0, 10, .ofNat 0)), (156, 7, 1, (0, 11, .ofNat 0))], [(12, 1, 0, 1, 0), (13, 1, 0, 2, 0)], (.ofNat 14, [(13, .negSucc 0)]), none)
def zg220_1 : List zNd := [zn220_0]
def znl220 : List zNd := zg220_1
set_option maxRecDepth 100000 in
theorem zk220_0 : z_ck0 zT1 (z_cnt zL1) 20000 [14] zm291 zc220 znl220 = true := by decide +kernel
set_option maxRecDepth 100000 in
theorem zk220_1 : z_ckn zT1 (z_cnt zL1) 20000 [14] zm291 zc220 znl220 zg220_1 = true := by decide +kernel
theorem zk220 : z_cok zT1 (z_cnt zL1) 20000 [14] zm291 zc220 znl220 = true := z_cok_of zk220_0 (zk220_1)
set_option maxRecDepth 100000 in
def zn221_0 : zNd := (15, (z_li [(.ofNat 0, .ofNat 0), (.negSucc 2147483647, .ofNat 2147483647), (.negSucc 2147483647, .ofNat 2147483647), (.negSucc 2147483647, .ofNat 2147483647), (.negSucc 2147483647, .ofNat 2147483647), (.negSucc 2147483647, .ofNat 2147483647), (.negSucc 2147483647, .ofNat 2147483647), (.negSucc 2147483647, .ofNat 2147483647), (.negSucc 2147483647, .ofNat 2147483647), (.negSucc 2147483647, .ofNat 2147483647), (.ofNat 0, .ofNat 14), (.ofNat 0, .ofNat 63), (.ofNat 0, .ofNat 6)] (false, [], [], [])), [(0, (2, 0, .ofNat 0)), (1, (0, 10, .ofNat 0)), (2, (0, 11, .ofNat 0)), (3, (0, 12, .ofNat 0))], [], [], [(11, 1, 0, 2, 0), (12, 1, 0, 3, 0)], (.ofNat 6, [(12, .negSucc 0)]), none)
def zg221_1 : List zNd := [zn221_0]
def znl221 : List zNd := zg221_1
set_option maxRecDepth 100000 in
theorem zk221_0 : z_ck0 zT1 (z_cnt zL1) 20000 [15] zm296 zc221 znl221 = true := by decide +kernel
set_option maxRecDepth 100000 in
theorem zk221_1 : z_ckn zT1 (z_cnt zL1) 20000 [15] zm296 zc221 znl221 zg221_1 = true := by decide +kernel
theorem zk221 : z_cok zT1 (z_cnt zL1) 20000 [15] zm296 zc221 znl221 = true := z_cok_of zk221_0 (zk221_1)
set_option maxRecDepth 100000 in
def zn222_0 : zNd := (15, (z_li [(.ofNat 0, .ofNat 0), (.negSucc 2147483647, .ofNat 2147483647), (.negSucc 2147483647, .ofNat 2147483647), (.negSucc 2147483647, .ofNat 2147483647), (.negSucc 2147483647, .ofNat 2147483647), (.negSucc 2147483647, .ofNat 2147483647), (.negSucc 2147483647, .ofNat 2147483647), (.negSucc 2147483647, .ofNat 2147483647), (.negSucc 2147483647, .ofNat 2147483647), (.negSucc 2147483647, .ofNat 2147483647), (.ofNat 0, .ofNat 14), (.ofNat 0, .ofNat 63), (.ofNat 0, .ofNat 6)] (false, [], [], [])), [(0, (2, 0, .ofNat 0)), (1, (0, 10, .ofNat 0)), (2, (0, 11, .ofNat 0)), (3, (0, 12, .ofNat 0))], [], [], [(11, 1, 0, 2, 0), (12, 1, 0, 3, 0)], (.ofNat 6, [(12, .negSucc 0)]), none)
def zg222_1 : List zNd := [zn222_0]
def znl222 : List zNd := zg222_1
set_option maxRecDepth 100000 in
theorem zk222_0 : z_ck0 zT1 (z_cnt zL1) 20000 [15] zm300 zc222 znl222 = true := by decide +kernel
set_option maxRecDepth 100000 in
theorem zk222_1 : z_ckn zT1 (z_cnt zL1) 20000 [15] zm300 zc222 znl222 zg222_1 = true := by decide +kernel
theorem zk222 : z_cok zT1 (z_cnt zL1) 20000 [15] zm300 zc222 znl222 = true := z_cok_of zk222_0 (zk222_1)
set_option maxRecDepth 100000 in
def zn223_0 : zNd := (13, (z_li [(.ofNat 0, .ofNat 0), (.negSucc 2147483647, .ofNat 2147483647), (.negSucc 2147483647, .ofNat 2147483647), (.negSucc 2147483647, .ofNat 2147483647), (.negSucc 2147483647, .ofNat 2147483647), (.negSucc 2147483647, .ofNat 2147483647), (.negSucc 2147483647, .ofNat 2147483647), (.negSucc 2147483647, .ofNat 2147483647), (.negSucc 2147483647, .ofNat 2147483647), (.negSucc 2147483647, .ofNat 2147483647), (.ofNat 0, .ofNat 5), (.ofNat 0, .ofNat 15)] (false, [], [], [])), [(0, (2, 0, .ofNat 0)), (1, (0, 10, .ofNat 0)), (2, (0, 11, .ofNat 0))], [], [], [(11, 1, 0, 2, 0)], (.ofNat 15, [(11, .negSucc 0)]), none)
def zg223_1 : List zNd := [zn223_0]
def znl223 : List zNd := zg223_1
set_option maxRecDepth 100000 in
theorem zk223_0 : z_ck0 zT1 (z_cnt zL1) 20000 [13] zm308 zc223 znl223 = true := by decide +kernel
set_option maxRecDepth 100000 in
theorem zk223_1 : z_ckn zT1 (z_cnt zL1) 20000 [13] zm308 zc223 znl223 zg223_1 = true := by decide +kernel
theorem zk223 : z_cok zT1 (z_cnt zL1) 20000 [13] zm308 zc223 znl223 = true := z_cok_of zk223_0 (zk223_1)
set_option maxRecDepth 100000 in
def zn224_0 : zNd := (15, (z_li [(.ofNat 0, .ofNat 0), (.negSucc 2147483647, .ofNat 2147483647), (.negSucc 2147483647, .ofNat 2147483647), (.negSucc 2147483647, .ofNat 2147483647), (.negSucc 2147483647, .ofNat 2147483647), (.negSucc 2147483647, .ofNat 2147483647), (.negSucc 2147483647, .ofNat 2147483647), (.negSucc 2147483647, .ofNat 2147483647), (.negSucc 2147483647, .ofNat 2147483647), (.negSucc 2147483647, .ofNat 2147483647), (.ofNat 0, .ofNat 14), (.ofNat 0, .ofNat 63), (.ofNat 0, .ofNat 6)] (false, [], [], [])), [(0, (2, 0, .ofNat 0)), (1, (0, 10, .ofNat 0)), (2, (0, 11, .ofNat 0)), (3, (0, 12, .ofNat 0))], [], [], [(11, 1, 0, 2, 0), (12, 1, 0, 3, 0)], (.ofNat 6, [(12, .negSucc 0)]), none)
def zg224_1 : List zNd := [zn224_0]
def znl224 : List zNd := zg224_1
set_option maxRecDepth 100000 in
theorem zk224_0 : z_ck0 zT1 (z_cnt zL1) 20000 [15] zm312 zc224 znl224 = true := by decide +kernel
set_option maxRecDepth 100000 in
theorem zk224_1 : z_ckn zT1 (z_cnt zL1) 20000 [15] zm312 zc224 znl224 zg224_1 = true := by decide +kernel
theorem zk224 : z_cok zT1 (z_cnt zL1) 20000 [15] zm312 zc224 znl224 = true := z_cok_of zk224_0 (zk224_1)
set_option maxRecDepth 100000 in
theorem zk225 : z_cok zT1 (z_cnt zL1) 20000 [] zm316 zc225 [] = true := by decide +kernel
set_option maxRecDepth 100000 in
theorem zk226 : z_cok zT1 (z_cnt zL1) 20000 [] zm318 zc226 [] = true := by decide +kernel
set_option maxRecDepth 100000 in
def zn227_0 : zNd := (19, (z_li [(.ofNat 0, .ofNat 0), (.negSucc 2147483647, .ofNat 2147483647), (.negSucc 2147483647, .ofNat 2147483647), (.negSucc 2147483647, .ofNat 2147483647), (.negSucc 2147483647, .ofNat 2147483647), (.negSucc 2147483647, .ofNat 2147483647), (.negSucc 2147483647, .ofNat 2147483647), (.negSucc 2147483647, .ofNat 2147483647), (.negSucc 2147483647, .ofNat 2147483647), (.negSucc 2147483647, .ofNat 2147483647), (.negSucc 0, .ofNat 5), (.negSucc 2147483647, .ofNat 2147483647), (.ofNat 0, .ofNat 6)] (false, [], [], [])), [(0, (2, 0, .ofNat 0)), (1, (0, 10, .ofNat 0)), (2, (0, 11, .ofNat 0)), (3, (0, 12, .ofNat 0))], [], [], [(10, 1, 0, 1, 0), (11, 1, 0, 2, 0), (12, 1, 0, 3, 0)], (.ofNat 6, [(12, .negSucc 0)]), none)
def zg227_1 : List zNd := [zn227_0]
def znl227 : List zNd := zg227_1
set_option maxRecDepth 100000 in
theorem zk227_0 : z_ck0 zT1 (z_cnt zL1) 20000 [19] zm320 zc227 znl227 = true := by decide +kernel
set_option maxRecDepth 100000 in
theorem zk227_1 : z_ckn zT1 (z_cnt zL1) 20000 [19] zm320 zc227 znl227 zg227_1 = true := by decide +kernel
theorem zk227 : z_cok zT1 (z_cnt zL1) 20000 [19] zm320 zc227 znl227 = true := z_cok_of zk227_0 (zk227_1)
set_option maxRecDepth 100000 in
theorem zk228 : z_cok zT1 (z_cnt zL1) 20000 [] zm322 zc228 [] = true := by decide +kernel
set_option maxRecDepth 100000 in
theorem zk229 : z_cok zT1 (z_cnt zL1) 20000 [] zm328 zc229 [] = true := by decide +kernel
set_option maxRecDepth 100000 in
theorem zk230 : z_cok zT1 (z_cnt zL1) 20000 [] zm332 zc230 [] = true := by decide +kernel
set_option maxRecDepth 100000 in
theorem zk231 : z_cok zT1 (z_cnt zL1) 20000 [] zm334 zc231 [] = true := by decide +kernel
set_option maxRecDepth 100000 in
theorem zk232 : z_cok zT1 (z_cnt zL2) 20000 [] zm9 zc232 [] = true := by decide +kernel
set_option maxRecDepth 100000 in
def zn233_0 : zNd := (58, (z_li [(.ofNat 0, .ofNat 0), (.negSucc 2147483647, .ofNat 2147483647), (.negSucc 2147483647, .ofNat 2147483647), (.negSucc 2147483647, .ofNat 2147483647), (.negSucc 2147483647, .ofNat 2147483647), (.negSucc 2147483647, .ofNat 2147483647), (.negSucc 2147483647, .ofNat 2147483647), (.negSucc 2147483647, .ofNat 2147483647), (.negSucc 2147483647, .ofNat 2147483647), (.negSucc 2147483647, .ofNat 2147483647), (.ofNat 0, .ofNat 5), (.ofNat 0, .ofNat 0), (.ofNat 0, .ofNat 700), (.ofNat 0, .ofNat 88), (.ofNat 0, .ofNat 5)] (true, [], [], [])), [(0, (2, 3, .ofNat 0)), (1, (2, 6, .ofNat 0)), (2, (0, 10, .ofNat 0)), (4, (0, 12, .ofNat 0)), (6, (0, 13, .ofNat 0)), (7, (0, 14, .ofNat 0))], [], [], [(12, 1, 0, 4, 0), (13, 1, 0, 6, 0), (14, 1, 0, 7, 0)], (.ofNat 5, [(14, .negSucc 0)]), none)
def zg233_1 : List zNd := [zn233_0]
def znl233 : List zNd := zg233_1
set_option maxRecDepth 100000 in
theorem zk233_0 : z_ck0 zT1 (z_cnt zL2) 20000 [58] zm23 zc233 znl233 = true := by decide +kernel
set_option maxRecDepth 100000 in
theorem zk233_1 : z_ckn zT1 (z_cnt zL2) 20000 [58] zm23 zc233 znl233 zg233_1 = true := by decide +kernel
theorem zk233 : z_cok zT1 (z_cnt zL2) 20000 [58] zm23 zc233 znl233 = true := z_cok_of zk233_0 (zk233_1)
set_option maxRecDepth 100000 in
def zn234_0 : zNd := (58, (z_li [(.ofNat 0, .ofNat 0), (.negSucc 2147483647, .ofNat 2147483647), (.negSucc 2147483647, .ofNat 2147483647), (.negSucc 2147483647, .ofNat 2147483647), (.negSucc 2147483647, .ofNat 2147483647), (.negSucc 2147483647, .ofNat 2147483647), (.negSucc 2147483647, .ofNat 2147483647), (.negSucc 2147483647, .ofNat 2147483647), (.negSucc 2147483647, .ofNat 2147483647), (.negSucc 2147483647, .ofNat 2147483647), (.ofNat 0, .ofNat 5), (.ofNat 1, .ofNat 1), (.ofNat 0, .ofNat 700), (.ofNat 0, .ofNat 5)] (true, [], [], [])), [(0, (2, 3, .ofNat 0)), (1, (2, 6, .ofNat 0)), (2, (0, 10, .ofNat 0)), (4, (0, 12, .ofNat 0)), (6, (0, 0, .ofNat 0)), (7, (0, 13, .ofNat 0))], [], [(4, 5, 1, (0, 11, .ofNat 0))], [(12, 1, 0, 4, 0), (13, 1, 0, 7, 0)], (.ofNat 5, [(13, .negSucc 0)]), none)
def zg234_1 : List zNd := [zn234_0]
def znl234 : List zNd := zg234_1
set_option maxRecDepth 100000 in
theorem zk234_0 : z_ck0 zT1 (z_cnt zL2) 20000 [58] zm23 zc234 znl234 = true := by decide +kernel
set_option maxRecDepth 100000 in
theorem zk234_1 : z_ckn zT1 (z_cnt zL2) 20000 [58] zm23 zc234 znl234 zg234_1 = true := by decide +kernel
theorem zk234 : z_cok zT1 (z_cnt zL2) 20000 [58] zm23 zc234 znl234 = true := z_cok_of zk234_0 (zk234_1)
set_option maxRecDepth 100000 in
def zn235_0 : zNd := (58, (z_li [(.ofNat 0, .ofNat 0), (.negSucc 2147483647, .ofNat 2147483647), (.negSucc 2147483647, .ofNat 2147483647), (.negSucc 2147483647, .ofNat 2147483647), (.negSucc 2147483647, .ofNat 2147483647), (.negSucc 2147483647, .ofNat 2147483647), (.negSucc 2147483647, .ofNat 2147483647), (.negSucc 2147483647, .ofNat 2147483647), (.negSucc 2147483647, .ofNat 2147483647), (.negSucc 2147483647, .ofNat 2147483647), (.ofNat 0, .ofNat 7), (.ofNat 0, .ofNat 0), (.ofNat 0, .ofNat 700), (.ofNat 0, .ofNat 88), (.ofNat 0, .ofNat 7)] (true, [], [], [])), [(0, (2, 3, .ofNat 0)), (1, (2, 7, .ofNat 0)), (2, (0, 10, .ofNat 0)), (4, (0, 12, .ofNat 0)), (6, (0, 13, .ofNat 0)), (7, (0, 14, .ofNat 0))], [], [], [(12, 1, 0, 4, 0), (13, 1, 0, 6, 0), (14, 1, 0, 7, 0)], (.ofNat 7, [(14, .negSucc 0)]), none)
def zg235_1 : List zNd := [zn235_0]
def znl235 : List zNd := zg235_1
set_option maxRecDepth 100000 in
theorem zk235_0 : z_ck0 zT1 (z_cnt zL2) 20000 [58] zm23 zc235 znl235 = true := by decide +kernel
set_option maxRecDepth 100000 in
theorem zk235_1 : z_ckn zT1 (z_cnt zL2) 20000 [58] zm23 zc235 znl235 zg235_1 = true := by decide +kernel
theorem zk235 : z_cok zT1 (z_cnt zL2) 20000 [58] zm23 zc235 znl235 = true := z_cok_of zk235_0 (zk235_1)
set_option maxRecDepth 100000 in
def zn236_0 : zNd := (58, (z_li [(.ofNat 0, .ofNat 0), (.negSucc 2147483647, .ofNat 2147483647), (.negSucc 2147483647, .ofNat 2147483647), (.negSucc 2147483647, .ofNat 2147483647), (.negSucc 2147483647, .ofNat 2147483647), (.negSucc 2147483647, .ofNat 2147483647), (.negSucc 2147483647, .ofNat 2147483647), (.negSucc 2147483647, .ofNat 2147483647), (.negSucc 2147483647, .ofNat 2147483647), (.negSucc 2147483647, .ofNat 2147483647), (.ofNat 0, .ofNat 7), (.ofNat 1, .ofNat 1), (.ofNat 0, .ofNat 700), (.ofNat 0, .ofNat 7)] (true, [], [], [])), [(0, (2, 3, .ofNat 0)), (1, (2, 7, .ofNat 0)), (2, (0, 10, .ofNat 0)), (4, (0, 12, .ofNat 0)), (6, (0, 0, .ofNat 0)), (7, (0, 13, .ofNat 0))], [], [(4, 5, 1, (0, 11, .ofNat 0))], [(12, 1, 0, 4, 0), (13, 1, 0, 7, 0)], (.ofNat 7, [(13, .negSucc 0)]), none)
def zg236_1 : List zNd := [zn236_0]
def znl236 : List zNd := zg236_1
set_option maxRecDepth 100000 in
theorem zk236_0 : z_ck0 zT1 (z_cnt zL2) 20000 [58] zm23 zc236 znl236 = true := by decide +kernel
set_option maxRecDepth 100000 in
theorem zk236_1 : z_ckn zT1 (z_cnt zL2) 20000 [58] zm23 zc236 znl236 zg236_1 = true := by decide +kernel
theorem zk236 : z_cok zT1 (z_cnt zL2) 20000 [58] zm23 zc236 znl236 = true := z_cok_of zk236_0 (zk236_1)
set_option maxRecDepth 100000 in
def zn237_0 : zNd := (58, (z_li [(.ofNat 0, .ofNat 0), (.negSucc 2147483647, .ofNat 2147483647), (.negSucc 2147483647, .ofNat 2147483647), (.negSucc 2147483647, .ofNat 2147483647), (.negSucc 2147483647, .ofNat 2147483647), (.negSucc 2147483647, .ofNat 2147483647), (.negSucc 2147483647, .ofNat 2147483647), (.negSucc 2147483647, .ofNat 2147483647), (.negSucc 2147483647, .ofNat 2147483647), (.negSucc 2147483647, .ofNat 2147483647), (.ofNat 0, .ofNat 0), (.ofNat 0, .ofNat 0), (.ofNat 0, .ofNat 700), (.ofNat 0, .ofNat 88)] (true, [], [], [])), [(0, (2, 3, .ofNat 0)), (1, (2, 9, .ofNat 0)), (2, (0, 10, .ofNat 0)), (4, (0, 12, .ofNat 0)), (6, (0, 13, .ofNat 0)), (7, (0, 0, .ofNat 0))], [], [], [(12, 1, 0, 4, 0), (13, 1, 0, 6, 0)], (.ofNat 0, []), none)
def zg237_1 : List zNd := [zn237_0]
def znl237 : List zNd := zg237_1
set_option maxRecDepth 100000 in
theorem zk237_0 : z_ck0 zT1 (z_cnt zL2) 20000 [58] zm23 zc237 znl237 = true := by decide +kernel
set_option maxRecDepth 100000 in
theorem zk237_1 : z_ckn zT1 (z_cnt zL2) 20000 [58] zm23 zc237 znl237 zg237_1 = true := by decide +kernel
theorem zk237 : z_cok zT1 (z_cnt zL2) 20000 [58] zm23 zc237 znl237 = true := z_cok_of zk237_0 (zk237_1)
set_option maxRecDepth 100000 in
def zn238_0 : zNd := (58, (z_li [(.ofNat 0, .ofNat 0), (.negSucc 2147483647, .ofNat 2147483647), (.negSucc 2147483647, .ofNat 2147483647), (.negSucc 2147483647, .ofNat 2147483647), (.negSucc 2147483647, .ofNat 2147483647), (.negSucc 2147483647, .ofNat 2147483647), (.negSucc 2147483647, .ofNat 2147483647), (.negSucc 2147483647, .ofNat 2147483647), (.negSucc 2147483647, .ofNat 2147483647), (.negSucc 2147483647, .ofNat 2147483647), (.ofNat 0, .ofNat 0), (.ofNat 1, .ofNat 2), (.ofNat 0, .ofNat 700)] (true, [], [], [])), [(0, (2, 3, .ofNat 0)), (1, (2, 9, .ofNat 0)), (2, (0, 10, .ofNat 0)), (4, (0, 12, .ofNat 0)), (6, (0, 0, .ofNat 0)), (7, (0, 0, .ofNat 0))], [], [(4, 5, 1, (0, 11, .ofNat 0))], [(12, 1, 0, 4, 0)], (.ofNat 0, []), none)
def zg238_1 : List zNd := [zn238_0]
def znl238 : List zNd := zg238_1
set_option maxRecDepth 100000 in
theorem zk238_0 : z_ck0 zT1 (z_cnt zL2) 20000 [58] zm23 zc238 znl238 = true := by decide +kernel
set_option maxRecDepth 100000 in
theorem zk238_1 : z_ckn zT1 (z_cnt zL2) 20000 [58] zm23 zc238 znl238 zg238_1 = true := by decide +kernel
theorem zk238 : z_cok zT1 (z_cnt zL2) 20000 [58] zm23 zc238 znl238 = true := z_cok_of zk238_0 (zk238_1)
set_option maxRecDepth 100000 in
theorem zk239 : z_cok zT1 (z_cnt zL2) 20000 [] zm26 zc239 [] = true := by decide +kernel
