set_option maxRecDepth 100000 in
theorem zk174 : z_cok zT1 (z_cnt zL1) 20000 [] zm49 zc174 [] = true := by decide +kernel
set_option maxRecDepth 100000 in
theorem zk175 : z_cok zT1 (z_cnt zL1) 20000 [] zm49 zc175 [] = true := by decide +kernel
set_option maxRecDepth 100000 in
theorem zk176 : z_cok zT1 (z_cnt zL1) 20000 [] zm49 zc176 [] = true := by decide +kernel
set_option maxRecDepth 100000 in
theorem zk177 : z_cok zT1 (z_cnt zL1) 20000 [] zm49 zc177 [] = true := by decide +kernel
set_option maxRecDepth 100000 in
theorem zk178 : z_cok zT1 (z_cnt zL1) 20000 [] zm49 zc178 [] = true := by decide +kernel
set_option maxRecDepth 100000 in
theorem zk179 : z_cok zT1 (z_cnt zL1) 20000 [] zm49 zc179 [] = true := by decide +kernel
set_option maxRecDepth 100000 in
theorem zk180 : z_cok zT1 (z_cnt zL1) 20000 [] zm53 zc180 [] = true := by decide +kernel
set_option maxRecDepth 100000 in
theorem zk181 : z_cok zT1 (z_cnt zL1) 20000 [] zm53 zc181 [] = true := by decide +kernel
set_option maxRecDepth 100000 in
theorem zk182 : z_cok zT1 (z_cnt zL1) 20000 [] zm53 zc182 [] = true := by decide +kernel
set_option maxRecDepth 100000 in
theorem zk183 : z_cok zT1 (z_cnt zL1) 20000 [] zm53 zc183 [] = true := by decide +kernel
set_option maxRecDepth 100000 in
theorem zk184 : z_cok zT1 (z_cnt zL1) 20000 [] zm53 zc184 [] = true := by decide +kernel
set_option maxRecDepth 100000 in
theorem zk185 : z_cok zT1 (z_cnt zL1) 20000 [] zm53 zc185 [] = true := by decide +kernel
set_option maxRecDepth 100000 in
theorem zk186 : z_cok zT1 (z_cnt zL1) 20000 [] zm53 zc186 [] = true := by decide +kernel
set_option maxRecDepth 100000 in
theorem zk187 : z_cok zT1 (z_cnt zL1) 20000 [] zm54 zc187 [] = true := by decide +kernel
set_option maxRecDepth 100000 in
theorem zk188 : z_cok zT1 (z_cnt zL1) 20000 [] zm54 zc188 [] = true := by decide +kernel
set_option maxRecDepth 100000 in
theorem zk189 : z_cok zT1 (z_cnt zL1) 20000 [] zm54 zc189 [] = true := by decide +kernel
set_option maxRecDepth 100000 in
theorem zk190 : z_cok zT1 (z_cnt zL1) 20000 [] zm54 zc190 [] = true := by decide +kernel
set_option maxRecDepth 100000 in
theorem zk191 : z_cok zT1 (z_cnt zL1) 20000 [] zm54 zc191 [] = true := by decide +kernel
set_option maxRecDepth 100000 in
theorem zk192 : z_cok zT1 (z_cnt zL1) 20000 [] zm54 zc192 [] = true := by decide +kernel
set_option maxRecDepth 100000 in
theorem zk193 : z_cok zT1 (z_cnt zL1) 20000 [] zm54 zc193 [] = true := by decide +kernel
set_option maxRecDepth 100000 in
theorem zk194 : z_cok zT1 (z_cnt zL1) 20000 [] zm54 zc194 [] = true := by decide +kernel
set_option maxRecDepth 100000 in
theorem zk195 : z_cok zT1 (z_cnt zL1) 20000 [] zm54 zc195 [] = true := by decide +kernel
set_option maxRecDepth 100000 in
theorem zk196 : z_cok zT1 (z_cnt zL1) 20000 [] zm54 zc196 [] = true := by decide +kernel
set_option maxRecDepth 100000 in
theorem zk197 : z_cok zT1 (z_cnt zL1) 20000 [] zm57 zc197 [] = true := by decide +kernel
set_option maxRecDepth 100000 in
def zn198_0 : zNd := (32, (z_li [(0, 0), ((-2147483648), 2147483647), ((-2147483648), 2147483647), ((-2147483648), 2147483647), ((-2147483648), 2147483647), ((-2147483648), 2147483647), ((-2147483648), 2147483647), ((-2147483648), 2147483647), ((-2147483648), 2147483647), ((-2147483648), 2147483647), (0, 512000000000), (0, 6)] (false, [], [], [])), [(0, (2, 155, 0)), (1, (0, 11, 0))], [], [(155, 18, 1, (0, 0, 511)), (155, 19, 1, (0, 0, (-1))), (155, 32, 1, (1, 10, 0))], [(11, 1, 0, 1, 0)], (6, [(11, (-1))]), none)
set_option maxRecDepth 100000 in
def znl198 : List zNd := [zn198_0]
set_option maxRecDepth 100000 in
theorem zk198_0 : z_ck0 zT1 (z_cnt zL1) 20000 [32] zm77 zc198 znl198 = true := by decide +kernel
set_option maxRecDepth 100000 in
theorem zk198_1 : z_ckn zT1 (z_cnt zL1) 20000 [32] zm77 zc198 znl198 [zn198_0] = true := by decide +kernel
set_option maxRecDepth 100000 in
theorem zk198 : z_cok zT1 (z_cnt zL1) 20000 [32] zm77 zc198 znl198 = true := z_cok_of zk198_0 (zk198_1)
set_option maxRecDepth 100000 in
theorem zk199 : z_cok zT1 (z_cnt zL1) 20000 [] zm86 zc199 [] = true := by decide +kernel
set_option maxRecDepth 100000 in
def zn200_0 : zNd := (5, (z_li [(0, 0), ((-2147483648), 2147483647), ((-2147483648), 2147483647), ((-2147483648), 2147483647), ((-2147483648), 2147483647), ((-2147483648), 2147483647), ((-2147483648), 2147483647), ((-2147483648), 2147483647), ((-2147483648), 2147483647), ((-2147483648), 2147483647), (0, 5), (0, 14), (0, 63), (0, 6)] (false, [], [], [])), [(0, (2, 0, 0)), (1, (0, 10, 0)), (2, (0, 11, 0)), (3, (0, 12, 0)), (4, (0, 13, 0))], [], [], [(12, 1, 0, 3, 0), (13, 1, 0, 4, 0)], (6, [(13, (-1))]), none)
set_option maxRecDepth 100000 in
def znl200 : List zNd := [zn200_0]
set_option maxRecDepth 100000 in
theorem zk200_0 : z_ck0 zT1 (z_cnt zL1) 20000 [5] zm115 zc200 znl200 = true := by decide +kernel
set_option maxRecDepth 100000 in
theorem zk200_1 : z_ckn zT1 (z_cnt zL1) 20000 [5] zm115 zc200 znl200 [zn200_0] = true := by decide +kernel
set_option maxRecDepth 100000 in
theorem zk200 : z_cok zT1 (z_cnt zL1) 20000 [5] zm115 zc200 znl200 = true := z_cok_of zk200_0 (zk200_1)
set_option maxRecDepth 100000 in
def zn201_0 : zNd := (5, (z_li [(0, 0), ((-2147483648), 2147483647), ((-2147483648), 2147483647), ((-2147483648), 2147483647), ((-2147483648), 2147483647), ((-2147483648), 2147483647), ((-2147483648), 2147483647), ((-2147483648), 2147483647), ((-2147483648), 2147483647), ((-2147483648), 2147483647), (0, 5), (0, 14), (0, 63), (0, 6)] (false, [], [], [])), [(0, (2, 155, 0)), (1, (0, 10, 0)), (2, (0, 11, 0)), (3, (0, 12, 0)), (4, (0, 13, 0))], [], [], [(12, 1, 0, 3, 0), (13, 1, 0, 4, 0)], (6, [(13, (-1))]), none)
set_option maxRecDepth 100000 in
def znl201 : List zNd := [zn201_0]
set_option maxRecDepth 100000 in
theorem zk201_0 : z_ck0 zT1 (z_cnt zL1) 20000 [5] zm116 zc201 znl201 = true := by decide +kernel
set_option maxRecDepth 100000 in
theorem zk201_1 : z_ckn zT1 (z_cnt zL1) 20000 [5] zm116 zc201 znl201 [zn201_0] = true := by decide +kernel
set_option maxRecDepth 100000 in
theorem zk201 : z_cok zT1 (z_cnt zL1) 20000 [5] zm116 zc201 znl201 = true := z_cok_of zk201_0 (zk201_1)
set_option maxRecDepth 100000 in
def zn202_0 : zNd := (4, (z_li [(0, 0), ((-2147483648), 2147483647), ((-2147483648), 2147483647), ((-2147483648), 2147483647), ((-2147483648), 2147483647), ((-2147483648), 2147483647), ((-2147483648), 2147483647), ((-2147483648), 2147483647), ((-2147483648), 2147483647), ((-2147483648), 2147483647), (0, 14), (0, 63), (0, 6)] (false, [], [], [])), [(0, (2, 155, 0)), (1, (0, 10, 0)), (2, (0, 11, 0)), (3, (0, 12, 0))], [], [], [(11, 1, 0, 2, 0), (12, 1, 0, 3, 0)], (6, [(12, (-1))]), none)
set_option maxRecDepth 100000 in
def znl202 : List zNd := [zn202_0]
set_option maxRecDepth 100000 in
theorem zk202_0 : z_ck0 zT1 (z_cnt zL1) 20000 [4] zm118 zc202 znl202 = true := by decide +kernel
set_option maxRecDepth 100000 in
theorem zk202_1 : z_ckn zT1 (z_cnt zL1) 20000 [4] zm118 zc202 znl202 [zn202_0] = true := by decide +kernel
set_option maxRecDepth 100000 in
theorem zk202 : z_cok zT1 (z_cnt zL1) 20000 [4] zm118 zc202 znl202 = true := z_cok_of zk202_0 (zk202_1)
set_option maxRecDepth 100000 in
def zn203_0 : zNd := (4, (z_li [(0, 0), ((-2147483648), 2147483647), ((-2147483648), 2147483647), ((-2147483648), 2147483647), ((-2147483648), 2147483647), ((-2147483648), 2147483647), ((-2147483648), 2147483647), ((-2147483648), 2147483647), ((-2147483648), 2147483647), ((-2147483648), 2147483647), (0, 99), (0, 1), (0, 4)] (false, [], [], [])), [(0, (2, 155, 0)), (1, (0, 10, 0)), (2, (0, 11, 0)), (3, (0, 12, 0))], [], [], [(11, 1, 0, 2, 0), (12, 1, 0, 3, 0)], (4, [(12, (-1))]), none)
set_option maxRecDepth 100000 in
def znl203 : List zNd := [zn203_0]
set_option maxRecDepth 100000 in
theorem zk203_0 : z_ck0 zT1 (z_cnt zL1) 20000 [4] zm123 zc203 znl203 = true := by decide +kernel
set_option maxRecDepth 100000 in
theorem zk203_1 : z_ckn zT1 (z_cnt zL1) 20000 [4] zm123 zc203 znl203 [zn203_0] = true := by decide +kernel
set_option maxRecDepth 100000 in
theorem zk203 : z_cok zT1 (z_cnt zL1) 20000 [4] zm123 zc203 znl203 = true := z_cok_of zk203_0 (zk203_1)
set_option maxRecDepth 100000 in
def zn204_0 : zNd := (5, (z_li [(0, 0), ((-2147483648), 2147483647), ((-2147483648), 2147483647), ((-2147483648), 2147483647), ((-2147483648), 2147483647), ((-2147483648), 2147483647), ((-2147483648), 2147483647), ((-2147483648), 2147483647), ((-2147483648), 2147483647), ((-2147483648), 2147483647), (0, 5), (0, 5), ((-2147483648), 2147483647), (0, 15)] (false, [], [], [])), [(0, (2, 0, 0)), (1, (0, 10, 0)), (2, (0, 11, 0)), (3, (0, 12, 0)), (4, (0, 13, 0))], [], [], [(12, 1, 0, 3, 0), (13, 1, 0, 4, 0)], (15, [(13, (-1))]), none)
set_option maxRecDepth 100000 in
def znl204 : List zNd := [zn204_0]
set_option maxRecDepth 100000 in
theorem zk204_0 : z_ck0 zT1 (z_cnt zL1) 20000 [5] zm124 zc204 znl204 = true := by decide +kernel
set_option maxRecDepth 100000 in
theorem zk204_1 : z_ckn zT1 (z_cnt zL1) 20000 [5] zm124 zc204 znl204 [zn204_0] = true := by decide +kernel
set_option maxRecDepth 100000 in
theorem zk204 : z_cok zT1 (z_cnt zL1) 20000 [5] zm124 zc204 znl204 = true := z_cok_of zk204_0 (zk204_1)
set_option maxRecDepth 100000 in
def zn205_0 : zNd := (2, (z_li [(0, 0), ((-2147483648), 2147483647), ((-2147483648), 2147483647), ((-2147483648), 2147483647), ((-2147483648), 2147483647), ((-2147483648), 2147483647), ((-2147483648), 2147483647), ((-2147483648), 2147483647), ((-2147483648), 2147483647), ((-2147483648), 2147483647), (0, 99), (0, 15)] (false, [], [], [])), [(0, (2, 0, 0)), (1, (0, 10, 0)), (2, (0, 11, 0))], [], [], [(11, 1, 0, 2, 0)], (15, [(11, (-1))]), none)
set_option maxRecDepth 100000 in
def znl205 : List zNd := [zn205_0]
set_option maxRecDepth 100000 in
theorem zk205_0 : z_ck0 zT1 (z_cnt zL1) 20000 [2] zm129 zc205 znl205 = true := by decide +kernel
set_option maxRecDepth 100000 in
theorem zk205_1 : z_ckn zT1 (z_cnt zL1) 20000 [2] zm129 zc205 znl205 [zn205_0] = true := by decide +kernel
set_option maxRecDepth 100000 in
theorem zk205 : z_cok zT1 (z_cnt zL1) 20000 [2] zm129 zc205 znl205 = true := z_cok_of zk205_0 (zk205_1)
set_option maxRecDepth 100000 in
def zn206_0 : zNd := (9, (z_li [(0, 0), ((-2147483648), 2147483647), ((-2147483648), 2147483647), ((-2147483648), 2147483647), ((-2147483648), 2147483647), ((-2147483648), 2147483647), ((-2147483648), 2147483647), ((-2147483648), 2147483647), ((-2147483648), 2147483647), ((-2147483648), 2147483647), (0, 5), (0, 15), (0, 4)] (false, [], [], [])), [(0, (2, 70, 0)), (1, (0, 10, 0)), (2, (0, 11, 0)), (3, (0, 12, 0))], [], [], [(12, 1, 0, 3, 0)], (4, [(12, (-1))]), none)
set_option maxRecDepth 100000 in
def znl206 : List zNd := [zn206_0]
set_option maxRecDepth 100000 in
theorem zk206_0 : z_ck0 zT1 (z_cnt zL1) 20000 [9] zm131 zc206 znl206 = true := by decide +kernel
set_option maxRecDepth 100000 in
theorem zk206_1 : z_ckn zT1 (z_cnt zL1) 20000 [9] zm131 zc206 znl206 [zn206_0] = true := by decide +kernel
set_option maxRecDepth 100000 in
theorem zk206 : z_cok zT1 (z_cnt zL1) 20000 [9] zm131 zc206 znl206 = true := z_cok_of zk206_0 (zk206_1)
set_option maxRecDepth 100000 in
def zn207_0 : zNd := (4, (z_li [(0, 0), ((-2147483648), 2147483647), ((-2147483648), 2147483647), ((-2147483648), 2147483647), ((-2147483648), 2147483647), ((-2147483648), 2147483647), ((-2147483648), 2147483647), ((-2147483648), 2147483647), ((-2147483648), 2147483647), ((-2147483648), 2147483647), (0, 14), (0, 2147483647), (0, 31)] (false, [], [], [])), [(0, (2, 77, 0)), (1, (0, 10, 0)), (2, (0, 11, 0)), (3, (0, 12, 0))], [], [], [(11, 1, 0, 2, 0), (12, 1, 0, 3, 0)], (31, [(12, (-1))]), none)
set_option maxRecDepth 100000 in
def znl207 : List zNd := [zn207_0]
set_option maxRecDepth 100000 in
theorem zk207_0 : z_ck0 zT1 (z_cnt zL1) 20000 [4] zm161 zc207 znl207 = true := by decide +kernel
set_option maxRecDepth 100000 in
theorem zk207_1 : z_ckn zT1 (z_cnt zL1) 20000 [4] zm161 zc207 znl207 [zn207_0] = true := by decide +kernel
set_option maxRecDepth 100000 in
theorem zk207 : z_cok zT1 (z_cnt zL1) 20000 [4] zm161 zc207 znl207 = true := z_cok_of zk207_0 (zk207_1)
set_option maxRecDepth 100000 in
def zn208_0 : zNd := (12, (z_li [(0, 0), ((-2147483648), 2147483647), ((-2147483648), 2147483647), ((-2147483648), 2147483647), ((-2147483648), 2147483647), ((-2147483648), 2147483647), ((-2147483648), 2147483647), ((-2147483648), 2147483647), ((-2147483648), 2147483647), ((-2147483648), 2147483647), ((-1), 14), (0, 15)] (false, [], [], [])), [(0, (2, 155, 0)), (1, (0, 10, 0)), (2, (0, 11, 0))], [], [], [(10, 1, 0, 1, 0), (11, 1, 0, 2, 0)], (15, [(11, (-1))]), none)
set_option maxRecDepth 100000 in
def znl208 : List zNd := [zn208_0]
set_option maxRecDepth 100000 in
theorem zk208_0 : z_ck0 zT1 (z_cnt zL1) 20000 [12] zm163 zc208 znl208 = true := by decide +kernel
set_option maxRecDepth 100000 in
theorem zk208_1 : z_ckn zT1 (z_cnt zL1) 20000 [12] zm163 zc208 znl208 [zn208_0] = true := by decide +kernel
set_option maxRecDepth 100000 in
theorem zk208 : z_cok zT1 (z_cnt zL1) 20000 [12] zm163 zc208 znl208 = true := z_cok_of zk208_0 (zk208_1)
set_option maxRecDepth 100000 in
def zn209_0 : zNd := (4, (z_li [(0, 0), ((-2147483648), 2147483647), ((-2147483648), 2147483647), ((-2147483648), 2147483647), ((-2147483648), 2147483647), ((-2147483648), 2147483647), ((-2147483648), 2147483647), ((-2147483648), 2147483647), ((-2147483648), 2147483647), ((-2147483648), 2147483647), ((-2147483648), 2147483647), (0, 6)] (false, [], [], [])), [(0, (2, 155, 0)), (1, (0, 10, 0)), (2, (0, 11, 0))], [], [], [(10, 1, 0, 1, 0), (11, 1, 0, 2, 0)], (6, [(11, (-1))]), none)
set_option maxRecDepth 100000 in
def znl209 : List zNd := [zn209_0]
set_option maxRecDepth 100000 in
theorem zk209_0 : z_ck0 zT1 (z_cnt zL1) 20000 [4] zm170 zc209 znl209 = true := by decide +kernel
set_option maxRecDepth 100000 in
theorem zk209_1 : z_ckn zT1 (z_cnt zL1) 20000 [4] zm170 zc209 znl209 [zn209_0] = true := by decide +kernel
set_option maxRecDepth 100000 in
theorem zk209 : z_cok zT1 (z_cnt zL1) 20000 [4] zm170 zc209 znl209 = true := z_cok_of zk209_0 (zk209_1)
set_option maxRecDepth 100000 in
theorem zk210 : z_cok zT1 (z_cnt zL1) 20000 [] zm230 zc210 [] = true := by decide +kernel
set_option maxRecDepth 100000 in
theorem zk211 : z_cok zT1 (z_cnt zL1) 20000 [] zm232 zc211 [] = true := by decide +kernel
set_option maxRecDepth 100000 in
theorem zk212 : z_cok zT1 (z_cnt zL1) 20000 [] zm236 zc212 [] = true := by decide +kernel
set_option maxRecDepth 100000 in
theorem zk213 : z_cok zT1 (z_cnt zL1) 20000 [] zm242 zc213 [] = true := by decide +kernel
set_option maxRecDepth 100000 in
def zn214_0 : zNd := (19, (z_li [(0, 0), ((-2147483648), 2147483647), ((-2147483648), 2147483647), ((-2147483648), 2147483647), ((-2147483648), 2147483647), ((-2147483648), 2147483647), ((-2147483648), 2147483647), ((-2147483648), 2147483647), ((-2147483648), 2147483647), ((-2147483648), 2147483647), ((-1), 5), ((-2147483648), 2147483647), (0, 6)] (false, [], [], [])), [(0, (2, 0, 0)), (1, (0, 10, 0)), (2, (0, 11, 0)), (3, (0, 12, 0))], [], [], [(10, 1, 0, 1, 0), (11, 1, 0, 2, 0), (12, 1, 0, 3, 0)], (6, [(12, (-1))]), none)
set_option maxRecDepth 100000 in
def znl214 : List zNd := [zn214_0]
set_option maxRecDepth 100000 in
theorem zk214_0 : z_ck0 zT1 (z_cnt zL1) 20000 [19] zm244 zc214 znl214 = true := by decide +kernel
set_option maxRecDepth 100000 in
theorem zk214_1 : z_ckn zT1 (z_cnt zL1) 20000 [19] zm244 zc214 znl214 [zn214_0] = true := by decide +kernel
set_option maxRecDepth 100000 in
theorem zk214 : z_cok zT1 (z_cnt zL1) 20000 [19] zm244 zc214 znl214 = true := z_cok_of zk214_0 (zk214_1)
set_option maxRecDepth 100000 in
theorem zk215 : z_cok zT1 (z_cnt zL1) 20000 [] zm246 zc215 [] = true := by decide +kernel
set_option maxRecDepth 100000 in
theorem zk216 : z_cok zT1 (z_cnt zL1) 20000 [] zm248 zc216 [] = true := by decide +kernel
set_option maxRecDepth 100000 in
def zn217_0 : zNd := (15, (z_li [(0, 0), ((-2147483648), 2147483647), ((-2147483648), 2147483647), ((-2147483648), 2147483647), ((-2147483648), 2147483647), ((-2147483648), 2147483647), ((-2147483648), 2147483647), ((-2147483648), 2147483647), ((-2147483648), 2147483647), ((-2147483648), 2147483647), (0, 14), (0, 63), (0, 6)] (false, [], [], [])), [(0, (2, 0, 0)), (1, (0, 10, 0)), (2, (0, 11, 0)), (3, (0, 12, 0))], [], [], [(11, 1, 0, 2, 0), (12, 1, 0, 3, 0)], (6, [(12, (-1))]), none)
set_option maxRecDepth 100000 in
def znl217 : List zNd := [zn217_0]
set_option maxRecDepth 100000 in
theorem zk217_0 : z_ck0 zT1 (z_cnt zL1) 20000 [15] zm252 zc217 znl217 = true := by decide +kernel
set_option maxRecDepth 100000 in
theorem zk217_1 : z_ckn zT1 (z_cnt zL1) 20000 [15] zm252 zc217 znl217 [zn217_0] = true := by decide +kernel
set_option maxRecDepth 100000 in
theorem zk217 : z_cok zT1 (z_cnt zL1) 20000 [15] zm252 zc217 znl217 = true := z_cok_of zk217_0 (zk217_1)
set_option maxRecDepth 100000 in
def zn218_0 : zNd := (13, (z_li [(0, 0), ((-2147483648), 2147483647), ((-2147483648), 2147483647), ((-2147483648), 2147483647), ((-2147483648), 2147483647), ((-2147483648), 2147483647), ((-2147483648), 2147483647), ((-2147483648), 2147483647), ((-2147483648), 2147483647), ((-2147483648), 2147483647), (0, 5), (0, 15)] (false, [], [], [])), [(0, (2, 0, 0)), (1, (0, 10, 0)), (2, (0, 11, 0))], [], [], [(11, 1, 0, 2, 0)], (15, [(11, (-1))]), none)
set_option maxRecDepth 100000 in
def znl218 : List zNd := [zn218_0]
set_option maxRecDepth 100000 in
theorem zk218_0 : z_ck0 zT1 (z_cnt zL1) 20000 [13] zm256 zc218 znl218 = true := by decide +kernel
set_option maxRecDepth 100000 in
theorem zk218_1 : z_ckn zT1 (z_cnt zL1) 20000 [13] zm256 zc218 znl218 [zn218_0] = true := by decide +kernel
set_option maxRecDepth 100000 in
theorem zk218 : z_cok zT1 (z_cnt zL1) 20000 [13] zm256 zc218 znl218 = true := z_cok_of zk218_0 (zk218_1)
