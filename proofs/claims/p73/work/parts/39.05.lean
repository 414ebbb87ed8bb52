set_option maxRecDepth 100000 in
theorem zk172 : z_cok zT1 (z_cnt zL1) 20000 [] zm48 zc172 [] = true := by decide +kernel
set_option maxRecDepth 100000 in
theorem zk173 : z_cok zT1 (z_cnt zL1) 20000 [] zm48 zc173 [] = true := by decide +kernel
set_option maxRecDepth 100000 in
theorem zk174 : z_cok zT1 (z_cnt zL1) 20000 [] zm48 zc174 [] = true := by decide +kernel
set_option maxRecDepth 100000 in
theorem zk175 : z_cok zT1 (z_cnt zL1) 20000 [] zm48 zc175 [] = true := by decide +kernel
set_option maxRecDepth 100000 in
theorem zk176 : z_cok zT1 (z_cnt zL1) 20000 [] zm48 zc176 [] = true := by decide +kernel
set_option maxRecDepth 100000 in
theorem zk177 : z_cok zT1 (z_cnt zL1) 20000 [] zm48 zc177 [] = true := by decide +kernel
set_option maxRecDepth 100000 in
theorem zk178 : z_cok zT1 (z_cnt zL1) 20000 [] zm48 zc178 [] = true := by decide +kernel
set_option maxRecDepth 100000 in
theorem zk179 : z_cok zT1 (z_cnt zL1) 20000 [] zm48 zc179 [] = true := by decide +kernel
set_option maxRecDepth 100000 in
theorem zk180 : z_cok zT1 (z_cnt zL1) 20000 [] zm52 zc180 [] = true := by decide +kernel
set_option maxRecDepth 100000 in
theorem zk181 : z_cok zT1 (z_cnt zL1) 20000 [] zm52 zc181 [] = true := by decide +kernel
set_option maxRecDepth 100000 in
theorem zk182 : z_cok zT1 (z_cnt zL1) 20000 [] zm52 zc182 [] = true := by decide +kernel
set_option maxRecDepth 100000 in
theorem zk183 : z_cok zT1 (z_cnt zL1) 20000 [] zm52 zc183 [] = true := by decide +kernel
set_option maxRecDepth 100000 in
theorem zk184 : z_cok zT1 (z_cnt zL1) 20000 [] zm52 zc184 [] = true := by decide +kernel
set_option maxRecDepth 100000 in
theorem zk185 : z_cok zT1 (z_cnt zL1) 20000 [] zm52 zc185 [] = true := by decide +kernel
set_option maxRecDepth 100000 in
theorem zk186 : z_cok zT1 (z_cnt zL1) 20000 [] zm52 zc186 [] = true := by decide +kernel
set_option maxRecDepth 100000 in
theorem zk187 : z_cok zT1 (z_cnt zL1) 20000 [] zm53 zc187 [] = true := by decide +kernel
set_option maxRecDepth 100000 in
theorem zk188 : z_cok zT1 (z_cnt zL1) 20000 [] zm53 zc188 [] = true := by decide +kernel
set_option maxRecDepth 100000 in
theorem zk189 : z_cok zT1 (z_cnt zL1) 20000 [] zm53 zc189 [] = true := by decide +kernel
set_option maxRecDepth 100000 in
theorem zk190 : z_cok zT1 (z_cnt zL1) 20000 [] zm53 zc190 [] = true := by decide +kernel
set_option maxRecDepth 100000 in
theorem zk191 : z_cok zT1 (z_cnt zL1) 20000 [] zm53 zc191 [] = true := by decide +kernel
set_option maxRecDepth 100000 in
theorem zk192 : z_cok zT1 (z_cnt zL1) 20000 [] zm53 zc192 [] = true := by decide +kernel
set_option maxRecDepth 100000 in
theorem zk193 : z_cok zT1 (z_cnt zL1) 20000 [] zm53 zc193 [] = true := by decide +kernel
set_option maxRecDepth 100000 in
theorem zk194 : z_cok zT1 (z_cnt zL1) 20000 [] zm53 zc194 [] = true := by decide +kernel
set_option maxRecDepth 100000 in
theorem zk195 : z_cok zT1 (z_cnt zL1) 20000 [] zm53 zc195 [] = true := by decide +kernel
set_option maxRecDepth 100000 in
theorem zk196 : z_cok zT1 (z_cnt zL1) 20000 [] zm53 zc196 [] = true := by decide +kernel
set_option maxRecDepth 100000 in
theorem zk197 : z_cok zT1 (z_cnt zL1) 20000 [] zm56 zc197 [] = true := by decide +kernel
set_option maxRecDepth 100000 in
def zn198_0 : zNd := (32, (z_li [(.ofNat 0, .ofNat 0), (.negSucc 2147483647, .ofNat 2147483647), (.negSucc 2147483647, .ofNat 2147483647), (.negSucc 2147483647, .ofNat 2147483647), (.negSucc 2147483647, .ofNat 2147483647), (.negSucc 2147483647, .ofNat 2147483647), (.negSucc 2147483647, .ofNat 2147483647), (.negSucc 2147483647, .ofNat 2147483647), (.negSucc 2147483647, .ofNat 2147483647), (.negSucc 2147483647, .ofNat 2147483647), (.ofNat 0, .ofNat 512000000000), (.ofNat 0, .ofNat 6)] (false, [], [], [])), [(0, (2, 155, .ofNat 0)), (1, (0, 11, .ofNat 0))], [], [(155, 18, 1, (0, 0, .ofNat 511)), (155, 19, 1, (0, 0, .negSucc 0)), (155, 32, 1, (1, 10, .ofNat 0))], [(11, 1, 0, 1, 0)], (.ofNat 6, [(11, .negSucc 0)]), none)
def zg198_1 : List zNd := [zn198_0]
def znl198 : List zNd := zg198_1
set_option maxRecDepth 100000 in
theorem zk198_0 : z_ck0 zT1 (z_cnt zL1) 20000 [32] zm76 zc198 znl198 = true := by decide +kernel
set_option maxRecDepth 100000 in
theorem zk198_1 : z_ckn zT1 (z_cnt zL1) 20000 [32] zm76 zc198 znl198 zg198_1 = true := by decide +kernel
theorem zk198 : z_cok zT1 (z_cnt zL1) 20000 [32] zm76 zc198 znl198 = true := z_cok_of zk198_0 (zk198_1)
set_option maxRecDepth 100000 in
theorem zk199 : z_cok zT1 (z_cnt zL1) 20000 [] zm85 zc199 [] = true := by decide +kernel
set_option maxRecDepth 100000 in
def zn200_0 : zNd := (5, (z_li [(.ofNat 0, .ofNat 0), (.negSucc 2147483647, .ofNat 2147483647), (.negSucc 2147483647, .ofNat 2147483647), (.negSucc 2147483647, .ofNat 2147483647), (.negSucc 2147483647, .ofNat 2147483647), (.negSucc 2147483647, .ofNat 2147483647), (.negSucc 2147483647, .ofNat 2147483647), (.negSucc 2147483647, .ofNat 2147483647), (.negSucc 2147483647, .ofNat 2147483647), (.negSucc 2147483647, .ofNat 2147483647), (.ofNat 0, .ofNat 5), (.ofNat 0, .ofNat 14), (.ofNat 0, .ofNat 63), (.ofNat 0, .ofNat 6)] (false, [], [], [])), [(0, (2, 0, .ofNat 0)), (1, (0, 10, .ofNat 0)), (2, (0, 11, .ofNat 0)), (3, (0, 12, .ofNat 0)), (4, (0, 13, .ofNat 0))], [], [], [(12, 1, 0, 3, 0), (13, 1, 0, 4, 0)], (.ofNat 6, [(13, .negSucc 0)]), none)
def zg200_1 : List zNd := [zn200_0]
def znl200 : List zNd := zg200_1
set_option maxRecDepth 100000 in
theorem zk200_0 : z_ck0 zT1 (z_cnt zL1) 20000 [5] zm113 zc200 znl200 = true := by decide +kernel
set_option maxRecDepth 100000 in
theorem zk200_1 : z_ckn zT1 (z_cnt zL1) 20000 [5] zm113 zc200 znl200 zg200_1 = true := by decide +kernel
theorem zk200 : z_cok zT1 (z_cnt zL1) 20000 [5] zm113 zc200 znl200 = true := z_cok_of zk200_0 (zk200_1)
set_option maxRecDepth 100000 in
def zn201_0 : zNd := (5, (z_li [(.ofNat 0, .ofNat 0), (.negSucc 2147483647, .ofNat 2147483647), (.negSucc 2147483647, .ofNat 2147483647), (.negSucc 2147483647, .ofNat 2147483647), (.negSucc 2147483647, .ofNat 2147483647), (.negSucc 2147483647, .ofNat 2147483647), (.negSucc 2147483647, .ofNat 2147483647), (.negSucc 2147483647, .ofNat 2147483647), (.negSucc 2147483647, .ofNat 2147483647), (.negSucc 2147483647, .ofNat 2147483647), (.ofNat 0, .ofNat 5), (.ofNat 0, .ofNat 14), (.ofNat 0, .ofNat 63), (.ofNat 0, .ofNat 6)] (false, [], [], [])), [(0, (2, 155, .ofNat 0)), (1, (0, 10, .ofNat 0)), (2, (0, 11, .ofNat 0)), (3, (0, 12, .ofNat 0)), (4, (0, 13, .ofNat 0))], [], [], [(12, 1, 0, 3, 0), (13, 1, 0, 4, 0)], (.ofNat 6, [(13, .negSucc 0)]), none)
def zg201_1 : List zNd := [zn201_0]
def znl201 : List zNd := zg201_1
set_option maxRecDepth 100000 in
theorem zk201_0 : z_ck0 zT1 (z_cnt zL1) 20000 [5] zm114 zc201 znl201 = true := by decide +kernel
set_option maxRecDepth 100000 in
theorem zk201_1 : z_ckn zT1 (z_cnt zL1) 20000 [5] zm114 zc201 znl201 zg201_1 = true := by decide +kernel
theorem zk201 : z_cok zT1 (z_cnt zL1) 20000 [5] zm114 zc201 znl201 = true := z_cok_of zk201_0 (zk201_1)
set_option maxRecDepth 100000 in
def zn202_0 : zNd := (4, (z_li [(.ofNat 0, .ofNat 0), (.negSucc 2147483647, .ofNat 2147483647), (.negSucc 2147483647, .ofNat 2147483647), (.negSucc 2147483647, .ofNat 2147483647), (.negSucc 2147483647, .ofNat 2147483647), (.negSucc 2147483647, .ofNat 2147483647), (.negSucc 2147483647, .ofNat 2147483647), (.negSucc 2147483647, .ofNat 2147483647), (.negSucc 2147483647, .ofNat 2147483647), (.negSucc 2147483647, .ofNat 2147483647), (.ofNat 0, .ofNat 14), (.ofNat 0, .ofNat 63), (.ofNat 0, .ofNat 6)] (false, [], [], [])), [(0, (2, 155, .ofNat 0)), (1, (0, 10, .ofNat 0)), (2, (0, 11, .ofNat 0)), (3, (0, 12, .ofNat 0))], [], [], [(11, 1, 0, 2, 0), (12, 1, 0, 3, 0)], (.ofNat 6, [(12, .negSucc 0)]), none)
def zg202_1 : List zNd := [zn202_0]
def znl202 : List zNd := zg202_1
set_option maxRecDepth 100000 in
theorem zk202_0 : z_ck0 zT1 (z_cnt zL1) 20000 [4] zm116 zc202 znl202 = true := by decide +kernel
set_option maxRecDepth 100000 in
theorem zk202_1 : z_ckn zT1 (z_cnt zL1) 20000 [4] zm116 zc202 znl202 zg202_1 = true := by decide +kernel
theorem zk202 : z_cok zT1 (z_cnt zL1) 20000 [4] zm116 zc202 znl202 = true := z_cok_of zk202_0 (zk202_1)
set_option maxRecDepth 100000 in
def zn203_0 : zNd := (4, (z_li [(.ofNat 0, .ofNat 0), (.negSucc 2147483647, .ofNat 2147483647), (.negSucc 2147483647, .ofNat 2147483647), (.negSucc 2147483647, .ofNat 2147483647), (.negSucc 2147483647, .ofNat 2147483647), (.negSucc 2147483647, .ofNat 2147483647), (.negSucc 2147483647, .ofNat 2147483647), (.negSucc 2147483647, .ofNat 2147483647), (.negSucc 2147483647, .ofNat 2147483647), (.negSucc 2147483647, .ofNat 2147483647), (.ofNat 0, .ofNat 99), (.ofNat 0, .ofNat 1), (.ofNat 0, .ofNat 4)] (false, [], [], [])), [(0, (2, 155, .ofNat 0)), (1, (0, 10, .ofNat 0)), (2, (0, 11, .ofNat 0)), (3, (0, 12, .ofNat 0))], [], [], [(11, 1, 0, 2, 0), (12, 1, 0, 3, 0)], (.ofNat 4, [(12, .negSucc 0)]), none)
def zg203_1 : List zNd := [zn203_0]
def znl203 : List zNd := zg203_1
set_option maxRecDepth 100000 in
theorem zk203_0 : z_ck0 zT1 (z_cnt zL1) 20000 [4] zm120 zc203 znl203 = true := by decide +kernel
set_option maxRecDepth 100000 in
theorem zk203_1 : z_ckn zT1 (z_cnt zL1) 20000 [4] zm120 zc203 znl203 zg203_1 = true := by decide +kernel
theorem zk203 : z_cok zT1 (z_cnt zL1) 20000 [4] zm120 zc203 znl203 = true := z_cok_of zk203_0 (zk203_1)
set_option maxRecDepth 100000 in
def zn204_0 : zNd := (5, (z_li [(.ofNat 0, .ofNat 0), (.negSucc 2147483647, .ofNat 2147483647), (.negSucc 2147483647, .ofNat 2147483647), (.negSucc 2147483647, .ofNat 2147483647), (.negSucc 2147483647, .ofNat 2147483647), (.negSucc 2147483647, .ofNat 2147483647), (.negSucc 2147483647, .ofNat 2147483647), (.negSucc 2147483647, .ofNat 2147483647), (.negSucc 2147483647, .ofNat 2147483647), (.negSucc 2147483647, .ofNat 2147483647), (.ofNat 0, .ofNat 5), (.ofNat 0, .ofNat 5), (.negSucc 2147483647, .ofNat 2147483647), (.ofNat 0, .ofNat 15)] (false, [], [], [])), [(0, (2, 0, .ofNat 0)), (1, (0, 10, .ofNat 0)), (2, (0, 11, .ofNat 0)), (3, (0, 12, .ofNat 0)), (4, (0, 13, .ofNat 0))], [], [], [(12, 1, 0, 3, 0), (13, 1, 0, 4, 0)], (.ofNat 15, [(13, .negSucc 0)]), none)
def zg204_1 : List zNd := [zn204_0]
def znl204 : List zNd := zg204_1
set_option maxRecDepth 100000 in
theorem zk204_0 : z_ck0 zT1 (z_cnt zL1) 20000 [5] zm121 zc204 znl204 = true := by decide +kernel
set_option maxRecDepth 100000 in
theorem zk204_1 : z_ckn zT1 (z_cnt zL1) 20000 [5] zm121 zc204 znl204 zg204_1 = true := by decide +kernel
theorem zk204 : z_cok zT1 (z_cnt zL1) 20000 [5] zm121 zc204 znl204 = true := z_cok_of zk204_0 (zk204_1)
set_option maxRecDepth 100000 in
def zn205_0 : zNd := (2, (z_li [(.ofNat 0, .ofNat 0), (.negSucc 2147483647, .ofNat 2147483647), (.negSucc 2147483647, .ofNat 2147483647), (.negSucc 2147483647, .ofNat 2147483647), (.negSucc 2147483647, .ofNat 2147483647), (.negSucc 2147483647, .ofNat 2147483647), (.negSucc 2147483647, .ofNat 2147483647), (.negSucc 2147483647, .ofNat 2147483647), (.negSucc 2147483647, .ofNat 2147483647), (.negSucc 2147483647, .ofNat 2147483647), (.ofNat 0, .ofNat 99), (.ofNat 0, .ofNat 15)] (false, [], [], [])), [(0, (2, 0, .ofNat 0)), (1, (0, 10, .ofNat 0)), (2, (0, 11, .ofNat 0))], [], [], [(11, 1, 0, 2, 0)], (.ofNat 15, [(11, .negSucc 0)]), none)
def zg205_1 : List zNd := [zn205_0]
def znl205 : List zNd := zg205_1
set_option maxRecDepth 100000 in
theorem zk205_0 : z_ck0 zT1 (z_cnt zL1) 20000 [2] zm126 zc205 znl205 = true := by decide +kernel
set_option maxRecDepth 100000 in
theorem zk205_1 : z_ckn zT1 (z_cnt zL1) 20000 [2] zm126 zc205 znl205 zg205_1 = true := by decide +kernel
theorem zk205 : z_cok zT1 (z_cnt zL1) 20000 [2] zm126 zc205 znl205 = true := z_cok_of zk205_0 (zk205_1)
set_option maxRecDepth 100000 in
def zn206_0 : zNd := (9, (z_li [(.ofNat 0, .ofNat 0), (.negSucc 2147483647, .ofNat 2147483647), (.negSucc 2147483647, .ofNat 2147483647), (.negSucc 2147483647, .ofNat 2147483647), (.negSucc 2147483647, .ofNat 2147483647), (.negSucc 2147483647, .ofNat 2147483647), (.negSucc 2147483647, .ofNat 2147483647), (.negSucc 2147483647, .ofNat 2147483647), (.negSucc 2147483647, .ofNat 2147483647), (.negSucc 2147483647, .ofNat 2147483647), (.ofNat 0, .ofNat 5), (.ofNat 0, .ofNat 15), (.ofNat 0, .ofNat 4)] (false, [], [], [])), [(0, (2, 70, .ofNat 0)), (1, (0, 10, .ofNat 0)), (2, (0, 11, .ofNat 0)), (3, (0, 12, .ofNat 0))], [], [], [(12, 1, 0, 3, 0)], (.ofNat 4, [(12, .negSucc 0)]), none)
def zg206_1 : List zNd := [zn206_0]
def znl206 : List zNd := zg206_1
set_option maxRecDepth 100000 in
theorem zk206_0 : z_ck0 zT1 (z_cnt zL1) 20000 [9] zm128 zc206 znl206 = true := by decide +kernel
set_option maxRecDepth 100000 in
theorem zk206_1 : z_ckn zT1 (z_cnt zL1) 20000 [9] zm128 zc206 znl206 zg206_1 = true := by decide +kernel
theorem zk206 : z_cok zT1 (z_cnt zL1) 20000 [9] zm128 zc206 znl206 = true := z_cok_of zk206_0 (zk206_1)
