set_option maxRecDepth 100000 in
theorem zk141 : z_cok zT1 (z_cnt zL1) 20000 [] zm10 zc141 [] = true := by decide +kernel
set_option maxRecDepth 100000 in
theorem zk142 : z_cok zT1 (z_cnt zL1) 20000 [] zm20 zc142 [] = true := by decide +kernel
set_option maxRecDepth 100000 in
theorem zk143 : z_cok zT1 (z_cnt zL1) 20000 [] zm20 zc143 [] = true := by decide +kernel
set_option maxRecDepth 100000 in
theorem zk144 : z_cok zT1 (z_cnt zL1) 20000 [] zm20 zc144 [] = true := by decide +kernel
set_option maxRecDepth 100000 in
theorem zk145 : z_cok zT1 (z_cnt zL1) 20000 [] zm20 zc145 [] = true := by decide +kernel
set_option maxRecDepth 100000 in
theorem zk146 : z_cok zT1 (z_cnt zL1) 20000 [] zm20 zc146 [] = true := by decide +kernel
set_option maxRecDepth 100000 in
theorem zk147 : z_cok zT1 (z_cnt zL1) 20000 [] zm20 zc147 [] = true := by decide +kernel
set_option maxRecDepth 100000 in
theorem zk148 : z_cok zT1 (z_cnt zL1) 20000 [] zm20 zc148 [] = true := by decide +kernel
set_option maxRecDepth 100000 in
theorem zk149 : z_cok zT1 (z_cnt zL1) 20000 [] zm20 zc149 [] = true := by decide +kernel
set_option maxRecDepth 100000 in
theorem zk150 : z_cok zT1 (z_cnt zL1) 20000 [] zm20 zc150 [] = true := by decide +kernel
set_option maxRecDepth 100000 in
theorem zk151 : z_cok zT1 (z_cnt zL1) 20000 [] zm20 zc151 [] = true := by decide +kernel
set_option maxRecDepth 100000 in
theorem zk152 : z_cok zT1 (z_cnt zL1) 20000 [] zm20 zc152 [] = true := by decide +kernel
set_option maxRecDepth 100000 in
theorem zk153 : z_cok zT1 (z_cnt zL1) 20000 [] zm20 zc153 [] = true := by decide +kernel
set_option maxRecDepth 100000 in
theorem zk154 : z_cok zT1 (z_cnt zL1) 20000 [] zm20 zc154 [] = true := by decide +kernel
set_option maxRecDepth 100000 in
theorem zk155 : z_cok zT1 (z_cnt zL1) 20000 [] zm20 zc155 [] = true := by decide +kernel
set_option maxRecDepth 100000 in
theorem zk156 : z_cok zT1 (z_cnt zL1) 20000 [] zm20 zc156 [] = true := by decide +kernel
set_option maxRecDepth 100000 in
theorem zk157 : z_cok zT1 (z_cnt zL1) 20000 [] zm20 zc157 [] = true := by decide +kernel
set_option maxRecDepth 100000 in
theorem zk158 : z_cok zT1 (z_cnt zL1) 20000 [] zm20 zc158 [] = true := by decide +kernel
set_option maxRecDepth 100000 in
theorem zk159 : z_cok zT1 (z_cnt zL1) 20000 [] zm20 zc159 [] = true := by decide +kernel
set_option maxRecDepth 100000 in
theorem zk160 : z_cok zT1 (z_cnt zL1) 20000 [] zm21 zc160 [] = true := by decide +kernel
set_option maxRecDepth 100000 in
theorem zk161 : z_cok zT1 (z_cnt zL1) 20000 [] zm21 zc161 [] = true := by decide +kernel
set_option maxRecDepth 100000 in
theorem zk162 : z_cok zT1 (z_cnt zL1) 20000 [] zm21 zc162 [] = true := by decide +kernel
set_option maxRecDepth 100000 in
def zn164_0 : zNd := (12, (z_li [(.ofNat 0, .ofNat 0), (.negSucc 2147483647, .ofNat 2147483647), (.negSucc 2147483647, .ofNat 2147483647), (.negSucc 2147483647, .ofNat 2147483647), (.negSucc 2147483647, .ofNat 2147483647), (.negSucc 2147483647, .ofNat 2147483647), (.negSucc 2147483647, .ofNat 2147483647), (.negSucc 2147483647, .ofNat 2147483647), (.negSucc 2147483647, .ofNat 2147483647), (.negSucc 2147483647, .ofNat 2147483647), (.ofNat 0, .ofNat 13), (.negSucc 2147483647, .ofNat 2147483647), (.ofNat 0, .ofNat 39)] (false, [], [], [])), [(0, (2, 44, .ofNat 0)), (1, (0, 10, .ofNat 0)), (2, (0, 11, .ofNat 0)), (3, (0, 12, .ofNat 0))], [], [], [(11, 1, 0, 2, 0), (12, 1, 0, 3, 0)], (.ofNat 70, [(12, .negSucc 0)]), none)
set_option maxRecDepth 100000 in
def zn164_1 : zNd := (186, (z_li [(.ofNat 0, .ofNat 0), (.negSucc 2147483647, .ofNat 2147483647), (.negSucc 2147483647, .ofNat 2147483647), (.negSucc 2147483647, .ofNat 2147483647), (.negSucc 2147483647, .ofNat 2147483647), (.negSucc 2147483647, .ofNat 2147483647), (.negSucc 2147483647, .ofNat 2147483647), (.negSucc 2147483647, .ofNat 2147483647), (.negSucc 2147483647, .ofNat 2147483647), (.negSucc 2147483647, .ofNat 2147483647), (.ofNat 0, .ofNat 13), (.negSucc 2147483647, .ofNat 2147483647), (.ofNat 0, .ofNat 30)] (false, [], [], [])), [(0, (2, 44, .ofNat 0)), (1, (0, 10, .ofNat 0)), (2, (0, 11, .ofNat 0)), (3, (0, 12, .ofNat 0))], [], [], [(11, 1, 0, 2, 0), (12, 1, 0, 3, 0)], (.ofNat 30, [(12, .negSucc 0)]), none)
def zg164_1 : List zNd := [zn164_0, zn164_1]
def znl164 : List zNd := zg164_1
set_option maxRecDepth 100000 in
theorem zk164_0 : z_ck0 zT1 (z_cnt zL1) 20000 [12, 186] zm35 zc164 znl164 = true := by decide +kernel
set_option maxRecDepth 100000 in
theorem zk164_1 : z_ckn zT1 (z_cnt zL1) 20000 [12, 186] zm35 zc164 znl164 zg164_1 = true := by decide +kernel
theorem zk164 : z_cok zT1 (z_cnt zL1) 20000 [12, 186] zm35 zc164 znl164 = true := z_cok_of zk164_0 (zk164_1)
set_option maxRecDepth 100000 in
def zn165_0 : zNd := (12, (z_li [(.ofNat 0, .ofNat 0), (.negSucc 2147483647, .ofNat 2147483647), (.negSucc 2147483647, .ofNat 2147483647), (.negSucc 2147483647, .ofNat 2147483647), (.negSucc 2147483647, .ofNat 2147483647), (.negSucc 2147483647, .ofNat 2147483647), (.negSucc 2147483647, .ofNat 2147483647), (.negSucc 2147483647, .ofNat 2147483647), (.negSucc 2147483647, .ofNat 2147483647), (.negSucc 2147483647, .ofNat 2147483647), (.ofNat 0, .ofNat 13), (.negSucc 2147483647, .ofNat 2147483647), (.ofNat 0, .ofNat 39)] (false, [], [], [])), [(0, (2, 47, .ofNat 0)), (1, (0, 10, .ofNat 0)), (2, (0, 11, .ofNat 0)), (3, (0, 12, .ofNat 0))], [], [], [(11, 1, 0, 2, 0), (12, 1, 0, 3, 0)], (.ofNat 70, [(12, .negSucc 0)]), none)
set_option maxRecDepth 100000 in
def zn165_1 : zNd := (186, (z_li [(.ofNat 0, .ofNat 0), (.negSucc 2147483647, .ofNat 2147483647), (.negSucc 2147483647, .ofNat 2147483647), (.negSucc 2147483647, .ofNat 2147483647), (.negSucc 2147483647, .ofNat 2147483647), (.negSucc 2147483647, .ofNat 2147483647), (.negSucc 2147483647, .ofNat 2147483647), (.negSucc 2147483647, .ofNat 2147483647), (.negSucc 2147483647, .ofNat 2147483647), (.negSucc 2147483647, .ofNat 2147483647), (.ofNat 0, .ofNat 13), (.negSucc 2147483647, .ofNat 2147483647), (.ofNat 0, .ofNat 30)] (false, [], [], [])), [(0, (2, 47, .ofNat 0)), (1, (0, 10, .ofNat 0)), (2, (0, 11, .ofNat 0)), (3, (0, 12, .ofNat 0))], [], [], [(11, 1, 0, 2, 0), (12, 1, 0, 3, 0)], (.ofNat 30, [(12, .negSucc 0)]), none)
def zg165_1 : List zNd := [zn165_0, zn165_1]
def znl165 : List zNd := zg165_1
set_option maxRecDepth 100000 in
theorem zk165_0 : z_ck0 zT1 (z_cnt zL1) 20000 [12, 186] zm35 zc165 znl165 = true := by decide +kernel
set_option maxRecDepth 100000 in
theorem zk165_1 : z_ckn zT1 (z_cnt zL1) 20000 [12, 186] zm35 zc165 znl165 zg165_1 = true := by decide +kernel
theorem zk165 : z_cok zT1 (z_cnt zL1) 20000 [12, 186] zm35 zc165 znl165 = true := z_cok_of zk165_0 (zk165_1)
set_option maxRecDepth 100000 in
def zn166_0 : zNd := (12, (z_li [(.ofNat 0, .ofNat 0), (.negSucc 2147483647, .ofNat 2147483647), (.negSucc 2147483647, .ofNat 2147483647), (.negSucc 2147483647, .ofNat 2147483647), (.negSucc 2147483647, .ofNat 2147483647), (.negSucc 2147483647, .ofNat 2147483647), (.negSucc 2147483647, .ofNat 2147483647), (.negSucc 2147483647, .ofNat 2147483647), (.negSucc 2147483647, .ofNat 2147483647), (.negSucc 2147483647, .ofNat 2147483647), (.ofNat 0, .ofNat 13), (.negSucc 2147483647, .ofNat 2147483647), (.ofNat 0, .ofNat 39)] (false, [], [], [])), [(0, (2, 50, .ofNat 0)), (1, (0, 10, .ofNat 0)), (2, (0, 11, .ofNat 0)), (3, (0, 12, .ofNat 0))], [], [], [(11, 1, 0, 2, 0), (12, 1, 0, 3, 0)], (.ofNat 70, [(12, .negSucc 0)]), none)
set_option maxRecDepth 100000 in
def zn166_1 : zNd := (186, (z_li [(.ofNat 0, .ofNat 0), (.negSucc 2147483647, .ofNat 2147483647), (.negSucc 2147483647, .ofNat 2147483647), (.negSucc 2147483647, .ofNat 2147483647), (.negSucc 2147483647, .ofNat 2147483647), (.negSucc 2147483647, .ofNat 2147483647), (.negSucc 2147483647, .ofNat 2147483647), (.negSucc 2147483647, .ofNat 2147483647), (.negSucc 2147483647, .ofNat 2147483647), (.negSucc 2147483647, .ofNat 2147483647), (.ofNat 0, .ofNat 13), (.negSucc 2147483647, .ofNat 2147483647), (.ofNat 0, .ofNat 30)] (false, [], [], [])), [(0, (2, 50, .ofNat 0)), (1, (0, 10, .ofNat 0)), (2, (0, 11, .ofNat 0)), (3, (0, 12, .ofNat 0))], [], [], [(11, 1, 0, 2, 0), (12, 1, 0, 3, 0)], (.ofNat 30, [(12, .negSucc 0)]), none)
def zg166_1 : List zNd := [zn166_0, zn166_1]
def znl166 : List zNd := zg166_1
set_option maxRecDepth 100000 in
theorem zk166_0 : z_ck0 zT1 (z_cnt zL1) 20000 [12, 186] zm35 zc166 znl166 = true := by decide +kernel
set_option maxRecDepth 100000 in
theorem zk166_1 : z_ckn zT1 (z_cnt zL1) 20000 [12, 186] zm35 zc166 znl166 zg166_1 = true := by decide +kernel
theorem zk166 : z_cok zT1 (z_cnt zL1) 20000 [12, 186] zm35 zc166 znl166 = true := z_cok_of zk166_0 (zk166_1)
set_option maxRecDepth 100000 in
def zn167_0 : zNd := (12, (z_li [(.ofNat 0, .ofNat 0), (.negSucc 2147483647, .ofNat 2147483647), (.negSucc 2147483647, .ofNat 2147483647), (.negSucc 2147483647, .ofNat 2147483647), (.negSucc 2147483647, .ofNat 2147483647), (.negSucc 2147483647, .ofNat 2147483647), (.negSucc 2147483647, .ofNat 2147483647), (.negSucc 2147483647, .ofNat 2147483647), (.negSucc 2147483647, .ofNat 2147483647), (.negSucc 2147483647, .ofNat 2147483647), (.ofNat 0, .ofNat 13), (.negSucc 2147483647, .ofNat 2147483647), (.ofNat 0, .ofNat 39)] (false, [], [], [])), [(0, (2, 53, .ofNat 0)), (1, (0, 10, .ofNat 0)), (2, (0, 11, .ofNat 0)), (3, (0, 12, .ofNat 0))], [], [], [(11, 1, 0, 2, 0), (12, 1, 0, 3, 0)], (.ofNat 70, [(12, .negSucc 0)]), none)
set_option maxRecDepth 100000 in
def zn167_1 : zNd := (186, (z_li [(.ofNat 0, .ofNat 0), (.negSucc 2147483647, .ofNat 2147483647), (.negSucc 2147483647, .ofNat 2147483647), (.negSucc 2147483647, .ofNat 2147483647), (.negSucc 2147483647, .ofNat 2147483647), (.negSucc 2147483647, .ofNat 2147483647), (.negSucc 2147483647, .ofNat 2147483647), (.negSucc 2147483647, .ofNat 2147483647), (.negSucc 2147483647, .ofNat 2147483647), (.negSucc 2147483647, .ofNat 2147483647), (.ofNat 0, .ofNat 13), (.negSucc 2147483647, .ofNat 2147483647), (.ofNat 0, .ofNat 30)] (false, [], [], [])), [(0, (2, 53, .ofNat 0)), (1, (0, 10, .ofNat 0)), (2, (0, 11, .ofNat 0)), (3, (0, 12, .ofNat 0))], [], [], [(11, 1, 0, 2, 0), (12, 1, 0, 3, 0)], (.ofNat 30, [(12, .negSucc 0)]), none)
def zg167_1 : List zNd := [zn167_0, zn167_1]
def znl167 : List zNd := zg167_1
set_option maxRecDepth 100000 in
theorem zk167_0 : z_ck0 zT1 (z_cnt zL1) 20000 [12, 186] zm35 zc167 znl167 = true := by decide +kernel
set_option maxRecDepth 100000 in
theorem zk167_1 : z_ckn zT1 (z_cnt zL1) 20000 [12, 186] zm35 zc167 znl167 zg167_1 = true := by decide +kernel
theorem zk167 : z_cok zT1 (z_cnt zL1) 20000 [12, 186] zm35 zc167 znl167 = true := z_cok_of zk167_0 (zk167_1)
set_option maxRecDepth 100000 in
def zn168_0 : zNd := (12, (z_li [(.ofNat 0, .ofNat 0), (.negSucc 2147483647, .ofNat 2147483647), (.negSucc 2147483647, .ofNat 2147483647), (.negSucc 2147483647, .ofNat 2147483647), (.negSucc 2147483647, .ofNat 2147483647), (.negSucc 2147483647, .ofNat 2147483647), (.negSucc 2147483647, .ofNat 2147483647), (.negSucc 2147483647, .ofNat 2147483647), (.negSucc 2147483647, .ofNat 2147483647), (.negSucc 2147483647, .ofNat 2147483647), (.ofNat 0, .ofNat 13), (.negSucc 2147483647, .ofNat 2147483647), (.ofNat 0, .ofNat 39)] (false, [], [], [])), [(0, (2, 56, .ofNat 0)), (1, (0, 10, .ofNat 0)), (2, (0, 11, .ofNat 0)), (3, (0, 12, .ofNat 0))], [], [], [(11, 1, 0, 2, 0), (12, 1, 0, 3, 0)], (.ofNat 70, [(12, .negSucc 0)]), none)
set_option maxRecDepth 100000 in
def zn168_1 : zNd := (186, (z_li [(.ofNat 0, .ofNat 0), (.negSucc 2147483647, .ofNat 2147483647), (.negSucc 2147483647, .ofNat 2147483647), (.negSucc 2147483647, .ofNat 2147483647), (.negSucc 2147483647, .ofNat 2147483647), (.negSucc 2147483647, .ofNat 2147483647), (.negSucc 2147483647, .ofNat 2147483647), (.negSucc 2147483647, .ofNat 2147483647), (.negSucc 2147483647, .ofNat 2147483647), (.negSucc 2147483647, .ofNat 2147483647), (.ofNat 0, .ofNat 13), (.negSucc 2147483647, .ofNat 2147483647), (.ofNat 0, .ofNat 30)] (false, [], [], [])), [(0, (2, 56, .ofNat 0)), (1, (0, 10, .ofNat 0)), (2, (0, 11, .ofNat 0)), (3, (0, 12, .ofNat 0))], [], [], [(11, 1, 0, 2, 0), (12, 1, 0, 3, 0)], (.ofNat 30, [(12, .negSucc 0)]), none)
def zg168_1 : List zNd := [zn168_0, zn168_1]
def znl168 : List zNd := zg168_1
set_option maxRecDepth 100000 in
theorem zk168_0 : z_ck0 zT1 (z_cnt zL1) 20000 [12, 186] zm35 zc168 znl168 = true := by decide +kernel
set_option maxRecDepth 100000 in
theorem zk168_1 : z_ckn zT1 (z_cnt zL1) 20000 [12, 186] zm35 zc168 znl168 zg168_1 = true := by decide +kernel
theorem zk168 : z_cok zT1 (z_cnt zL1) 20000 [12, 186] zm35 zc168 znl168 = true := z_cok_of zk168_0 (zk168_1)
set_option maxRecDepth 100000 in
def zn169_0 : zNd := (12, (z_li [(.ofNat 0, .ofNat 0), (.negSucc 2147483647, .ofNat 2147483647), (.negSucc 2147483647, .ofNat 2147483647), (.negSucc 2147483647, .ofNat 2147483647), (.negSucc 2147483647, .ofNat 2147483647), (.negSucc 2147483647, .ofNat 2147483647), (.negSucc 2147483647, .ofNat 2147483647), (.negSucc 2147483647, .ofNat 2147483647), (.negSucc 2147483647, .ofNat 2147483647), (.negSucc 2147483647, .ofNat 2147483647), (.ofNat 0, .ofNat 13), (.negSucc 2147483647, .ofNat 2147483647), (.ofNat 0, .ofNat 39)] (false, [], [], [])), [(0, (2, 59, .ofNat 0)), (1, (0, 10, .ofNat 0)), (2, (0, 11, .ofNat 0)), (3, (0, 12, .ofNat 0))], [], [], [(11, 1, 0, 2, 0), (12, 1, 0, 3, 0)], (.ofNat 70, [(12, .negSucc 0)]), none)
set_option maxRecDepth 100000 in
def zn169_1 : zNd := (186, (z_li [(.ofNat 0, .ofNat 0), (.negSucc 2147483647, .ofNat 2147483647), (.negSucc 2147483647, .ofNat 2147483647), (.negSucc 2147483647, .ofNat 2147483647), (.negSucc 2147483647, .ofNat 2147483647), (.negSucc 2147483647, .ofNat 2147483647), (.negSucc 2147483647, .ofNat 2147483647), (.negSucc 2147483647, .ofNat 2147483647), (.negSucc 2147483647, .ofNat 2147483647), (.negSucc 2147483647, .ofNat 2147483647), (.ofNat 0, .ofNat 13), (.negSucc 2147483647, .ofNat 2147483647), (.ofNat 0, .ofNat 30)] (false, [], [], [])), [(0, (2, 59, .ofNat 0)), (1, (0, 10, .ofNat 0)), (2, (0, 11, .ofNat 0)), (3, (0, 12, .ofNat 0))], [], [], [(11, 1, 0, 2, 0), (12, 1, 0, 3, 0)], (.ofNat 30, [(12, .negSucc 0)]), none)
def zg169_1 : List zNd := [zn169_0, zn169_1]
def znl169 : List zNd := zg169_1
set_option maxRecDepth 100000 in
theorem zk169_0 : z_ck0 zT1 (z_cnt zL1) 20000 [12, 186] zm35 zc169 znl169 = true := by decide +kernel
set_option maxRecDepth 100000 in
theorem zk169_1 : z_ckn zT1 (z_cnt zL1) 20000 [12, 186] zm35 zc169 znl169 zg169_1 = true := by decide +kernel
theorem zk169 : z_cok zT1 (z_cnt zL1) 20000 [12, 186] zm35 zc169 znl169 = true := z_cok_of zk169_0 (zk169_1)
set_option maxRecDepth 100000 in
def zn170_0 : zNd := (12, (z_li [(.ofNat 0, .ofNat 0), (.negSucc 2147483647, .ofNat 2147483647), (.negSucc 2147483647, .ofNat 2147483647), (.negSucc 2147483647, .ofNat 2147483647), (.negSucc 2147483647, .ofNat 2147483647), (.negSucc 2147483647, .ofNat 2147483647), (.negSucc 2147483647, .ofNat 2147483647), (.negSucc 2147483647, .ofNat 2147483647), (.negSucc 2147483647, .ofNat 2147483647), (.negSucc 2147483647, .ofNat 2147483647), (.ofNat 0, .ofNat 13), (.negSucc 2147483647, .ofNat 2147483647), (.ofNat 0, .ofNat 39)] (false, [], [], [])), [(0, (2, 74, .ofNat 0)), (1, (0, 10, .ofNat 0)), (2, (0, 11, .ofNat 0)), (3, (0, 12, .ofNat 0))], [], [], [(11, 1, 0, 2, 0), (12, 1, 0, 3, 0)], (.ofNat 70, [(12, .negSucc 0)]), none)
set_option maxRecDepth 100000 in
def zn170_1 : zNd := (186, (z_li [(.ofNat 0, .ofNat 0), (.negSucc 2147483647, .ofNat 2147483647), (.negSucc 2147483647, .ofNat 2147483647), (.negSucc 2147483647, .ofNat 2147483647), (.negSucc 2147483647, .ofNat 2147483647), (.negSucc 2147483647, .ofNat 2147483647), (.negSucc 2147483647, .ofNat 2147483647), (.negSucc 2147483647, .ofNat 2147483647), (.negSucc 2147483647, .ofNat 2147483647), (.negSucc 2147483647, .ofNat 2147483647), (.ofNat 0, .ofNat 13), (.negSucc 2147483647, .ofNat 2147483647), (.ofNat 0, .ofNat 30)] (false, [], [], [])), [(0, (2, 74, .ofNat 0)), (1, (0, 10, .ofNat 0)), (2, (0, 11, .ofNat 0)), (3, (0, 12, .ofNat 0))], [], [], [(11, 1, 0, 2, 0), (12, 1, 0, 3, 0)], (.ofNat 30, [(12, .negSucc 0)]), none)
def zg170_1 : List zNd := [zn170_0, zn170_1]
def znl170 : List zNd := zg170_1
set_option maxRecDepth 100000 in
theorem zk170_0 : z_ck0 zT1 (z_cnt zL1) 20000 [12, 186] zm35 zc170 znl170 = true := by decide +kernel
set_option maxRecDepth 100000 in
theorem zk170_1 : z_ckn zT1 (z_cnt zL1) 20000 [12, 186] zm35 zc170 znl170 zg170_1 = true := by decide +kernel
theorem zk170 : z_cok zT1 (z_cnt zL1) 20000 [12, 186] zm35 zc170 znl170 = true := z_cok_of zk170_0 (zk170_1)
set_option maxRecDepth 100000 in
theorem zk171 : z_cok zT1 (z_cnt zL1) 20000 [] zm48 zc171 [] = true := by decide +kernel
set_option maxRecDepth 100000 in
theorem zk172 : z_cok zT1 (z_cnt zL1) 20000 [] zm48 zc172 [] = true := by decide +kernel
set_option maxRecDepth 100000 in
theorem zk173 : z_cok zT1 (z_cnt zL1) 20000 [] zm48 zc173 [] = true := by decide +kernel
set_option maxRecDepth 100000 in
theorem zk174 : z_cok zT1 (z_cnt zL1) 20000 [] zm48 zc174 [] = true := by decide +kernel
set_option maxRecDepth 100000 in
theorem zk175 : z_cok zT1 (z_cnt zL1) 20000 [] zm48 zc175 [] = true := by decide +kernel
set_option maxRecDepth 100000 in
theorem zk176 : z_cok zT1 (z_cnt zL1) 20000 [] zm48 zc176 [] = true := by decide +kernel
