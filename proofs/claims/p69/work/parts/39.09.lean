set_option maxRecDepth 100000 in
theorem zk86 : z_cok zT1 (z_cnt zL0) 20000 [] zm210 zc86 [] = true := by decide +kernel
set_option maxRecDepth 100000 in
def zn87_0 : zNd := (113, (z_li [(.ofNat 0, .ofNat 0), (.negSucc 2147483647, .ofNat 2147483647), (.negSucc 2147483647, .ofNat 2147483647), (.negSucc 2147483647, .ofNat 2147483647), (.negSucc 2147483647, .ofNat 2147483647), (.negSucc 2147483647, .ofNat 2147483647), (.negSucc 2147483647, .ofNat 2147483647), (.negSucc 2147483647, .ofNat 2147483647), (.negSucc 2147483647, .ofNat 2147483647), (.negSucc 2147483647, .ofNat 2147483647), (.ofNat 0, .ofNat 3), (.ofNat 0, .ofNat 60), (.ofNat 0, .ofNat 3), (.ofNat 0, .ofNat 60), (.ofNat 0, .ofNat 60), (.ofNat 0, .ofNat 60)] (true, [(.ofNat 60, [(14, .negSucc 0), (11, .negSucc 0)]), (.ofNat 60, [(14, .negSucc 0), (13, .negSucc 0)])], [], [])), [(0, (2, 155, .ofNat 0)), (1, (0, 10, .ofNat 0)), (2, (0, 11, .ofNat 0)), (3, (0, 12, .ofNat 0)), (4, (0, 13, .ofNat 0)), (5, (0, 14, .ofNat 0)), (6, (0, 15, .ofNat 0))], [], [], [(15, 1, 0, 6, 0)], (.ofNat 121, [(15, .negSucc 0)]), none)
set_option maxRecDepth 100000 in
def zn87_1 : zNd := (150, (z_li [(.ofNat 0, .ofNat 0), (.negSucc 2147483647, .ofNat 2147483647), (.negSucc 2147483647, .ofNat 2147483647), (.negSucc 2147483647, .ofNat 2147483647), (.negSucc 2147483647, .ofNat 2147483647), (.negSucc 2147483647, .ofNat 2147483647), (.negSucc 2147483647, .ofNat 2147483647), (.negSucc 2147483647, .ofNat 2147483647), (.negSucc 2147483647, .ofNat 2147483647), (.negSucc 2147483647, .ofNat 2147483647), (.ofNat 0, .ofNat 3), (.ofNat 0, .ofNat 60), (.ofNat 0, .ofNat 3), (.ofNat 0, .ofNat 60), (.ofNat 0, .ofNat 60), (.ofNat 0, .ofNat 60)] (true, [(.ofNat 60, [(14, .negSucc 0), (11, .negSucc 0)]), (.ofNat 60, [(14, .negSucc 0), (13, .negSucc 0)])], [], [])), [(0, (2, 155, .ofNat 0)), (3, (0, 12, .ofNat 0)), (4, (0, 13, .ofNat 0)), (5, (0, 14, .ofNat 0)), (6, (0, 15, .ofNat 0))], [], [], [(15, 1, 0, 6, 0)], (.ofNat 60, [(15, .negSucc 0)]), none)
def zg87_1 : List zNd := [zn87_0, zn87_1]
def znl87 : List zNd := zg87_1
set_option maxRecDepth 100000 in
theorem zk87_0 : z_ck0 zT1 (z_cnt zL0) 20000 [113, 150] zm211 zc87 znl87 = true := by decide +kernel
set_option maxRecDepth 100000 in
theorem zk87_1 : z_ckn zT1 (z_cnt zL0) 20000 [113, 150] zm211 zc87 znl87 zg87_1 = true := by decide +kernel
theorem zk87 : z_cok zT1 (z_cnt zL0) 20000 [113, 150] zm211 zc87 znl87 = true := z_cok_of zk87_0 (zk87_1)
set_option maxRecDepth 100000 in
theorem zk88 : z_cok zT1 (z_cnt zL0) 20000 [] zm212 zc88 [] = true := by decide +kernel
set_option maxRecDepth 100000 in
def zn89_0 : zNd := (52, (z_li [(.ofNat 0, .ofNat 0), (.negSucc 2147483647, .ofNat 2147483647), (.negSucc 2147483647, .ofNat 2147483647), (.negSucc 2147483647, .ofNat 2147483647), (.negSucc 2147483647, .ofNat 2147483647), (.negSucc 2147483647, .ofNat 2147483647), (.negSucc 2147483647, .ofNat 2147483647), (.negSucc 2147483647, .ofNat 2147483647), (.negSucc 2147483647, .ofNat 2147483647), (.negSucc 2147483647, .ofNat 2147483647), (.ofNat 0, .ofNat 3), (.ofNat 0, .ofNat 3), (.ofNat 0, .ofNat 60), (.ofNat 0, .ofNat 60)] (false, [], [], [])), [(0, (2, 155, .ofNat 0)), (1, (0, 10, .ofNat 0)), (4, (0, 13, .ofNat 0))], [], [], [(13, 1, 0, 4, 0)], (.ofNat 60, [(13, .negSucc 0)]), none)
def zg89_1 : List zNd := [zn89_0]
def znl89 : List zNd := zg89_1
set_option maxRecDepth 100000 in
theorem zk89_0 : z_ck0 zT1 (z_cnt zL0) 20000 [52] zm215 zc89 znl89 = true := by decide +kernel
set_option maxRecDepth 100000 in
theorem zk89_1 : z_ckn zT1 (z_cnt zL0) 20000 [52] zm215 zc89 znl89 zg89_1 = true := by decide +kernel
theorem zk89 : z_cok zT1 (z_cnt zL0) 20000 [52] zm215 zc89 znl89 = true := z_cok_of zk89_0 (zk89_1)
set_option maxRecDepth 100000 in
theorem zk90 : z_cok zT1 (z_cnt zL0) 20000 [] zm217 zc90 [] = true := by decide +kernel
set_option maxRecDepth 100000 in
theorem zk91 : z_cok zT1 (z_cnt zL0) 20000 [] zm218 zc91 [] = true := by decide +kernel
