set_option maxRecDepth 100000 in
theorem zk103 : z_cok zT1 (z_cnt zL0) 20000 [] zm260 zc103 [] = true := by decide +kernel
set_option maxRecDepth 100000 in
def zn104_0 : zNd := (21, (z_li [(0, 0), ((-2147483648), 2147483647), ((-2147483648), 2147483647), ((-2147483648), 2147483647), ((-2147483648), 2147483647), ((-2147483648), 2147483647), ((-2147483648), 2147483647), ((-2147483648), 2147483647), ((-2147483648), 2147483647), ((-2147483648), 2147483647), (0, 5), (0, 5), (0, 15)] (false, [], [], [])), [(0, (2, 0, 0)), (1, (0, 10, 0)), (2, (0, 11, 0)), (3, (0, 12, 0))], [], [], [(12, 1, 0, 3, 0)], (15, [(12, (-1))]), none)
set_option maxRecDepth 100000 in
def znl104 : List zNd := [zn104_0]
set_option maxRecDepth 100000 in
theorem zk104_0 : z_ck0 zT1 (z_cnt zL0) 20000 [21] zm262 zc104 znl104 = true := by decide +kernel
set_option maxRecDepth 100000 in
theorem zk104_1 : z_ckn zT1 (z_cnt zL0) 20000 [21] zm262 zc104 znl104 [zn104_0] = true := by decide +kernel
set_option maxRecDepth 100000 in
theorem zk104 : z_cok zT1 (z_cnt zL0) 20000 [21] zm262 zc104 znl104 = true := z_cok_of zk104_0 (zk104_1)
set_option maxRecDepth 100000 in
def zn105_0 : zNd := (15, (z_li [(0, 0), ((-2147483648), 2147483647), ((-2147483648), 2147483647), ((-2147483648), 2147483647), ((-2147483648), 2147483647), ((-2147483648), 2147483647), ((-2147483648), 2147483647), ((-2147483648), 2147483647), ((-2147483648), 2147483647), ((-2147483648), 2147483647), (0, 14), (0, 63), (0, 6)] (false, [], [], [])), [(0, (2, 0, 0)), (1, (0, 10, 0)), (2, (0, 11, 0)), (3, (0, 12, 0))], [], [], [(11, 1, 0, 2, 0), (12, 1, 0, 3, 0)], (6, [(12, (-1))]), none)
set_option maxRecDepth 100000 in
def znl105 : List zNd := [zn105_0]
set_option maxRecDepth 100000 in
theorem zk105_0 : z_ck0 zT1 (z_cnt zL0) 20000 [15] zm266 zc105 znl105 = true := by decide +kernel
set_option maxRecDepth 100000 in
theorem zk105_1 : z_ckn zT1 (z_cnt zL0) 20000 [15] zm266 zc105 znl105 [zn105_0] = true := by decide +kernel
set_option maxRecDepth 100000 in
theorem zk105 : z_cok zT1 (z_cnt zL0) 20000 [15] zm266 zc105 znl105 = true := z_cok_of zk105_0 (zk105_1)
set_option maxRecDepth 100000 in
def zn106_0 : zNd := (32, (z_li [(0, 0), ((-2147483648), 2147483647), ((-2147483648), 2147483647), ((-2147483648), 2147483647), ((-2147483648), 2147483647), ((-2147483648), 2147483647), ((-2147483648), 2147483647), ((-2147483648), 2147483647), ((-2147483648), 2147483647), ((-2147483648), 2147483647), (0, 5), (0, 14), ((-2147483648), 2147483647), (0, 15), (0, 4)] (false, [], [], [])), [(0, (2, 0, 0)), (3, (0, 12, 0)), (4, (0, 13, 0)), (5, (0, 14, 0))], [], [], [(12, 1, 0, 3, 0), (13, 1, 0, 4, 0), (14, 1, 0, 5, 0)], (4, [(14, (-1))]), none)
set_option maxRecDepth 100000 in
def znl106 : List zNd := [zn106_0]
set_option maxRecDepth 100000 in
theorem zk106_0 : z_ck0 zT1 (z_cnt zL0) 20000 [32] zm272 zc106 znl106 = true := by decide +kernel
set_option maxRecDepth 100000 in
theorem zk106_1 : z_ckn zT1 (z_cnt zL0) 20000 [32] zm272 zc106 znl106 [zn106_0] = true := by decide +kernel
set_option maxRecDepth 100000 in
theorem zk106 : z_cok zT1 (z_cnt zL0) 20000 [32] zm272 zc106 znl106 = true := z_cok_of zk106_0 (zk106_1)
set_option maxRecDepth 100000 in
def zn107_0 : zNd := (23, (z_li [(0, 0), ((-2147483648), 2147483647), ((-2147483648), 2147483647), ((-2147483648), 2147483647), ((-2147483648), 2147483647), ((-2147483648), 2147483647), ((-2147483648), 2147483647), ((-2147483648), 2147483647), ((-2147483648), 2147483647), ((-2147483648), 2147483647), (0, 13), (0, 2147483647), (0, 39)] (false, [], [], [])), [(0, (2, 0, 0)), (1, (0, 10, 0)), (2, (0, 11, 0)), (3, (0, 12, 0))], [], [], [(11, 1, 0, 2, 0), (12, 1, 0, 3, 0)], (39, [(12, (-1))]), none)
set_option maxRecDepth 100000 in
def znl107 : List zNd := [zn107_0]
set_option maxRecDepth 100000 in
theorem zk107_0 : z_ck0 zT1 (z_cnt zL0) 20000 [23] zm278 zc107 znl107 = true := by decide +kernel
set_option maxRecDepth 100000 in
theorem zk107_1 : z_ckn zT1 (z_cnt zL0) 20000 [23] zm278 zc107 znl107 [zn107_0] = true := by decide +kernel
set_option maxRecDepth 100000 in
theorem zk107 : z_cok zT1 (z_cnt zL0) 20000 [23] zm278 zc107 znl107 = true := z_cok_of zk107_0 (zk107_1)
set_option maxRecDepth 100000 in
theorem zk108 : z_cok zT1 (z_cnt zL0) 20000 [] zm282 zc108 [] = true := by decide +kernel
set_option maxRecDepth 100000 in
theorem zk109 : z_cok zT1 (z_cnt zL0) 20000 [] zm335 zc109 [] = true := by decide +kernel
set_option maxRecDepth 100000 in
theorem zk110 : z_cok zT1 (z_cnt zL0) 20000 [] zm337 zc110 [] = true := by decide +kernel
set_option maxRecDepth 100000 in
theorem zk111 : z_cok zT1 (z_cnt zL0) 20000 [] zm343 zc111 [] = true := by decide +kernel
set_option maxRecDepth 100000 in
def zn112_0 : zNd := (42, (z_li [(0, 0), ((-2147483648), 2147483647), ((-2147483648), 2147483647), ((-2147483648), 2147483647), ((-2147483648), 2147483647), ((-2147483648), 2147483647), ((-2147483648), 2147483647), ((-2147483648), 2147483647), ((-2147483648), 2147483647), ((-2147483648), 2147483647), (12, 12), (0, 9), (0, 6), ((-2147483648), 2147483647), (0, 4)] (true, [(0, [(11, 3), (12, (-1))])], [], [])), [(0, (2, 155, 0)), (2, (0, 13, 0)), (3, (0, 14, 0))], [], [(156, 3, 1, (0, 11, 0)), (156, 7, 1, (0, 12, 0))], [(13, 1, 0, 2, 0), (14, 1, 0, 3, 0)], (4, [(14, (-1))]), none)
set_option maxRecDepth 100000 in
def znl112 : List zNd := [zn112_0]
set_option maxRecDepth 100000 in
theorem zk112_0 : z_ck0 zT1 (z_cnt zL0) 20000 [42] zm345 zc112 znl112 = true := by decide +kernel
set_option maxRecDepth 100000 in
theorem zk112_1 : z_ckn zT1 (z_cnt zL0) 20000 [42] zm345 zc112 znl112 [zn112_0] = true := by decide +kernel
set_option maxRecDepth 100000 in
theorem zk112 : z_cok zT1 (z_cnt zL0) 20000 [42] zm345 zc112 znl112 = true := z_cok_of zk112_0 (zk112_1)
