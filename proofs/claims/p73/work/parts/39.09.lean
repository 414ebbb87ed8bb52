set_option maxRecDepth 100000 in
def zn56_0 : zNd := (4, (z_li [(.ofNat 0, .ofNat 0), (.negSucc 2147483647, .ofNat 2147483647), (.negSucc 2147483647, .ofNat 2147483647), (.negSucc 2147483647, .ofNat 2147483647), (.negSucc 2147483647, .ofNat 2147483647), (.negSucc 2147483647, .ofNat 2147483647), (.negSucc 2147483647, .ofNat 2147483647), (.negSucc 2147483647, .ofNat 2147483647), (.negSucc 2147483647, .ofNat 2147483647), (.negSucc 2147483647, .ofNat 2147483647), (.ofNat 0, .ofNat 8), (.ofNat 0, .ofNat 63), (.ofNat 0, .ofNat 6)] (false, [], [], [])), [(0, (2, 0, .ofNat 0)), (1, (0, 10, .ofNat 0)), (2, (0, 11, .ofNat 0)), (3, (0, 12, .ofNat 0))], [], [], [(11, 1, 0, 2, 0), (12, 1, 0, 3, 0)], (.ofNat 6, [(12, .negSucc 0)]), none)
def zg56_1 : List zNd := [zn56_0]
def znl56 : List zNd := zg56_1
set_option maxRecDepth 100000 in
theorem zk56_0 : z_ck0 zT1 (z_cnt zL0) 20000 [4] zm124 zc56 znl56 = true := by decide +kernel
set_option maxRecDepth 100000 in
theorem zk56_1 : z_ckn zT1 (z_cnt zL0) 20000 [4] zm124 zc56 znl56 zg56_1 = true := by decide +kernel
theorem zk56 : z_cok zT1 (z_cnt zL0) 20000 [4] zm124 zc56 znl56 = true := z_cok_of zk56_0 (zk56_1)
set_option maxRecDepth 100000 in
def zn57_0 : zNd := (4, (z_li [(.ofNat 0, .ofNat 0), (.negSucc 2147483647, .ofNat 2147483647), (.negSucc 2147483647, .ofNat 2147483647), (.negSucc 2147483647, .ofNat 2147483647), (.negSucc 2147483647, .ofNat 2147483647), (.negSucc 2147483647, .ofNat 2147483647), (.negSucc 2147483647, .ofNat 2147483647), (.negSucc 2147483647, .ofNat 2147483647), (.negSucc 2147483647, .ofNat 2147483647), (.negSucc 2147483647, .ofNat 2147483647), (.ofNat 0, .ofNat 8), (.ofNat 0, .ofNat 63), (.ofNat 0, .ofNat 6)] (false, [], [], [])), [(0, (2, 155, .ofNat 0)), (1, (0, 10, .ofNat 0)), (2, (0, 11, .ofNat 0)), (3, (0, 12, .ofNat 0))], [], [], [(11, 1, 0, 2, 0), (12, 1, 0, 3, 0)], (.ofNat 6, [(12, .negSucc 0)]), none)
def zg57_1 : List zNd := [zn57_0]
def znl57 : List zNd := zg57_1
set_option maxRecDepth 100000 in
theorem zk57_0 : z_ck0 zT1 (z_cnt zL0) 20000 [4] zm125 zc57 znl57 = true := by decide +kernel
set_option maxRecDepth 100000 in
theorem zk57_1 : z_ckn zT1 (z_cnt zL0) 20000 [4] zm125 zc57 znl57 zg57_1 = true := by decide +kernel
theorem zk57 : z_cok zT1 (z_cnt zL0) 20000 [4] zm125 zc57 znl57 = true := z_cok_of zk57_0 (zk57_1)
set_option maxRecDepth 100000 in
def zn58_0 : zNd := (20, (z_li [(.ofNat 0, .ofNat 0), (.negSucc 2147483647, .ofNat 2147483647), (.negSucc 2147483647, .ofNat 2147483647), (.negSucc 2147483647, .ofNat 2147483647), (.negSucc 2147483647, .ofNat 2147483647), (.negSucc 2147483647, .ofNat 2147483647), (.negSucc 2147483647, .ofNat 2147483647), (.negSucc 2147483647, .ofNat 2147483647), (.negSucc 2147483647, .ofNat 2147483647), (.negSucc 2147483647, .ofNat 2147483647), (.ofNat 0, .ofNat 3), (.negSucc 0, .ofNat 60), (.ofNat 0, .ofNat 60)] (false, [], [], [])), [(0, (2, 77, .ofNat 0)), (1, (0, 10, .ofNat 0)), (2, (0, 11, .ofNat 0)), (3, (0, 12, .ofNat 0))], [], [], [(11, 1, 0, 2, 0), (12, 1, 0, 3, 0)], (.ofNat 60, [(12, .negSucc 0)]), none)
def zg58_1 : List zNd := [zn58_0]
def znl58 : List zNd := zg58_1
set_option maxRecDepth 100000 in
theorem zk58_0 : z_ck0 zT1 (z_cnt zL0) 20000 [20] zm145 zc58 znl58 = true := by decide +kernel
set_option maxRecDepth 100000 in
theorem zk58_1 : z_ckn zT1 (z_cnt zL0) 20000 [20] zm145 zc58 znl58 zg58_1 = true := by decide +kernel
theorem zk58 : z_cok zT1 (z_cnt zL0) 20000 [20] zm145 zc58 znl58 = true := z_cok_of zk58_0 (zk58_1)
set_option maxRecDepth 100000 in
def zn59_0 : zNd := (2, (z_li [(.ofNat 0, .ofNat 0), (.negSucc 2147483647, .ofNat 2147483647), (.negSucc 2147483647, .ofNat 2147483647), (.negSucc 2147483647, .ofNat 2147483647), (.negSucc 2147483647, .ofNat 2147483647), (.negSucc 2147483647, .ofNat 2147483647), (.negSucc 2147483647, .ofNat 2147483647), (.negSucc 2147483647, .ofNat 2147483647), (.negSucc 2147483647, .ofNat 2147483647), (.negSucc 2147483647, .ofNat 2147483647), (.ofNat 0, .ofNat 3), (.ofNat 0, .ofNat 60)] (false, [], [], [])), [(0, (2, 77, .ofNat 0)), (1, (0, 10, .ofNat 0)), (2, (0, 11, .ofNat 0))], [], [], [(11, 1, 0, 2, 0)], (.ofNat 60, [(11, .negSucc 0)]), none)
def zg59_1 : List zNd := [zn59_0]
def znl59 : List zNd := zg59_1
set_option maxRecDepth 100000 in
theorem zk59_0 : z_ck0 zT1 (z_cnt zL0) 20000 [2] zm148 zc59 znl59 = true := by decide +kernel
set_option maxRecDepth 100000 in
theorem zk59_1 : z_ckn zT1 (z_cnt zL0) 20000 [2] zm148 zc59 znl59 zg59_1 = true := by decide +kernel
theorem zk59 : z_cok zT1 (z_cnt zL0) 20000 [2] zm148 zc59 znl59 = true := z_cok_of zk59_0 (zk59_1)
set_option maxRecDepth 100000 in
def zn60_0 : zNd := (4, (z_li [(.ofNat 0, .ofNat 0), (.negSucc 2147483647, .ofNat 2147483647), (.negSucc 2147483647, .ofNat 2147483647), (.negSucc 2147483647, .ofNat 2147483647), (.negSucc 2147483647, .ofNat 2147483647), (.negSucc 2147483647, .ofNat 2147483647), (.negSucc 2147483647, .ofNat 2147483647), (.negSucc 2147483647, .ofNat 2147483647), (.negSucc 2147483647, .ofNat 2147483647), (.negSucc 2147483647, .ofNat 2147483647), (.negSucc 2147483647, .ofNat 2147483647), (.ofNat 0, .ofNat 31)] (false, [], [], [])), [(0, (2, 77, .ofNat 0)), (1, (0, 10, .ofNat 0)), (2, (0, 11, .ofNat 0))], [], [], [(10, 1, 0, 1, 0), (11, 1, 0, 2, 0)], (.ofNat 31, [(11, .negSucc 0)]), none)
def zg60_1 : List zNd := [zn60_0]
def znl60 : List zNd := zg60_1
set_option maxRecDepth 100000 in
theorem zk60_0 : z_ck0 zT1 (z_cnt zL0) 20000 [4] zm149 zc60 znl60 = true := by decide +kernel
set_option maxRecDepth 100000 in
theorem zk60_1 : z_ckn zT1 (z_cnt zL0) 20000 [4] zm149 zc60 znl60 zg60_1 = true := by decide +kernel
theorem zk60 : z_cok zT1 (z_cnt zL0) 20000 [4] zm149 zc60 znl60 = true := z_cok_of zk60_0 (zk60_1)
set_option maxRecDepth 100000 in
theorem zk61 : z_cok zT1 (z_cnt zL0) 20000 [47] zm151 zc61 [] = true := by decide +kernel
set_option maxRecDepth 100000 in
theorem zk62 : z_cok zT1 (z_cnt zL0) 20000 [47] zm151 zc62 [] = true := by decide +kernel
set_option maxRecDepth 100000 in
def zn63_0 : zNd := (2, (z_li [(.ofNat 0, .ofNat 0), (.negSucc 2147483647, .ofNat 2147483647), (.negSucc 2147483647, .ofNat 2147483647), (.negSucc 2147483647, .ofNat 2147483647), (.negSucc 2147483647, .ofNat 2147483647), (.negSucc 2147483647, .ofNat 2147483647), (.negSucc 2147483647, .ofNat 2147483647), (.negSucc 2147483647, .ofNat 2147483647), (.negSucc 2147483647, .ofNat 2147483647), (.negSucc 2147483647, .ofNat 2147483647), (.ofNat 0, .ofNat 31)] (false, [], [], [])), [(0, (2, 77, .ofNat 0)), (1, (0, 10, .ofNat 0))], [], [], [(10, 1, 0, 1, 0)], (.ofNat 31, [(10, .negSucc 0)]), none)
def zg63_1 : List zNd := [zn63_0]
def znl63 : List zNd := zg63_1
set_option maxRecDepth 100000 in
theorem zk63_0 : z_ck0 zT1 (z_cnt zL0) 20000 [2] zm155 zc63 znl63 = true := by decide +kernel
set_option maxRecDepth 100000 in
theorem zk63_1 : z_ckn zT1 (z_cnt zL0) 20000 [2] zm155 zc63 znl63 zg63_1 = true := by decide +kernel
theorem zk63 : z_cok zT1 (z_cnt zL0) 20000 [2] zm155 zc63 znl63 = true := z_cok_of zk63_0 (zk63_1)
set_option maxRecDepth 100000 in
def zn64_0 : zNd := (3, (z_li [(.ofNat 0, .ofNat 0), (.negSucc 2147483647, .ofNat 2147483647), (.negSucc 2147483647, .ofNat 2147483647), (.negSucc 2147483647, .ofNat 2147483647), (.negSucc 2147483647, .ofNat 2147483647), (.negSucc 2147483647, .ofNat 2147483647), (.negSucc 2147483647, .ofNat 2147483647), (.negSucc 2147483647, .ofNat 2147483647), (.negSucc 2147483647, .ofNat 2147483647), (.negSucc 2147483647, .ofNat 2147483647), (.negSucc 0, .ofNat 30)] (false, [], [], [])), [(0, (2, 77, .ofNat 0)), (1, (0, 10, .ofNat 0))], [], [], [(10, 1, 0, 1, 0)], (.ofNat 1, [(10, .ofNat 1)]), none)
def zg64_1 : List zNd := [zn64_0]
def znl64 : List zNd := zg64_1
set_option maxRecDepth 100000 in
theorem zk64_0 : z_ck0 zT1 (z_cnt zL0) 20000 [3] zm156 zc64 znl64 = true := by decide +kernel
set_option maxRecDepth 100000 in
theorem zk64_1 : z_ckn zT1 (z_cnt zL0) 20000 [3] zm156 zc64 znl64 zg64_1 = true := by decide +kernel
theorem zk64 : z_cok zT1 (z_cnt zL0) 20000 [3] zm156 zc64 znl64 = true := z_cok_of zk64_0 (zk64_1)
set_option maxRecDepth 100000 in
def zn65_0 : zNd := (5, (z_li [(.ofNat 0, .ofNat 0), (.negSucc 2147483647, .ofNat 2147483647), (.negSucc 2147483647, .ofNat 2147483647), (.negSucc 2147483647, .ofNat 2147483647), (.negSucc 2147483647, .ofNat 2147483647), (.negSucc 2147483647, .ofNat 2147483647), (.negSucc 2147483647, .ofNat 2147483647), (.negSucc 2147483647, .ofNat 2147483647), (.negSucc 2147483647, .ofNat 2147483647), (.negSucc 2147483647, .ofNat 2147483647), (.negSucc 2147483647, .ofNat 2147483647), (.ofNat 0, .ofNat 14), (.negSucc 2147483647, .ofNat 2147483647), (.ofNat 0, .ofNat 31)] (false, [], [], [])), [(0, (2, 77, .ofNat 0)), (1, (0, 10, .ofNat 0)), (2, (0, 11, .ofNat 0)), (3, (0, 12, .ofNat 0)), (4, (0, 13, .ofNat 0))], [], [], [(12, 1, 0, 3, 0), (13, 1, 0, 4, 0)], (.ofNat 31, [(13, .negSucc 0)]), none)
def zg65_1 : List zNd := [zn65_0]
def znl65 : List zNd := zg65_1
set_option maxRecDepth 100000 in
theorem zk65_0 : z_ck0 zT1 (z_cnt zL0) 20000 [5] zm159 zc65 znl65 = true := by decide +kernel
set_option maxRecDepth 100000 in
theorem zk65_1 : z_ckn zT1 (z_cnt zL0) 20000 [5] zm159 zc65 znl65 zg65_1 = true := by decide +kernel
theorem zk65 : z_cok zT1 (z_cnt zL0) 20000 [5] zm159 zc65 znl65 = true := z_cok_of zk65_0 (zk65_1)
set_option maxRecDepth 100000 in
def zn66_0 : zNd := (4, (z_li [(.ofNat 0, .ofNat 0), (.negSucc 2147483647, .ofNat 2147483647), (.negSucc 2147483647, .ofNat 2147483647), (.negSucc 2147483647, .ofNat 2147483647), (.negSucc 2147483647, .ofNat 2147483647), (.negSucc 2147483647, .ofNat 2147483647), (.negSucc 2147483647, .ofNat 2147483647), (.negSucc 2147483647, .ofNat 2147483647), (.negSucc 2147483647, .ofNat 2147483647), (.negSucc 2147483647, .ofNat 2147483647), (.ofNat 0, .ofNat 14), (.ofNat 0, .ofNat 2147483647), (.ofNat 0, .ofNat 31)] (false, [], [], [])), [(0, (2, 155, .ofNat 0)), (1, (0, 10, .ofNat 0)), (2, (0, 11, .ofNat 0)), (3, (0, 12, .ofNat 0))], [], [], [(11, 1, 0, 2, 0), (12, 1, 0, 3, 0)], (.ofNat 1055, [(12, .negSucc 32)]), none)
set_option maxRecDepth 100000 in
def zn66_1 : zNd := (18, (z_li [(.ofNat 0, .ofNat 0), (.negSucc 2147483647, .ofNat 2147483647), (.negSucc 2147483647, .ofNat 2147483647), (.negSucc 2147483647, .ofNat 2147483647), (.negSucc 2147483647, .ofNat 2147483647), (.negSucc 2147483647, .ofNat 2147483647), (.negSucc 2147483647, .ofNat 2147483647), (.negSucc 2147483647, .ofNat 2147483647), (.negSucc 2147483647, .ofNat 2147483647), (.negSucc 2147483647, .ofNat 2147483647), (.ofNat 0, .ofNat 14), (.ofNat 0, .ofNat 2147483647), (.ofNat 0, .ofNat 30), (.negSucc 2147483647, .ofNat 2147483647), (.ofNat 0, .ofNat 31)] (false, [], [], [])), [(0, (2, 155, .ofNat 0)), (1, (0, 10, .ofNat 0)), (2, (0, 11, .ofNat 0)), (3, (0, 12, .ofNat 0)), (4, (0, 13, .ofNat 0)), (5, (0, 14, .ofNat 0))], [], [], [(11, 1, 0, 2, 0), (12, 1, 0, 3, 0), (13, 1, 0, 4, 0), (14, 1, 0, 5, 0)], (.ofNat 1054, [(14, .negSucc 0), (12, .negSucc 32)]), none)
def zg66_1 : List zNd := [zn66_0, zn66_1]
def znl66 : List zNd := zg66_1
set_option maxRecDepth 100000 in
theorem zk66_0 : z_ck0 zT1 (z_cnt zL0) 20000 [4, 18] zm161 zc66 znl66 = true := by decide +kernel
set_option maxRecDepth 100000 in
theorem zk66_1 : z_ckn zT1 (z_cnt zL0) 20000 [4, 18] zm161 zc66 znl66 zg66_1 = true := by decide +kernel
theorem zk66 : z_cok zT1 (z_cnt zL0) 20000 [4, 18] zm161 zc66 znl66 = true := z_cok_of zk66_0 (zk66_1)
set_option maxRecDepth 100000 in
def zn67_0 : zNd := (4, (z_li [(.ofNat 0, .ofNat 0), (.negSucc 2147483647, .ofNat 2147483647), (.negSucc 2147483647, .ofNat 2147483647), (.negSucc 2147483647, .ofNat 2147483647), (.negSucc 2147483647, .ofNat 2147483647), (.negSucc 2147483647, .ofNat 2147483647), (.negSucc 2147483647, .ofNat 2147483647), (.negSucc 2147483647, .ofNat 2147483647), (.negSucc 2147483647, .ofNat 2147483647), (.negSucc 2147483647, .ofNat 2147483647), (.negSucc 127, .ofNat 63), (.negSucc 2147483647, .ofNat 2147483647), (.ofNat 2, .ofNat 64)] (false, [], [], [])), [(0, (0, 10, .ofNat 0)), (1, (0, 11, .ofNat 0)), (2, (0, 12, .ofNat 0))], [], [], [(11, 1, 0, 1, 0), (12, 1, 0, 2, 0)], (.ofNat 64, [(12, .negSucc 0)]), none)
def zg67_1 : List zNd := [zn67_0]
def znl67 : List zNd := zg67_1
set_option maxRecDepth 100000 in
theorem zk67_0 : z_ck0 zT1 (z_cnt zL0) 20000 [4] zm173 zc67 znl67 = true := by decide +kernel
set_option maxRecDepth 100000 in
theorem zk67_1 : z_ckn zT1 (z_cnt zL0) 20000 [4] zm173 zc67 znl67 zg67_1 = true := by decide +kernel
theorem zk67 : z_cok zT1 (z_cnt zL0) 20000 [4] zm173 zc67 znl67 = true := z_cok_of zk67_0 (zk67_1)
set_option maxRecDepth 100000 in
def zn68_0 : zNd := (9, (z_li [(.ofNat 0, .ofNat 0), (.negSucc 2147483647, .ofNat 2147483647), (.negSucc 2147483647, .ofNat 2147483647), (.negSucc 2147483647, .ofNat 2147483647), (.negSucc 2147483647, .ofNat 2147483647), (.negSucc 2147483647, .ofNat 2147483647), (.negSucc 2147483647, .ofNat 2147483647), (.negSucc 2147483647, .ofNat 2147483647), (.negSucc 2147483647, .ofNat 2147483647), (.negSucc 2147483647, .ofNat 2147483647), (.negSucc 9223372036854775807, .ofNat 9223372036854775807), (.negSucc 9223372036854775807, .ofNat 9223372036854775807), (.negSucc 9223372036854775807, .ofNat 9223372036854775807), (.negSucc 9223372036854775807, .ofNat 9223372036854775807), (.ofNat 0, .ofNat 239)] (false, [], [], [])), [(4, (1, 12, .ofNat 0)), (6, (1, 13, .ofNat 0)), (8, (0, 14, .ofNat 0))], [], [], [(12, 1, 0, 4, 0), (13, 1, 0, 6, 0), (14, 1, 0, 8, 0)], (.ofNat 239, [(14, .negSucc 0)]), none)
def zg68_1 : List zNd := [zn68_0]
def znl68 : List zNd := zg68_1
set_option maxRecDepth 100000 in
theorem zk68_0 : z_ck0 zT1 (z_cnt zL0) 20000 [9] zm175 zc68 znl68 = true := by decide +kernel
set_option maxRecDepth 100000 in
theorem zk68_1 : z_ckn zT1 (z_cnt zL0) 20000 [9] zm175 zc68 znl68 zg68_1 = true := by decide +kernel
theorem zk68 : z_cok zT1 (z_cnt zL0) 20000 [9] zm175 zc68 znl68 = true := z_cok_of zk68_0 (zk68_1)
set_option maxRecDepth 100000 in
theorem zk69 : z_cok zT1 (z_cnt zL0) 20000 [] zm176 zc69 [] = true := by decide +kernel
set_option maxRecDepth 100000 in
theorem zk70 : z_cok zT1 (z_cnt zL0) 20000 [] zm176 zc70 [] = true := by decide +kernel
set_option maxRecDepth 100000 in
theorem zk71 : z_cok zT1 (z_cnt zL0) 20000 [] zm176 zc71 [] = true := by decide +kernel
set_option maxRecDepth 100000 in
def zn72_0 : zNd := (31, (z_li [(.ofNat 0, .ofNat 0), (.negSucc 2147483647, .ofNat 2147483647), (.negSucc 2147483647, .ofNat 2147483647), (.negSucc 2147483647, .ofNat 2147483647), (.negSucc 2147483647, .ofNat 2147483647), (.negSucc 2147483647, .ofNat 2147483647), (.negSucc 2147483647, .ofNat 2147483647), (.negSucc 2147483647, .ofNat 2147483647), (.negSucc 2147483647, .ofNat 2147483647), (.negSucc 2147483647, .ofNat 2147483647), (.negSucc 9223372036854775807, .negSucc 0), (.ofNat 1, .ofNat 512000000000), (.ofNat 1, .ofNat 512000000000), (.negSucc 511999999998, .ofNat 0)] (true, [], [], [])), [(4, (1, 12, .ofNat 0)), (6, (1, 13, .ofNat 0))], [], [], [(12, 1, 0, 4, 0), (13, 1, 0, 6, 0)], (.ofNat 1, [(13, .negSucc 1)]), none)
set_option maxRecDepth 100000 in
def zn72_1 : zNd := (31, (z_li [(.ofNat 0, .ofNat 0), (.negSucc 2147483647, .ofNat 2147483647), (.negSucc 2147483647, .ofNat 2147483647), (.negSucc 2147483647, .ofNat 2147483647), (.negSucc 2147483647, .ofNat 2147483647), (.negSucc 2147483647, .ofNat 2147483647), (.negSucc 2147483647, .ofNat 2147483647), (.negSucc 2147483647, .ofNat 2147483647), (.negSucc 2147483647, .ofNat 2147483647), (.negSucc 2147483647, .ofNat 2147483647), (.negSucc 9223372036854775807, .ofNat 9223372036854775807), (.ofNat 1, .ofNat 512000000000), (.ofNat 1, .ofNat 512000000000), (.ofNat 0, .ofNat 511999999999)] (true, [], [], [])), [(4, (1, 12, .ofNat 0)), (6, (1, 13, .ofNat 0))], [], [], [(12, 1, 0, 4, 0), (13, 1, 0, 6, 0)], (.ofNat 1024000000000, [(13, .ofNat 1)]), none)
set_option maxRecDepth 100000 in
def zn72_2 : zNd := (31, (z_li [(.ofNat 0, .ofNat 0), (.negSucc 2147483647, .ofNat 2147483647), (.negSucc 2147483647, .ofNat 2147483647), (.negSucc 2147483647, .ofNat 2147483647), (.negSucc 2147483647, .ofNat 2147483647), (.negSucc 2147483647, .ofNat 2147483647), (.negSucc 2147483647, .ofNat 2147483647), (.negSucc 2147483647, .ofNat 2147483647), (.negSucc 2147483647, .ofNat 2147483647), (.negSucc 2147483647, .ofNat 2147483647), (.negSucc 9223372036854775807, .negSucc 0), (.ofNat 1, .ofNat 512000000000), (.negSucc 511999999998, .negSucc 0), (.ofNat 0, .ofNat 511999999998)] (true, [], [], [])), [(4, (1, 12, .ofNat 0)), (6, (1, 13, .ofNat 0))], [], [], [(12, 1, 0, 4, 0), (13, 1, 0, 6, 0)], (.ofNat 0, [(13, .ofNat 2)]), none)
def zg72_1 : List zNd := [zn72_0, zn72_1, zn72_2]
def znl72 : List zNd := zg72_1
set_option maxRecDepth 100000 in
theorem zk72_0 : z_ck0 zT1 (z_cnt zL0) 20000 [31] zm178 zc72 znl72 = true := by decide +kernel
set_option maxRecDepth 100000 in
theorem zk72_1 : z_ckn zT1 (z_cnt zL0) 20000 [31] zm178 zc72 znl72 zg72_1 = true := by decide +kernel
theorem zk72 : z_cok zT1 (z_cnt zL0) 20000 [31] zm178 zc72 znl72 = true := z_cok_of zk72_0 (zk72_1)
set_option maxRecDepth 100000 in
def zn73_0 : zNd := (5, (z_li [(.ofNat 0, .ofNat 0), (.negSucc 2147483647, .ofNat 2147483647), (.negSucc 2147483647, .ofNat 2147483647), (.negSucc 2147483647, .ofNat 2147483647), (.negSucc 2147483647, .ofNat 2147483647), (.negSucc 2147483647, .ofNat 2147483647), (.negSucc 2147483647, .ofNat 2147483647), (.negSucc 2147483647, .ofNat 2147483647), (.negSucc 2147483647, .ofNat 2147483647), (.negSucc 2147483647, .ofNat 2147483647), (.ofNat 0, .ofNat 511), (.negSucc 9223372036854775807, .ofNat 9223372036854775807), (.ofNat 0, .ofNat 9)] (false, [], [], [])), [(0, (2, 70, .ofNat 0)), (1, (0, 10, .ofNat 0)), (2, (1, 11, .ofNat 0)), (4, (0, 12, .ofNat 0))], [], [], [(11, 1, 0, 2, 0), (12, 1, 0, 4, 0)], (.ofNat 9, [(12, .negSucc 0)]), none)
def zg73_1 : List zNd := [zn73_0]
def znl73 : List zNd := zg73_1
set_option maxRecDepth 100000 in
theorem zk73_0 : z_ck0 zT1 (z_cnt zL0) 20000 [5] zm185 zc73 znl73 = true := by decide +kernel
set_option maxRecDepth 100000 in
theorem zk73_1 : z_ckn zT1 (z_cnt zL0) 20000 [5] zm185 zc73 znl73 zg73_1 = true := by decide +kernel
theorem zk73 : z_cok zT1 (z_cnt zL0) 20000 [5] zm185 zc73 znl73 = true := z_cok_of zk73_0 (zk73_1)
set_option maxRecDepth 100000 in
def zn74_0 : zNd := (4, (z_li [(.ofNat 0, .ofNat 0), (.negSucc 2147483647, .ofNat 2147483647), (.negSucc 2147483647, .ofNat 2147483647), (.negSucc 2147483647, .ofNat 2147483647), (.negSucc 2147483647, .ofNat 2147483647), (.negSucc 2147483647, .ofNat 2147483647), (.negSucc 2147483647, .ofNat 2147483647), (.negSucc 2147483647, .ofNat 2147483647), (.negSucc 2147483647, .ofNat 2147483647), (.negSucc 2147483647, .ofNat 2147483647), (.negSucc 9223372036854775807, .ofNat 9223372036854775807), (.ofNat 0, .ofNat 9)] (false, [], [], [])), [(0, (2, 70, .ofNat 0)), (1, (1, 10, .ofNat 0)), (3, (0, 11, .ofNat 0))], [], [], [(10, 1, 0, 1, 0), (11, 1, 0, 3, 0)], (.ofNat 9, [(11, .negSucc 0)]), none)
def zg74_1 : List zNd := [zn74_0]
def znl74 : List zNd := zg74_1
set_option maxRecDepth 100000 in
theorem zk74_0 : z_ck0 zT1 (z_cnt zL0) 20000 [4] zm186 zc74 znl74 = true := by decide +kernel
set_option maxRecDepth 100000 in
theorem zk74_1 : z_ckn zT1 (z_cnt zL0) 20000 [4] zm186 zc74 znl74 zg74_1 = true := by decide +kernel
theorem zk74 : z_cok zT1 (z_cnt zL0) 20000 [4] zm186 zc74 znl74 = true := z_cok_of zk74_0 (zk74_1)
set_option maxRecDepth 100000 in
def zn75_0 : zNd := (9, (z_li [(.ofNat 0, .ofNat 0), (.negSucc 2147483647, .ofNat 2147483647), (.negSucc 2147483647, .ofNat 2147483647), (.negSucc 2147483647, .ofNat 2147483647), (.negSucc 2147483647, .ofNat 2147483647), (.negSucc 2147483647, .ofNat 2147483647), (.negSucc 2147483647, .ofNat 2147483647), (.negSucc 2147483647, .ofNat 2147483647), (.negSucc 2147483647, .ofNat 2147483647), (.negSucc 2147483647, .ofNat 2147483647), (.ofNat 0, .ofNat 2147483647), (.ofNat 0, .ofNat 2147483647), (.ofNat 0, .ofNat 511), (.ofNat 0, .ofNat 9)] (false, [], [], [])), [(0, (2, 70, .ofNat 0)), (2, (1, 11, .ofNat 0)), (4, (0, 12, .ofNat 0)), (5, (0, 13, .ofNat 0))], [], [], [(11, 1, 0, 2, 0), (12, 1, 0, 4, 0), (13, 1, 0, 5, 0)], (.ofNat 9, [(13, .negSucc 0)]), none)
def zg75_1 : List zNd := [zn75_0]
def znl75 : List zNd := zg75_1
set_option maxRecDepth 100000 in
theorem zk75_0 : z_ck0 zT1 (z_cnt zL0) 20000 [9] zm192 zc75 znl75 = true := by decide +kernel
set_option maxRecDepth 100000 in
theorem zk75_1 : z_ckn zT1 (z_cnt zL0) 20000 [9] zm192 zc75 znl75 zg75_1 = true := by decide +kernel
theorem zk75 : z_cok zT1 (z_cnt zL0) 20000 [9] zm192 zc75 znl75 = true := z_cok_of zk75_0 (zk75_1)
set_option maxRecDepth 100000 in
def zn76_0 : zNd := (4, (z_li [(.ofNat 0, .ofNat 0), (.negSucc 2147483647, .ofNat 2147483647), (.negSucc 2147483647, .ofNat 2147483647), (.negSucc 2147483647, .ofNat 2147483647), (.negSucc 2147483647, .ofNat 2147483647), (.negSucc 2147483647, .ofNat 2147483647), (.negSucc 2147483647, .ofNat 2147483647), (.negSucc 2147483647, .ofNat 2147483647), (.negSucc 2147483647, .ofNat 2147483647), (.negSucc 2147483647, .ofNat 2147483647), (.negSucc 2147483647, .ofNat 2147483647), (.ofNat 0, .ofNat 4)] (false, [], [], [])), [(0, (2, 62, .ofNat 0)), (1, (0, 10, .ofNat 0)), (2, (0, 11, .ofNat 0))], [], [], [(10, 1, 0, 1, 0), (11, 1, 0, 2, 0)], (.ofNat 4, [(11, .negSucc 0)]), none)
def zg76_1 : List zNd := [zn76_0]
def znl76 : List zNd := zg76_1
set_option maxRecDepth 100000 in
theorem zk76_0 : z_ck0 zT1 (z_cnt zL0) 20000 [4] zm197 zc76 znl76 = true := by decide +kernel
set_option maxRecDepth 100000 in
theorem zk76_1 : z_ckn zT1 (z_cnt zL0) 20000 [4] zm197 zc76 znl76 zg76_1 = true := by decide +kernel
theorem zk76 : z_cok zT1 (z_cnt zL0) 20000 [4] zm197 zc76 znl76 = true := z_cok_of zk76_0 (zk76_1)
set_option maxRecDepth 100000 in
def zn77_0 : zNd := (6, (z_li [(.ofNat 0, .ofNat 0), (.negSucc 2147483647, .ofNat 2147483647), (.negSucc 2147483647, .ofNat 2147483647), (.negSucc 2147483647, .ofNat 2147483647), (.negSucc 2147483647, .ofNat 2147483647), (.negSucc 2147483647, .ofNat 2147483647), (.negSucc 2147483647, .ofNat 2147483647), (.negSucc 2147483647, .ofNat 2147483647), (.negSucc 2147483647, .ofNat 2147483647), (.negSucc 2147483647, .ofNat 2147483647), (.ofNat 0, .ofNat 0), (.ofNat 0, .ofNat 60)] (false, [], [], [])), [(0, (2, 64, .ofNat 0)), (1, (1, 10, .ofNat 0)), (3, (0, 11, .ofNat 0)), (4, (0, 0, .ofNat 60))], [], [], [(11, 1, 0, 3, 0)], (.ofNat 60, [(11, .negSucc 0)]), none)
def zg77_1 : List zNd := [zn77_0]
def znl77 : List zNd := zg77_1
set_option maxRecDepth 100000 in
theorem zk77_0 : z_ck0 zT1 (z_cnt zL0) 20000 [6] zm200 zc77 znl77 = true := by decide +kernel
set_option maxRecDepth 100000 in
theorem zk77_1 : z_ckn zT1 (z_cnt zL0) 20000 [6] zm200 zc77 znl77 zg77_1 = true := by decide +kernel
theorem zk77 : z_cok zT1 (z_cnt zL0) 20000 [6] zm200 zc77 znl77 = true := z_cok_of zk77_0 (zk77_1)
set_option maxRecDepth 100000 in
def zn78_0 : zNd := (6, (z_li [(.ofNat 0, .ofNat 0), (.negSucc 2147483647, .ofNat 2147483647), (.negSucc 2147483647, .ofNat 2147483647), (.negSucc 2147483647, .ofNat 2147483647), (.negSucc 2147483647, .ofNat 2147483647), (.negSucc 2147483647, .ofNat 2147483647), (.negSucc 2147483647, .ofNat 2147483647), (.negSucc 2147483647, .ofNat 2147483647), (.negSucc 2147483647, .ofNat 2147483647), (.negSucc 2147483647, .ofNat 2147483647), (.ofNat 0, .ofNat 0), (.ofNat 0, .ofNat 60)] (false, [], [], [])), [(0, (2, 65, .ofNat 0)), (1, (1, 10, .ofNat 0)), (3, (0, 11, .ofNat 0)), (4, (0, 0, .ofNat 60))], [], [], [(11, 1, 0, 3, 0)], (.ofNat 60, [(11, .negSucc 0)]), none)
def zg78_1 : List zNd := [zn78_0]
def znl78 : List zNd := zg78_1
set_option maxRecDepth 100000 in
theorem zk78_0 : z_ck0 zT1 (z_cnt zL0) 20000 [6] zm200 zc78 znl78 = true := by decide +kernel
set_option maxRecDepth 100000 in
theorem zk78_1 : z_ckn zT1 (z_cnt zL0) 20000 [6] zm200 zc78 znl78 zg78_1 = true := by decide +kernel
theorem zk78 : z_cok zT1 (z_cnt zL0) 20000 [6] zm200 zc78 znl78 = true := z_cok_of zk78_0 (zk78_1)
set_option maxRecDepth 100000 in
def zn79_0 : zNd := (6, (z_li [(.ofNat 0, .ofNat 0), (.negSucc 2147483647, .ofNat 2147483647), (.negSucc 2147483647, .ofNat 2147483647), (.negSucc 2147483647, .ofNat 2147483647), (.negSucc 2147483647, .ofNat 2147483647), (.negSucc 2147483647, .ofNat 2147483647), (.negSucc 2147483647, .ofNat 2147483647), (.negSucc 2147483647, .ofNat 2147483647), (.negSucc 2147483647, .ofNat 2147483647), (.negSucc 2147483647, .ofNat 2147483647), (.ofNat 0, .ofNat 0), (.ofNat 0, .ofNat 60)] (false, [], [], [])), [(0, (2, 66, .ofNat 0)), (1, (1, 10, .ofNat 0)), (3, (0, 11, .ofNat 0)), (4, (0, 0, .ofNat 60))], [], [], [(11, 1, 0, 3, 0)], (.ofNat 60, [(11, .negSucc 0)]), none)
def zg79_1 : List zNd := [zn79_0]
def znl79 : List zNd := zg79_1
set_option maxRecDepth 100000 in
theorem zk79_0 : z_ck0 zT1 (z_cnt zL0) 20000 [6] zm200 zc79 znl79 = true := by decide +kernel
set_option maxRecDepth 100000 in
theorem zk79_1 : z_ckn zT1 (z_cnt zL0) 20000 [6] zm200 zc79 znl79 zg79_1 = true := by decide +kernel
theorem zk79 : z_cok zT1 (z_cnt zL0) 20000 [6] zm200 zc79 znl79 = true := z_cok_of zk79_0 (zk79_1)
set_option maxRecDepth 100000 in
def zn80_0 : zNd := (6, (z_li [(.ofNat 0, .ofNat 0), (.negSucc 2147483647, .ofNat 2147483647), (.negSucc 2147483647, .ofNat 2147483647), (.negSucc 2147483647, .ofNat 2147483647), (.negSucc 2147483647, .ofNat 2147483647), (.negSucc 2147483647, .ofNat 2147483647), (.negSucc 2147483647, .ofNat 2147483647), (.negSucc 2147483647, .ofNat 2147483647), (.negSucc 2147483647, .ofNat 2147483647), (.negSucc 2147483647, .ofNat 2147483647), (.ofNat 0, .ofNat 0), (.ofNat 0, .ofNat 60)] (false, [], [], [])), [(0, (2, 67, .ofNat 0)), (1, (1, 10, .ofNat 0)), (3, (0, 11, .ofNat 0)), (4, (0, 0, .ofNat 60))], [], [], [(11, 1, 0, 3, 0)], (.ofNat 60, [(11, .negSucc 0)]), none)
def zg80_1 : List zNd := [zn80_0]
def znl80 : List zNd := zg80_1
set_option maxRecDepth 100000 in
theorem zk80_0 : z_ck0 zT1 (z_cnt zL0) 20000 [6] zm200 zc80 znl80 = true := by decide +kernel
set_option maxRecDepth 100000 in
theorem zk80_1 : z_ckn zT1 (z_cnt zL0) 20000 [6] zm200 zc80 znl80 zg80_1 = true := by decide +kernel
theorem zk80 : z_cok zT1 (z_cnt zL0) 20000 [6] zm200 zc80 znl80 = true := z_cok_of zk80_0 (zk80_1)
set_option maxRecDepth 100000 in
theorem zk81 : z_cok zT1 (z_cnt zL0) 20000 [] zm203 zc81 [] = true := by decide +kernel
set_option maxRecDepth 100000 in
theorem zk84 : z_cok zT1 (z_cnt zL0) 20000 [] zm208 zc84 [] = true := by decide +kernel
set_option maxRecDepth 100000 in
def zn85_0 : zNd := (55, (z_li [(.ofNat 0, .ofNat 0), (.negSucc 2147483647, .ofNat 2147483647), (.negSucc 2147483647, .ofNat 2147483647), (.negSucc 2147483647, .ofNat 2147483647), (.negSucc 2147483647, .ofNat 2147483647), (.negSucc 2147483647, .ofNat 2147483647), (.negSucc 2147483647, .ofNat 2147483647), (.negSucc 2147483647, .ofNat 2147483647), (.negSucc 2147483647, .ofNat 2147483647), (.negSucc 2147483647, .ofNat 2147483647), (.negSucc 2147483647, .ofNat 2147483647), (.negSucc 2147483647, .ofNat 2147483647), (.negSucc 2147483647, .ofNat 2147483647), (.negSucc 2147483647, .ofNat 2147483647), (.negSucc 2147483647, .ofNat 2147483647), (.ofNat 0, .ofNat 680), (.ofNat 0, .ofNat 20)] (false, [], [], [])), [(0, (2, 155, .ofNat 0)), (6, (0, 16, .ofNat 0))], [], [(155, 5, 1, (0, 15, .ofNat 0)), (160, 0, 5, (0, 10, .ofNat 0))], [(16, 1, 0, 6, 0)], (.ofNat 20, [(16, .negSucc 0)]), none)
def zg85_1 : List zNd := [zn85_0]
def znl85 : List zNd := zg85_1
set_option maxRecDepth 100000 in
theorem zk85_0 : z_ck0 zT1 (z_cnt zL0) 20000 [55] zm209 zc85 znl85 = true := by decide +kernel
set_option maxRecDepth 100000 in
theorem zk85_1 : z_ckn zT1 (z_cnt zL0) 20000 [55] zm209 zc85 znl85 zg85_1 = true := by decide +kernel
theorem zk85 : z_cok zT1 (z_cnt zL0) 20000 [55] zm209 zc85 znl85 = true := z_cok_of zk85_0 (zk85_1)
set_option maxRecDepth 100000 in
theorem zk88 : z_cok zT1 (z_cnt zL0) 20000 [] zm212 zc88 [] = true := by decide +kernel
set_option maxRecDepth 100000 in
def zn89_0 : zNd := (1, (z_li [(.ofNat 0, .ofNat 0), (.negSucc 2147483647, .ofNat 2147483647), (.negSucc 2147483647, .ofNat 2147483647), (.negSucc 2147483647, .ofNat 2147483647), (.negSucc 2147483647, .ofNat 2147483647), (.negSucc 2147483647, .ofNat 2147483647), (.negSucc 2147483647, .ofNat 2147483647), (.negSucc 2147483647, .ofNat 2147483647), (.negSucc 2147483647, .ofNat 2147483647), (.negSucc 2147483647, .ofNat 2147483647), (.negSucc 2147483647, .ofNat 2147483647), (.negSucc 2147483647, .ofNat 2147483647), (.negSucc 2147483647, .ofNat 2147483647), (.negSucc 0, .ofNat 60), (.negSucc 0, .ofNat 60), (.negSucc 0, .ofNat 60), (.negSucc 0, .ofNat 60), (.ofNat 0, .ofNat 3), (.ofNat 0, .ofNat 3), (.ofNat 0, .ofNat 3), (.ofNat 0, .ofNat 3)] (false, [], [], [])), [(0, (2, 155, .ofNat 0)), (1, (0, 10, .ofNat 0)), (2, (0, 11, .ofNat 0)), (3, (0, 12, .ofNat 0))], [(0, 10, .ofNat 0)], [(172, 0, 4, (0, 13, .ofNat 0)), (173, 0, 4, (0, 17, .ofNat 0))], [], (.ofNat 250, []), some (10, [(.negSucc 2147483647, .negSucc 0), (.ofNat 0, .ofNat 0), (.ofNat 1, .ofNat 1), (.ofNat 2, .ofNat 2), (.ofNat 3, .ofNat 3), (.ofNat 4, .ofNat 2147483647)]))
set_option maxRecDepth 100000 in
def zn89_1 : zNd := (1, (z_li [(.ofNat 0, .ofNat 0), (.negSucc 2147483647, .ofNat 2147483647), (.negSucc 2147483647, .ofNat 2147483647), (.negSucc 2147483647, .ofNat 2147483647), (.negSucc 2147483647, .ofNat 2147483647), (.negSucc 2147483647, .ofNat 2147483647), (.negSucc 2147483647, .ofNat 2147483647), (.negSucc 2147483647, .ofNat 2147483647), (.negSucc 2147483647, .ofNat 2147483647), (.negSucc 2147483647, .ofNat 2147483647), (.negSucc 2147483647, .negSucc 0), (.negSucc 2147483647, .ofNat 2147483647), (.negSucc 2147483647, .ofNat 2147483647), (.negSucc 0, .ofNat 60), (.negSucc 0, .ofNat 60), (.negSucc 0, .ofNat 60), (.negSucc 0, .ofNat 60), (.ofNat 0, .ofNat 3), (.ofNat 0, .ofNat 3), (.ofNat 0, .ofNat 3), (.ofNat 0, .ofNat 3)] (false, [], [], [])), [(0, (2, 155, .ofNat 0)), (1, (0, 10, .ofNat 0)), (2, (0, 11, .ofNat 0)), (3, (0, 12, .ofNat 0))], [(0, 10, .ofNat 0)], [(172, 0, 4, (0, 13, .ofNat 0)), (173, 0, 4, (0, 17, .ofNat 0))], [], (.ofNat 0, []), none)
set_option maxRecDepth 100000 in
def zn89_2 : zNd := (1, (z_li [(.ofNat 0, .ofNat 0), (.negSucc 2147483647, .ofNat 2147483647), (.negSucc 2147483647, .ofNat 2147483647), (.negSucc 2147483647, .ofNat 2147483647), (.negSucc 2147483647, .ofNat 2147483647), (.negSucc 2147483647, .ofNat 2147483647), (.negSucc 2147483647, .ofNat 2147483647), (.negSucc 2147483647, .ofNat 2147483647), (.negSucc 2147483647, .ofNat 2147483647), (.negSucc 2147483647, .ofNat 2147483647), (.ofNat 0, .ofNat 0), (.negSucc 2147483647, .ofNat 2147483647), (.negSucc 2147483647, .ofNat 2147483647), (.negSucc 0, .ofNat 60), (.negSucc 0, .ofNat 60), (.negSucc 0, .ofNat 60), (.negSucc 0, .ofNat 60), (.ofNat 0, .ofNat 3), (.ofNat 0, .ofNat 3), (.ofNat 0, .ofNat 3), (.ofNat 0, .ofNat 3)] (false, [], [], [])), [(0, (2, 155, .ofNat 0)), (1, (0, 10, .ofNat 0)), (2, (0, 11, .ofNat 0)), (3, (0, 12, .ofNat 0))], [(0, 10, .ofNat 0)], [(172, 0, 4, (0, 13, .ofNat 0)), (173, 0, 4, (0, 17, .ofNat 0))], [], (.ofNat 62, []), none)
set_option maxRecDepth 100000 in
def zn89_3 : zNd := (1, (z_li [(.ofNat 0, .ofNat 0), (.negSucc 2147483647, .ofNat 2147483647), (.negSucc 2147483647, .ofNat 2147483647), (.negSucc 2147483647, .ofNat 2147483647), (.negSucc 2147483647, .ofNat 2147483647), (.negSucc 2147483647, .ofNat 2147483647), (.negSucc 2147483647, .ofNat 2147483647), (.negSucc 2147483647, .ofNat 2147483647), (.negSucc 2147483647, .ofNat 2147483647), (.negSucc 2147483647, .ofNat 2147483647), (.ofNat 1, .ofNat 1), (.negSucc 2147483647, .ofNat 2147483647), (.negSucc 2147483647, .ofNat 2147483647), (.negSucc 0, .ofNat 60), (.negSucc 0, .ofNat 60), (.negSucc 0, .ofNat 60), (.negSucc 0, .ofNat 60), (.ofNat 0, .ofNat 3), (.ofNat 0, .ofNat 3), (.ofNat 0, .ofNat 3), (.ofNat 0, .ofNat 3)] (false, [], [], [])), [(0, (2, 155, .ofNat 0)), (1, (0, 10, .ofNat 0)), (2, (0, 11, .ofNat 0)), (3, (0, 12, .ofNat 0))], [(0, 10, .ofNat 0)], [(172, 0, 4, (0, 13, .ofNat 0)), (173, 0, 4, (0, 17, .ofNat 0))], [], (.ofNat 124, []), none)
set_option maxRecDepth 100000 in
def zn89_4 : zNd := (1, (z_li [(.ofNat 0, .ofNat 0), (.negSucc 2147483647, .ofNat 2147483647), (.negSucc 2147483647, .ofNat 2147483647), (.negSucc 2147483647, .ofNat 2147483647), (.negSucc 2147483647, .ofNat 2147483647), (.negSucc 2147483647, .ofNat 2147483647), (.negSucc 2147483647, .ofNat 2147483647), (.negSucc 2147483647, .ofNat 2147483647), (.negSucc 2147483647, .ofNat 2147483647), (.negSucc 2147483647, .ofNat 2147483647), (.ofNat 2, .ofNat 2), (.negSucc 2147483647, .ofNat 2147483647), (.negSucc 2147483647, .ofNat 2147483647), (.negSucc 0, .ofNat 60), (.negSucc 0, .ofNat 60), (.negSucc 0, .ofNat 60), (.negSucc 0, .ofNat 60), (.ofNat 0, .ofNat 3), (.ofNat 0, .ofNat 3), (.ofNat 0, .ofNat 3), (.ofNat 0, .ofNat 3)] (false, [], [], [])), [(0, (2, 155, .ofNat 0)), (1, (0, 10, .ofNat 0)), (2, (0, 11, .ofNat 0)), (3, (0, 12, .ofNat 0))], [(0, 10, .ofNat 0)], [(172, 0, 4, (0, 13, .ofNat 0)), (173, 0, 4, (0, 17, .ofNat 0))], [], (.ofNat 186, []), none)
set_option maxRecDepth 100000 in
def zn89_5 : zNd := (1, (z_li [(.ofNat 0, .ofNat 0), (.negSucc 2147483647, .ofNat 2147483647), (.negSucc 2147483647, .ofNat 2147483647), (.negSucc 2147483647, .ofNat 2147483647), (.negSucc 2147483647, .ofNat 2147483647), (.negSucc 2147483647, .ofNat 2147483647), (.negSucc 2147483647, .ofNat 2147483647), (.negSucc 2147483647, .ofNat 2147483647), (.negSucc 2147483647, .ofNat 2147483647), (.negSucc 2147483647, .ofNat 2147483647), (.ofNat 3, .ofNat 3), (.negSucc 2147483647, .ofNat 2147483647), (.negSucc 2147483647, .ofNat 2147483647), (.negSucc 0, .ofNat 60), (.negSucc 0, .ofNat 60), (.negSucc 0, .ofNat 60), (.negSucc 0, .ofNat 60), (.ofNat 0, .ofNat 3), (.ofNat 0, .ofNat 3), (.ofNat 0, .ofNat 3), (.ofNat 0, .ofNat 3)] (false, [], [], [])), [(0, (2, 155, .ofNat 0)), (1, (0, 10, .ofNat 0)), (2, (0, 11, .ofNat 0)), (3, (0, 12, .ofNat 0))], [(0, 10, .ofNat 0)], [(172, 0, 4, (0, 13, .ofNat 0)), (173, 0, 4, (0, 17, .ofNat 0))], [], (.ofNat 248, []), none)
set_option maxRecDepth 100000 in
def zn89_6 : zNd := (1, (z_li [(.ofNat 0, .ofNat 0), (.negSucc 2147483647, .ofNat 2147483647), (.negSucc 2147483647, .ofNat 2147483647), (.negSucc 2147483647, .ofNat 2147483647), (.negSucc 2147483647, .ofNat 2147483647), (.negSucc 2147483647, .ofNat 2147483647), (.negSucc 2147483647, .ofNat 2147483647), (.negSucc 2147483647, .ofNat 2147483647), (.negSucc 2147483647, .ofNat 2147483647), (.negSucc 2147483647, .ofNat 2147483647), (.ofNat 4, .ofNat 2147483647), (.negSucc 2147483647, .ofNat 2147483647), (.negSucc 2147483647, .ofNat 2147483647), (.negSucc 0, .ofNat 60), (.negSucc 0, .ofNat 60), (.negSucc 0, .ofNat 60), (.negSucc 0, .ofNat 60), (.ofNat 0, .ofNat 3), (.ofNat 0, .ofNat 3), (.ofNat 0, .ofNat 3), (.ofNat 0, .ofNat 3)] (false, [], [], [])), [(0, (2, 155, .ofNat 0)), (1, (0, 10, .ofNat 0)), (2, (0, 11, .ofNat 0)), (3, (0, 12, .ofNat 0))], [(0, 10, .ofNat 0)], [(172, 0, 4, (0, 13, .ofNat 0)), (173, 0, 4, (0, 17, .ofNat 0))], [], (.ofNat 249, []), none)
set_option maxRecDepth 100000 in
def zn89_7 : zNd := (52, (z_li [(.ofNat 0, .ofNat 0), (.negSucc 2147483647, .ofNat 2147483647), (.negSucc 2147483647, .ofNat 2147483647), (.negSucc 2147483647, .ofNat 2147483647), (.negSucc 2147483647, .ofNat 2147483647), (.negSucc 2147483647, .ofNat 2147483647), (.negSucc 2147483647, .ofNat 2147483647), (.negSucc 2147483647, .ofNat 2147483647), (.negSucc 2147483647, .ofNat 2147483647), (.negSucc 2147483647, .ofNat 2147483647), (.ofNat 0, .ofNat 0), (.ofNat 0, .ofNat 3), (.ofNat 0, .ofNat 60), (.negSucc 0, .ofNat 60), (.negSucc 0, .ofNat 60), (.negSucc 0, .ofNat 60), (.negSucc 0, .ofNat 60), (.ofNat 0, .ofNat 3), (.ofNat 0, .ofNat 3), (.ofNat 0, .ofNat 3), (.ofNat 0, .ofNat 3), (.ofNat 0, .ofNat 60)] (false, [], [], [])), [(0, (2, 155, .ofNat 0)), (1, (0, 10, .ofNat 0)), (4, (0, 21, .ofNat 0))], [], [(172, 0, 1, (0, 12, .ofNat 0)), (172, 1, 3, (0, 14, .ofNat 0)), (173, 0, 1, (0, 11, .ofNat 0)), (173, 1, 3, (0, 18, .ofNat 0))], [(21, 1, 0, 4, 0)], (.ofNat 61, [(21, .negSucc 0)]), none)
set_option maxRecDepth 100000 in
def zn89_8 : zNd := (52, (z_li [(.ofNat 0, .ofNat 0), (.negSucc 2147483647, .ofNat 2147483647), (.negSucc 2147483647, .ofNat 2147483647), (.negSucc 2147483647, .ofNat 2147483647), (.negSucc 2147483647, .ofNat 2147483647), (.negSucc 2147483647, .ofNat 2147483647), (.negSucc 2147483647, .ofNat 2147483647), (.negSucc 2147483647, .ofNat 2147483647), (.negSucc 2147483647, .ofNat 2147483647), (.negSucc 2147483647, .ofNat 2147483647), (.ofNat 1, .ofNat 1), (.ofNat 0, .ofNat 3), (.ofNat 0, .ofNat 60), (.negSucc 0, .ofNat 60), (.negSucc 0, .ofNat 60), (.negSucc 0, .ofNat 60), (.negSucc 0, .ofNat 60), (.ofNat 0, .ofNat 3), (.ofNat 0, .ofNat 3), (.ofNat 0, .ofNat 3), (.ofNat 0, .ofNat 3), (.ofNat 0, .ofNat 60)] (false, [], [], [])), [(0, (2, 155, .ofNat 0)), (1, (0, 10, .ofNat 0)), (4, (0, 21, .ofNat 0))], [], [(172, 0, 1, (0, 13, .ofNat 0)), (172, 1, 1, (0, 12, .ofNat 0)), (172, 2, 2, (0, 15, .ofNat 0)), (173, 0, 1, (0, 17, .ofNat 0)), (173, 1, 1, (0, 11, .ofNat 0)), (173, 2, 2, (0, 19, .ofNat 0))], [(21, 1, 0, 4, 0)], (.ofNat 123, [(21, .negSucc 0)]), none)
set_option maxRecDepth 100000 in
def zn89_9 : zNd := (52, (z_li [(.ofNat 0, .ofNat 0), (.negSucc 2147483647, .ofNat 2147483647), (.negSucc 2147483647, .ofNat 2147483647), (.negSucc 2147483647, .ofNat 2147483647), (.negSucc 2147483647, .ofNat 2147483647), (.negSucc 2147483647, .ofNat 2147483647), (.negSucc 2147483647, .ofNat 2147483647), (.negSucc 2147483647, .ofNat 2147483647), (.negSucc 2147483647, .ofNat 2147483647), (.negSucc 2147483647, .ofNat 2147483647), (.ofNat 2, .ofNat 2), (.ofNat 0, .ofNat 3), (.ofNat 0, .ofNat 60), (.negSucc 0, .ofNat 60), (.negSucc 0, .ofNat 60), (.negSucc 0, .ofNat 60), (.negSucc 0, .ofNat 60), (.ofNat 0, .ofNat 3), (.ofNat 0, .ofNat 3), (.ofNat 0, .ofNat 3), (.ofNat 0, .ofNat 3), (.ofNat 0, .ofNat 60)] (false, [], [], [])), [(0, (2, 155, .ofNat 0)), (1, (0, 10, .ofNat 0)), (4, (0, 21, .ofNat 0))], [], [(172, 0, 2, (0, 13, .ofNat 0)), (172, 2, 1, (0, 12, .ofNat 0)), (172, 3, 1, (0, 16, .ofNat 0)), (173, 0, 2, (0, 17, .ofNat 0)), (173, 2, 1, (0, 11, .ofNat 0)), (173, 3, 1, (0, 20, .ofNat 0))], [(21, 1, 0, 4, 0)], (.ofNat 185, [(21, .negSucc 0)]), none)
set_option maxRecDepth 100000 in
def zn89_10 : zNd := (52, (z_li [(.ofNat 0, .ofNat 0), (.negSucc 2147483647, .ofNat 2147483647), (.negSucc 2147483647, .ofNat 2147483647), (.negSucc 2147483647, .ofNat 2147483647), (.negSucc 2147483647, .ofNat 2147483647), (.negSucc 2147483647, .ofNat 2147483647), (.negSucc 2147483647, .ofNat 2147483647), (.negSucc 2147483647, .ofNat 2147483647), (.negSucc 2147483647, .ofNat 2147483647), (.negSucc 2147483647, .ofNat 2147483647), (.ofNat 3, .ofNat 3), (.ofNat 0, .ofNat 3), (.ofNat 0, .ofNat 60), (.negSucc 0, .ofNat 60), (.negSucc 0, .ofNat 60), (.negSucc 0, .ofNat 60), (.negSucc 0, .ofNat 60), (.ofNat 0, .ofNat 3), (.ofNat 0, .ofNat 3), (.ofNat 0, .ofNat 3), (.ofNat 0, .ofNat 3), (.ofNat 0, .ofNat 60)] (false, [], [], [])), [(0, (2, 155, .ofNat 0)), (1, (0, 10, .ofNat 0)), (4, (0, 21, .ofNat 0))], [], [(172, 0, 3, (0, 13, .ofNat 0)), (172, 3, 1, (0, 12, .ofNat 0)), (173, 0, 3, (0, 17, .ofNat 0)), (173, 3, 1, (0, 11, .ofNat 0))], [(21, 1, 0, 4, 0)], (.ofNat 247, [(21, .negSucc 0)]), none)
def zg89_1 : List zNd := [zn89_0, zn89_1, zn89_2, zn89_3, zn89_4, zn89_5, zn89_6, zn89_7, zn89_8, zn89_9, zn89_10]
def znl89 : List zNd := zg89_1
set_option maxRecDepth 100000 in
theorem zk89_0 : z_ck0 zT1 (z_cnt zL0) 20000 [1, 52] zm215 zc89 znl89 = true := by decide +kernel
set_option maxRecDepth 100000 in
theorem zk89_1 : z_ckn zT1 (z_cnt zL0) 20000 [1, 52] zm215 zc89 znl89 zg89_1 = true := by decide +kernel
theorem zk89 : z_cok zT1 (z_cnt zL0) 20000 [1, 52] zm215 zc89 znl89 = true := z_cok_of zk89_0 (zk89_1)
set_option maxRecDepth 100000 in
theorem zk90 : z_cok zT1 (z_cnt zL0) 20000 [] zm217 zc90 [] = true := by decide +kernel
