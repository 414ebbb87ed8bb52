set_option maxRecDepth 100000 in
theorem zk83_60 : z_ckn zT1 (z_cnt zL0) 20000 [2, 23, 24] zm206 zc83 znl83 zg83_60 = true := by decide +kernel
set_option maxRecDepth 100000 in
theorem zk83_61 : z_ckn zT1 (z_cnt zL0) 20000 [2, 23, 24] zm206 zc83 znl83 zg83_61 = true := by decide +kernel
set_option maxRecDepth 100000 in
theorem zk83_62 : z_ckn zT1 (z_cnt zL0) 20000 [2, 23, 24] zm206 zc83 znl83 zg83_62 = true := by decide +kernel
set_option maxRecDepth 100000 in
theorem zk83_63 : z_ckn zT1 (z_cnt zL0) 20000 [2, 23, 24] zm206 zc83 znl83 zg83_63 = true := by decide +kernel
set_option maxRecDepth 100000 in
theorem zk83_64 : z_ckn zT1 (z_cnt zL0) 20000 [2, 23, 24] zm206 zc83 znl83 zg83_64 = true := by decide +kernel
set_option maxRecDepth 100000 in
theorem zk83_65 : z_ckn zT1 (z_cnt zL0) 20000 [2, 23, 24] zm206 zc83 znl83 zg83_65 = true := by decide +kernel
set_option maxRecDepth 100000 in
theorem zk83_66 : z_ckn zT1 (z_cnt zL0) 20000 [2, 23, 24] zm206 zc83 znl83 zg83_66 = true := by decide +kernel
set_option maxRecDepth 100000 in
theorem zk83_67 : z_ckn zT1 (z_cnt zL0) 20000 [2, 23, 24] zm206 zc83 znl83 zg83_67 = true := by decide +kernel
set_option maxRecDepth 100000 in
theorem zk83_68 : z_ckn zT1 (z_cnt zL0) 20000 [2, 23, 24] zm206 zc83 znl83 zg83_68 = true := by decide +kernel
set_option maxRecDepth 100000 in
theorem zk83_69 : z_ckn zT1 (z_cnt zL0) 20000 [2, 23, 24] zm206 zc83 znl83 zg83_69 = true := by decide +kernel
set_option maxRecDepth 100000 in
theorem zk83_70 : z_ckn zT1 (z_cnt zL0) 20000 [2, 23, 24] zm206 zc83 znl83 zg83_70 = true := by decide +kernel
set_option maxRecDepth 100000 in
theorem zk83_71 : z_ckn zT1 (z_cnt zL0) 20000 [2, 23, 24] zm206 zc83 znl83 zg83_71 = true := by decide +kernel
set_option maxRecDepth 100000 in
theorem zk83_72 : z_ckn zT1 (z_cnt zL0) 20000 [2, 23, 24] zm206 zc83 znl83 zg83_72 = true := by decide +kernel
set_option maxRecDepth 100000 in
theorem zk83_73 : z_ckn zT1 (z_cnt zL0) 20000 [2, 23, 24] zm206 zc83 znl83 zg83_73 = true := by decide +kernel
set_option maxRecDepth 100000 in
theorem zk83_74 : z_ckn zT1 (z_cnt zL0) 20000 [2, 23, 24] zm206 zc83 znl83 zg83_74 = true := by decide +kernel
set_option maxRecDepth 100000 in
theorem zk83_75 : z_ckn zT1 (z_cnt zL0) 20000 [2, 23, 24] zm206 zc83 znl83 zg83_75 = true := by decide +kernel
set_option maxRecDepth 100000 in
theorem zk83_76 : z_ckn zT1 (z_cnt zL0) 20000 [2, 23, 24] zm206 zc83 znl83 zg83_76 = true := by decide +kernel
set_option maxRecDepth 100000 in
theorem zk83_77 : z_ckn zT1 (z_cnt zL0) 20000 [2, 23, 24] zm206 zc83 znl83 zg83_77 = true := by decide +kernel
set_option maxRecDepth 100000 in
theorem zk83_78 : z_ckn zT1 (z_cnt zL0) 20000 [2, 23, 24] zm206 zc83 znl83 zg83_78 = true := by decide +kernel
set_option maxRecDepth 100000 in
theorem zk83_79 : z_ckn zT1 (z_cnt zL0) 20000 [2, 23, 24] zm206 zc83 znl83 zg83_79 = true := by decide +kernel
set_option maxRecDepth 100000 in
theorem zk83_80 : z_ckn zT1 (z_cnt zL0) 20000 [2, 23, 24] zm206 zc83 znl83 zg83_80 = true := by decide +kernel
set_option maxRecDepth 100000 in
theorem zk83_81 : z_ckn zT1 (z_cnt zL0) 20000 [2, 23, 24] zm206 zc83 znl83 zg83_81 = true := by decide +kernel
set_option maxRecDepth 100000 in
theorem zk83_82 : z_ckn zT1 (z_cnt zL0) 20000 [2, 23, 24] zm206 zc83 znl83 zg83_82 = true := by decide +kernel
set_option maxRecDepth 100000 in
theorem zk83_83 : z_ckn zT1 (z_cnt zL0) 20000 [2, 23, 24] zm206 zc83 znl83 zg83_83 = true := by decide +kernel
set_option maxRecDepth 100000 in
theorem zk83_84 : z_ckn zT1 (z_cnt zL0) 20000 [2, 23, 24] zm206 zc83 znl83 zg83_84 = true := by decide +kernel
set_option maxRecDepth 100000 in
theorem zk83_85 : z_ckn zT1 (z_cnt zL0) 20000 [2, 23, 24] zm206 zc83 znl83 zg83_85 = true := by decide +kernel
set_option maxRecDepth 100000 in
theorem zk83_86 : z_ckn zT1 (z_cnt zL0) 20000 [2, 23, 24] zm206 zc83 znl83 zg83_86 = true := by decide +kernel
set_option maxRecDepth 100000 in
theorem zk83_87 : z_ckn zT1 (z_cnt zL0) 20000 [2, 23, 24] zm206 zc83 znl83 zg83_87 = true := by decide +kernel
set_option maxRecDepth 100000 in
theorem zk83_88 : z_ckn zT1 (z_cnt zL0) 20000 [2, 23, 24] zm206 zc83 znl83 zg83_88 = true := by decide +kernel
set_option maxRecDepth 100000 in
theorem zk83_89 : z_ckn zT1 (z_cnt zL0) 20000 [2, 23, 24] zm206 zc83 znl83 zg83_89 = true := by decide +kernel
