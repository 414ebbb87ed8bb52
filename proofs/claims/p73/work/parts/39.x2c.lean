set_option maxRecDepth 100000 in
theorem zk83_30 : z_ckn zT1 (z_cnt zL0) 20000 [2, 23, 24] zm206 zc83 znl83 zg83_30 = true := by decide +kernel
set_option maxRecDepth 100000 in
theorem zk83_31 : z_ckn zT1 (z_cnt zL0) 20000 [2, 23, 24] zm206 zc83 znl83 zg83_31 = true := by decide +kernel
set_option maxRecDepth 100000 in
theorem zk83_32 : z_ckn zT1 (z_cnt zL0) 20000 [2, 23, 24] zm206 zc83 znl83 zg83_32 = true := by decide +kernel
set_option maxRecDepth 100000 in
theorem zk83_33 : z_ckn zT1 (z_cnt zL0) 20000 [2, 23, 24] zm206 zc83 znl83 zg83_33 = true := by decide +kernel
set_option maxRecDepth 100000 in
theorem zk83_34 : z_ckn zT1 (z_cnt zL0) 20000 [2, 23, 24] zm206 zc83 znl83 zg83_34 = true := by decide +kernel
set_option maxRecDepth 100000 in
theorem zk83_35 : z_ckn zT1 (z_cnt zL0) 20000 [2, 23, 24] zm206 zc83 znl83 zg83_35 = true := by decide +kernel
set_option maxRecDepth 100000 in
theorem zk83_36 : z_ckn zT1 (z_cnt zL0) 20000 [2, 23, 24] zm206 zc83 znl83 zg83_36 = true := by decide +kernel
set_option maxRecDepth 100000 in
theorem zk83_37 : z_ckn zT1 (z_cnt zL0) 20000 [2, 23, 24] zm206 zc83 znl83 zg83_37 = true := by decide +kernel
set_option maxRecDepth 100000 in
theorem zk83_38 : z_ckn zT1 (z_cnt zL0) 20000 [2, 23, 24] zm206 zc83 znl83 zg83_38 = true := by decide +kernel
set_option maxRecDepth 100000 in
theorem zk83_39 : z_ckn zT1 (z_cnt zL0) 20000 [2, 23, 24] zm206 zc83 znl83 zg83_39 = true := by decide +kernel
set_option maxRecDepth 100000 in
theorem zk83_40 : z_ckn zT1 (z_cnt zL0) 20000 [2, 23, 24] zm206 zc83 znl83 zg83_40 = true := by decide +kernel
set_option maxRecDepth 100000 in
theorem zk83_41 : z_ckn zT1 (z_cnt zL0) 20000 [2, 23, 24] zm206 zc83 znl83 zg83_41 = true := by decide +kernel
set_option maxRecDepth 100000 in
theorem zk83_42 : z_ckn zT1 (z_cnt zL0) 20000 [2, 23, 24] zm206 zc83 znl83 zg83_42 = true := by decide +kernel
set_option maxRecDepth 100000 in
theorem zk83_43 : z_ckn zT1 (z_cnt zL0) 20000 [2, 23, 24] zm206 zc83 znl83 zg83_43 = true := by decide +kernel
set_option maxRecDepth 100000 in
theorem zk83_44 : z_ckn zT1 (z_cnt zL0) 20000 [2, 23, 24] zm206 zc83 znl83 zg83_44 = true := by decide +kernel
set_option maxRecDepth 100000 in
theorem zk83_45 : z_ckn zT1 (z_cnt zL0) 20000 [2, 23, 24] zm206 zc83 znl83 zg83_45 = true := by decide +kernel
set_option maxRecDepth 100000 in
theorem zk83_46 : z_ckn zT1 (z_cnt zL0) 20000 [2, 23, 24] zm206 zc83 znl83 zg83_46 = true := by decide +kernel
set_option maxRecDepth 100000 in
theorem zk83_47 : z_ckn zT1 (z_cnt zL0) 20000 [2, 23, 24] zm206 zc83 znl83 zg83_47 = true := by decide +kernel
set_option maxRecDepth 100000 in
theorem zk83_48 : z_ckn zT1 (z_cnt zL0) 20000 [2, 23, 24] zm206 zc83 znl83 zg83_48 = true := by decide +kernel
set_option maxRecDepth 100000 in
theorem zk83_49 : z_ckn zT1 (z_cnt zL0) 20000 [2, 23, 24] zm206 zc83 znl83 zg83_49 = true := by decide +kernel
set_option maxRecDepth 100000 in
theorem zk83_50 : z_ckn zT1 (z_cnt zL0) 20000 [2, 23, 24] zm206 zc83 znl83 zg83_50 = true := by decide +kernel
set_option maxRecDepth 100000 in
theorem zk83_51 : z_ckn zT1 (z_cnt zL0) 20000 [2, 23, 24] zm206 zc83 znl83 zg83_51 = true := by decide +kernel
set_option maxRecDepth 100000 in
theorem zk83_52 : z_ckn zT1 (z_cnt zL0) 20000 [2, 23, 24] zm206 zc83 znl83 zg83_52 = true := by decide +kernel
set_option maxRecDepth 100000 in
theorem zk83_53 : z_ckn zT1 (z_cnt zL0) 20000 [2, 23, 24] zm206 zc83 znl83 zg83_53 = true := by decide +kernel
set_option maxRecDepth 100000 in
theorem zk83_54 : z_ckn zT1 (z_cnt zL0) 20000 [2, 23, 24] zm206 zc83 znl83 zg83_54 = true := by decide +kernel
set_option maxRecDepth 100000 in
theorem zk83_55 : z_ckn zT1 (z_cnt zL0) 20000 [2, 23, 24] zm206 zc83 znl83 zg83_55 = true := by decide +kernel
set_option maxRecDepth 100000 in
theorem zk83_56 : z_ckn zT1 (z_cnt zL0) 20000 [2, 23, 24] zm206 zc83 znl83 zg83_56 = true := by decide +kernel
set_option maxRecDepth 100000 in
theorem zk83_57 : z_ckn zT1 (z_cnt zL0) 20000 [2, 23, 24] zm206 zc83 znl83 zg83_57 = true := by decide +kernel
set_option maxRecDepth 100000 in
theorem zk83_58 : z_ckn zT1 (z_cnt zL0) 20000 [2, 23, 24] zm206 zc83 znl83 zg83_58 = true := by decide +kernel
set_option maxRecDepth 100000 in
theorem zk83_59 : z_ckn zT1 (z_cnt zL0) 20000 [2, 23, 24] zm206 zc83 znl83 zg83_59 = true := by decide +kernel
