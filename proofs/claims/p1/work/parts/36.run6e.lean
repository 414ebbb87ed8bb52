theorem zrn24 : zOnes (zx zTT true 1121 15 562 zmL 0 zpL (0, 0, zivr 24 24, [(0, (4, 0, 0))], [], z_o0)) = true := by decide +kernel
theorem zrn29 : zOnes (zx zTT true 1101 15 562 zmL 0 zpL (0, 0, zivr 29 29, [(0, (4, 0, 0))], [], z_o0)) = true := by decide +kernel
theorem zrn35 : zOnes (zx zTT true 1101 15 562 zmL 0 zpL (0, 0, zivr 35 35, [(0, (4, 0, 0))], [], z_o0)) = true := by decide +kernel
