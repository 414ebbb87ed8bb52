theorem zrn9 : zOnes (zx zTT true 1111 15 562 zmL 0 zpL (0, 0, zivr 9 9, [(0, (4, 0, 0))], [], z_o0)) = true := by decide +kernel
theorem zrn10 : zOnes (zx zTT true 1101 15 562 zmL 0 zpL (0, 0, zivr 10 10, [(0, (4, 0, 0))], [], z_o0)) = true := by decide +kernel
theorem zrn50 : zOnes (zx zTT true 300 15 562 zmL 0 zpL (0, 0, zivr 50 50, [(0, (4, 0, 0))], [], z_o0)) = true := by decide +kernel
theorem zrn54 : zOnes (zx zTT true 1104 15 562 zmL 0 zpL (0, 0, zivr 54 54, [(0, (4, 0, 0))], [], z_o0)) = true := by decide +kernel
theorem zrn64 : zOnes (zx zTT true 300 15 562 zmL 0 zpL (0, 0, zivr 64 64, [(0, (4, 0, 0))], [], z_o0)) = true := by decide +kernel
