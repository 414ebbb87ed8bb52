theorem zrn8 : zOnes (zx zTT true 1111 15 562 zmL 0 zpL (0, 0, zivr 8 8, [(0, (4, 0, 0))], [], z_o0)) = true := by decide +kernel
theorem zrn11 : zOnes (zx zTT true 1111 15 562 zmL 0 zpL (0, 0, zivr 11 11, [(0, (4, 0, 0))], [], z_o0)) = true := by decide +kernel
theorem zrn36 : zOnes (zx zTT true 1097 15 562 zmL 0 zpL (0, 0, zivr 36 36, [(0, (4, 0, 0))], [], z_o0)) = true := by decide +kernel
