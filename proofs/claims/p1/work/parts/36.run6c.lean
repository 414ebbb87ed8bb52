theorem zrn12 : zOnes (zx zTT true 1101 15 562 zmL 0 zpL (0, 0, zivr 12 12, [(0, (4, 0, 0))], [], z_o0)) = true := by decide +kernel
theorem zrn13 : zOnes (zx zTT true 1101 15 562 zmL 0 zpL (0, 0, zivr 13 13, [(0, (4, 0, 0))], [], z_o0)) = true := by decide +kernel
theorem zrn25 : zOnes (zx zTT true 1107 15 562 zmL 0 zpL (0, 0, zivr 25 25, [(0, (4, 0, 0))], [], z_o0)) = true := by decide +kernel
