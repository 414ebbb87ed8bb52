theorem zrn15 : zOnes (zx zTT true 1101 15 562 zmL 0 zpL (0, 0, zivr 15 15, [(0, (4, 0, 0))], [], z_o0)) = true := by decide +kernel
theorem zrn22 : zOnes (zx zTT true 1101 15 562 zmL 0 zpL (0, 0, zivr 22 22, [(0, (4, 0, 0))], [], z_o0)) = true := by decide +kernel
theorem zrn23 : zOnes (zx zTT true 1101 15 562 zmL 0 zpL (0, 0, zivr 23 23, [(0, (4, 0, 0))], [], z_o0)) = true := by decide +kernel
