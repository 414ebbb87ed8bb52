theorem zrn14 : zOnes (zx zTT true 1101 15 562 zmL 0 zpL (0, 0, zivr 14 14, [(0, (4, 0, 0))], [], z_o0)) = true := by decide +kernel
theorem zrn17 : zOnes (zx zTT true 1101 15 562 zmL 0 zpL (0, 0, zivr 17 17, [(0, (4, 0, 0))], [], z_o0)) = true := by decide +kernel
theorem zrn20 : zOnes (zx zTT true 1101 15 562 zmL 0 zpL (0, 0, zivr 20 20, [(0, (4, 0, 0))], [], z_o0)) = true := by decide +kernel
theorem zrn21 : zOnes (zx zTT true 1101 15 562 zmL 0 zpL (0, 0, zivr 21 21, [(0, (4, 0, 0))], [], z_o0)) = true := by decide +kernel
theorem zrn26 : zOnes (zx zTT true 1101 15 562 zmL 0 zpL (0, 0, zivr 26 26, [(0, (4, 0, 0))], [], z_o0)) = true := by decide +kernel
