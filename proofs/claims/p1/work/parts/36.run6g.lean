theorem zrn18 : zOnes (zx zTT true 1111 15 562 zmL 0 zpL (0, 0, zivr 18 18, [(0, (4, 0, 0))], [], z_o0)) = true := by decide +kernel
theorem zrn19 : zOnes (zx zTT true 1111 15 562 zmL 0 zpL (0, 0, zivr 19 19, [(0, (4, 0, 0))], [], z_o0)) = true := by decide +kernel
theorem zrn30 : zOnes (zx zTT true 1111 15 562 zmL 0 zpL (0, 0, zivr 30 30, [(0, (4, 0, 0))], [], z_o0)) = true := by decide +kernel
