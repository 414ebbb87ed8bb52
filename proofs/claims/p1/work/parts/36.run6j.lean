theorem zrn16 : zOnes (zx zTT true 1087 15 562 zmL 0 zpL (0, 0, zivr 16 16, [(0, (4, 0, 0))], [], z_o0)) = true := by decide +kernel
theorem zrn27 : zOnes (zx zTT true 1101 15 562 zmL 0 zpL (0, 0, zivr 27 27, [(0, (4, 0, 0))], [], z_o0)) = true := by decide +kernel
theorem zrn28 : zOnes (zx zTT true 1101 15 562 zmL 0 zpL (0, 0, zivr 28 28, [(0, (4, 0, 0))], [], z_o0)) = true := by decide +kernel
theorem zrn34 : zOnes (zx zTT true 1087 15 562 zmL 0 zpL (0, 0, zivr 34 34, [(0, (4, 0, 0))], [], z_o0)) = true := by decide +kernel
theorem zrn51 : zOnes (zx zTT true 1097 15 562 zmL 0 zpL (0, 0, zivr 51 51, [(0, (4, 0, 0))], [], z_o0)) = true := by decide +kernel
