theorem zrn37 : zOnes (zx zTT true 1087 15 562 zmL 0 zpL (0, 0, zivr 37 37, [(0, (4, 0, 0))], [], z_o0)) = true := by decide +kernel
theorem zrn38 : zOnes (zx zTT true 1087 15 562 zmL 0 zpL (0, 0, zivr 38 38, [(0, (4, 0, 0))], [], z_o0)) = true := by decide +kernel
theorem zrn43 : zOnes (zx zTT true 1087 15 562 zmL 0 zpL (0, 0, zivr 43 43, [(0, (4, 0, 0))], [], z_o0)) = true := by decide +kernel
theorem zrn44 : zOnes (zx zTT true 1087 15 562 zmL 0 zpL (0, 0, zivr 44 44, [(0, (4, 0, 0))], [], z_o0)) = true := by decide +kernel
theorem zrn52 : zOnes (zx zTT true 1087 15 562 zmL 0 zpL (0, 0, zivr 52 52, [(0, (4, 0, 0))], [], z_o0)) = true := by decide +kernel
