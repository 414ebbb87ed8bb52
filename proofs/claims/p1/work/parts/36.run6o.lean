theorem zrn31 : zOnes (zx zTT true 300 15 562 zmL 0 zpL (0, 0, zivr 31 31, [(0, (4, 0, 0))], [], z_o0)) = true := by decide +kernel
theorem zrn32 : zOnes (zx zTT true 300 15 562 zmL 0 zpL (0, 0, zivr 32 32, [(0, (4, 0, 0))], [], z_o0)) = true := by decide +kernel
theorem zrn33 : zOnes (zx zTT true 300 15 562 zmL 0 zpL (0, 0, zivr 33 33, [(0, (4, 0, 0))], [], z_o0)) = true := by decide +kernel
theorem zrn61 : zOnes (zx zTT true 300 15 562 zmL 0 zpL (0, 0, zivr 61 61, [(0, (4, 0, 0))], [], z_o0)) = true := by decide +kernel
theorem zrn62 : zOnes (zx zTT true 300 15 562 zmL 0 zpL (0, 0, zivr 62 62, [(0, (4, 0, 0))], [], z_o0)) = true := by decide +kernel
theorem zrn63 : zOnes (zx zTT true 300 15 562 zmL 0 zpL (0, 0, zivr 63 63, [(0, (4, 0, 0))], [], z_o0)) = true := by decide +kernel
theorem zrn72 : zOnes (zx zTT true 300 15 562 zmL 0 zpL (0, 0, zivr 72 127, [(0, (4, 0, 0))], [], z_o0)) = true := by decide +kernel
