theorem zrn0 : zOnes (zx zTT true 683 15 562 zmL 0 zpL (0, 0, zivr 0 0, [(0, (4, 0, 0))], [], z_o0)) = true := by decide +kernel
theorem zrn45 : zOnes (zx zTT true 300 15 562 zmL 0 zpL (0, 0, zivr 45 45, [(0, (4, 0, 0))], [], z_o0)) = true := by decide +kernel
theorem zrn53 : zOnes (zx zTT true 1094 15 562 zmL 0 zpL (0, 0, zivr 53 53, [(0, (4, 0, 0))], [], z_o0)) = true := by decide +kernel
theorem zrn56 : zOnes (zx zTT true 300 15 562 zmL 0 zpL (0, 0, zivr 56 56, [(0, (4, 0, 0))], [], z_o0)) = true := by decide +kernel
theorem zrn59 : zOnes (zx zTT true 300 15 562 zmL 0 zpL (0, 0, zivr 59 59, [(0, (4, 0, 0))], [], z_o0)) = true := by decide +kernel
theorem zrn66 : zOnes (zx zTT true 300 15 562 zmL 0 zpL (0, 0, zivr 66 66, [(0, (4, 0, 0))], [], z_o0)) = true := by decide +kernel
theorem zrn71 : zOnes (zx zTT true 300 15 562 zmL 0 zpL (0, 0, zivr 71 71, [(0, (4, 0, 0))], [], z_o0)) = true := by decide +kernel
