theorem zrn2 : zOnes (zx zTT true 2390 15 562 zmL 0 zpL (0, 0, zivr 2 2, [(0, (4, 0, 0))], [], z_o0)) = true := by decide +kernel
theorem zrn67 : zOnes (zx zTT true 1776 15 562 zmL 0 zpL (0, 0, zivr 67 67, [(0, (4, 0, 0))], [], z_o0)) = true := by decide +kernel
theorem zrn68 : zOnes (zx zTT true 300 15 562 zmL 0 zpL (0, 0, zivr 68 68, [(0, (4, 0, 0))], [], z_o0)) = true := by decide +kernel
