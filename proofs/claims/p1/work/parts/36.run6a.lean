theorem zrn69 : zOnes (zx zTT true 949 15 562 zmL 0 zpL (0, 0, zivr 69 69, [(0, (4, 0, 0))], [], z_o0)) = true := by decide +kernel
