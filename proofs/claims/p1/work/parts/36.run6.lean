theorem zrun6 : zOnes (zx zTT true 2400 15 562 zmL 0 zpL (0, 0, ziv6, [(0, (4, 0, 0))], [], z_o0)) = true := by decide +kernel
