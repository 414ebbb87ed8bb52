def zivr (lo hi : Int) : zI := Prod.mk 10 (fun i => match i with
  | 0 => (0, 0)
  | 1 => (6, 6)
  | 8 => (0, 0)
  | 9 => (lo, hi)
  | _ => (-2147483648, 2147483647))
theorem zrn5 : zOnes (zx zTT true 300 15 562 zmL 0 zpL (0, 0, zivr 5 5, [(0, (4, 0, 0))], [], z_o0)) = true := by decide +kernel
theorem zrn6 : zOnes (zx zTT true 300 15 562 zmL 0 zpL (0, 0, zivr 6 6, [(0, (4, 0, 0))], [], z_o0)) = true := by decide +kernel
theorem zrn7 : zOnes (zx zTT true 300 15 562 zmL 0 zpL (0, 0, zivr 7 7, [(0, (4, 0, 0))], [], z_o0)) = true := by decide +kernel
theorem zrn9 : zOnes (zx zTT true 1111 15 562 zmL 0 zpL (0, 0, zivr 9 9, [(0, (4, 0, 0))], [], z_o0)) = true := by decide +kernel
theorem zrn19 : zOnes (zx zTT true 1111 15 562 zmL 0 zpL (0, 0, zivr 19 19, [(0, (4, 0, 0))], [], z_o0)) = true := by decide +kernel
theorem zrn20 : zOnes (zx zTT true 1101 15 562 zmL 0 zpL (0, 0, zivr 20 20, [(0, (4, 0, 0))], [], z_o0)) = true := by decide +kernel
theorem zrn28 : zOnes (zx zTT true 1101 15 562 zmL 0 zpL (0, 0, zivr 28 28, [(0, (4, 0, 0))], [], z_o0)) = true := by decide +kernel
theorem zrn31 : zOnes (zx zTT true 300 15 562 zmL 0 zpL (0, 0, zivr 31 31, [(0, (4, 0, 0))], [], z_o0)) = true := by decide +kernel
theorem zrn36 : zOnes (zx zTT true 1097 15 562 zmL 0 zpL (0, 0, zivr 36 36, [(0, (4, 0, 0))], [], z_o0)) = true := by decide +kernel
theorem zrn37 : zOnes (zx zTT true 1087 15 562 zmL 0 zpL (0, 0, zivr 37 37, [(0, (4, 0, 0))], [], z_o0)) = true := by decide +kernel
theorem zrn48 : zOnes (zx zTT true 300 15 562 zmL 0 zpL (0, 0, zivr 48 48, [(0, (4, 0, 0))], [], z_o0)) = true := by decide +kernel
theorem zrn52 : zOnes (zx zTT true 1087 15 562 zmL 0 zpL (0, 0, zivr 52 52, [(0, (4, 0, 0))], [], z_o0)) = true := by decide +kernel
theorem zrn55 : zOnes (zx zTT true 300 15 562 zmL 0 zpL (0, 0, zivr 55 55, [(0, (4, 0, 0))], [], z_o0)) = true := by decide +kernel
theorem zrn59 : zOnes (zx zTT true 300 15 562 zmL 0 zpL (0, 0, zivr 59 59, [(0, (4, 0, 0))], [], z_o0)) = true := by decide +kernel
theorem zrn68 : zOnes (zx zTT true 300 15 562 zmL 0 zpL (0, 0, zivr 68 68, [(0, (4, 0, 0))], [], z_o0)) = true := by decide +kernel
theorem zrn69 : zOnes (zx zTT true 949 15 562 zmL 0 zpL (0, 0, zivr 69 69, [(0, (4, 0, 0))], [], z_o0)) = true := by decide +kernel
theorem zrn72 : zOnes (zx zTT true 300 15 562 zmL 0 zpL (0, 0, zivr 72 127, [(0, (4, 0, 0))], [], z_o0)) = true := by decide +kernel
