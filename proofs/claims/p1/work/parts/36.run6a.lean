def zivr (lo hi : Int) : zI := Prod.mk 9 (fun i => match i with
  | 0 => (0, 0)
  | 1 => (6, 6)
  | 2 => (lo, hi)
  | 8 => (0, 0)
  | _ => (-2147483648, 2147483647))
theorem zrn0 : zOnes (zx zTT true 2390 15 562 zmL 0 zpL (0, 0, zivr (-2147483648) 2147483647, [(0, (4, 0, 0))], [], z_o0)) = true := by decide +kernel
