def zivr (lo hi : Int) : zI := Prod.mk 10 (fun i => match i with
  | 0 => (0, 0)
  | 1 => (6, 6)
  | 8 => (0, 0)
  | 9 => (lo, hi)
  | _ => (-2147483648, 2147483647))
theorem zrn69 : zOnes (zx zTT true 949 15 562 zmL 0 zpL (0, 0, zivr 69 69, [(0, (4, 0, 0))], [], z_o0)) = true := by decide +kernel
