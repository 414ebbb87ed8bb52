def zOnes (o : Option (List zOu)) : Bool := match o with
  | some l => l.all (fun q => decide (q.2.1 = some (0, 0, 1)))
  | none => false
def ziv5 : zI := Prod.mk 10 (fun i => match i with
  | 0 => (0, 0)
  | 1 => (0, 5)
  | 8 => (0, 0)
  | 9 => (0, 0)
  | _ => (-2147483648, 2147483647))
def zivr (lo hi : Int) : zI := Prod.mk 10 (fun i => match i with
  | 0 => (0, 0)
  | 1 => (6, 6)
  | 8 => (0, 0)
  | 9 => (lo, hi)
  | _ => (-2147483648, 2147483647))
theorem zrun5 : zOnes (zx zTT false 300 15 562 zmL 0 zpL (0, 0, ziv5, [(0, (4, 0, 0))], [], z_o0)) = true := by decide +kernel
