/-! ===== instructions by their codes: a tree of small definitions ===== -/
/-- ends and calls: 0 return, 1 of an int, 2 of a long, 4 virtual, 5 static, 6 special -/
def z_spk (i : Instr) : Option (Nat × Nat) := match i with
  | .return_ => some (0, 0)
  | .ireturn => some (1, 0)
  | .lreturn => some (2, 0)
  | .invokevirtual k => some (4, k)
  | .invokestatic k => some (5, k)
  | .invokespecial k => some (6, k)
  | _ => none
def z_prs (L : List Int) : List (Int × Int) := match L with
  | a :: b :: r => (a, b) :: z_prs r
  | _ => []
def z_ts (z : Int) (L : List Int) : Instr := match L with
  | lo :: hi :: r => .tableswitch z lo hi r.toArray
  | _ => .nop
def z_tsC (pc : Nat) (z : Int) (L : List Int) (st : zS) : zR := match L with
  | lo :: hi :: r => z_tsw pc z lo hi r.toArray st
  | _ => none
theorem z_tsC_eq {T : zTb} {fl : zFl} {M : zM} {pc len : Nat} {z : Int} {L : List Int} {st : zS} : z_tsC pc z L st = zstep T fl M pc (z_ts z L) len st := by
  unfold z_tsC z_ts
  split
  · rfl
  · rfl
def zD0 (k n : Nat) (z : Int) (L : List Int) : Instr := bif Nat.beq k 0 then .iconst z else .nop
def zS0 (T : zTb) (fl : zFl) (M : zM) (pc k n : Nat) (z : Int) (L : List Int) (len : Nat) (st : zS) : zR := bif Nat.beq k 0 then z_g len 1 (z_ipush z st) else none
theorem zE0 {T : zTb} {fl : zFl} {M : zM} {pc k n : Nat} {z : Int} {L : List Int} {len : Nat} {st : zS} : zS0 T fl M pc k n z L len st = zstep T fl M pc (zD0 k n z L) len st := by
  unfold zS0 zD0
  cases Nat.beq k 0 with
  | true => exact rfl
  | false => rfl
theorem zK0 {k n : Nat} {z : Int} {L : List Int} : z_spk (zD0 k n z L) = none := by
  unfold zD0
  cases Nat.beq k 0 with
  | true => rfl
  | false => rfl
def zD1 (k n : Nat) (z : Int) (L : List Int) : Instr := bif Nat.beq k 1 then .bipush z else .nop
def zS1 (T : zTb) (fl : zFl) (M : zM) (pc k n : Nat) (z : Int) (L : List Int) (len : Nat) (st : zS) : zR := bif Nat.beq k 1 then z_g len 2 (z_bpush z st) else none
theorem zE1 {T : zTb} {fl : zFl} {M : zM} {pc k n : Nat} {z : Int} {L : List Int} {len : Nat} {st : zS} : zS1 T fl M pc k n z L len st = zstep T fl M pc (zD1 k n z L) len st := by
  unfold zS1 zD1
  cases Nat.beq k 1 with
  | true => exact rfl
  | false => rfl
theorem zK1 {k n : Nat} {z : Int} {L : List Int} : z_spk (zD1 k n z L) = none := by
  unfold zD1
  cases Nat.beq k 1 with
  | true => rfl
  | false => rfl
def zD2 (k n : Nat) (z : Int) (L : List Int) : Instr := bif Nat.beq k 2 then .sipush z else .nop
def zS2 (T : zTb) (fl : zFl) (M : zM) (pc k n : Nat) (z : Int) (L : List Int) (len : Nat) (st : zS) : zR := bif Nat.beq k 2 then z_g len 3 (z_ipush z st) else none
theorem zE2 {T : zTb} {fl : zFl} {M : zM} {pc k n : Nat} {z : Int} {L : List Int} {len : Nat} {st : zS} : zS2 T fl M pc k n z L len st = zstep T fl M pc (zD2 k n z L) len st := by
  unfold zS2 zD2
  cases Nat.beq k 2 with
  | true => exact rfl
  | false => rfl
theorem zK2 {k n : Nat} {z : Int} {L : List Int} : z_spk (zD2 k n z L) = none := by
  unfold zD2
  cases Nat.beq k 2 with
  | true => rfl
  | false => rfl
def zD3 (k n : Nat) (z : Int) (L : List Int) : Instr := bif Nat.blt k 2 then zD1 k n z L else zD2 k n z L
def zS3 (T : zTb) (fl : zFl) (M : zM) (pc k n : Nat) (z : Int) (L : List Int) (len : Nat) (st : zS) : zR := bif Nat.blt k 2 then zS1 T fl M pc k n z L len st else zS2 T fl M pc k n z L len st
theorem zE3 {T : zTb} {fl : zFl} {M : zM} {pc k n : Nat} {z : Int} {L : List Int} {len : Nat} {st : zS} : zS3 T fl M pc k n z L len st = zstep T fl M pc (zD3 k n z L) len st := by
  unfold zS3 zD3
  cases Nat.blt k 2 with
  | true => exact zE1 (n := n) (z := z) (L := L)
  | false => exact zE2 (n := n) (z := z) (L := L)
theorem zK3 {k n : Nat} {z : Int} {L : List Int} : z_spk (zD3 k n z L) = none := by
  unfold zD3
  cases Nat.blt k 2 with
  | true => exact zK1 (n := n) (z := z) (L := L)
  | false => exact zK2 (n := n) (z := z) (L := L)
def zD4 (k n : Nat) (z : Int) (L : List Int) : Instr := bif Nat.blt k 1 then zD0 k n z L else zD3 k n z L
def zS4 (T : zTb) (fl : zFl) (M : zM) (pc k n : Nat) (z : Int) (L : List Int) (len : Nat) (st : zS) : zR := bif Nat.blt k 1 then zS0 T fl M pc k n z L len st else zS3 T fl M pc k n z L len st
theorem zE4 {T : zTb} {fl : zFl} {M : zM} {pc k n : Nat} {z : Int} {L : List Int} {len : Nat} {st : zS} : zS4 T fl M pc k n z L len st = zstep T fl M pc (zD4 k n z L) len st := by
  unfold zS4 zD4
  cases Nat.blt k 1 with
  | true => exact zE0 (n := n) (z := z) (L := L)
  | false => exact zE3 (n := n) (z := z) (L := L)
theorem zK4 {k n : Nat} {z : Int} {L : List Int} : z_spk (zD4 k n z L) = none := by
  unfold zD4
  cases Nat.blt k 1 with
  | true => exact zK0 (n := n) (z := z) (L := L)
  | false => exact zK3 (n := n) (z := z) (L := L)
def zD5 (k n : Nat) (z : Int) (L : List Int) : Instr := bif Nat.beq k 3 then .lconst 0 else .nop
def zS5 (T : zTb) (fl : zFl) (M : zM) (pc k n : Nat) (z : Int) (L : List Int) (len : Nat) (st : zS) : zR := bif Nat.beq k 3 then z_g len 1 (z_push (1, 0, 0) st) else none
theorem zE5 {T : zTb} {fl : zFl} {M : zM} {pc k n : Nat} {z : Int} {L : List Int} {len : Nat} {st : zS} : zS5 T fl M pc k n z L len st = zstep T fl M pc (zD5 k n z L) len st := by
  unfold zS5 zD5
  cases Nat.beq k 3 with
  | true => exact rfl
  | false => rfl
theorem zK5 {k n : Nat} {z : Int} {L : List Int} : z_spk (zD5 k n z L) = none := by
  unfold zD5
  cases Nat.beq k 3 with
  | true => rfl
  | false => rfl
def zD6 (k n : Nat) (z : Int) (L : List Int) : Instr := bif Nat.beq k 4 then .lconst 1 else .nop
def zS6 (T : zTb) (fl : zFl) (M : zM) (pc k n : Nat) (z : Int) (L : List Int) (len : Nat) (st : zS) : zR := bif Nat.beq k 4 then z_g len 1 (z_push (1, 0, 1) st) else none
theorem zE6 {T : zTb} {fl : zFl} {M : zM} {pc k n : Nat} {z : Int} {L : List Int} {len : Nat} {st : zS} : zS6 T fl M pc k n z L len st = zstep T fl M pc (zD6 k n z L) len st := by
  unfold zS6 zD6
  cases Nat.beq k 4 with
  | true => exact rfl
  | false => rfl
theorem zK6 {k n : Nat} {z : Int} {L : List Int} : z_spk (zD6 k n z L) = none := by
  unfold zD6
  cases Nat.beq k 4 with
  | true => rfl
  | false => rfl
def zD7 (k n : Nat) (z : Int) (L : List Int) : Instr := bif Nat.beq k 5 then .aconst_null else .nop
def zS7 (T : zTb) (fl : zFl) (M : zM) (pc k n : Nat) (z : Int) (L : List Int) (len : Nat) (st : zS) : zR := bif Nat.beq k 5 then z_g len 1 (z_push (3, 0, 0) st) else none
theorem zE7 {T : zTb} {fl : zFl} {M : zM} {pc k n : Nat} {z : Int} {L : List Int} {len : Nat} {st : zS} : zS7 T fl M pc k n z L len st = zstep T fl M pc (zD7 k n z L) len st := by
  unfold zS7 zD7
  cases Nat.beq k 5 with
  | true => exact rfl
  | false => rfl
theorem zK7 {k n : Nat} {z : Int} {L : List Int} : z_spk (zD7 k n z L) = none := by
  unfold zD7
  cases Nat.beq k 5 with
  | true => rfl
  | false => rfl
def zD8 (k n : Nat) (z : Int) (L : List Int) : Instr := bif Nat.blt k 5 then zD6 k n z L else zD7 k n z L
def zS8 (T : zTb) (fl : zFl) (M : zM) (pc k n : Nat) (z : Int) (L : List Int) (len : Nat) (st : zS) : zR := bif Nat.blt k 5 then zS6 T fl M pc k n z L len st else zS7 T fl M pc k n z L len st
theorem zE8 {T : zTb} {fl : zFl} {M : zM} {pc k n : Nat} {z : Int} {L : List Int} {len : Nat} {st : zS} : zS8 T fl M pc k n z L len st = zstep T fl M pc (zD8 k n z L) len st := by
  unfold zS8 zD8
  cases Nat.blt k 5 with
  | true => exact zE6 (n := n) (z := z) (L := L)
  | false => exact zE7 (n := n) (z := z) (L := L)
theorem zK8 {k n : Nat} {z : Int} {L : List Int} : z_spk (zD8 k n z L) = none := by
  unfold zD8
  cases Nat.blt k 5 with
  | true => exact zK6 (n := n) (z := z) (L := L)
  | false => exact zK7 (n := n) (z := z) (L := L)
def zD9 (k n : Nat) (z : Int) (L : List Int) : Instr := bif Nat.blt k 4 then zD5 k n z L else zD8 k n z L
def zS9 (T : zTb) (fl : zFl) (M : zM) (pc k n : Nat) (z : Int) (L : List Int) (len : Nat) (st : zS) : zR := bif Nat.blt k 4 then zS5 T fl M pc k n z L len st else zS8 T fl M pc k n z L len st
theorem zE9 {T : zTb} {fl : zFl} {M : zM} {pc k n : Nat} {z : Int} {L : List Int} {len : Nat} {st : zS} : zS9 T fl M pc k n z L len st = zstep T fl M pc (zD9 k n z L) len st := by
  unfold zS9 zD9
  cases Nat.blt k 4 with
  | true => exact zE5 (n := n) (z := z) (L := L)
  | false => exact zE8 (n := n) (z := z) (L := L)
theorem zK9 {k n : Nat} {z : Int} {L : List Int} : z_spk (zD9 k n z L) = none := by
  unfold zD9
  cases Nat.blt k 4 with
  | true => exact zK5 (n := n) (z := z) (L := L)
  | false => exact zK8 (n := n) (z := z) (L := L)
def zD10 (k n : Nat) (z : Int) (L : List Int) : Instr := bif Nat.blt k 3 then zD4 k n z L else zD9 k n z L
def zS10 (T : zTb) (fl : zFl) (M : zM) (pc k n : Nat) (z : Int) (L : List Int) (len : Nat) (st : zS) : zR := bif Nat.blt k 3 then zS4 T fl M pc k n z L len st else zS9 T fl M pc k n z L len st
theorem zE10 {T : zTb} {fl : zFl} {M : zM} {pc k n : Nat} {z : Int} {L : List Int} {len : Nat} {st : zS} : zS10 T fl M pc k n z L len st = zstep T fl M pc (zD10 k n z L) len st := by
  unfold zS10 zD10
  cases Nat.blt k 3 with
  | true => exact zE4 (n := n) (z := z) (L := L)
  | false => exact zE9 (n := n) (z := z) (L := L)
theorem zK10 {k n : Nat} {z : Int} {L : List Int} : z_spk (zD10 k n z L) = none := by
  unfold zD10
  cases Nat.blt k 3 with
  | true => exact zK4 (n := n) (z := z) (L := L)
  | false => exact zK9 (n := n) (z := z) (L := L)
def zD11 (k n : Nat) (z : Int) (L : List Int) : Instr := bif Nat.beq k 6 then .ldc n else .nop
def zS11 (T : zTb) (fl : zFl) (M : zM) (pc k n : Nat) (z : Int) (L : List Int) (len : Nat) (st : zS) : zR := bif Nat.beq k 6 then z_g len 2 (z_or (z_ldc T.2.2.2.2.2.2.2.1 M.2.2.2.2.2.2.2.1 n st) (z_ldcS T.2.2.2.2.2.2.2.2.2.2.2.2 M.2.2.2.2.2.2.2.1 n st)) else none
theorem zE11 {T : zTb} {fl : zFl} {M : zM} {pc k n : Nat} {z : Int} {L : List Int} {len : Nat} {st : zS} : zS11 T fl M pc k n z L len st = zstep T fl M pc (zD11 k n z L) len st := by
  unfold zS11 zD11
  cases Nat.beq k 6 with
  | true => exact rfl
  | false => rfl
theorem zK11 {k n : Nat} {z : Int} {L : List Int} : z_spk (zD11 k n z L) = none := by
  unfold zD11
  cases Nat.beq k 6 with
  | true => rfl
  | false => rfl
def zD12 (k n : Nat) (z : Int) (L : List Int) : Instr := bif Nat.beq k 7 then .ldc_w n else .nop
def zS12 (T : zTb) (fl : zFl) (M : zM) (pc k n : Nat) (z : Int) (L : List Int) (len : Nat) (st : zS) : zR := bif Nat.beq k 7 then z_g len 3 (z_ldc T.2.2.2.2.2.2.2.1 M.2.2.2.2.2.2.2.1 n st) else none
theorem zE12 {T : zTb} {fl : zFl} {M : zM} {pc k n : Nat} {z : Int} {L : List Int} {len : Nat} {st : zS} : zS12 T fl M pc k n z L len st = zstep T fl M pc (zD12 k n z L) len st := by
  unfold zS12 zD12
  cases Nat.beq k 7 with
  | true => exact rfl
  | false => rfl
theorem zK12 {k n : Nat} {z : Int} {L : List Int} : z_spk (zD12 k n z L) = none := by
  unfold zD12
  cases Nat.beq k 7 with
  | true => rfl
  | false => rfl
def zD13 (k n : Nat) (z : Int) (L : List Int) : Instr := bif Nat.beq k 8 then .ldc2_w n else .nop
def zS13 (T : zTb) (fl : zFl) (M : zM) (pc k n : Nat) (z : Int) (L : List Int) (len : Nat) (st : zS) : zR := bif Nat.beq k 8 then z_g len 3 (z_ldc2 T.2.2.2.2.2.2.2.2.1 M.2.2.2.2.2.2.2.1 n st) else none
theorem zE13 {T : zTb} {fl : zFl} {M : zM} {pc k n : Nat} {z : Int} {L : List Int} {len : Nat} {st : zS} : zS13 T fl M pc k n z L len st = zstep T fl M pc (zD13 k n z L) len st := by
  unfold zS13 zD13
  cases Nat.beq k 8 with
  | true => exact rfl
  | false => rfl
theorem zK13 {k n : Nat} {z : Int} {L : List Int} : z_spk (zD13 k n z L) = none := by
  unfold zD13
  cases Nat.beq k 8 with
  | true => rfl
  | false => rfl
def zD14 (k n : Nat) (z : Int) (L : List Int) : Instr := bif Nat.blt k 8 then zD12 k n z L else zD13 k n z L
def zS14 (T : zTb) (fl : zFl) (M : zM) (pc k n : Nat) (z : Int) (L : List Int) (len : Nat) (st : zS) : zR := bif Nat.blt k 8 then zS12 T fl M pc k n z L len st else zS13 T fl M pc k n z L len st
theorem zE14 {T : zTb} {fl : zFl} {M : zM} {pc k n : Nat} {z : Int} {L : List Int} {len : Nat} {st : zS} : zS14 T fl M pc k n z L len st = zstep T fl M pc (zD14 k n z L) len st := by
  unfold zS14 zD14
  cases Nat.blt k 8 with
  | true => exact zE12 (n := n) (z := z) (L := L)
  | false => exact zE13 (n := n) (z := z) (L := L)
theorem zK14 {k n : Nat} {z : Int} {L : List Int} : z_spk (zD14 k n z L) = none := by
  unfold zD14
  cases Nat.blt k 8 with
  | true => exact zK12 (n := n) (z := z) (L := L)
  | false => exact zK13 (n := n) (z := z) (L := L)
def zD15 (k n : Nat) (z : Int) (L : List Int) : Instr := bif Nat.blt k 7 then zD11 k n z L else zD14 k n z L
def zS15 (T : zTb) (fl : zFl) (M : zM) (pc k n : Nat) (z : Int) (L : List Int) (len : Nat) (st : zS) : zR := bif Nat.blt k 7 then zS11 T fl M pc k n z L len st else zS14 T fl M pc k n z L len st
theorem zE15 {T : zTb} {fl : zFl} {M : zM} {pc k n : Nat} {z : Int} {L : List Int} {len : Nat} {st : zS} : zS15 T fl M pc k n z L len st = zstep T fl M pc (zD15 k n z L) len st := by
  unfold zS15 zD15
  cases Nat.blt k 7 with
  | true => exact zE11 (n := n) (z := z) (L := L)
  | false => exact zE14 (n := n) (z := z) (L := L)
theorem zK15 {k n : Nat} {z : Int} {L : List Int} : z_spk (zD15 k n z L) = none := by
  unfold zD15
  cases Nat.blt k 7 with
  | true => exact zK11 (n := n) (z := z) (L := L)
  | false => exact zK14 (n := n) (z := z) (L := L)
def zD16 (k n : Nat) (z : Int) (L : List Int) : Instr := bif Nat.beq k 9 then .iload n else .nop
def zS16 (T : zTb) (fl : zFl) (M : zM) (pc k n : Nat) (z : Int) (L : List Int) (len : Nat) (st : zS) : zR := bif Nat.beq k 9 then z_g len 2 (z_ld z_k0 n st) else none
theorem zE16 {T : zTb} {fl : zFl} {M : zM} {pc k n : Nat} {z : Int} {L : List Int} {len : Nat} {st : zS} : zS16 T fl M pc k n z L len st = zstep T fl M pc (zD16 k n z L) len st := by
  unfold zS16 zD16
  cases Nat.beq k 9 with
  | true => exact rfl
  | false => rfl
theorem zK16 {k n : Nat} {z : Int} {L : List Int} : z_spk (zD16 k n z L) = none := by
  unfold zD16
  cases Nat.beq k 9 with
  | true => rfl
  | false => rfl
def zD17 (k n : Nat) (z : Int) (L : List Int) : Instr := bif Nat.beq k 10 then .iload_n 0 else .nop
def zS17 (T : zTb) (fl : zFl) (M : zM) (pc k n : Nat) (z : Int) (L : List Int) (len : Nat) (st : zS) : zR := bif Nat.beq k 10 then z_g len 1 (z_ld z_k0 0 st) else none
theorem zE17 {T : zTb} {fl : zFl} {M : zM} {pc k n : Nat} {z : Int} {L : List Int} {len : Nat} {st : zS} : zS17 T fl M pc k n z L len st = zstep T fl M pc (zD17 k n z L) len st := by
  unfold zS17 zD17
  cases Nat.beq k 10 with
  | true => exact rfl
  | false => rfl
theorem zK17 {k n : Nat} {z : Int} {L : List Int} : z_spk (zD17 k n z L) = none := by
  unfold zD17
  cases Nat.beq k 10 with
  | true => rfl
  | false => rfl
def zD18 (k n : Nat) (z : Int) (L : List Int) : Instr := bif Nat.blt k 10 then zD16 k n z L else zD17 k n z L
def zS18 (T : zTb) (fl : zFl) (M : zM) (pc k n : Nat) (z : Int) (L : List Int) (len : Nat) (st : zS) : zR := bif Nat.blt k 10 then zS16 T fl M pc k n z L len st else zS17 T fl M pc k n z L len st
theorem zE18 {T : zTb} {fl : zFl} {M : zM} {pc k n : Nat} {z : Int} {L : List Int} {len : Nat} {st : zS} : zS18 T fl M pc k n z L len st = zstep T fl M pc (zD18 k n z L) len st := by
  unfold zS18 zD18
  cases Nat.blt k 10 with
  | true => exact zE16 (n := n) (z := z) (L := L)
  | false => exact zE17 (n := n) (z := z) (L := L)
theorem zK18 {k n : Nat} {z : Int} {L : List Int} : z_spk (zD18 k n z L) = none := by
  unfold zD18
  cases Nat.blt k 10 with
  | true => exact zK16 (n := n) (z := z) (L := L)
  | false => exact zK17 (n := n) (z := z) (L := L)
def zD19 (k n : Nat) (z : Int) (L : List Int) : Instr := bif Nat.beq k 11 then .iload_n 1 else .nop
def zS19 (T : zTb) (fl : zFl) (M : zM) (pc k n : Nat) (z : Int) (L : List Int) (len : Nat) (st : zS) : zR := bif Nat.beq k 11 then z_g len 1 (z_ld z_k0 1 st) else none
theorem zE19 {T : zTb} {fl : zFl} {M : zM} {pc k n : Nat} {z : Int} {L : List Int} {len : Nat} {st : zS} : zS19 T fl M pc k n z L len st = zstep T fl M pc (zD19 k n z L) len st := by
  unfold zS19 zD19
  cases Nat.beq k 11 with
  | true => exact rfl
  | false => rfl
theorem zK19 {k n : Nat} {z : Int} {L : List Int} : z_spk (zD19 k n z L) = none := by
  unfold zD19
  cases Nat.beq k 11 with
  | true => rfl
  | false => rfl
def zD20 (k n : Nat) (z : Int) (L : List Int) : Instr := bif Nat.beq k 12 then .iload_n 2 else .nop
def zS20 (T : zTb) (fl : zFl) (M : zM) (pc k n : Nat) (z : Int) (L : List Int) (len : Nat) (st : zS) : zR := bif Nat.beq k 12 then z_g len 1 (z_ld z_k0 2 st) else none
theorem zE20 {T : zTb} {fl : zFl} {M : zM} {pc k n : Nat} {z : Int} {L : List Int} {len : Nat} {st : zS} : zS20 T fl M pc k n z L len st = zstep T fl M pc (zD20 k n z L) len st := by
  unfold zS20 zD20
  cases Nat.beq k 12 with
  | true => exact rfl
  | false => rfl
theorem zK20 {k n : Nat} {z : Int} {L : List Int} : z_spk (zD20 k n z L) = none := by
  unfold zD20
  cases Nat.beq k 12 with
  | true => rfl
  | false => rfl
def zD21 (k n : Nat) (z : Int) (L : List Int) : Instr := bif Nat.blt k 12 then zD19 k n z L else zD20 k n z L
def zS21 (T : zTb) (fl : zFl) (M : zM) (pc k n : Nat) (z : Int) (L : List Int) (len : Nat) (st : zS) : zR := bif Nat.blt k 12 then zS19 T fl M pc k n z L len st else zS20 T fl M pc k n z L len st
theorem zE21 {T : zTb} {fl : zFl} {M : zM} {pc k n : Nat} {z : Int} {L : List Int} {len : Nat} {st : zS} : zS21 T fl M pc k n z L len st = zstep T fl M pc (zD21 k n z L) len st := by
  unfold zS21 zD21
  cases Nat.blt k 12 with
  | true => exact zE19 (n := n) (z := z) (L := L)
  | false => exact zE20 (n := n) (z := z) (L := L)
theorem zK21 {k n : Nat} {z : Int} {L : List Int} : z_spk (zD21 k n z L) = none := by
  unfold zD21
  cases Nat.blt k 12 with
  | true => exact zK19 (n := n) (z := z) (L := L)
  | false => exact zK20 (n := n) (z := z) (L := L)
def zD22 (k n : Nat) (z : Int) (L : List Int) : Instr := bif Nat.blt k 11 then zD18 k n z L else zD21 k n z L
def zS22 (T : zTb) (fl : zFl) (M : zM) (pc k n : Nat) (z : Int) (L : List Int) (len : Nat) (st : zS) : zR := bif Nat.blt k 11 then zS18 T fl M pc k n z L len st else zS21 T fl M pc k n z L len st
theorem zE22 {T : zTb} {fl : zFl} {M : zM} {pc k n : Nat} {z : Int} {L : List Int} {len : Nat} {st : zS} : zS22 T fl M pc k n z L len st = zstep T fl M pc (zD22 k n z L) len st := by
  unfold zS22 zD22
  cases Nat.blt k 11 with
  | true => exact zE18 (n := n) (z := z) (L := L)
  | false => exact zE21 (n := n) (z := z) (L := L)
theorem zK22 {k n : Nat} {z : Int} {L : List Int} : z_spk (zD22 k n z L) = none := by
  unfold zD22
  cases Nat.blt k 11 with
  | true => exact zK18 (n := n) (z := z) (L := L)
  | false => exact zK21 (n := n) (z := z) (L := L)
def zD23 (k n : Nat) (z : Int) (L : List Int) : Instr := bif Nat.blt k 9 then zD15 k n z L else zD22 k n z L
def zS23 (T : zTb) (fl : zFl) (M : zM) (pc k n : Nat) (z : Int) (L : List Int) (len : Nat) (st : zS) : zR := bif Nat.blt k 9 then zS15 T fl M pc k n z L len st else zS22 T fl M pc k n z L len st
theorem zE23 {T : zTb} {fl : zFl} {M : zM} {pc k n : Nat} {z : Int} {L : List Int} {len : Nat} {st : zS} : zS23 T fl M pc k n z L len st = zstep T fl M pc (zD23 k n z L) len st := by
  unfold zS23 zD23
  cases Nat.blt k 9 with
  | true => exact zE15 (n := n) (z := z) (L := L)
  | false => exact zE22 (n := n) (z := z) (L := L)
theorem zK23 {k n : Nat} {z : Int} {L : List Int} : z_spk (zD23 k n z L) = none := by
  unfold zD23
  cases Nat.blt k 9 with
  | true => exact zK15 (n := n) (z := z) (L := L)
  | false => exact zK22 (n := n) (z := z) (L := L)
def zD24 (k n : Nat) (z : Int) (L : List Int) : Instr := bif Nat.blt k 6 then zD10 k n z L else zD23 k n z L
def zS24 (T : zTb) (fl : zFl) (M : zM) (pc k n : Nat) (z : Int) (L : List Int) (len : Nat) (st : zS) : zR := bif Nat.blt k 6 then zS10 T fl M pc k n z L len st else zS23 T fl M pc k n z L len st
theorem zE24 {T : zTb} {fl : zFl} {M : zM} {pc k n : Nat} {z : Int} {L : List Int} {len : Nat} {st : zS} : zS24 T fl M pc k n z L len st = zstep T fl M pc (zD24 k n z L) len st := by
  unfold zS24 zD24
  cases Nat.blt k 6 with
  | true => exact zE10 (n := n) (z := z) (L := L)
  | false => exact zE23 (n := n) (z := z) (L := L)
theorem zK24 {k n : Nat} {z : Int} {L : List Int} : z_spk (zD24 k n z L) = none := by
  unfold zD24
  cases Nat.blt k 6 with
  | true => exact zK10 (n := n) (z := z) (L := L)
  | false => exact zK23 (n := n) (z := z) (L := L)
def zD25 (k n : Nat) (z : Int) (L : List Int) : Instr := bif Nat.beq k 13 then .iload_n 3 else .nop
def zS25 (T : zTb) (fl : zFl) (M : zM) (pc k n : Nat) (z : Int) (L : List Int) (len : Nat) (st : zS) : zR := bif Nat.beq k 13 then z_g len 1 (z_ld z_k0 3 st) else none
theorem zE25 {T : zTb} {fl : zFl} {M : zM} {pc k n : Nat} {z : Int} {L : List Int} {len : Nat} {st : zS} : zS25 T fl M pc k n z L len st = zstep T fl M pc (zD25 k n z L) len st := by
  unfold zS25 zD25
  cases Nat.beq k 13 with
  | true => exact rfl
  | false => rfl
theorem zK25 {k n : Nat} {z : Int} {L : List Int} : z_spk (zD25 k n z L) = none := by
  unfold zD25
  cases Nat.beq k 13 with
  | true => rfl
  | false => rfl
def zD26 (k n : Nat) (z : Int) (L : List Int) : Instr := bif Nat.beq k 14 then .lload n else .nop
def zS26 (T : zTb) (fl : zFl) (M : zM) (pc k n : Nat) (z : Int) (L : List Int) (len : Nat) (st : zS) : zR := bif Nat.beq k 14 then z_g len 2 (z_ld z_k1 n st) else none
theorem zE26 {T : zTb} {fl : zFl} {M : zM} {pc k n : Nat} {z : Int} {L : List Int} {len : Nat} {st : zS} : zS26 T fl M pc k n z L len st = zstep T fl M pc (zD26 k n z L) len st := by
  unfold zS26 zD26
  cases Nat.beq k 14 with
  | true => exact rfl
  | false => rfl
theorem zK26 {k n : Nat} {z : Int} {L : List Int} : z_spk (zD26 k n z L) = none := by
  unfold zD26
  cases Nat.beq k 14 with
  | true => rfl
  | false => rfl
def zD27 (k n : Nat) (z : Int) (L : List Int) : Instr := bif Nat.beq k 15 then .lload_n 0 else .nop
def zS27 (T : zTb) (fl : zFl) (M : zM) (pc k n : Nat) (z : Int) (L : List Int) (len : Nat) (st : zS) : zR := bif Nat.beq k 15 then z_g len 1 (z_ld z_k1 0 st) else none
theorem zE27 {T : zTb} {fl : zFl} {M : zM} {pc k n : Nat} {z : Int} {L : List Int} {len : Nat} {st : zS} : zS27 T fl M pc k n z L len st = zstep T fl M pc (zD27 k n z L) len st := by
  unfold zS27 zD27
  cases Nat.beq k 15 with
  | true => exact rfl
  | false => rfl
theorem zK27 {k n : Nat} {z : Int} {L : List Int} : z_spk (zD27 k n z L) = none := by
  unfold zD27
  cases Nat.beq k 15 with
  | true => rfl
  | false => rfl
def zD28 (k n : Nat) (z : Int) (L : List Int) : Instr := bif Nat.blt k 15 then zD26 k n z L else zD27 k n z L
def zS28 (T : zTb) (fl : zFl) (M : zM) (pc k n : Nat) (z : Int) (L : List Int) (len : Nat) (st : zS) : zR := bif Nat.blt k 15 then zS26 T fl M pc k n z L len st else zS27 T fl M pc k n z L len st
theorem zE28 {T : zTb} {fl : zFl} {M : zM} {pc k n : Nat} {z : Int} {L : List Int} {len : Nat} {st : zS} : zS28 T fl M pc k n z L len st = zstep T fl M pc (zD28 k n z L) len st := by
  unfold zS28 zD28
  cases Nat.blt k 15 with
  | true => exact zE26 (n := n) (z := z) (L := L)
  | false => exact zE27 (n := n) (z := z) (L := L)
theorem zK28 {k n : Nat} {z : Int} {L : List Int} : z_spk (zD28 k n z L) = none := by
  unfold zD28
  cases Nat.blt k 15 with
  | true => exact zK26 (n := n) (z := z) (L := L)
  | false => exact zK27 (n := n) (z := z) (L := L)
def zD29 (k n : Nat) (z : Int) (L : List Int) : Instr := bif Nat.blt k 14 then zD25 k n z L else zD28 k n z L
def zS29 (T : zTb) (fl : zFl) (M : zM) (pc k n : Nat) (z : Int) (L : List Int) (len : Nat) (st : zS) : zR := bif Nat.blt k 14 then zS25 T fl M pc k n z L len st else zS28 T fl M pc k n z L len st
theorem zE29 {T : zTb} {fl : zFl} {M : zM} {pc k n : Nat} {z : Int} {L : List Int} {len : Nat} {st : zS} : zS29 T fl M pc k n z L len st = zstep T fl M pc (zD29 k n z L) len st := by
  unfold zS29 zD29
  cases Nat.blt k 14 with
  | true => exact zE25 (n := n) (z := z) (L := L)
  | false => exact zE28 (n := n) (z := z) (L := L)
theorem zK29 {k n : Nat} {z : Int} {L : List Int} : z_spk (zD29 k n z L) = none := by
  unfold zD29
  cases Nat.blt k 14 with
  | true => exact zK25 (n := n) (z := z) (L := L)
  | false => exact zK28 (n := n) (z := z) (L := L)
def zD30 (k n : Nat) (z : Int) (L : List Int) : Instr := bif Nat.beq k 16 then .lload_n 1 else .nop
def zS30 (T : zTb) (fl : zFl) (M : zM) (pc k n : Nat) (z : Int) (L : List Int) (len : Nat) (st : zS) : zR := bif Nat.beq k 16 then z_g len 1 (z_ld z_k1 1 st) else none
theorem zE30 {T : zTb} {fl : zFl} {M : zM} {pc k n : Nat} {z : Int} {L : List Int} {len : Nat} {st : zS} : zS30 T fl M pc k n z L len st = zstep T fl M pc (zD30 k n z L) len st := by
  unfold zS30 zD30
  cases Nat.beq k 16 with
  | true => exact rfl
  | false => rfl
theorem zK30 {k n : Nat} {z : Int} {L : List Int} : z_spk (zD30 k n z L) = none := by
  unfold zD30
  cases Nat.beq k 16 with
  | true => rfl
  | false => rfl
def zD31 (k n : Nat) (z : Int) (L : List Int) : Instr := bif Nat.beq k 17 then .lload_n 2 else .nop
def zS31 (T : zTb) (fl : zFl) (M : zM) (pc k n : Nat) (z : Int) (L : List Int) (len : Nat) (st : zS) : zR := bif Nat.beq k 17 then z_g len 1 (z_ld z_k1 2 st) else none
theorem zE31 {T : zTb} {fl : zFl} {M : zM} {pc k n : Nat} {z : Int} {L : List Int} {len : Nat} {st : zS} : zS31 T fl M pc k n z L len st = zstep T fl M pc (zD31 k n z L) len st := by
  unfold zS31 zD31
  cases Nat.beq k 17 with
  | true => exact rfl
  | false => rfl
theorem zK31 {k n : Nat} {z : Int} {L : List Int} : z_spk (zD31 k n z L) = none := by
  unfold zD31
  cases Nat.beq k 17 with
  | true => rfl
  | false => rfl
def zD32 (k n : Nat) (z : Int) (L : List Int) : Instr := bif Nat.beq k 18 then .lload_n 3 else .nop
def zS32 (T : zTb) (fl : zFl) (M : zM) (pc k n : Nat) (z : Int) (L : List Int) (len : Nat) (st : zS) : zR := bif Nat.beq k 18 then z_g len 1 (z_ld z_k1 3 st) else none
theorem zE32 {T : zTb} {fl : zFl} {M : zM} {pc k n : Nat} {z : Int} {L : List Int} {len : Nat} {st : zS} : zS32 T fl M pc k n z L len st = zstep T fl M pc (zD32 k n z L) len st := by
  unfold zS32 zD32
  cases Nat.beq k 18 with
  | true => exact rfl
  | false => rfl
theorem zK32 {k n : Nat} {z : Int} {L : List Int} : z_spk (zD32 k n z L) = none := by
  unfold zD32
  cases Nat.beq k 18 with
  | true => rfl
  | false => rfl
def zD33 (k n : Nat) (z : Int) (L : List Int) : Instr := bif Nat.blt k 18 then zD31 k n z L else zD32 k n z L
def zS33 (T : zTb) (fl : zFl) (M : zM) (pc k n : Nat) (z : Int) (L : List Int) (len : Nat) (st : zS) : zR := bif Nat.blt k 18 then zS31 T fl M pc k n z L len st else zS32 T fl M pc k n z L len st
theorem zE33 {T : zTb} {fl : zFl} {M : zM} {pc k n : Nat} {z : Int} {L : List Int} {len : Nat} {st : zS} : zS33 T fl M pc k n z L len st = zstep T fl M pc (zD33 k n z L) len st := by
  unfold zS33 zD33
  cases Nat.blt k 18 with
  | true => exact zE31 (n := n) (z := z) (L := L)
  | false => exact zE32 (n := n) (z := z) (L := L)
theorem zK33 {k n : Nat} {z : Int} {L : List Int} : z_spk (zD33 k n z L) = none := by
  unfold zD33
  cases Nat.blt k 18 with
  | true => exact zK31 (n := n) (z := z) (L := L)
  | false => exact zK32 (n := n) (z := z) (L := L)
def zD34 (k n : Nat) (z : Int) (L : List Int) : Instr := bif Nat.blt k 17 then zD30 k n z L else zD33 k n z L
def zS34 (T : zTb) (fl : zFl) (M : zM) (pc k n : Nat) (z : Int) (L : List Int) (len : Nat) (st : zS) : zR := bif Nat.blt k 17 then zS30 T fl M pc k n z L len st else zS33 T fl M pc k n z L len st
theorem zE34 {T : zTb} {fl : zFl} {M : zM} {pc k n : Nat} {z : Int} {L : List Int} {len : Nat} {st : zS} : zS34 T fl M pc k n z L len st = zstep T fl M pc (zD34 k n z L) len st := by
  unfold zS34 zD34
  cases Nat.blt k 17 with
  | true => exact zE30 (n := n) (z := z) (L := L)
  | false => exact zE33 (n := n) (z := z) (L := L)
theorem zK34 {k n : Nat} {z : Int} {L : List Int} : z_spk (zD34 k n z L) = none := by
  unfold zD34
  cases Nat.blt k 17 with
  | true => exact zK30 (n := n) (z := z) (L := L)
  | false => exact zK33 (n := n) (z := z) (L := L)
def zD35 (k n : Nat) (z : Int) (L : List Int) : Instr := bif Nat.blt k 16 then zD29 k n z L else zD34 k n z L
def zS35 (T : zTb) (fl : zFl) (M : zM) (pc k n : Nat) (z : Int) (L : List Int) (len : Nat) (st : zS) : zR := bif Nat.blt k 16 then zS29 T fl M pc k n z L len st else zS34 T fl M pc k n z L len st
theorem zE35 {T : zTb} {fl : zFl} {M : zM} {pc k n : Nat} {z : Int} {L : List Int} {len : Nat} {st : zS} : zS35 T fl M pc k n z L len st = zstep T fl M pc (zD35 k n z L) len st := by
  unfold zS35 zD35
  cases Nat.blt k 16 with
  | true => exact zE29 (n := n) (z := z) (L := L)
  | false => exact zE34 (n := n) (z := z) (L := L)
theorem zK35 {k n : Nat} {z : Int} {L : List Int} : z_spk (zD35 k n z L) = none := by
  unfold zD35
  cases Nat.blt k 16 with
  | true => exact zK29 (n := n) (z := z) (L := L)
  | false => exact zK34 (n := n) (z := z) (L := L)
def zD36 (k n : Nat) (z : Int) (L : List Int) : Instr := bif Nat.beq k 19 then .aload n else .nop
def zS36 (T : zTb) (fl : zFl) (M : zM) (pc k n : Nat) (z : Int) (L : List Int) (len : Nat) (st : zS) : zR := bif Nat.beq k 19 then z_g len 2 (z_ld z_kr n st) else none
theorem zE36 {T : zTb} {fl : zFl} {M : zM} {pc k n : Nat} {z : Int} {L : List Int} {len : Nat} {st : zS} : zS36 T fl M pc k n z L len st = zstep T fl M pc (zD36 k n z L) len st := by
  unfold zS36 zD36
  cases Nat.beq k 19 with
  | true => exact rfl
  | false => rfl
theorem zK36 {k n : Nat} {z : Int} {L : List Int} : z_spk (zD36 k n z L) = none := by
  unfold zD36
  cases Nat.beq k 19 with
  | true => rfl
  | false => rfl
def zD37 (k n : Nat) (z : Int) (L : List Int) : Instr := bif Nat.beq k 20 then .aload_n 0 else .nop
def zS37 (T : zTb) (fl : zFl) (M : zM) (pc k n : Nat) (z : Int) (L : List Int) (len : Nat) (st : zS) : zR := bif Nat.beq k 20 then z_g len 1 (z_ld z_kr 0 st) else none
theorem zE37 {T : zTb} {fl : zFl} {M : zM} {pc k n : Nat} {z : Int} {L : List Int} {len : Nat} {st : zS} : zS37 T fl M pc k n z L len st = zstep T fl M pc (zD37 k n z L) len st := by
  unfold zS37 zD37
  cases Nat.beq k 20 with
  | true => exact rfl
  | false => rfl
theorem zK37 {k n : Nat} {z : Int} {L : List Int} : z_spk (zD37 k n z L) = none := by
  unfold zD37
  cases Nat.beq k 20 with
  | true => rfl
  | false => rfl
def zD38 (k n : Nat) (z : Int) (L : List Int) : Instr := bif Nat.beq k 21 then .aload_n 1 else .nop
def zS38 (T : zTb) (fl : zFl) (M : zM) (pc k n : Nat) (z : Int) (L : List Int) (len : Nat) (st : zS) : zR := bif Nat.beq k 21 then z_g len 1 (z_ld z_kr 1 st) else none
theorem zE38 {T : zTb} {fl : zFl} {M : zM} {pc k n : Nat} {z : Int} {L : List Int} {len : Nat} {st : zS} : zS38 T fl M pc k n z L len st = zstep T fl M pc (zD38 k n z L) len st := by
  unfold zS38 zD38
  cases Nat.beq k 21 with
  | true => exact rfl
  | false => rfl
theorem zK38 {k n : Nat} {z : Int} {L : List Int} : z_spk (zD38 k n z L) = none := by
  unfold zD38
  cases Nat.beq k 21 with
  | true => rfl
  | false => rfl
def zD39 (k n : Nat) (z : Int) (L : List Int) : Instr := bif Nat.blt k 21 then zD37 k n z L else zD38 k n z L
def zS39 (T : zTb) (fl : zFl) (M : zM) (pc k n : Nat) (z : Int) (L : List Int) (len : Nat) (st : zS) : zR := bif Nat.blt k 21 then zS37 T fl M pc k n z L len st else zS38 T fl M pc k n z L len st
theorem zE39 {T : zTb} {fl : zFl} {M : zM} {pc k n : Nat} {z : Int} {L : List Int} {len : Nat} {st : zS} : zS39 T fl M pc k n z L len st = zstep T fl M pc (zD39 k n z L) len st := by
  unfold zS39 zD39
  cases Nat.blt k 21 with
  | true => exact zE37 (n := n) (z := z) (L := L)
  | false => exact zE38 (n := n) (z := z) (L := L)
theorem zK39 {k n : Nat} {z : Int} {L : List Int} : z_spk (zD39 k n z L) = none := by
  unfold zD39
  cases Nat.blt k 21 with
  | true => exact zK37 (n := n) (z := z) (L := L)
  | false => exact zK38 (n := n) (z := z) (L := L)
def zD40 (k n : Nat) (z : Int) (L : List Int) : Instr := bif Nat.blt k 20 then zD36 k n z L else zD39 k n z L
def zS40 (T : zTb) (fl : zFl) (M : zM) (pc k n : Nat) (z : Int) (L : List Int) (len : Nat) (st : zS) : zR := bif Nat.blt k 20 then zS36 T fl M pc k n z L len st else zS39 T fl M pc k n z L len st
theorem zE40 {T : zTb} {fl : zFl} {M : zM} {pc k n : Nat} {z : Int} {L : List Int} {len : Nat} {st : zS} : zS40 T fl M pc k n z L len st = zstep T fl M pc (zD40 k n z L) len st := by
  unfold zS40 zD40
  cases Nat.blt k 20 with
  | true => exact zE36 (n := n) (z := z) (L := L)
  | false => exact zE39 (n := n) (z := z) (L := L)
theorem zK40 {k n : Nat} {z : Int} {L : List Int} : z_spk (zD40 k n z L) = none := by
  unfold zD40
  cases Nat.blt k 20 with
  | true => exact zK36 (n := n) (z := z) (L := L)
  | false => exact zK39 (n := n) (z := z) (L := L)
def zD41 (k n : Nat) (z : Int) (L : List Int) : Instr := bif Nat.beq k 22 then .aload_n 2 else .nop
def zS41 (T : zTb) (fl : zFl) (M : zM) (pc k n : Nat) (z : Int) (L : List Int) (len : Nat) (st : zS) : zR := bif Nat.beq k 22 then z_g len 1 (z_ld z_kr 2 st) else none
theorem zE41 {T : zTb} {fl : zFl} {M : zM} {pc k n : Nat} {z : Int} {L : List Int} {len : Nat} {st : zS} : zS41 T fl M pc k n z L len st = zstep T fl M pc (zD41 k n z L) len st := by
  unfold zS41 zD41
  cases Nat.beq k 22 with
  | true => exact rfl
  | false => rfl
theorem zK41 {k n : Nat} {z : Int} {L : List Int} : z_spk (zD41 k n z L) = none := by
  unfold zD41
  cases Nat.beq k 22 with
  | true => rfl
  | false => rfl
def zD42 (k n : Nat) (z : Int) (L : List Int) : Instr := bif Nat.beq k 23 then .aload_n 3 else .nop
def zS42 (T : zTb) (fl : zFl) (M : zM) (pc k n : Nat) (z : Int) (L : List Int) (len : Nat) (st : zS) : zR := bif Nat.beq k 23 then z_g len 1 (z_ld z_kr 3 st) else none
theorem zE42 {T : zTb} {fl : zFl} {M : zM} {pc k n : Nat} {z : Int} {L : List Int} {len : Nat} {st : zS} : zS42 T fl M pc k n z L len st = zstep T fl M pc (zD42 k n z L) len st := by
  unfold zS42 zD42
  cases Nat.beq k 23 with
  | true => exact rfl
  | false => rfl
theorem zK42 {k n : Nat} {z : Int} {L : List Int} : z_spk (zD42 k n z L) = none := by
  unfold zD42
  cases Nat.beq k 23 with
  | true => rfl
  | false => rfl
def zD43 (k n : Nat) (z : Int) (L : List Int) : Instr := bif Nat.blt k 23 then zD41 k n z L else zD42 k n z L
def zS43 (T : zTb) (fl : zFl) (M : zM) (pc k n : Nat) (z : Int) (L : List Int) (len : Nat) (st : zS) : zR := bif Nat.blt k 23 then zS41 T fl M pc k n z L len st else zS42 T fl M pc k n z L len st
theorem zE43 {T : zTb} {fl : zFl} {M : zM} {pc k n : Nat} {z : Int} {L : List Int} {len : Nat} {st : zS} : zS43 T fl M pc k n z L len st = zstep T fl M pc (zD43 k n z L) len st := by
  unfold zS43 zD43
  cases Nat.blt k 23 with
  | true => exact zE41 (n := n) (z := z) (L := L)
  | false => exact zE42 (n := n) (z := z) (L := L)
theorem zK43 {k n : Nat} {z : Int} {L : List Int} : z_spk (zD43 k n z L) = none := by
  unfold zD43
  cases Nat.blt k 23 with
  | true => exact zK41 (n := n) (z := z) (L := L)
  | false => exact zK42 (n := n) (z := z) (L := L)
def zD44 (k n : Nat) (z : Int) (L : List Int) : Instr := bif Nat.beq k 24 then .istore n else .nop
def zS44 (T : zTb) (fl : zFl) (M : zM) (pc k n : Nat) (z : Int) (L : List Int) (len : Nat) (st : zS) : zR := bif Nat.beq k 24 then z_g len 2 (z_sto z_k0 M.2.2.1 n st) else none
theorem zE44 {T : zTb} {fl : zFl} {M : zM} {pc k n : Nat} {z : Int} {L : List Int} {len : Nat} {st : zS} : zS44 T fl M pc k n z L len st = zstep T fl M pc (zD44 k n z L) len st := by
  unfold zS44 zD44
  cases Nat.beq k 24 with
  | true => exact rfl
  | false => rfl
theorem zK44 {k n : Nat} {z : Int} {L : List Int} : z_spk (zD44 k n z L) = none := by
  unfold zD44
  cases Nat.beq k 24 with
  | true => rfl
  | false => rfl
def zD45 (k n : Nat) (z : Int) (L : List Int) : Instr := bif Nat.beq k 25 then .istore_n 0 else .nop
def zS45 (T : zTb) (fl : zFl) (M : zM) (pc k n : Nat) (z : Int) (L : List Int) (len : Nat) (st : zS) : zR := bif Nat.beq k 25 then z_g len 1 (z_sto z_k0 M.2.2.1 0 st) else none
theorem zE45 {T : zTb} {fl : zFl} {M : zM} {pc k n : Nat} {z : Int} {L : List Int} {len : Nat} {st : zS} : zS45 T fl M pc k n z L len st = zstep T fl M pc (zD45 k n z L) len st := by
  unfold zS45 zD45
  cases Nat.beq k 25 with
  | true => exact rfl
  | false => rfl
theorem zK45 {k n : Nat} {z : Int} {L : List Int} : z_spk (zD45 k n z L) = none := by
  unfold zD45
  cases Nat.beq k 25 with
  | true => rfl
  | false => rfl
def zD46 (k n : Nat) (z : Int) (L : List Int) : Instr := bif Nat.blt k 25 then zD44 k n z L else zD45 k n z L
def zS46 (T : zTb) (fl : zFl) (M : zM) (pc k n : Nat) (z : Int) (L : List Int) (len : Nat) (st : zS) : zR := bif Nat.blt k 25 then zS44 T fl M pc k n z L len st else zS45 T fl M pc k n z L len st
theorem zE46 {T : zTb} {fl : zFl} {M : zM} {pc k n : Nat} {z : Int} {L : List Int} {len : Nat} {st : zS} : zS46 T fl M pc k n z L len st = zstep T fl M pc (zD46 k n z L) len st := by
  unfold zS46 zD46
  cases Nat.blt k 25 with
  | true => exact zE44 (n := n) (z := z) (L := L)
  | false => exact zE45 (n := n) (z := z) (L := L)
theorem zK46 {k n : Nat} {z : Int} {L : List Int} : z_spk (zD46 k n z L) = none := by
  unfold zD46
  cases Nat.blt k 25 with
  | true => exact zK44 (n := n) (z := z) (L := L)
  | false => exact zK45 (n := n) (z := z) (L := L)
def zD47 (k n : Nat) (z : Int) (L : List Int) : Instr := bif Nat.blt k 24 then zD43 k n z L else zD46 k n z L
def zS47 (T : zTb) (fl : zFl) (M : zM) (pc k n : Nat) (z : Int) (L : List Int) (len : Nat) (st : zS) : zR := bif Nat.blt k 24 then zS43 T fl M pc k n z L len st else zS46 T fl M pc k n z L len st
theorem zE47 {T : zTb} {fl : zFl} {M : zM} {pc k n : Nat} {z : Int} {L : List Int} {len : Nat} {st : zS} : zS47 T fl M pc k n z L len st = zstep T fl M pc (zD47 k n z L) len st := by
  unfold zS47 zD47
  cases Nat.blt k 24 with
  | true => exact zE43 (n := n) (z := z) (L := L)
  | false => exact zE46 (n := n) (z := z) (L := L)
theorem zK47 {k n : Nat} {z : Int} {L : List Int} : z_spk (zD47 k n z L) = none := by
  unfold zD47
  cases Nat.blt k 24 with
  | true => exact zK43 (n := n) (z := z) (L := L)
  | false => exact zK46 (n := n) (z := z) (L := L)
def zD48 (k n : Nat) (z : Int) (L : List Int) : Instr := bif Nat.blt k 22 then zD40 k n z L else zD47 k n z L
def zS48 (T : zTb) (fl : zFl) (M : zM) (pc k n : Nat) (z : Int) (L : List Int) (len : Nat) (st : zS) : zR := bif Nat.blt k 22 then zS40 T fl M pc k n z L len st else zS47 T fl M pc k n z L len st
theorem zE48 {T : zTb} {fl : zFl} {M : zM} {pc k n : Nat} {z : Int} {L : List Int} {len : Nat} {st : zS} : zS48 T fl M pc k n z L len st = zstep T fl M pc (zD48 k n z L) len st := by
  unfold zS48 zD48
  cases Nat.blt k 22 with
  | true => exact zE40 (n := n) (z := z) (L := L)
  | false => exact zE47 (n := n) (z := z) (L := L)
theorem zK48 {k n : Nat} {z : Int} {L : List Int} : z_spk (zD48 k n z L) = none := by
  unfold zD48
  cases Nat.blt k 22 with
  | true => exact zK40 (n := n) (z := z) (L := L)
  | false => exact zK47 (n := n) (z := z) (L := L)
def zD49 (k n : Nat) (z : Int) (L : List Int) : Instr := bif Nat.blt k 19 then zD35 k n z L else zD48 k n z L
def zS49 (T : zTb) (fl : zFl) (M : zM) (pc k n : Nat) (z : Int) (L : List Int) (len : Nat) (st : zS) : zR := bif Nat.blt k 19 then zS35 T fl M pc k n z L len st else zS48 T fl M pc k n z L len st
theorem zE49 {T : zTb} {fl : zFl} {M : zM} {pc k n : Nat} {z : Int} {L : List Int} {len : Nat} {st : zS} : zS49 T fl M pc k n z L len st = zstep T fl M pc (zD49 k n z L) len st := by
  unfold zS49 zD49
  cases Nat.blt k 19 with
  | true => exact zE35 (n := n) (z := z) (L := L)
  | false => exact zE48 (n := n) (z := z) (L := L)
theorem zK49 {k n : Nat} {z : Int} {L : List Int} : z_spk (zD49 k n z L) = none := by
  unfold zD49
  cases Nat.blt k 19 with
  | true => exact zK35 (n := n) (z := z) (L := L)
  | false => exact zK48 (n := n) (z := z) (L := L)
def zD50 (k n : Nat) (z : Int) (L : List Int) : Instr := bif Nat.blt k 13 then zD24 k n z L else zD49 k n z L
def zS50 (T : zTb) (fl : zFl) (M : zM) (pc k n : Nat) (z : Int) (L : List Int) (len : Nat) (st : zS) : zR := bif Nat.blt k 13 then zS24 T fl M pc k n z L len st else zS49 T fl M pc k n z L len st
theorem zE50 {T : zTb} {fl : zFl} {M : zM} {pc k n : Nat} {z : Int} {L : List Int} {len : Nat} {st : zS} : zS50 T fl M pc k n z L len st = zstep T fl M pc (zD50 k n z L) len st := by
  unfold zS50 zD50
  cases Nat.blt k 13 with
  | true => exact zE24 (n := n) (z := z) (L := L)
  | false => exact zE49 (n := n) (z := z) (L := L)
theorem zK50 {k n : Nat} {z : Int} {L : List Int} : z_spk (zD50 k n z L) = none := by
  unfold zD50
  cases Nat.blt k 13 with
  | true => exact zK24 (n := n) (z := z) (L := L)
  | false => exact zK49 (n := n) (z := z) (L := L)
def zD51 (k n : Nat) (z : Int) (L : List Int) : Instr := bif Nat.beq k 26 then .istore_n 1 else .nop
def zS51 (T : zTb) (fl : zFl) (M : zM) (pc k n : Nat) (z : Int) (L : List Int) (len : Nat) (st : zS) : zR := bif Nat.beq k 26 then z_g len 1 (z_sto z_k0 M.2.2.1 1 st) else none
theorem zE51 {T : zTb} {fl : zFl} {M : zM} {pc k n : Nat} {z : Int} {L : List Int} {len : Nat} {st : zS} : zS51 T fl M pc k n z L len st = zstep T fl M pc (zD51 k n z L) len st := by
  unfold zS51 zD51
  cases Nat.beq k 26 with
  | true => exact rfl
  | false => rfl
theorem zK51 {k n : Nat} {z : Int} {L : List Int} : z_spk (zD51 k n z L) = none := by
  unfold zD51
  cases Nat.beq k 26 with
  | true => rfl
  | false => rfl
def zD52 (k n : Nat) (z : Int) (L : List Int) : Instr := bif Nat.beq k 27 then .istore_n 2 else .nop
def zS52 (T : zTb) (fl : zFl) (M : zM) (pc k n : Nat) (z : Int) (L : List Int) (len : Nat) (st : zS) : zR := bif Nat.beq k 27 then z_g len 1 (z_sto z_k0 M.2.2.1 2 st) else none
theorem zE52 {T : zTb} {fl : zFl} {M : zM} {pc k n : Nat} {z : Int} {L : List Int} {len : Nat} {st : zS} : zS52 T fl M pc k n z L len st = zstep T fl M pc (zD52 k n z L) len st := by
  unfold zS52 zD52
  cases Nat.beq k 27 with
  | true => exact rfl
  | false => rfl
theorem zK52 {k n : Nat} {z : Int} {L : List Int} : z_spk (zD52 k n z L) = none := by
  unfold zD52
  cases Nat.beq k 27 with
  | true => rfl
  | false => rfl
def zD53 (k n : Nat) (z : Int) (L : List Int) : Instr := bif Nat.beq k 28 then .istore_n 3 else .nop
def zS53 (T : zTb) (fl : zFl) (M : zM) (pc k n : Nat) (z : Int) (L : List Int) (len : Nat) (st : zS) : zR := bif Nat.beq k 28 then z_g len 1 (z_sto z_k0 M.2.2.1 3 st) else none
theorem zE53 {T : zTb} {fl : zFl} {M : zM} {pc k n : Nat} {z : Int} {L : List Int} {len : Nat} {st : zS} : zS53 T fl M pc k n z L len st = zstep T fl M pc (zD53 k n z L) len st := by
  unfold zS53 zD53
  cases Nat.beq k 28 with
  | true => exact rfl
  | false => rfl
theorem zK53 {k n : Nat} {z : Int} {L : List Int} : z_spk (zD53 k n z L) = none := by
  unfold zD53
  cases Nat.beq k 28 with
  | true => rfl
  | false => rfl
def zD54 (k n : Nat) (z : Int) (L : List Int) : Instr := bif Nat.blt k 28 then zD52 k n z L else zD53 k n z L
def zS54 (T : zTb) (fl : zFl) (M : zM) (pc k n : Nat) (z : Int) (L : List Int) (len : Nat) (st : zS) : zR := bif Nat.blt k 28 then zS52 T fl M pc k n z L len st else zS53 T fl M pc k n z L len st
theorem zE54 {T : zTb} {fl : zFl} {M : zM} {pc k n : Nat} {z : Int} {L : List Int} {len : Nat} {st : zS} : zS54 T fl M pc k n z L len st = zstep T fl M pc (zD54 k n z L) len st := by
  unfold zS54 zD54
  cases Nat.blt k 28 with
  | true => exact zE52 (n := n) (z := z) (L := L)
  | false => exact zE53 (n := n) (z := z) (L := L)
theorem zK54 {k n : Nat} {z : Int} {L : List Int} : z_spk (zD54 k n z L) = none := by
  unfold zD54
  cases Nat.blt k 28 with
  | true => exact zK52 (n := n) (z := z) (L := L)
  | false => exact zK53 (n := n) (z := z) (L := L)
def zD55 (k n : Nat) (z : Int) (L : List Int) : Instr := bif Nat.blt k 27 then zD51 k n z L else zD54 k n z L
def zS55 (T : zTb) (fl : zFl) (M : zM) (pc k n : Nat) (z : Int) (L : List Int) (len : Nat) (st : zS) : zR := bif Nat.blt k 27 then zS51 T fl M pc k n z L len st else zS54 T fl M pc k n z L len st
theorem zE55 {T : zTb} {fl : zFl} {M : zM} {pc k n : Nat} {z : Int} {L : List Int} {len : Nat} {st : zS} : zS55 T fl M pc k n z L len st = zstep T fl M pc (zD55 k n z L) len st := by
  unfold zS55 zD55
  cases Nat.blt k 27 with
  | true => exact zE51 (n := n) (z := z) (L := L)
  | false => exact zE54 (n := n) (z := z) (L := L)
theorem zK55 {k n : Nat} {z : Int} {L : List Int} : z_spk (zD55 k n z L) = none := by
  unfold zD55
  cases Nat.blt k 27 with
  | true => exact zK51 (n := n) (z := z) (L := L)
  | false => exact zK54 (n := n) (z := z) (L := L)
def zD56 (k n : Nat) (z : Int) (L : List Int) : Instr := bif Nat.beq k 29 then .lstore n else .nop
def zS56 (T : zTb) (fl : zFl) (M : zM) (pc k n : Nat) (z : Int) (L : List Int) (len : Nat) (st : zS) : zR := bif Nat.beq k 29 then z_g len 2 (z_sto2 M.2.2.1 n st) else none
theorem zE56 {T : zTb} {fl : zFl} {M : zM} {pc k n : Nat} {z : Int} {L : List Int} {len : Nat} {st : zS} : zS56 T fl M pc k n z L len st = zstep T fl M pc (zD56 k n z L) len st := by
  unfold zS56 zD56
  cases Nat.beq k 29 with
  | true => exact rfl
  | false => rfl
theorem zK56 {k n : Nat} {z : Int} {L : List Int} : z_spk (zD56 k n z L) = none := by
  unfold zD56
  cases Nat.beq k 29 with
  | true => rfl
  | false => rfl
def zD57 (k n : Nat) (z : Int) (L : List Int) : Instr := bif Nat.beq k 30 then .lstore_n 0 else .nop
def zS57 (T : zTb) (fl : zFl) (M : zM) (pc k n : Nat) (z : Int) (L : List Int) (len : Nat) (st : zS) : zR := bif Nat.beq k 30 then z_g len 1 (z_sto2 M.2.2.1 0 st) else none
theorem zE57 {T : zTb} {fl : zFl} {M : zM} {pc k n : Nat} {z : Int} {L : List Int} {len : Nat} {st : zS} : zS57 T fl M pc k n z L len st = zstep T fl M pc (zD57 k n z L) len st := by
  unfold zS57 zD57
  cases Nat.beq k 30 with
  | true => exact rfl
  | false => rfl
theorem zK57 {k n : Nat} {z : Int} {L : List Int} : z_spk (zD57 k n z L) = none := by
  unfold zD57
  cases Nat.beq k 30 with
  | true => rfl
  | false => rfl
def zD58 (k n : Nat) (z : Int) (L : List Int) : Instr := bif Nat.beq k 31 then .lstore_n 1 else .nop
def zS58 (T : zTb) (fl : zFl) (M : zM) (pc k n : Nat) (z : Int) (L : List Int) (len : Nat) (st : zS) : zR := bif Nat.beq k 31 then z_g len 1 (z_sto2 M.2.2.1 1 st) else none
theorem zE58 {T : zTb} {fl : zFl} {M : zM} {pc k n : Nat} {z : Int} {L : List Int} {len : Nat} {st : zS} : zS58 T fl M pc k n z L len st = zstep T fl M pc (zD58 k n z L) len st := by
  unfold zS58 zD58
  cases Nat.beq k 31 with
  | true => exact rfl
  | false => rfl
theorem zK58 {k n : Nat} {z : Int} {L : List Int} : z_spk (zD58 k n z L) = none := by
  unfold zD58
  cases Nat.beq k 31 with
  | true => rfl
  | false => rfl
def zD59 (k n : Nat) (z : Int) (L : List Int) : Instr := bif Nat.blt k 31 then zD57 k n z L else zD58 k n z L
def zS59 (T : zTb) (fl : zFl) (M : zM) (pc k n : Nat) (z : Int) (L : List Int) (len : Nat) (st : zS) : zR := bif Nat.blt k 31 then zS57 T fl M pc k n z L len st else zS58 T fl M pc k n z L len st
theorem zE59 {T : zTb} {fl : zFl} {M : zM} {pc k n : Nat} {z : Int} {L : List Int} {len : Nat} {st : zS} : zS59 T fl M pc k n z L len st = zstep T fl M pc (zD59 k n z L) len st := by
  unfold zS59 zD59
  cases Nat.blt k 31 with
  | true => exact zE57 (n := n) (z := z) (L := L)
  | false => exact zE58 (n := n) (z := z) (L := L)
theorem zK59 {k n : Nat} {z : Int} {L : List Int} : z_spk (zD59 k n z L) = none := by
  unfold zD59
  cases Nat.blt k 31 with
  | true => exact zK57 (n := n) (z := z) (L := L)
  | false => exact zK58 (n := n) (z := z) (L := L)
def zD60 (k n : Nat) (z : Int) (L : List Int) : Instr := bif Nat.blt k 30 then zD56 k n z L else zD59 k n z L
def zS60 (T : zTb) (fl : zFl) (M : zM) (pc k n : Nat) (z : Int) (L : List Int) (len : Nat) (st : zS) : zR := bif Nat.blt k 30 then zS56 T fl M pc k n z L len st else zS59 T fl M pc k n z L len st
theorem zE60 {T : zTb} {fl : zFl} {M : zM} {pc k n : Nat} {z : Int} {L : List Int} {len : Nat} {st : zS} : zS60 T fl M pc k n z L len st = zstep T fl M pc (zD60 k n z L) len st := by
  unfold zS60 zD60
  cases Nat.blt k 30 with
  | true => exact zE56 (n := n) (z := z) (L := L)
  | false => exact zE59 (n := n) (z := z) (L := L)
theorem zK60 {k n : Nat} {z : Int} {L : List Int} : z_spk (zD60 k n z L) = none := by
  unfold zD60
  cases Nat.blt k 30 with
  | true => exact zK56 (n := n) (z := z) (L := L)
  | false => exact zK59 (n := n) (z := z) (L := L)
def zD61 (k n : Nat) (z : Int) (L : List Int) : Instr := bif Nat.blt k 29 then zD55 k n z L else zD60 k n z L
def zS61 (T : zTb) (fl : zFl) (M : zM) (pc k n : Nat) (z : Int) (L : List Int) (len : Nat) (st : zS) : zR := bif Nat.blt k 29 then zS55 T fl M pc k n z L len st else zS60 T fl M pc k n z L len st
theorem zE61 {T : zTb} {fl : zFl} {M : zM} {pc k n : Nat} {z : Int} {L : List Int} {len : Nat} {st : zS} : zS61 T fl M pc k n z L len st = zstep T fl M pc (zD61 k n z L) len st := by
  unfold zS61 zD61
  cases Nat.blt k 29 with
  | true => exact zE55 (n := n) (z := z) (L := L)
  | false => exact zE60 (n := n) (z := z) (L := L)
theorem zK61 {k n : Nat} {z : Int} {L : List Int} : z_spk (zD61 k n z L) = none := by
  unfold zD61
  cases Nat.blt k 29 with
  | true => exact zK55 (n := n) (z := z) (L := L)
  | false => exact zK60 (n := n) (z := z) (L := L)
def zD62 (k n : Nat) (z : Int) (L : List Int) : Instr := bif Nat.beq k 32 then .lstore_n 2 else .nop
def zS62 (T : zTb) (fl : zFl) (M : zM) (pc k n : Nat) (z : Int) (L : List Int) (len : Nat) (st : zS) : zR := bif Nat.beq k 32 then z_g len 1 (z_sto2 M.2.2.1 2 st) else none
theorem zE62 {T : zTb} {fl : zFl} {M : zM} {pc k n : Nat} {z : Int} {L : List Int} {len : Nat} {st : zS} : zS62 T fl M pc k n z L len st = zstep T fl M pc (zD62 k n z L) len st := by
  unfold zS62 zD62
  cases Nat.beq k 32 with
  | true => exact rfl
  | false => rfl
theorem zK62 {k n : Nat} {z : Int} {L : List Int} : z_spk (zD62 k n z L) = none := by
  unfold zD62
  cases Nat.beq k 32 with
  | true => rfl
  | false => rfl
def zD63 (k n : Nat) (z : Int) (L : List Int) : Instr := bif Nat.beq k 33 then .lstore_n 3 else .nop
def zS63 (T : zTb) (fl : zFl) (M : zM) (pc k n : Nat) (z : Int) (L : List Int) (len : Nat) (st : zS) : zR := bif Nat.beq k 33 then z_g len 1 (z_sto2 M.2.2.1 3 st) else none
theorem zE63 {T : zTb} {fl : zFl} {M : zM} {pc k n : Nat} {z : Int} {L : List Int} {len : Nat} {st : zS} : zS63 T fl M pc k n z L len st = zstep T fl M pc (zD63 k n z L) len st := by
  unfold zS63 zD63
  cases Nat.beq k 33 with
  | true => exact rfl
  | false => rfl
theorem zK63 {k n : Nat} {z : Int} {L : List Int} : z_spk (zD63 k n z L) = none := by
  unfold zD63
  cases Nat.beq k 33 with
  | true => rfl
  | false => rfl
def zD64 (k n : Nat) (z : Int) (L : List Int) : Instr := bif Nat.beq k 34 then .astore n else .nop
def zS64 (T : zTb) (fl : zFl) (M : zM) (pc k n : Nat) (z : Int) (L : List Int) (len : Nat) (st : zS) : zR := bif Nat.beq k 34 then z_g len 2 (z_sto z_kr M.2.2.1 n st) else none
theorem zE64 {T : zTb} {fl : zFl} {M : zM} {pc k n : Nat} {z : Int} {L : List Int} {len : Nat} {st : zS} : zS64 T fl M pc k n z L len st = zstep T fl M pc (zD64 k n z L) len st := by
  unfold zS64 zD64
  cases Nat.beq k 34 with
  | true => exact rfl
  | false => rfl
theorem zK64 {k n : Nat} {z : Int} {L : List Int} : z_spk (zD64 k n z L) = none := by
  unfold zD64
  cases Nat.beq k 34 with
  | true => rfl
  | false => rfl
def zD65 (k n : Nat) (z : Int) (L : List Int) : Instr := bif Nat.blt k 34 then zD63 k n z L else zD64 k n z L
def zS65 (T : zTb) (fl : zFl) (M : zM) (pc k n : Nat) (z : Int) (L : List Int) (len : Nat) (st : zS) : zR := bif Nat.blt k 34 then zS63 T fl M pc k n z L len st else zS64 T fl M pc k n z L len st
theorem zE65 {T : zTb} {fl : zFl} {M : zM} {pc k n : Nat} {z : Int} {L : List Int} {len : Nat} {st : zS} : zS65 T fl M pc k n z L len st = zstep T fl M pc (zD65 k n z L) len st := by
  unfold zS65 zD65
  cases Nat.blt k 34 with
  | true => exact zE63 (n := n) (z := z) (L := L)
  | false => exact zE64 (n := n) (z := z) (L := L)
theorem zK65 {k n : Nat} {z : Int} {L : List Int} : z_spk (zD65 k n z L) = none := by
  unfold zD65
  cases Nat.blt k 34 with
  | true => exact zK63 (n := n) (z := z) (L := L)
  | false => exact zK64 (n := n) (z := z) (L := L)
def zD66 (k n : Nat) (z : Int) (L : List Int) : Instr := bif Nat.blt k 33 then zD62 k n z L else zD65 k n z L
def zS66 (T : zTb) (fl : zFl) (M : zM) (pc k n : Nat) (z : Int) (L : List Int) (len : Nat) (st : zS) : zR := bif Nat.blt k 33 then zS62 T fl M pc k n z L len st else zS65 T fl M pc k n z L len st
theorem zE66 {T : zTb} {fl : zFl} {M : zM} {pc k n : Nat} {z : Int} {L : List Int} {len : Nat} {st : zS} : zS66 T fl M pc k n z L len st = zstep T fl M pc (zD66 k n z L) len st := by
  unfold zS66 zD66
  cases Nat.blt k 33 with
  | true => exact zE62 (n := n) (z := z) (L := L)
  | false => exact zE65 (n := n) (z := z) (L := L)
theorem zK66 {k n : Nat} {z : Int} {L : List Int} : z_spk (zD66 k n z L) = none := by
  unfold zD66
  cases Nat.blt k 33 with
  | true => exact zK62 (n := n) (z := z) (L := L)
  | false => exact zK65 (n := n) (z := z) (L := L)
def zD67 (k n : Nat) (z : Int) (L : List Int) : Instr := bif Nat.beq k 35 then .astore_n 0 else .nop
def zS67 (T : zTb) (fl : zFl) (M : zM) (pc k n : Nat) (z : Int) (L : List Int) (len : Nat) (st : zS) : zR := bif Nat.beq k 35 then z_g len 1 (z_sto z_kr M.2.2.1 0 st) else none
theorem zE67 {T : zTb} {fl : zFl} {M : zM} {pc k n : Nat} {z : Int} {L : List Int} {len : Nat} {st : zS} : zS67 T fl M pc k n z L len st = zstep T fl M pc (zD67 k n z L) len st := by
  unfold zS67 zD67
  cases Nat.beq k 35 with
  | true => exact rfl
  | false => rfl
theorem zK67 {k n : Nat} {z : Int} {L : List Int} : z_spk (zD67 k n z L) = none := by
  unfold zD67
  cases Nat.beq k 35 with
  | true => rfl
  | false => rfl
def zD68 (k n : Nat) (z : Int) (L : List Int) : Instr := bif Nat.beq k 36 then .astore_n 1 else .nop
def zS68 (T : zTb) (fl : zFl) (M : zM) (pc k n : Nat) (z : Int) (L : List Int) (len : Nat) (st : zS) : zR := bif Nat.beq k 36 then z_g len 1 (z_sto z_kr M.2.2.1 1 st) else none
theorem zE68 {T : zTb} {fl : zFl} {M : zM} {pc k n : Nat} {z : Int} {L : List Int} {len : Nat} {st : zS} : zS68 T fl M pc k n z L len st = zstep T fl M pc (zD68 k n z L) len st := by
  unfold zS68 zD68
  cases Nat.beq k 36 with
  | true => exact rfl
  | false => rfl
theorem zK68 {k n : Nat} {z : Int} {L : List Int} : z_spk (zD68 k n z L) = none := by
  unfold zD68
  cases Nat.beq k 36 with
  | true => rfl
  | false => rfl
def zD69 (k n : Nat) (z : Int) (L : List Int) : Instr := bif Nat.blt k 36 then zD67 k n z L else zD68 k n z L
def zS69 (T : zTb) (fl : zFl) (M : zM) (pc k n : Nat) (z : Int) (L : List Int) (len : Nat) (st : zS) : zR := bif Nat.blt k 36 then zS67 T fl M pc k n z L len st else zS68 T fl M pc k n z L len st
theorem zE69 {T : zTb} {fl : zFl} {M : zM} {pc k n : Nat} {z : Int} {L : List Int} {len : Nat} {st : zS} : zS69 T fl M pc k n z L len st = zstep T fl M pc (zD69 k n z L) len st := by
  unfold zS69 zD69
  cases Nat.blt k 36 with
  | true => exact zE67 (n := n) (z := z) (L := L)
  | false => exact zE68 (n := n) (z := z) (L := L)
theorem zK69 {k n : Nat} {z : Int} {L : List Int} : z_spk (zD69 k n z L) = none := by
  unfold zD69
  cases Nat.blt k 36 with
  | true => exact zK67 (n := n) (z := z) (L := L)
  | false => exact zK68 (n := n) (z := z) (L := L)
def zD70 (k n : Nat) (z : Int) (L : List Int) : Instr := bif Nat.beq k 37 then .astore_n 2 else .nop
def zS70 (T : zTb) (fl : zFl) (M : zM) (pc k n : Nat) (z : Int) (L : List Int) (len : Nat) (st : zS) : zR := bif Nat.beq k 37 then z_g len 1 (z_sto z_kr M.2.2.1 2 st) else none
theorem zE70 {T : zTb} {fl : zFl} {M : zM} {pc k n : Nat} {z : Int} {L : List Int} {len : Nat} {st : zS} : zS70 T fl M pc k n z L len st = zstep T fl M pc (zD70 k n z L) len st := by
  unfold zS70 zD70
  cases Nat.beq k 37 with
  | true => exact rfl
  | false => rfl
theorem zK70 {k n : Nat} {z : Int} {L : List Int} : z_spk (zD70 k n z L) = none := by
  unfold zD70
  cases Nat.beq k 37 with
  | true => rfl
  | false => rfl
def zD71 (k n : Nat) (z : Int) (L : List Int) : Instr := bif Nat.beq k 38 then .astore_n 3 else .nop
def zS71 (T : zTb) (fl : zFl) (M : zM) (pc k n : Nat) (z : Int) (L : List Int) (len : Nat) (st : zS) : zR := bif Nat.beq k 38 then z_g len 1 (z_sto z_kr M.2.2.1 3 st) else none
theorem zE71 {T : zTb} {fl : zFl} {M : zM} {pc k n : Nat} {z : Int} {L : List Int} {len : Nat} {st : zS} : zS71 T fl M pc k n z L len st = zstep T fl M pc (zD71 k n z L) len st := by
  unfold zS71 zD71
  cases Nat.beq k 38 with
  | true => exact rfl
  | false => rfl
theorem zK71 {k n : Nat} {z : Int} {L : List Int} : z_spk (zD71 k n z L) = none := by
  unfold zD71
  cases Nat.beq k 38 with
  | true => rfl
  | false => rfl
def zD72 (k n : Nat) (z : Int) (L : List Int) : Instr := bif Nat.blt k 38 then zD70 k n z L else zD71 k n z L
def zS72 (T : zTb) (fl : zFl) (M : zM) (pc k n : Nat) (z : Int) (L : List Int) (len : Nat) (st : zS) : zR := bif Nat.blt k 38 then zS70 T fl M pc k n z L len st else zS71 T fl M pc k n z L len st
theorem zE72 {T : zTb} {fl : zFl} {M : zM} {pc k n : Nat} {z : Int} {L : List Int} {len : Nat} {st : zS} : zS72 T fl M pc k n z L len st = zstep T fl M pc (zD72 k n z L) len st := by
  unfold zS72 zD72
  cases Nat.blt k 38 with
  | true => exact zE70 (n := n) (z := z) (L := L)
  | false => exact zE71 (n := n) (z := z) (L := L)
theorem zK72 {k n : Nat} {z : Int} {L : List Int} : z_spk (zD72 k n z L) = none := by
  unfold zD72
  cases Nat.blt k 38 with
  | true => exact zK70 (n := n) (z := z) (L := L)
  | false => exact zK71 (n := n) (z := z) (L := L)
def zD73 (k n : Nat) (z : Int) (L : List Int) : Instr := bif Nat.blt k 37 then zD69 k n z L else zD72 k n z L
def zS73 (T : zTb) (fl : zFl) (M : zM) (pc k n : Nat) (z : Int) (L : List Int) (len : Nat) (st : zS) : zR := bif Nat.blt k 37 then zS69 T fl M pc k n z L len st else zS72 T fl M pc k n z L len st
theorem zE73 {T : zTb} {fl : zFl} {M : zM} {pc k n : Nat} {z : Int} {L : List Int} {len : Nat} {st : zS} : zS73 T fl M pc k n z L len st = zstep T fl M pc (zD73 k n z L) len st := by
  unfold zS73 zD73
  cases Nat.blt k 37 with
  | true => exact zE69 (n := n) (z := z) (L := L)
  | false => exact zE72 (n := n) (z := z) (L := L)
theorem zK73 {k n : Nat} {z : Int} {L : List Int} : z_spk (zD73 k n z L) = none := by
  unfold zD73
  cases Nat.blt k 37 with
  | true => exact zK69 (n := n) (z := z) (L := L)
  | false => exact zK72 (n := n) (z := z) (L := L)
def zD74 (k n : Nat) (z : Int) (L : List Int) : Instr := bif Nat.blt k 35 then zD66 k n z L else zD73 k n z L
def zS74 (T : zTb) (fl : zFl) (M : zM) (pc k n : Nat) (z : Int) (L : List Int) (len : Nat) (st : zS) : zR := bif Nat.blt k 35 then zS66 T fl M pc k n z L len st else zS73 T fl M pc k n z L len st
theorem zE74 {T : zTb} {fl : zFl} {M : zM} {pc k n : Nat} {z : Int} {L : List Int} {len : Nat} {st : zS} : zS74 T fl M pc k n z L len st = zstep T fl M pc (zD74 k n z L) len st := by
  unfold zS74 zD74
  cases Nat.blt k 35 with
  | true => exact zE66 (n := n) (z := z) (L := L)
  | false => exact zE73 (n := n) (z := z) (L := L)
theorem zK74 {k n : Nat} {z : Int} {L : List Int} : z_spk (zD74 k n z L) = none := by
  unfold zD74
  cases Nat.blt k 35 with
  | true => exact zK66 (n := n) (z := z) (L := L)
  | false => exact zK73 (n := n) (z := z) (L := L)
def zD75 (k n : Nat) (z : Int) (L : List Int) : Instr := bif Nat.blt k 32 then zD61 k n z L else zD74 k n z L
def zS75 (T : zTb) (fl : zFl) (M : zM) (pc k n : Nat) (z : Int) (L : List Int) (len : Nat) (st : zS) : zR := bif Nat.blt k 32 then zS61 T fl M pc k n z L len st else zS74 T fl M pc k n z L len st
theorem zE75 {T : zTb} {fl : zFl} {M : zM} {pc k n : Nat} {z : Int} {L : List Int} {len : Nat} {st : zS} : zS75 T fl M pc k n z L len st = zstep T fl M pc (zD75 k n z L) len st := by
  unfold zS75 zD75
  cases Nat.blt k 32 with
  | true => exact zE61 (n := n) (z := z) (L := L)
  | false => exact zE74 (n := n) (z := z) (L := L)
theorem zK75 {k n : Nat} {z : Int} {L : List Int} : z_spk (zD75 k n z L) = none := by
  unfold zD75
  cases Nat.blt k 32 with
  | true => exact zK61 (n := n) (z := z) (L := L)
  | false => exact zK74 (n := n) (z := z) (L := L)
def zD76 (k n : Nat) (z : Int) (L : List Int) : Instr := bif Nat.beq k 39 then .iinc n z else .nop
def zS76 (T : zTb) (fl : zFl) (M : zM) (pc k n : Nat) (z : Int) (L : List Int) (len : Nat) (st : zS) : zR := bif Nat.beq k 39 then z_g len 3 (z_inc M.2.2.1 n z st) else none
theorem zE76 {T : zTb} {fl : zFl} {M : zM} {pc k n : Nat} {z : Int} {L : List Int} {len : Nat} {st : zS} : zS76 T fl M pc k n z L len st = zstep T fl M pc (zD76 k n z L) len st := by
  unfold zS76 zD76
  cases Nat.beq k 39 with
  | true => exact rfl
  | false => rfl
theorem zK76 {k n : Nat} {z : Int} {L : List Int} : z_spk (zD76 k n z L) = none := by
  unfold zD76
  cases Nat.beq k 39 with
  | true => rfl
  | false => rfl
def zD77 (k n : Nat) (z : Int) (L : List Int) : Instr := bif Nat.beq k 40 then .i2s else .nop
def zS77 (T : zTb) (fl : zFl) (M : zM) (pc k n : Nat) (z : Int) (L : List Int) (len : Nat) (st : zS) : zR := bif Nat.beq k 40 then z_g len 1 (z_uo 0 (z_uf (fun a => a.toInt16.toInt32) (-32768) 32767) st) else none
theorem zE77 {T : zTb} {fl : zFl} {M : zM} {pc k n : Nat} {z : Int} {L : List Int} {len : Nat} {st : zS} : zS77 T fl M pc k n z L len st = zstep T fl M pc (zD77 k n z L) len st := by
  unfold zS77 zD77
  cases Nat.beq k 40 with
  | true => exact rfl
  | false => rfl
theorem zK77 {k n : Nat} {z : Int} {L : List Int} : z_spk (zD77 k n z L) = none := by
  unfold zD77
  cases Nat.beq k 40 with
  | true => rfl
  | false => rfl
def zD78 (k n : Nat) (z : Int) (L : List Int) : Instr := bif Nat.beq k 41 then .i2c else .nop
def zS78 (T : zTb) (fl : zFl) (M : zM) (pc k n : Nat) (z : Int) (L : List Int) (len : Nat) (st : zS) : zR := bif Nat.beq k 41 then z_g len 1 (z_uo 0 (z_uf (fun a => (a.toUInt32 % 65536).toInt32) (z_rl 0) (z_rh 0)) st) else none
theorem zE78 {T : zTb} {fl : zFl} {M : zM} {pc k n : Nat} {z : Int} {L : List Int} {len : Nat} {st : zS} : zS78 T fl M pc k n z L len st = zstep T fl M pc (zD78 k n z L) len st := by
  unfold zS78 zD78
  cases Nat.beq k 41 with
  | true => exact rfl
  | false => rfl
theorem zK78 {k n : Nat} {z : Int} {L : List Int} : z_spk (zD78 k n z L) = none := by
  unfold zD78
  cases Nat.beq k 41 with
  | true => rfl
  | false => rfl
def zD79 (k n : Nat) (z : Int) (L : List Int) : Instr := bif Nat.blt k 41 then zD77 k n z L else zD78 k n z L
def zS79 (T : zTb) (fl : zFl) (M : zM) (pc k n : Nat) (z : Int) (L : List Int) (len : Nat) (st : zS) : zR := bif Nat.blt k 41 then zS77 T fl M pc k n z L len st else zS78 T fl M pc k n z L len st
theorem zE79 {T : zTb} {fl : zFl} {M : zM} {pc k n : Nat} {z : Int} {L : List Int} {len : Nat} {st : zS} : zS79 T fl M pc k n z L len st = zstep T fl M pc (zD79 k n z L) len st := by
  unfold zS79 zD79
  cases Nat.blt k 41 with
  | true => exact zE77 (n := n) (z := z) (L := L)
  | false => exact zE78 (n := n) (z := z) (L := L)
theorem zK79 {k n : Nat} {z : Int} {L : List Int} : z_spk (zD79 k n z L) = none := by
  unfold zD79
  cases Nat.blt k 41 with
  | true => exact zK77 (n := n) (z := z) (L := L)
  | false => exact zK78 (n := n) (z := z) (L := L)
def zD80 (k n : Nat) (z : Int) (L : List Int) : Instr := bif Nat.blt k 40 then zD76 k n z L else zD79 k n z L
def zS80 (T : zTb) (fl : zFl) (M : zM) (pc k n : Nat) (z : Int) (L : List Int) (len : Nat) (st : zS) : zR := bif Nat.blt k 40 then zS76 T fl M pc k n z L len st else zS79 T fl M pc k n z L len st
theorem zE80 {T : zTb} {fl : zFl} {M : zM} {pc k n : Nat} {z : Int} {L : List Int} {len : Nat} {st : zS} : zS80 T fl M pc k n z L len st = zstep T fl M pc (zD80 k n z L) len st := by
  unfold zS80 zD80
  cases Nat.blt k 40 with
  | true => exact zE76 (n := n) (z := z) (L := L)
  | false => exact zE79 (n := n) (z := z) (L := L)
theorem zK80 {k n : Nat} {z : Int} {L : List Int} : z_spk (zD80 k n z L) = none := by
  unfold zD80
  cases Nat.blt k 40 with
  | true => exact zK76 (n := n) (z := z) (L := L)
  | false => exact zK79 (n := n) (z := z) (L := L)
def zD81 (k n : Nat) (z : Int) (L : List Int) : Instr := bif Nat.beq k 42 then .ineg else .nop
def zS81 (T : zTb) (fl : zFl) (M : zM) (pc k n : Nat) (z : Int) (L : List Int) (len : Nat) (st : zS) : zR := bif Nat.beq k 42 then z_g len 1 (z_uo 0 z_neg st) else none
theorem zE81 {T : zTb} {fl : zFl} {M : zM} {pc k n : Nat} {z : Int} {L : List Int} {len : Nat} {st : zS} : zS81 T fl M pc k n z L len st = zstep T fl M pc (zD81 k n z L) len st := by
  unfold zS81 zD81
  cases Nat.beq k 42 with
  | true => exact rfl
  | false => rfl
theorem zK81 {k n : Nat} {z : Int} {L : List Int} : z_spk (zD81 k n z L) = none := by
  unfold zD81
  cases Nat.beq k 42 with
  | true => rfl
  | false => rfl
def zD82 (k n : Nat) (z : Int) (L : List Int) : Instr := bif Nat.beq k 43 then .iushr else .nop
def zS82 (T : zTb) (fl : zFl) (M : zM) (pc k n : Nat) (z : Int) (L : List Int) (len : Nat) (st : zS) : zR := bif Nat.beq k 43 then z_g len 1 (z_bo 0 0 (z_fold 0 (cfI fun a b => (a.toUInt32 >>> (b.toUInt32 &&& Int32.toUInt32 31)).toInt32)) st) else none
theorem zE82 {T : zTb} {fl : zFl} {M : zM} {pc k n : Nat} {z : Int} {L : List Int} {len : Nat} {st : zS} : zS82 T fl M pc k n z L len st = zstep T fl M pc (zD82 k n z L) len st := by
  unfold zS82 zD82
  cases Nat.beq k 43 with
  | true => exact rfl
  | false => rfl
theorem zK82 {k n : Nat} {z : Int} {L : List Int} : z_spk (zD82 k n z L) = none := by
  unfold zD82
  cases Nat.beq k 43 with
  | true => rfl
  | false => rfl
def zD83 (k n : Nat) (z : Int) (L : List Int) : Instr := bif Nat.blt k 43 then zD81 k n z L else zD82 k n z L
def zS83 (T : zTb) (fl : zFl) (M : zM) (pc k n : Nat) (z : Int) (L : List Int) (len : Nat) (st : zS) : zR := bif Nat.blt k 43 then zS81 T fl M pc k n z L len st else zS82 T fl M pc k n z L len st
theorem zE83 {T : zTb} {fl : zFl} {M : zM} {pc k n : Nat} {z : Int} {L : List Int} {len : Nat} {st : zS} : zS83 T fl M pc k n z L len st = zstep T fl M pc (zD83 k n z L) len st := by
  unfold zS83 zD83
  cases Nat.blt k 43 with
  | true => exact zE81 (n := n) (z := z) (L := L)
  | false => exact zE82 (n := n) (z := z) (L := L)
theorem zK83 {k n : Nat} {z : Int} {L : List Int} : z_spk (zD83 k n z L) = none := by
  unfold zD83
  cases Nat.blt k 43 with
  | true => exact zK81 (n := n) (z := z) (L := L)
  | false => exact zK82 (n := n) (z := z) (L := L)
def zD84 (k n : Nat) (z : Int) (L : List Int) : Instr := bif Nat.beq k 44 then .lneg else .nop
def zS84 (T : zTb) (fl : zFl) (M : zM) (pc k n : Nat) (z : Int) (L : List Int) (len : Nat) (st : zS) : zR := bif Nat.beq k 44 then z_g len 1 (z_lneg st) else none
theorem zE84 {T : zTb} {fl : zFl} {M : zM} {pc k n : Nat} {z : Int} {L : List Int} {len : Nat} {st : zS} : zS84 T fl M pc k n z L len st = zstep T fl M pc (zD84 k n z L) len st := by
  unfold zS84 zD84
  cases Nat.beq k 44 with
  | true => exact rfl
  | false => rfl
theorem zK84 {k n : Nat} {z : Int} {L : List Int} : z_spk (zD84 k n z L) = none := by
  unfold zD84
  cases Nat.beq k 44 with
  | true => rfl
  | false => rfl
def zD85 (k n : Nat) (z : Int) (L : List Int) : Instr := bif Nat.beq k 45 then .iadd else .nop
def zS85 (T : zTb) (fl : zFl) (M : zM) (pc k n : Nat) (z : Int) (L : List Int) (len : Nat) (st : zS) : zR := bif Nat.beq k 45 then z_g len 1 (z_bo 0 0 (z_em 0 (z_add2 0)) st) else none
theorem zE85 {T : zTb} {fl : zFl} {M : zM} {pc k n : Nat} {z : Int} {L : List Int} {len : Nat} {st : zS} : zS85 T fl M pc k n z L len st = zstep T fl M pc (zD85 k n z L) len st := by
  unfold zS85 zD85
  cases Nat.beq k 45 with
  | true => exact rfl
  | false => rfl
theorem zK85 {k n : Nat} {z : Int} {L : List Int} : z_spk (zD85 k n z L) = none := by
  unfold zD85
  cases Nat.beq k 45 with
  | true => rfl
  | false => rfl
def zD86 (k n : Nat) (z : Int) (L : List Int) : Instr := bif Nat.blt k 45 then zD84 k n z L else zD85 k n z L
def zS86 (T : zTb) (fl : zFl) (M : zM) (pc k n : Nat) (z : Int) (L : List Int) (len : Nat) (st : zS) : zR := bif Nat.blt k 45 then zS84 T fl M pc k n z L len st else zS85 T fl M pc k n z L len st
theorem zE86 {T : zTb} {fl : zFl} {M : zM} {pc k n : Nat} {z : Int} {L : List Int} {len : Nat} {st : zS} : zS86 T fl M pc k n z L len st = zstep T fl M pc (zD86 k n z L) len st := by
  unfold zS86 zD86
  cases Nat.blt k 45 with
  | true => exact zE84 (n := n) (z := z) (L := L)
  | false => exact zE85 (n := n) (z := z) (L := L)
theorem zK86 {k n : Nat} {z : Int} {L : List Int} : z_spk (zD86 k n z L) = none := by
  unfold zD86
  cases Nat.blt k 45 with
  | true => exact zK84 (n := n) (z := z) (L := L)
  | false => exact zK85 (n := n) (z := z) (L := L)
def zD87 (k n : Nat) (z : Int) (L : List Int) : Instr := bif Nat.blt k 44 then zD83 k n z L else zD86 k n z L
def zS87 (T : zTb) (fl : zFl) (M : zM) (pc k n : Nat) (z : Int) (L : List Int) (len : Nat) (st : zS) : zR := bif Nat.blt k 44 then zS83 T fl M pc k n z L len st else zS86 T fl M pc k n z L len st
theorem zE87 {T : zTb} {fl : zFl} {M : zM} {pc k n : Nat} {z : Int} {L : List Int} {len : Nat} {st : zS} : zS87 T fl M pc k n z L len st = zstep T fl M pc (zD87 k n z L) len st := by
  unfold zS87 zD87
  cases Nat.blt k 44 with
  | true => exact zE83 (n := n) (z := z) (L := L)
  | false => exact zE86 (n := n) (z := z) (L := L)
theorem zK87 {k n : Nat} {z : Int} {L : List Int} : z_spk (zD87 k n z L) = none := by
  unfold zD87
  cases Nat.blt k 44 with
  | true => exact zK83 (n := n) (z := z) (L := L)
  | false => exact zK86 (n := n) (z := z) (L := L)
def zD88 (k n : Nat) (z : Int) (L : List Int) : Instr := bif Nat.blt k 42 then zD80 k n z L else zD87 k n z L
def zS88 (T : zTb) (fl : zFl) (M : zM) (pc k n : Nat) (z : Int) (L : List Int) (len : Nat) (st : zS) : zR := bif Nat.blt k 42 then zS80 T fl M pc k n z L len st else zS87 T fl M pc k n z L len st
theorem zE88 {T : zTb} {fl : zFl} {M : zM} {pc k n : Nat} {z : Int} {L : List Int} {len : Nat} {st : zS} : zS88 T fl M pc k n z L len st = zstep T fl M pc (zD88 k n z L) len st := by
  unfold zS88 zD88
  cases Nat.blt k 42 with
  | true => exact zE80 (n := n) (z := z) (L := L)
  | false => exact zE87 (n := n) (z := z) (L := L)
theorem zK88 {k n : Nat} {z : Int} {L : List Int} : z_spk (zD88 k n z L) = none := by
  unfold zD88
  cases Nat.blt k 42 with
  | true => exact zK80 (n := n) (z := z) (L := L)
  | false => exact zK87 (n := n) (z := z) (L := L)
def zD89 (k n : Nat) (z : Int) (L : List Int) : Instr := bif Nat.beq k 46 then .isub else .nop
def zS89 (T : zTb) (fl : zFl) (M : zM) (pc k n : Nat) (z : Int) (L : List Int) (len : Nat) (st : zS) : zR := bif Nat.beq k 46 then z_g len 1 (z_bo 0 0 (z_em 1 (z_sub2 0)) st) else none
theorem zE89 {T : zTb} {fl : zFl} {M : zM} {pc k n : Nat} {z : Int} {L : List Int} {len : Nat} {st : zS} : zS89 T fl M pc k n z L len st = zstep T fl M pc (zD89 k n z L) len st := by
  unfold zS89 zD89
  cases Nat.beq k 46 with
  | true => exact rfl
  | false => rfl
theorem zK89 {k n : Nat} {z : Int} {L : List Int} : z_spk (zD89 k n z L) = none := by
  unfold zD89
  cases Nat.beq k 46 with
  | true => rfl
  | false => rfl
def zD90 (k n : Nat) (z : Int) (L : List Int) : Instr := bif Nat.beq k 47 then .imul else .nop
def zS90 (T : zTb) (fl : zFl) (M : zM) (pc k n : Nat) (z : Int) (L : List Int) (len : Nat) (st : zS) : zR := bif Nat.beq k 47 then z_g len 1 (z_bo 0 0 (z_em 2 (z_mul 0 (cfI fun a b => a * b))) st) else none
theorem zE90 {T : zTb} {fl : zFl} {M : zM} {pc k n : Nat} {z : Int} {L : List Int} {len : Nat} {st : zS} : zS90 T fl M pc k n z L len st = zstep T fl M pc (zD90 k n z L) len st := by
  unfold zS90 zD90
  cases Nat.beq k 47 with
  | true => exact rfl
  | false => rfl
theorem zK90 {k n : Nat} {z : Int} {L : List Int} : z_spk (zD90 k n z L) = none := by
  unfold zD90
  cases Nat.beq k 47 with
  | true => rfl
  | false => rfl
def zD91 (k n : Nat) (z : Int) (L : List Int) : Instr := bif Nat.beq k 48 then .iand else .nop
def zS91 (T : zTb) (fl : zFl) (M : zM) (pc k n : Nat) (z : Int) (L : List Int) (len : Nat) (st : zS) : zR := bif Nat.beq k 48 then z_g len 1 (z_or (z_ian fl.1 st) (z_bo 0 0 (z_em 3 (z_and (cfI fun a b => a &&& b))) st)) else none
theorem zE91 {T : zTb} {fl : zFl} {M : zM} {pc k n : Nat} {z : Int} {L : List Int} {len : Nat} {st : zS} : zS91 T fl M pc k n z L len st = zstep T fl M pc (zD91 k n z L) len st := by
  unfold zS91 zD91
  cases Nat.beq k 48 with
  | true => exact rfl
  | false => rfl
theorem zK91 {k n : Nat} {z : Int} {L : List Int} : z_spk (zD91 k n z L) = none := by
  unfold zD91
  cases Nat.beq k 48 with
  | true => rfl
  | false => rfl
def zD92 (k n : Nat) (z : Int) (L : List Int) : Instr := bif Nat.blt k 48 then zD90 k n z L else zD91 k n z L
def zS92 (T : zTb) (fl : zFl) (M : zM) (pc k n : Nat) (z : Int) (L : List Int) (len : Nat) (st : zS) : zR := bif Nat.blt k 48 then zS90 T fl M pc k n z L len st else zS91 T fl M pc k n z L len st
theorem zE92 {T : zTb} {fl : zFl} {M : zM} {pc k n : Nat} {z : Int} {L : List Int} {len : Nat} {st : zS} : zS92 T fl M pc k n z L len st = zstep T fl M pc (zD92 k n z L) len st := by
  unfold zS92 zD92
  cases Nat.blt k 48 with
  | true => exact zE90 (n := n) (z := z) (L := L)
  | false => exact zE91 (n := n) (z := z) (L := L)
theorem zK92 {k n : Nat} {z : Int} {L : List Int} : z_spk (zD92 k n z L) = none := by
  unfold zD92
  cases Nat.blt k 48 with
  | true => exact zK90 (n := n) (z := z) (L := L)
  | false => exact zK91 (n := n) (z := z) (L := L)
def zD93 (k n : Nat) (z : Int) (L : List Int) : Instr := bif Nat.blt k 47 then zD89 k n z L else zD92 k n z L
def zS93 (T : zTb) (fl : zFl) (M : zM) (pc k n : Nat) (z : Int) (L : List Int) (len : Nat) (st : zS) : zR := bif Nat.blt k 47 then zS89 T fl M pc k n z L len st else zS92 T fl M pc k n z L len st
theorem zE93 {T : zTb} {fl : zFl} {M : zM} {pc k n : Nat} {z : Int} {L : List Int} {len : Nat} {st : zS} : zS93 T fl M pc k n z L len st = zstep T fl M pc (zD93 k n z L) len st := by
  unfold zS93 zD93
  cases Nat.blt k 47 with
  | true => exact zE89 (n := n) (z := z) (L := L)
  | false => exact zE92 (n := n) (z := z) (L := L)
theorem zK93 {k n : Nat} {z : Int} {L : List Int} : z_spk (zD93 k n z L) = none := by
  unfold zD93
  cases Nat.blt k 47 with
  | true => exact zK89 (n := n) (z := z) (L := L)
  | false => exact zK92 (n := n) (z := z) (L := L)
def zD94 (k n : Nat) (z : Int) (L : List Int) : Instr := bif Nat.beq k 49 then .ior else .nop
def zS94 (T : zTb) (fl : zFl) (M : zM) (pc k n : Nat) (z : Int) (L : List Int) (len : Nat) (st : zS) : zR := bif Nat.beq k 49 then z_g len 1 (z_bo 0 0 (z_or2 (cfI fun a b => a ||| b)) st) else none
theorem zE94 {T : zTb} {fl : zFl} {M : zM} {pc k n : Nat} {z : Int} {L : List Int} {len : Nat} {st : zS} : zS94 T fl M pc k n z L len st = zstep T fl M pc (zD94 k n z L) len st := by
  unfold zS94 zD94
  cases Nat.beq k 49 with
  | true => exact rfl
  | false => rfl
theorem zK94 {k n : Nat} {z : Int} {L : List Int} : z_spk (zD94 k n z L) = none := by
  unfold zD94
  cases Nat.beq k 49 with
  | true => rfl
  | false => rfl
def zD95 (k n : Nat) (z : Int) (L : List Int) : Instr := bif Nat.beq k 50 then .ixor else .nop
def zS95 (T : zTb) (fl : zFl) (M : zM) (pc k n : Nat) (z : Int) (L : List Int) (len : Nat) (st : zS) : zR := bif Nat.beq k 50 then z_g len 1 (z_bo 0 0 (z_fold 0 (cfI fun a b => a ^^^ b)) st) else none
theorem zE95 {T : zTb} {fl : zFl} {M : zM} {pc k n : Nat} {z : Int} {L : List Int} {len : Nat} {st : zS} : zS95 T fl M pc k n z L len st = zstep T fl M pc (zD95 k n z L) len st := by
  unfold zS95 zD95
  cases Nat.beq k 50 with
  | true => exact rfl
  | false => rfl
theorem zK95 {k n : Nat} {z : Int} {L : List Int} : z_spk (zD95 k n z L) = none := by
  unfold zD95
  cases Nat.beq k 50 with
  | true => rfl
  | false => rfl
def zD96 (k n : Nat) (z : Int) (L : List Int) : Instr := bif Nat.blt k 50 then zD94 k n z L else zD95 k n z L
def zS96 (T : zTb) (fl : zFl) (M : zM) (pc k n : Nat) (z : Int) (L : List Int) (len : Nat) (st : zS) : zR := bif Nat.blt k 50 then zS94 T fl M pc k n z L len st else zS95 T fl M pc k n z L len st
theorem zE96 {T : zTb} {fl : zFl} {M : zM} {pc k n : Nat} {z : Int} {L : List Int} {len : Nat} {st : zS} : zS96 T fl M pc k n z L len st = zstep T fl M pc (zD96 k n z L) len st := by
  unfold zS96 zD96
  cases Nat.blt k 50 with
  | true => exact zE94 (n := n) (z := z) (L := L)
  | false => exact zE95 (n := n) (z := z) (L := L)
theorem zK96 {k n : Nat} {z : Int} {L : List Int} : z_spk (zD96 k n z L) = none := by
  unfold zD96
  cases Nat.blt k 50 with
  | true => exact zK94 (n := n) (z := z) (L := L)
  | false => exact zK95 (n := n) (z := z) (L := L)
def zD97 (k n : Nat) (z : Int) (L : List Int) : Instr := bif Nat.beq k 51 then .ishl else .nop
def zS97 (T : zTb) (fl : zFl) (M : zM) (pc k n : Nat) (z : Int) (L : List Int) (len : Nat) (st : zS) : zR := bif Nat.beq k 51 then z_g len 1 (z_bo 0 0 (z_sft 0 31 (cfI fun a b => a <<< (b &&& 31))) st) else none
theorem zE97 {T : zTb} {fl : zFl} {M : zM} {pc k n : Nat} {z : Int} {L : List Int} {len : Nat} {st : zS} : zS97 T fl M pc k n z L len st = zstep T fl M pc (zD97 k n z L) len st := by
  unfold zS97 zD97
  cases Nat.beq k 51 with
  | true => exact rfl
  | false => rfl
theorem zK97 {k n : Nat} {z : Int} {L : List Int} : z_spk (zD97 k n z L) = none := by
  unfold zD97
  cases Nat.beq k 51 with
  | true => rfl
  | false => rfl
def zD98 (k n : Nat) (z : Int) (L : List Int) : Instr := bif Nat.beq k 52 then .ishr else .nop
def zS98 (T : zTb) (fl : zFl) (M : zM) (pc k n : Nat) (z : Int) (L : List Int) (len : Nat) (st : zS) : zR := bif Nat.beq k 52 then z_g len 1 (z_bo 0 0 (z_fold 0 (cfI fun a b => a >>> (b &&& 31))) st) else none
theorem zE98 {T : zTb} {fl : zFl} {M : zM} {pc k n : Nat} {z : Int} {L : List Int} {len : Nat} {st : zS} : zS98 T fl M pc k n z L len st = zstep T fl M pc (zD98 k n z L) len st := by
  unfold zS98 zD98
  cases Nat.beq k 52 with
  | true => exact rfl
  | false => rfl
theorem zK98 {k n : Nat} {z : Int} {L : List Int} : z_spk (zD98 k n z L) = none := by
  unfold zD98
  cases Nat.beq k 52 with
  | true => rfl
  | false => rfl
def zD99 (k n : Nat) (z : Int) (L : List Int) : Instr := bif Nat.blt k 52 then zD97 k n z L else zD98 k n z L
def zS99 (T : zTb) (fl : zFl) (M : zM) (pc k n : Nat) (z : Int) (L : List Int) (len : Nat) (st : zS) : zR := bif Nat.blt k 52 then zS97 T fl M pc k n z L len st else zS98 T fl M pc k n z L len st
theorem zE99 {T : zTb} {fl : zFl} {M : zM} {pc k n : Nat} {z : Int} {L : List Int} {len : Nat} {st : zS} : zS99 T fl M pc k n z L len st = zstep T fl M pc (zD99 k n z L) len st := by
  unfold zS99 zD99
  cases Nat.blt k 52 with
  | true => exact zE97 (n := n) (z := z) (L := L)
  | false => exact zE98 (n := n) (z := z) (L := L)
theorem zK99 {k n : Nat} {z : Int} {L : List Int} : z_spk (zD99 k n z L) = none := by
  unfold zD99
  cases Nat.blt k 52 with
  | true => exact zK97 (n := n) (z := z) (L := L)
  | false => exact zK98 (n := n) (z := z) (L := L)
def zD100 (k n : Nat) (z : Int) (L : List Int) : Instr := bif Nat.blt k 51 then zD96 k n z L else zD99 k n z L
def zS100 (T : zTb) (fl : zFl) (M : zM) (pc k n : Nat) (z : Int) (L : List Int) (len : Nat) (st : zS) : zR := bif Nat.blt k 51 then zS96 T fl M pc k n z L len st else zS99 T fl M pc k n z L len st
theorem zE100 {T : zTb} {fl : zFl} {M : zM} {pc k n : Nat} {z : Int} {L : List Int} {len : Nat} {st : zS} : zS100 T fl M pc k n z L len st = zstep T fl M pc (zD100 k n z L) len st := by
  unfold zS100 zD100
  cases Nat.blt k 51 with
  | true => exact zE96 (n := n) (z := z) (L := L)
  | false => exact zE99 (n := n) (z := z) (L := L)
theorem zK100 {k n : Nat} {z : Int} {L : List Int} : z_spk (zD100 k n z L) = none := by
  unfold zD100
  cases Nat.blt k 51 with
  | true => exact zK96 (n := n) (z := z) (L := L)
  | false => exact zK99 (n := n) (z := z) (L := L)
def zD101 (k n : Nat) (z : Int) (L : List Int) : Instr := bif Nat.blt k 49 then zD93 k n z L else zD100 k n z L
def zS101 (T : zTb) (fl : zFl) (M : zM) (pc k n : Nat) (z : Int) (L : List Int) (len : Nat) (st : zS) : zR := bif Nat.blt k 49 then zS93 T fl M pc k n z L len st else zS100 T fl M pc k n z L len st
theorem zE101 {T : zTb} {fl : zFl} {M : zM} {pc k n : Nat} {z : Int} {L : List Int} {len : Nat} {st : zS} : zS101 T fl M pc k n z L len st = zstep T fl M pc (zD101 k n z L) len st := by
  unfold zS101 zD101
  cases Nat.blt k 49 with
  | true => exact zE93 (n := n) (z := z) (L := L)
  | false => exact zE100 (n := n) (z := z) (L := L)
theorem zK101 {k n : Nat} {z : Int} {L : List Int} : z_spk (zD101 k n z L) = none := by
  unfold zD101
  cases Nat.blt k 49 with
  | true => exact zK93 (n := n) (z := z) (L := L)
  | false => exact zK100 (n := n) (z := z) (L := L)
def zD102 (k n : Nat) (z : Int) (L : List Int) : Instr := bif Nat.blt k 46 then zD88 k n z L else zD101 k n z L
def zS102 (T : zTb) (fl : zFl) (M : zM) (pc k n : Nat) (z : Int) (L : List Int) (len : Nat) (st : zS) : zR := bif Nat.blt k 46 then zS88 T fl M pc k n z L len st else zS101 T fl M pc k n z L len st
theorem zE102 {T : zTb} {fl : zFl} {M : zM} {pc k n : Nat} {z : Int} {L : List Int} {len : Nat} {st : zS} : zS102 T fl M pc k n z L len st = zstep T fl M pc (zD102 k n z L) len st := by
  unfold zS102 zD102
  cases Nat.blt k 46 with
  | true => exact zE88 (n := n) (z := z) (L := L)
  | false => exact zE101 (n := n) (z := z) (L := L)
theorem zK102 {k n : Nat} {z : Int} {L : List Int} : z_spk (zD102 k n z L) = none := by
  unfold zD102
  cases Nat.blt k 46 with
  | true => exact zK88 (n := n) (z := z) (L := L)
  | false => exact zK101 (n := n) (z := z) (L := L)
def zD103 (k n : Nat) (z : Int) (L : List Int) : Instr := bif Nat.blt k 39 then zD75 k n z L else zD102 k n z L
def zS103 (T : zTb) (fl : zFl) (M : zM) (pc k n : Nat) (z : Int) (L : List Int) (len : Nat) (st : zS) : zR := bif Nat.blt k 39 then zS75 T fl M pc k n z L len st else zS102 T fl M pc k n z L len st
theorem zE103 {T : zTb} {fl : zFl} {M : zM} {pc k n : Nat} {z : Int} {L : List Int} {len : Nat} {st : zS} : zS103 T fl M pc k n z L len st = zstep T fl M pc (zD103 k n z L) len st := by
  unfold zS103 zD103
  cases Nat.blt k 39 with
  | true => exact zE75 (n := n) (z := z) (L := L)
  | false => exact zE102 (n := n) (z := z) (L := L)
theorem zK103 {k n : Nat} {z : Int} {L : List Int} : z_spk (zD103 k n z L) = none := by
  unfold zD103
  cases Nat.blt k 39 with
  | true => exact zK75 (n := n) (z := z) (L := L)
  | false => exact zK102 (n := n) (z := z) (L := L)
def zD104 (k n : Nat) (z : Int) (L : List Int) : Instr := bif Nat.blt k 26 then zD50 k n z L else zD103 k n z L
def zS104 (T : zTb) (fl : zFl) (M : zM) (pc k n : Nat) (z : Int) (L : List Int) (len : Nat) (st : zS) : zR := bif Nat.blt k 26 then zS50 T fl M pc k n z L len st else zS103 T fl M pc k n z L len st
theorem zE104 {T : zTb} {fl : zFl} {M : zM} {pc k n : Nat} {z : Int} {L : List Int} {len : Nat} {st : zS} : zS104 T fl M pc k n z L len st = zstep T fl M pc (zD104 k n z L) len st := by
  unfold zS104 zD104
  cases Nat.blt k 26 with
  | true => exact zE50 (n := n) (z := z) (L := L)
  | false => exact zE103 (n := n) (z := z) (L := L)
theorem zK104 {k n : Nat} {z : Int} {L : List Int} : z_spk (zD104 k n z L) = none := by
  unfold zD104
  cases Nat.blt k 26 with
  | true => exact zK50 (n := n) (z := z) (L := L)
  | false => exact zK103 (n := n) (z := z) (L := L)
def zD105 (k n : Nat) (z : Int) (L : List Int) : Instr := bif Nat.beq k 53 then .idiv else .nop
def zS105 (T : zTb) (fl : zFl) (M : zM) (pc k n : Nat) (z : Int) (L : List Int) (len : Nat) (st : zS) : zR := bif Nat.beq k 53 then z_g len 1 (z_bo 0 0 (z_div 0) st) else none
theorem zE105 {T : zTb} {fl : zFl} {M : zM} {pc k n : Nat} {z : Int} {L : List Int} {len : Nat} {st : zS} : zS105 T fl M pc k n z L len st = zstep T fl M pc (zD105 k n z L) len st := by
  unfold zS105 zD105
  cases Nat.beq k 53 with
  | true => exact rfl
  | false => rfl
theorem zK105 {k n : Nat} {z : Int} {L : List Int} : z_spk (zD105 k n z L) = none := by
  unfold zD105
  cases Nat.beq k 53 with
  | true => rfl
  | false => rfl
def zD106 (k n : Nat) (z : Int) (L : List Int) : Instr := bif Nat.beq k 54 then .irem else .nop
def zS106 (T : zTb) (fl : zFl) (M : zM) (pc k n : Nat) (z : Int) (L : List Int) (len : Nat) (st : zS) : zR := bif Nat.beq k 54 then z_g len 1 (z_bo 0 0 (z_rem 0) st) else none
theorem zE106 {T : zTb} {fl : zFl} {M : zM} {pc k n : Nat} {z : Int} {L : List Int} {len : Nat} {st : zS} : zS106 T fl M pc k n z L len st = zstep T fl M pc (zD106 k n z L) len st := by
  unfold zS106 zD106
  cases Nat.beq k 54 with
  | true => exact rfl
  | false => rfl
theorem zK106 {k n : Nat} {z : Int} {L : List Int} : z_spk (zD106 k n z L) = none := by
  unfold zD106
  cases Nat.beq k 54 with
  | true => rfl
  | false => rfl
def zD107 (k n : Nat) (z : Int) (L : List Int) : Instr := bif Nat.beq k 55 then .ladd else .nop
def zS107 (T : zTb) (fl : zFl) (M : zM) (pc k n : Nat) (z : Int) (L : List Int) (len : Nat) (st : zS) : zR := bif Nat.beq k 55 then z_g len 1 (z_bo 1 1 (z_add2 1) st) else none
theorem zE107 {T : zTb} {fl : zFl} {M : zM} {pc k n : Nat} {z : Int} {L : List Int} {len : Nat} {st : zS} : zS107 T fl M pc k n z L len st = zstep T fl M pc (zD107 k n z L) len st := by
  unfold zS107 zD107
  cases Nat.beq k 55 with
  | true => exact rfl
  | false => rfl
theorem zK107 {k n : Nat} {z : Int} {L : List Int} : z_spk (zD107 k n z L) = none := by
  unfold zD107
  cases Nat.beq k 55 with
  | true => rfl
  | false => rfl
def zD108 (k n : Nat) (z : Int) (L : List Int) : Instr := bif Nat.blt k 55 then zD106 k n z L else zD107 k n z L
def zS108 (T : zTb) (fl : zFl) (M : zM) (pc k n : Nat) (z : Int) (L : List Int) (len : Nat) (st : zS) : zR := bif Nat.blt k 55 then zS106 T fl M pc k n z L len st else zS107 T fl M pc k n z L len st
theorem zE108 {T : zTb} {fl : zFl} {M : zM} {pc k n : Nat} {z : Int} {L : List Int} {len : Nat} {st : zS} : zS108 T fl M pc k n z L len st = zstep T fl M pc (zD108 k n z L) len st := by
  unfold zS108 zD108
  cases Nat.blt k 55 with
  | true => exact zE106 (n := n) (z := z) (L := L)
  | false => exact zE107 (n := n) (z := z) (L := L)
theorem zK108 {k n : Nat} {z : Int} {L : List Int} : z_spk (zD108 k n z L) = none := by
  unfold zD108
  cases Nat.blt k 55 with
  | true => exact zK106 (n := n) (z := z) (L := L)
  | false => exact zK107 (n := n) (z := z) (L := L)
def zD109 (k n : Nat) (z : Int) (L : List Int) : Instr := bif Nat.blt k 54 then zD105 k n z L else zD108 k n z L
def zS109 (T : zTb) (fl : zFl) (M : zM) (pc k n : Nat) (z : Int) (L : List Int) (len : Nat) (st : zS) : zR := bif Nat.blt k 54 then zS105 T fl M pc k n z L len st else zS108 T fl M pc k n z L len st
theorem zE109 {T : zTb} {fl : zFl} {M : zM} {pc k n : Nat} {z : Int} {L : List Int} {len : Nat} {st : zS} : zS109 T fl M pc k n z L len st = zstep T fl M pc (zD109 k n z L) len st := by
  unfold zS109 zD109
  cases Nat.blt k 54 with
  | true => exact zE105 (n := n) (z := z) (L := L)
  | false => exact zE108 (n := n) (z := z) (L := L)
theorem zK109 {k n : Nat} {z : Int} {L : List Int} : z_spk (zD109 k n z L) = none := by
  unfold zD109
  cases Nat.blt k 54 with
  | true => exact zK105 (n := n) (z := z) (L := L)
  | false => exact zK108 (n := n) (z := z) (L := L)
def zD110 (k n : Nat) (z : Int) (L : List Int) : Instr := bif Nat.beq k 56 then .lsub else .nop
def zS110 (T : zTb) (fl : zFl) (M : zM) (pc k n : Nat) (z : Int) (L : List Int) (len : Nat) (st : zS) : zR := bif Nat.beq k 56 then z_g len 1 (z_bo 1 1 (z_sub2 1) st) else none
theorem zE110 {T : zTb} {fl : zFl} {M : zM} {pc k n : Nat} {z : Int} {L : List Int} {len : Nat} {st : zS} : zS110 T fl M pc k n z L len st = zstep T fl M pc (zD110 k n z L) len st := by
  unfold zS110 zD110
  cases Nat.beq k 56 with
  | true => exact rfl
  | false => rfl
theorem zK110 {k n : Nat} {z : Int} {L : List Int} : z_spk (zD110 k n z L) = none := by
  unfold zD110
  cases Nat.beq k 56 with
  | true => rfl
  | false => rfl
def zD111 (k n : Nat) (z : Int) (L : List Int) : Instr := bif Nat.beq k 57 then .lmul else .nop
def zS111 (T : zTb) (fl : zFl) (M : zM) (pc k n : Nat) (z : Int) (L : List Int) (len : Nat) (st : zS) : zR := bif Nat.beq k 57 then z_g len 1 (z_bo 1 1 (z_mul 1 (cfL fun a b => a * b)) st) else none
theorem zE111 {T : zTb} {fl : zFl} {M : zM} {pc k n : Nat} {z : Int} {L : List Int} {len : Nat} {st : zS} : zS111 T fl M pc k n z L len st = zstep T fl M pc (zD111 k n z L) len st := by
  unfold zS111 zD111
  cases Nat.beq k 57 with
  | true => exact rfl
  | false => rfl
theorem zK111 {k n : Nat} {z : Int} {L : List Int} : z_spk (zD111 k n z L) = none := by
  unfold zD111
  cases Nat.beq k 57 with
  | true => rfl
  | false => rfl
def zD112 (k n : Nat) (z : Int) (L : List Int) : Instr := bif Nat.beq k 58 then .land else .nop
def zS112 (T : zTb) (fl : zFl) (M : zM) (pc k n : Nat) (z : Int) (L : List Int) (len : Nat) (st : zS) : zR := bif Nat.beq k 58 then z_g len 1 (z_bo 1 1 (z_fold 1 (cfL fun a b => a &&& b)) st) else none
theorem zE112 {T : zTb} {fl : zFl} {M : zM} {pc k n : Nat} {z : Int} {L : List Int} {len : Nat} {st : zS} : zS112 T fl M pc k n z L len st = zstep T fl M pc (zD112 k n z L) len st := by
  unfold zS112 zD112
  cases Nat.beq k 58 with
  | true => exact rfl
  | false => rfl
theorem zK112 {k n : Nat} {z : Int} {L : List Int} : z_spk (zD112 k n z L) = none := by
  unfold zD112
  cases Nat.beq k 58 with
  | true => rfl
  | false => rfl
def zD113 (k n : Nat) (z : Int) (L : List Int) : Instr := bif Nat.blt k 58 then zD111 k n z L else zD112 k n z L
def zS113 (T : zTb) (fl : zFl) (M : zM) (pc k n : Nat) (z : Int) (L : List Int) (len : Nat) (st : zS) : zR := bif Nat.blt k 58 then zS111 T fl M pc k n z L len st else zS112 T fl M pc k n z L len st
theorem zE113 {T : zTb} {fl : zFl} {M : zM} {pc k n : Nat} {z : Int} {L : List Int} {len : Nat} {st : zS} : zS113 T fl M pc k n z L len st = zstep T fl M pc (zD113 k n z L) len st := by
  unfold zS113 zD113
  cases Nat.blt k 58 with
  | true => exact zE111 (n := n) (z := z) (L := L)
  | false => exact zE112 (n := n) (z := z) (L := L)
theorem zK113 {k n : Nat} {z : Int} {L : List Int} : z_spk (zD113 k n z L) = none := by
  unfold zD113
  cases Nat.blt k 58 with
  | true => exact zK111 (n := n) (z := z) (L := L)
  | false => exact zK112 (n := n) (z := z) (L := L)
def zD114 (k n : Nat) (z : Int) (L : List Int) : Instr := bif Nat.blt k 57 then zD110 k n z L else zD113 k n z L
def zS114 (T : zTb) (fl : zFl) (M : zM) (pc k n : Nat) (z : Int) (L : List Int) (len : Nat) (st : zS) : zR := bif Nat.blt k 57 then zS110 T fl M pc k n z L len st else zS113 T fl M pc k n z L len st
theorem zE114 {T : zTb} {fl : zFl} {M : zM} {pc k n : Nat} {z : Int} {L : List Int} {len : Nat} {st : zS} : zS114 T fl M pc k n z L len st = zstep T fl M pc (zD114 k n z L) len st := by
  unfold zS114 zD114
  cases Nat.blt k 57 with
  | true => exact zE110 (n := n) (z := z) (L := L)
  | false => exact zE113 (n := n) (z := z) (L := L)
theorem zK114 {k n : Nat} {z : Int} {L : List Int} : z_spk (zD114 k n z L) = none := by
  unfold zD114
  cases Nat.blt k 57 with
  | true => exact zK110 (n := n) (z := z) (L := L)
  | false => exact zK113 (n := n) (z := z) (L := L)
def zD115 (k n : Nat) (z : Int) (L : List Int) : Instr := bif Nat.blt k 56 then zD109 k n z L else zD114 k n z L
def zS115 (T : zTb) (fl : zFl) (M : zM) (pc k n : Nat) (z : Int) (L : List Int) (len : Nat) (st : zS) : zR := bif Nat.blt k 56 then zS109 T fl M pc k n z L len st else zS114 T fl M pc k n z L len st
theorem zE115 {T : zTb} {fl : zFl} {M : zM} {pc k n : Nat} {z : Int} {L : List Int} {len : Nat} {st : zS} : zS115 T fl M pc k n z L len st = zstep T fl M pc (zD115 k n z L) len st := by
  unfold zS115 zD115
  cases Nat.blt k 56 with
  | true => exact zE109 (n := n) (z := z) (L := L)
  | false => exact zE114 (n := n) (z := z) (L := L)
theorem zK115 {k n : Nat} {z : Int} {L : List Int} : z_spk (zD115 k n z L) = none := by
  unfold zD115
  cases Nat.blt k 56 with
  | true => exact zK109 (n := n) (z := z) (L := L)
  | false => exact zK114 (n := n) (z := z) (L := L)
def zD116 (k n : Nat) (z : Int) (L : List Int) : Instr := bif Nat.beq k 59 then .lor else .nop
def zS116 (T : zTb) (fl : zFl) (M : zM) (pc k n : Nat) (z : Int) (L : List Int) (len : Nat) (st : zS) : zR := bif Nat.beq k 59 then z_g len 1 (z_bo 1 1 (z_fold 1 (cfL fun a b => a ||| b)) st) else none
theorem zE116 {T : zTb} {fl : zFl} {M : zM} {pc k n : Nat} {z : Int} {L : List Int} {len : Nat} {st : zS} : zS116 T fl M pc k n z L len st = zstep T fl M pc (zD116 k n z L) len st := by
  unfold zS116 zD116
  cases Nat.beq k 59 with
  | true => exact rfl
  | false => rfl
theorem zK116 {k n : Nat} {z : Int} {L : List Int} : z_spk (zD116 k n z L) = none := by
  unfold zD116
  cases Nat.beq k 59 with
  | true => rfl
  | false => rfl
def zD117 (k n : Nat) (z : Int) (L : List Int) : Instr := bif Nat.beq k 60 then .ldiv else .nop
def zS117 (T : zTb) (fl : zFl) (M : zM) (pc k n : Nat) (z : Int) (L : List Int) (len : Nat) (st : zS) : zR := bif Nat.beq k 60 then z_g len 1 (z_bo 1 1 (z_div 1) st) else none
theorem zE117 {T : zTb} {fl : zFl} {M : zM} {pc k n : Nat} {z : Int} {L : List Int} {len : Nat} {st : zS} : zS117 T fl M pc k n z L len st = zstep T fl M pc (zD117 k n z L) len st := by
  unfold zS117 zD117
  cases Nat.beq k 60 with
  | true => exact rfl
  | false => rfl
theorem zK117 {k n : Nat} {z : Int} {L : List Int} : z_spk (zD117 k n z L) = none := by
  unfold zD117
  cases Nat.beq k 60 with
  | true => rfl
  | false => rfl
def zD118 (k n : Nat) (z : Int) (L : List Int) : Instr := bif Nat.beq k 61 then .lrem else .nop
def zS118 (T : zTb) (fl : zFl) (M : zM) (pc k n : Nat) (z : Int) (L : List Int) (len : Nat) (st : zS) : zR := bif Nat.beq k 61 then z_g len 1 (z_bo 1 1 (z_rem 1) st) else none
theorem zE118 {T : zTb} {fl : zFl} {M : zM} {pc k n : Nat} {z : Int} {L : List Int} {len : Nat} {st : zS} : zS118 T fl M pc k n z L len st = zstep T fl M pc (zD118 k n z L) len st := by
  unfold zS118 zD118
  cases Nat.beq k 61 with
  | true => exact rfl
  | false => rfl
theorem zK118 {k n : Nat} {z : Int} {L : List Int} : z_spk (zD118 k n z L) = none := by
  unfold zD118
  cases Nat.beq k 61 with
  | true => rfl
  | false => rfl
def zD119 (k n : Nat) (z : Int) (L : List Int) : Instr := bif Nat.blt k 61 then zD117 k n z L else zD118 k n z L
def zS119 (T : zTb) (fl : zFl) (M : zM) (pc k n : Nat) (z : Int) (L : List Int) (len : Nat) (st : zS) : zR := bif Nat.blt k 61 then zS117 T fl M pc k n z L len st else zS118 T fl M pc k n z L len st
theorem zE119 {T : zTb} {fl : zFl} {M : zM} {pc k n : Nat} {z : Int} {L : List Int} {len : Nat} {st : zS} : zS119 T fl M pc k n z L len st = zstep T fl M pc (zD119 k n z L) len st := by
  unfold zS119 zD119
  cases Nat.blt k 61 with
  | true => exact zE117 (n := n) (z := z) (L := L)
  | false => exact zE118 (n := n) (z := z) (L := L)
theorem zK119 {k n : Nat} {z : Int} {L : List Int} : z_spk (zD119 k n z L) = none := by
  unfold zD119
  cases Nat.blt k 61 with
  | true => exact zK117 (n := n) (z := z) (L := L)
  | false => exact zK118 (n := n) (z := z) (L := L)
def zD120 (k n : Nat) (z : Int) (L : List Int) : Instr := bif Nat.blt k 60 then zD116 k n z L else zD119 k n z L
def zS120 (T : zTb) (fl : zFl) (M : zM) (pc k n : Nat) (z : Int) (L : List Int) (len : Nat) (st : zS) : zR := bif Nat.blt k 60 then zS116 T fl M pc k n z L len st else zS119 T fl M pc k n z L len st
theorem zE120 {T : zTb} {fl : zFl} {M : zM} {pc k n : Nat} {z : Int} {L : List Int} {len : Nat} {st : zS} : zS120 T fl M pc k n z L len st = zstep T fl M pc (zD120 k n z L) len st := by
  unfold zS120 zD120
  cases Nat.blt k 60 with
  | true => exact zE116 (n := n) (z := z) (L := L)
  | false => exact zE119 (n := n) (z := z) (L := L)
theorem zK120 {k n : Nat} {z : Int} {L : List Int} : z_spk (zD120 k n z L) = none := by
  unfold zD120
  cases Nat.blt k 60 with
  | true => exact zK116 (n := n) (z := z) (L := L)
  | false => exact zK119 (n := n) (z := z) (L := L)
def zD121 (k n : Nat) (z : Int) (L : List Int) : Instr := bif Nat.beq k 62 then .lshl else .nop
def zS121 (T : zTb) (fl : zFl) (M : zM) (pc k n : Nat) (z : Int) (L : List Int) (len : Nat) (st : zS) : zR := bif Nat.beq k 62 then z_g len 1 (z_bo 1 0 (z_fold 1 (cfS fun a b => a <<< (b.toInt64 &&& 63))) st) else none
theorem zE121 {T : zTb} {fl : zFl} {M : zM} {pc k n : Nat} {z : Int} {L : List Int} {len : Nat} {st : zS} : zS121 T fl M pc k n z L len st = zstep T fl M pc (zD121 k n z L) len st := by
  unfold zS121 zD121
  cases Nat.beq k 62 with
  | true => exact rfl
  | false => rfl
theorem zK121 {k n : Nat} {z : Int} {L : List Int} : z_spk (zD121 k n z L) = none := by
  unfold zD121
  cases Nat.beq k 62 with
  | true => rfl
  | false => rfl
def zD122 (k n : Nat) (z : Int) (L : List Int) : Instr := bif Nat.beq k 63 then .lshr else .nop
def zS122 (T : zTb) (fl : zFl) (M : zM) (pc k n : Nat) (z : Int) (L : List Int) (len : Nat) (st : zS) : zR := bif Nat.beq k 63 then z_g len 1 (z_bo 1 0 (z_fold 1 (cfS fun a b => a >>> (b.toInt64 &&& 63))) st) else none
theorem zE122 {T : zTb} {fl : zFl} {M : zM} {pc k n : Nat} {z : Int} {L : List Int} {len : Nat} {st : zS} : zS122 T fl M pc k n z L len st = zstep T fl M pc (zD122 k n z L) len st := by
  unfold zS122 zD122
  cases Nat.beq k 63 with
  | true => exact rfl
  | false => rfl
theorem zK122 {k n : Nat} {z : Int} {L : List Int} : z_spk (zD122 k n z L) = none := by
  unfold zD122
  cases Nat.beq k 63 with
  | true => rfl
  | false => rfl
def zD123 (k n : Nat) (z : Int) (L : List Int) : Instr := bif Nat.blt k 63 then zD121 k n z L else zD122 k n z L
def zS123 (T : zTb) (fl : zFl) (M : zM) (pc k n : Nat) (z : Int) (L : List Int) (len : Nat) (st : zS) : zR := bif Nat.blt k 63 then zS121 T fl M pc k n z L len st else zS122 T fl M pc k n z L len st
theorem zE123 {T : zTb} {fl : zFl} {M : zM} {pc k n : Nat} {z : Int} {L : List Int} {len : Nat} {st : zS} : zS123 T fl M pc k n z L len st = zstep T fl M pc (zD123 k n z L) len st := by
  unfold zS123 zD123
  cases Nat.blt k 63 with
  | true => exact zE121 (n := n) (z := z) (L := L)
  | false => exact zE122 (n := n) (z := z) (L := L)
theorem zK123 {k n : Nat} {z : Int} {L : List Int} : z_spk (zD123 k n z L) = none := by
  unfold zD123
  cases Nat.blt k 63 with
  | true => exact zK121 (n := n) (z := z) (L := L)
  | false => exact zK122 (n := n) (z := z) (L := L)
def zD124 (k n : Nat) (z : Int) (L : List Int) : Instr := bif Nat.beq k 64 then .i2l else .nop
def zS124 (T : zTb) (fl : zFl) (M : zM) (pc k n : Nat) (z : Int) (L : List Int) (len : Nat) (st : zS) : zR := bif Nat.beq k 64 then z_g len 1 (z_uo 0 z_i2l st) else none
theorem zE124 {T : zTb} {fl : zFl} {M : zM} {pc k n : Nat} {z : Int} {L : List Int} {len : Nat} {st : zS} : zS124 T fl M pc k n z L len st = zstep T fl M pc (zD124 k n z L) len st := by
  unfold zS124 zD124
  cases Nat.beq k 64 with
  | true => exact rfl
  | false => rfl
theorem zK124 {k n : Nat} {z : Int} {L : List Int} : z_spk (zD124 k n z L) = none := by
  unfold zD124
  cases Nat.beq k 64 with
  | true => rfl
  | false => rfl
def zD125 (k n : Nat) (z : Int) (L : List Int) : Instr := bif Nat.beq k 65 then .l2i else .nop
def zS125 (T : zTb) (fl : zFl) (M : zM) (pc k n : Nat) (z : Int) (L : List Int) (len : Nat) (st : zS) : zR := bif Nat.beq k 65 then z_g len 1 (z_uo 1 z_l2i st) else none
theorem zE125 {T : zTb} {fl : zFl} {M : zM} {pc k n : Nat} {z : Int} {L : List Int} {len : Nat} {st : zS} : zS125 T fl M pc k n z L len st = zstep T fl M pc (zD125 k n z L) len st := by
  unfold zS125 zD125
  cases Nat.beq k 65 with
  | true => exact rfl
  | false => rfl
theorem zK125 {k n : Nat} {z : Int} {L : List Int} : z_spk (zD125 k n z L) = none := by
  unfold zD125
  cases Nat.beq k 65 with
  | true => rfl
  | false => rfl
def zD126 (k n : Nat) (z : Int) (L : List Int) : Instr := bif Nat.blt k 65 then zD124 k n z L else zD125 k n z L
def zS126 (T : zTb) (fl : zFl) (M : zM) (pc k n : Nat) (z : Int) (L : List Int) (len : Nat) (st : zS) : zR := bif Nat.blt k 65 then zS124 T fl M pc k n z L len st else zS125 T fl M pc k n z L len st
theorem zE126 {T : zTb} {fl : zFl} {M : zM} {pc k n : Nat} {z : Int} {L : List Int} {len : Nat} {st : zS} : zS126 T fl M pc k n z L len st = zstep T fl M pc (zD126 k n z L) len st := by
  unfold zS126 zD126
  cases Nat.blt k 65 with
  | true => exact zE124 (n := n) (z := z) (L := L)
  | false => exact zE125 (n := n) (z := z) (L := L)
theorem zK126 {k n : Nat} {z : Int} {L : List Int} : z_spk (zD126 k n z L) = none := by
  unfold zD126
  cases Nat.blt k 65 with
  | true => exact zK124 (n := n) (z := z) (L := L)
  | false => exact zK125 (n := n) (z := z) (L := L)
def zD127 (k n : Nat) (z : Int) (L : List Int) : Instr := bif Nat.blt k 64 then zD123 k n z L else zD126 k n z L
def zS127 (T : zTb) (fl : zFl) (M : zM) (pc k n : Nat) (z : Int) (L : List Int) (len : Nat) (st : zS) : zR := bif Nat.blt k 64 then zS123 T fl M pc k n z L len st else zS126 T fl M pc k n z L len st
theorem zE127 {T : zTb} {fl : zFl} {M : zM} {pc k n : Nat} {z : Int} {L : List Int} {len : Nat} {st : zS} : zS127 T fl M pc k n z L len st = zstep T fl M pc (zD127 k n z L) len st := by
  unfold zS127 zD127
  cases Nat.blt k 64 with
  | true => exact zE123 (n := n) (z := z) (L := L)
  | false => exact zE126 (n := n) (z := z) (L := L)
theorem zK127 {k n : Nat} {z : Int} {L : List Int} : z_spk (zD127 k n z L) = none := by
  unfold zD127
  cases Nat.blt k 64 with
  | true => exact zK123 (n := n) (z := z) (L := L)
  | false => exact zK126 (n := n) (z := z) (L := L)
def zD128 (k n : Nat) (z : Int) (L : List Int) : Instr := bif Nat.blt k 62 then zD120 k n z L else zD127 k n z L
def zS128 (T : zTb) (fl : zFl) (M : zM) (pc k n : Nat) (z : Int) (L : List Int) (len : Nat) (st : zS) : zR := bif Nat.blt k 62 then zS120 T fl M pc k n z L len st else zS127 T fl M pc k n z L len st
theorem zE128 {T : zTb} {fl : zFl} {M : zM} {pc k n : Nat} {z : Int} {L : List Int} {len : Nat} {st : zS} : zS128 T fl M pc k n z L len st = zstep T fl M pc (zD128 k n z L) len st := by
  unfold zS128 zD128
  cases Nat.blt k 62 with
  | true => exact zE120 (n := n) (z := z) (L := L)
  | false => exact zE127 (n := n) (z := z) (L := L)
theorem zK128 {k n : Nat} {z : Int} {L : List Int} : z_spk (zD128 k n z L) = none := by
  unfold zD128
  cases Nat.blt k 62 with
  | true => exact zK120 (n := n) (z := z) (L := L)
  | false => exact zK127 (n := n) (z := z) (L := L)
def zD129 (k n : Nat) (z : Int) (L : List Int) : Instr := bif Nat.blt k 59 then zD115 k n z L else zD128 k n z L
def zS129 (T : zTb) (fl : zFl) (M : zM) (pc k n : Nat) (z : Int) (L : List Int) (len : Nat) (st : zS) : zR := bif Nat.blt k 59 then zS115 T fl M pc k n z L len st else zS128 T fl M pc k n z L len st
theorem zE129 {T : zTb} {fl : zFl} {M : zM} {pc k n : Nat} {z : Int} {L : List Int} {len : Nat} {st : zS} : zS129 T fl M pc k n z L len st = zstep T fl M pc (zD129 k n z L) len st := by
  unfold zS129 zD129
  cases Nat.blt k 59 with
  | true => exact zE115 (n := n) (z := z) (L := L)
  | false => exact zE128 (n := n) (z := z) (L := L)
theorem zK129 {k n : Nat} {z : Int} {L : List Int} : z_spk (zD129 k n z L) = none := by
  unfold zD129
  cases Nat.blt k 59 with
  | true => exact zK115 (n := n) (z := z) (L := L)
  | false => exact zK128 (n := n) (z := z) (L := L)
def zD130 (k n : Nat) (z : Int) (L : List Int) : Instr := bif Nat.beq k 66 then .i2b else .nop
def zS130 (T : zTb) (fl : zFl) (M : zM) (pc k n : Nat) (z : Int) (L : List Int) (len : Nat) (st : zS) : zR := bif Nat.beq k 66 then z_g len 1 (z_uo 0 z_i2b st) else none
theorem zE130 {T : zTb} {fl : zFl} {M : zM} {pc k n : Nat} {z : Int} {L : List Int} {len : Nat} {st : zS} : zS130 T fl M pc k n z L len st = zstep T fl M pc (zD130 k n z L) len st := by
  unfold zS130 zD130
  cases Nat.beq k 66 with
  | true => exact rfl
  | false => rfl
theorem zK130 {k n : Nat} {z : Int} {L : List Int} : z_spk (zD130 k n z L) = none := by
  unfold zD130
  cases Nat.beq k 66 with
  | true => rfl
  | false => rfl
def zD131 (k n : Nat) (z : Int) (L : List Int) : Instr := bif Nat.beq k 67 then .dup else .nop
def zS131 (T : zTb) (fl : zFl) (M : zM) (pc k n : Nat) (z : Int) (L : List Int) (len : Nat) (st : zS) : zR := bif Nat.beq k 67 then z_g len 1 (z_rest z_dup st) else none
theorem zE131 {T : zTb} {fl : zFl} {M : zM} {pc k n : Nat} {z : Int} {L : List Int} {len : Nat} {st : zS} : zS131 T fl M pc k n z L len st = zstep T fl M pc (zD131 k n z L) len st := by
  unfold zS131 zD131
  cases Nat.beq k 67 with
  | true => exact rfl
  | false => rfl
theorem zK131 {k n : Nat} {z : Int} {L : List Int} : z_spk (zD131 k n z L) = none := by
  unfold zD131
  cases Nat.beq k 67 with
  | true => rfl
  | false => rfl
def zD132 (k n : Nat) (z : Int) (L : List Int) : Instr := bif Nat.beq k 68 then .pop else .nop
def zS132 (T : zTb) (fl : zFl) (M : zM) (pc k n : Nat) (z : Int) (L : List Int) (len : Nat) (st : zS) : zR := bif Nat.beq k 68 then z_g len 1 (z_rest z_pop st) else none
theorem zE132 {T : zTb} {fl : zFl} {M : zM} {pc k n : Nat} {z : Int} {L : List Int} {len : Nat} {st : zS} : zS132 T fl M pc k n z L len st = zstep T fl M pc (zD132 k n z L) len st := by
  unfold zS132 zD132
  cases Nat.beq k 68 with
  | true => exact rfl
  | false => rfl
theorem zK132 {k n : Nat} {z : Int} {L : List Int} : z_spk (zD132 k n z L) = none := by
  unfold zD132
  cases Nat.beq k 68 with
  | true => rfl
  | false => rfl
def zD133 (k n : Nat) (z : Int) (L : List Int) : Instr := bif Nat.blt k 68 then zD131 k n z L else zD132 k n z L
def zS133 (T : zTb) (fl : zFl) (M : zM) (pc k n : Nat) (z : Int) (L : List Int) (len : Nat) (st : zS) : zR := bif Nat.blt k 68 then zS131 T fl M pc k n z L len st else zS132 T fl M pc k n z L len st
theorem zE133 {T : zTb} {fl : zFl} {M : zM} {pc k n : Nat} {z : Int} {L : List Int} {len : Nat} {st : zS} : zS133 T fl M pc k n z L len st = zstep T fl M pc (zD133 k n z L) len st := by
  unfold zS133 zD133
  cases Nat.blt k 68 with
  | true => exact zE131 (n := n) (z := z) (L := L)
  | false => exact zE132 (n := n) (z := z) (L := L)
theorem zK133 {k n : Nat} {z : Int} {L : List Int} : z_spk (zD133 k n z L) = none := by
  unfold zD133
  cases Nat.blt k 68 with
  | true => exact zK131 (n := n) (z := z) (L := L)
  | false => exact zK132 (n := n) (z := z) (L := L)
def zD134 (k n : Nat) (z : Int) (L : List Int) : Instr := bif Nat.blt k 67 then zD130 k n z L else zD133 k n z L
def zS134 (T : zTb) (fl : zFl) (M : zM) (pc k n : Nat) (z : Int) (L : List Int) (len : Nat) (st : zS) : zR := bif Nat.blt k 67 then zS130 T fl M pc k n z L len st else zS133 T fl M pc k n z L len st
theorem zE134 {T : zTb} {fl : zFl} {M : zM} {pc k n : Nat} {z : Int} {L : List Int} {len : Nat} {st : zS} : zS134 T fl M pc k n z L len st = zstep T fl M pc (zD134 k n z L) len st := by
  unfold zS134 zD134
  cases Nat.blt k 67 with
  | true => exact zE130 (n := n) (z := z) (L := L)
  | false => exact zE133 (n := n) (z := z) (L := L)
theorem zK134 {k n : Nat} {z : Int} {L : List Int} : z_spk (zD134 k n z L) = none := by
  unfold zD134
  cases Nat.blt k 67 with
  | true => exact zK130 (n := n) (z := z) (L := L)
  | false => exact zK133 (n := n) (z := z) (L := L)
def zD135 (k n : Nat) (z : Int) (L : List Int) : Instr := bif Nat.beq k 69 then .pop2 else .nop
def zS135 (T : zTb) (fl : zFl) (M : zM) (pc k n : Nat) (z : Int) (L : List Int) (len : Nat) (st : zS) : zR := bif Nat.beq k 69 then z_g len 1 (z_rest z_pop2 st) else none
theorem zE135 {T : zTb} {fl : zFl} {M : zM} {pc k n : Nat} {z : Int} {L : List Int} {len : Nat} {st : zS} : zS135 T fl M pc k n z L len st = zstep T fl M pc (zD135 k n z L) len st := by
  unfold zS135 zD135
  cases Nat.beq k 69 with
  | true => exact rfl
  | false => rfl
theorem zK135 {k n : Nat} {z : Int} {L : List Int} : z_spk (zD135 k n z L) = none := by
  unfold zD135
  cases Nat.beq k 69 with
  | true => rfl
  | false => rfl
def zD136 (k n : Nat) (z : Int) (L : List Int) : Instr := bif Nat.beq k 70 then .dup2 else .nop
def zS136 (T : zTb) (fl : zFl) (M : zM) (pc k n : Nat) (z : Int) (L : List Int) (len : Nat) (st : zS) : zR := bif Nat.beq k 70 then z_g len 1 (z_rest z_dup2 st) else none
theorem zE136 {T : zTb} {fl : zFl} {M : zM} {pc k n : Nat} {z : Int} {L : List Int} {len : Nat} {st : zS} : zS136 T fl M pc k n z L len st = zstep T fl M pc (zD136 k n z L) len st := by
  unfold zS136 zD136
  cases Nat.beq k 70 with
  | true => exact rfl
  | false => rfl
theorem zK136 {k n : Nat} {z : Int} {L : List Int} : z_spk (zD136 k n z L) = none := by
  unfold zD136
  cases Nat.beq k 70 with
  | true => rfl
  | false => rfl
def zD137 (k n : Nat) (z : Int) (L : List Int) : Instr := bif Nat.beq k 71 then .lcmp else .nop
def zS137 (T : zTb) (fl : zFl) (M : zM) (pc k n : Nat) (z : Int) (L : List Int) (len : Nat) (st : zS) : zR := bif Nat.beq k 71 then z_g len 1 (z_lcmp st) else none
theorem zE137 {T : zTb} {fl : zFl} {M : zM} {pc k n : Nat} {z : Int} {L : List Int} {len : Nat} {st : zS} : zS137 T fl M pc k n z L len st = zstep T fl M pc (zD137 k n z L) len st := by
  unfold zS137 zD137
  cases Nat.beq k 71 with
  | true => exact rfl
  | false => rfl
theorem zK137 {k n : Nat} {z : Int} {L : List Int} : z_spk (zD137 k n z L) = none := by
  unfold zD137
  cases Nat.beq k 71 with
  | true => rfl
  | false => rfl
def zD138 (k n : Nat) (z : Int) (L : List Int) : Instr := bif Nat.blt k 71 then zD136 k n z L else zD137 k n z L
def zS138 (T : zTb) (fl : zFl) (M : zM) (pc k n : Nat) (z : Int) (L : List Int) (len : Nat) (st : zS) : zR := bif Nat.blt k 71 then zS136 T fl M pc k n z L len st else zS137 T fl M pc k n z L len st
theorem zE138 {T : zTb} {fl : zFl} {M : zM} {pc k n : Nat} {z : Int} {L : List Int} {len : Nat} {st : zS} : zS138 T fl M pc k n z L len st = zstep T fl M pc (zD138 k n z L) len st := by
  unfold zS138 zD138
  cases Nat.blt k 71 with
  | true => exact zE136 (n := n) (z := z) (L := L)
  | false => exact zE137 (n := n) (z := z) (L := L)
theorem zK138 {k n : Nat} {z : Int} {L : List Int} : z_spk (zD138 k n z L) = none := by
  unfold zD138
  cases Nat.blt k 71 with
  | true => exact zK136 (n := n) (z := z) (L := L)
  | false => exact zK137 (n := n) (z := z) (L := L)
def zD139 (k n : Nat) (z : Int) (L : List Int) : Instr := bif Nat.blt k 70 then zD135 k n z L else zD138 k n z L
def zS139 (T : zTb) (fl : zFl) (M : zM) (pc k n : Nat) (z : Int) (L : List Int) (len : Nat) (st : zS) : zR := bif Nat.blt k 70 then zS135 T fl M pc k n z L len st else zS138 T fl M pc k n z L len st
theorem zE139 {T : zTb} {fl : zFl} {M : zM} {pc k n : Nat} {z : Int} {L : List Int} {len : Nat} {st : zS} : zS139 T fl M pc k n z L len st = zstep T fl M pc (zD139 k n z L) len st := by
  unfold zS139 zD139
  cases Nat.blt k 70 with
  | true => exact zE135 (n := n) (z := z) (L := L)
  | false => exact zE138 (n := n) (z := z) (L := L)
theorem zK139 {k n : Nat} {z : Int} {L : List Int} : z_spk (zD139 k n z L) = none := by
  unfold zD139
  cases Nat.blt k 70 with
  | true => exact zK135 (n := n) (z := z) (L := L)
  | false => exact zK138 (n := n) (z := z) (L := L)
def zD140 (k n : Nat) (z : Int) (L : List Int) : Instr := bif Nat.blt k 69 then zD134 k n z L else zD139 k n z L
def zS140 (T : zTb) (fl : zFl) (M : zM) (pc k n : Nat) (z : Int) (L : List Int) (len : Nat) (st : zS) : zR := bif Nat.blt k 69 then zS134 T fl M pc k n z L len st else zS139 T fl M pc k n z L len st
theorem zE140 {T : zTb} {fl : zFl} {M : zM} {pc k n : Nat} {z : Int} {L : List Int} {len : Nat} {st : zS} : zS140 T fl M pc k n z L len st = zstep T fl M pc (zD140 k n z L) len st := by
  unfold zS140 zD140
  cases Nat.blt k 69 with
  | true => exact zE134 (n := n) (z := z) (L := L)
  | false => exact zE139 (n := n) (z := z) (L := L)
theorem zK140 {k n : Nat} {z : Int} {L : List Int} : z_spk (zD140 k n z L) = none := by
  unfold zD140
  cases Nat.blt k 69 with
  | true => exact zK134 (n := n) (z := z) (L := L)
  | false => exact zK139 (n := n) (z := z) (L := L)
def zD141 (k n : Nat) (z : Int) (L : List Int) : Instr := bif Nat.beq k 72 then .iaload else .nop
def zS141 (T : zTb) (fl : zFl) (M : zM) (pc k n : Nat) (z : Int) (L : List Int) (len : Nat) (st : zS) : zR := bif Nat.beq k 72 then z_g len 1 (z_or (z_ald true z_t1 0 T.1 st) (z_sld fl.1 st)) else none
theorem zE141 {T : zTb} {fl : zFl} {M : zM} {pc k n : Nat} {z : Int} {L : List Int} {len : Nat} {st : zS} : zS141 T fl M pc k n z L len st = zstep T fl M pc (zD141 k n z L) len st := by
  unfold zS141 zD141
  cases Nat.beq k 72 with
  | true => exact rfl
  | false => rfl
theorem zK141 {k n : Nat} {z : Int} {L : List Int} : z_spk (zD141 k n z L) = none := by
  unfold zD141
  cases Nat.beq k 72 with
  | true => rfl
  | false => rfl
def zD142 (k n : Nat) (z : Int) (L : List Int) : Instr := bif Nat.beq k 73 then .laload else .nop
def zS142 (T : zTb) (fl : zFl) (M : zM) (pc k n : Nat) (z : Int) (L : List Int) (len : Nat) (st : zS) : zR := bif Nat.beq k 73 then z_g len 1 (z_ald false z_t2 1 T.1 st) else none
theorem zE142 {T : zTb} {fl : zFl} {M : zM} {pc k n : Nat} {z : Int} {L : List Int} {len : Nat} {st : zS} : zS142 T fl M pc k n z L len st = zstep T fl M pc (zD142 k n z L) len st := by
  unfold zS142 zD142
  cases Nat.beq k 73 with
  | true => exact rfl
  | false => rfl
theorem zK142 {k n : Nat} {z : Int} {L : List Int} : z_spk (zD142 k n z L) = none := by
  unfold zD142
  cases Nat.beq k 73 with
  | true => rfl
  | false => rfl
def zD143 (k n : Nat) (z : Int) (L : List Int) : Instr := bif Nat.beq k 74 then .baload else .nop
def zS143 (T : zTb) (fl : zFl) (M : zM) (pc k n : Nat) (z : Int) (L : List Int) (len : Nat) (st : zS) : zR := bif Nat.beq k 74 then z_g len 1 (z_or (z_ald true z_t34 0 T.1 st) (z_aldS T.2.2.2.2.2.2.2.2.2.2.2.2 st)) else none
theorem zE143 {T : zTb} {fl : zFl} {M : zM} {pc k n : Nat} {z : Int} {L : List Int} {len : Nat} {st : zS} : zS143 T fl M pc k n z L len st = zstep T fl M pc (zD143 k n z L) len st := by
  unfold zS143 zD143
  cases Nat.beq k 74 with
  | true => exact rfl
  | false => rfl
theorem zK143 {k n : Nat} {z : Int} {L : List Int} : z_spk (zD143 k n z L) = none := by
  unfold zD143
  cases Nat.beq k 74 with
  | true => rfl
  | false => rfl
def zD144 (k n : Nat) (z : Int) (L : List Int) : Instr := bif Nat.blt k 74 then zD142 k n z L else zD143 k n z L
def zS144 (T : zTb) (fl : zFl) (M : zM) (pc k n : Nat) (z : Int) (L : List Int) (len : Nat) (st : zS) : zR := bif Nat.blt k 74 then zS142 T fl M pc k n z L len st else zS143 T fl M pc k n z L len st
theorem zE144 {T : zTb} {fl : zFl} {M : zM} {pc k n : Nat} {z : Int} {L : List Int} {len : Nat} {st : zS} : zS144 T fl M pc k n z L len st = zstep T fl M pc (zD144 k n z L) len st := by
  unfold zS144 zD144
  cases Nat.blt k 74 with
  | true => exact zE142 (n := n) (z := z) (L := L)
  | false => exact zE143 (n := n) (z := z) (L := L)
theorem zK144 {k n : Nat} {z : Int} {L : List Int} : z_spk (zD144 k n z L) = none := by
  unfold zD144
  cases Nat.blt k 74 with
  | true => exact zK142 (n := n) (z := z) (L := L)
  | false => exact zK143 (n := n) (z := z) (L := L)
def zD145 (k n : Nat) (z : Int) (L : List Int) : Instr := bif Nat.blt k 73 then zD141 k n z L else zD144 k n z L
def zS145 (T : zTb) (fl : zFl) (M : zM) (pc k n : Nat) (z : Int) (L : List Int) (len : Nat) (st : zS) : zR := bif Nat.blt k 73 then zS141 T fl M pc k n z L len st else zS144 T fl M pc k n z L len st
theorem zE145 {T : zTb} {fl : zFl} {M : zM} {pc k n : Nat} {z : Int} {L : List Int} {len : Nat} {st : zS} : zS145 T fl M pc k n z L len st = zstep T fl M pc (zD145 k n z L) len st := by
  unfold zS145 zD145
  cases Nat.blt k 73 with
  | true => exact zE141 (n := n) (z := z) (L := L)
  | false => exact zE144 (n := n) (z := z) (L := L)
theorem zK145 {k n : Nat} {z : Int} {L : List Int} : z_spk (zD145 k n z L) = none := by
  unfold zD145
  cases Nat.blt k 73 with
  | true => exact zK141 (n := n) (z := z) (L := L)
  | false => exact zK144 (n := n) (z := z) (L := L)
def zD146 (k n : Nat) (z : Int) (L : List Int) : Instr := bif Nat.beq k 75 then .aaload else .nop
def zS146 (T : zTb) (fl : zFl) (M : zM) (pc k n : Nat) (z : Int) (L : List Int) (len : Nat) (st : zS) : zR := bif Nat.beq k 75 then z_g len 1 (z_ald false (z_t5b T.2.2.1) 2 T.1 st) else none
theorem zE146 {T : zTb} {fl : zFl} {M : zM} {pc k n : Nat} {z : Int} {L : List Int} {len : Nat} {st : zS} : zS146 T fl M pc k n z L len st = zstep T fl M pc (zD146 k n z L) len st := by
  unfold zS146 zD146
  cases Nat.beq k 75 with
  | true => exact rfl
  | false => rfl
theorem zK146 {k n : Nat} {z : Int} {L : List Int} : z_spk (zD146 k n z L) = none := by
  unfold zD146
  cases Nat.beq k 75 with
  | true => rfl
  | false => rfl
def zD147 (k n : Nat) (z : Int) (L : List Int) : Instr := bif Nat.beq k 76 then .arraylength else .nop
def zS147 (T : zTb) (fl : zFl) (M : zM) (pc k n : Nat) (z : Int) (L : List Int) (len : Nat) (st : zS) : zR := bif Nat.beq k 76 then z_g len 1 (z_or (z_alen T.1 T.2.2.1 st) (z_alenS T.2.2.2.2.2.2.2.2.2.2.2.2 st)) else none
theorem zE147 {T : zTb} {fl : zFl} {M : zM} {pc k n : Nat} {z : Int} {L : List Int} {len : Nat} {st : zS} : zS147 T fl M pc k n z L len st = zstep T fl M pc (zD147 k n z L) len st := by
  unfold zS147 zD147
  cases Nat.beq k 76 with
  | true => exact rfl
  | false => rfl
theorem zK147 {k n : Nat} {z : Int} {L : List Int} : z_spk (zD147 k n z L) = none := by
  unfold zD147
  cases Nat.beq k 76 with
  | true => rfl
  | false => rfl
def zD148 (k n : Nat) (z : Int) (L : List Int) : Instr := bif Nat.blt k 76 then zD146 k n z L else zD147 k n z L
def zS148 (T : zTb) (fl : zFl) (M : zM) (pc k n : Nat) (z : Int) (L : List Int) (len : Nat) (st : zS) : zR := bif Nat.blt k 76 then zS146 T fl M pc k n z L len st else zS147 T fl M pc k n z L len st
theorem zE148 {T : zTb} {fl : zFl} {M : zM} {pc k n : Nat} {z : Int} {L : List Int} {len : Nat} {st : zS} : zS148 T fl M pc k n z L len st = zstep T fl M pc (zD148 k n z L) len st := by
  unfold zS148 zD148
  cases Nat.blt k 76 with
  | true => exact zE146 (n := n) (z := z) (L := L)
  | false => exact zE147 (n := n) (z := z) (L := L)
theorem zK148 {k n : Nat} {z : Int} {L : List Int} : z_spk (zD148 k n z L) = none := by
  unfold zD148
  cases Nat.blt k 76 with
  | true => exact zK146 (n := n) (z := z) (L := L)
  | false => exact zK147 (n := n) (z := z) (L := L)
def zD149 (k n : Nat) (z : Int) (L : List Int) : Instr := bif Nat.beq k 77 then .iastore else .nop
def zS149 (T : zTb) (fl : zFl) (M : zM) (pc k n : Nat) (z : Int) (L : List Int) (len : Nat) (st : zS) : zR := bif Nat.beq k 77 then z_g len 1 (z_ast fl.2.1 z_t1 0 z_vl z_vh T.1 st) else none
theorem zE149 {T : zTb} {fl : zFl} {M : zM} {pc k n : Nat} {z : Int} {L : List Int} {len : Nat} {st : zS} : zS149 T fl M pc k n z L len st = zstep T fl M pc (zD149 k n z L) len st := by
  unfold zS149 zD149
  cases Nat.beq k 77 with
  | true => exact rfl
  | false => rfl
theorem zK149 {k n : Nat} {z : Int} {L : List Int} : z_spk (zD149 k n z L) = none := by
  unfold zD149
  cases Nat.beq k 77 with
  | true => rfl
  | false => rfl
def zD150 (k n : Nat) (z : Int) (L : List Int) : Instr := bif Nat.beq k 78 then .bastore else .nop
def zS150 (T : zTb) (fl : zFl) (M : zM) (pc k n : Nat) (z : Int) (L : List Int) (len : Nat) (st : zS) : zR := bif Nat.beq k 78 then z_g len 1 (z_ast fl.2.1 z_t34 0 z_vl z_vh T.1 st) else none
theorem zE150 {T : zTb} {fl : zFl} {M : zM} {pc k n : Nat} {z : Int} {L : List Int} {len : Nat} {st : zS} : zS150 T fl M pc k n z L len st = zstep T fl M pc (zD150 k n z L) len st := by
  unfold zS150 zD150
  cases Nat.beq k 78 with
  | true => exact rfl
  | false => rfl
theorem zK150 {k n : Nat} {z : Int} {L : List Int} : z_spk (zD150 k n z L) = none := by
  unfold zD150
  cases Nat.beq k 78 with
  | true => rfl
  | false => rfl
def zD151 (k n : Nat) (z : Int) (L : List Int) : Instr := bif Nat.blt k 78 then zD149 k n z L else zD150 k n z L
def zS151 (T : zTb) (fl : zFl) (M : zM) (pc k n : Nat) (z : Int) (L : List Int) (len : Nat) (st : zS) : zR := bif Nat.blt k 78 then zS149 T fl M pc k n z L len st else zS150 T fl M pc k n z L len st
theorem zE151 {T : zTb} {fl : zFl} {M : zM} {pc k n : Nat} {z : Int} {L : List Int} {len : Nat} {st : zS} : zS151 T fl M pc k n z L len st = zstep T fl M pc (zD151 k n z L) len st := by
  unfold zS151 zD151
  cases Nat.blt k 78 with
  | true => exact zE149 (n := n) (z := z) (L := L)
  | false => exact zE150 (n := n) (z := z) (L := L)
theorem zK151 {k n : Nat} {z : Int} {L : List Int} : z_spk (zD151 k n z L) = none := by
  unfold zD151
  cases Nat.blt k 78 with
  | true => exact zK149 (n := n) (z := z) (L := L)
  | false => exact zK150 (n := n) (z := z) (L := L)
def zD152 (k n : Nat) (z : Int) (L : List Int) : Instr := bif Nat.blt k 77 then zD148 k n z L else zD151 k n z L
def zS152 (T : zTb) (fl : zFl) (M : zM) (pc k n : Nat) (z : Int) (L : List Int) (len : Nat) (st : zS) : zR := bif Nat.blt k 77 then zS148 T fl M pc k n z L len st else zS151 T fl M pc k n z L len st
theorem zE152 {T : zTb} {fl : zFl} {M : zM} {pc k n : Nat} {z : Int} {L : List Int} {len : Nat} {st : zS} : zS152 T fl M pc k n z L len st = zstep T fl M pc (zD152 k n z L) len st := by
  unfold zS152 zD152
  cases Nat.blt k 77 with
  | true => exact zE148 (n := n) (z := z) (L := L)
  | false => exact zE151 (n := n) (z := z) (L := L)
theorem zK152 {k n : Nat} {z : Int} {L : List Int} : z_spk (zD152 k n z L) = none := by
  unfold zD152
  cases Nat.blt k 77 with
  | true => exact zK148 (n := n) (z := z) (L := L)
  | false => exact zK151 (n := n) (z := z) (L := L)
def zD153 (k n : Nat) (z : Int) (L : List Int) : Instr := bif Nat.blt k 75 then zD145 k n z L else zD152 k n z L
def zS153 (T : zTb) (fl : zFl) (M : zM) (pc k n : Nat) (z : Int) (L : List Int) (len : Nat) (st : zS) : zR := bif Nat.blt k 75 then zS145 T fl M pc k n z L len st else zS152 T fl M pc k n z L len st
theorem zE153 {T : zTb} {fl : zFl} {M : zM} {pc k n : Nat} {z : Int} {L : List Int} {len : Nat} {st : zS} : zS153 T fl M pc k n z L len st = zstep T fl M pc (zD153 k n z L) len st := by
  unfold zS153 zD153
  cases Nat.blt k 75 with
  | true => exact zE145 (n := n) (z := z) (L := L)
  | false => exact zE152 (n := n) (z := z) (L := L)
theorem zK153 {k n : Nat} {z : Int} {L : List Int} : z_spk (zD153 k n z L) = none := by
  unfold zD153
  cases Nat.blt k 75 with
  | true => exact zK145 (n := n) (z := z) (L := L)
  | false => exact zK152 (n := n) (z := z) (L := L)
def zD154 (k n : Nat) (z : Int) (L : List Int) : Instr := bif Nat.blt k 72 then zD140 k n z L else zD153 k n z L
def zS154 (T : zTb) (fl : zFl) (M : zM) (pc k n : Nat) (z : Int) (L : List Int) (len : Nat) (st : zS) : zR := bif Nat.blt k 72 then zS140 T fl M pc k n z L len st else zS153 T fl M pc k n z L len st
theorem zE154 {T : zTb} {fl : zFl} {M : zM} {pc k n : Nat} {z : Int} {L : List Int} {len : Nat} {st : zS} : zS154 T fl M pc k n z L len st = zstep T fl M pc (zD154 k n z L) len st := by
  unfold zS154 zD154
  cases Nat.blt k 72 with
  | true => exact zE140 (n := n) (z := z) (L := L)
  | false => exact zE153 (n := n) (z := z) (L := L)
theorem zK154 {k n : Nat} {z : Int} {L : List Int} : z_spk (zD154 k n z L) = none := by
  unfold zD154
  cases Nat.blt k 72 with
  | true => exact zK140 (n := n) (z := z) (L := L)
  | false => exact zK153 (n := n) (z := z) (L := L)
def zD155 (k n : Nat) (z : Int) (L : List Int) : Instr := bif Nat.blt k 66 then zD129 k n z L else zD154 k n z L
def zS155 (T : zTb) (fl : zFl) (M : zM) (pc k n : Nat) (z : Int) (L : List Int) (len : Nat) (st : zS) : zR := bif Nat.blt k 66 then zS129 T fl M pc k n z L len st else zS154 T fl M pc k n z L len st
theorem zE155 {T : zTb} {fl : zFl} {M : zM} {pc k n : Nat} {z : Int} {L : List Int} {len : Nat} {st : zS} : zS155 T fl M pc k n z L len st = zstep T fl M pc (zD155 k n z L) len st := by
  unfold zS155 zD155
  cases Nat.blt k 66 with
  | true => exact zE129 (n := n) (z := z) (L := L)
  | false => exact zE154 (n := n) (z := z) (L := L)
theorem zK155 {k n : Nat} {z : Int} {L : List Int} : z_spk (zD155 k n z L) = none := by
  unfold zD155
  cases Nat.blt k 66 with
  | true => exact zK129 (n := n) (z := z) (L := L)
  | false => exact zK154 (n := n) (z := z) (L := L)
def zD156 (k n : Nat) (z : Int) (L : List Int) : Instr := bif Nat.beq k 79 then .lastore else .nop
def zS156 (T : zTb) (fl : zFl) (M : zM) (pc k n : Nat) (z : Int) (L : List Int) (len : Nat) (st : zS) : zR := bif Nat.beq k 79 then z_g len 1 (z_ast fl.2.1 z_t2 1 z_vlL z_vhL T.1 st) else none
theorem zE156 {T : zTb} {fl : zFl} {M : zM} {pc k n : Nat} {z : Int} {L : List Int} {len : Nat} {st : zS} : zS156 T fl M pc k n z L len st = zstep T fl M pc (zD156 k n z L) len st := by
  unfold zS156 zD156
  cases Nat.beq k 79 with
  | true => exact rfl
  | false => rfl
theorem zK156 {k n : Nat} {z : Int} {L : List Int} : z_spk (zD156 k n z L) = none := by
  unfold zD156
  cases Nat.beq k 79 with
  | true => rfl
  | false => rfl
def zD157 (k n : Nat) (z : Int) (L : List Int) : Instr := bif Nat.beq k 80 then .aastore else .nop
def zS157 (T : zTb) (fl : zFl) (M : zM) (pc k n : Nat) (z : Int) (L : List Int) (len : Nat) (st : zS) : zR := bif Nat.beq k 80 then z_g len 1 (z_aast fl.2.1 T.1 T.2.2.2.2.2.2.2.2.2.1 st) else none
theorem zE157 {T : zTb} {fl : zFl} {M : zM} {pc k n : Nat} {z : Int} {L : List Int} {len : Nat} {st : zS} : zS157 T fl M pc k n z L len st = zstep T fl M pc (zD157 k n z L) len st := by
  unfold zS157 zD157
  cases Nat.beq k 80 with
  | true => exact rfl
  | false => rfl
theorem zK157 {k n : Nat} {z : Int} {L : List Int} : z_spk (zD157 k n z L) = none := by
  unfold zD157
  cases Nat.beq k 80 with
  | true => rfl
  | false => rfl
def zD158 (k n : Nat) (z : Int) (L : List Int) : Instr := bif Nat.beq k 81 then .if_icmp .eq z else .nop
def zS158 (T : zTb) (fl : zFl) (M : zM) (pc k n : Nat) (z : Int) (L : List Int) (len : Nat) (st : zS) : zR := bif Nat.beq k 81 then z_g len 3 (z_icmp .eq pc z st) else none
theorem zE158 {T : zTb} {fl : zFl} {M : zM} {pc k n : Nat} {z : Int} {L : List Int} {len : Nat} {st : zS} : zS158 T fl M pc k n z L len st = zstep T fl M pc (zD158 k n z L) len st := by
  unfold zS158 zD158
  cases Nat.beq k 81 with
  | true => exact rfl
  | false => rfl
theorem zK158 {k n : Nat} {z : Int} {L : List Int} : z_spk (zD158 k n z L) = none := by
  unfold zD158
  cases Nat.beq k 81 with
  | true => rfl
  | false => rfl
def zD159 (k n : Nat) (z : Int) (L : List Int) : Instr := bif Nat.blt k 81 then zD157 k n z L else zD158 k n z L
def zS159 (T : zTb) (fl : zFl) (M : zM) (pc k n : Nat) (z : Int) (L : List Int) (len : Nat) (st : zS) : zR := bif Nat.blt k 81 then zS157 T fl M pc k n z L len st else zS158 T fl M pc k n z L len st
theorem zE159 {T : zTb} {fl : zFl} {M : zM} {pc k n : Nat} {z : Int} {L : List Int} {len : Nat} {st : zS} : zS159 T fl M pc k n z L len st = zstep T fl M pc (zD159 k n z L) len st := by
  unfold zS159 zD159
  cases Nat.blt k 81 with
  | true => exact zE157 (n := n) (z := z) (L := L)
  | false => exact zE158 (n := n) (z := z) (L := L)
theorem zK159 {k n : Nat} {z : Int} {L : List Int} : z_spk (zD159 k n z L) = none := by
  unfold zD159
  cases Nat.blt k 81 with
  | true => exact zK157 (n := n) (z := z) (L := L)
  | false => exact zK158 (n := n) (z := z) (L := L)
def zD160 (k n : Nat) (z : Int) (L : List Int) : Instr := bif Nat.blt k 80 then zD156 k n z L else zD159 k n z L
def zS160 (T : zTb) (fl : zFl) (M : zM) (pc k n : Nat) (z : Int) (L : List Int) (len : Nat) (st : zS) : zR := bif Nat.blt k 80 then zS156 T fl M pc k n z L len st else zS159 T fl M pc k n z L len st
theorem zE160 {T : zTb} {fl : zFl} {M : zM} {pc k n : Nat} {z : Int} {L : List Int} {len : Nat} {st : zS} : zS160 T fl M pc k n z L len st = zstep T fl M pc (zD160 k n z L) len st := by
  unfold zS160 zD160
  cases Nat.blt k 80 with
  | true => exact zE156 (n := n) (z := z) (L := L)
  | false => exact zE159 (n := n) (z := z) (L := L)
theorem zK160 {k n : Nat} {z : Int} {L : List Int} : z_spk (zD160 k n z L) = none := by
  unfold zD160
  cases Nat.blt k 80 with
  | true => exact zK156 (n := n) (z := z) (L := L)
  | false => exact zK159 (n := n) (z := z) (L := L)
def zD161 (k n : Nat) (z : Int) (L : List Int) : Instr := bif Nat.beq k 82 then .if_icmp .ne z else .nop
def zS161 (T : zTb) (fl : zFl) (M : zM) (pc k n : Nat) (z : Int) (L : List Int) (len : Nat) (st : zS) : zR := bif Nat.beq k 82 then z_g len 3 (z_icmp .ne pc z st) else none
theorem zE161 {T : zTb} {fl : zFl} {M : zM} {pc k n : Nat} {z : Int} {L : List Int} {len : Nat} {st : zS} : zS161 T fl M pc k n z L len st = zstep T fl M pc (zD161 k n z L) len st := by
  unfold zS161 zD161
  cases Nat.beq k 82 with
  | true => exact rfl
  | false => rfl
theorem zK161 {k n : Nat} {z : Int} {L : List Int} : z_spk (zD161 k n z L) = none := by
  unfold zD161
  cases Nat.beq k 82 with
  | true => rfl
  | false => rfl
def zD162 (k n : Nat) (z : Int) (L : List Int) : Instr := bif Nat.beq k 83 then .if_icmp .lt z else .nop
def zS162 (T : zTb) (fl : zFl) (M : zM) (pc k n : Nat) (z : Int) (L : List Int) (len : Nat) (st : zS) : zR := bif Nat.beq k 83 then z_g len 3 (z_icmp .lt pc z st) else none
theorem zE162 {T : zTb} {fl : zFl} {M : zM} {pc k n : Nat} {z : Int} {L : List Int} {len : Nat} {st : zS} : zS162 T fl M pc k n z L len st = zstep T fl M pc (zD162 k n z L) len st := by
  unfold zS162 zD162
  cases Nat.beq k 83 with
  | true => exact rfl
  | false => rfl
theorem zK162 {k n : Nat} {z : Int} {L : List Int} : z_spk (zD162 k n z L) = none := by
  unfold zD162
  cases Nat.beq k 83 with
  | true => rfl
  | false => rfl
def zD163 (k n : Nat) (z : Int) (L : List Int) : Instr := bif Nat.beq k 84 then .if_icmp .ge z else .nop
def zS163 (T : zTb) (fl : zFl) (M : zM) (pc k n : Nat) (z : Int) (L : List Int) (len : Nat) (st : zS) : zR := bif Nat.beq k 84 then z_g len 3 (z_icmp .ge pc z st) else none
theorem zE163 {T : zTb} {fl : zFl} {M : zM} {pc k n : Nat} {z : Int} {L : List Int} {len : Nat} {st : zS} : zS163 T fl M pc k n z L len st = zstep T fl M pc (zD163 k n z L) len st := by
  unfold zS163 zD163
  cases Nat.beq k 84 with
  | true => exact rfl
  | false => rfl
theorem zK163 {k n : Nat} {z : Int} {L : List Int} : z_spk (zD163 k n z L) = none := by
  unfold zD163
  cases Nat.beq k 84 with
  | true => rfl
  | false => rfl
def zD164 (k n : Nat) (z : Int) (L : List Int) : Instr := bif Nat.blt k 84 then zD162 k n z L else zD163 k n z L
def zS164 (T : zTb) (fl : zFl) (M : zM) (pc k n : Nat) (z : Int) (L : List Int) (len : Nat) (st : zS) : zR := bif Nat.blt k 84 then zS162 T fl M pc k n z L len st else zS163 T fl M pc k n z L len st
theorem zE164 {T : zTb} {fl : zFl} {M : zM} {pc k n : Nat} {z : Int} {L : List Int} {len : Nat} {st : zS} : zS164 T fl M pc k n z L len st = zstep T fl M pc (zD164 k n z L) len st := by
  unfold zS164 zD164
  cases Nat.blt k 84 with
  | true => exact zE162 (n := n) (z := z) (L := L)
  | false => exact zE163 (n := n) (z := z) (L := L)
theorem zK164 {k n : Nat} {z : Int} {L : List Int} : z_spk (zD164 k n z L) = none := by
  unfold zD164
  cases Nat.blt k 84 with
  | true => exact zK162 (n := n) (z := z) (L := L)
  | false => exact zK163 (n := n) (z := z) (L := L)
def zD165 (k n : Nat) (z : Int) (L : List Int) : Instr := bif Nat.blt k 83 then zD161 k n z L else zD164 k n z L
def zS165 (T : zTb) (fl : zFl) (M : zM) (pc k n : Nat) (z : Int) (L : List Int) (len : Nat) (st : zS) : zR := bif Nat.blt k 83 then zS161 T fl M pc k n z L len st else zS164 T fl M pc k n z L len st
theorem zE165 {T : zTb} {fl : zFl} {M : zM} {pc k n : Nat} {z : Int} {L : List Int} {len : Nat} {st : zS} : zS165 T fl M pc k n z L len st = zstep T fl M pc (zD165 k n z L) len st := by
  unfold zS165 zD165
  cases Nat.blt k 83 with
  | true => exact zE161 (n := n) (z := z) (L := L)
  | false => exact zE164 (n := n) (z := z) (L := L)
theorem zK165 {k n : Nat} {z : Int} {L : List Int} : z_spk (zD165 k n z L) = none := by
  unfold zD165
  cases Nat.blt k 83 with
  | true => exact zK161 (n := n) (z := z) (L := L)
  | false => exact zK164 (n := n) (z := z) (L := L)
def zD166 (k n : Nat) (z : Int) (L : List Int) : Instr := bif Nat.blt k 82 then zD160 k n z L else zD165 k n z L
def zS166 (T : zTb) (fl : zFl) (M : zM) (pc k n : Nat) (z : Int) (L : List Int) (len : Nat) (st : zS) : zR := bif Nat.blt k 82 then zS160 T fl M pc k n z L len st else zS165 T fl M pc k n z L len st
theorem zE166 {T : zTb} {fl : zFl} {M : zM} {pc k n : Nat} {z : Int} {L : List Int} {len : Nat} {st : zS} : zS166 T fl M pc k n z L len st = zstep T fl M pc (zD166 k n z L) len st := by
  unfold zS166 zD166
  cases Nat.blt k 82 with
  | true => exact zE160 (n := n) (z := z) (L := L)
  | false => exact zE165 (n := n) (z := z) (L := L)
theorem zK166 {k n : Nat} {z : Int} {L : List Int} : z_spk (zD166 k n z L) = none := by
  unfold zD166
  cases Nat.blt k 82 with
  | true => exact zK160 (n := n) (z := z) (L := L)
  | false => exact zK165 (n := n) (z := z) (L := L)
def zD167 (k n : Nat) (z : Int) (L : List Int) : Instr := bif Nat.beq k 85 then .if_icmp .gt z else .nop
def zS167 (T : zTb) (fl : zFl) (M : zM) (pc k n : Nat) (z : Int) (L : List Int) (len : Nat) (st : zS) : zR := bif Nat.beq k 85 then z_g len 3 (z_icmp .gt pc z st) else none
theorem zE167 {T : zTb} {fl : zFl} {M : zM} {pc k n : Nat} {z : Int} {L : List Int} {len : Nat} {st : zS} : zS167 T fl M pc k n z L len st = zstep T fl M pc (zD167 k n z L) len st := by
  unfold zS167 zD167
  cases Nat.beq k 85 with
  | true => exact rfl
  | false => rfl
theorem zK167 {k n : Nat} {z : Int} {L : List Int} : z_spk (zD167 k n z L) = none := by
  unfold zD167
  cases Nat.beq k 85 with
  | true => rfl
  | false => rfl
def zD168 (k n : Nat) (z : Int) (L : List Int) : Instr := bif Nat.beq k 86 then .if_icmp .le z else .nop
def zS168 (T : zTb) (fl : zFl) (M : zM) (pc k n : Nat) (z : Int) (L : List Int) (len : Nat) (st : zS) : zR := bif Nat.beq k 86 then z_g len 3 (z_icmp .le pc z st) else none
theorem zE168 {T : zTb} {fl : zFl} {M : zM} {pc k n : Nat} {z : Int} {L : List Int} {len : Nat} {st : zS} : zS168 T fl M pc k n z L len st = zstep T fl M pc (zD168 k n z L) len st := by
  unfold zS168 zD168
  cases Nat.beq k 86 with
  | true => exact rfl
  | false => rfl
theorem zK168 {k n : Nat} {z : Int} {L : List Int} : z_spk (zD168 k n z L) = none := by
  unfold zD168
  cases Nat.beq k 86 with
  | true => rfl
  | false => rfl
def zD169 (k n : Nat) (z : Int) (L : List Int) : Instr := bif Nat.beq k 87 then .ifCond .eq z else .nop
def zS169 (T : zTb) (fl : zFl) (M : zM) (pc k n : Nat) (z : Int) (L : List Int) (len : Nat) (st : zS) : zR := bif Nat.beq k 87 then z_g len 3 (z_if .eq pc z st) else none
theorem zE169 {T : zTb} {fl : zFl} {M : zM} {pc k n : Nat} {z : Int} {L : List Int} {len : Nat} {st : zS} : zS169 T fl M pc k n z L len st = zstep T fl M pc (zD169 k n z L) len st := by
  unfold zS169 zD169
  cases Nat.beq k 87 with
  | true => exact rfl
  | false => rfl
theorem zK169 {k n : Nat} {z : Int} {L : List Int} : z_spk (zD169 k n z L) = none := by
  unfold zD169
  cases Nat.beq k 87 with
  | true => rfl
  | false => rfl
def zD170 (k n : Nat) (z : Int) (L : List Int) : Instr := bif Nat.blt k 87 then zD168 k n z L else zD169 k n z L
def zS170 (T : zTb) (fl : zFl) (M : zM) (pc k n : Nat) (z : Int) (L : List Int) (len : Nat) (st : zS) : zR := bif Nat.blt k 87 then zS168 T fl M pc k n z L len st else zS169 T fl M pc k n z L len st
theorem zE170 {T : zTb} {fl : zFl} {M : zM} {pc k n : Nat} {z : Int} {L : List Int} {len : Nat} {st : zS} : zS170 T fl M pc k n z L len st = zstep T fl M pc (zD170 k n z L) len st := by
  unfold zS170 zD170
  cases Nat.blt k 87 with
  | true => exact zE168 (n := n) (z := z) (L := L)
  | false => exact zE169 (n := n) (z := z) (L := L)
theorem zK170 {k n : Nat} {z : Int} {L : List Int} : z_spk (zD170 k n z L) = none := by
  unfold zD170
  cases Nat.blt k 87 with
  | true => exact zK168 (n := n) (z := z) (L := L)
  | false => exact zK169 (n := n) (z := z) (L := L)
def zD171 (k n : Nat) (z : Int) (L : List Int) : Instr := bif Nat.blt k 86 then zD167 k n z L else zD170 k n z L
def zS171 (T : zTb) (fl : zFl) (M : zM) (pc k n : Nat) (z : Int) (L : List Int) (len : Nat) (st : zS) : zR := bif Nat.blt k 86 then zS167 T fl M pc k n z L len st else zS170 T fl M pc k n z L len st
theorem zE171 {T : zTb} {fl : zFl} {M : zM} {pc k n : Nat} {z : Int} {L : List Int} {len : Nat} {st : zS} : zS171 T fl M pc k n z L len st = zstep T fl M pc (zD171 k n z L) len st := by
  unfold zS171 zD171
  cases Nat.blt k 86 with
  | true => exact zE167 (n := n) (z := z) (L := L)
  | false => exact zE170 (n := n) (z := z) (L := L)
theorem zK171 {k n : Nat} {z : Int} {L : List Int} : z_spk (zD171 k n z L) = none := by
  unfold zD171
  cases Nat.blt k 86 with
  | true => exact zK167 (n := n) (z := z) (L := L)
  | false => exact zK170 (n := n) (z := z) (L := L)
def zD172 (k n : Nat) (z : Int) (L : List Int) : Instr := bif Nat.beq k 88 then .ifCond .ne z else .nop
def zS172 (T : zTb) (fl : zFl) (M : zM) (pc k n : Nat) (z : Int) (L : List Int) (len : Nat) (st : zS) : zR := bif Nat.beq k 88 then z_g len 3 (z_if .ne pc z st) else none
theorem zE172 {T : zTb} {fl : zFl} {M : zM} {pc k n : Nat} {z : Int} {L : List Int} {len : Nat} {st : zS} : zS172 T fl M pc k n z L len st = zstep T fl M pc (zD172 k n z L) len st := by
  unfold zS172 zD172
  cases Nat.beq k 88 with
  | true => exact rfl
  | false => rfl
theorem zK172 {k n : Nat} {z : Int} {L : List Int} : z_spk (zD172 k n z L) = none := by
  unfold zD172
  cases Nat.beq k 88 with
  | true => rfl
  | false => rfl
def zD173 (k n : Nat) (z : Int) (L : List Int) : Instr := bif Nat.beq k 89 then .ifCond .lt z else .nop
def zS173 (T : zTb) (fl : zFl) (M : zM) (pc k n : Nat) (z : Int) (L : List Int) (len : Nat) (st : zS) : zR := bif Nat.beq k 89 then z_g len 3 (z_if .lt pc z st) else none
theorem zE173 {T : zTb} {fl : zFl} {M : zM} {pc k n : Nat} {z : Int} {L : List Int} {len : Nat} {st : zS} : zS173 T fl M pc k n z L len st = zstep T fl M pc (zD173 k n z L) len st := by
  unfold zS173 zD173
  cases Nat.beq k 89 with
  | true => exact rfl
  | false => rfl
theorem zK173 {k n : Nat} {z : Int} {L : List Int} : z_spk (zD173 k n z L) = none := by
  unfold zD173
  cases Nat.beq k 89 with
  | true => rfl
  | false => rfl
def zD174 (k n : Nat) (z : Int) (L : List Int) : Instr := bif Nat.blt k 89 then zD172 k n z L else zD173 k n z L
def zS174 (T : zTb) (fl : zFl) (M : zM) (pc k n : Nat) (z : Int) (L : List Int) (len : Nat) (st : zS) : zR := bif Nat.blt k 89 then zS172 T fl M pc k n z L len st else zS173 T fl M pc k n z L len st
theorem zE174 {T : zTb} {fl : zFl} {M : zM} {pc k n : Nat} {z : Int} {L : List Int} {len : Nat} {st : zS} : zS174 T fl M pc k n z L len st = zstep T fl M pc (zD174 k n z L) len st := by
  unfold zS174 zD174
  cases Nat.blt k 89 with
  | true => exact zE172 (n := n) (z := z) (L := L)
  | false => exact zE173 (n := n) (z := z) (L := L)
theorem zK174 {k n : Nat} {z : Int} {L : List Int} : z_spk (zD174 k n z L) = none := by
  unfold zD174
  cases Nat.blt k 89 with
  | true => exact zK172 (n := n) (z := z) (L := L)
  | false => exact zK173 (n := n) (z := z) (L := L)
def zD175 (k n : Nat) (z : Int) (L : List Int) : Instr := bif Nat.beq k 90 then .ifCond .ge z else .nop
def zS175 (T : zTb) (fl : zFl) (M : zM) (pc k n : Nat) (z : Int) (L : List Int) (len : Nat) (st : zS) : zR := bif Nat.beq k 90 then z_g len 3 (z_if .ge pc z st) else none
theorem zE175 {T : zTb} {fl : zFl} {M : zM} {pc k n : Nat} {z : Int} {L : List Int} {len : Nat} {st : zS} : zS175 T fl M pc k n z L len st = zstep T fl M pc (zD175 k n z L) len st := by
  unfold zS175 zD175
  cases Nat.beq k 90 with
  | true => exact rfl
  | false => rfl
theorem zK175 {k n : Nat} {z : Int} {L : List Int} : z_spk (zD175 k n z L) = none := by
  unfold zD175
  cases Nat.beq k 90 with
  | true => rfl
  | false => rfl
def zD176 (k n : Nat) (z : Int) (L : List Int) : Instr := bif Nat.beq k 91 then .ifCond .gt z else .nop
def zS176 (T : zTb) (fl : zFl) (M : zM) (pc k n : Nat) (z : Int) (L : List Int) (len : Nat) (st : zS) : zR := bif Nat.beq k 91 then z_g len 3 (z_if .gt pc z st) else none
theorem zE176 {T : zTb} {fl : zFl} {M : zM} {pc k n : Nat} {z : Int} {L : List Int} {len : Nat} {st : zS} : zS176 T fl M pc k n z L len st = zstep T fl M pc (zD176 k n z L) len st := by
  unfold zS176 zD176
  cases Nat.beq k 91 with
  | true => exact rfl
  | false => rfl
theorem zK176 {k n : Nat} {z : Int} {L : List Int} : z_spk (zD176 k n z L) = none := by
  unfold zD176
  cases Nat.beq k 91 with
  | true => rfl
  | false => rfl
def zD177 (k n : Nat) (z : Int) (L : List Int) : Instr := bif Nat.blt k 91 then zD175 k n z L else zD176 k n z L
def zS177 (T : zTb) (fl : zFl) (M : zM) (pc k n : Nat) (z : Int) (L : List Int) (len : Nat) (st : zS) : zR := bif Nat.blt k 91 then zS175 T fl M pc k n z L len st else zS176 T fl M pc k n z L len st
theorem zE177 {T : zTb} {fl : zFl} {M : zM} {pc k n : Nat} {z : Int} {L : List Int} {len : Nat} {st : zS} : zS177 T fl M pc k n z L len st = zstep T fl M pc (zD177 k n z L) len st := by
  unfold zS177 zD177
  cases Nat.blt k 91 with
  | true => exact zE175 (n := n) (z := z) (L := L)
  | false => exact zE176 (n := n) (z := z) (L := L)
theorem zK177 {k n : Nat} {z : Int} {L : List Int} : z_spk (zD177 k n z L) = none := by
  unfold zD177
  cases Nat.blt k 91 with
  | true => exact zK175 (n := n) (z := z) (L := L)
  | false => exact zK176 (n := n) (z := z) (L := L)
def zD178 (k n : Nat) (z : Int) (L : List Int) : Instr := bif Nat.blt k 90 then zD174 k n z L else zD177 k n z L
def zS178 (T : zTb) (fl : zFl) (M : zM) (pc k n : Nat) (z : Int) (L : List Int) (len : Nat) (st : zS) : zR := bif Nat.blt k 90 then zS174 T fl M pc k n z L len st else zS177 T fl M pc k n z L len st
theorem zE178 {T : zTb} {fl : zFl} {M : zM} {pc k n : Nat} {z : Int} {L : List Int} {len : Nat} {st : zS} : zS178 T fl M pc k n z L len st = zstep T fl M pc (zD178 k n z L) len st := by
  unfold zS178 zD178
  cases Nat.blt k 90 with
  | true => exact zE174 (n := n) (z := z) (L := L)
  | false => exact zE177 (n := n) (z := z) (L := L)
theorem zK178 {k n : Nat} {z : Int} {L : List Int} : z_spk (zD178 k n z L) = none := by
  unfold zD178
  cases Nat.blt k 90 with
  | true => exact zK174 (n := n) (z := z) (L := L)
  | false => exact zK177 (n := n) (z := z) (L := L)
def zD179 (k n : Nat) (z : Int) (L : List Int) : Instr := bif Nat.blt k 88 then zD171 k n z L else zD178 k n z L
def zS179 (T : zTb) (fl : zFl) (M : zM) (pc k n : Nat) (z : Int) (L : List Int) (len : Nat) (st : zS) : zR := bif Nat.blt k 88 then zS171 T fl M pc k n z L len st else zS178 T fl M pc k n z L len st
theorem zE179 {T : zTb} {fl : zFl} {M : zM} {pc k n : Nat} {z : Int} {L : List Int} {len : Nat} {st : zS} : zS179 T fl M pc k n z L len st = zstep T fl M pc (zD179 k n z L) len st := by
  unfold zS179 zD179
  cases Nat.blt k 88 with
  | true => exact zE171 (n := n) (z := z) (L := L)
  | false => exact zE178 (n := n) (z := z) (L := L)
theorem zK179 {k n : Nat} {z : Int} {L : List Int} : z_spk (zD179 k n z L) = none := by
  unfold zD179
  cases Nat.blt k 88 with
  | true => exact zK171 (n := n) (z := z) (L := L)
  | false => exact zK178 (n := n) (z := z) (L := L)
def zD180 (k n : Nat) (z : Int) (L : List Int) : Instr := bif Nat.blt k 85 then zD166 k n z L else zD179 k n z L
def zS180 (T : zTb) (fl : zFl) (M : zM) (pc k n : Nat) (z : Int) (L : List Int) (len : Nat) (st : zS) : zR := bif Nat.blt k 85 then zS166 T fl M pc k n z L len st else zS179 T fl M pc k n z L len st
theorem zE180 {T : zTb} {fl : zFl} {M : zM} {pc k n : Nat} {z : Int} {L : List Int} {len : Nat} {st : zS} : zS180 T fl M pc k n z L len st = zstep T fl M pc (zD180 k n z L) len st := by
  unfold zS180 zD180
  cases Nat.blt k 85 with
  | true => exact zE166 (n := n) (z := z) (L := L)
  | false => exact zE179 (n := n) (z := z) (L := L)
theorem zK180 {k n : Nat} {z : Int} {L : List Int} : z_spk (zD180 k n z L) = none := by
  unfold zD180
  cases Nat.blt k 85 with
  | true => exact zK166 (n := n) (z := z) (L := L)
  | false => exact zK179 (n := n) (z := z) (L := L)
def zD181 (k n : Nat) (z : Int) (L : List Int) : Instr := bif Nat.beq k 92 then .ifCond .le z else .nop
def zS181 (T : zTb) (fl : zFl) (M : zM) (pc k n : Nat) (z : Int) (L : List Int) (len : Nat) (st : zS) : zR := bif Nat.beq k 92 then z_g len 3 (z_if .le pc z st) else none
theorem zE181 {T : zTb} {fl : zFl} {M : zM} {pc k n : Nat} {z : Int} {L : List Int} {len : Nat} {st : zS} : zS181 T fl M pc k n z L len st = zstep T fl M pc (zD181 k n z L) len st := by
  unfold zS181 zD181
  cases Nat.beq k 92 with
  | true => exact rfl
  | false => rfl
theorem zK181 {k n : Nat} {z : Int} {L : List Int} : z_spk (zD181 k n z L) = none := by
  unfold zD181
  cases Nat.beq k 92 with
  | true => rfl
  | false => rfl
def zD182 (k n : Nat) (z : Int) (L : List Int) : Instr := bif Nat.beq k 93 then .goto z else .nop
def zS182 (T : zTb) (fl : zFl) (M : zM) (pc k n : Nat) (z : Int) (L : List Int) (len : Nat) (st : zS) : zR := bif Nat.beq k 93 then z_g len 3 (z_goto pc z st) else none
theorem zE182 {T : zTb} {fl : zFl} {M : zM} {pc k n : Nat} {z : Int} {L : List Int} {len : Nat} {st : zS} : zS182 T fl M pc k n z L len st = zstep T fl M pc (zD182 k n z L) len st := by
  unfold zS182 zD182
  cases Nat.beq k 93 with
  | true => exact rfl
  | false => rfl
theorem zK182 {k n : Nat} {z : Int} {L : List Int} : z_spk (zD182 k n z L) = none := by
  unfold zD182
  cases Nat.beq k 93 with
  | true => rfl
  | false => rfl
def zD183 (k n : Nat) (z : Int) (L : List Int) : Instr := bif Nat.beq k 94 then z_ts z L else .nop
def zS183 (T : zTb) (fl : zFl) (M : zM) (pc k n : Nat) (z : Int) (L : List Int) (len : Nat) (st : zS) : zR := bif Nat.beq k 94 then z_tsC pc z L st else none
theorem zE183 {T : zTb} {fl : zFl} {M : zM} {pc k n : Nat} {z : Int} {L : List Int} {len : Nat} {st : zS} : zS183 T fl M pc k n z L len st = zstep T fl M pc (zD183 k n z L) len st := by
  unfold zS183 zD183
  cases Nat.beq k 94 with
  | true => exact z_tsC_eq
  | false => rfl
theorem zK183 {k n : Nat} {z : Int} {L : List Int} : z_spk (zD183 k n z L) = none := by
  unfold zD183
  cases Nat.beq k 94 with
  | true => unfold z_ts; cases L with
    | nil => rfl
    | cons a r => cases r with
      | nil => rfl
      | cons b t => rfl
  | false => rfl
def zD184 (k n : Nat) (z : Int) (L : List Int) : Instr := bif Nat.blt k 94 then zD182 k n z L else zD183 k n z L
def zS184 (T : zTb) (fl : zFl) (M : zM) (pc k n : Nat) (z : Int) (L : List Int) (len : Nat) (st : zS) : zR := bif Nat.blt k 94 then zS182 T fl M pc k n z L len st else zS183 T fl M pc k n z L len st
theorem zE184 {T : zTb} {fl : zFl} {M : zM} {pc k n : Nat} {z : Int} {L : List Int} {len : Nat} {st : zS} : zS184 T fl M pc k n z L len st = zstep T fl M pc (zD184 k n z L) len st := by
  unfold zS184 zD184
  cases Nat.blt k 94 with
  | true => exact zE182 (n := n) (z := z) (L := L)
  | false => exact zE183 (n := n) (z := z) (L := L)
theorem zK184 {k n : Nat} {z : Int} {L : List Int} : z_spk (zD184 k n z L) = none := by
  unfold zD184
  cases Nat.blt k 94 with
  | true => exact zK182 (n := n) (z := z) (L := L)
  | false => exact zK183 (n := n) (z := z) (L := L)
def zD185 (k n : Nat) (z : Int) (L : List Int) : Instr := bif Nat.blt k 93 then zD181 k n z L else zD184 k n z L
def zS185 (T : zTb) (fl : zFl) (M : zM) (pc k n : Nat) (z : Int) (L : List Int) (len : Nat) (st : zS) : zR := bif Nat.blt k 93 then zS181 T fl M pc k n z L len st else zS184 T fl M pc k n z L len st
theorem zE185 {T : zTb} {fl : zFl} {M : zM} {pc k n : Nat} {z : Int} {L : List Int} {len : Nat} {st : zS} : zS185 T fl M pc k n z L len st = zstep T fl M pc (zD185 k n z L) len st := by
  unfold zS185 zD185
  cases Nat.blt k 93 with
  | true => exact zE181 (n := n) (z := z) (L := L)
  | false => exact zE184 (n := n) (z := z) (L := L)
theorem zK185 {k n : Nat} {z : Int} {L : List Int} : z_spk (zD185 k n z L) = none := by
  unfold zD185
  cases Nat.blt k 93 with
  | true => exact zK181 (n := n) (z := z) (L := L)
  | false => exact zK184 (n := n) (z := z) (L := L)
def zD186 (k n : Nat) (z : Int) (L : List Int) : Instr := bif Nat.beq k 95 then .lookupswitch z (z_prs L).toArray else .nop
def zS186 (T : zTb) (fl : zFl) (M : zM) (pc k n : Nat) (z : Int) (L : List Int) (len : Nat) (st : zS) : zR := bif Nat.beq k 95 then z_lsw pc z (z_prs L).toArray st else none
theorem zE186 {T : zTb} {fl : zFl} {M : zM} {pc k n : Nat} {z : Int} {L : List Int} {len : Nat} {st : zS} : zS186 T fl M pc k n z L len st = zstep T fl M pc (zD186 k n z L) len st := by
  unfold zS186 zD186
  cases Nat.beq k 95 with
  | true => exact rfl
  | false => rfl
theorem zK186 {k n : Nat} {z : Int} {L : List Int} : z_spk (zD186 k n z L) = none := by
  unfold zD186
  cases Nat.beq k 95 with
  | true => rfl
  | false => rfl
def zD187 (k n : Nat) (z : Int) (L : List Int) : Instr := bif Nat.beq k 96 then .getfield n else .nop
def zS187 (T : zTb) (fl : zFl) (M : zM) (pc k n : Nat) (z : Int) (L : List Int) (len : Nat) (st : zS) : zR := bif Nat.beq k 96 then z_g len 3 (z_or (z_get T.1 T.2.2.2.1 M.2.2.2.2.2.2.2.1 n st) (z_getS T.2.2.2.2.2.2.2.2.2.2.2.2 M.2.2.2.2.2.2.2.1 n st)) else none
theorem zE187 {T : zTb} {fl : zFl} {M : zM} {pc k n : Nat} {z : Int} {L : List Int} {len : Nat} {st : zS} : zS187 T fl M pc k n z L len st = zstep T fl M pc (zD187 k n z L) len st := by
  unfold zS187 zD187
  cases Nat.beq k 96 with
  | true => exact rfl
  | false => rfl
theorem zK187 {k n : Nat} {z : Int} {L : List Int} : z_spk (zD187 k n z L) = none := by
  unfold zD187
  cases Nat.beq k 96 with
  | true => rfl
  | false => rfl
def zD188 (k n : Nat) (z : Int) (L : List Int) : Instr := bif Nat.blt k 96 then zD186 k n z L else zD187 k n z L
def zS188 (T : zTb) (fl : zFl) (M : zM) (pc k n : Nat) (z : Int) (L : List Int) (len : Nat) (st : zS) : zR := bif Nat.blt k 96 then zS186 T fl M pc k n z L len st else zS187 T fl M pc k n z L len st
theorem zE188 {T : zTb} {fl : zFl} {M : zM} {pc k n : Nat} {z : Int} {L : List Int} {len : Nat} {st : zS} : zS188 T fl M pc k n z L len st = zstep T fl M pc (zD188 k n z L) len st := by
  unfold zS188 zD188
  cases Nat.blt k 96 with
  | true => exact zE186 (n := n) (z := z) (L := L)
  | false => exact zE187 (n := n) (z := z) (L := L)
theorem zK188 {k n : Nat} {z : Int} {L : List Int} : z_spk (zD188 k n z L) = none := by
  unfold zD188
  cases Nat.blt k 96 with
  | true => exact zK186 (n := n) (z := z) (L := L)
  | false => exact zK187 (n := n) (z := z) (L := L)
def zD189 (k n : Nat) (z : Int) (L : List Int) : Instr := bif Nat.beq k 97 then .putfield n else .nop
def zS189 (T : zTb) (fl : zFl) (M : zM) (pc k n : Nat) (z : Int) (L : List Int) (len : Nat) (st : zS) : zR := bif Nat.beq k 97 then z_g len 3 (z_putf fl.2.1 T.2.1 T.1 T.2.2.2.1 M.2.2.2.2.2.2.2.1 M.2.2.2.2.2.2.2.2 n st) else none
theorem zE189 {T : zTb} {fl : zFl} {M : zM} {pc k n : Nat} {z : Int} {L : List Int} {len : Nat} {st : zS} : zS189 T fl M pc k n z L len st = zstep T fl M pc (zD189 k n z L) len st := by
  unfold zS189 zD189
  cases Nat.beq k 97 with
  | true => exact rfl
  | false => rfl
theorem zK189 {k n : Nat} {z : Int} {L : List Int} : z_spk (zD189 k n z L) = none := by
  unfold zD189
  cases Nat.beq k 97 with
  | true => rfl
  | false => rfl
def zD190 (k n : Nat) (z : Int) (L : List Int) : Instr := bif Nat.beq k 98 then .getstatic n else .nop
def zS190 (T : zTb) (fl : zFl) (M : zM) (pc k n : Nat) (z : Int) (L : List Int) (len : Nat) (st : zS) : zR := bif Nat.beq k 98 then z_g len 3 (z_gst T.2.2.2.2.2.2.2.2.2.2.2.2 M.2.2.2.2.2.2.2.1 n st) else none
theorem zE190 {T : zTb} {fl : zFl} {M : zM} {pc k n : Nat} {z : Int} {L : List Int} {len : Nat} {st : zS} : zS190 T fl M pc k n z L len st = zstep T fl M pc (zD190 k n z L) len st := by
  unfold zS190 zD190
  cases Nat.beq k 98 with
  | true => exact rfl
  | false => rfl
theorem zK190 {k n : Nat} {z : Int} {L : List Int} : z_spk (zD190 k n z L) = none := by
  unfold zD190
  cases Nat.beq k 98 with
  | true => rfl
  | false => rfl
def zD191 (k n : Nat) (z : Int) (L : List Int) : Instr := bif Nat.blt k 98 then zD189 k n z L else zD190 k n z L
def zS191 (T : zTb) (fl : zFl) (M : zM) (pc k n : Nat) (z : Int) (L : List Int) (len : Nat) (st : zS) : zR := bif Nat.blt k 98 then zS189 T fl M pc k n z L len st else zS190 T fl M pc k n z L len st
theorem zE191 {T : zTb} {fl : zFl} {M : zM} {pc k n : Nat} {z : Int} {L : List Int} {len : Nat} {st : zS} : zS191 T fl M pc k n z L len st = zstep T fl M pc (zD191 k n z L) len st := by
  unfold zS191 zD191
  cases Nat.blt k 98 with
  | true => exact zE189 (n := n) (z := z) (L := L)
  | false => exact zE190 (n := n) (z := z) (L := L)
theorem zK191 {k n : Nat} {z : Int} {L : List Int} : z_spk (zD191 k n z L) = none := by
  unfold zD191
  cases Nat.blt k 98 with
  | true => exact zK189 (n := n) (z := z) (L := L)
  | false => exact zK190 (n := n) (z := z) (L := L)
def zD192 (k n : Nat) (z : Int) (L : List Int) : Instr := bif Nat.blt k 97 then zD188 k n z L else zD191 k n z L
def zS192 (T : zTb) (fl : zFl) (M : zM) (pc k n : Nat) (z : Int) (L : List Int) (len : Nat) (st : zS) : zR := bif Nat.blt k 97 then zS188 T fl M pc k n z L len st else zS191 T fl M pc k n z L len st
theorem zE192 {T : zTb} {fl : zFl} {M : zM} {pc k n : Nat} {z : Int} {L : List Int} {len : Nat} {st : zS} : zS192 T fl M pc k n z L len st = zstep T fl M pc (zD192 k n z L) len st := by
  unfold zS192 zD192
  cases Nat.blt k 97 with
  | true => exact zE188 (n := n) (z := z) (L := L)
  | false => exact zE191 (n := n) (z := z) (L := L)
theorem zK192 {k n : Nat} {z : Int} {L : List Int} : z_spk (zD192 k n z L) = none := by
  unfold zD192
  cases Nat.blt k 97 with
  | true => exact zK188 (n := n) (z := z) (L := L)
  | false => exact zK191 (n := n) (z := z) (L := L)
def zD193 (k n : Nat) (z : Int) (L : List Int) : Instr := bif Nat.blt k 95 then zD185 k n z L else zD192 k n z L
def zS193 (T : zTb) (fl : zFl) (M : zM) (pc k n : Nat) (z : Int) (L : List Int) (len : Nat) (st : zS) : zR := bif Nat.blt k 95 then zS185 T fl M pc k n z L len st else zS192 T fl M pc k n z L len st
theorem zE193 {T : zTb} {fl : zFl} {M : zM} {pc k n : Nat} {z : Int} {L : List Int} {len : Nat} {st : zS} : zS193 T fl M pc k n z L len st = zstep T fl M pc (zD193 k n z L) len st := by
  unfold zS193 zD193
  cases Nat.blt k 95 with
  | true => exact zE185 (n := n) (z := z) (L := L)
  | false => exact zE192 (n := n) (z := z) (L := L)
theorem zK193 {k n : Nat} {z : Int} {L : List Int} : z_spk (zD193 k n z L) = none := by
  unfold zD193
  cases Nat.blt k 95 with
  | true => exact zK185 (n := n) (z := z) (L := L)
  | false => exact zK192 (n := n) (z := z) (L := L)
def zD194 (k n : Nat) (z : Int) (L : List Int) : Instr := bif Nat.beq k 99 then .new n else .nop
def zS194 (T : zTb) (fl : zFl) (M : zM) (pc k n : Nat) (z : Int) (L : List Int) (len : Nat) (st : zS) : zR := bif Nat.beq k 99 then z_g len 3 (z_new T.1 T.2.2.2.2.1 M.2.2.2.2.2.2.2.1 M.2.2.2.2.2.1 M.2.2.2.2.2.2.1 n st) else none
theorem zE194 {T : zTb} {fl : zFl} {M : zM} {pc k n : Nat} {z : Int} {L : List Int} {len : Nat} {st : zS} : zS194 T fl M pc k n z L len st = zstep T fl M pc (zD194 k n z L) len st := by
  unfold zS194 zD194
  cases Nat.beq k 99 with
  | true => exact rfl
  | false => rfl
theorem zK194 {k n : Nat} {z : Int} {L : List Int} : z_spk (zD194 k n z L) = none := by
  unfold zD194
  cases Nat.beq k 99 with
  | true => rfl
  | false => rfl
def zD195 (k n : Nat) (z : Int) (L : List Int) : Instr := bif Nat.beq k 100 then .anewarray n else .nop
def zS195 (T : zTb) (fl : zFl) (M : zM) (pc k n : Nat) (z : Int) (L : List Int) (len : Nat) (st : zS) : zR := bif Nat.beq k 100 then z_g len 3 (z_anew T.1 T.2.2.2.2.2.1 M.2.2.2.2.2.2.2.1 M.2.2.2.2.2.1 M.2.2.2.2.2.2.1 n st) else none
theorem zE195 {T : zTb} {fl : zFl} {M : zM} {pc k n : Nat} {z : Int} {L : List Int} {len : Nat} {st : zS} : zS195 T fl M pc k n z L len st = zstep T fl M pc (zD195 k n z L) len st := by
  unfold zS195 zD195
  cases Nat.beq k 100 with
  | true => exact rfl
  | false => rfl
theorem zK195 {k n : Nat} {z : Int} {L : List Int} : z_spk (zD195 k n z L) = none := by
  unfold zD195
  cases Nat.beq k 100 with
  | true => rfl
  | false => rfl
def zD196 (k n : Nat) (z : Int) (L : List Int) : Instr := bif Nat.beq k 101 then .newarray .int else .nop
def zS196 (T : zTb) (fl : zFl) (M : zM) (pc k n : Nat) (z : Int) (L : List Int) (len : Nat) (st : zS) : zR := bif Nat.beq k 101 then z_g len 2 (z_newa T.1 M.2.2.2.2.2.1 M.2.2.2.2.2.2.1 .int st) else none
theorem zE196 {T : zTb} {fl : zFl} {M : zM} {pc k n : Nat} {z : Int} {L : List Int} {len : Nat} {st : zS} : zS196 T fl M pc k n z L len st = zstep T fl M pc (zD196 k n z L) len st := by
  unfold zS196 zD196
  cases Nat.beq k 101 with
  | true => exact rfl
  | false => rfl
theorem zK196 {k n : Nat} {z : Int} {L : List Int} : z_spk (zD196 k n z L) = none := by
  unfold zD196
  cases Nat.beq k 101 with
  | true => rfl
  | false => rfl
def zD197 (k n : Nat) (z : Int) (L : List Int) : Instr := bif Nat.blt k 101 then zD195 k n z L else zD196 k n z L
def zS197 (T : zTb) (fl : zFl) (M : zM) (pc k n : Nat) (z : Int) (L : List Int) (len : Nat) (st : zS) : zR := bif Nat.blt k 101 then zS195 T fl M pc k n z L len st else zS196 T fl M pc k n z L len st
theorem zE197 {T : zTb} {fl : zFl} {M : zM} {pc k n : Nat} {z : Int} {L : List Int} {len : Nat} {st : zS} : zS197 T fl M pc k n z L len st = zstep T fl M pc (zD197 k n z L) len st := by
  unfold zS197 zD197
  cases Nat.blt k 101 with
  | true => exact zE195 (n := n) (z := z) (L := L)
  | false => exact zE196 (n := n) (z := z) (L := L)
theorem zK197 {k n : Nat} {z : Int} {L : List Int} : z_spk (zD197 k n z L) = none := by
  unfold zD197
  cases Nat.blt k 101 with
  | true => exact zK195 (n := n) (z := z) (L := L)
  | false => exact zK196 (n := n) (z := z) (L := L)
def zD198 (k n : Nat) (z : Int) (L : List Int) : Instr := bif Nat.blt k 100 then zD194 k n z L else zD197 k n z L
def zS198 (T : zTb) (fl : zFl) (M : zM) (pc k n : Nat) (z : Int) (L : List Int) (len : Nat) (st : zS) : zR := bif Nat.blt k 100 then zS194 T fl M pc k n z L len st else zS197 T fl M pc k n z L len st
theorem zE198 {T : zTb} {fl : zFl} {M : zM} {pc k n : Nat} {z : Int} {L : List Int} {len : Nat} {st : zS} : zS198 T fl M pc k n z L len st = zstep T fl M pc (zD198 k n z L) len st := by
  unfold zS198 zD198
  cases Nat.blt k 100 with
  | true => exact zE194 (n := n) (z := z) (L := L)
  | false => exact zE197 (n := n) (z := z) (L := L)
theorem zK198 {k n : Nat} {z : Int} {L : List Int} : z_spk (zD198 k n z L) = none := by
  unfold zD198
  cases Nat.blt k 100 with
  | true => exact zK194 (n := n) (z := z) (L := L)
  | false => exact zK197 (n := n) (z := z) (L := L)
def zD199 (k n : Nat) (z : Int) (L : List Int) : Instr := bif Nat.beq k 102 then .newarray .long else .nop
def zS199 (T : zTb) (fl : zFl) (M : zM) (pc k n : Nat) (z : Int) (L : List Int) (len : Nat) (st : zS) : zR := bif Nat.beq k 102 then z_g len 2 (z_newa T.1 M.2.2.2.2.2.1 M.2.2.2.2.2.2.1 .long st) else none
theorem zE199 {T : zTb} {fl : zFl} {M : zM} {pc k n : Nat} {z : Int} {L : List Int} {len : Nat} {st : zS} : zS199 T fl M pc k n z L len st = zstep T fl M pc (zD199 k n z L) len st := by
  unfold zS199 zD199
  cases Nat.beq k 102 with
  | true => exact rfl
  | false => rfl
theorem zK199 {k n : Nat} {z : Int} {L : List Int} : z_spk (zD199 k n z L) = none := by
  unfold zD199
  cases Nat.beq k 102 with
  | true => rfl
  | false => rfl
def zD200 (k n : Nat) (z : Int) (L : List Int) : Instr := bif Nat.beq k 103 then .newarray .byte else .nop
def zS200 (T : zTb) (fl : zFl) (M : zM) (pc k n : Nat) (z : Int) (L : List Int) (len : Nat) (st : zS) : zR := bif Nat.beq k 103 then z_g len 2 (z_newa T.1 M.2.2.2.2.2.1 M.2.2.2.2.2.2.1 .byte st) else none
theorem zE200 {T : zTb} {fl : zFl} {M : zM} {pc k n : Nat} {z : Int} {L : List Int} {len : Nat} {st : zS} : zS200 T fl M pc k n z L len st = zstep T fl M pc (zD200 k n z L) len st := by
  unfold zS200 zD200
  cases Nat.beq k 103 with
  | true => exact rfl
  | false => rfl
theorem zK200 {k n : Nat} {z : Int} {L : List Int} : z_spk (zD200 k n z L) = none := by
  unfold zD200
  cases Nat.beq k 103 with
  | true => rfl
  | false => rfl
def zD201 (k n : Nat) (z : Int) (L : List Int) : Instr := bif Nat.blt k 103 then zD199 k n z L else zD200 k n z L
def zS201 (T : zTb) (fl : zFl) (M : zM) (pc k n : Nat) (z : Int) (L : List Int) (len : Nat) (st : zS) : zR := bif Nat.blt k 103 then zS199 T fl M pc k n z L len st else zS200 T fl M pc k n z L len st
theorem zE201 {T : zTb} {fl : zFl} {M : zM} {pc k n : Nat} {z : Int} {L : List Int} {len : Nat} {st : zS} : zS201 T fl M pc k n z L len st = zstep T fl M pc (zD201 k n z L) len st := by
  unfold zS201 zD201
  cases Nat.blt k 103 with
  | true => exact zE199 (n := n) (z := z) (L := L)
  | false => exact zE200 (n := n) (z := z) (L := L)
theorem zK201 {k n : Nat} {z : Int} {L : List Int} : z_spk (zD201 k n z L) = none := by
  unfold zD201
  cases Nat.blt k 103 with
  | true => exact zK199 (n := n) (z := z) (L := L)
  | false => exact zK200 (n := n) (z := z) (L := L)
def zD202 (k n : Nat) (z : Int) (L : List Int) : Instr := bif Nat.beq k 104 then .newarray .boolean else .nop
def zS202 (T : zTb) (fl : zFl) (M : zM) (pc k n : Nat) (z : Int) (L : List Int) (len : Nat) (st : zS) : zR := bif Nat.beq k 104 then z_g len 2 (z_newa T.1 M.2.2.2.2.2.1 M.2.2.2.2.2.2.1 .boolean st) else none
theorem zE202 {T : zTb} {fl : zFl} {M : zM} {pc k n : Nat} {z : Int} {L : List Int} {len : Nat} {st : zS} : zS202 T fl M pc k n z L len st = zstep T fl M pc (zD202 k n z L) len st := by
  unfold zS202 zD202
  cases Nat.beq k 104 with
  | true => exact rfl
  | false => rfl
theorem zK202 {k n : Nat} {z : Int} {L : List Int} : z_spk (zD202 k n z L) = none := by
  unfold zD202
  cases Nat.beq k 104 with
  | true => rfl
  | false => rfl
def zD203 (k n : Nat) (z : Int) (L : List Int) : Instr := bif Nat.beq k 105 then .multianewarray n 2 else .nop
def zS203 (T : zTb) (fl : zFl) (M : zM) (pc k n : Nat) (z : Int) (L : List Int) (len : Nat) (st : zS) : zR := bif Nat.beq k 105 then z_g len 4 (z_mna T.1 T.2.2.2.2.2.2.1 M.2.2.2.2.2.2.2.1 M.2.2.2.2.2.1 M.2.2.2.2.2.2.1 n st) else none
theorem zE203 {T : zTb} {fl : zFl} {M : zM} {pc k n : Nat} {z : Int} {L : List Int} {len : Nat} {st : zS} : zS203 T fl M pc k n z L len st = zstep T fl M pc (zD203 k n z L) len st := by
  unfold zS203 zD203
  cases Nat.beq k 105 with
  | true => exact rfl
  | false => rfl
theorem zK203 {k n : Nat} {z : Int} {L : List Int} : z_spk (zD203 k n z L) = none := by
  unfold zD203
  cases Nat.beq k 105 with
  | true => rfl
  | false => rfl
def zD204 (k n : Nat) (z : Int) (L : List Int) : Instr := bif Nat.blt k 105 then zD202 k n z L else zD203 k n z L
def zS204 (T : zTb) (fl : zFl) (M : zM) (pc k n : Nat) (z : Int) (L : List Int) (len : Nat) (st : zS) : zR := bif Nat.blt k 105 then zS202 T fl M pc k n z L len st else zS203 T fl M pc k n z L len st
theorem zE204 {T : zTb} {fl : zFl} {M : zM} {pc k n : Nat} {z : Int} {L : List Int} {len : Nat} {st : zS} : zS204 T fl M pc k n z L len st = zstep T fl M pc (zD204 k n z L) len st := by
  unfold zS204 zD204
  cases Nat.blt k 105 with
  | true => exact zE202 (n := n) (z := z) (L := L)
  | false => exact zE203 (n := n) (z := z) (L := L)
theorem zK204 {k n : Nat} {z : Int} {L : List Int} : z_spk (zD204 k n z L) = none := by
  unfold zD204
  cases Nat.blt k 105 with
  | true => exact zK202 (n := n) (z := z) (L := L)
  | false => exact zK203 (n := n) (z := z) (L := L)
def zD205 (k n : Nat) (z : Int) (L : List Int) : Instr := bif Nat.blt k 104 then zD201 k n z L else zD204 k n z L
def zS205 (T : zTb) (fl : zFl) (M : zM) (pc k n : Nat) (z : Int) (L : List Int) (len : Nat) (st : zS) : zR := bif Nat.blt k 104 then zS201 T fl M pc k n z L len st else zS204 T fl M pc k n z L len st
theorem zE205 {T : zTb} {fl : zFl} {M : zM} {pc k n : Nat} {z : Int} {L : List Int} {len : Nat} {st : zS} : zS205 T fl M pc k n z L len st = zstep T fl M pc (zD205 k n z L) len st := by
  unfold zS205 zD205
  cases Nat.blt k 104 with
  | true => exact zE201 (n := n) (z := z) (L := L)
  | false => exact zE204 (n := n) (z := z) (L := L)
theorem zK205 {k n : Nat} {z : Int} {L : List Int} : z_spk (zD205 k n z L) = none := by
  unfold zD205
  cases Nat.blt k 104 with
  | true => exact zK201 (n := n) (z := z) (L := L)
  | false => exact zK204 (n := n) (z := z) (L := L)
def zD206 (k n : Nat) (z : Int) (L : List Int) : Instr := bif Nat.blt k 102 then zD198 k n z L else zD205 k n z L
def zS206 (T : zTb) (fl : zFl) (M : zM) (pc k n : Nat) (z : Int) (L : List Int) (len : Nat) (st : zS) : zR := bif Nat.blt k 102 then zS198 T fl M pc k n z L len st else zS205 T fl M pc k n z L len st
theorem zE206 {T : zTb} {fl : zFl} {M : zM} {pc k n : Nat} {z : Int} {L : List Int} {len : Nat} {st : zS} : zS206 T fl M pc k n z L len st = zstep T fl M pc (zD206 k n z L) len st := by
  unfold zS206 zD206
  cases Nat.blt k 102 with
  | true => exact zE198 (n := n) (z := z) (L := L)
  | false => exact zE205 (n := n) (z := z) (L := L)
theorem zK206 {k n : Nat} {z : Int} {L : List Int} : z_spk (zD206 k n z L) = none := by
  unfold zD206
  cases Nat.blt k 102 with
  | true => exact zK198 (n := n) (z := z) (L := L)
  | false => exact zK205 (n := n) (z := z) (L := L)
def zD207 (k n : Nat) (z : Int) (L : List Int) : Instr := bif Nat.blt k 99 then zD193 k n z L else zD206 k n z L
def zS207 (T : zTb) (fl : zFl) (M : zM) (pc k n : Nat) (z : Int) (L : List Int) (len : Nat) (st : zS) : zR := bif Nat.blt k 99 then zS193 T fl M pc k n z L len st else zS206 T fl M pc k n z L len st
theorem zE207 {T : zTb} {fl : zFl} {M : zM} {pc k n : Nat} {z : Int} {L : List Int} {len : Nat} {st : zS} : zS207 T fl M pc k n z L len st = zstep T fl M pc (zD207 k n z L) len st := by
  unfold zS207 zD207
  cases Nat.blt k 99 with
  | true => exact zE193 (n := n) (z := z) (L := L)
  | false => exact zE206 (n := n) (z := z) (L := L)
theorem zK207 {k n : Nat} {z : Int} {L : List Int} : z_spk (zD207 k n z L) = none := by
  unfold zD207
  cases Nat.blt k 99 with
  | true => exact zK193 (n := n) (z := z) (L := L)
  | false => exact zK206 (n := n) (z := z) (L := L)
def zD208 (k n : Nat) (z : Int) (L : List Int) : Instr := bif Nat.blt k 92 then zD180 k n z L else zD207 k n z L
def zS208 (T : zTb) (fl : zFl) (M : zM) (pc k n : Nat) (z : Int) (L : List Int) (len : Nat) (st : zS) : zR := bif Nat.blt k 92 then zS180 T fl M pc k n z L len st else zS207 T fl M pc k n z L len st
theorem zE208 {T : zTb} {fl : zFl} {M : zM} {pc k n : Nat} {z : Int} {L : List Int} {len : Nat} {st : zS} : zS208 T fl M pc k n z L len st = zstep T fl M pc (zD208 k n z L) len st := by
  unfold zS208 zD208
  cases Nat.blt k 92 with
  | true => exact zE180 (n := n) (z := z) (L := L)
  | false => exact zE207 (n := n) (z := z) (L := L)
theorem zK208 {k n : Nat} {z : Int} {L : List Int} : z_spk (zD208 k n z L) = none := by
  unfold zD208
  cases Nat.blt k 92 with
  | true => exact zK180 (n := n) (z := z) (L := L)
  | false => exact zK207 (n := n) (z := z) (L := L)
def zD209 (k n : Nat) (z : Int) (L : List Int) : Instr := bif Nat.blt k 79 then zD155 k n z L else zD208 k n z L
def zS209 (T : zTb) (fl : zFl) (M : zM) (pc k n : Nat) (z : Int) (L : List Int) (len : Nat) (st : zS) : zR := bif Nat.blt k 79 then zS155 T fl M pc k n z L len st else zS208 T fl M pc k n z L len st
theorem zE209 {T : zTb} {fl : zFl} {M : zM} {pc k n : Nat} {z : Int} {L : List Int} {len : Nat} {st : zS} : zS209 T fl M pc k n z L len st = zstep T fl M pc (zD209 k n z L) len st := by
  unfold zS209 zD209
  cases Nat.blt k 79 with
  | true => exact zE155 (n := n) (z := z) (L := L)
  | false => exact zE208 (n := n) (z := z) (L := L)
theorem zK209 {k n : Nat} {z : Int} {L : List Int} : z_spk (zD209 k n z L) = none := by
  unfold zD209
  cases Nat.blt k 79 with
  | true => exact zK155 (n := n) (z := z) (L := L)
  | false => exact zK208 (n := n) (z := z) (L := L)
def zD210 (k n : Nat) (z : Int) (L : List Int) : Instr := bif Nat.blt k 53 then zD104 k n z L else zD209 k n z L
def zS210 (T : zTb) (fl : zFl) (M : zM) (pc k n : Nat) (z : Int) (L : List Int) (len : Nat) (st : zS) : zR := bif Nat.blt k 53 then zS104 T fl M pc k n z L len st else zS209 T fl M pc k n z L len st
theorem zE210 {T : zTb} {fl : zFl} {M : zM} {pc k n : Nat} {z : Int} {L : List Int} {len : Nat} {st : zS} : zS210 T fl M pc k n z L len st = zstep T fl M pc (zD210 k n z L) len st := by
  unfold zS210 zD210
  cases Nat.blt k 53 with
  | true => exact zE104 (n := n) (z := z) (L := L)
  | false => exact zE209 (n := n) (z := z) (L := L)
theorem zK210 {k n : Nat} {z : Int} {L : List Int} : z_spk (zD210 k n z L) = none := by
  unfold zD210
  cases Nat.blt k 53 with
  | true => exact zK104 (n := n) (z := z) (L := L)
  | false => exact zK209 (n := n) (z := z) (L := L)
def zD211 (k n : Nat) (z : Int) (L : List Int) : Instr := bif Nat.beq k 106 then .return_ else .nop
def zS211 (T : zTb) (fl : zFl) (M : zM) (pc k n : Nat) (z : Int) (L : List Int) (len : Nat) (st : zS) : zR := bif Nat.beq k 106 then none else none
theorem zE211 {T : zTb} {fl : zFl} {M : zM} {pc k n : Nat} {z : Int} {L : List Int} {len : Nat} {st : zS} : zS211 T fl M pc k n z L len st = zstep T fl M pc (zD211 k n z L) len st := by
  unfold zS211 zD211
  cases Nat.beq k 106 with
  | true => exact rfl
  | false => rfl
theorem zK211 {k n : Nat} {z : Int} {L : List Int} : z_spk (zD211 k n z L) = bif Nat.beq k 106 then some (0, 0) else none := by
  unfold zD211
  cases Nat.beq k 106 with
  | true => rfl
  | false => rfl
def zR211 (k n : Nat) : Option (Nat × Nat) := bif Nat.beq k 106 then some (0, 0) else none
def zD212 (k n : Nat) (z : Int) (L : List Int) : Instr := bif Nat.beq k 107 then .ireturn else .nop
def zS212 (T : zTb) (fl : zFl) (M : zM) (pc k n : Nat) (z : Int) (L : List Int) (len : Nat) (st : zS) : zR := bif Nat.beq k 107 then none else none
theorem zE212 {T : zTb} {fl : zFl} {M : zM} {pc k n : Nat} {z : Int} {L : List Int} {len : Nat} {st : zS} : zS212 T fl M pc k n z L len st = zstep T fl M pc (zD212 k n z L) len st := by
  unfold zS212 zD212
  cases Nat.beq k 107 with
  | true => exact rfl
  | false => rfl
theorem zK212 {k n : Nat} {z : Int} {L : List Int} : z_spk (zD212 k n z L) = bif Nat.beq k 107 then some (1, 0) else none := by
  unfold zD212
  cases Nat.beq k 107 with
  | true => rfl
  | false => rfl
def zR212 (k n : Nat) : Option (Nat × Nat) := bif Nat.beq k 107 then some (1, 0) else none
def zD213 (k n : Nat) (z : Int) (L : List Int) : Instr := bif Nat.beq k 108 then .lreturn else .nop
def zS213 (T : zTb) (fl : zFl) (M : zM) (pc k n : Nat) (z : Int) (L : List Int) (len : Nat) (st : zS) : zR := bif Nat.beq k 108 then none else none
theorem zE213 {T : zTb} {fl : zFl} {M : zM} {pc k n : Nat} {z : Int} {L : List Int} {len : Nat} {st : zS} : zS213 T fl M pc k n z L len st = zstep T fl M pc (zD213 k n z L) len st := by
  unfold zS213 zD213
  cases Nat.beq k 108 with
  | true => exact rfl
  | false => rfl
theorem zK213 {k n : Nat} {z : Int} {L : List Int} : z_spk (zD213 k n z L) = bif Nat.beq k 108 then some (2, 0) else none := by
  unfold zD213
  cases Nat.beq k 108 with
  | true => rfl
  | false => rfl
def zR213 (k n : Nat) : Option (Nat × Nat) := bif Nat.beq k 108 then some (2, 0) else none
def zD214 (k n : Nat) (z : Int) (L : List Int) : Instr := bif Nat.blt k 108 then zD212 k n z L else zD213 k n z L
def zS214 (T : zTb) (fl : zFl) (M : zM) (pc k n : Nat) (z : Int) (L : List Int) (len : Nat) (st : zS) : zR := bif Nat.blt k 108 then zS212 T fl M pc k n z L len st else zS213 T fl M pc k n z L len st
theorem zE214 {T : zTb} {fl : zFl} {M : zM} {pc k n : Nat} {z : Int} {L : List Int} {len : Nat} {st : zS} : zS214 T fl M pc k n z L len st = zstep T fl M pc (zD214 k n z L) len st := by
  unfold zS214 zD214
  cases Nat.blt k 108 with
  | true => exact zE212 (n := n) (z := z) (L := L)
  | false => exact zE213 (n := n) (z := z) (L := L)
def zR214 (k n : Nat) : Option (Nat × Nat) := bif Nat.blt k 108 then zR212 k n else zR213 k n
theorem zK214 {k n : Nat} {z : Int} {L : List Int} : z_spk (zD214 k n z L) = zR214 k n := by
  unfold zD214 zR214
  cases Nat.blt k 108 with
  | true => exact zK212 (n := n) (z := z) (L := L)
  | false => exact zK213 (n := n) (z := z) (L := L)
def zD215 (k n : Nat) (z : Int) (L : List Int) : Instr := bif Nat.blt k 107 then zD211 k n z L else zD214 k n z L
def zS215 (T : zTb) (fl : zFl) (M : zM) (pc k n : Nat) (z : Int) (L : List Int) (len : Nat) (st : zS) : zR := bif Nat.blt k 107 then zS211 T fl M pc k n z L len st else zS214 T fl M pc k n z L len st
theorem zE215 {T : zTb} {fl : zFl} {M : zM} {pc k n : Nat} {z : Int} {L : List Int} {len : Nat} {st : zS} : zS215 T fl M pc k n z L len st = zstep T fl M pc (zD215 k n z L) len st := by
  unfold zS215 zD215
  cases Nat.blt k 107 with
  | true => exact zE211 (n := n) (z := z) (L := L)
  | false => exact zE214 (n := n) (z := z) (L := L)
def zR215 (k n : Nat) : Option (Nat × Nat) := bif Nat.blt k 107 then zR211 k n else zR214 k n
theorem zK215 {k n : Nat} {z : Int} {L : List Int} : z_spk (zD215 k n z L) = zR215 k n := by
  unfold zD215 zR215
  cases Nat.blt k 107 with
  | true => exact zK211 (n := n) (z := z) (L := L)
  | false => exact zK214 (n := n) (z := z) (L := L)
def zD216 (k n : Nat) (z : Int) (L : List Int) : Instr := bif Nat.beq k 109 then .invokevirtual n else .nop
def zS216 (T : zTb) (fl : zFl) (M : zM) (pc k n : Nat) (z : Int) (L : List Int) (len : Nat) (st : zS) : zR := bif Nat.beq k 109 then none else none
theorem zE216 {T : zTb} {fl : zFl} {M : zM} {pc k n : Nat} {z : Int} {L : List Int} {len : Nat} {st : zS} : zS216 T fl M pc k n z L len st = zstep T fl M pc (zD216 k n z L) len st := by
  unfold zS216 zD216
  cases Nat.beq k 109 with
  | true => exact rfl
  | false => rfl
theorem zK216 {k n : Nat} {z : Int} {L : List Int} : z_spk (zD216 k n z L) = bif Nat.beq k 109 then some (4, n) else none := by
  unfold zD216
  cases Nat.beq k 109 with
  | true => rfl
  | false => rfl
def zR216 (k n : Nat) : Option (Nat × Nat) := bif Nat.beq k 109 then some (4, n) else none
def zD217 (k n : Nat) (z : Int) (L : List Int) : Instr := bif Nat.beq k 110 then .invokestatic n else .nop
def zS217 (T : zTb) (fl : zFl) (M : zM) (pc k n : Nat) (z : Int) (L : List Int) (len : Nat) (st : zS) : zR := bif Nat.beq k 110 then none else none
theorem zE217 {T : zTb} {fl : zFl} {M : zM} {pc k n : Nat} {z : Int} {L : List Int} {len : Nat} {st : zS} : zS217 T fl M pc k n z L len st = zstep T fl M pc (zD217 k n z L) len st := by
  unfold zS217 zD217
  cases Nat.beq k 110 with
  | true => exact rfl
  | false => rfl
theorem zK217 {k n : Nat} {z : Int} {L : List Int} : z_spk (zD217 k n z L) = bif Nat.beq k 110 then some (5, n) else none := by
  unfold zD217
  cases Nat.beq k 110 with
  | true => rfl
  | false => rfl
def zR217 (k n : Nat) : Option (Nat × Nat) := bif Nat.beq k 110 then some (5, n) else none
def zD218 (k n : Nat) (z : Int) (L : List Int) : Instr := bif Nat.beq k 111 then .invokespecial n else .nop
def zS218 (T : zTb) (fl : zFl) (M : zM) (pc k n : Nat) (z : Int) (L : List Int) (len : Nat) (st : zS) : zR := bif Nat.beq k 111 then none else none
theorem zE218 {T : zTb} {fl : zFl} {M : zM} {pc k n : Nat} {z : Int} {L : List Int} {len : Nat} {st : zS} : zS218 T fl M pc k n z L len st = zstep T fl M pc (zD218 k n z L) len st := by
  unfold zS218 zD218
  cases Nat.beq k 111 with
  | true => exact rfl
  | false => rfl
theorem zK218 {k n : Nat} {z : Int} {L : List Int} : z_spk (zD218 k n z L) = bif Nat.beq k 111 then some (6, n) else none := by
  unfold zD218
  cases Nat.beq k 111 with
  | true => rfl
  | false => rfl
def zR218 (k n : Nat) : Option (Nat × Nat) := bif Nat.beq k 111 then some (6, n) else none
def zD219 (k n : Nat) (z : Int) (L : List Int) : Instr := bif Nat.blt k 111 then zD217 k n z L else zD218 k n z L
def zS219 (T : zTb) (fl : zFl) (M : zM) (pc k n : Nat) (z : Int) (L : List Int) (len : Nat) (st : zS) : zR := bif Nat.blt k 111 then zS217 T fl M pc k n z L len st else zS218 T fl M pc k n z L len st
theorem zE219 {T : zTb} {fl : zFl} {M : zM} {pc k n : Nat} {z : Int} {L : List Int} {len : Nat} {st : zS} : zS219 T fl M pc k n z L len st = zstep T fl M pc (zD219 k n z L) len st := by
  unfold zS219 zD219
  cases Nat.blt k 111 with
  | true => exact zE217 (n := n) (z := z) (L := L)
  | false => exact zE218 (n := n) (z := z) (L := L)
def zR219 (k n : Nat) : Option (Nat × Nat) := bif Nat.blt k 111 then zR217 k n else zR218 k n
theorem zK219 {k n : Nat} {z : Int} {L : List Int} : z_spk (zD219 k n z L) = zR219 k n := by
  unfold zD219 zR219
  cases Nat.blt k 111 with
  | true => exact zK217 (n := n) (z := z) (L := L)
  | false => exact zK218 (n := n) (z := z) (L := L)
def zD220 (k n : Nat) (z : Int) (L : List Int) : Instr := bif Nat.blt k 110 then zD216 k n z L else zD219 k n z L
def zS220 (T : zTb) (fl : zFl) (M : zM) (pc k n : Nat) (z : Int) (L : List Int) (len : Nat) (st : zS) : zR := bif Nat.blt k 110 then zS216 T fl M pc k n z L len st else zS219 T fl M pc k n z L len st
theorem zE220 {T : zTb} {fl : zFl} {M : zM} {pc k n : Nat} {z : Int} {L : List Int} {len : Nat} {st : zS} : zS220 T fl M pc k n z L len st = zstep T fl M pc (zD220 k n z L) len st := by
  unfold zS220 zD220
  cases Nat.blt k 110 with
  | true => exact zE216 (n := n) (z := z) (L := L)
  | false => exact zE219 (n := n) (z := z) (L := L)
def zR220 (k n : Nat) : Option (Nat × Nat) := bif Nat.blt k 110 then zR216 k n else zR219 k n
theorem zK220 {k n : Nat} {z : Int} {L : List Int} : z_spk (zD220 k n z L) = zR220 k n := by
  unfold zD220 zR220
  cases Nat.blt k 110 with
  | true => exact zK216 (n := n) (z := z) (L := L)
  | false => exact zK219 (n := n) (z := z) (L := L)
def zD221 (k n : Nat) (z : Int) (L : List Int) : Instr := bif Nat.blt k 109 then zD215 k n z L else zD220 k n z L
def zS221 (T : zTb) (fl : zFl) (M : zM) (pc k n : Nat) (z : Int) (L : List Int) (len : Nat) (st : zS) : zR := bif Nat.blt k 109 then zS215 T fl M pc k n z L len st else zS220 T fl M pc k n z L len st
theorem zE221 {T : zTb} {fl : zFl} {M : zM} {pc k n : Nat} {z : Int} {L : List Int} {len : Nat} {st : zS} : zS221 T fl M pc k n z L len st = zstep T fl M pc (zD221 k n z L) len st := by
  unfold zS221 zD221
  cases Nat.blt k 109 with
  | true => exact zE215 (n := n) (z := z) (L := L)
  | false => exact zE220 (n := n) (z := z) (L := L)
def zR221 (k n : Nat) : Option (Nat × Nat) := bif Nat.blt k 109 then zR215 k n else zR220 k n
theorem zK221 {k n : Nat} {z : Int} {L : List Int} : z_spk (zD221 k n z L) = zR221 k n := by
  unfold zD221 zR221
  cases Nat.blt k 109 with
  | true => exact zK215 (n := n) (z := z) (L := L)
  | false => exact zK220 (n := n) (z := z) (L := L)
def zD222 (k n : Nat) (z : Int) (L : List Int) : Instr := bif Nat.blt k 106 then zD210 k n z L else zD221 k n z L
def zS222 (T : zTb) (fl : zFl) (M : zM) (pc k n : Nat) (z : Int) (L : List Int) (len : Nat) (st : zS) : zR := bif Nat.blt k 106 then zS210 T fl M pc k n z L len st else zS221 T fl M pc k n z L len st
theorem zE222 {T : zTb} {fl : zFl} {M : zM} {pc k n : Nat} {z : Int} {L : List Int} {len : Nat} {st : zS} : zS222 T fl M pc k n z L len st = zstep T fl M pc (zD222 k n z L) len st := by
  unfold zS222 zD222
  cases Nat.blt k 106 with
  | true => exact zE210 (n := n) (z := z) (L := L)
  | false => exact zE221 (n := n) (z := z) (L := L)
def zR222 (k n : Nat) : Option (Nat × Nat) := bif Nat.blt k 106 then none else zR221 k n
theorem zK222 {k n : Nat} {z : Int} {L : List Int} : z_spk (zD222 k n z L) = zR222 k n := by
  unfold zD222 zR222
  cases Nat.blt k 106 with
  | true => exact zK210 (n := n) (z := z) (L := L)
  | false => exact zK221 (n := n) (z := z) (L := L)
def zdec (o : zQ) : Instr := zD222 o.1 o.2.1 o.2.2.1 o.2.2.2
def zstepC (T : zTb) (fl : zFl) (M : zM) (pc : Nat) (o : zQ) (len : Nat) (st : zS) : zR := match o with
  | (k, n, z, L) => zS222 T fl M pc k n z L len st
def z_spkC (o : zQ) : Option (Nat × Nat) := match o with
  | (k, n, _, _) => zR222 k n
theorem zstepC_eq {T : zTb} {fl : zFl} {M : zM} {pc : Nat} {o : zQ} {len : Nat} {st : zS} : zstepC T fl M pc o len st = zstep T fl M pc (zdec o) len st := zE222 (n := o.2.1) (z := o.2.2.1) (L := o.2.2.2)
theorem z_spkC_eq {o : zQ} : z_spkC o = z_spk (zdec o) := (zK222 (n := o.2.1) (z := o.2.2.1) (L := o.2.2.2)).symm
