/-! the machine's own form of a rest -/
theorem z_remI (a b : Int32) : (a - a / b * b).toInt = a.toInt.tmod b.toInt := by
  have ha := z_r32 a
  have e : a.toInt - a.toInt.tdiv b.toInt * b.toInt = a.toInt.tmod b.toInt := by
    have := Int.mul_tdiv_add_tmod a.toInt b.toInt
    rw [Int.mul_comm] at this
    omega
  rw [Int32.toInt_sub, Int32.toInt_mul, Int32.toInt_div, Int.bmod_mul_bmod, Int.sub_bmod_bmod, e]
  by_cases h0 : b.toInt = 0
  · rw [h0, Int.tmod_zero]
    exact z_bm32 ha.1 ha.2
  · have t := z_tm_bd (x := a.toInt) h0
    rcases Int.le_total 0 a.toInt with h | h
    · have := t.1 h
      exact z_bm32 (by omega) (by omega)
    · have := t.2.1 h
      exact z_bm32 (by omega) (by omega)
theorem z_remL (a b : Int64) : (a - a / b * b).toInt = a.toInt.tmod b.toInt := by
  have ha := z_r64 a
  have e : a.toInt - a.toInt.tdiv b.toInt * b.toInt = a.toInt.tmod b.toInt := by
    have := Int.mul_tdiv_add_tmod a.toInt b.toInt
    rw [Int.mul_comm] at this
    omega
  rw [Int64.toInt_sub, Int64.toInt_mul, Int64.toInt_div, Int.bmod_mul_bmod, Int.sub_bmod_bmod, e]
  by_cases h0 : b.toInt = 0
  · rw [h0, Int.tmod_zero]
    exact z_bm64 ha.1 ha.2
  · have t := z_tm_bd (x := a.toInt) h0
    rcases Int.le_total 0 a.toInt with h | h
    · have := t.1 h
      exact z_bm64 (by omega) (by omega)
    · have := t.2.1 h
      exact z_bm64 (by omega) (by omega)
theorem zb_irem3 : zBi (fun a b => a - a / b * b) (z_rem 0) := by
  intro iv x y r ρ X Y h hi hx hy eX eY
  exact z_rm_core 0 h hi hy (by show (X - X / Y * Y).toInt = _; rw [z_remI, eX, eY])
theorem zb_lrem3 : zBl (fun a b => a - a / b * b) (z_rem 1) := by
  intro iv x y r ρ X Y h hi hx hy eX eY
  exact z_rm_core 1 h hi hy (by show (X - X / Y * Y).toInt = _; rw [z_remL, eX, eY])
theorem z_nzD {iv : zI} {x y : zV} {ρ : Nat → Int} {k : Nat} (h : z_div k iv x y ≠ none) (hi : ziv iv ρ) : z_val ρ y ≠ 0 := by
  unfold z_div at h
  split at h
  next a b e1 e2 =>
    have b2 := z_bd_ok e2 hi
    split at h
    next => omega
    next =>
      split at h
      next => omega
      next =>
        split at h
        next => omega
        next => exact absurd rfl h
  next => exact absurd rfl h
theorem z_nzR {iv : zI} {x y : zV} {ρ : Nat → Int} {k : Nat} (h : z_rem k iv x y ≠ none) (hi : ziv iv ρ) : z_val ρ y ≠ 0 := by
  unfold z_rem at h
  split at h
  next a b e1 e2 =>
    have b2 := z_bd_ok e2 hi
    split at h
    next q => have := q.2.2; omega
    next =>
      split at h
      next => omega
      next =>
        split at h
        next => omega
        next => exact absurd rfl h
  next => exact absurd rfl h
theorem zb_iaddE : zBi (fun a b => a + b) (z_em 0 (z_add2 0)) := zb_em (k := 0) (op := fun a b => a + b) (fun _ _ => rfl) zb_iadd2
theorem zb_isubE : zBi (fun a b => a - b) (z_em 1 (z_sub2 0)) := zb_em (k := 1) (op := fun a b => a - b) (fun _ _ => rfl) zb_isub2
theorem zb_imulE : zBi (fun a b => a * b) (z_em 2 (z_mul 0 (fun a b => (Int32.ofInt a * Int32.ofInt b).toInt))) := zb_em (k := 2) (op := fun a b => a * b) (fun _ _ => rfl) zb_imul2
theorem zb_iandE : zBi (fun a b => a &&& b) (z_em 3 (z_and (fun a b => (Int32.ofInt a &&& Int32.ofInt b).toInt))) := zb_em (k := 3) (op := fun a b => a &&& b) (fun _ _ => rfl) zb_iand2
