/-! ===== does a value keep a place's bounds, of whatever kind ===== -/
def z_kq (iv : zI) (n : Nat) (sp : Option (Nat × Int × Int)) (v : zV) : Bool := match sp with
  | some (0, lo, hi) => if v.1 = 0 then (match z_bd iv v with
    | some w => decide (lo ≤ w.1 ∧ w.2 ≤ hi)
    | none => false) else false
  | some (1, lo, hi) => if v.1 = 1 then (match z_bd iv v with
    | some w => decide (lo ≤ w.1 ∧ w.2 ≤ hi)
    | none => false) else false
  | some (5, _, _) => if v.1 = 0 then (match z_bd iv v with
    | some w => decide ((0 ≤ w.1 ∧ w.2 ≤ 589013) ∨ (10000000 ≤ w.1 ∧ w.2 ≤ 13040013)) || (decide (v.2.2 = 0) && iv.fs.2.2.2.any (fun d => Nat.beq d.1.1 v.2.1 && (Nat.beq d.2.1 v.2.1 && decide (d.1.2 = (0, 589013) ∧ d.2.2 = (10000000, 13040013)))))
    | none => false) else false
  | some (6, q, _) => if v.1 = 2 then Nat.beq q.toNat v.2.1 && Nat.blt v.2.1 n else false
  | _ => true
theorem z_kq_ok {iv : zI} {ρ : Nat → Int} {n : Nat} {sp : Option (Nat × Int × Int)} {v : zV} {ad : Nat → Nat} {b : Nat → Nat} (hi : ziv iv ρ) (hv : zok n iv ρ v) (h : z_kq iv n sp v = true) : z_spv n ad sp (zcv ad b ρ v) := by
  unfold z_kq at h
  unfold z_spv
  split at h
  next lo hi' =>
    split at h
    next e =>
      split at h
      next w hw =>
        have hb := z_bd_ok hw hi
        have h1 := of_decide_eq_true h
        have o := z_ok0 hv e
        refine ⟨_, z_cv0 e ad b ρ, ?_⟩
        rw [z_i32 o.2.1 o.2.2]
        omega
      next => cases h
    next => cases h
  next lo hi' =>
    split at h
    next e =>
      split at h
      next w hw =>
        have hb := z_bd_ok hw hi
        have h1 := of_decide_eq_true h
        have o := z_ok1 hv e
        refine ⟨_, z_cv1 e ad b ρ, ?_⟩
        rw [z_i64 o.2.1 o.2.2]
        omega
      next => cases h
    next => cases h
  next =>
    split at h
    next e =>
      split at h
      next w hw =>
        have hb := z_bd_ok hw hi
        have o := z_ok0 hv e
        refine ⟨_, z_cv0 e ad b ρ, ?_⟩
        rw [z_i32 o.2.1 o.2.2]
        rcases Bool.or_eq_true _ _ ▸ h with h1 | h1
        · have h2 := of_decide_eq_true h1
          unfold z_act
          omega
        · rw [Bool.and_eq_true] at h1
          have h2 := of_decide_eq_true h1.1
          obtain ⟨k, hk, hk2⟩ := List.any_eq_true.mp h1.2
          rw [Bool.and_eq_true, Bool.and_eq_true] at hk2
          have ek := Nat.eq_of_beq_eq_true hk2.1
          have ek2 := Nat.eq_of_beq_eq_true hk2.2.1
          obtain ⟨ek3, ek4⟩ := of_decide_eq_true hk2.2.2
          have t := (hi.2.2.2.2.2 _ hk).2
          unfold zDjp at t
          rw [ek, ek2, ek3, ek4] at t
          unfold z_val
          rw [h2, Int.add_zero]
          exact t
      next => cases h
    next => cases h
  next q _ =>
    split at h
    next e =>
      rw [Bool.and_eq_true] at h
      have e2 : q.toNat = v.2.1 := Nat.eq_of_beq_eq_true h.1
      refine ⟨by rw [e2]; exact Nat.le_of_ble_eq_true h.2, ?_⟩
      rw [z_cv2 e, e2]
    next => cases h
  next h0 h1 h5 h6 =>
    split
    next => exact absurd rfl (h0 _ _)
    next => exact absurd rfl (h1 _ _)
    next => exact absurd rfl (h5 _ _)
    next => exact absurd rfl (h6 _ _)
    next => exact True.intro
def z_kqn (iv : zI) (n : Nat) (g : zC) (v : zV) (lo : Nat) : Nat → Bool
  | 0 => z_kq iv n (z_sp g lo) v
  | k + 1 => z_kqn iv n g v lo k && z_kq iv n (z_sp g (lo + (k + 1))) v
/-- of all places lo .. lo + k; where all places have one bound, that one -/
def z_kqa (iv : zI) (n : Nat) (g : zC) (v : zV) (lo k : Nat) : Bool := match g.2.2 with
  | [sp] => z_kq iv n (some sp) v
  | _ => z_kqn iv n g v lo k
theorem z_kqn_ok {iv : zI} {n : Nat} {g : zC} {v : zV} {lo : Nat} : ∀ k : Nat, z_kqn iv n g v lo k = true → ∀ i, lo ≤ i → i ≤ lo + k → z_kq iv n (z_sp g i) v = true
  | 0, h, i, h1, h2 => by
    have e : i = lo := by omega
    subst e
    exact h
  | k + 1, h, i, h1, h2 => by
    unfold z_kqn at h
    rw [Bool.and_eq_true] at h
    by_cases e : i = lo + (k + 1)
    · subst e; exact h.2
    · exact z_kqn_ok k h.1 i h1 (by omega)
theorem z_kqa_ok {iv : zI} {n : Nat} {g : zC} {v : zV} {lo k : Nat} (h : z_kqa iv n g v lo k = true) (i : Nat) (h1 : lo ≤ i) (h2 : i ≤ lo + k) : z_kq iv n (z_sp g i) v = true := by
  unfold z_kqa at h
  split at h
  next sp hsp =>
    unfold z_sp
    rw [hsp]
    exact h
  next => exact z_kqn_ok k h i h1 h2
