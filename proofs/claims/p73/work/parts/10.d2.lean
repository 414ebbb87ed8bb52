/-! the rest of a division -/
theorem z_tm_bd {x y : Int} (hy : y ≠ 0) : (0 ≤ x → 0 ≤ x.tmod y ∧ x.tmod y ≤ x) ∧ (x ≤ 0 → x ≤ x.tmod y ∧ x.tmod y ≤ 0) ∧ (1 ≤ y → -(y - 1) ≤ x.tmod y ∧ x.tmod y ≤ y - 1) ∧ (y ≤ -1 → y + 1 ≤ x.tmod y ∧ x.tmod y ≤ -y - 1) := by
  have key : ∀ a b : Int, 0 ≤ a → 1 ≤ b → 0 ≤ a.tmod b ∧ a.tmod b ≤ a ∧ a.tmod b ≤ b - 1 := fun a b ha hb => by
    have h1 := Int.tmod_nonneg b ha
    have h2 := Int.tmod_lt_of_pos a (show 0 < b by omega)
    have h3 := Int.mul_tdiv_add_tmod a b
    have h4 := Int.mul_nonneg (show 0 ≤ b by omega) (Int.tdiv_nonneg ha (show 0 ≤ b by omega))
    omega
  have n1 : (-x).tmod y = -(x.tmod y) := Int.neg_tmod x y
  have n2 : x.tmod (-y) = x.tmod y := Int.tmod_neg x y
  have n3 : (-x).tmod (-y) = -(x.tmod y) := by rw [Int.tmod_neg, Int.neg_tmod]
  rcases Int.le_total 0 x with hx | hx <;> rcases Int.lt_or_gt_of_ne hy with hb | hb
  · have := key x (-y) hx (by omega)
    rw [n2] at this
    omega
  · have := key x y hx (by omega)
    omega
  · have := key (-x) (-y) (by omega) (by omega)
    rw [n3] at this
    omega
  · have := key (-x) y (by omega) (by omega)
    rw [n1] at this
    omega
/-- what a rest is below, as facts: |r| < |y| -/
def z_frem (a b : Int × Int) (y r : zV) : List zFc :=
  if 1 ≤ b.1 then (if 0 ≤ a.1 then [z_ff (-1) [(1, y), (-1, r)]] else if a.2 ≤ 0 then [z_ff (-1) [(1, y), (1, r)]] else [])
  else if b.2 ≤ -1 then (if 0 ≤ a.1 then [z_ff (-1) [(-1, y), (-1, r)]] else if a.2 ≤ 0 then [z_ff (-1) [(-1, y), (1, r)]] else []) else []
theorem z_frem_ok {iv : zI} {ρ ρ' : Nat → Int} {a b : Int × Int} {x y v : zV} {m : Nat} (he : ∀ i, i < iv.length → ρ' i = ρ i) (hn : iv.length ≤ m) (h0 : ρ' 0 = 0) (hv : v.2.1 < m) (hy : y.2.1 < iv.length) (ha : a.1 ≤ z_val ρ x ∧ z_val ρ x ≤ a.2) (hb : b.1 ≤ z_val ρ y ∧ z_val ρ y ≤ b.2) (h : z_val ρ' v = (z_val ρ x).tmod (z_val ρ y)) : ∀ f ∈ z_frem a b y v, 0 ≤ z_ev ρ' f ∧ ∀ q ∈ f.2, q.1 < m := by
  have ey : z_val ρ' y = z_val ρ y := by unfold z_val; rw [he _ hy]
  have hy' : y.2.1 < m := Nat.lt_of_lt_of_le hy hn
  have hm : ∀ (c d : Int), ∀ q ∈ (z_ff (-1) [(c, y), (d, v)]).2, q.1 < m := fun c d => z_ff_mem _ (fun q hq => by
    rcases List.mem_cons.mp hq with e | e
    · subst e; exact hy'
    · rw [List.mem_singleton] at e; subst e; exact hv)
  have hev : ∀ (c d : Int), z_ev ρ' (z_ff (-1) [(c, y), (d, v)]) = -1 + (c * z_val ρ y + (d * (z_val ρ x).tmod (z_val ρ y) + 0)) := fun c d => by
    rw [z_ff_ok h0]
    show -1 + (c * z_val ρ' y + (d * z_val ρ' v + 0)) = _
    rw [ey, h]
  intro f hf
  unfold z_frem at hf
  split at hf
  next h1 =>
    have t := z_tm_bd (x := z_val ρ x) (y := z_val ρ y) (by omega)
    split at hf
    next => rw [List.mem_singleton] at hf; subst hf; exact ⟨by rw [hev]; omega, hm _ _⟩
    next =>
      split at hf
      next => rw [List.mem_singleton] at hf; subst hf; exact ⟨by rw [hev]; omega, hm _ _⟩
      next => cases hf
  next =>
    split at hf
    next h1 =>
      have t := z_tm_bd (x := z_val ρ x) (y := z_val ρ y) (by omega)
      split at hf
      next => rw [List.mem_singleton] at hf; subst hf; exact ⟨by rw [hev]; omega, hm _ _⟩
      next =>
        split at hf
        next => rw [List.mem_singleton] at hf; subst hf; exact ⟨by rw [hev]; omega, hm _ _⟩
        next => cases hf
    next => cases hf
def z_rml (a : Int × Int) (m : Int) : Int := if 0 ≤ a.1 then 0 else max (-m) a.1
def z_rmh (a : Int × Int) (m : Int) : Int := if a.2 ≤ 0 then 0 else min m a.2
def z_rem (k : Nat) (iv : zI) (x y : zV) : Option (zI × zV) := match z_bd iv x, z_bd iv y with
  | some a, some b => if a.1 = a.2 ∧ b.1 = b.2 ∧ b.1 ≠ 0 then some (iv, (k, 0, a.1.tmod b.1)) else if 1 ≤ b.1 then some (z_mkF iv k (z_rml a (b.2 - 1)) (z_rmh a (b.2 - 1)) (if b.1 = b.2 then fun _ => [] else z_frem a b y)) else if b.2 ≤ -1 then some (z_mkF iv k (z_rml a (-b.1 - 1)) (z_rmh a (-b.1 - 1)) (z_frem a b y)) else none
  | _, _ => none
theorem z_modI {x y : Int32} : (x % y).toInt = x.toInt.tmod y.toInt := Int32.toInt_mod x y
theorem z_modL {x y : Int64} : (x % y).toInt = x.toInt.tmod y.toInt := Int64.toInt_mod x y
theorem z_rm_core (k : Nat) {iv : zI} {x y : zV} {r : zI × zV} {ρ : Nat → Int} {z : Int} (h : z_rem k iv x y = some r) (hi : ziv iv ρ) (hy : y.2.1 < iv.length) (es : z = (z_val ρ x).tmod (z_val ρ y)) : ∃ ρ', zNw iv r.1 ρ ρ' k r.2 z := by
  unfold z_rem at h
  split at h
  next a b e1 e2 =>
    have b1 := z_bd_ok e1 hi
    have b2 := z_bd_ok e2 hi
    split at h
    next h0 =>
      cases h
      refine z_same hi rfl hi.2.1 ?_
      show ρ 0 + _ = _
      rw [hi.1, es, show z_val ρ x = a.1 by omega, show z_val ρ y = b.1 by omega]
      exact Int.zero_add _
    next =>
      split at h
      next h1 =>
        cases h
        have t := z_tm_bd (x := z_val ρ x) (y := z_val ρ y) (by omega)
        refine z_mkF_ok k hi (by rw [es]; unfold z_rml; split <;> omega) (by rw [es]; unfold z_rmh; split <;> omega) (fun ρ' v n p1 p2 p3 p4 p5 => ?_)
        split
        · intro f hf; cases hf
        · exact z_frem_ok p1 p2 p3 p4 hy b1.2 b2.2 (by rw [p5, es])
      next =>
        split at h
        next h1 =>
          cases h
          have t := z_tm_bd (x := z_val ρ x) (y := z_val ρ y) (by omega)
          exact z_mkF_ok k hi (by rw [es]; unfold z_rml; split <;> omega) (by rw [es]; unfold z_rmh; split <;> omega) (fun ρ' v n p1 p2 p3 p4 p5 => z_frem_ok p1 p2 p3 p4 hy b1.2 b2.2 (by rw [p5, es]))
        next => cases h
  next => cases h
theorem zb_irem2 : zBi (fun a b => a % b) (z_rem 0) := by
  intro iv x y r ρ X Y h hi hx hy eX eY
  exact z_rm_core 0 h hi hy (by show (X % Y).toInt = _; rw [z_modI, eX, eY])
theorem zb_lrem2 : zBl (fun a b => a % b) (z_rem 1) := by
  intro iv x y r ρ X Y h hi hx hy eX eY
  exact z_rm_core 1 h hi hy (by show (X % Y).toInt = _; rw [z_modL, eX, eY])
