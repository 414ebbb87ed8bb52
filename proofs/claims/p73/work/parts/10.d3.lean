/-! sums, with what they are -/
def z_fsum (c : Int) (x y r : zV) : List zFc := [z_ff 0 [(1, r), (-1, x), (-c, y)], z_ff 0 [(-1, r), (1, x), (c, y)]]
theorem z_fsum_ok {iv : zI} {ρ ρ' : Nat → Int} {c : Int} {x y v : zV} {m : Nat} (he : ∀ i, i < iv.length → ρ' i = ρ i) (hn : iv.length ≤ m) (h0 : ρ' 0 = 0) (hv : v.2.1 < m) (hx : x.2.1 < iv.length) (hy : y.2.1 < iv.length) (h : z_val ρ' v = z_val ρ x + c * z_val ρ y) : ∀ f ∈ z_fsum c x y v, 0 ≤ z_ev ρ' f ∧ ∀ q ∈ f.2, q.1 < m := by
  have ex : z_val ρ' x = z_val ρ x := by unfold z_val; rw [he _ hx]
  have ey : z_val ρ' y = z_val ρ y := by unfold z_val; rw [he _ hy]
  have hm : ∀ (a b d : Int), ∀ q ∈ (z_ff 0 [(a, v), (b, x), (d, y)]).2, q.1 < m := fun a b d => z_ff_mem _ (fun q hq => by
    rcases List.mem_cons.mp hq with e | e
    · subst e; exact hv
    · rcases List.mem_cons.mp e with e | e
      · subst e; exact Nat.lt_of_lt_of_le hx hn
      · rw [List.mem_singleton] at e; subst e; exact Nat.lt_of_lt_of_le hy hn)
  intro f hf
  unfold z_fsum at hf
  rcases List.mem_cons.mp hf with e | e
  · subst e
    refine ⟨?_, hm _ _ _⟩
    rw [z_ff_ok h0]
    show 0 ≤ 0 + (1 * z_val ρ' v + (-1 * z_val ρ' x + (-c * z_val ρ' y + 0)))
    rw [h, ex, ey, Int.neg_mul c (z_val ρ y)]; omega
  · rw [List.mem_singleton] at e
    subst e
    refine ⟨?_, hm _ _ _⟩
    rw [z_ff_ok h0]
    show 0 ≤ 0 + (-1 * z_val ρ' v + (1 * z_val ρ' x + (c * z_val ρ' y + 0)))
    rw [h, ex, ey]; omega
def z_add2 (k : Nat) (iv : zI) (x y : zV) : Option (zI × zV) := match z_bd iv x, z_bd iv y with
  | some q1, some q2 => if z_in k (q1.1 + q2.1) (q1.2 + q2.2) then (if x.2.1 = 0 then some (iv, (k, y.2.1, x.2.2 + y.2.2)) else if y.2.1 = 0 then some (iv, (k, x.2.1, x.2.2 + y.2.2)) else some (z_mkf iv k (q1.1 + q2.1) (q1.2 + q2.2) (z_fsum 1 x y))) else some (z_mk iv k (z_rl k) (z_rh k))
  | _, _ => none
def z_sub2 (k : Nat) (iv : zI) (x y : zV) : Option (zI × zV) := match z_bd iv x, z_bd iv y with
  | some q1, some q2 => if z_in k (q1.1 - q2.2) (q1.2 - q2.1) then (if y.2.1 = 0 then some (iv, (k, x.2.1, x.2.2 - y.2.2)) else some (z_mkf iv k (q1.1 - q2.2) (q1.2 - q2.1) (z_fsum (-1) x y))) else some (z_mk iv k (z_rl k) (z_rh k))
  | _, _ => none
theorem zb_iadd2 : zBi (fun a b => a + b) (z_add2 0) := by
  intro iv x y r ρ X Y h hi hx hy eX eY
  unfold z_add2 at h
  split at h
  next q1 q2 e1 e2 =>
    have b1 := z_bd_ok e1 hi
    have b2 := z_bd_ok e2 hi
    split at h
    next hin =>
      have hr := z_in0 hin
      have es : (X + Y).toInt = z_val ρ x + z_val ρ y := by rw [z_addI (by omega) (by omega), eX, eY]
      split at h
      next h0 =>
        cases h
        refine z_same hi rfl hy ?_
        rw [es]; unfold z_val; dsimp only; rw [h0, hi.1]; omega
      next =>
        split at h
        next h0 =>
          cases h
          refine z_same hi rfl hx ?_
          rw [es]; unfold z_val; dsimp only; rw [h0, hi.1]; omega
        next =>
          cases h
          exact z_mkf_ok 0 hi (by rw [es]; omega) (by rw [es]; omega) (fun ρ' v n p1 p2 p3 p4 p5 => z_fsum_ok p1 p2 p3 p4 hx hy (by rw [p5, es]; omega))
    next => cases h; exact zBi_full hi _
  next => cases h
theorem zb_isub2 : zBi (fun a b => a - b) (z_sub2 0) := by
  intro iv x y r ρ X Y h hi hx hy eX eY
  unfold z_sub2 at h
  split at h
  next q1 q2 e1 e2 =>
    have b1 := z_bd_ok e1 hi
    have b2 := z_bd_ok e2 hi
    split at h
    next hin =>
      have hr := z_in0 hin
      have es : (X - Y).toInt = z_val ρ x - z_val ρ y := by rw [z_subI (by omega) (by omega), eX, eY]
      split at h
      next h0 =>
        cases h
        refine z_same hi rfl hx ?_
        rw [es]; unfold z_val; dsimp only; rw [h0, hi.1]; omega
      next =>
        cases h
        exact z_mkf_ok 0 hi (by rw [es]; omega) (by rw [es]; omega) (fun ρ' v n p1 p2 p3 p4 p5 => z_fsum_ok p1 p2 p3 p4 hx hy (by rw [p5, es]; omega))
    next => cases h; exact zBi_full hi _
  next => cases h
theorem zb_ladd2 : zBl (fun a b => a + b) (z_add2 1) := by
  intro iv x y r ρ X Y h hi hx hy eX eY
  unfold z_add2 at h
  split at h
  next q1 q2 e1 e2 =>
    have b1 := z_bd_ok e1 hi
    have b2 := z_bd_ok e2 hi
    split at h
    next hin =>
      have hr := z_in1 hin
      have es : (X + Y).toInt = z_val ρ x + z_val ρ y := by rw [z_addL (by omega) (by omega), eX, eY]
      split at h
      next h0 =>
        cases h
        refine z_same hi rfl hy ?_
        rw [es]; unfold z_val; dsimp only; rw [h0, hi.1]; omega
      next =>
        split at h
        next h0 =>
          cases h
          refine z_same hi rfl hx ?_
          rw [es]; unfold z_val; dsimp only; rw [h0, hi.1]; omega
        next =>
          cases h
          exact z_mkf_ok 1 hi (by rw [es]; omega) (by rw [es]; omega) (fun ρ' v n p1 p2 p3 p4 p5 => z_fsum_ok p1 p2 p3 p4 hx hy (by rw [p5, es]; omega))
    next => cases h; exact zBl_full hi _
  next => cases h
theorem zb_lsub2 : zBl (fun a b => a - b) (z_sub2 1) := by
  intro iv x y r ρ X Y h hi hx hy eX eY
  unfold z_sub2 at h
  split at h
  next q1 q2 e1 e2 =>
    have b1 := z_bd_ok e1 hi
    have b2 := z_bd_ok e2 hi
    split at h
    next hin =>
      have hr := z_in1 hin
      have es : (X - Y).toInt = z_val ρ x - z_val ρ y := by rw [z_subL (by omega) (by omega), eX, eY]
      split at h
      next h0 =>
        cases h
        refine z_same hi rfl hx ?_
        rw [es]; unfold z_val; dsimp only; rw [h0, hi.1]; omega
      next =>
        cases h
        exact z_mkf_ok 1 hi (by rw [es]; omega) (by rw [es]; omega) (fun ρ' v n p1 p2 p3 p4 p5 => z_fsum_ok p1 p2 p3 p4 hx hy (by rw [p5, es]; omega))
    next => cases h; exact zBl_full hi _
  next => cases h
/-! and, or -/
theorem z_bvn {w : BitVec 32} (h : 0 ≤ w.toInt) : w.toInt = (w.toNat : Int) ∧ w.toNat < 2147483648 := by
  have h1 := w.isLt
  rw [BitVec.toInt_eq_toNat_cond] at h ⊢
  split at h <;> rename_i h2
  · rw [if_pos h2]; omega
  · omega
theorem z_andR (a b : BitVec 32) (h : 0 ≤ b.toInt) : 0 ≤ (a &&& b).toInt ∧ (a &&& b).toInt ≤ b.toInt := by
  have e := z_bvn h
  have h1 : (a &&& b).toNat ≤ b.toNat := by rw [BitVec.toNat_and]; exact Nat.and_le_right
  rw [BitVec.toInt_eq_toNat_of_lt (x := a &&& b) (by omega)]
  omega
theorem z_andI {x y : Int32} (h : 0 ≤ y.toInt) : 0 ≤ (x &&& y).toInt ∧ (x &&& y).toInt ≤ y.toInt := z_andR x.toBitVec y.toBitVec h
theorem z_andI' {x y : Int32} (h : 0 ≤ x.toInt) : 0 ≤ (x &&& y).toInt ∧ (x &&& y).toInt ≤ x.toInt := by
  have e : x &&& y = y &&& x := by
    apply Int32.toBitVec_inj.mp
    show x.toBitVec &&& y.toBitVec = y.toBitVec &&& x.toBitVec
    exact BitVec.and_comm ..
  rw [e]; exact z_andI h
def z_and (cf : Int → Int → Int) (iv : zI) (x y : zV) : Option (zI × zV) := match z_bd iv x, z_bd iv y with
  | some a, some b => if a.1 = a.2 ∧ b.1 = b.2 then some (iv, (0, 0, cf a.1 b.1)) else if 0 ≤ b.1 then (if 0 ≤ a.1 then some (z_mk iv 0 0 (min a.2 b.2)) else some (z_mk iv 0 0 b.2)) else if 0 ≤ a.1 then some (z_mk iv 0 0 a.2) else some (z_mk iv 0 (z_rl 0) (z_rh 0))
  | _, _ => none
theorem zb_iand2 : zBi (fun a b => a &&& b) (z_and (fun a b => (Int32.ofInt a &&& Int32.ofInt b).toInt)) := by
  intro iv x y r ρ X Y h hi hx hy eX eY
  unfold z_and at h
  split at h
  next a b e1 e2 =>
    have b1 := z_bd_ok e1 hi
    have b2 := z_bd_ok e2 hi
    split at h
    next h0 =>
      cases h
      have ex : X = Int32.ofInt a.1 := by rw [← z_o32 X, eX]; congr 1; omega
      have ey : Y = Int32.ofInt b.1 := by rw [← z_o32 Y, eY]; congr 1; omega
      refine z_same hi rfl hi.2.1 ?_
      show ρ 0 + _ = _
      rw [hi.1, ex, ey]; exact Int.zero_add _
    next =>
      split at h
      next hb =>
        have t := z_andI (x := X) (y := Y) (by omega)
        split at h
        next ha =>
          have t' := z_andI' (x := X) (y := Y) (by omega)
          cases h
          exact z_mk_ok 0 hi t.1 (by show (X &&& Y).toInt ≤ min a.2 b.2; omega)
        next => cases h; exact z_mk_ok 0 hi t.1 (by show (X &&& Y).toInt ≤ b.2; omega)
      next =>
        split at h
        next ha =>
          have t' := z_andI' (x := X) (y := Y) (by omega)
          cases h
          exact z_mk_ok 0 hi t'.1 (by show (X &&& Y).toInt ≤ a.2; omega)
        next => cases h; exact zBi_full hi _
  next => cases h
def z_p2 (a b : Int) : Int := 2 ^ (Nat.log2 (max a.toNat b.toNat) + 1)
theorem z_orI {x y : Int32} (h1 : 0 ≤ x.toInt) (h2 : 0 ≤ y.toInt) {n : Nat} (hx : x.toInt < 2 ^ n) (hy : y.toInt < 2 ^ n) (hn : n ≤ 31) : 0 ≤ (x ||| y).toInt ∧ (x ||| y).toInt < 2 ^ n := by
  have e1 := z_bvn (w := x.toBitVec) h1
  have e2 := z_bvn (w := y.toBitVec) h2
  have f1 : x.toInt = (x.toBitVec.toNat : Int) := e1.1
  have f2 : y.toInt = (y.toBitVec.toNat : Int) := e2.1
  have hx' : x.toBitVec.toNat < 2 ^ n := by
    have : ((x.toBitVec.toNat : Nat) : Int) < ((2 ^ n : Nat) : Int) := by rw [← f1]; exact_mod_cast hx
    exact_mod_cast this
  have hy' : y.toBitVec.toNat < 2 ^ n := by
    have : ((y.toBitVec.toNat : Nat) : Int) < ((2 ^ n : Nat) : Int) := by rw [← f2]; exact_mod_cast hy
    exact_mod_cast this
  have h3 : (x.toBitVec ||| y.toBitVec).toNat < 2 ^ n := by rw [BitVec.toNat_or]; exact Nat.or_lt_two_pow hx' hy'
  have h4 : (2 : Nat) ^ n ≤ 2 ^ 31 := Nat.pow_le_pow_right (by decide) hn
  have e : (x ||| y).toInt = ((x.toBitVec ||| y.toBitVec).toNat : Int) := by
    show (x.toBitVec ||| y.toBitVec).toInt = _
    exact BitVec.toInt_eq_toNat_of_lt (by omega)
  rw [e]
  refine ⟨Int.natCast_nonneg _, ?_⟩
  exact_mod_cast h3
def z_or2 (cf : Int → Int → Int) (iv : zI) (x y : zV) : Option (zI × zV) := match z_bd iv x, z_bd iv y with
  | some a, some b => if a.1 = a.2 ∧ b.1 = b.2 then some (iv, (0, 0, cf a.1 b.1)) else if 0 ≤ a.1 ∧ 0 ≤ b.1 ∧ Nat.log2 (max a.2.toNat b.2.toNat) + 1 ≤ 31 ∧ a.2 < z_p2 a.2 b.2 ∧ b.2 < z_p2 a.2 b.2 then some (z_mk iv 0 0 (z_p2 a.2 b.2 - 1)) else some (z_mk iv 0 (z_rl 0) (z_rh 0))
  | _, _ => none
theorem zb_ior2 : zBi (fun a b => a ||| b) (z_or2 (fun a b => (Int32.ofInt a ||| Int32.ofInt b).toInt)) := by
  intro iv x y r ρ X Y h hi hx hy eX eY
  unfold z_or2 at h
  split at h
  next a b e1 e2 =>
    have b1 := z_bd_ok e1 hi
    have b2 := z_bd_ok e2 hi
    split at h
    next h0 =>
      cases h
      have ex : X = Int32.ofInt a.1 := by rw [← z_o32 X, eX]; congr 1; omega
      have ey : Y = Int32.ofInt b.1 := by rw [← z_o32 Y, eY]; congr 1; omega
      refine z_same hi rfl hi.2.1 ?_
      show ρ 0 + _ = _
      rw [hi.1, ex, ey]; exact Int.zero_add _
    next =>
      split at h
      next hc =>
        obtain ⟨c1, c2, c3, c4, c5⟩ := hc
        unfold z_p2 at c4 c5
        have t := z_orI (x := X) (y := Y) (n := Nat.log2 (max a.2.toNat b.2.toNat) + 1) (by omega) (by omega) (by rw [eX]; omega) (by rw [eY]; omega) c3
        cases h
        refine z_mk_ok 0 hi t.1 ?_
        show (X ||| Y).toInt ≤ z_p2 a.2 b.2 - 1
        unfold z_p2
        omega
      next => cases h; exact zBi_full hi _
  next => cases h
/-! a known number shifted by one of few: each tried -/
def z_hull (f : Int → Int) (lo : Int) : Nat → Int × Int
  | 0 => (f lo, f lo)
  | n + 1 => match z_hull f lo n with
    | q => (min q.1 (f (lo + (n + 1 : Nat))), max q.2 (f (lo + (n + 1 : Nat))))
theorem z_hull_ok {f : Int → Int} {lo : Int} : ∀ (n : Nat) (j : Int), lo ≤ j → j ≤ lo + n → (z_hull f lo n).1 ≤ f j ∧ f j ≤ (z_hull f lo n).2
  | 0, j, h1, h2 => by
    have e : j = lo := by omega
    subst e
    exact ⟨Int.le_refl _, Int.le_refl _⟩
  | n + 1, j, h1, h2 => by
    unfold z_hull
    dsimp only
    by_cases e : j = lo + (n + 1 : Nat)
    · subst e; omega
    · have := z_hull_ok (f := f) n j h1 (by omega)
      omega
def z_sft (k m : Nat) (cf : Int → Int → Int) (iv : zI) (x y : zV) : Option (zI × zV) := match z_bd iv x, z_bd iv y with
  | some a, some b => if a.1 = a.2 ∧ b.1 ≤ b.2 ∧ b.2 - b.1 ≤ m then (match z_hull (cf a.1) b.1 (b.2 - b.1).toNat with
    | q => some (z_mk iv k q.1 q.2)) else some (z_mk iv k (z_rl k) (z_rh k))
  | _, _ => none
theorem zb_isft (op : Int32 → Int32 → Int32) (m : Nat) : zBi op (z_sft 0 m (fun a b => (op (Int32.ofInt a) (Int32.ofInt b)).toInt)) := by
  intro iv x y r ρ X Y h hi hx hy eX eY
  unfold z_sft at h
  split at h
  next a b e1 e2 =>
    have b1 := z_bd_ok e1 hi
    have b2 := z_bd_ok e2 hi
    split at h
    next h0 =>
      have ex : X = Int32.ofInt a.1 := by rw [← z_o32 X, eX]; congr 1; omega
      have ey : Y = Int32.ofInt (z_val ρ y) := by rw [← z_o32 Y, eY]
      have t := z_hull_ok (f := fun b => (op (Int32.ofInt a.1) (Int32.ofInt b)).toInt) (lo := b.1) (b.2 - b.1).toNat (z_val ρ y) b2.2.1 (by omega)
      cases h
      refine z_mk_ok 0 hi ?_ ?_
      · rw [ex, ey]; exact t.1
      · rw [ex, ey]; exact t.2
    next => cases h; exact zBi_full hi _
  next => cases h
/-! operations remembered -/
def z_emf (l : List (Nat × zV × zV × zV)) (k : Nat) (x y : zV) : Option zV := match l with
  | [] => none
  | e :: r => if e.1 = k ∧ e.2.1 = x ∧ e.2.2.1 = y then some e.2.2.2 else z_emf r k x y
theorem z_emf_ok {k : Nat} {x y v : zV} : ∀ l : List (Nat × zV × zV × zV), z_emf l k x y = some v → (k, x, y, v) ∈ l
  | [], h => by cases h
  | e :: r, h => by
    unfold z_emf at h
    split at h
    next hc =>
      cases h
      obtain ⟨rfl, rfl, rfl⟩ := hc
      exact List.mem_cons_self
    next => exact List.mem_cons_of_mem _ (z_emf_ok r h)
def zI.ae (iv : zI) (e : Nat × zV × zV × zV) : zI := iv.wf (iv.fs.1, iv.fs.2.1, e :: iv.fs.2.2.1, iv.fs.2.2.2)
theorem zI.ae_ok {iv : zI} {ρ : Nat → Int} {e : Nat × zV × zV × zV} (h : ziv iv ρ) (h1 : e.2.1.2.1 < iv.length ∧ e.2.2.1.2.1 < iv.length ∧ e.2.2.2.2.1 < iv.length) (h2 : e.2.2.2.1 = 0) (h3 : z_val ρ e.2.2.2 = (z_opI e.1 (Int32.ofInt (z_val ρ e.2.1)) (Int32.ofInt (z_val ρ e.2.2.1))).toInt) : ziv (iv.ae e) ρ := by
  refine ⟨h.1, h.2.1, h.2.2.1, h.2.2.2.1, fun g hg => ?_, h.2.2.2.2.2⟩
  rcases List.mem_cons.mp hg with q | q
  · subst q; exact ⟨h1, h2, h3⟩
  · exact h.2.2.2.2.1 g q
def z_em (k : Nat) (f : zI → zV → zV → Option (zI × zV)) (iv : zI) (x y : zV) : Option (zI × zV) := bif iv.fs.1 then (match z_emf iv.fs.2.2.1 k x y with
  | some v => some (iv, v)
  | none => (match f iv x y with
    | some (iv', v) => some (iv'.ae (k, x, y, v), v)
    | none => none)) else f iv x y
theorem zb_em {op : Int32 → Int32 → Int32} {k : Nat} {f : zI → zV → zV → Option (zI × zV)} (hop : ∀ a b, op a b = z_opI k a b) (hf : zBi op f) : zBi op (z_em k f) := by
  intro iv x y r ρ X Y h hi hx hy eX eY
  have ex : Int32.ofInt (z_val ρ x) = X := by rw [← eX]; exact z_o32 X
  have ey : Int32.ofInt (z_val ρ y) = Y := by rw [← eY]; exact z_o32 Y
  unfold z_em at h
  cases hb : iv.fs.1 with
  | false => rw [hb] at h; exact hf iv x y r ρ X Y h hi hx hy eX eY
  | true =>
    rw [hb] at h
    change (match z_emf iv.fs.2.2.1 k x y with
      | some v => some (iv, v)
      | none => (match f iv x y with
        | some (iv', v) => some (iv'.ae (k, x, y, v), v)
        | none => none)) = some r at h
    split at h
    next v hv =>
      cases h
      obtain ⟨⟨m1, m2, m3⟩, m4, m5⟩ := hi.2.2.2.2.1 _ (z_emf_ok _ hv)
      refine z_same hi m4 m3 ?_
      rw [hop, ← ex, ← ey]
      exact m5
    next =>
      split at h
      next iv' v hfv =>
        cases h
        obtain ⟨ρ', q1, q2, q3, q4, q5, q6⟩ := hf iv x y _ ρ X Y hfv hi hx hy eX eY
        have vx : z_val ρ' x = z_val ρ x := by unfold z_val; rw [q1 _ hx]
        have vy : z_val ρ' y = z_val ρ y := by unfold z_val; rw [q1 _ hy]
        refine ⟨ρ', q1, q2, zI.ae_ok q3 ⟨Nat.lt_of_lt_of_le hx q2, Nat.lt_of_lt_of_le hy q2, q5⟩ q4 ?_, q4, q5, q6⟩
        show z_val ρ' v = (z_opI k (Int32.ofInt (z_val ρ' x)) (Int32.ofInt (z_val ρ' y))).toInt
        rw [vx, vy, ex, ey, ← hop]
        exact q6
      next => cases h
