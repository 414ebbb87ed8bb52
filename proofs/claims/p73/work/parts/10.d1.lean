/-! ===== operations on intervals ===== -/
theorem z_mb1 {x y b1 b2 : Int} (h1 : b1 ≤ y) (h2 : y ≤ b2) : (x * b1 ≤ x * y ∧ x * y ≤ x * b2) ∨ (x * b2 ≤ x * y ∧ x * y ≤ x * b1) := by
  rcases Int.le_total 0 x with h | h
  · exact Or.inl ⟨Int.mul_le_mul_of_nonneg_left h1 h, Int.mul_le_mul_of_nonneg_left h2 h⟩
  · exact Or.inr ⟨Int.mul_le_mul_of_nonpos_left h h2, Int.mul_le_mul_of_nonpos_left h h1⟩
def z_mlo (a b : Int × Int) : Int := min (min (a.1 * b.1) (a.1 * b.2)) (min (a.2 * b.1) (a.2 * b.2))
def z_mhi (a b : Int × Int) : Int := max (max (a.1 * b.1) (a.1 * b.2)) (max (a.2 * b.1) (a.2 * b.2))
theorem z_mbd {a b : Int × Int} {x y : Int} (h1 : a.1 ≤ x) (h2 : x ≤ a.2) (h3 : b.1 ≤ y) (h4 : y ≤ b.2) : z_mlo a b ≤ x * y ∧ x * y ≤ z_mhi a b := by
  have p := z_mb1 (x := x) h3 h4
  have q1 := z_mb1 (x := b.1) h1 h2
  have q2 := z_mb1 (x := b.2) h1 h2
  rw [Int.mul_comm b.1 a.1, Int.mul_comm b.1 x, Int.mul_comm b.1 a.2] at q1
  rw [Int.mul_comm b.2 a.1, Int.mul_comm b.2 x, Int.mul_comm b.2 a.2] at q2
  unfold z_mlo z_mhi
  omega
def z_afF (iv : zI) (f : zFc) : zI := z_fF f (fun f => iv.af f)
theorem z_afF_eq {iv : zI} {f : zFc} : z_afF iv f = iv.af f := by
  unfold z_afF
  rw [z_fF_eq]
/-- a new value, and what it is, where facts are kept -/
def z_mkf (iv : zI) (k : Nat) (lo hi : Int) (g : zV → List zFc) : zI × zV := match z_mk iv k lo hi with
  | (iv', v) => if iv.fs.1 = true then ((g v).foldl z_afF iv', v) else (iv', v)
theorem z_afs_ok {ρ : Nat → Int} : ∀ (l : List zFc) (iv : zI), ziv iv ρ → (∀ f ∈ l, 0 ≤ z_ev ρ f ∧ ∀ q ∈ f.2, q.1 < iv.length) → ziv (l.foldl z_afF iv) ρ ∧ (l.foldl z_afF iv).length = iv.length
  | [], iv, h, _ => ⟨h, rfl⟩
  | f :: r, iv, h, hf => by
    have h1 := hf f List.mem_cons_self
    rw [List.foldl_cons, z_afF_eq]
    obtain ⟨a, b⟩ := z_afs_ok r (iv.af f) (zI.af_ok h h1.1 h1.2) (fun g hg => hf g (List.mem_cons_of_mem _ hg))
    exact ⟨a, b⟩
theorem z_mkf_ok {iv : zI} {ρ : Nat → Int} (k : Nat) {lo hi x : Int} {g : zV → List zFc} (hi' : ziv iv ρ) (h1 : lo ≤ x) (h2 : x ≤ hi) (hg : ∀ (ρ' : Nat → Int) (v : zV) (n : Nat), (∀ i, i < iv.length → ρ' i = ρ i) → iv.length ≤ n → ρ' 0 = 0 → v.2.1 < n → z_val ρ' v = x → ∀ f ∈ g v, 0 ≤ z_ev ρ' f ∧ ∀ q ∈ f.2, q.1 < n) : ∃ ρ', zNw iv (z_mkf iv k lo hi g).1 ρ ρ' k (z_mkf iv k lo hi g).2 x := by
  obtain ⟨ρ', e1, e2, e3, e4, e5, e6⟩ := z_mk_ok k hi' h1 h2
  unfold z_mkf
  cases hz : z_mk iv k lo hi with
  | mk iv' v =>
    rw [hz] at e2 e3 e4 e5 e6
    dsimp only at e2 e3 e4 e5 e6 ⊢
    split
    · obtain ⟨a, b⟩ := z_afs_ok (g v) iv' e3 (hg ρ' v iv'.length e1 e2 e3.1 e5 e6)
      exact ⟨ρ', e1, by rw [b]; exact e2, a, e4, by rw [b]; exact e5, e6⟩
    · exact ⟨ρ', e1, e2, e3, e4, e5, e6⟩
/-- the same, whether facts are kept or not -/
def z_mkF (iv : zI) (k : Nat) (lo hi : Int) (g : zV → List zFc) : zI × zV := match z_mk iv k lo hi with
  | (iv', v) => ((g v).foldl z_afF iv', v)
theorem z_mkF_ok {iv : zI} {ρ : Nat → Int} (k : Nat) {lo hi x : Int} {g : zV → List zFc} (hi' : ziv iv ρ) (h1 : lo ≤ x) (h2 : x ≤ hi) (hg : ∀ (ρ' : Nat → Int) (v : zV) (n : Nat), (∀ i, i < iv.length → ρ' i = ρ i) → iv.length ≤ n → ρ' 0 = 0 → v.2.1 < n → z_val ρ' v = x → ∀ f ∈ g v, 0 ≤ z_ev ρ' f ∧ ∀ q ∈ f.2, q.1 < n) : ∃ ρ', zNw iv (z_mkF iv k lo hi g).1 ρ ρ' k (z_mkF iv k lo hi g).2 x := by
  obtain ⟨ρ', e1, e2, e3, e4, e5, e6⟩ := z_mk_ok k hi' h1 h2
  unfold z_mkF
  cases hz : z_mk iv k lo hi with
  | mk iv' v =>
    rw [hz] at e2 e3 e4 e5 e6
    dsimp only at e2 e3 e4 e5 e6 ⊢
    obtain ⟨a, b⟩ := z_afs_ok (g v) iv' e3 (hg ρ' v iv'.length e1 e2 e3.1 e5 e6)
    exact ⟨ρ', e1, by rw [b]; exact e2, a, e4, by rw [b]; exact e5, e6⟩
/-- r = n * x, as facts -/
def z_fmul (n : Int) (x r : zV) : List zFc := [z_ff 0 [(1, r), (-n, x)], z_ff 0 [(-1, r), (n, x)]]
theorem z_fmul_ok {iv : zI} {ρ ρ' : Nat → Int} {n : Int} {x v : zV} {m : Nat} (he : ∀ i, i < iv.length → ρ' i = ρ i) (hn : iv.length ≤ m) (h0 : ρ' 0 = 0) (hv : v.2.1 < m) (hx : x.2.1 < iv.length) (h : z_val ρ' v = n * z_val ρ x) : ∀ f ∈ z_fmul n x v, 0 ≤ z_ev ρ' f ∧ ∀ q ∈ f.2, q.1 < m := by
  have ex : z_val ρ' x = z_val ρ x := by unfold z_val; rw [he _ hx]
  have hx' : x.2.1 < m := Nat.lt_of_lt_of_le hx hn
  intro f hf
  unfold z_fmul at hf
  rcases List.mem_cons.mp hf with e | e
  · subst e
    refine ⟨?_, z_ff_mem _ (fun q hq => ?_)⟩
    · rw [z_ff_ok h0]
      show 0 ≤ 0 + (1 * z_val ρ' v + (-n * z_val ρ' x + 0))
      rw [h, ex, Int.neg_mul]; omega
    · rcases List.mem_cons.mp hq with e | e
      · subst e; exact hv
      · rw [List.mem_singleton] at e; subst e; exact hx'
  · rw [List.mem_singleton] at e
    subst e
    refine ⟨?_, z_ff_mem _ (fun q hq => ?_)⟩
    · rw [z_ff_ok h0]
      show 0 ≤ 0 + (-1 * z_val ρ' v + (n * z_val ρ' x + 0))
      rw [h, ex]; omega
    · rcases List.mem_cons.mp hq with e | e
      · subst e; exact hv
      · rw [List.mem_singleton] at e; subst e; exact hx'
def z_mul (k : Nat) (cf : Int → Int → Int) (iv : zI) (x y : zV) : Option (zI × zV) := match z_bd iv x, z_bd iv y with
  | some a, some b => if a.1 = a.2 ∧ b.1 = b.2 then some (iv, (k, 0, cf a.1 b.1)) else if z_in k (z_mlo a b) (z_mhi a b) then some (if a.1 = a.2 then z_mkf iv k (z_mlo a b) (z_mhi a b) (z_fmul a.1 y) else if b.1 = b.2 then z_mkf iv k (z_mlo a b) (z_mhi a b) (z_fmul b.1 x) else z_mk iv k (z_mlo a b) (z_mhi a b)) else some (z_mk iv k (z_rl k) (z_rh k))
  | _, _ => none
theorem z_mulI {x y : Int32} (h1 : -2147483648 ≤ x.toInt * y.toInt) (h2 : x.toInt * y.toInt ≤ 2147483647) : (x * y).toInt = x.toInt * y.toInt := by
  rw [Int32.toInt_mul]
  exact z_bm32 h1 h2
theorem z_mulL {x y : Int64} (h1 : -9223372036854775808 ≤ x.toInt * y.toInt) (h2 : x.toInt * y.toInt ≤ 9223372036854775807) : (x * y).toInt = x.toInt * y.toInt := by
  rw [Int64.toInt_mul]
  exact z_bm64 h1 h2
theorem zb_imul2 : zBi (fun a b => a * b) (z_mul 0 (fun a b => (Int32.ofInt a * Int32.ofInt b).toInt)) := by
  intro iv x y r ρ X Y h hi hx hy eX eY
  unfold z_mul at h
  split at h
  next a b e1 e2 =>
    have b1 := z_bd_ok e1 hi
    have b2 := z_bd_ok e2 hi
    split at h
    next h0 =>
      cases h
      have ex : X = Int32.ofInt a.1 := by rw [← z_o32 X, eX]; congr 1; omega
      have ey : Y = Int32.ofInt b.1 := by rw [← z_o32 Y, eY]; congr 1; omega
      refine z_same hi rfl hi.2.1 ?_
      show ρ 0 + _ = _
      rw [hi.1, ex, ey]; exact Int.zero_add _
    next =>
      split at h
      next hin =>
        have hr := z_in0 hin
        have hm := z_mbd b1.2.1 b1.2.2 b2.2.1 b2.2.2
        have es : (X * Y).toInt = z_val ρ x * z_val ρ y := by rw [z_mulI (by rw [eX, eY]; omega) (by rw [eX, eY]; omega), eX, eY]
        cases h
        split
        next ha =>
          exact z_mkf_ok 0 hi (by rw [es]; exact hm.1) (by rw [es]; exact hm.2) (fun ρ' v n p1 p2 p3 p4 p5 => z_fmul_ok p1 p2 p3 p4 hy (by rw [p5, es]; congr 1; omega))
        next =>
          split
          next hb => exact z_mkf_ok 0 hi (by rw [es]; exact hm.1) (by rw [es]; exact hm.2) (fun ρ' v n p1 p2 p3 p4 p5 => z_fmul_ok p1 p2 p3 p4 hx (by rw [p5, es, Int.mul_comm]; congr 1; omega))
          next => exact z_mk_ok 0 hi (by rw [es]; exact hm.1) (by rw [es]; exact hm.2)
      next => cases h; exact zBi_full hi _
  next => cases h
theorem zb_lmul2 : zBl (fun a b => a * b) (z_mul 1 (fun a b => (Int64.ofInt a * Int64.ofInt b).toInt)) := by
  intro iv x y r ρ X Y h hi hx hy eX eY
  unfold z_mul at h
  split at h
  next a b e1 e2 =>
    have b1 := z_bd_ok e1 hi
    have b2 := z_bd_ok e2 hi
    split at h
    next h0 =>
      cases h
      have ex : X = Int64.ofInt a.1 := by rw [← z_o64 X, eX]; congr 1; omega
      have ey : Y = Int64.ofInt b.1 := by rw [← z_o64 Y, eY]; congr 1; omega
      refine z_same hi rfl hi.2.1 ?_
      show ρ 0 + _ = _
      rw [hi.1, ex, ey]; exact Int.zero_add _
    next =>
      split at h
      next hin =>
        have hr := z_in1 hin
        have hm := z_mbd b1.2.1 b1.2.2 b2.2.1 b2.2.2
        have es : (X * Y).toInt = z_val ρ x * z_val ρ y := by rw [z_mulL (by rw [eX, eY]; omega) (by rw [eX, eY]; omega), eX, eY]
        cases h
        split
        next ha =>
          exact z_mkf_ok 1 hi (by rw [es]; exact hm.1) (by rw [es]; exact hm.2) (fun ρ' v n p1 p2 p3 p4 p5 => z_fmul_ok p1 p2 p3 p4 hy (by rw [p5, es]; congr 1; omega))
        next =>
          split
          next hb => exact z_mkf_ok 1 hi (by rw [es]; exact hm.1) (by rw [es]; exact hm.2) (fun ρ' v n p1 p2 p3 p4 p5 => z_fmul_ok p1 p2 p3 p4 hx (by rw [p5, es, Int.mul_comm]; congr 1; omega))
          next => exact z_mk_ok 1 hi (by rw [es]; exact hm.1) (by rw [es]; exact hm.2)
      next => cases h; exact zBl_full hi _
  next => cases h
/-! division -/
theorem z_td_mono {a b d : Int} (hd : 0 < d) (h : a ≤ b) : a.tdiv d ≤ b.tdiv d := Int.tdiv_le_tdiv hd h
theorem z_td_pos {x y : Int} (h1 : 1 ≤ y) : min x 0 ≤ x.tdiv y ∧ x.tdiv y ≤ max x 0 := by
  rcases Int.le_total 0 x with h | h
  · have a := Int.tdiv_nonneg h (show 0 ≤ y by omega)
    have b := Int.tdiv_le_self y h
    omega
  · have e : x.tdiv y = -((-x).tdiv y) := by rw [Int.neg_tdiv, Int.neg_neg]
    have a := Int.tdiv_nonneg (show 0 ≤ -x by omega) (show 0 ≤ y by omega)
    have b := Int.tdiv_le_self y (show 0 ≤ -x by omega)
    omega
theorem z_divI {x y : Int32} (h : 1 ≤ y.toInt) : (x / y).toInt = x.toInt.tdiv y.toInt := by
  have h2 := z_r32 x
  have h3 := z_td_pos (x := x.toInt) h
  rw [Int32.toInt_div]
  exact z_bm32 (by omega) (by omega)
theorem z_divL {x y : Int64} (h : 1 ≤ y.toInt) : (x / y).toInt = x.toInt.tdiv y.toInt := by
  have h2 := z_r64 x
  have h3 := z_td_pos (x := x.toInt) h
  rw [Int64.toInt_div]
  exact z_bm64 (by omega) (by omega)
/-- q = x / d for x at least 0, as facts -/
def z_fdiv (d : Int) (x r : zV) : List zFc := [z_ff 0 [(1, x), (-d, r)], z_ff (d - 1) [(-1, x), (d, r)]]
theorem z_fdiv_ok {iv : zI} {ρ ρ' : Nat → Int} {d : Int} {x v : zV} {m : Nat} (he : ∀ i, i < iv.length → ρ' i = ρ i) (hn : iv.length ≤ m) (h0 : ρ' 0 = 0) (hv : v.2.1 < m) (hx : x.2.1 < iv.length) (hd : 0 < d) (hp : 0 ≤ z_val ρ x) (h : z_val ρ' v = (z_val ρ x).tdiv d) : ∀ f ∈ z_fdiv d x v, 0 ≤ z_ev ρ' f ∧ ∀ q ∈ f.2, q.1 < m := by
  have ex : z_val ρ' x = z_val ρ x := by unfold z_val; rw [he _ hx]
  have hx' : x.2.1 < m := Nat.lt_of_lt_of_le hx hn
  have e1 : (z_val ρ x).tdiv d = z_val ρ x / d := Int.tdiv_eq_ediv_of_nonneg hp
  have e2 := Int.mul_ediv_add_emod (z_val ρ x) d
  have e3 := Int.emod_nonneg (z_val ρ x) (show d ≠ 0 by omega)
  have e4 := Int.emod_lt_of_pos (z_val ρ x) hd
  intro f hf
  unfold z_fdiv at hf
  rcases List.mem_cons.mp hf with e | e
  · subst e
    refine ⟨?_, z_ff_mem _ (fun q hq => ?_)⟩
    · rw [z_ff_ok h0]
      show 0 ≤ 0 + (1 * z_val ρ' x + (-d * z_val ρ' v + 0))
      rw [h, ex, e1, Int.neg_mul]; omega
    · rcases List.mem_cons.mp hq with e | e
      · subst e; exact hx'
      · rw [List.mem_singleton] at e; subst e; exact hv
  · rw [List.mem_singleton] at e
    subst e
    refine ⟨?_, z_ff_mem _ (fun q hq => ?_)⟩
    · rw [z_ff_ok h0]
      show 0 ≤ d - 1 + (-1 * z_val ρ' x + (d * z_val ρ' v + 0))
      rw [h, ex, e1]; omega
    · rcases List.mem_cons.mp hq with e | e
      · subst e; exact hx'
      · rw [List.mem_singleton] at e; subst e; exact hv
/-- a divisor at least 1, or at most -1 -/
def z_div (k : Nat) (iv : zI) (x y : zV) : Option (zI × zV) := match z_bd iv x, z_bd iv y with
  | some a, some b => if b.1 = b.2 ∧ 1 ≤ b.1 then (if 0 ≤ a.1 then some (z_mkf iv k (a.1.tdiv b.1) (a.2.tdiv b.1) (z_fdiv b.1 x)) else some (z_mk iv k (a.1.tdiv b.1) (a.2.tdiv b.1))) else if 1 ≤ b.1 then some (z_mk iv k (min a.1 0) (max a.2 0)) else if b.2 ≤ -1 then some (z_mk iv k (z_rl k) (z_rh k)) else none
  | _, _ => none
theorem zb_idiv2 : zBi (fun a b => a / b) (z_div 0) := by
  intro iv x y r ρ X Y h hi hx hy eX eY
  unfold z_div at h
  split at h
  next a b e1 e2 =>
    have b1 := z_bd_ok e1 hi
    have b2 := z_bd_ok e2 hi
    split at h
    next h0 =>
      have ey : z_val ρ y = b.1 := by omega
      have es : (X / Y).toInt = (z_val ρ x).tdiv b.1 := by rw [z_divI (by omega), eX, eY, ey]
      have m1 := z_td_mono (show 0 < b.1 by omega) b1.2.1
      have m2 := z_td_mono (show 0 < b.1 by omega) b1.2.2
      split at h
      next hp =>
        cases h
        exact z_mkf_ok 0 hi (by rw [es]; exact m1) (by rw [es]; exact m2) (fun ρ' v n p1 p2 p3 p4 p5 => z_fdiv_ok p1 p2 p3 p4 hx (by omega) (by omega) (by rw [p5, es]))
      next => cases h; exact z_mk_ok 0 hi (by rw [es]; exact m1) (by rw [es]; exact m2)
    next =>
      split at h
      next h1 =>
        cases h
        have es : (X / Y).toInt = (z_val ρ x).tdiv (z_val ρ y) := by rw [z_divI (by omega), eX, eY]
        have m := z_td_pos (x := z_val ρ x) (show 1 ≤ z_val ρ y by omega)
        exact z_mk_ok 0 hi (by rw [es]; omega) (by rw [es]; omega)
      next =>
        split at h
        next => cases h; exact zBi_full hi _
        next => cases h
  next => cases h
theorem zb_ldiv2 : zBl (fun a b => a / b) (z_div 1) := by
  intro iv x y r ρ X Y h hi hx hy eX eY
  unfold z_div at h
  split at h
  next a b e1 e2 =>
    have b1 := z_bd_ok e1 hi
    have b2 := z_bd_ok e2 hi
    split at h
    next h0 =>
      have ey : z_val ρ y = b.1 := by omega
      have es : (X / Y).toInt = (z_val ρ x).tdiv b.1 := by rw [z_divL (by omega), eX, eY, ey]
      have m1 := z_td_mono (show 0 < b.1 by omega) b1.2.1
      have m2 := z_td_mono (show 0 < b.1 by omega) b1.2.2
      split at h
      next hp =>
        cases h
        exact z_mkf_ok 1 hi (by rw [es]; exact m1) (by rw [es]; exact m2) (fun ρ' v n p1 p2 p3 p4 p5 => z_fdiv_ok p1 p2 p3 p4 hx (by omega) (by omega) (by rw [p5, es]))
      next => cases h; exact z_mk_ok 1 hi (by rw [es]; exact m1) (by rw [es]; exact m2)
    next =>
      split at h
      next h1 =>
        cases h
        have es : (X / Y).toInt = (z_val ρ x).tdiv (z_val ρ y) := by rw [z_divL (by omega), eX, eY]
        have m := z_td_pos (x := z_val ρ x) (show 1 ≤ z_val ρ y by omega)
        exact z_mk_ok 1 hi (by rw [es]; omega) (by rw [es]; omega)
      next =>
        split at h
        next => cases h; exact zBl_full hi _
        next => cases h
  next => cases h
