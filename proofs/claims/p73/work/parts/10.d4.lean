/-! ===== intervals made narrower by the facts ===== -/
def z_mt (q : Nat × Int) (b : Int × Int) : Int := if 0 ≤ q.2 then q.2 * b.2 else q.2 * b.1
theorem z_mt_ok {q : Nat × Int} {b : Int × Int} {x : Int} (h1 : b.1 ≤ x) (h2 : x ≤ b.2) : q.2 * x ≤ z_mt q b := by
  unfold z_mt
  split
  next h => exact Int.mul_le_mul_of_nonneg_left h2 h
  next h => exact Int.mul_le_mul_of_nonpos_left (show q.2 ≤ 0 by omega) h1
def z_mx (iv : zI) (l : List (Nat × Int)) : Option Int := match l with
  | [] => some 0
  | q :: r => match iv.at q.1, z_mx iv r with
    | some b, some m => some (z_mt q b + m)
    | _, _ => none
theorem z_mx_ok {iv : zI} {ρ : Nat → Int} (hi : ziv iv ρ) : ∀ (l : List (Nat × Int)) (m : Int), z_mx iv l = some m → z_sum ρ l ≤ m
  | [], m, h => by cases h; exact Int.le_refl _
  | q :: r, m, h => by
    unfold z_mx at h
    split at h
    next b m' hb hm =>
      cases h
      have h1 := hi.2.2.1 _ _ hb
      have h2 := z_mx_ok hi r m' hm
      have h3 := z_mt_ok (q := q) h1.1 h1.2
      show q.2 * ρ q.1 + z_sum ρ r ≤ _
      omega
    next => cases h
theorem z_mx_dec {iv : zI} {ρ : Nat → Int} (hi : ziv iv ρ) {q : Nat × Int} {b : Int × Int} (hb : iv.at q.1 = some b) : ∀ (l : List (Nat × Int)) (m : Int), z_mx iv l = some m → q ∈ l → z_sum ρ l + z_mt q b ≤ m + q.2 * ρ q.1
  | [], m, h, hq => by cases hq
  | a :: r, m, h, hq => by
    unfold z_mx at h
    split at h
    next b' m' hb' hm =>
      cases h
      show a.2 * ρ a.1 + z_sum ρ r + z_mt q b ≤ z_mt a b' + m' + q.2 * ρ q.1
      rcases List.mem_cons.mp hq with e | e
      · subst e
        rw [hb] at hb'
        cases hb'
        have h2 := z_mx_ok hi r m' hm
        omega
      · have ih := z_mx_dec hi hb r m' hm e
        have h1 := hi.2.2.1 _ _ hb'
        have h3 := z_mt_ok (q := a) h1.1 h1.2
        omega
    next => cases h
theorem z_set_ok {iv : zI} {ρ : Nat → Int} {k : Nat} {q : Int × Int} (h : ziv iv ρ) (h1 : q.1 ≤ ρ k) (h2 : ρ k ≤ q.2) : ziv (iv.set k q) ρ ∧ (iv.set k q).length = iv.length := by
  refine ⟨⟨h.1, h.2.1, fun i r hr => ?_, h.2.2.2⟩, rfl⟩
  rcases zI.at_set hr with ⟨e, rfl⟩ | hr
  · subst e; exact ⟨h1, h2⟩
  · exact h.2.2.1 i r hr
/-- none: it can't be so -/
def z_tgs (iv : zI) (k : Nat) (lo hi : Int) : Option zI := z_fN k (fun k => z_fI lo (fun lo => z_fI hi (fun hi => if lo ≤ hi then some (iv.set k (lo, hi)) else none)))
/-- a narrowing that stands -/
def zTg (iv : zI) (ρ : Nat → Int) (o : Option zI) : Prop := ∃ iv', o = some iv' ∧ ziv iv' ρ ∧ iv'.length = iv.length
theorem z_tgs_ok {iv : zI} {ρ : Nat → Int} {k : Nat} {lo hi : Int} (h : ziv iv ρ) (h1 : lo ≤ ρ k) (h2 : ρ k ≤ hi) : zTg iv ρ (z_tgs iv k lo hi) := by
  unfold z_tgs
  rw [z_fN_eq, z_fI_eq, z_fI_eq, if_pos (by omega)]
  obtain ⟨a, b⟩ := z_set_ok (q := (lo, hi)) h h1 h2
  exact ⟨_, rfl, a, b⟩
def z_tgq (iv0 iv : zI) (M : Int) (q : Nat × Int) : Option zI := match iv0.at q.1, iv.at q.1 with
  | some b, some b' => if 0 < q.2 then (if b'.1 < -((M - z_mt q b) / q.2) then z_tgs iv q.1 (-((M - z_mt q b) / q.2)) b'.2 else some iv) else if q.2 < 0 then (if (M - z_mt q b) / (-q.2) < b'.2 then z_tgs iv q.1 b'.1 ((M - z_mt q b) / (-q.2)) else some iv) else some iv
  | _, _ => some iv
theorem z_tgq_ok {iv0 iv : zI} {ρ : Nat → Int} {q : Nat × Int} {l : List (Nat × Int)} {c m : Int} (hi0 : ziv iv0 ρ) (hi : ziv iv ρ) (hq : q ∈ l) (hm : z_mx iv0 l = some m) (hf : 0 ≤ c + z_sum ρ l) : zTg iv ρ (z_tgq iv0 iv (c + m) q) := by
  unfold z_tgq
  split
  next b b' hb hb' =>
    have h1 := z_mx_dec hi0 hb l m hm hq
    have h2 := hi.2.2.1 _ _ hb'
    have h3 : 0 ≤ (c + m - z_mt q b) + q.2 * ρ q.1 := by omega
    generalize c + m - z_mt q b = R at h3
    split
    next hc =>
      have h4 : -ρ q.1 ≤ R / q.2 := Int.le_ediv_of_mul_le hc (by rw [Int.neg_mul, Int.mul_comm]; omega)
      split
      · exact z_tgs_ok hi (by omega) h2.2
      · exact ⟨iv, rfl, hi, rfl⟩
    next =>
      split
      next hc =>
        have h4 : ρ q.1 ≤ R / (-q.2) := Int.le_ediv_of_mul_le (show 0 < -q.2 by omega) (by rw [Int.mul_neg, Int.mul_comm]; omega)
        split
        · exact z_tgs_ok hi h2.1 h4
        · exact ⟨iv, rfl, hi, rfl⟩
      next => exact ⟨iv, rfl, hi, rfl⟩
  next => exact ⟨iv, rfl, hi, rfl⟩
def z_tgl (iv0 : zI) (M : Int) (o : Option zI) : List (Nat × Int) → Option zI
  | [] => o
  | q :: r => z_tgl iv0 M (match o with
    | some iv => z_tgq iv0 iv M q
    | none => none) r
theorem z_tgl_ok {iv0 : zI} {ρ : Nat → Int} {l : List (Nat × Int)} {c m : Int} (hi0 : ziv iv0 ρ) (hm : z_mx iv0 l = some m) (hf : 0 ≤ c + z_sum ρ l) : ∀ (r : List (Nat × Int)) (iv : zI) (o : Option zI), (∀ q ∈ r, q ∈ l) → zTg iv ρ o → zTg iv ρ (z_tgl iv0 (c + m) o r)
  | [], iv, o, _, h => h
  | q :: r, iv, o, hr, h => by
    obtain ⟨iv', rfl, h1, h2⟩ := h
    unfold z_tgl
    obtain ⟨iv2, e, h3, h4⟩ := z_tgq_ok hi0 h1 (hr q List.mem_cons_self) hm hf
    exact z_tgl_ok hi0 hm hf r iv _ (fun w hw => hr w (List.mem_cons_of_mem _ hw)) ⟨iv2, e, h3, h4.trans h2⟩
def z_tgf (o : Option zI) (f : zFc) : Option zI := match o with
  | none => none
  | some iv => (match z_mx iv f.2 with
    | some m => z_fI (f.1 + m) (fun M => z_tgl iv M (some iv) f.2)
    | none => some iv)
theorem z_tgf_ok {iv : zI} {ρ : Nat → Int} {o : Option zI} {f : zFc} (h : zTg iv ρ o) (hf : 0 ≤ z_ev ρ f) : zTg iv ρ (z_tgf o f) := by
  obtain ⟨iv', rfl, h1, h2⟩ := h
  unfold z_tgf
  dsimp only
  split
  next m hm =>
    rw [z_fI_eq]
    obtain ⟨iv2, e, h3, h4⟩ := z_tgl_ok h1 hm hf f.2 iv' (some iv') (fun _ h => h) ⟨iv', rfl, h1, rfl⟩
    exact ⟨iv2, e, h3, h4.trans h2⟩
  next => exact ⟨iv', rfl, h1, h2⟩
def z_tgk (o : Option zI) (d : zDj) : Option zI := match o with
  | none => none
  | some iv => (match iv.at d.1.1, iv.at d.2.1 with
    | some b, some b' => if b.2 < d.1.2.1 ∨ d.1.2.2 < b.1 then z_tgs iv d.2.1 (max b'.1 d.2.2.1) (min b'.2 d.2.2.2) else if b'.2 < d.2.2.1 ∨ d.2.2.2 < b'.1 then z_tgs iv d.1.1 (max b.1 d.1.2.1) (min b.2 d.1.2.2) else some iv
    | _, _ => some iv)
theorem z_tgk_ok {iv : zI} {ρ : Nat → Int} {o : Option zI} {d : zDj} (h : zTg iv ρ o) (hk : zDjp ρ d) : zTg iv ρ (z_tgk o d) := by
  obtain ⟨iv', rfl, h1, h2⟩ := h
  unfold z_tgk
  dsimp only
  split
  next b b' hb hb' =>
    have h3 := h1.2.2.1 _ _ hb
    have h6 := h1.2.2.1 _ _ hb'
    unfold zDjp at hk
    split
    next hc =>
      obtain ⟨iv2, e, h4, h5⟩ := z_tgs_ok (k := d.2.1) (lo := max b'.1 d.2.2.1) (hi := min b'.2 d.2.2.2) h1 (by omega) (by omega)
      exact ⟨iv2, e, h4, h5.trans h2⟩
    next =>
      split
      next hc =>
        obtain ⟨iv2, e, h4, h5⟩ := z_tgs_ok (k := d.1.1) (lo := max b.1 d.1.2.1) (hi := min b.2 d.1.2.2) h1 (by omega) (by omega)
        exact ⟨iv2, e, h4, h5.trans h2⟩
      next => exact ⟨iv', rfl, h1, h2⟩
  next => exact ⟨iv', rfl, h1, h2⟩
theorem z_tgF_ok {iv : zI} {ρ : Nat → Int} : ∀ (l : List zFc) (o : Option zI), (∀ f ∈ l, 0 ≤ z_ev ρ f) → zTg iv ρ o → zTg iv ρ (l.foldl z_tgf o)
  | [], o, _, h => h
  | f :: r, o, hf, h => z_tgF_ok r _ (fun g hg => hf g (List.mem_cons_of_mem _ hg)) (z_tgf_ok h (hf f List.mem_cons_self))
theorem z_tgK_ok {iv : zI} {ρ : Nat → Int} : ∀ (l : List zDj) (o : Option zI), (∀ k ∈ l, zDjp ρ k) → zTg iv ρ o → zTg iv ρ (l.foldl z_tgk o)
  | [], o, _, h => h
  | f :: r, o, hf, h => z_tgK_ok r _ (fun g hg => hf g (List.mem_cons_of_mem _ hg)) (z_tgk_ok h (hf f List.mem_cons_self))
/-- n times through all of them -/
def z_tgt (iv : zI) : Nat → Option zI
  | 0 => some iv
  | n + 1 => iv.fs.2.1.foldl z_tgf (iv.fs.2.2.2.foldl z_tgk (z_tgt iv n))
theorem z_tgt_ok {iv : zI} {ρ : Nat → Int} (h : ziv iv ρ) : ∀ n : Nat, zTg iv ρ (z_tgt iv n)
  | 0 => ⟨iv, rfl, h, rfl⟩
  | n + 1 => z_tgF_ok _ _ (fun f hf => (h.2.2.2.1 f hf).1) (z_tgK_ok _ _ (fun k hk => (h.2.2.2.2.2 k hk).2) (z_tgt_ok h n))
/-! ===== what a branch between two symbols tells, where facts are kept ===== -/
def z_cpf (iv : zI) (c : Int) (x y : zV) (o : Option zI) : Option zI := match o with
  | some iv' => bif iv.fs.1 && (!(Nat.beq x.2.1 0) && (!(Nat.beq y.2.1 0) && !(Nat.beq x.2.1 y.2.1))) then some (z_afF iv' (z_ff c [(1, y), (-1, x)])) else some iv'
  | none => none
theorem z_cpf_ok {iv : zI} {ρ : Nat → Int} {c : Int} {x y : zV} {o : Option zI} (h : zRf iv ρ o) (hx : x.2.1 < iv.length) (hy : y.2.1 < iv.length) (hv : 0 ≤ c + (z_val ρ y - z_val ρ x)) : zRf iv ρ (z_cpf iv c x y o) := by
  obtain ⟨iv', rfl, h1, h2⟩ := h
  unfold z_cpf
  dsimp only
  cases iv.fs.1 && (!(Nat.beq x.2.1 0) && (!(Nat.beq y.2.1 0) && !(Nat.beq x.2.1 y.2.1))) with
  | false => exact ⟨iv', rfl, h1, h2⟩
  | true =>
    dsimp only [cond_true]
    rw [z_afF_eq]
    refine ⟨_, rfl, zI.af_ok h1 ?_ (z_ff_mem _ (fun q hq => ?_)), h2⟩
    · rw [z_ff_ok h1.1]
      show 0 ≤ c + (1 * z_val ρ y + (-1 * z_val ρ x + 0))
      omega
    · rw [h2]
      rcases List.mem_cons.mp hq with e | e
      · subst e; exact hy
      · rw [List.mem_singleton] at e; subst e; exact hx
def z_ltf (iv : zI) (x y : zV) : Option zI := z_cpf iv (-1) x y (z_lt iv x y)
def z_lef (iv : zI) (x y : zV) : Option zI := z_cpf iv 0 x y (z_le iv x y)
def z_eqf (iv : zI) (x y : zV) : Option zI := z_cpf iv 0 x y (z_cpf iv 0 y x (z_eq iv x y))
theorem z_ltf_ok {iv : zI} {ρ : Nat → Int} {x y : zV} (h : ziv iv ρ) (hx : x.2.1 < iv.length) (hy : y.2.1 < iv.length) (hv : z_val ρ x < z_val ρ y) : zRf iv ρ (z_ltf iv x y) := z_cpf_ok (z_lt_ok h hv) hx hy (by omega)
theorem z_lef_ok {iv : zI} {ρ : Nat → Int} {x y : zV} (h : ziv iv ρ) (hx : x.2.1 < iv.length) (hy : y.2.1 < iv.length) (hv : z_val ρ x ≤ z_val ρ y) : zRf iv ρ (z_lef iv x y) := z_cpf_ok (z_le_ok h hv) hx hy (by omega)
theorem z_eqf_ok {iv : zI} {ρ : Nat → Int} {x y : zV} (h : ziv iv ρ) (hx : x.2.1 < iv.length) (hy : y.2.1 < iv.length) (hv : z_val ρ x = z_val ρ y) : zRf iv ρ (z_eqf iv x y) := z_cpf_ok (z_cpf_ok (z_eq_ok h hv) hy hx (by omega)) hx hy (by omega)
def z_sm (iv : zI) (x : zV) : Bool := match iv.at x.2.1 with
  | some q => decide (0 ≤ q.1 ∧ q.2 ≤ 3)
  | none => false
/-- not the same: where one is known to be at most the other, it is less -/
def z_nef (iv : zI) (x y : zV) : List zI := bif iv.fs.1 && (!(Nat.beq x.2.1 0) && (!(Nat.beq y.2.1 0) && !(Nat.beq x.2.1 y.2.1))) then (bif z_pv iv 4 (z_ff 0 [(1, y), (-1, x)]) then z_ol (z_ltf iv x y) else bif z_pv iv 4 (z_ff 0 [(1, x), (-1, y)]) then z_ol (z_ltf iv y x) else bif z_sm iv x && z_sm iv y then z_ol (z_ltf iv x y) ++ z_ol (z_ltf iv y x) else [iv]) else z_ne iv x y
theorem z_nef_ok {iv : zI} {ρ : Nat → Int} {x y : zV} (h : ziv iv ρ) (hx : x.2.1 < iv.length) (hy : y.2.1 < iv.length) (hv : ¬ z_val ρ x = z_val ρ y) : zRl iv ρ (z_nef iv x y) := by
  unfold z_nef
  cases iv.fs.1 && (!(Nat.beq x.2.1 0) && (!(Nat.beq y.2.1 0) && !(Nat.beq x.2.1 y.2.1))) with
  | false => exact z_ne_ok h hv
  | true =>
    cases h1 : z_pv iv 4 (z_ff 0 [(1, y), (-1, x)]) with
    | true =>
      have t := z_pv_ok h 4 _ h1
      rw [z_ff_ok h.1] at t
      change 0 ≤ 0 + (1 * z_val ρ y + (-1 * z_val ρ x + 0)) at t
      exact (z_ltf_ok h hx hy (by omega)).l
    | false =>
      cases h2 : z_pv iv 4 (z_ff 0 [(1, x), (-1, y)]) with
      | true =>
        have t := z_pv_ok h 4 _ h2
        rw [z_ff_ok h.1] at t
        change 0 ≤ 0 + (1 * z_val ρ x + (-1 * z_val ρ y + 0)) at t
        exact (z_ltf_ok h hy hx (by omega)).l
      | false =>
        show zRl iv ρ (bif z_sm iv x && z_sm iv y then z_ol (z_ltf iv x y) ++ z_ol (z_ltf iv y x) else [iv])
        cases z_sm iv x && z_sm iv y with
        | false => exact ⟨iv, List.mem_singleton.mpr rfl, h, rfl⟩
        | true =>
          rcases Int.lt_or_gt_of_ne hv with q | q
          · obtain ⟨iv', m1, m2, m3⟩ := (z_ltf_ok h hx hy q).l
            exact ⟨iv', List.mem_append_left _ m1, m2, m3⟩
          · obtain ⟨iv', m1, m2, m3⟩ := (z_ltf_ok h hy hx q).l
            exact ⟨iv', List.mem_append_right _ m1, m2, m3⟩
def z_brf (cd : Jvm.ClassFile.Cond) (iv : zI) (x y : zV) : List zI × List zI := match cd with
  | .eq => (z_ol (z_eqf iv x y), z_nef iv x y)
  | .ne => (z_nef iv x y, z_ol (z_eqf iv x y))
  | .lt => (z_ol (z_ltf iv x y), z_ol (z_lef iv y x))
  | .ge => (z_ol (z_lef iv y x), z_ol (z_ltf iv x y))
  | .gt => (z_ol (z_ltf iv y x), z_ol (z_lef iv x y))
  | .le => (z_ol (z_lef iv x y), z_ol (z_ltf iv y x))
