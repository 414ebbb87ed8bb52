/-! ===== a checker for bytecode: abstract values, intervals, known cells ===== -/
abbrev zV : Type := Nat × Nat × Int
/-- a fact: a number and numbers times symbols, at least 0 -/
abbrev zFc : Type := Int × List (Nat × Int)
/-- this symbol lies here, or that one there -/
abbrev zDj : Type := (Nat × Int × Int) × (Nat × Int × Int)
/-- are facts kept; facts; operations already done (which, of what, what came); facts of the form 'this or that' -/
abbrev zFs : Type := Bool × List zFc × List (Nat × zV × zV × zV) × List zDj
/-- intervals of the symbols: how many, and each; and what else is known of them -/
def zI : Type := Nat × (Nat → Int × Int) × zFs
def zI.length (iv : zI) : Nat := Prod.fst iv
def zI.fs (iv : zI) : zFs := Prod.snd (Prod.snd iv)
def zI.at (iv : zI) (i : Nat) : Option (Int × Int) := bif Nat.blt i (Prod.fst iv) then some (Prod.fst (Prod.snd iv) i) else none
def zI.push (iv : zI) (q : Int × Int) : zI := Prod.mk (Prod.fst iv + 1) (Prod.mk (fun i => bif Nat.beq i (Prod.fst iv) then q else Prod.fst (Prod.snd iv) i) (Prod.snd (Prod.snd iv)))
def zI.set (iv : zI) (k : Nat) (q : Int × Int) : zI := Prod.mk (Prod.fst iv) (Prod.mk (fun i => bif Nat.beq i k then q else Prod.fst (Prod.snd iv) i) (Prod.snd (Prod.snd iv)))
/-- the same intervals, other facts -/
def zI.wf (iv : zI) (fs : zFs) : zI := Prod.mk (Prod.fst iv) (Prod.mk (Prod.fst (Prod.snd iv)) fs)
theorem zI.at_lt {iv : zI} {i : Nat} {q : Int × Int} (h : iv.at i = some q) : i < iv.length := by
  unfold zI.at at h
  cases hb : Nat.blt i (Prod.fst iv) with
  | true => exact Nat.le_of_ble_eq_true hb
  | false => rw [hb] at h; cases h
theorem zI.at_push {iv : zI} {i : Nat} {q r : Int × Int} (h : (iv.push q).at i = some r) : (i < iv.length ∧ iv.at i = some r) ∨ (i = iv.length ∧ r = q) := by
  have hl : i < iv.length + 1 := zI.at_lt h
  by_cases e : i = iv.length
  · refine Or.inr ⟨e, ?_⟩
    unfold zI.at at h
    rw [show Nat.blt i (Prod.fst (iv.push q)) = true from Nat.ble_eq_true_of_le hl] at h
    have h2 : (bif Nat.beq i (Prod.fst iv) then q else Prod.fst (Prod.snd iv) i) = r := Option.some.inj h
    rw [show Nat.beq i (Prod.fst iv) = true by rw [e]; exact Nat.beq_refl _] at h2
    exact h2.symm
  · have hl' : i < iv.length := by omega
    refine Or.inl ⟨hl', ?_⟩
    unfold zI.at at h ⊢
    rw [show Nat.blt i (Prod.fst (iv.push q)) = true from Nat.ble_eq_true_of_le hl] at h
    rw [show Nat.blt i (Prod.fst iv) = true from Nat.ble_eq_true_of_le hl']
    have h2 : (bif Nat.beq i (Prod.fst iv) then q else Prod.fst (Prod.snd iv) i) = r := Option.some.inj h
    rw [show Nat.beq i (Prod.fst iv) = false from Bool.eq_false_iff.mpr (fun hb => e (Nat.eq_of_beq_eq_true hb))] at h2
    exact congrArg some h2
theorem zI.at_set {iv : zI} {k i : Nat} {q r : Int × Int} (h : (iv.set k q).at i = some r) : (i = k ∧ r = q) ∨ iv.at i = some r := by
  have hl : i < (iv.set k q).length := zI.at_lt h
  change i < iv.length at hl
  unfold zI.at at h ⊢
  rw [show Nat.blt i (Prod.fst (iv.set k q)) = true from Nat.ble_eq_true_of_le hl] at h
  rw [show Nat.blt i (Prod.fst iv) = true from Nat.ble_eq_true_of_le hl]
  have h2 : (bif Nat.beq i k then q else Prod.fst (Prod.snd iv) i) = r := Option.some.inj h
  cases hb : Nat.beq i k with
  | true => rw [hb] at h2; exact Or.inl ⟨Nat.eq_of_beq_eq_true hb, h2.symm⟩
  | false => rw [hb] at h2; exact Or.inr (congrArg some h2)
abbrev zL : Type := List (Nat × zV)
abbrev zRw : Type := List (List (Option zV))
/-- what stands in an array of ints at a place that isn't a number: which, where, what -/
abbrev zMo : Type := Nat × zV × zV
/-- what is known of the cells: how many; is nothing known of one; what stands at a place of one -/
def zO : Type := Nat × (Nat → Bool) × (Nat → Nat → Option zV) × List zMo
def zO.length (ov : zO) : Nat := Prod.fst ov
abbrev zC : Type := Nat × Nat × List (Nat × Int × Int)
/-- an instruction: its code, a count, a number, numbers -/
abbrev zQ : Type := Nat × Nat × Int × List Int
abbrev zP : Type := Nat × zQ × Nat
/-- cells, slots, intervals, values by place, stack, known cells -/
abbrev zS : Type := Nat × Nat × zI × zL × List zV × zO
abbrev zR : Type := Option (List (Option Nat × zS))
def z_val (ρ : Nat → Int) (v : zV) : Int := ρ v.2.1 + v.2.2
/-- a reference, or null -/
def z_rn (n : Nat) : Value := match n with
  | 0 => .null
  | k + 1 => .ref k
def zcv (ad : Nat → Nat) (b : Nat → Nat) (ρ : Nat → Int) (v : zV) : Value := match v.1 with
  | 0 => .int (Int32.ofInt (z_val ρ v))
  | 1 => .long (Int64.ofInt (z_val ρ v))
  | 2 => .ref (ad v.2.1)
  | 3 => .null
  | 4 => .ref (b v.2.1)
  | _ => z_rn (b v.2.1)
def zok (n : Nat) (iv : zI) (ρ : Nat → Int) (v : zV) : Prop := match v.1 with
  | 0 => v.2.1 < iv.length ∧ -2147483648 ≤ z_val ρ v ∧ z_val ρ v ≤ 2147483647
  | 1 => v.2.1 < iv.length ∧ -9223372036854775808 ≤ z_val ρ v ∧ z_val ρ v ≤ 9223372036854775807
  | 2 => v.2.1 < n
  | _ => True
def z_sum (ρ : Nat → Int) (l : List (Nat × Int)) : Int := match l with
  | [] => 0
  | q :: r => q.2 * ρ q.1 + z_sum ρ r
def z_ev (ρ : Nat → Int) (f : zFc) : Int := f.1 + z_sum ρ f.2
/-- the machine's own answer of an operation, by its number -/
def z_opI (k : Nat) (a b : Int32) : Int32 := match k with
  | 0 => a + b
  | 1 => a - b
  | 2 => a * b
  | _ => a &&& b
def zDjp (ρ : Nat → Int) (d : zDj) : Prop := (d.1.2.1 ≤ ρ d.1.1 ∧ ρ d.1.1 ≤ d.1.2.2) ∨ (d.2.2.1 ≤ ρ d.2.1 ∧ ρ d.2.1 ≤ d.2.2.2)
def z_act (x : Int) : Prop := (0 ≤ x ∧ x ≤ 589013) ∨ (10000000 ≤ x ∧ x ≤ 13040013)
/-- what is known of symbols below n -/
def zFk (n : Nat) (fs : zFs) (ρ : Nat → Int) : Prop :=
  (∀ f ∈ fs.2.1, 0 ≤ z_ev ρ f ∧ ∀ q ∈ f.2, q.1 < n) ∧
  (∀ e ∈ fs.2.2.1, (e.2.1.2.1 < n ∧ e.2.2.1.2.1 < n ∧ e.2.2.2.2.1 < n) ∧ e.2.2.2.1 = 0 ∧ z_val ρ e.2.2.2 = (z_opI e.1 (Int32.ofInt (z_val ρ e.2.1)) (Int32.ofInt (z_val ρ e.2.2.1))).toInt) ∧
  ∀ d ∈ fs.2.2.2, (d.1.1 < n ∧ d.2.1 < n) ∧ zDjp ρ d
def ziv (iv : zI) (ρ : Nat → Int) : Prop := ρ 0 = 0 ∧ 0 < iv.length ∧ (∀ (i : Nat) (q : Int × Int), iv.at i = some q → q.1 ≤ ρ i ∧ ρ i ≤ q.2) ∧ zFk iv.length iv.fs ρ
theorem z_sum_ext {ρ ρ' : Nat → Int} {n : Nat} (hx : ∀ i, i < n → ρ' i = ρ i) : ∀ l : List (Nat × Int), (∀ q ∈ l, q.1 < n) → z_sum ρ' l = z_sum ρ l
  | [], _ => rfl
  | q :: r, h => by
    unfold z_sum
    rw [hx q.1 (h q List.mem_cons_self), z_sum_ext hx r (fun w hw => h w (List.mem_cons_of_mem _ hw))]
theorem zFk.ext {n n' : Nat} {fs : zFs} {ρ ρ' : Nat → Int} (h : zFk n fs ρ) (hx : ∀ i, i < n → ρ' i = ρ i) (hn : n ≤ n') : zFk n' fs ρ' := by
  refine ⟨fun f hf => ?_, fun e he => ?_, fun k hk => ?_⟩
  · obtain ⟨h1, h2⟩ := h.1 f hf
    refine ⟨?_, fun q hq => Nat.lt_of_lt_of_le (h2 q hq) hn⟩
    unfold z_ev at h1 ⊢
    rw [z_sum_ext hx f.2 h2]
    exact h1
  · obtain ⟨⟨h1, h2, h3⟩, h4, h5⟩ := h.2.1 e he
    refine ⟨⟨Nat.lt_of_lt_of_le h1 hn, Nat.lt_of_lt_of_le h2 hn, Nat.lt_of_lt_of_le h3 hn⟩, h4, ?_⟩
    unfold z_val at h5 ⊢
    rw [hx _ h1, hx _ h2, hx _ h3]
    exact h5
  · obtain ⟨⟨h1, h2⟩, h3⟩ := h.2.2 k hk
    refine ⟨⟨Nat.lt_of_lt_of_le h1 hn, Nat.lt_of_lt_of_le h2 hn⟩, ?_⟩
    unfold zDjp at h3 ⊢
    rw [hx _ h1, hx _ h2]
    exact h3
theorem z_bm32 {z : Int} (h1 : -2147483648 ≤ z) (h2 : z ≤ 2147483647) : z.bmod 4294967296 = z := by
  rw [Int.bmod_def]
  split <;> omega
theorem z_bm64 {z : Int} (h1 : -9223372036854775808 ≤ z) (h2 : z ≤ 9223372036854775807) : z.bmod 18446744073709551616 = z := by
  rw [Int.bmod_def]
  split <;> omega
theorem z_i32 {z : Int} (h1 : -2147483648 ≤ z) (h2 : z ≤ 2147483647) : (Int32.ofInt z).toInt = z := by
  rw [Int32.toInt_ofInt]
  exact z_bm32 h1 h2
theorem z_i64 {z : Int} (h1 : -9223372036854775808 ≤ z) (h2 : z ≤ 9223372036854775807) : (Int64.ofInt z).toInt = z := by
  rw [Int64.toInt_ofInt]
  exact z_bm64 h1 h2
theorem z_r32 (x : Int32) : -2147483648 ≤ x.toInt ∧ x.toInt ≤ 2147483647 := by
  have a := x.le_toInt
  have b := x.toInt_lt
  omega
theorem z_r64 (x : Int64) : -9223372036854775808 ≤ x.toInt ∧ x.toInt ≤ 9223372036854775807 := by
  have a := x.le_toInt
  have b := x.toInt_lt
  omega
theorem z_o32 (x : Int32) : Int32.ofInt x.toInt = x := by
  apply Int32.toInt_inj.mp
  exact z_i32 (z_r32 x).1 (z_r32 x).2
theorem z_o64 (x : Int64) : Int64.ofInt x.toInt = x := by
  apply Int64.toInt_inj.mp
  exact z_i64 (z_r64 x).1 (z_r64 x).2
theorem zok_ext {n n' : Nat} {iv iv' : zI} {ρ ρ' : Nat → Int} {v : zV} (h : zok n iv ρ v) (hx : ∀ i, i < iv.length → ρ' i = ρ i) (hl : iv.length ≤ iv'.length) (hn : n ≤ n') : zok n' iv' ρ' v := by
  obtain ⟨k, s, o⟩ := v
  match k, h with
  | 0, h =>
    obtain ⟨h1, h2, h3⟩ := h
    have e : ρ' s = ρ s := hx s h1
    have h1' : s < iv.length := h1
    refine ⟨Nat.lt_of_lt_of_le h1' hl, ?_, ?_⟩ <;> (unfold z_val at *; dsimp only at *; rw [e]; assumption)
  | 1, h =>
    obtain ⟨h1, h2, h3⟩ := h
    have e : ρ' s = ρ s := hx s h1
    have h1' : s < iv.length := h1
    refine ⟨Nat.lt_of_lt_of_le h1' hl, ?_, ?_⟩ <;> (unfold z_val at *; dsimp only at *; rw [e]; assumption)
  | 2, h => exact Nat.lt_of_lt_of_le (show s < n from h) hn
  | _ + 3, _ => exact True.intro
theorem zcv_ext {n : Nat} {iv : zI} {ρ ρ' : Nat → Int} {ad ad' : Nat → Nat} {b : Nat → Nat} {v : zV} (h : zok n iv ρ v) (hx : ∀ i, i < iv.length → ρ' i = ρ i) (ha : ∀ q, q < n → ad' q = ad q) : zcv ad' b ρ' v = zcv ad b ρ v := by
  obtain ⟨k, s, o⟩ := v
  match k, h with
  | 0, h =>
    have e : ρ' s = ρ s := hx s h.1
    show Value.int (Int32.ofInt (ρ' s + o)) = Value.int (Int32.ofInt (ρ s + o))
    rw [e]
  | 1, h =>
    have e : ρ' s = ρ s := hx s h.1
    show Value.long (Int64.ofInt (ρ' s + o)) = Value.long (Int64.ofInt (ρ s + o))
    rw [e]
  | 2, h =>
    show Value.ref (ad' s) = Value.ref (ad s)
    rw [ha s h]
  | 3, _ => rfl
  | 4, _ => rfl
  | _ + 5, _ => rfl
def z_bd (iv : zI) (v : zV) : Option (Int × Int) := match iv.at v.2.1 with
  | some q => some (q.1 + v.2.2, q.2 + v.2.2)
  | none => none
theorem z_bd_ok {iv : zI} {ρ : Nat → Int} {v : zV} {q : Int × Int} (h : z_bd iv v = some q) (hi : ziv iv ρ) : v.2.1 < iv.length ∧ q.1 ≤ z_val ρ v ∧ z_val ρ v ≤ q.2 := by
  unfold z_bd at h
  split at h
  next q' hq =>
    cases h
    have h1 := hi.2.2.1 _ _ hq
    refine ⟨zI.at_lt hq, ?_, ?_⟩ <;> (unfold z_val; dsimp only; omega)
  next => cases h
/-! numbers reckoned at once: the kernel hands a number on, not the way to it -/
def z_fN {α : Type} (n : Nat) (k : Nat → α) : α := match n with
  | 0 => k 0
  | m + 1 => k (m + 1)
theorem z_fN_eq {α : Type} (n : Nat) (k : Nat → α) : z_fN n k = k n := by cases n <;> rfl
def z_fI {α : Type} (x : Int) (k : Int → α) : α := match x with
  | .ofNat n => z_fN n (fun m => k (.ofNat m))
  | .negSucc n => z_fN n (fun m => k (.negSucc m))
theorem z_fI_eq {α : Type} (x : Int) (k : Int → α) : z_fI x k = k x := by
  cases x with
  | ofNat n => exact z_fN_eq n (fun m => k (Int.ofNat m))
  | negSucc n => exact z_fN_eq n (fun m => k (Int.negSucc m))
def z_fL {α : Type} : List (Nat × Int) → (List (Nat × Int) → α) → α
  | [], k => k []
  | q :: r, k => z_fN q.1 (fun a => z_fI q.2 (fun b => z_fL r (fun t => k ((a, b) :: t))))
theorem z_fL_eq {α : Type} : ∀ (l : List (Nat × Int)) (k : List (Nat × Int) → α), z_fL l k = k l
  | [], _ => rfl
  | q :: r, k => by
    unfold z_fL
    rw [z_fN_eq, z_fI_eq, z_fL_eq r]
/-- a fact, reckoned at once -/
def z_fF {α : Type} (f : Int × List (Nat × Int)) (k : Int × List (Nat × Int) → α) : α := match f with
  | (c, t) => z_fI c (fun c => z_fL t (fun t => k (c, t)))
theorem z_fF_eq {α : Type} (f : Int × List (Nat × Int)) (k : Int × List (Nat × Int) → α) : z_fF f k = k f := by
  obtain ⟨c, t⟩ := f
  unfold z_fF
  dsimp only
  rw [z_fI_eq, z_fL_eq]
def z_mk (iv : zI) (k : Nat) (lo hi : Int) : zI × zV := z_fI lo (fun lo => z_fI hi (fun hi => if lo = hi then (iv, (k, 0, lo)) else z_fN iv.length (fun n => (iv.push (lo, hi), (k, n, 0)))))
theorem z_mk_eq {iv : zI} {k : Nat} {lo hi : Int} : z_mk iv k lo hi = if lo = hi then (iv, (k, 0, lo)) else (iv.push (lo, hi), (k, iv.length, 0)) := by
  unfold z_mk
  rw [z_fI_eq, z_fI_eq, z_fN_eq]
/-- what a new value brings -/
def zNw (iv iv' : zI) (ρ ρ' : Nat → Int) (k : Nat) (v : zV) (x : Int) : Prop := (∀ i, i < iv.length → ρ' i = ρ i) ∧ iv.length ≤ iv'.length ∧ ziv iv' ρ' ∧ v.1 = k ∧ v.2.1 < iv'.length ∧ z_val ρ' v = x
theorem z_mk_ok {iv : zI} {ρ : Nat → Int} (k : Nat) {lo hi x : Int} (hi' : ziv iv ρ) (h1 : lo ≤ x) (h2 : x ≤ hi) : ∃ ρ', zNw iv (z_mk iv k lo hi).1 ρ ρ' k (z_mk iv k lo hi).2 x := by
  rw [z_mk_eq]
  by_cases e : lo = hi
  · rw [if_pos e]
    refine ⟨ρ, fun _ _ => rfl, Nat.le_refl _, hi', rfl, hi'.2.1, ?_⟩
    show ρ 0 + lo = x
    rw [hi'.1]; omega
  · rw [if_neg e]
    refine ⟨fun i => if i = iv.length then x else ρ i, fun i h => if_neg (Nat.ne_of_lt h), Nat.le_succ _, ⟨?_, Nat.succ_pos _, ?_, hi'.2.2.2.ext (fun i h => if_neg (Nat.ne_of_lt h)) (Nat.le_succ _)⟩, rfl, Nat.lt_succ_self _, ?_⟩
    · show (if 0 = iv.length then x else ρ 0) = 0
      rw [if_neg (Nat.ne_of_lt hi'.2.1)]; exact hi'.1
    · intro i q hq
      show q.1 ≤ (if i = iv.length then x else ρ i) ∧ (if i = iv.length then x else ρ i) ≤ q.2
      rcases zI.at_push hq with ⟨hl, hq⟩ | ⟨hl, rfl⟩
      · rw [if_neg (Nat.ne_of_lt hl)]
        exact hi'.2.2.1 i q hq
      · rw [if_pos hl]
        exact ⟨h1, h2⟩
    · show (if iv.length = iv.length then x else ρ iv.length) + 0 = x
      rw [if_pos rfl]; omega
def z_rl (k : Nat) : Int := if k = 0 then -2147483648 else -9223372036854775808
def z_rh (k : Nat) : Int := if k = 0 then 2147483647 else 9223372036854775807
def z_in (k : Nat) (lo hi : Int) : Bool := decide (z_rl k ≤ lo) && decide (hi ≤ z_rh k)
def z_add (k : Nat) (iv : zI) (x y : zV) : Option (zI × zV) := match z_bd iv x, z_bd iv y with
  | some q1, some q2 => if z_in k (q1.1 + q2.1) (q1.2 + q2.2) then (if x.2.1 = 0 then some (iv, (k, y.2.1, x.2.2 + y.2.2)) else if y.2.1 = 0 then some (iv, (k, x.2.1, x.2.2 + y.2.2)) else some (z_mk iv k (q1.1 + q2.1) (q1.2 + q2.2))) else some (z_mk iv k (z_rl k) (z_rh k))
  | _, _ => none
def z_sub (k : Nat) (iv : zI) (x y : zV) : Option (zI × zV) := match z_bd iv x, z_bd iv y with
  | some q1, some q2 => if z_in k (q1.1 - q2.2) (q1.2 - q2.1) then (if y.2.1 = 0 then some (iv, (k, x.2.1, x.2.2 - y.2.2)) else some (z_mk iv k (q1.1 - q2.2) (q1.2 - q2.1))) else some (z_mk iv k (z_rl k) (z_rh k))
  | _, _ => none
/-- both known: the machine's own answer; else any number of the kind -/
def z_fold (k : Nat) (cf : Int → Int → Int) (iv : zI) (x y : zV) : Option (zI × zV) := match z_bd iv x, z_bd iv y with
  | some q1, some q2 => if q1.1 = q1.2 ∧ q2.1 = q2.2 then some (iv, (k, 0, cf q1.1 q2.1)) else some (z_mk iv k (z_rl k) (z_rh k))
  | _, _ => none
/-- a divisor must be known, and not 0 -/
def z_foldD (k : Nat) (cf : Int → Int → Int) (iv : zI) (x y : zV) : Option (zI × zV) := match z_bd iv y with
  | some q2 => if q2.1 = q2.2 ∧ q2.1 ≠ 0 then z_fold k cf iv x y else none
  | none => none
/-- what an operation on two values must keep -/
def zBi (op : Int32 → Int32 → Int32) (f : zI → zV → zV → Option (zI × zV)) : Prop := ∀ (iv : zI) (x y : zV) (r : zI × zV) (ρ : Nat → Int) (X Y : Int32), f iv x y = some r → ziv iv ρ → x.2.1 < iv.length → y.2.1 < iv.length → X.toInt = z_val ρ x → Y.toInt = z_val ρ y → ∃ ρ', zNw iv r.1 ρ ρ' 0 r.2 (op X Y).toInt
def zBl (op : Int64 → Int64 → Int64) (f : zI → zV → zV → Option (zI × zV)) : Prop := ∀ (iv : zI) (x y : zV) (r : zI × zV) (ρ : Nat → Int) (X Y : Int64), f iv x y = some r → ziv iv ρ → x.2.1 < iv.length → y.2.1 < iv.length → X.toInt = z_val ρ x → Y.toInt = z_val ρ y → ∃ ρ', zNw iv r.1 ρ ρ' 1 r.2 (op X Y).toInt
def zBs (op : Int64 → Int32 → Int64) (f : zI → zV → zV → Option (zI × zV)) : Prop := ∀ (iv : zI) (x y : zV) (r : zI × zV) (ρ : Nat → Int) (X : Int64) (Y : Int32), f iv x y = some r → ziv iv ρ → x.2.1 < iv.length → y.2.1 < iv.length → X.toInt = z_val ρ x → Y.toInt = z_val ρ y → ∃ ρ', zNw iv r.1 ρ ρ' 1 r.2 (op X Y).toInt
theorem z_same {iv : zI} {ρ : Nat → Int} {v : zV} {k : Nat} {x : Int} (hi : ziv iv ρ) (hk : v.1 = k) (hs : v.2.1 < iv.length) (hx : z_val ρ v = x) : ∃ ρ', zNw iv iv ρ ρ' k v x := ⟨ρ, fun _ _ => rfl, Nat.le_refl _, hi, hk, hs, hx⟩
theorem zBi_full {iv : zI} {ρ : Nat → Int} (hi : ziv iv ρ) (r : Int32) : ∃ ρ', zNw iv (z_mk iv 0 (z_rl 0) (z_rh 0)).1 ρ ρ' 0 (z_mk iv 0 (z_rl 0) (z_rh 0)).2 r.toInt := z_mk_ok 0 hi (z_r32 r).1 (z_r32 r).2
theorem zBl_full {iv : zI} {ρ : Nat → Int} (hi : ziv iv ρ) (r : Int64) : ∃ ρ', zNw iv (z_mk iv 1 (z_rl 1) (z_rh 1)).1 ρ ρ' 1 (z_mk iv 1 (z_rl 1) (z_rh 1)).2 r.toInt := z_mk_ok 1 hi (z_r64 r).1 (z_r64 r).2
theorem z_addI {x y : Int32} (h1 : -2147483648 ≤ x.toInt + y.toInt) (h2 : x.toInt + y.toInt ≤ 2147483647) : (x + y).toInt = x.toInt + y.toInt := by
  rw [Int32.toInt_add]
  exact z_bm32 h1 h2
theorem z_subI {x y : Int32} (h1 : -2147483648 ≤ x.toInt - y.toInt) (h2 : x.toInt - y.toInt ≤ 2147483647) : (x - y).toInt = x.toInt - y.toInt := by
  rw [Int32.toInt_sub]
  exact z_bm32 h1 h2
theorem z_addL {x y : Int64} (h1 : -9223372036854775808 ≤ x.toInt + y.toInt) (h2 : x.toInt + y.toInt ≤ 9223372036854775807) : (x + y).toInt = x.toInt + y.toInt := by
  rw [Int64.toInt_add]
  exact z_bm64 h1 h2
theorem z_subL {x y : Int64} (h1 : -9223372036854775808 ≤ x.toInt - y.toInt) (h2 : x.toInt - y.toInt ≤ 9223372036854775807) : (x - y).toInt = x.toInt - y.toInt := by
  rw [Int64.toInt_sub]
  exact z_bm64 h1 h2
theorem z_in0 {lo hi : Int} (h : z_in 0 lo hi = true) : -2147483648 ≤ lo ∧ hi ≤ 2147483647 := by
  simpa [z_in, z_rl, z_rh] using h
theorem z_in1 {lo hi : Int} (h : z_in 1 lo hi = true) : -9223372036854775808 ≤ lo ∧ hi ≤ 9223372036854775807 := by
  simpa [z_in, z_rl, z_rh] using h
theorem zb_iadd : zBi (fun a b => a + b) (z_add 0) := by
  intro iv x y r ρ X Y h hi hx hy eX eY
  unfold z_add at h
  split at h
  next q1 q2 e1 e2 =>
    have b1 := z_bd_ok e1 hi
    have b2 := z_bd_ok e2 hi
    split at h
    next hin =>
      have hr := z_in0 hin
      have es : (X + Y).toInt = z_val ρ x + z_val ρ y := by rw [z_addI (by omega) (by omega), eX, eY]
      split at h
      next h0 =>
        cases h
        refine z_same hi rfl hy ?_
        rw [es]; unfold z_val; dsimp only; rw [h0, hi.1]; omega
      next =>
        split at h
        next h0 =>
          cases h
          refine z_same hi rfl hx ?_
          rw [es]; unfold z_val; dsimp only; rw [h0, hi.1]; omega
        next =>
          cases h
          exact z_mk_ok 0 hi (by rw [es]; omega) (by rw [es]; omega)
    next => cases h; exact zBi_full hi _
  next => cases h
theorem zb_isub : zBi (fun a b => a - b) (z_sub 0) := by
  intro iv x y r ρ X Y h hi hx hy eX eY
  unfold z_sub at h
  split at h
  next q1 q2 e1 e2 =>
    have b1 := z_bd_ok e1 hi
    have b2 := z_bd_ok e2 hi
    split at h
    next hin =>
      have hr := z_in0 hin
      have es : (X - Y).toInt = z_val ρ x - z_val ρ y := by rw [z_subI (by omega) (by omega), eX, eY]
      split at h
      next h0 =>
        cases h
        refine z_same hi rfl hx ?_
        rw [es]; unfold z_val; dsimp only; rw [h0, hi.1]; omega
      next =>
        cases h
        exact z_mk_ok 0 hi (by rw [es]; omega) (by rw [es]; omega)
    next => cases h; exact zBi_full hi _
  next => cases h
theorem zb_ladd : zBl (fun a b => a + b) (z_add 1) := by
  intro iv x y r ρ X Y h hi hx hy eX eY
  unfold z_add at h
  split at h
  next q1 q2 e1 e2 =>
    have b1 := z_bd_ok e1 hi
    have b2 := z_bd_ok e2 hi
    split at h
    next hin =>
      have hr := z_in1 hin
      have es : (X + Y).toInt = z_val ρ x + z_val ρ y := by rw [z_addL (by omega) (by omega), eX, eY]
      split at h
      next h0 =>
        cases h
        refine z_same hi rfl hy ?_
        rw [es]; unfold z_val; dsimp only; rw [h0, hi.1]; omega
      next =>
        split at h
        next h0 =>
          cases h
          refine z_same hi rfl hx ?_
          rw [es]; unfold z_val; dsimp only; rw [h0, hi.1]; omega
        next =>
          cases h
          exact z_mk_ok 1 hi (by rw [es]; omega) (by rw [es]; omega)
    next => cases h; exact zBl_full hi _
  next => cases h
theorem zb_lsub : zBl (fun a b => a - b) (z_sub 1) := by
  intro iv x y r ρ X Y h hi hx hy eX eY
  unfold z_sub at h
  split at h
  next q1 q2 e1 e2 =>
    have b1 := z_bd_ok e1 hi
    have b2 := z_bd_ok e2 hi
    split at h
    next hin =>
      have hr := z_in1 hin
      have es : (X - Y).toInt = z_val ρ x - z_val ρ y := by rw [z_subL (by omega) (by omega), eX, eY]
      split at h
      next h0 =>
        cases h
        refine z_same hi rfl hx ?_
        rw [es]; unfold z_val; dsimp only; rw [h0, hi.1]; omega
      next =>
        cases h
        exact z_mk_ok 1 hi (by rw [es]; omega) (by rw [es]; omega)
    next => cases h; exact zBl_full hi _
  next => cases h
theorem zb_ifold (op : Int32 → Int32 → Int32) : zBi op (z_fold 0 (fun a b => (op (Int32.ofInt a) (Int32.ofInt b)).toInt)) := by
  intro iv x y r ρ X Y h hi hx hy eX eY
  unfold z_fold at h
  split at h
  next q1 q2 e1 e2 =>
    have b1 := z_bd_ok e1 hi
    have b2 := z_bd_ok e2 hi
    split at h
    next h0 =>
      cases h
      have ex : X = Int32.ofInt q1.1 := by rw [← z_o32 X, eX]; congr 1; omega
      have ey : Y = Int32.ofInt q2.1 := by rw [← z_o32 Y, eY]; congr 1; omega
      refine z_same hi rfl hi.2.1 ?_
      show ρ 0 + _ = _
      rw [hi.1, ex, ey]; exact Int.zero_add _
    next => cases h; exact zBi_full hi _
  next => cases h
theorem zb_lfold (op : Int64 → Int64 → Int64) : zBl op (z_fold 1 (fun a b => (op (Int64.ofInt a) (Int64.ofInt b)).toInt)) := by
  intro iv x y r ρ X Y h hi hx hy eX eY
  unfold z_fold at h
  split at h
  next q1 q2 e1 e2 =>
    have b1 := z_bd_ok e1 hi
    have b2 := z_bd_ok e2 hi
    split at h
    next h0 =>
      cases h
      have ex : X = Int64.ofInt q1.1 := by rw [← z_o64 X, eX]; congr 1; omega
      have ey : Y = Int64.ofInt q2.1 := by rw [← z_o64 Y, eY]; congr 1; omega
      refine z_same hi rfl hi.2.1 ?_
      show ρ 0 + _ = _
      rw [hi.1, ex, ey]; exact Int.zero_add _
    next => cases h; exact zBl_full hi _
  next => cases h
theorem zb_sfold (op : Int64 → Int32 → Int64) : zBs op (z_fold 1 (fun a b => (op (Int64.ofInt a) (Int32.ofInt b)).toInt)) := by
  intro iv x y r ρ X Y h hi hx hy eX eY
  unfold z_fold at h
  split at h
  next q1 q2 e1 e2 =>
    have b1 := z_bd_ok e1 hi
    have b2 := z_bd_ok e2 hi
    split at h
    next h0 =>
      cases h
      have ex : X = Int64.ofInt q1.1 := by rw [← z_o64 X, eX]; congr 1; omega
      have ey : Y = Int32.ofInt q2.1 := by rw [← z_o32 Y, eY]; congr 1; omega
      refine z_same hi rfl hi.2.1 ?_
      show ρ 0 + _ = _
      rw [hi.1, ex, ey]; exact Int.zero_add _
    next => cases h; exact zBl_full hi _
  next => cases h
theorem zb_ifoldD (op : Int32 → Int32 → Int32) : zBi op (z_foldD 0 (fun a b => (op (Int32.ofInt a) (Int32.ofInt b)).toInt)) := by
  intro iv x y r ρ X Y h hi hx hy eX eY
  unfold z_foldD at h
  split at h
  next =>
    split at h
    · exact zb_ifold op iv x y r ρ X Y h hi hx hy eX eY
    · cases h
  next => cases h
theorem zb_lfoldD (op : Int64 → Int64 → Int64) : zBl op (z_foldD 1 (fun a b => (op (Int64.ofInt a) (Int64.ofInt b)).toInt)) := by
  intro iv x y r ρ X Y h hi hx hy eX eY
  unfold z_foldD at h
  split at h
  next =>
    split at h
    · exact zb_lfold op iv x y r ρ X Y h hi hx hy eX eY
    · cases h
  next => cases h
/-! ===== facts ===== -/
def z_ins (s : Nat) (c : Int) (l : List (Nat × Int)) : List (Nat × Int) := match l with
  | [] => [(s, c)]
  | q :: r => bif Nat.beq q.1 s then (if q.2 + c = 0 then r else (s, q.2 + c) :: r) else q :: z_ins s c r
theorem z_ins_ok {ρ : Nat → Int} {s : Nat} {c : Int} : ∀ l : List (Nat × Int), z_sum ρ (z_ins s c l) = c * ρ s + z_sum ρ l
  | [] => rfl
  | q :: r => by
    unfold z_ins
    cases hb : Nat.beq q.1 s with
    | true =>
      have e : q.1 = s := Nat.eq_of_beq_eq_true hb
      show z_sum ρ (if q.2 + c = 0 then r else (s, q.2 + c) :: r) = c * ρ s + (q.2 * ρ q.1 + z_sum ρ r)
      rw [e]
      have h2 : (q.2 + c) * ρ s = q.2 * ρ s + c * ρ s := Int.add_mul _ _ _
      split
      next h0 => rw [h0, Int.zero_mul] at h2; omega
      next =>
        show (q.2 + c) * ρ s + z_sum ρ r = c * ρ s + (q.2 * ρ s + z_sum ρ r)
        omega
    | false =>
      show q.2 * ρ q.1 + z_sum ρ (z_ins s c r) = c * ρ s + (q.2 * ρ q.1 + z_sum ρ r)
      rw [z_ins_ok r]
      omega
def z_fadd (k : Int) (g f : List (Nat × Int)) : List (Nat × Int) := match g with
  | [] => f
  | q :: r => z_fadd k r (z_ins q.1 (k * q.2) f)
theorem z_fadd_ok {ρ : Nat → Int} {k : Int} : ∀ g f : List (Nat × Int), z_sum ρ (z_fadd k g f) = k * z_sum ρ g + z_sum ρ f
  | [], f => by
    show z_sum ρ f = k * 0 + z_sum ρ f
    rw [Int.mul_zero, Int.zero_add]
  | q :: r, f => by
    show z_sum ρ (z_fadd k r (z_ins q.1 (k * q.2) f)) = k * (q.2 * ρ q.1 + z_sum ρ r) + z_sum ρ f
    rw [z_fadd_ok r, z_ins_ok, Int.mul_add, Int.mul_assoc]
    omega
/-- the least that a sum can be -/
def z_mn (iv : zI) (l : List (Nat × Int)) : Option Int := match l with
  | [] => some 0
  | q :: r => match iv.at q.1, z_mn iv r with
    | some b, some m => some ((if 0 ≤ q.2 then q.2 * b.1 else q.2 * b.2) + m)
    | _, _ => none
theorem z_mn_ok {iv : zI} {ρ : Nat → Int} (hi : ziv iv ρ) : ∀ (l : List (Nat × Int)) (m : Int), z_mn iv l = some m → m ≤ z_sum ρ l
  | [], m, h => by cases h; exact Int.le_refl _
  | q :: r, m, h => by
    unfold z_mn at h
    split at h
    next b m' hb hm =>
      cases h
      have h1 := hi.2.2.1 _ _ hb
      have h2 := z_mn_ok hi r m' hm
      show _ ≤ q.2 * ρ q.1 + z_sum ρ r
      split
      next h0 =>
        have := Int.mul_le_mul_of_nonneg_left h1.1 h0
        omega
      next h0 =>
        have := Int.mul_le_mul_of_nonpos_left (show q.2 ≤ 0 by omega) h1.2
        omega
    next => cases h
def z_cf (l : List (Nat × Int)) (s : Nat) : Option Int := match l with
  | [] => none
  | q :: r => bif Nat.beq q.1 s then some q.2 else z_cf r s
/-- is this at least 0, by the intervals and by some of the facts -/
def z_pv (iv : zI) : Nat → zFc → Bool
  | 0, f => match z_mn iv f.2 with
    | some m => decide (0 ≤ f.1 + m)
    | none => false
  | d + 1, f => match z_mn iv f.2 with
    | some m => if 0 ≤ f.1 + m then true else f.2.any (fun q => iv.fs.2.1.any (fun g => match z_cf g.2 q.1 with
      | some c => if 0 < c * q.2 ∧ q.2 % c = 0 ∧ 0 ≤ q.2 / c then z_fI (q.2 / c) (fun k => z_fL (z_fadd (-k) g.2 f.2) (fun t => z_fI (f.1 - k * g.1) (fun c0 => z_pv iv d (c0, t)))) else false
      | none => false))
    | none => false
theorem z_pv_ok {iv : zI} {ρ : Nat → Int} (hi : ziv iv ρ) : ∀ (d : Nat) (f : zFc), z_pv iv d f = true → 0 ≤ z_ev ρ f
  | 0, f, h => by
    unfold z_pv at h
    split at h
    next m hm =>
      have h1 := of_decide_eq_true h
      have h2 := z_mn_ok hi f.2 m hm
      unfold z_ev
      omega
    next => cases h
  | d + 1, f, h => by
    unfold z_pv at h
    split at h
    next m hm =>
      split at h
      next h0 =>
        have h2 := z_mn_ok hi f.2 m hm
        unfold z_ev
        omega
      next =>
        obtain ⟨q, hq, h⟩ := List.any_eq_true.mp h
        obtain ⟨g, hg, h⟩ := List.any_eq_true.mp h
        split at h
        next c hc =>
          split at h
          next hk =>
            rw [z_fI_eq, z_fL_eq, z_fI_eq] at h
            have h3 := z_pv_ok hi d _ h
            have h4 := (hi.2.2.2.1 g hg).1
            unfold z_ev at h3 h4 ⊢
            dsimp only at h3
            rw [z_fadd_ok] at h3
            have h5 := Int.mul_nonneg hk.2.2 h4
            rw [Int.mul_add] at h5
            rw [Int.neg_mul] at h3
            omega
          next => cases h
        next => cases h
    next => cases h
/-- a number and values times numbers -/
def z_ff (c : Int) (l : List (Int × zV)) : zFc := match l with
  | [] => (c, [])
  | q :: r => match z_ff c r with
    | (c', f) => if q.2.2.1 = 0 then (c' + q.1 * q.2.2.2, f) else (c' + q.1 * q.2.2.2, z_ins q.2.2.1 q.1 f)
def z_vs (ρ : Nat → Int) (l : List (Int × zV)) : Int := match l with
  | [] => 0
  | q :: r => q.1 * z_val ρ q.2 + z_vs ρ r
theorem z_ff_ok {ρ : Nat → Int} {c : Int} (h0 : ρ 0 = 0) : ∀ l : List (Int × zV), z_ev ρ (z_ff c l) = c + z_vs ρ l
  | [] => rfl
  | q :: r => by
    have ih := z_ff_ok (c := c) h0 r
    unfold z_ff
    cases hz : z_ff c r with
    | mk c' f =>
      rw [hz] at ih
      unfold z_ev at ih
      dsimp only at ih ⊢
      show z_ev ρ (if q.2.2.1 = 0 then (c' + q.1 * q.2.2.2, f) else (c' + q.1 * q.2.2.2, z_ins q.2.2.1 q.1 f)) = c + (q.1 * (ρ q.2.2.1 + q.2.2.2) + z_vs ρ r)
      rw [Int.mul_add]
      split
      next e =>
        unfold z_ev
        dsimp only
        rw [e, h0, Int.mul_zero]
        omega
      next =>
        unfold z_ev
        dsimp only
        rw [z_ins_ok]
        omega
theorem z_ins_mem {s : Nat} {c : Int} {n : Nat} (hs : s < n) : ∀ l : List (Nat × Int), (∀ q ∈ l, q.1 < n) → ∀ q ∈ z_ins s c l, q.1 < n
  | [], _, q, hq => by
    rw [show z_ins s c [] = [(s, c)] from rfl, List.mem_singleton] at hq
    subst hq
    exact hs
  | a :: r, h, q, hq => by
    unfold z_ins at hq
    have hr : ∀ q ∈ r, q.1 < n := fun w hw => h w (List.mem_cons_of_mem _ hw)
    cases hb : Nat.beq a.1 s with
    | true =>
      rw [hb] at hq
      change q ∈ (if a.2 + c = 0 then r else (s, a.2 + c) :: r) at hq
      split at hq
      · exact hr q hq
      · rcases List.mem_cons.mp hq with e | e
        · subst e; exact hs
        · exact hr q e
    | false =>
      rw [hb] at hq
      change q ∈ a :: z_ins s c r at hq
      rcases List.mem_cons.mp hq with e | e
      · subst e; exact h _ List.mem_cons_self
      · exact z_ins_mem hs r hr q e
theorem z_ff_mem {c : Int} {n : Nat} : ∀ l : List (Int × zV), (∀ q ∈ l, q.2.2.1 < n) → ∀ q ∈ (z_ff c l).2, q.1 < n
  | [], _, q, hq => by cases hq
  | a :: r, h, q, hq => by
    have ih := z_ff_mem (c := c) r (fun w hw => h w (List.mem_cons_of_mem _ hw))
    unfold z_ff at hq
    cases hz : z_ff c r with
    | mk c' f =>
      rw [hz] at ih hq
      dsimp only at ih hq
      split at hq
      · exact ih q hq
      · exact z_ins_mem (h a List.mem_cons_self) f ih q hq
/-- one fact more -/
def zI.af (iv : zI) (f : zFc) : zI := iv.wf (iv.fs.1, f :: iv.fs.2.1, iv.fs.2.2)
theorem zI.af_ok {iv : zI} {ρ : Nat → Int} {f : zFc} (h : ziv iv ρ) (h1 : 0 ≤ z_ev ρ f) (h2 : ∀ q ∈ f.2, q.1 < iv.length) : ziv (iv.af f) ρ := by
  refine ⟨h.1, h.2.1, h.2.2.1, fun g hg => ?_, h.2.2.2.2⟩
  rcases List.mem_cons.mp hg with e | e
  · subst e; exact ⟨h1, h2⟩
  · exact h.2.2.2.1 g e
/-! ===== what a branch tells ===== -/
def z_put (iv : zI) (v : zV) (lo hi : Int) : zI := if v.2.1 = 0 then iv else z_fI (lo - v.2.2) (fun a => z_fI (hi - v.2.2) (fun b => iv.set v.2.1 (a, b)))
theorem z_put_ok {iv : zI} {ρ : Nat → Int} {v : zV} {lo hi : Int} (h : ziv iv ρ) (h1 : lo ≤ z_val ρ v) (h2 : z_val ρ v ≤ hi) : ziv (z_put iv v lo hi) ρ ∧ (z_put iv v lo hi).length = iv.length := by
  unfold z_put
  split
  · exact ⟨h, rfl⟩
  · rw [z_fI_eq, z_fI_eq]
    refine ⟨⟨h.1, h.2.1, fun i q hq => ?_, h.2.2.2⟩, rfl⟩
    rcases zI.at_set hq with ⟨e, rfl⟩ | hq
    · subst e
      unfold z_val at h1 h2
      dsimp only
      omega
    · exact h.2.2.1 i q hq
/-- x < y: what follows; none where it can't be -/
def z_lt (iv : zI) (x y : zV) : Option zI := if x.2.1 = y.2.1 then (if x.2.2 < y.2.2 then some iv else none) else match z_bd iv x, z_bd iv y with
  | some q1, some q2 => if q1.1 < q2.2 then some (z_put (z_put iv x q1.1 (min q1.2 (q2.2 - 1))) y (max q2.1 (q1.1 + 1)) q2.2) else none
  | _, _ => some iv
def z_le (iv : zI) (x y : zV) : Option zI := if x.2.1 = y.2.1 then (if x.2.2 ≤ y.2.2 then some iv else none) else match z_bd iv x, z_bd iv y with
  | some q1, some q2 => if q1.1 ≤ q2.2 then some (z_put (z_put iv x q1.1 (min q1.2 q2.2)) y (max q2.1 q1.1) q2.2) else none
  | _, _ => some iv
def z_eq (iv : zI) (x y : zV) : Option zI := if x.2.1 = y.2.1 then (if x.2.2 = y.2.2 then some iv else none) else match z_bd iv x, z_bd iv y with
  | some q1, some q2 => if q1.1 ≤ q2.2 ∧ q2.1 ≤ q1.2 then some (z_put (z_put iv x (max q1.1 q2.1) (min q1.2 q2.2)) y (max q1.1 q2.1) (min q1.2 q2.2)) else none
  | _, _ => some iv
/-- a refinement that a fact allows -/
def zRf (iv : zI) (ρ : Nat → Int) (o : Option zI) : Prop := ∃ iv', o = some iv' ∧ ziv iv' ρ ∧ iv'.length = iv.length
theorem z_lt_ok {iv : zI} {ρ : Nat → Int} {x y : zV} (h : ziv iv ρ) (hv : z_val ρ x < z_val ρ y) : zRf iv ρ (z_lt iv x y) := by
  unfold z_lt
  split
  next e =>
    rw [if_pos (by unfold z_val at hv; rw [e] at hv; omega)]
    exact ⟨iv, rfl, h, rfl⟩
  next =>
    split
    next q1 q2 e1 e2 =>
      have b1 := z_bd_ok e1 h
      have b2 := z_bd_ok e2 h
      rw [if_pos (by omega)]
      have p1 := z_put_ok (v := x) (lo := q1.1) (hi := min q1.2 (q2.2 - 1)) h (by omega) (by omega)
      have p2 := z_put_ok (v := y) (lo := max q2.1 (q1.1 + 1)) (hi := q2.2) p1.1 (by omega) (by omega)
      exact ⟨_, rfl, p2.1, p2.2.trans p1.2⟩
    next => exact ⟨iv, rfl, h, rfl⟩
theorem z_le_ok {iv : zI} {ρ : Nat → Int} {x y : zV} (h : ziv iv ρ) (hv : z_val ρ x ≤ z_val ρ y) : zRf iv ρ (z_le iv x y) := by
  unfold z_le
  split
  next e =>
    rw [if_pos (by unfold z_val at hv; rw [e] at hv; omega)]
    exact ⟨iv, rfl, h, rfl⟩
  next =>
    split
    next q1 q2 e1 e2 =>
      have b1 := z_bd_ok e1 h
      have b2 := z_bd_ok e2 h
      rw [if_pos (by omega)]
      have p1 := z_put_ok (v := x) (lo := q1.1) (hi := min q1.2 q2.2) h (by omega) (by omega)
      have p2 := z_put_ok (v := y) (lo := max q2.1 q1.1) (hi := q2.2) p1.1 (by omega) (by omega)
      exact ⟨_, rfl, p2.1, p2.2.trans p1.2⟩
    next => exact ⟨iv, rfl, h, rfl⟩
theorem z_eq_ok {iv : zI} {ρ : Nat → Int} {x y : zV} (h : ziv iv ρ) (hv : z_val ρ x = z_val ρ y) : zRf iv ρ (z_eq iv x y) := by
  unfold z_eq
  split
  next e =>
    rw [if_pos (by unfold z_val at hv; rw [e] at hv; omega)]
    exact ⟨iv, rfl, h, rfl⟩
  next =>
    split
    next q1 q2 e1 e2 =>
      have b1 := z_bd_ok e1 h
      have b2 := z_bd_ok e2 h
      rw [if_pos ⟨by omega, by omega⟩]
      have p1 := z_put_ok (v := x) (lo := max q1.1 q2.1) (hi := min q1.2 q2.2) h (by omega) (by omega)
      have p2 := z_put_ok (v := y) (lo := max q1.1 q2.1) (hi := min q1.2 q2.2) p1.1 (by omega) (by omega)
      exact ⟨_, rfl, p2.1, p2.2.trans p1.2⟩
    next => exact ⟨iv, rfl, h, rfl⟩
def z_ol (o : Option zI) : List zI := match o with
  | some x => [x]
  | none => []
def z_ne (iv : zI) (x y : zV) : List zI := if x.2.1 = y.2.1 ∨ x.2.1 = 0 ∨ y.2.1 = 0 then z_ol (z_lt iv x y) ++ z_ol (z_lt iv y x) else [iv]
/-- the intervals where the branch is taken, and where it isn't -/
def z_br (cd : Jvm.ClassFile.Cond) (iv : zI) (x y : zV) : List zI × List zI := match cd with
  | .eq => (z_ol (z_eq iv x y), z_ne iv x y)
  | .ne => (z_ne iv x y, z_ol (z_eq iv x y))
  | .lt => (z_ol (z_lt iv x y), z_ol (z_le iv y x))
  | .ge => (z_ol (z_le iv y x), z_ol (z_lt iv x y))
  | .gt => (z_ol (z_lt iv y x), z_ol (z_le iv x y))
  | .le => (z_ol (z_le iv x y), z_ol (z_lt iv y x))
def zRl (iv : zI) (ρ : Nat → Int) (o : List zI) : Prop := ∃ iv', iv' ∈ o ∧ ziv iv' ρ ∧ iv'.length = iv.length
theorem zRf.l {iv : zI} {ρ : Nat → Int} {o : Option zI} (h : zRf iv ρ o) : zRl iv ρ (z_ol o) := by
  obtain ⟨iv', rfl, h1, h2⟩ := h
  exact ⟨iv', List.mem_singleton.mpr rfl, h1, h2⟩
theorem z_ne_ok {iv : zI} {ρ : Nat → Int} {x y : zV} (h : ziv iv ρ) (hv : ¬ z_val ρ x = z_val ρ y) : zRl iv ρ (z_ne iv x y) := by
  unfold z_ne
  split
  · rcases Int.lt_or_gt_of_ne hv with q | q
    · obtain ⟨iv', h1, h2⟩ := (z_lt_ok h q).l
      exact ⟨iv', List.mem_append_left _ h1, h2⟩
    · obtain ⟨iv', h1, h2⟩ := (z_lt_ok h q).l
      exact ⟨iv', List.mem_append_right _ h1, h2⟩
  · exact ⟨iv, List.mem_singleton.mpr rfl, h, rfl⟩
