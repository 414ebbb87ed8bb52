/-! ===== arrays: reads ===== -/
/-- made narrower by the facts, where facts are kept -/
def z_tgo (iv : zI) : Option zI := bif iv.fs.1 then z_tgt iv 2 else some iv
theorem z_tgo_ok {iv : zI} {ρ : Nat → Int} (h : ziv iv ρ) : zTg iv ρ (z_tgo iv) := by
  unfold z_tgo
  cases iv.fs.1 with
  | true => exact z_tgt_ok h 2
  | false => exact ⟨iv, rfl, h, rfl⟩
/-- an index: its bounds, by the facts where the intervals don't do -/
def z_ixb (iv : zI) (x : zV) (n : Int) : Option (Int × Int) := match z_bd iv x with
  | some q => if 0 ≤ q.1 ∧ q.1 ≤ q.2 ∧ q.2 < n then some q else bif iv.fs.1 then (match z_tgt iv 2 with
    | none => if 0 < n then some (0, 0) else none
    | some iv' => (match z_bd iv' x with
      | some q' => bif (decide (0 ≤ q'.1) || z_pv iv' 5 (z_ff 0 [(1, x)])) && ((decide (q'.2 < n) || z_pv iv' 5 (z_ff (n - 1) [(-1, x)])) && decide (max q'.1 0 ≤ min q'.2 (n - 1))) then some (max q'.1 0, min q'.2 (n - 1)) else none
      | none => none)) else none
  | none => none
theorem z_ixb_ok {iv : zI} {ρ : Nat → Int} {x : zV} {n : Int} {q : Int × Int} (h : ziv iv ρ) (hq : z_ixb iv x n = some q) : q.1 ≤ z_val ρ x ∧ z_val ρ x ≤ q.2 ∧ 0 ≤ q.1 ∧ q.1 ≤ q.2 ∧ q.2 < n := by
  unfold z_ixb at hq
  split at hq
  next q0 hq0 =>
    have b1 := z_bd_ok hq0 h
    split at hq
    next hc => cases hq; omega
    next =>
      cases hf : iv.fs.1 with
      | false => rw [hf] at hq; cases hq
      | true =>
        rw [hf] at hq
        dsimp only [cond_true] at hq
        obtain ⟨iv', e1, h', -⟩ := z_tgt_ok h 2
        rw [e1] at hq
        dsimp only at hq
        split at hq
        next q1 hq1 =>
          have b2 := z_bd_ok hq1 h'
          cases hc : (decide (0 ≤ q1.1) || z_pv iv' 5 (z_ff 0 [(1, x)])) && ((decide (q1.2 < n) || z_pv iv' 5 (z_ff (n - 1) [(-1, x)])) && decide (max q1.1 0 ≤ min q1.2 (n - 1))) with
          | false => rw [hc] at hq; cases hq
          | true =>
            rw [hc] at hq
            cases hq
            rw [Bool.and_eq_true, Bool.and_eq_true] at hc
            obtain ⟨c1, c2, c3⟩ := hc
            have c3 := of_decide_eq_true c3
            have d1 : 0 ≤ z_val ρ x := by
              rcases Bool.or_eq_true _ _ ▸ c1 with c | c
              · have := of_decide_eq_true c; omega
              · have t1 := z_pv_ok h' 5 _ c
                rw [z_ff_ok h'.1] at t1
                change 0 ≤ 0 + (1 * z_val ρ x + 0) at t1
                omega
            have d2 : z_val ρ x ≤ n - 1 := by
              rcases Bool.or_eq_true _ _ ▸ c2 with c | c
              · have := of_decide_eq_true c; omega
              · have t1 := z_pv_ok h' 5 _ c
                rw [z_ff_ok h'.1] at t1
                change 0 ≤ n - 1 + (-1 * z_val ρ x + 0) at t1
                omega
            dsimp only
            omega
        next => cases hq
  next => cases hq
/-- the states of one read at each place that the index can be -/
def z_els (G : List zC) (kr : Nat) (p : Nat) (iv : zI) (ov : zO) (x : zV) : Int → Nat → Option (List (zI × zO × zV))
  | _, 0 => some []
  | j, n + 1 => match z_els G kr p iv ov x (j + 1) n with
    | none => none
    | some q => (match z_eq iv x (0, 0, j) with
      | none => some q
      | some i => (match z_fc G p j.toNat i ov with
        | (i', o') => (match z_lk o' p j.toNat with
          | some v => if v.1 = kr then some ((i', o', v) :: q) else none
          | none => none)))
theorem z_els_ok {G : List zC} {kr : Nat} {p : Nat} {iv : zI} {ov : zO} {x : zV} {ρ : Nat → Int} (hi : ziv iv ρ) : ∀ (n : Nat) (j : Int) (q : List (zI × zO × zV)), z_els G kr p iv ov x j n = some q → ∀ t : Nat, t < n → z_val ρ x = j + t → ∃ (i0 : zI) (v : zV), ziv i0 ρ ∧ i0.length = iv.length ∧ ((z_fc G p (z_val ρ x).toNat i0 ov).1, (z_fc G p (z_val ρ x).toNat i0 ov).2, v) ∈ q ∧ z_lk (z_fc G p (z_val ρ x).toNat i0 ov).2 p (z_val ρ x).toNat = some v ∧ v.1 = kr
  | 0, _, _, _, t, ht, _ => absurd ht (Nat.not_lt_zero t)
  | n + 1, j, q, h, t, ht, hv => by
    unfold z_els at h
    split at h
    next => cases h
    next q' hq' =>
      match t, ht, hv with
      | 0, _, hv =>
        have ej : z_val ρ x = j := by omega
        obtain ⟨iv', m1, m2, m3⟩ := z_eq_ok (x := x) (y := (0, 0, j)) hi (by rw [z_val0 hi]; exact ej)
        rw [m1] at h
        dsimp only at h
        rw [← ej] at h
        cases hz : z_fc G p (z_val ρ x).toNat iv' ov with
        | mk i' o' =>
          rw [hz] at h
          dsimp only at h
          split at h
          next v hv' =>
            split at h
            next hk => cases h; exact ⟨iv', v, m2, m3, by rw [hz]; exact List.mem_cons_self, by rw [hz]; exact hv', hk⟩
            next => cases h
          next => cases h
      | t + 1, ht, hv =>
        obtain ⟨i0, v, a1, a2, a3, a4⟩ := z_els_ok hi n (j + 1) q' hq' t (by omega) (by omega)
        split at h
        next => cases h; exact ⟨i0, v, a1, a2, a3, a4⟩
        next =>
          split at h
          next =>
            split at h
            next =>
              split at h
              next => cases h; exact ⟨i0, v, a1, a2, List.mem_cons_of_mem _ a3, a4⟩
              next => cases h
            next => cases h
def z_mmf (l : List zMo) (p : Nat) (x : zV) : Option zV := match l with
  | [] => none
  | m :: r => bif Nat.beq m.1 p && decide (m.2.1 = x) then some m.2.2 else z_mmf r p x
theorem z_mmf_ok {p : Nat} {x v : zV} : ∀ l : List zMo, z_mmf l p x = some v → (p, x, v) ∈ l
  | [], h => by cases h
  | m :: r, h => by
    unfold z_mmf at h
    cases hb : Nat.beq m.1 p && decide (m.2.1 = x) with
    | true =>
      rw [hb] at h
      cases h
      rw [Bool.and_eq_true] at hb
      have e1 := Nat.eq_of_beq_eq_true hb.1
      have e2 := of_decide_eq_true hb.2
      obtain ⟨a, c, d⟩ := m
      dsimp only at e1 e2
      subst e1; subst e2
      exact List.mem_cons_self
    | false =>
      rw [hb] at h
      exact List.mem_cons_of_mem _ (z_mmf_ok r h)
/-- one thing more remembered -/
def z_am (ov : zO) (m : zMo) : zO := Prod.mk (Prod.fst ov) (Prod.mk (Prod.fst (Prod.snd ov)) (Prod.mk (Prod.fst (Prod.snd (Prod.snd ov))) (m :: z_mm ov)))
def z_pl (g : zC) (iv : zI) (ov : zO) (p k i : Nat) : Option (Int × Int) := match z_lk ov p i with
  | some v => if v.1 = k then z_bd iv v else none
  | none => (match z_sp g i with
    | some (k', l, h) => if k' = k then some (l, h) else if k' = 5 ∧ k = 0 then some (0, 13040013) else none
    | none => none)
def z_hul (g : zC) (iv : zI) (ov : zO) (p k lo : Nat) : Nat → Option (Int × Int)
  | 0 => z_pl g iv ov p k lo
  | n + 1 => match z_hul g iv ov p k lo n, z_pl g iv ov p k (lo + (n + 1)) with
    | some a, some b => some (min a.1 b.1, max a.2 b.2)
    | _, _ => none
section ZST6
variable {p : Program} {l : Launch} {e : Env} {R : Room} {s : State} {m : MethodId} {args : Array Value} {below : List Frame} {meth : Method} {c : Code} {Q : State → Prop} {D : va_G} {cl : List vw_C} {A : Nat → Prop} {cA : Nat → ClassId} {G : List zC} {b : Nat → Nat} {sl : Nat} {xs : Nat → Int32} {fl : zFl} {h0 : Heap} {nL : Nat} {cc : ByteArray} {pc : Nat}
variable {Ts : List Jvm.Cond} {zN : List String} {FL : List (List (Nat × Nat × Nat))} {tys : List (ClassId × FieldType)} {tyl : List FieldType} {own : String} {cn : Nat}
theorem z_vin {z : Int} {n : Nat} (h1 : 0 ≤ z) (h2 : z < (n : Int)) (h3 : z ≤ 2147483647) : vp_in (Int32.ofInt z) n ∧ (Int32.ofInt z).toNatClampNeg = z.toNat := by
  have e := z_i32 (z := z) (by omega) h3
  have e2 : (Int32.ofInt z).toNatClampNeg = z.toNat := by
    show (Int32.ofInt z).toInt.toNat = z.toNat
    rw [e]
  refine ⟨fun q => ?_, e2⟩
  rcases q with q | q
  · rw [Int32.lt_iff_toInt_lt, e] at q
    have : (0 : Int32).toInt = 0 := rfl
    omega
  · rw [e2] at q; omega
def z_t1 (t : Nat) : Bool := Nat.beq t 1
def z_t2 (t : Nat) : Bool := Nat.beq t 2
def z_t34 (t : Nat) : Bool := Nat.beq t 3 || Nat.beq t 4
def z_t5 (t : Nat) : Bool := Nat.ble 5 t
theorem z_en1 {g : zC} {F : Nat → Value → Prop} {e0 : va_E} (ht : g.1 = 1) (he : z_en cA g F e0) : ∃ f : Nat → Int32, e0 = .inl (cA 1, g.2.1, .inl f) ∧ ∀ j, j < g.2.1 → F j (.int (f j)) := by
  unfold z_en at he; rw [ht] at he; exact he
theorem z_en2 {g : zC} {F : Nat → Value → Prop} {e0 : va_E} (ht : g.1 = 2) (he : z_en cA g F e0) : ∃ f : Nat → Int64, e0 = .inl (cA 2, g.2.1, .inr (.inl f)) ∧ ∀ j, j < g.2.1 → F j (.long (f j)) := by
  unfold z_en at he; rw [ht] at he; exact he
theorem z_en3 {g : zC} {F : Nat → Value → Prop} {e0 : va_E} (ht : g.1 = 3) (he : z_en cA g F e0) : ∃ f : Nat → Int32, e0 = .inl (cA 3, g.2.1, .inl f) ∧ ∀ j, j < g.2.1 → F j (.int (f j)) := by
  unfold z_en at he; rw [ht] at he; exact he
theorem z_en4 {g : zC} {F : Nat → Value → Prop} {e0 : va_E} (ht : g.1 = 4) (he : z_en cA g F e0) : ∃ f : Nat → Int32, e0 = .inl (cA 4, g.2.1, .inl f) ∧ ∀ j, j < g.2.1 → F j (.int (f j)) := by
  unfold z_en at he; rw [ht] at he; exact he
theorem z_en5 {g : zC} {F : Nat → Value → Prop} {e0 : va_E} {k : Nat} (ht : g.1 = k + 5) (he : z_en cA g F e0) : ∃ f : Nat → Option Nat, e0 = .inl (cA (k + 5), g.2.1, .inr (.inr (.inr (.inr f)))) ∧ ∀ j, j < g.2.1 → F j (va_rf (f j)) := by
  unfold z_en at he; rw [ht] at he; exact he
theorem z_inlt {j : Int32} {n : Nat} (h : vp_in j n) : j.toNatClampNeg < n := Nat.not_le.mp fun q => h (Or.inr q)
def z_t5b (tyl : List FieldType) (t : Nat) : Bool := Nat.ble 5 t && Nat.blt (t - 1) tyl.length
theorem z_pl0 {g : zC} {iv : zI} {ov : zO} {ad : Nat → Nat} {ρ : Nat → Int} {pp i : Nat} {V : Value} {q : Int × Int} (hi : ziv iv ρ) (hk : ∀ (p9 i9 : Nat) (v : zV), z_lk ov p9 i9 = some v → zok ov.length iv ρ v) (hw : z_wv g ov ad b ρ pp i V) (h : z_pl g iv ov pp 0 i = some q) : ∃ X : Int32, V = .int X ∧ q.1 ≤ X.toInt ∧ X.toInt ≤ q.2 := by
  unfold z_pl at h
  unfold z_wv at hw
  split at h
  next v hv =>
    rw [hv] at hw
    dsimp only at hw
    replace hw := hw.2
    split at h
    next h1 =>
      have o := z_ok0 (hk _ _ v hv) h1
      have b1 := z_bd_ok h hi
      refine ⟨_, by rw [hw, z_cv0 h1], ?_⟩
      rw [z_i32 o.2.1 o.2.2]
      exact b1.2
    next => cases h
  next hn =>
    rw [hn] at hw
    dsimp only at hw
    replace hw := hw.1
    split at h
    next k' lo hi' hsp =>
      rw [hsp] at hw
      split at h
      next e => cases h; subst e; exact hw
      next =>
        split at h
        next e =>
          cases h
          obtain ⟨rfl, -⟩ := e
          obtain ⟨X, h1, h2⟩ := hw
          refine ⟨X, h1, ?_⟩
          unfold z_act at h2
          omega
        next => cases h
    next => cases h
theorem z_pl1 {g : zC} {iv : zI} {ov : zO} {ad : Nat → Nat} {ρ : Nat → Int} {pp i : Nat} {V : Value} {q : Int × Int} (hi : ziv iv ρ) (hk : ∀ (p9 i9 : Nat) (v : zV), z_lk ov p9 i9 = some v → zok ov.length iv ρ v) (hw : z_wv g ov ad b ρ pp i V) (h : z_pl g iv ov pp 1 i = some q) : ∃ X : Int64, V = .long X ∧ q.1 ≤ X.toInt ∧ X.toInt ≤ q.2 := by
  unfold z_pl at h
  unfold z_wv at hw
  split at h
  next v hv =>
    rw [hv] at hw
    dsimp only at hw
    replace hw := hw.2
    split at h
    next h1 =>
      have o := z_ok1 (hk _ _ v hv) h1
      have b1 := z_bd_ok h hi
      refine ⟨_, by rw [hw, z_cv1 h1], ?_⟩
      rw [z_i64 o.2.1 o.2.2]
      exact b1.2
    next => cases h
  next hn =>
    rw [hn] at hw
    dsimp only at hw
    replace hw := hw.1
    split at h
    next k' lo hi' hsp =>
      rw [hsp] at hw
      split at h
      next e => cases h; subst e; exact hw
      next =>
        split at h
        next e => exact absurd e.2 (by decide)
        next => cases h
    next => cases h
theorem z_hul_ok {g : zC} {iv : zI} {ov : zO} {pp k lo : Nat} : ∀ (n : Nat) (q : Int × Int), z_hul g iv ov pp k lo n = some q → ∀ i, lo ≤ i → i ≤ lo + n → ∃ q', z_pl g iv ov pp k i = some q' ∧ q.1 ≤ q'.1 ∧ q'.2 ≤ q.2
  | 0, q, h, i, h1, h2 => by
    have e : i = lo := by omega
    subst e
    exact ⟨q, h, Int.le_refl _, Int.le_refl _⟩
  | n + 1, q, h, i, h1, h2 => by
    unfold z_hul at h
    split at h
    next a b' ha hb' =>
      cases h
      by_cases e : i = lo + (n + 1)
      · subst e
        exact ⟨b', hb', by dsimp only; omega, by dsimp only; omega⟩
      · obtain ⟨q', h3, h4, h5⟩ := z_hul_ok n a ha i h1 (by omega)
        exact ⟨q', h3, by dsimp only; omega, by dsimp only; omega⟩
    next => cases h
/-- all of these places hold acts -/
def z_a5 (g : zC) (lo : Nat) : Nat → Bool
  | 0 => (match z_sp g lo with
    | some (5, _, _) => true
    | _ => false)
  | n + 1 => z_a5 g lo n && (match z_sp g (lo + (n + 1)) with
    | some (5, _, _) => true
    | _ => false)
theorem z_a5_ok {g : zC} {lo : Nat} : ∀ n : Nat, z_a5 g lo n = true → ∀ i, lo ≤ i → i ≤ lo + n → ∃ a c, z_sp g i = some (5, a, c)
  | 0, h, i, h1, h2 => by
    have e : i = lo := by omega
    subst e
    unfold z_a5 at h
    split at h
    next a c hs => exact ⟨a, c, hs⟩
    next => cases h
  | n + 1, h, i, h1, h2 => by
    unfold z_a5 at h
    rw [Bool.and_eq_true] at h
    by_cases e : i = lo + (n + 1)
    · subst e
      have h3 := h.2
      split at h3
      next a c hs => exact ⟨a, c, hs⟩
      next => cases h3
    · exact z_a5_ok n h.1 i h1 (by omega)
/-- kr: the kind of what stands there; mo: is it remembered -/
def z_ald (mo : Bool) (tg : Nat → Bool) (kr : Nat) (G : List zC) (st : zS) : zR := match st with
  | (cu, su, iv, lv, x :: a :: r, ov) => if x.1 = 0 ∧ a.1 = 2 then (match G[a.2.1]? with
    | some g => if tg g.1 = true then (match z_ixb iv x (g.2.1 : Int) with
      | some q => bif decide (q.1 = q.2) || (decide (2 ≤ kr) || (Nat.ble 2 g.2.2.length && Nat.ble g.2.2.length 8)) then (match z_els G kr a.2.1 iv ov x q.1 (q.2 - q.1 + 1).toNat with
          | some es => some (es.map (fun w => (none, (cu, su, w.1, lv, w.2.2 :: r, w.2.1))))
          | none => none)
        else (match (bif mo then z_mmf (z_mm ov) a.2.1 x else none) with
          | some v => some [(none, (cu, su, iv, lv, v :: r, ov))]
          | none => bif Nat.beq kr 0 && z_a5 g q.1.toNat (q.2 - q.1).toNat then some [(none, (cu, su, (z_actp iv).1, lv, (z_actp iv).2 :: r, ov))] else (match (match g.2.2 with
            | [_] => z_hul g iv z_o0 a.2.1 kr 0 0
            | _ => z_hul g iv ov a.2.1 kr q.1.toNat (q.2 - q.1).toNat) with
            | some h => some [(none, (cu, su, (z_mk iv kr h.1 h.2).1, lv, (z_mk iv kr h.1 h.2).2 :: r, bif mo && iv.fs.1 then z_am ov (a.2.1, x, (z_mk iv kr h.1 h.2).2) else ov))]
            | none => none))
      | none => none) else none
    | none => none) else none
  | _ => none
theorem z_spk1 {g : zC} {sp : Nat × Int × Int} (h : g.2.2 = [sp]) (i j : Nat) : z_sp g i = z_sp g j := by
  unfold z_sp
  rw [h]
theorem z_en_ct {g : zC} {F : Nat → Value → Prop} {e0 : va_E} (hg : g.1 = 1 ∨ g.1 = 3 ∨ g.1 = 4) (he : z_en cA g F e0) : ∃ (c9 : ClassId) (f : Nat → Int32), e0 = .inl (c9, g.2.1, .inl f) ∧ z_en cA g (fun i V => F i V ∧ V = .int (f i)) e0 := by
  unfold z_en at he
  rcases hg with e | e | e
  · rw [e] at he
    obtain ⟨f, h1, h2⟩ := he
    refine ⟨_, f, h1, ?_⟩
    unfold z_en
    rw [e]
    exact ⟨f, h1, fun j hj => ⟨h2 j hj, rfl⟩⟩
  · rw [e] at he
    obtain ⟨f, h1, h2⟩ := he
    refine ⟨_, f, h1, ?_⟩
    unfold z_en
    rw [e]
    exact ⟨f, h1, fun j hj => ⟨h2 j hj, rfl⟩⟩
  · rw [e] at he
    obtain ⟨f, h1, h2⟩ := he
    refine ⟨_, f, h1, ?_⟩
    unfold z_en
    rw [e]
    exact ⟨f, h1, fun j hj => ⟨h2 j hj, rfl⟩⟩
theorem z_hul1 {g : zC} {iv : zI} {ov : zO} {ad : Nat → Nat} {ρ : Nat → Int} {pp k j : Nat} {V : Value} {q h : Int × Int} (hw : z_wv g ov ad b ρ pp j V) (h1 : q.1.toNat ≤ j) (h2 : j ≤ q.1.toNat + (q.2 - q.1).toNat) (hh : (match g.2.2 with
            | [_] => z_hul g iv z_o0 pp k 0 0
            | _ => z_hul g iv ov pp k q.1.toNat (q.2 - q.1).toNat) = some h) : ∃ ov9 j9 q', z_wv g ov9 ad b ρ pp j9 V ∧ (∀ (p9 i9 : Nat) (v : zV), z_lk ov9 p9 i9 = some v → z_lk ov p9 i9 = some v) ∧ ov9.length = ov.length ∧ z_pl g iv ov9 pp k j9 = some q' ∧ h.1 ≤ q'.1 ∧ q'.2 ≤ h.2 := by
  split at hh
  next sp hsp =>
    refine ⟨Prod.mk ov.length (Prod.snd z_o0), 0, h, ?_, fun p9 i9 v hv => ?_, rfl, ?_, Int.le_refl _, Int.le_refl _⟩
    · unfold z_wv at hw ⊢
      rw [z_spk1 hsp 0 j]
      exact ⟨hw.1, True.intro⟩
    · cases hv
    · exact hh
  next =>
    obtain ⟨q', h3, h4, h5⟩ := z_hul_ok _ h hh j h1 h2
    exact ⟨ov, j, q', hw, fun _ _ _ h => h, rfl, h3, h4, h5⟩
theorem zs_ald {mo : Bool} {tg : Nat → Bool} {kr : Nat} {st : zS} {ss : List (Option Nat × zS)} (h : z_ald mo tg kr G st = some ss) (htg : mo = true → kr = 0 ∧ ∀ t, tg t = true → t = 1 ∨ t = 3 ∨ t = 4)
    (hr : ∀ (g : zC) (F : Nat → Value → Prop) (ad : Nat → Nat) (q0 : Nat) (e0 : va_E) (ws : va_W) (j : Int32) (H : Heap) (locs : List Loc) (cells slots : Nat) (ls : Array Slot) (rest : List Value), tg g.1 = true → z_en cA g F e0 → va_P D cl ws H → ws[q0]? = some (ad q0, e0) → vp_in j g.2.1 → (∀ v : Value, F j.toNatClampNeg v → W p l e R s m args below meth c H locs cells slots Q (F0 m (pc + 1) ls (v :: rest))) → W p l e R s m args below meth c H locs cells slots Q (F0 m pc ls (.int j :: .ref (ad q0) :: rest))) : zSt p l e R s m args below meth c Q D cl A cA G b sl xs fl h0 nL pc 1 st ss := by
  obtain ⟨cu, su, iv, lv, sk, ov⟩ := st
  unfold z_ald at h
  rcases sk with _ | ⟨x, _ | ⟨a, r⟩⟩
  · cases h
  · cases h
  dsimp only at h
  split at h
  next hk =>
    split at h
    next g hg =>
      split at h
      next hc1 =>
        split at h
        next q hq =>
          intro ρ ad ws H locs ls hgm kk
          obtain ⟨b1, b2, b3, b4, b5⟩ := z_ixb_ok hgm.1.1 hq
          have ox := z_ok0 (hgm.1.2.2.1 x List.mem_cons_self) hk.1
          obtain ⟨hvi, hcl⟩ := z_vin (z := z_val ρ x) (n := g.2.1) (by omega) (by omega) ox.2.2
          have hxo : a.2.1 < ov.length := by
            have := hgm.1.2.2.1 a (List.mem_cons_of_mem _ List.mem_cons_self)
            unfold zok at this; rw [hk.2] at this; exact this
          cases hsel : decide (q.1 = q.2) || (decide (2 ≤ kr) || (Nat.ble 2 g.2.2.length && Nat.ble g.2.2.length 8)) with
          | true =>
            rw [hsel] at h
            dsimp only [cond_true] at h
            split at h
            next es hes =>
              cases h
              obtain ⟨i0, v, m1, m2, m3, m4, m5⟩ := z_els_ok hgm.1.1 _ _ es hes (z_val ρ x - q.1).toNat (by omega) (by omega)
              have hg0 : z_gm D cl A cA G b sl xs fl h0 nL i0 lv (x :: a :: r) ov ρ ad ws H locs ls := hgm.mv (fun _ _ => rfl) (Nat.le_of_eq m2.symm) m1 (fun w hw => z_okrf (hgm.1.2.2.1 w hw) m2)
              obtain ⟨ρ', w1, w2, w3, hgm'⟩ := z_fc_ok a.2.1 (z_val ρ x).toNat hg0
              have hxo' : a.2.1 < (z_fc G a.2.1 (z_val ρ x).toNat i0 ov).2.length := by rw [w3]; exact hxo
              obtain ⟨e0, hqw, he⟩ := z_wd_at hgm'.2.2.1 hxo' hg
              rw [m2] at w1 w2
              show W p l e R s m args below meth c H locs cu su Q (F0 m pc ls ((x :: a :: r).map (zcv ad b ρ)))
              have esk := z_skm (b := b) hgm.1.2.2.1 w1 (fun _ _ => rfl) (ad := ad) (ad' := ad)
              have ex : z_val ρ' x = z_val ρ x := by
                unfold z_val
                rw [w1 _ ox.1]
              show W p l e R s m args below meth c H locs cu su Q (F0 m pc ls (zcv ad b ρ x :: zcv ad b ρ a :: r.map (zcv ad b ρ)))
              rw [z_cv0 hk.1, z_cv2 hk.2]
              refine hr g _ ad a.2.1 e0 ws _ H locs cu su ls _ hc1 he hgm'.2.2.2.1 hqw hvi (fun V hv => ?_)
              rw [hcl] at hv
              unfold z_wv at hv
              rw [m4] at hv
              dsimp only at hv
              rw [hv.2]
              have hrest : r.map (zcv ad b ρ) = r.map (zcv ad b ρ') := by
                have := esk
                rw [List.map_cons, List.map_cons, List.map_cons, List.map_cons] at this
                exact (List.cons.inj (List.cons.inj this).2).2.symm
              rw [hrest]
              exact kk _ (List.mem_map.mpr ⟨_, m3, rfl⟩) ρ' ad ws H locs ls ⟨w1, fun _ _ => rfl, w2, Nat.le_of_eq w3.symm⟩ (hgm'.mv (fun _ _ => rfl) (Nat.le_refl _) hgm'.1.1 (fun w hw => (List.mem_cons.mp hw).elim (fun q9 => by rw [q9]; exact hgm'.1.2.2.2 _ _ v m4) (fun q9 => hgm'.1.2.2.1 w (List.mem_cons_of_mem _ (List.mem_cons_of_mem _ q9)))))
            next => cases h
          | false =>
            rw [hsel] at h
            dsimp only [cond_false] at h
            have hkr : kr ≤ 1 := by
              rw [Bool.or_eq_false_iff, Bool.or_eq_false_iff] at hsel
              have := of_decide_eq_false hsel.2.1
              omega
            obtain ⟨e0, hqw, he⟩ := z_wd_at hgm.2.2.1 hxo hg
            have hsub : ∀ w ∈ r, w ∈ x :: a :: r := fun w hw => List.mem_cons_of_mem _ (List.mem_cons_of_mem _ hw)
            show W p l e R s m args below meth c H locs cu su Q (F0 m pc ls (zcv ad b ρ x :: zcv ad b ρ a :: r.map (zcv ad b ρ)))
            rw [z_cv0 hk.1, z_cv2 hk.2]
            cases hmo : mo with
            | false =>
              rw [hmo] at h
              dsimp only [cond_false, Bool.false_and] at h
              refine hr g _ ad a.2.1 e0 ws _ H locs cu su ls _ hc1 he hgm.2.2.2.1 hqw hvi (fun V hv => ?_)
              rw [hcl] at hv
              cases ha5 : Nat.beq kr 0 && z_a5 g q.1.toNat (q.2 - q.1).toNat with
              | true =>
                rw [ha5] at h
                cases h
                rw [Bool.and_eq_true] at ha5
                obtain ⟨a9, c9, hs9⟩ := z_a5_ok _ ha5.2 (z_val ρ x).toNat (by omega) (by omega)
                have hv1 := hv.1
                rw [hs9] at hv1
                obtain ⟨X, rfl, hX⟩ := hv1
                obtain ⟨ρ', n1, n2, n3, n4, n5, n6⟩ := z_actp_ok hgm.1.1 hX
                exact z_fin hgm hsub n1 n2 n3 (z_ok0' n4 n5 _ n6) (by rw [z_cv0 n4, n6, z_o32]) kk
              | false =>
              rw [ha5] at h
              dsimp only [cond_false] at h
              split at h
              next hh hhu =>
                cases h
                obtain ⟨ov9, j9, q', y1, y2, y3, h3, h4, h5⟩ := z_hul1 hv (by omega) (by omega) hhu
                have hk9 : ∀ (p9 i9 : Nat) (v : zV), z_lk ov9 p9 i9 = some v → zok ov9.length iv ρ v := fun p9 i9 v hv => by rw [y3]; exact hgm.1.2.2.2 p9 i9 v (y2 p9 i9 v hv)
                match kr, hkr, h3, kk with
                | 0, _, h3, kk =>
                  obtain ⟨X, rfl, b1, b2⟩ := z_pl0 hgm.1.1 hk9 y1 h3
                  obtain ⟨ρ', n1, n2, n3, n4, n5, n6⟩ := z_mk_ok 0 (lo := hh.1) (hi := hh.2) (x := X.toInt) hgm.1.1 (by omega) (by omega)
                  exact z_fin hgm hsub n1 n2 n3 (z_ok0' n4 n5 _ n6) (by rw [z_cv0 n4, n6, z_o32]) kk
                | 1, _, h3, kk =>
                  obtain ⟨X, rfl, b1, b2⟩ := z_pl1 hgm.1.1 hk9 y1 h3
                  obtain ⟨ρ', n1, n2, n3, n4, n5, n6⟩ := z_mk_ok 1 (lo := hh.1) (hi := hh.2) (x := X.toInt) hgm.1.1 (by omega) (by omega)
                  exact z_fin hgm hsub n1 n2 n3 (z_ok1' n4 n5 _ n6) (by rw [z_cv1 n4, n6, z_o64]) kk
              next => cases h
            | true =>
              obtain ⟨hk0, htt⟩ := htg hmo
              subst hk0
              rw [hmo] at h
              dsimp only [cond_true, Bool.true_and] at h
              obtain ⟨c9, f9, ef9, he9⟩ := z_en_ct (htt _ hc1) he
              refine hr g _ ad a.2.1 e0 ws _ H locs cu su ls _ hc1 he9 hgm.2.2.2.1 hqw hvi (fun V hv => ?_)
              rw [hcl] at hv
              obtain ⟨hv, hVf⟩ := hv
              split at h
              next v hmm =>
                cases h
                obtain ⟨⟨o1, o2, o3⟩, a8, c8, n8, f8, o4, o5⟩ := hgm.2.2.2.2.2.2.2.2.1 _ (z_mmf_ok _ hmm)
                dsimp only at o1 o2 o3 o4 o5
                rw [hqw, ef9] at o4
                cases o4
                have eV : V = zcv ad b ρ v := by
                  rw [hVf, z_cv0 o3, ← o5, z_o32]
                rw [eV]
                exact z_fin hgm hsub (fun _ _ => rfl) (Nat.le_refl _) hgm.1.1 (z_ok0' o3 o2 _ o5.symm) rfl kk
              next =>
                cases ha5 : Nat.beq 0 0 && z_a5 g q.1.toNat (q.2 - q.1).toNat with
                | true =>
                  rw [ha5] at h
                  cases h
                  rw [Bool.and_eq_true] at ha5
                  obtain ⟨a7, c7, hs9⟩ := z_a5_ok _ ha5.2 (z_val ρ x).toNat (by omega) (by omega)
                  have hv1 := hv.1
                  rw [hs9] at hv1
                  obtain ⟨X, hX0, hX⟩ := hv1
                  obtain ⟨ρ', n1, n2, n3, n4, n5, n6⟩ := z_actp_ok hgm.1.1 hX
                  exact z_fin hgm hsub n1 n2 n3 (z_ok0' n4 n5 _ n6) (by rw [z_cv0 n4, n6, z_o32, hX0]) kk
                | false =>
                rw [ha5] at h
                dsimp only [cond_false] at h
                split at h
                next hh hhu =>
                  cases h
                  obtain ⟨ov9, j9, q', y1, y2, y3, h3, h4, h5⟩ := z_hul1 hv (by omega) (by omega) hhu
                  have hk9 : ∀ (p9 i9 : Nat) (v : zV), z_lk ov9 p9 i9 = some v → zok ov9.length iv ρ v := fun p9 i9 v hv => by rw [y3]; exact hgm.1.2.2.2 p9 i9 v (y2 p9 i9 v hv)
                  obtain ⟨X, hX, b1, b2⟩ := z_pl0 hgm.1.1 hk9 y1 h3
                  obtain ⟨ρ', n1, n2, n3, n4, n5, n6⟩ := z_mk_ok 0 (lo := hh.1) (hi := hh.2) (x := X.toInt) hgm.1.1 (by omega) (by omega)
                  have hX2 : X = f9 (z_val ρ x).toNat := by
                    rw [hX] at hVf
                    exact Value.int.inj hVf
                  cases hfs : iv.fs.1 with
                  | false =>
                    rw [hfs] at kk
                    subst hX
                    exact z_fin hgm hsub n1 n2 n3 (z_ok0' n4 n5 _ n6) (by rw [z_cv0 n4, n6, z_o32]) kk
                  | true =>
                    rw [hfs] at kk
                    have hg2 := hgm.mv n1 n2 n3 (sk' := (z_mk iv 0 hh.1 hh.2).2 :: r) (fun w hw => (List.mem_cons.mp hw).elim (fun q9 => by rw [q9]; exact z_ok0' n4 n5 _ n6) (fun q9 => zok_ext (hgm.1.2.2.1 w (hsub w q9)) n1 n2 (Nat.le_refl _)))
                    have ex : z_val ρ' x = z_val ρ x := by
                      unfold z_val
                      rw [n1 _ ox.1]
                    have hmm2 : zMm (z_mk iv 0 hh.1 hh.2).1 (z_am ov (a.2.1, x, (z_mk iv 0 hh.1 hh.2).2)) ρ' ws := by
                      intro m9 hm9
                      rcases List.mem_cons.mp hm9 with e9 | e9
                      · subst e9
                        refine ⟨⟨Nat.lt_of_lt_of_le ox.1 n2, n5, n4⟩, ad a.2.1, c9, g.2.1, f9, by rw [hqw, ef9], ?_⟩
                        dsimp only
                        rw [ex, n6, hX2]
                      · exact hg2.2.2.2.2.2.2.2.2.1 m9 e9
                    have hg3 : z_gm D cl A cA G b sl xs fl h0 nL (z_mk iv 0 hh.1 hh.2).1 lv ((z_mk iv 0 hh.1 hh.2).2 :: r) (z_am ov (a.2.1, x, (z_mk iv 0 hh.1 hh.2).2)) ρ' ad ws H locs ls := ⟨⟨hg2.1.1, hg2.1.2.1, hg2.1.2.2.1, hg2.1.2.2.2⟩, hg2.2.1, hg2.2.2.1, hg2.2.2.2.1, hg2.2.2.2.2.1, hg2.2.2.2.2.2.1, hg2.2.2.2.2.2.2.1, hg2.2.2.2.2.2.2.2.1, hmm2, hg2.2.2.2.2.2.2.2.2.2⟩
                    have hq := kk _ (List.mem_singleton.mpr rfl) ρ' ad ws H locs ls ⟨n1, fun _ _ => rfl, n2, Nat.le_refl _⟩ hg3
                    have erest : r.map (zcv ad b ρ') = r.map (zcv ad b ρ) := z_skm (fun w hw => hgm.1.2.2.1 w (hsub w hw)) n1 (fun _ _ => rfl)
                    have e9 : ((z_mk iv 0 hh.1 hh.2).2 :: r).map (zcv ad b ρ') = V :: r.map (zcv ad b ρ) := by
                      rw [List.map_cons, erest, z_cv0 n4, n6, z_o32, hX]
                    rw [← e9]
                    exact hq
                next => cases h
        next => cases h
      next => cases h
    next => cases h
  next => cases h
theorem zs_iald (hx : p.tables.exec = Jvm.exec) (hb : c.code = cc) (hK : va_K D cl tys s) (hT : zTyOk cA tyl tys) {st : zS} {ss : List (Option Nat × zS)} (hd : decode cc pc = .ok (.iaload, 1)) (h : z_ald true z_t1 0 G st = some ss) : zSt p l e R s m args below meth c Q D cl A cA G b sl xs fl h0 nL pc 1 st ss := by
  refine zs_ald h (fun _ => ⟨rfl, fun t ht => Or.inl (Nat.eq_of_beq_eq_true ht)⟩) (fun g F ad q0 e0 ws j H locs cells slots ls rest ht he hP hq hin k => ?_)
  obtain ⟨f, rfl, hf⟩ := z_en1 (Nat.eq_of_beq_eq_true ht) he
  exact va_iald hx hb hK hP q0 0 hq (hT.2.2.2.2.2 0 _ hT.1) hin hd (k _ (hf _ (z_inlt hin)))
theorem zs_lald (hx : p.tables.exec = Jvm.exec) (hb : c.code = cc) (hK : va_K D cl tys s) (hT : zTyOk cA tyl tys) {st : zS} {ss : List (Option Nat × zS)} (hd : decode cc pc = .ok (.laload, 1)) (h : z_ald false z_t2 1 G st = some ss) : zSt p l e R s m args below meth c Q D cl A cA G b sl xs fl h0 nL pc 1 st ss := by
  refine zs_ald h (fun q => by cases q) (fun g F ad q0 e0 ws j H locs cells slots ls rest ht he hP hq hin k => ?_)
  obtain ⟨f, rfl, hf⟩ := z_en2 (Nat.eq_of_beq_eq_true ht) he
  exact va_lald hx hb hK hP q0 1 hq (hT.2.2.2.2.2 1 _ hT.2.1) hin hd (k _ (hf _ (z_inlt hin)))
theorem zs_bald (hx : p.tables.exec = Jvm.exec) (hb : c.code = cc) (hK : va_K D cl tys s) (hT : zTyOk cA tyl tys) {st : zS} {ss : List (Option Nat × zS)} (hd : decode cc pc = .ok (.baload, 1)) (h : z_ald true z_t34 0 G st = some ss) : zSt p l e R s m args below meth c Q D cl A cA G b sl xs fl h0 nL pc 1 st ss := by
  refine zs_ald h (fun _ => ⟨rfl, fun t ht => ?_⟩) (fun g F ad q0 e0 ws j H locs cells slots ls rest ht he hP hq hin k => ?_)
  · unfold z_t34 at ht
    rcases Bool.or_eq_true _ _ ▸ ht with t | t
    · exact Or.inr (Or.inl (Nat.eq_of_beq_eq_true t))
    · exact Or.inr (Or.inr (Nat.eq_of_beq_eq_true t))
  unfold z_t34 at ht
  rcases Bool.or_eq_true _ _ ▸ ht with t | t
  · obtain ⟨f, rfl, hf⟩ := z_en3 (Nat.eq_of_beq_eq_true t) he
    exact va_bald hx hb hK hP q0 2 hq (hT.2.2.2.2.2 2 _ hT.2.2.1) hin hd (k _ (hf _ (z_inlt hin)))
  · obtain ⟨f, rfl, hf⟩ := z_en4 (Nat.eq_of_beq_eq_true t) he
    exact va_zald hx hb hK hP q0 3 hq (hT.2.2.2.2.2 3 _ hT.2.2.2.1) hin hd (k _ (hf _ (z_inlt hin)))
theorem zs_aald (hx : p.tables.exec = Jvm.exec) (hb : c.code = cc) (hK : va_K D cl tys s) (hT : zTyOk cA tyl tys) {st : zS} {ss : List (Option Nat × zS)} (hd : decode cc pc = .ok (.aaload, 1)) (h : z_ald false (z_t5b tyl) 2 G st = some ss) : zSt p l e R s m args below meth c Q D cl A cA G b sl xs fl h0 nL pc 1 st ss := by
  refine zs_ald h (fun q => by cases q) (fun g F ad q0 e0 ws j H locs cells slots ls rest ht he hP hq hin k => ?_)
  unfold z_t5b at ht
  rw [Bool.and_eq_true] at ht
  have h5 : 5 ≤ g.1 := Nat.le_of_ble_eq_true ht.1
  have hlt : g.1 - 1 < tyl.length := Nat.le_of_ble_eq_true ht.2
  obtain ⟨kk, hkk⟩ : ∃ kk, g.1 = kk + 5 := ⟨g.1 - 5, by omega⟩
  obtain ⟨f, rfl, hf⟩ := z_en5 hkk he
  obtain ⟨ty, hty⟩ : ∃ ty, tyl[g.1 - 1]? = some ty := ⟨_, List.getElem?_eq_getElem hlt⟩
  have hr := hT.2.2.2.2.1 (g.1 - 1) ty (by omega) hty
  have hq2 := hT.2.2.2.2.2 (g.1 - 1) ty hty
  have e1 : g.1 - 1 + 1 = kk + 5 := by omega
  rw [e1] at hq2
  have hcell := hP q0 _ hq
  have hin2 : ¬ (j < 0 ∨ (arrV (cA (kk + 5)) g.2.1 (fun j => va_rf (f j))).slots.size ≤ j.toNatClampNeg) := by rw [arrV_size]; exact hin
  exact W.aald (v := va_rf (f j.toNatClampNeg)) hx hb hcell ((hK.2 _ _ hq2).1 g.2.1 (fun j => va_rf (f j))) hr (fun q => by cases q) hin2 (by show (arrV _ _ _).slots[_]? = _; rw [arrV_read _ _ (z_inlt hin)]) rfl rfl hd (k _ (hf _ (z_inlt hin)))
/-! the script -/
def z_sof (iv : zI) (x : zV) : Option Nat := if Nat.beq x.2.1 8 then (if 0 ≤ x.2.2 ∧ x.2.2 < 6 then some x.2.2.toNat else none) else if Nat.beq x.2.1 0 then (match iv.at 8 with
  | some q => if q.1 = q.2 ∧ 0 ≤ x.2.2 - q.1 ∧ x.2.2 - q.1 < 6 then some (x.2.2 - q.1).toNat else none
  | none => none) else none
theorem z_sof_ok {iv : zI} {x : zV} {d : Nat} {ρ : Nat → Int} (hi : ziv iv ρ) (h : z_sof iv x = some d) : d < 6 ∧ z_val ρ x = ρ 8 + d := by
  unfold z_sof at h
  split at h
  next hb =>
    have e : x.2.1 = 8 := Nat.eq_of_beq_eq_true hb
    split at h
    next hc => cases h; unfold z_val; rw [e]; omega
    next => cases h
  next =>
    split at h
    next hb =>
      have e : x.2.1 = 0 := Nat.eq_of_beq_eq_true hb
      split at h
      next q hq =>
        split at h
        next hc =>
          cases h
          have := hi.2.2.1 8 q hq
          unfold z_val; rw [e, hi.1]; omega
        next => cases h
      next => cases h
    next => cases h
def z_sld (fl : Bool) (st : zS) : zR := match st with
  | (cu, su, iv, lv, x :: a :: r, ov) => if x.1 = 0 ∧ a.1 = 4 ∧ a.2.1 = 0 ∧ fl = true then (match z_sof iv x with
    | some d => some [(none, (cu, su, iv, lv, (0, 2 + d, 0) :: r, ov))]
    | none => none) else none
  | _ => none
theorem z_cv4 {v : zV} (hk : v.1 = 4) (ad : Nat → Nat) (b : Nat → Nat) (ρ : Nat → Int) : zcv ad b ρ v = .ref (b v.2.1) := by unfold zcv; rw [hk]; rfl
theorem zs_sld (hx : p.tables.exec = Jvm.exec) (hb : c.code = cc) (hX : va_X (b 0) sl xs s h0) (hbl : b 0 < h0.size) (hbA : ¬ A (b 0)) {st : zS} {ss : List (Option Nat × zS)} (hd : decode cc pc = .ok (.iaload, 1)) (h : z_sld fl.1 st = some ss) : zSt p l e R s m args below meth c Q D cl A cA G b sl xs fl h0 nL pc 1 st ss := by
  obtain ⟨cu, su, iv, lv, sk, ov⟩ := st
  unfold z_sld at h
  rcases sk with _ | ⟨x, _ | ⟨a, r⟩⟩
  · cases h
  · cases h
  dsimp only at h
  split at h
  next hk =>
    split at h
    next d hds =>
      cases h
      intro ρ ad ws H locs ls hgm kk
      have ox := z_ok0 (hgm.1.2.2.1 x List.mem_cons_self) hk.1
      obtain ⟨hd6, hdv⟩ := z_sof_ok hgm.1.1 hds
      obtain ⟨s1, s2, s3, -⟩ := hgm.2.2.2.2.2.2.1.2 hk.2.2.2
      obtain ⟨hvi, hcl⟩ := z_vin (z := z_val ρ x) (n := sl) (by omega) (by omega) ox.2.2
      show W p l e R s m args below meth c H locs cu su Q (F0 m pc ls (zcv ad b ρ x :: zcv ad b ρ a :: r.map (zcv ad b ρ)))
      rw [z_cv0 hk.1, z_cv4 hk.2.1, hk.2.2.1]
      refine va_sld hx hb hX hbl hbA hgm.2.2.2.2.2.1 hvi hd ?_
      rw [hcl, hdv, show (ρ 8 + (d : Int)).toNat = (ρ 8).toNat + d by omega]
      have ev : z_val ρ (0, 2 + d, 0) = (xs ((ρ 8).toNat + d)).toInt := by show ρ (2 + d) + 0 = _; rw [s3 d hd6]; omega
      have hl8 : 9 < iv.length := hgm.2.2.2.2.2.2.2.1
      exact z_fin (v := (0, 2 + d, 0)) hgm (fun w hw => List.mem_cons_of_mem _ (List.mem_cons_of_mem _ hw)) (fun _ _ => rfl) (Nat.le_refl _) hgm.1.1 (z_ok0' rfl (by show 2 + d < iv.length; omega) _ ev) (by rw [z_cv0 rfl, ev, z_o32]) kk
    next => cases h
  next => cases h
/-! lengths -/
def z_alen (G : List zC) (tyl : List FieldType) (st : zS) : zR := match st with
  | (cu, su, iv, lv, a :: r, ov) => if a.1 = 4 ∧ a.2.1 = 0 then some [(none, (cu, su, iv, lv, (0, 1, 0) :: r, ov))] else if a.1 = 2 then (match G[a.2.1]? with
    | some g => if 1 ≤ g.1 ∧ g.1 - 1 < tyl.length ∧ (g.2.1 : Int) ≤ 2147483647 then some [(none, (cu, su, iv, lv, (0, 0, (g.2.1 : Int)) :: r, ov))] else none
    | none => none) else none
  | _ => none
theorem z_ofN (n : Nat) : Int32.ofNat n = Int32.ofInt (n : Int) := by
  apply Int32.toInt_inj.mp
  rw [Int32.toInt_ofInt, Int32.toInt_ofNat']
theorem zs_alen (hx : p.tables.exec = Jvm.exec) (hb : c.code = cc) (hK : va_K D cl tys s) (hT : zTyOk cA tyl tys) (hX : va_X (b 0) sl xs s h0) (hbl : b 0 < h0.size) (hbA : ¬ A (b 0)) (hsl : sl ≤ 2147483647) {st : zS} {ss : List (Option Nat × zS)} (hd : decode cc pc = .ok (.arraylength, 1)) (h : z_alen G tyl st = some ss) : zSt p l e R s m args below meth c Q D cl A cA G b sl xs fl h0 nL pc 1 st ss := by
  obtain ⟨cu, su, iv, lv, sk, ov⟩ := st
  unfold z_alen at h
  rcases sk with _ | ⟨a, r⟩
  · cases h
  dsimp only at h
  split at h
  next hk =>
    cases h
    intro ρ ad ws H locs ls hgm kk
    have h1 := hgm.2.2.2.2.2.2.1.1
    show W p l e R s m args below meth c H locs cu su Q (F0 m pc ls (zcv ad b ρ a :: r.map (zcv ad b ρ)))
    rw [z_cv4 hk.1, hk.2]
    refine va_slen hx hb hX hbl hbA hgm.2.2.2.2.2.1 hd ?_
    have ev : z_val ρ (0, 1, 0) = (sl : Int) := by show ρ 1 + 0 = _; rw [h1]; omega
    refine z_fin (v := (0, 1, 0)) hgm (fun w hw => List.mem_cons_of_mem _ hw) (fun _ _ => rfl) (Nat.le_refl _) hgm.1.1 ⟨by have h8 : 9 < iv.length := hgm.2.2.2.2.2.2.2.1; show 1 < iv.length; omega, by rw [ev]; omega, by rw [ev]; omega⟩ ?_ kk
    show Value.int (Int32.ofInt (z_val ρ (0, 1, 0))) = _
    rw [ev, z_ofN]
  next =>
    split at h
    next hk =>
      split at h
      next g hg =>
        split at h
        next hc =>
          cases h
          obtain ⟨hc1, hc2, hc3⟩ := hc
          intro ρ ad ws H locs ls hgm kk
          have hxo : a.2.1 < ov.length := by
            have := hgm.1.2.2.1 a List.mem_cons_self
            unfold zok at this; rw [hk] at this; exact this
          obtain ⟨e0, hq, he⟩ := z_wd_at hgm.2.2.1 hxo hg
          obtain ⟨ty, hty⟩ : ∃ ty, tyl[g.1 - 1]? = some ty := ⟨_, List.getElem?_eq_getElem hc2⟩
          have hq2 := hT.2.2.2.2.2 (g.1 - 1) ty hty
          rw [show g.1 - 1 + 1 = g.1 by omega] at hq2
          obtain ⟨cx, hcx⟩ : ∃ cx, e0 = .inl (cA g.1, g.2.1, cx) := by
            match hgt : g.1, hc1 with
            | 1, _ => obtain ⟨f, h1, -⟩ := z_en1 hgt he; exact ⟨_, h1⟩
            | 2, _ => obtain ⟨f, h1, -⟩ := z_en2 hgt he; exact ⟨_, h1⟩
            | 3, _ => obtain ⟨f, h1, -⟩ := z_en3 hgt he; exact ⟨_, h1⟩
            | 4, _ => obtain ⟨f, h1, -⟩ := z_en4 hgt he; exact ⟨_, h1⟩
            | k + 5, _ => obtain ⟨f, h1, -⟩ := z_en5 hgt he; exact ⟨_, h1⟩
          subst hcx
          show W p l e R s m args below meth c H locs cu su Q (F0 m pc ls (zcv ad b ρ a :: r.map (zcv ad b ρ)))
          rw [z_cv2 hk]
          refine va_alen hx hb hK hgm.2.2.2.1 a.2.1 (g.1 - 1) hq hq2 rfl hd ?_
          exact z_fin hgm (fun w hw => List.mem_cons_of_mem _ hw) (fun _ _ => rfl) (Nat.le_refl _) hgm.1.1 (z_okc hgm.1.1 (by omega) hc3) (by rw [z_cvc hgm.1.1.1, z_ofN]) kk
        next => cases h
      next => cases h
    next => cases h
end ZST6
