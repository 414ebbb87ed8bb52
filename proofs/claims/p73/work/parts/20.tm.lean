/-! ===== templates: what is known of a state, said with symbols of its own ===== -/
/-- what is known of a cell: which, from which place on, how many places, the first one's value (the next ones have the next symbols) -/
abbrev zKn : Type := Nat × Nat × Nat × zV
def z_kf (kl : List zKn) (p i : Nat) : Option zV := match kl with
  | [] => none
  | k :: r => bif Nat.beq p k.1 && (Nat.ble k.2.1 i && Nat.blt i (k.2.1 + k.2.2.1)) then some (k.2.2.2.1, k.2.2.2.2.1 + (i - k.2.1), k.2.2.2.2.2) else z_kf r p i
def z_ko (n : Nat) (kl : List zKn) : zO := Prod.mk n (Prod.mk (fun _ => false) (Prod.mk (z_kf kl) []))
theorem z_ko_lk {n : Nat} {kl : List zKn} {p i : Nat} {v : zV} (h : z_lk (z_ko n kl) p i = some v) : z_kf kl p i = some v := by
  have e : z_lk (z_ko n kl) p i = (bif Nat.blt p n then z_kf kl p i else none) := rfl
  rw [e] at h
  cases hb : Nat.blt p n with
  | true => rw [hb] at h; exact h
  | false => rw [hb] at h; cases h
/-- a value, its symbol put for by another value -/
def z_sb (sg : Nat → zV) (v : zV) : zV := bif Nat.ble v.1 1 then (v.1, (sg v.2.1).2.1, (sg v.2.1).2.2 + v.2.2) else v
def z_sbf (sg : Nat → zV) (f : zFc) : zFc := z_ff f.1 (f.2.map (fun q => (q.2, sg q.1)))
def z_sbd (sg : Nat → zV) (d : zDj) : zDj := (((sg d.1.1).2.1, d.1.2.1 - (sg d.1.1).2.2, d.1.2.2 - (sg d.1.1).2.2), ((sg d.2.1).2.1, d.2.2.1 - (sg d.2.1).2.2, d.2.2.2 - (sg d.2.1).2.2))
/-- the new symbols are the old values -/
def zSg (n : Nat) (sg : Nat → zV) (ρ ρ' : Nat → Int) : Prop := ∀ i, i < n → ρ' i = z_val ρ (sg i)
theorem z_sb_val {n : Nat} {sg : Nat → zV} {ρ ρ' : Nat → Int} {v : zV} (h : zSg n sg ρ ρ') (hk : v.1 ≤ 1) (hv : v.2.1 < n) : z_val ρ' v = z_val ρ (z_sb sg v) := by
  unfold z_sb
  rw [show Nat.ble v.1 1 = true from Nat.ble_eq_true_of_le hk]
  show ρ' v.2.1 + v.2.2 = ρ (sg v.2.1).2.1 + ((sg v.2.1).2.2 + v.2.2)
  rw [h _ hv]
  unfold z_val
  omega
theorem z_sbf_vs {n : Nat} {sg : Nat → zV} {ρ ρ' : Nat → Int} (h : zSg n sg ρ ρ') : ∀ l : List (Nat × Int), (∀ q ∈ l, q.1 < n) → z_vs ρ (l.map (fun q => (q.2, sg q.1))) = z_sum ρ' l
  | [], _ => rfl
  | q :: r, hm => by
    show q.2 * z_val ρ (sg q.1) + z_vs ρ (r.map (fun q => (q.2, sg q.1))) = q.2 * ρ' q.1 + z_sum ρ' r
    rw [z_sbf_vs h r (fun w hw => hm w (List.mem_cons_of_mem _ hw)), h _ (hm q List.mem_cons_self)]
theorem z_sbf_ok {n : Nat} {sg : Nat → zV} {ρ ρ' : Nat → Int} {f : zFc} (h : zSg n sg ρ ρ') (h0 : ρ 0 = 0) (hm : ∀ q ∈ f.2, q.1 < n) : z_ev ρ (z_sbf sg f) = z_ev ρ' f := by
  unfold z_sbf
  rw [z_ff_ok h0, z_sbf_vs h f.2 hm]
  rfl
theorem z_sbd_ok {n : Nat} {sg : Nat → zV} {ρ ρ' : Nat → Int} {d : zDj} (h : zSg n sg ρ ρ') (h1 : d.1.1 < n) (h2 : d.2.1 < n) : zDjp ρ (z_sbd sg d) ↔ zDjp ρ' d := by
  unfold zDjp z_sbd
  dsimp only
  rw [h _ h1, h _ h2]
  unfold z_val
  omega
/-- are two values the same -/
def z_ve (iv : zI) (w v : zV) : Bool := (Nat.beq w.1 v.1 && (Nat.beq w.2.1 v.2.1 && decide (w.2.2 = v.2.2))) || (Nat.beq w.1 v.1 && (Nat.ble v.1 1 && (match z_bd iv w, z_bd iv v with
  | some a, some b => decide (a.1 = a.2 ∧ b.1 = b.2 ∧ a.1 = b.1)
  | _, _ => false)))
theorem z_ve_ok {iv : zI} {ρ : Nat → Int} {w v : zV} (hi : ziv iv ρ) (h : z_ve iv w v = true) : w = v ∨ (w.1 = v.1 ∧ v.1 ≤ 1 ∧ z_val ρ w = z_val ρ v) := by
  unfold z_ve at h
  rcases Bool.or_eq_true _ _ ▸ h with h | h
  · rw [Bool.and_eq_true, Bool.and_eq_true] at h
    have e1 := Nat.eq_of_beq_eq_true h.1
    have e2 := Nat.eq_of_beq_eq_true h.2.1
    have e3 := of_decide_eq_true h.2.2
    obtain ⟨a, b, c⟩ := w
    obtain ⟨a', b', c'⟩ := v
    dsimp only at e1 e2 e3
    subst e1; subst e2; subst e3
    exact Or.inl rfl
  · rw [Bool.and_eq_true, Bool.and_eq_true] at h
    have e1 := Nat.eq_of_beq_eq_true h.1
    have e2 := Nat.le_of_ble_eq_true h.2.1
    have h3 := h.2.2
    split at h3
    next a b ha hb =>
      have b1 := z_bd_ok ha hi
      have b2 := z_bd_ok hb hi
      have b3 := of_decide_eq_true h3
      exact Or.inr ⟨e1, e2, by omega⟩
    next => cases h3
/-- a value of the state is that of the template -/
def z_mv (iv : zI) (sg : Nat → zV) (n : Nat) (w v : zV) : Bool := z_ve iv w (z_sb sg v) && (bif Nat.ble v.1 1 then Nat.blt v.2.1 n else true)
theorem z_mv_ok {iv τ : zI} {sg : Nat → zV} {m : Nat} {ρ ρ' : Nat → Int} {w v : zV} (hi : ziv iv ρ) (hs : zSg τ.length sg ρ ρ') (hw : zok m iv ρ w) (h : z_mv iv sg τ.length w v = true) (ad : Nat → Nat) (b : Nat → Nat) : zok m τ ρ' v ∧ zcv ad b ρ' v = zcv ad b ρ w := by
  unfold z_mv at h
  rw [Bool.and_eq_true] at h
  obtain ⟨h1, h2⟩ := h
  by_cases hk : v.1 ≤ 1
  · rw [show Nat.ble v.1 1 = true from Nat.ble_eq_true_of_le hk] at h2
    have h3 : v.2.1 < τ.length := Nat.le_of_ble_eq_true h2
    have e := z_sb_val hs hk h3
    have ek : (z_sb sg v).1 = v.1 := by
      unfold z_sb
      rw [show Nat.ble v.1 1 = true from Nat.ble_eq_true_of_le hk]
      rfl
    have key : w.1 = v.1 ∧ z_val ρ w = z_val ρ' v := by
      rcases z_ve_ok hi h1 with q | ⟨q1, q2, q3⟩
      · rw [q, ek]; exact ⟨rfl, e.symm⟩
      · exact ⟨q1.trans ek, by rw [e]; exact q3⟩
    rcases (show v.1 = 0 ∨ v.1 = 1 by omega) with z | z
    · have o := z_ok0 hw (key.1.trans z)
      refine ⟨?_, ?_⟩
      · unfold zok; rw [z]
        exact ⟨h3, by rw [← key.2]; exact o.2.1, by rw [← key.2]; exact o.2.2⟩
      · rw [z_cv0 z, z_cv0 (key.1.trans z), key.2]
    · have o := z_ok1 hw (key.1.trans z)
      refine ⟨?_, ?_⟩
      · unfold zok; rw [z]
        exact ⟨h3, by rw [← key.2]; exact o.2.1, by rw [← key.2]; exact o.2.2⟩
      · rw [z_cv1 z, z_cv1 (key.1.trans z), key.2]
  · have ek : z_sb sg v = v := by
      unfold z_sb
      rw [show Nat.ble v.1 1 = false from Bool.eq_false_iff.mpr (fun q => hk (Nat.le_of_ble_eq_true q))]
      rfl
    rw [ek] at h1
    have ew : w = v := by
      rcases z_ve_ok hi h1 with q | ⟨q1, q2, q3⟩
      · exact q
      · exact absurd q2 hk
    subst ew
    obtain ⟨k, i, o⟩ := w
    dsimp only at hk
    match k, hk, hw with
    | 0, hk, _ => exact absurd (Nat.zero_le _) hk
    | 1, hk, _ => exact absurd (Nat.le_refl _) hk
    | 2, _, hw => exact ⟨hw, rfl⟩
    | 3, _, _ => exact ⟨True.intro, rfl⟩
    | 4, _, _ => exact ⟨True.intro, rfl⟩
    | k + 5, _, _ => exact ⟨True.intro, rfl⟩
/-- the intervals of the template hold its symbols -/
def z_mi (iv : zI) (sg : Nat → zV) (τ : zI) : Nat → Bool
  | 0 => true
  | i + 1 => z_mi iv sg τ i && (match z_bd iv (sg i), τ.at i with
    | some q, some t => (decide (t.1 ≤ q.1) || (iv.fs.1 && z_pv iv 4 (z_ff (-t.1) [(1, sg i)]))) && (decide (q.2 ≤ t.2) || (iv.fs.1 && z_pv iv 4 (z_ff t.2 [(-1, sg i)])))
    | _, _ => false)
theorem z_mi_ok {iv τ : zI} {sg : Nat → zV} {ρ : Nat → Int} (hi : ziv iv ρ) : ∀ n : Nat, z_mi iv sg τ n = true → ∀ i, i < n → (sg i).2.1 < iv.length ∧ ∀ t, τ.at i = some t → t.1 ≤ z_val ρ (sg i) ∧ z_val ρ (sg i) ≤ t.2
  | 0, _, i, h => absurd h (Nat.not_lt_zero i)
  | n + 1, h, i, hl => by
    unfold z_mi at h
    rw [Bool.and_eq_true] at h
    by_cases e : i = n
    · subst e
      have h1 := h.2
      split at h1
      next q t hq ht =>
        have b1 := z_bd_ok hq hi
        refine ⟨b1.1, fun t' ht' => ?_⟩
        rw [ht] at ht'
        cases ht'
        rw [Bool.and_eq_true] at h1
        constructor
        · rcases Bool.or_eq_true _ _ ▸ h1.1 with c | c
          · have := of_decide_eq_true c; omega
          · rw [Bool.and_eq_true] at c
            have t1 := z_pv_ok hi 4 _ c.2
            rw [z_ff_ok hi.1] at t1
            change 0 ≤ -t.1 + (1 * z_val ρ (sg i) + 0) at t1
            omega
        · rcases Bool.or_eq_true _ _ ▸ h1.2 with c | c
          · have := of_decide_eq_true c; omega
          · rw [Bool.and_eq_true] at c
            have t1 := z_pv_ok hi 4 _ c.2
            rw [z_ff_ok hi.1] at t1
            change 0 ≤ t.2 + (-1 * z_val ρ (sg i) + 0) at t1
            omega
      next => cases h1
    · exact z_mi_ok hi n h.1 i (by omega)
/-- a fact 'this or that' -/
def z_md (iv : zI) (d : zDj) : Bool := (match iv.at d.1.1 with
    | some q => decide (d.1.2.1 ≤ q.1 ∧ q.2 ≤ d.1.2.2)
    | none => false) || ((match iv.at d.2.1 with
    | some q => decide (d.2.2.1 ≤ q.1 ∧ q.2 ≤ d.2.2.2)
    | none => false) || iv.fs.2.2.2.any (fun e => Nat.beq e.1.1 d.1.1 && (Nat.beq e.2.1 d.2.1 && (decide (d.1.2.1 ≤ e.1.2.1 ∧ e.1.2.2 ≤ d.1.2.2) && decide (d.2.2.1 ≤ e.2.2.1 ∧ e.2.2.2 ≤ d.2.2.2)))))
theorem z_md_ok {iv : zI} {ρ : Nat → Int} {d : zDj} (hi : ziv iv ρ) (h : z_md iv d = true) : zDjp ρ d := by
  unfold z_md at h
  unfold zDjp
  rcases Bool.or_eq_true _ _ ▸ h with c | c
  · split at c
    next q hq =>
      have b1 := hi.2.2.1 _ _ hq
      have := of_decide_eq_true c
      omega
    next => cases c
  · rcases Bool.or_eq_true _ _ ▸ c with c | c
    · split at c
      next q hq =>
        have b1 := hi.2.2.1 _ _ hq
        have := of_decide_eq_true c
        omega
      next => cases c
    · obtain ⟨e, he, h2⟩ := List.any_eq_true.mp c
      rw [Bool.and_eq_true, Bool.and_eq_true, Bool.and_eq_true] at h2
      have e1 := Nat.eq_of_beq_eq_true h2.1
      have e2 := Nat.eq_of_beq_eq_true h2.2.1
      have e3 := of_decide_eq_true h2.2.2.1
      have e4 := of_decide_eq_true h2.2.2.2
      have t := (hi.2.2.2.2.2 e he).2
      unfold zDjp at t
      rw [e1, e2] at t
      omega
def z_fS {α : Type} (sg : Nat → zV) : List (Nat × Int) → (List (Int × zV) → α) → α
  | [], k => k []
  | q :: r, k => match sg q.1 with
    | (a, s, n) => z_fN s (fun s => z_fI n (fun n => z_fS sg r (fun t => k ((q.2, (a, s, n)) :: t))))
theorem z_fS_eq {α : Type} {sg : Nat → zV} : ∀ (l : List (Nat × Int)) (k : List (Int × zV) → α), z_fS sg l k = k (l.map (fun q => (q.2, sg q.1)))
  | [], _ => rfl
  | q :: r, k => by
    unfold z_fS
    show (match sg q.1 with
      | (a, s, n) => z_fN s (fun s => z_fI n (fun n => z_fS sg r (fun t => k ((q.2, (a, s, n)) :: t))))) = k ((q.2, sg q.1) :: r.map (fun q => (q.2, sg q.1)))
    obtain ⟨a, s, n⟩ := sg q.1
    dsimp only
    rw [z_fN_eq, z_fI_eq, z_fS_eq r]
/-- a fact with other symbols, reckoned at once -/
def z_fB {α : Type} (sg : Nat → zV) (f : zFc) (k : zFc → α) : α := z_fS sg f.2 (fun l => match z_ff f.1 l with
  | (c, t) => z_fI c (fun c => z_fL t (fun t => k (c, t))))
theorem z_fB_eq {α : Type} {sg : Nat → zV} {f : zFc} {k : zFc → α} : z_fB sg f k = k (z_sbf sg f) := by
  unfold z_fB
  rw [z_fS_eq]
  unfold z_sbf
  obtain ⟨c, t⟩ := z_ff f.1 (f.2.map (fun q => (q.2, sg q.1)))
  dsimp only
  rw [z_fI_eq, z_fL_eq]
def z_fBs {α : Type} (sg : Nat → zV) : List zFc → (List zFc → α) → α
  | [], k => k []
  | f :: r, k => z_fB sg f (fun g => z_fBs sg r (fun t => k (g :: t)))
theorem z_fBs_eq {α : Type} {sg : Nat → zV} : ∀ (l : List zFc) (k : List zFc → α), z_fBs sg l k = k (l.map (z_sbf sg))
  | [], _ => rfl
  | f :: r, k => by
    unfold z_fBs
    rw [z_fB_eq, z_fBs_eq r]
    rfl
def z_mf (iv : zI) (sg : Nat → zV) (τ : zI) : Bool := τ.fs.2.1.all (fun f => f.2.all (fun q => Nat.blt q.1 τ.length) && z_fB sg f (z_pv iv 4)) && (τ.fs.2.2.1.isEmpty && τ.fs.2.2.2.all (fun d => Nat.blt d.1.1 τ.length && (Nat.blt d.2.1 τ.length && z_md iv (z_sbd sg d))))
/-- known places -/
def z_mk1 (iv : zI) (ov : zO) (sg : Nat → zV) (n : Nat) (p i0 : Nat) (v : zV) : Nat → Bool
  | 0 => true
  | j + 1 => z_mk1 iv ov sg n p i0 v j && (match z_lk ov p (i0 + j) with
    | some w => z_mv iv sg n w (v.1, v.2.1 + j, v.2.2)
    | none => false)
theorem z_mk1_ok {iv : zI} {ov : zO} {sg : Nat → zV} {n : Nat} {p i0 : Nat} {v : zV} : ∀ m : Nat, z_mk1 iv ov sg n p i0 v m = true → ∀ j, j < m → ∃ w, z_lk ov p (i0 + j) = some w ∧ z_mv iv sg n w (v.1, v.2.1 + j, v.2.2) = true
  | 0, _, j, h => absurd h (Nat.not_lt_zero j)
  | m + 1, h, j, hl => by
    unfold z_mk1 at h
    rw [Bool.and_eq_true] at h
    by_cases e : j = m
    · subst e
      have h1 := h.2
      split at h1
      next w hw => exact ⟨w, hw, h1⟩
      next => cases h1
    · exact z_mk1_ok m h.1 j (by omega)
def z_mkl (iv : zI) (ov : zO) (sg : Nat → zV) (n : Nat) (kl : List zKn) : Bool := kl.all (fun k => z_mk1 iv ov sg n k.1 k.2.1 k.2.2.2 k.2.2.1)
theorem z_mkl_ok {iv : zI} {ov : zO} {sg : Nat → zV} {n : Nat} : ∀ kl : List zKn, z_mkl iv ov sg n kl = true → ∀ (p i : Nat) (v : zV), z_kf kl p i = some v → ∃ w, z_lk ov p i = some w ∧ z_mv iv sg n w v = true
  | [], _, p, i, v, h => by cases h
  | k :: r, h, p, i, v, hv => by
    unfold z_mkl at h
    rw [List.all_cons, Bool.and_eq_true] at h
    unfold z_kf at hv
    cases hb : Nat.beq p k.1 && (Nat.ble k.2.1 i && Nat.blt i (k.2.1 + k.2.2.1)) with
    | true =>
      rw [hb] at hv
      cases hv
      rw [Bool.and_eq_true, Bool.and_eq_true] at hb
      have e1 := Nat.eq_of_beq_eq_true hb.1
      have e2 := Nat.le_of_ble_eq_true hb.2.1
      have e3 : i < k.2.1 + k.2.2.1 := Nat.le_of_ble_eq_true hb.2.2
      obtain ⟨w, h1, h2⟩ := z_mk1_ok _ h.1 (i - k.2.1) (by omega)
      rw [show k.2.1 + (i - k.2.1) = i by omega] at h1
      exact ⟨w, by rw [e1]; exact h1, h2⟩
    | false =>
      rw [hb] at hv
      exact z_mkl_ok r h.2 p i v hv
/-- does the state hold what the template says -/
def z_mat (iv : zI) (ov : zO) (sg : Nat → zV) (τ : zI) (kl : List zKn) : Bool := Nat.blt 9 τ.length && (z_mi iv sg τ τ.length && (z_mf iv sg τ && z_mkl iv ov sg τ.length kl))
theorem z_mat_ok {G : List zC} {cA : Nat → ClassId} {iv τ : zI} {ov : zO} {sg : Nat → zV} {kl : List zKn} {ρ ρ' : Nat → Int} {ad : Nat → Nat} {b : Nat → Nat} {ws : va_W} (hM : z_mat iv ov sg τ kl = true) (hi : ziv iv ρ) (hk : ∀ (p9 i9 : Nat) (v : zV), z_lk ov p9 i9 = some v → zok ov.length iv ρ v) (hw : z_wd G cA ov ad b ρ ws) (h0 : ρ' 0 = 0) (hs : zSg τ.length sg ρ ρ') : ziv τ ρ' ∧ (∀ (p9 i9 : Nat) (v : zV), z_lk (z_ko ov.length kl) p9 i9 = some v → zok ov.length τ ρ' v) ∧ z_wd G cA (z_ko ov.length kl) ad b ρ' ws ∧ 9 < τ.length := by
  unfold z_mat at hM
  rw [Bool.and_eq_true, Bool.and_eq_true, Bool.and_eq_true] at hM
  obtain ⟨m0, m1, m2, m3⟩ := hM
  have m0 : 9 < τ.length := Nat.le_of_ble_eq_true m0
  have hmi := z_mi_ok hi _ m1
  unfold z_mf at m2
  rw [Bool.and_eq_true, Bool.and_eq_true] at m2
  obtain ⟨f1, f2, f3⟩ := m2
  refine ⟨⟨h0, by omega, fun i q hq => ?_, fun f hf => ?_, fun e he => ?_, fun d hd => ?_⟩, fun p9 i9 v hv => ?_, ⟨hw.1, fun p q hq => ?_⟩, m0⟩
  · have hl := zI.at_lt hq
    rw [hs i hl]
    exact (hmi i hl).2 q hq
  · have h1 := List.all_eq_true.mp f1 f hf
    rw [Bool.and_eq_true] at h1
    have hm : ∀ q ∈ f.2, q.1 < τ.length := fun q hq => Nat.le_of_ble_eq_true (List.all_eq_true.mp h1.1 q hq)
    have h2 := z_pv_ok hi 4 _ (z_fB_eq.symm.trans h1.2)
    rw [z_sbf_ok hs hi.1 hm] at h2
    exact ⟨h2, hm⟩
  · have : τ.fs.2.2.1 = [] := List.isEmpty_iff.mp f2
    rw [this] at he
    cases he
  · have h1 := List.all_eq_true.mp f3 d hd
    rw [Bool.and_eq_true, Bool.and_eq_true] at h1
    have e1 : d.1.1 < τ.length := Nat.le_of_ble_eq_true h1.1
    have e2 : d.2.1 < τ.length := Nat.le_of_ble_eq_true h1.2.1
    exact ⟨⟨e1, e2⟩, (z_sbd_ok hs e1 e2).mp (z_md_ok hi h1.2.2)⟩
  · obtain ⟨w, w1, w2⟩ := z_mkl_ok kl m3 p9 i9 v (z_ko_lk hv)
    exact (z_mv_ok hi hs (hk _ _ w w1) w2 ad b).1
  · obtain ⟨h1, g, hg, he⟩ := hw.2 p q hq
    refine ⟨h1, g, hg, z_en_mono (fun i V hV => ?_) he⟩
    unfold z_wv at hV ⊢
    refine ⟨hV.1, ?_⟩
    split
    next a ha =>
      obtain ⟨w, w1, w2⟩ := z_mkl_ok kl m3 p i a (z_ko_lk ha)
      have hV2 := hV.2
      rw [w1] at hV2
      dsimp only at hV2
      rw [hV2]
      exact (z_mv_ok hi hs (hk _ _ w w1) w2 ad b).2.symm
    next => exact True.intro
/-- values one by one -/
def z_mvl (iv : zI) (sg : Nat → zV) (n : Nat) : List zV → List zV → Bool
  | [], [] => true
  | w :: r, v :: t => z_mv iv sg n w v && z_mvl iv sg n r t
  | _, _ => false
theorem z_mvl_ok {iv τ : zI} {sg : Nat → zV} {m : Nat} {ρ ρ' : Nat → Int} (hi : ziv iv ρ) (hs : zSg τ.length sg ρ ρ') (ad : Nat → Nat) (b : Nat → Nat) : ∀ (ws vs : List zV), (∀ w ∈ ws, zok m iv ρ w) → z_mvl iv sg τ.length ws vs = true → (∀ v ∈ vs, zok m τ ρ' v) ∧ vs.map (zcv ad b ρ') = ws.map (zcv ad b ρ)
  | [], [], _, _ => ⟨(fun v hv => absurd hv List.not_mem_nil), rfl⟩
  | w :: r, v :: t, hw, h => by
    unfold z_mvl at h
    rw [Bool.and_eq_true] at h
    obtain ⟨h1, h2⟩ := z_mv_ok hi hs (hw w List.mem_cons_self) h.1 ad b
    obtain ⟨h3, h4⟩ := z_mvl_ok hi hs ad b r t (fun x hx => hw x (List.mem_cons_of_mem _ hx)) h.2
    refine ⟨fun x hx => ?_, by rw [List.map_cons, List.map_cons, h2, h4]⟩
    rcases List.mem_cons.mp hx with e | e
    · subst e; exact h1
    · exact h3 x e
  | [], _ :: _, _, h => by unfold z_mvl at h; cases h
  | _ :: _, [], _, h => by unfold z_mvl at h; cases h
/-- locals: each of the template's is one of the state's -/
def z_mlv (iv : zI) (sg : Nat → zV) (n : Nat) (lv : zL) (lt : zL) : Bool := lt.all (fun q => match z_fd lv q.1 with
  | some w => z_mv iv sg n w q.2
  | none => false)
/-- where a symbol of a template comes from: the first, how many; 0 a local, 1 of the stack, 2 a cell, 3 a number, 4 a symbol; which; its place -/
abbrev zSr : Type := Nat × Nat × Nat × Nat × Int
def z_src (lv : zL) (sk : List zV) (ov : zO) (l : List zSr) (i : Nat) : zV := match l with
  | [] => (0, i, 0)
  | s :: r => bif Nat.ble s.1 i && Nat.blt i (s.1 + s.2.1) then (match s.2.2.1 with
    | 0 => (z_fd lv s.2.2.2.1).getD (0, 0, 0)
    | 1 => (sk[s.2.2.2.1]?).getD (0, 0, 0)
    | 2 => (z_lk ov s.2.2.2.1 (s.2.2.2.2.toNat + (i - s.1))).getD (0, 0, 0)
    | 3 => (0, 0, s.2.2.2.2)
    | _ => (0, s.2.2.2.1, s.2.2.2.2)) else z_src lv sk ov r i
theorem z_src_id {lv : zL} {sk : List zV} {ov : zO} {k i : Nat} (hi : i < k) : ∀ l : List zSr, l.all (fun s => Nat.ble k s.1) = true → z_src lv sk ov l i = (0, i, 0)
  | [], _ => rfl
  | s :: r, h => by
    rw [List.all_cons, Bool.and_eq_true] at h
    have h1 := Nat.le_of_ble_eq_true h.1
    unfold z_src
    rw [show Nat.ble s.1 i = false from Bool.eq_false_iff.mpr (fun q => by have := Nat.le_of_ble_eq_true q; omega)]
    exact z_src_id hi r h.2
/-- the cells that sources name get symbols -/
def z_fcn (G : List zC) (p i0 : Nat) : Nat → zI × zO → zI × zO
  | 0, x => x
  | n + 1, x => match z_fcn G p i0 n x with
    | (iv, ov) => z_fc G p (i0 + n) iv ov
def z_fcl (G : List zC) (l : List zSr) (x : zI × zO) : zI × zO := match l with
  | [] => x
  | s :: r => z_fcl G r (bif Nat.beq s.2.2.1 2 then z_fcn G s.2.2.2.1 s.2.2.2.2.toNat s.2.1 x else x)
section ZTM
variable {D : va_G} {cl : List vw_C} {A : Nat → Prop} {cA : Nat → ClassId} {G : List zC} {b : Nat → Nat} {sl : Nat} {xs : Nat → Int32} {fl : zFl} {h0 : Heap} {nL : Nat}
/-- the same state, cells with symbols: longer, and the old symbols as they were -/
def zFo (D : va_G) (cl : List vw_C) (A : Nat → Prop) (cA : Nat → ClassId) (G : List zC) (b : Nat → Nat) (sl : Nat) (xs : Nat → Int32) (fl : zFl) (h0 : Heap) (nL : Nat) (lv : zL) (sk : List zV) (ad : Nat → Nat) (ws : va_W) (H : Heap) (locs : List Loc) (ls : Array Slot) (x y : zI × zO) (ρ ρ' : Nat → Int) : Prop := (∀ j, j < x.1.length → ρ' j = ρ j) ∧ x.1.length ≤ y.1.length ∧ y.2.length = x.2.length ∧ z_gm D cl A cA G b sl xs fl h0 nL y.1 lv sk y.2 ρ' ad ws H locs ls
theorem zFo.tr {lv : zL} {sk : List zV} {ad : Nat → Nat} {ws : va_W} {H : Heap} {locs : List Loc} {ls : Array Slot} {x y z : zI × zO} {ρ ρ' ρ'' : Nat → Int} (h : zFo D cl A cA G b sl xs fl h0 nL lv sk ad ws H locs ls x y ρ ρ') (h' : zFo D cl A cA G b sl xs fl h0 nL lv sk ad ws H locs ls y z ρ' ρ'') : zFo D cl A cA G b sl xs fl h0 nL lv sk ad ws H locs ls x z ρ ρ'' :=
  ⟨fun j hj => (h'.1 j (Nat.lt_of_lt_of_le hj h.2.1)).trans (h.1 j hj), Nat.le_trans h.2.1 h'.2.1, h'.2.2.1.trans h.2.2.1, h'.2.2.2⟩
theorem z_fcn_ok {lv : zL} {sk : List zV} {ad : Nat → Nat} {ws : va_W} {H : Heap} {locs : List Loc} {ls : Array Slot} {p i0 : Nat} : ∀ (n : Nat) (x : zI × zO) (ρ : Nat → Int), z_gm D cl A cA G b sl xs fl h0 nL x.1 lv sk x.2 ρ ad ws H locs ls → ∃ ρ', zFo D cl A cA G b sl xs fl h0 nL lv sk ad ws H locs ls x (z_fcn G p i0 n x) ρ ρ'
  | 0, x, ρ, h => ⟨ρ, fun _ _ => rfl, Nat.le_refl _, rfl, h⟩
  | n + 1, x, ρ, h => by
    obtain ⟨ρ1, h1⟩ := z_fcn_ok (p := p) (i0 := i0) n x ρ h
    unfold z_fcn
    cases hz : z_fcn G p i0 n x with
    | mk iv ov =>
      rw [hz] at h1
      obtain ⟨ρ2, a1, a2, a3, a4⟩ := z_fc_ok p (i0 + n) h1.2.2.2
      exact ⟨ρ2, zFo.tr h1 ⟨a1, a2, a3, a4⟩⟩
theorem z_fcl_ok {lv : zL} {sk : List zV} {ad : Nat → Nat} {ws : va_W} {H : Heap} {locs : List Loc} {ls : Array Slot} : ∀ (l : List zSr) (x : zI × zO) (ρ : Nat → Int), z_gm D cl A cA G b sl xs fl h0 nL x.1 lv sk x.2 ρ ad ws H locs ls → ∃ ρ', zFo D cl A cA G b sl xs fl h0 nL lv sk ad ws H locs ls x (z_fcl G l x) ρ ρ'
  | [], x, ρ, h => ⟨ρ, fun _ _ => rfl, Nat.le_refl _, rfl, h⟩
  | s :: r, x, ρ, h => by
    unfold z_fcl
    cases hb : Nat.beq s.2.2.1 2 with
    | false => exact z_fcl_ok r x ρ h
    | true =>
      obtain ⟨ρ1, h1⟩ := z_fcn_ok (p := s.2.2.2.1) (i0 := s.2.2.2.2.toNat) s.2.1 x ρ h
      obtain ⟨ρ2, h2⟩ := z_fcl_ok r _ ρ1 h1.2.2.2
      exact ⟨ρ2, zFo.tr h1 h2⟩
end ZTM
