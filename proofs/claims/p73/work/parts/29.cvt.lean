/-! ===== other bounds of the same cells ===== -/
/-- between which numbers a cell lies: it is known, or by its bounds -/
def z_kb (ov : zO) (p i : Nat) (g0 : zC) (k : Nat) : Option (Int × Int) := match z_lk ov p i with
  | some v => if v.1 = k ∧ v.2.1 = 0 then some (v.2.2, v.2.2) else none
  | none => (match z_sp g0 i with
    | some q => if q.1 = k then some (q.2.1, q.2.2) else none
    | none => none)
def z_ces (ov : zO) (p i : Nat) (g0 : zC) (q : Nat × Int × Int) : Bool := match q.1 with
  | 0 => (match z_kb ov p i g0 0 with
    | some r => decide (q.2.1 ≤ r.1 ∧ r.2 ≤ q.2.2)
    | none => false)
  | 1 => (match z_kb ov p i g0 1 with
    | some r => decide (q.2.1 ≤ r.1 ∧ r.2 ≤ q.2.2)
    | none => false)
  | 5 => (match z_kb ov p i g0 0 with
    | some r => decide (0 ≤ r.1 ∧ r.2 ≤ 589013)
    | none => false)
  | 6 => (match z_lk ov p i with
    | some v => decide (v.1 = 2 ∧ v.2.1 = q.2.1.toNat ∧ v.2.1 < ov.length)
    | none => false)
  | _ => true
def z_ce (ov : zO) (p i : Nat) (g0 g1 : zC) : Bool := match z_sp g1 i with
  | none => true
  | some q => z_ces ov p i g0 q
def z_one (g : zC) : Bool := match g.2.2 with
  | [_] => true
  | _ => false
def z_cg (ov : zO) (p : Nat) (g0 g1 : zC) : Bool := Nat.beq g0.1 g1.1 && (Nat.beq g0.2.1 g1.2.1 && (bif Nat.beq g0.1 0 then Nat.beq g0.2.2.length g1.2.2.length && (List.range g1.2.2.length).all (fun i => z_ce ov p i g0 g1) else ((z_nof ov p && (z_one g0 && (z_one g1 && z_ce ov p 0 g0 g1))) || (List.range g1.2.1).all (fun i => z_ce ov p i g0 g1))))
def z_cvk (ov : zO) : Nat → List zC → List zC → Bool
  | _, [], [] => true
  | p, g0 :: r0, g1 :: r1 => z_cg ov p g0 g1 && z_cvk ov (p + 1) r0 r1
  | _, _, _ => false
theorem z_kb_ok0 {ov : zO} {p i : Nat} {g0 : zC} {ad : Nat → Nat} {b : Nat → Nat} {ρ : Nat → Int} {iv : zI} {v : Value} {r : Int × Int} (h : z_kb ov p i g0 0 = some r) (hi : ziv iv ρ) (hk : ∀ w, z_lk ov p i = some w → zok ov.length iv ρ w) (hv : z_wv g0 ov ad b ρ p i v) : ∃ x : Int32, v = .int x ∧ r.1 ≤ x.toInt ∧ x.toInt ≤ r.2 := by
  unfold z_kb at h
  unfold z_wv at hv
  cases hz : z_lk ov p i with
  | some w =>
    rw [hz] at h hv
    dsimp only at h hv
    split at h
    next hc =>
      cases h
      have hw := z_ok0 (hk w hz) hc.1
      have e : z_val ρ w = w.2.2 := by unfold z_val; rw [hc.2, hi.1]; omega
      refine ⟨Int32.ofInt (z_val ρ w), by rw [hv.2]; exact z_cv0 hc.1 ad b ρ, ?_, ?_⟩
      · rw [z_i32 hw.2.1 hw.2.2, e]; exact Int.le_refl _
      · rw [z_i32 hw.2.1 hw.2.2, e]; exact Int.le_refl _
    next => cases h
  | none =>
    rw [hz] at h
    dsimp only at h
    have hv := hv.1
    cases hs : z_sp g0 i with
    | none => rw [hs] at h; cases h
    | some q =>
      rw [hs] at h hv
      dsimp only at h
      split at h
      next hc =>
        cases h
        obtain ⟨k, lo, hi'⟩ := q
        cases hc
        exact hv
      next => cases h
theorem z_kb_ok1 {ov : zO} {p i : Nat} {g0 : zC} {ad : Nat → Nat} {b : Nat → Nat} {ρ : Nat → Int} {iv : zI} {v : Value} {r : Int × Int} (h : z_kb ov p i g0 1 = some r) (hi : ziv iv ρ) (hk : ∀ w, z_lk ov p i = some w → zok ov.length iv ρ w) (hv : z_wv g0 ov ad b ρ p i v) : ∃ x : Int64, v = .long x ∧ r.1 ≤ x.toInt ∧ x.toInt ≤ r.2 := by
  unfold z_kb at h
  unfold z_wv at hv
  cases hz : z_lk ov p i with
  | some w =>
    rw [hz] at h hv
    dsimp only at h hv
    split at h
    next hc =>
      cases h
      have hw := z_ok1 (hk w hz) hc.1
      have e : z_val ρ w = w.2.2 := by unfold z_val; rw [hc.2, hi.1]; omega
      refine ⟨Int64.ofInt (z_val ρ w), by rw [hv.2]; exact z_cv1 hc.1 ad b ρ, ?_, ?_⟩
      · rw [z_i64 hw.2.1 hw.2.2, e]; exact Int.le_refl _
      · rw [z_i64 hw.2.1 hw.2.2, e]; exact Int.le_refl _
    next => cases h
  | none =>
    rw [hz] at h
    dsimp only at h
    have hv := hv.1
    cases hs : z_sp g0 i with
    | none => rw [hs] at h; cases h
    | some q =>
      rw [hs] at h hv
      dsimp only at h
      split at h
      next hc =>
        cases h
        obtain ⟨k, lo, hi'⟩ := q
        cases hc
        exact hv
      next => cases h
theorem z_ce_ok {ov : zO} {p i : Nat} {g0 g1 : zC} {ad : Nat → Nat} {b : Nat → Nat} {ρ : Nat → Int} {iv : zI} {v : Value} (h : z_ce ov p i g0 g1 = true) (hi : ziv iv ρ) (hk : ∀ w, z_lk ov p i = some w → zok ov.length iv ρ w) (hv : z_wv g0 ov ad b ρ p i v) : z_wv g1 ov ad b ρ p i v := by
  refine ⟨?_, hv.2⟩
  unfold z_ce at h
  cases hs : z_sp g1 i with
  | none => exact True.intro
  | some q =>
    rw [hs] at h
    dsimp only at h
    obtain ⟨k, lo, hi'⟩ := q
    unfold z_ces at h
    dsimp only at h
    split at h
    · split at h
      next r hr =>
        obtain ⟨x, h1, h2, h3⟩ := z_kb_ok0 hr hi hk hv
        have hd := of_decide_eq_true h
        exact ⟨x, h1, by omega, by omega⟩
      next => cases h
    · split at h
      next r hr =>
        obtain ⟨x, h1, h2, h3⟩ := z_kb_ok1 hr hi hk hv
        have hd := of_decide_eq_true h
        exact ⟨x, h1, by omega, by omega⟩
      next => cases h
    · split at h
      next r hr =>
        obtain ⟨x, h1, h2, h3⟩ := z_kb_ok0 hr hi hk hv
        have hd := of_decide_eq_true h
        exact ⟨x, h1, Or.inl ⟨by omega, by omega⟩⟩
      next => cases h
    · split at h
      next w hw =>
        have hd := of_decide_eq_true h
        have hv2 := hv.2
        rw [hw] at hv2
        dsimp only at hv2
        refine ⟨by rw [← hd.2.1]; exact hd.2.2, ?_⟩
        rw [hv2, z_cv2 hd.1, hd.2.1]
      next => cases h
    next h0 h1 h5 h6 =>
      unfold z_spv
      split
      next e => cases e; exact absurd rfl h0
      next e => cases e; exact absurd rfl h1
      next e => cases e; exact absurd rfl h5
      next e => cases e; exact absurd rfl h6
      next => exact True.intro
theorem z_nof_lk {ov : zO} {p i : Nat} (h : z_nof ov p = true) : z_lk ov p i = none := by
  unfold z_lk; rw [h]; rfl
theorem z_one_sp {g : zC} (h : z_one g = true) (i : Nat) : z_sp g i = z_sp g 0 := by
  unfold z_one at h
  unfold z_sp
  split at h
  next q hq => rw [hq]
  next => cases h
theorem z_ce_one {ov : zO} {p i : Nat} {g0 g1 : zC} (h0 : z_nof ov p = true) (h1 : z_one g0 = true) (h2 : z_one g1 = true) (h : z_ce ov p 0 g0 g1 = true) : z_ce ov p i g0 g1 = true := by
  have e : z_ce ov p i g0 g1 = z_ce ov p 0 g0 g1 := by
    unfold z_ce z_ces z_kb
    rw [z_one_sp h2 i, z_one_sp h1 i, z_nof_lk (i := i) h0, z_nof_lk (i := 0) h0]
  rw [e]; exact h
theorem z_en_cg {cA : Nat → ClassId} {g0 g1 : zC} {F0 F1 : Nat → Value → Prop} {e : va_E} (h1 : g0.1 = g1.1) (h2 : g0.2.1 = g1.2.1) (h3 : g0.1 = 0 → g0.2.2.length = g1.2.2.length) (hF : ∀ i v, (g0.1 = 0 → i < g1.2.2.length) → (g0.1 ≠ 0 → i < g1.2.1) → F0 i v → F1 i v) (he : z_en cA g0 F0 e) : z_en cA g1 F1 e := by
  obtain ⟨t0, n0, s0⟩ := g0
  obtain ⟨t1, n1, s1⟩ := g1
  dsimp only at h1 h2 h3 hF
  subst h1 h2
  unfold z_en at he ⊢
  dsimp only at he ⊢
  split at he
  · obtain ⟨fs, e1, e2, e3⟩ := he
    refine ⟨fs, e1, e2.trans (h3 rfl), fun i v hv => hF i v (fun _ => ?_) (fun q => absurd rfl q) (e3 i v hv)⟩
    rw [← h3 rfl, ← e2]
    exact (List.getElem?_eq_some_iff.mp hv).1
  · obtain ⟨f, e1, e2⟩ := he; exact ⟨f, e1, fun j hj => hF j _ (fun q => by cases q) (fun _ => hj) (e2 j hj)⟩
  · obtain ⟨f, e1, e2⟩ := he; exact ⟨f, e1, fun j hj => hF j _ (fun q => by cases q) (fun _ => hj) (e2 j hj)⟩
  · obtain ⟨f, e1, e2⟩ := he; exact ⟨f, e1, fun j hj => hF j _ (fun q => by cases q) (fun _ => hj) (e2 j hj)⟩
  · obtain ⟨f, e1, e2⟩ := he; exact ⟨f, e1, fun j hj => hF j _ (fun q => by cases q) (fun _ => hj) (e2 j hj)⟩
  next k0 k1 k2 k3 k4 =>
    obtain ⟨f, e1, e2⟩ := he
    exact ⟨f, e1, fun j hj => hF j _ (fun q => absurd q k0) (fun _ => hj) (e2 j hj)⟩
theorem z_cvk_at {ov : zO} : ∀ (G0 G1 : List zC) (p0 : Nat), z_cvk ov p0 G0 G1 = true → ∀ (p : Nat) (g0 : zC), G0[p]? = some g0 → ∃ g1, G1[p]? = some g1 ∧ z_cg ov (p0 + p) g0 g1 = true
  | [], _, _, _, p, g0, hg => by cases hg
  | a :: r0, [], _, h, _, _, _ => by unfold z_cvk at h; cases h
  | a :: r0, c :: r1, p0, h, p, g0, hg => by
    unfold z_cvk at h
    rw [Bool.and_eq_true] at h
    cases p with
    | zero => cases hg; exact ⟨c, rfl, h.1⟩
    | succ p =>
      obtain ⟨g1, h1, h2⟩ := z_cvk_at r0 r1 (p0 + 1) h.2 p g0 hg
      exact ⟨g1, h1, by rw [show p0 + (p + 1) = p0 + 1 + p by omega]; exact h2⟩
theorem z_cvt {D : va_G} {cl : List vw_C} {A : Nat → Prop} {cA : Nat → ClassId} {G0 G1 : List zC} {b : Nat → Nat} {sl : Nat} {xs : Nat → Int32} {fl : zFl} {h0 : Heap} {nL : Nat} {iv : zI} {lv : zL} {sk : List zV} {ov : zO} {ρ : Nat → Int} {ad : Nat → Nat} {ws : va_W} {H : Heap} {locs : List Loc} {ls : Array Slot} (h : z_cvk ov 0 G0 G1 = true) (hg : z_gm D cl A cA G0 b sl xs fl h0 nL iv lv sk ov ρ ad ws H locs ls) : z_gm D cl A cA G1 b sl xs fl h0 nL iv lv sk ov ρ ad ws H locs ls := by
  obtain ⟨a1, a2, a3, a4⟩ := hg
  refine ⟨a1, a2, ⟨a3.1, fun p q hq => ?_⟩, a4⟩
  obtain ⟨h1, g0, hg0, he⟩ := a3.2 p q hq
  obtain ⟨g1, hg1, hc⟩ := z_cvk_at G0 G1 0 h p g0 hg0
  rw [Nat.zero_add] at hc
  refine ⟨h1, g1, hg1, ?_⟩
  unfold z_cg at hc
  rw [Bool.and_eq_true, Bool.and_eq_true] at hc
  obtain ⟨c1, c2, c3⟩ := hc
  have c1 := Nat.eq_of_beq_eq_true c1
  have c2 := Nat.eq_of_beq_eq_true c2
  have hk : ∀ i w, z_lk ov p i = some w → zok ov.length iv ρ w := fun i w hw => a1.2.2.2 p i w hw
  cases hb : Nat.beq g0.1 0 with
  | true =>
    rw [hb] at c3
    change (Nat.beq g0.2.2.length g1.2.2.length && (List.range g1.2.2.length).all (fun i => z_ce ov p i g0 g1)) = true at c3
    rw [Bool.and_eq_true] at c3
    have t0 := Nat.eq_of_beq_eq_true hb
    refine z_en_cg c1 c2 (fun _ => Nat.eq_of_beq_eq_true c3.1) (fun i v hi _ hv => ?_) he
    exact z_ce_ok (List.all_eq_true.mp c3.2 i (List.mem_range.mpr (hi t0))) a1.1 (hk i) hv
  | false =>
    rw [hb] at c3
    change ((z_nof ov p && (z_one g0 && (z_one g1 && z_ce ov p 0 g0 g1))) || (List.range g1.2.1).all (fun i => z_ce ov p i g0 g1)) = true at c3
    have t0 : g0.1 ≠ 0 := fun q => by rw [q] at hb; cases hb
    refine z_en_cg c1 c2 (fun q => absurd q t0) (fun i v _ hi hv => ?_) he
    rw [Bool.or_eq_true] at c3
    rcases c3 with c3 | c3
    · rw [Bool.and_eq_true, Bool.and_eq_true, Bool.and_eq_true] at c3
      obtain ⟨d1, d2, d3, d4⟩ := c3
      exact z_ce_ok (z_ce_one d1 d2 d3 d4) a1.1 (hk i) hv
    · exact z_ce_ok (List.all_eq_true.mp c3 i (List.mem_range.mpr (hi t0))) a1.1 (hk i) hv
