/-! ===== a place of a cell, unknown until now, gets a symbol ===== -/
def z_rng (g : zC) (i : Nat) : Bool := match g.1 with
  | 0 => Nat.blt i g.2.2.length
  | _ => Nat.blt i g.2.1
/-- what stands at one place, and the rest apart -/
theorem z_en_at {cA : Nat → ClassId} {g : zC} {F : Nat → Value → Prop} {e : va_E} {i : Nat} (he : z_en cA g F e) (hi : z_rng g i = true) : ∃ V : Value, F i V ∧ ∀ F' : Nat → Value → Prop, (∀ j v, j ≠ i → F j v → F' j v) → F' i V → z_en cA g F' e := by
  unfold z_en at he
  unfold z_rng at hi
  split at he
  next h0 =>
    rw [h0] at hi
    obtain ⟨fs, h1, h2, h3⟩ := he
    have hlt : i < fs.length := by rw [h2]; exact Nat.le_of_ble_eq_true hi
    obtain ⟨V, hV⟩ : ∃ V, fs[i]? = some V := ⟨_, List.getElem?_eq_getElem hlt⟩
    refine ⟨V, h3 i V hV, fun F' ho hn => ?_⟩
    unfold z_en
    rw [h0]
    refine ⟨fs, h1, h2, fun j v hv => ?_⟩
    by_cases ej : j = i
    · subst ej
      rw [hV] at hv
      cases hv
      exact hn
    · exact ho j v ej (h3 j v hv)
  next h0 =>
    rw [h0] at hi
    obtain ⟨f, h1, h2⟩ := he
    refine ⟨.int (f i), h2 i (Nat.le_of_ble_eq_true hi), fun F' ho hn => ?_⟩
    unfold z_en
    rw [h0]
    refine ⟨f, h1, fun j hj => ?_⟩
    by_cases ej : j = i
    · subst ej; exact hn
    · exact ho j _ ej (h2 j hj)
  next h0 =>
    rw [h0] at hi
    obtain ⟨f, h1, h2⟩ := he
    refine ⟨.long (f i), h2 i (Nat.le_of_ble_eq_true hi), fun F' ho hn => ?_⟩
    unfold z_en
    rw [h0]
    refine ⟨f, h1, fun j hj => ?_⟩
    by_cases ej : j = i
    · subst ej; exact hn
    · exact ho j _ ej (h2 j hj)
  next h0 =>
    rw [h0] at hi
    obtain ⟨f, h1, h2⟩ := he
    refine ⟨.int (f i), h2 i (Nat.le_of_ble_eq_true hi), fun F' ho hn => ?_⟩
    unfold z_en
    rw [h0]
    refine ⟨f, h1, fun j hj => ?_⟩
    by_cases ej : j = i
    · subst ej; exact hn
    · exact ho j _ ej (h2 j hj)
  next h0 =>
    rw [h0] at hi
    obtain ⟨f, h1, h2⟩ := he
    refine ⟨.int (f i), h2 i (Nat.le_of_ble_eq_true hi), fun F' ho hn => ?_⟩
    unfold z_en
    rw [h0]
    refine ⟨f, h1, fun j hj => ?_⟩
    by_cases ej : j = i
    · subst ej; exact hn
    · exact ho j _ ej (h2 j hj)
  next k n0 n1 n2 n3 n4 =>
    have hi' : i < g.2.1 := by
      split at hi
      next h0 => exact absurd h0 n0
      next => exact Nat.le_of_ble_eq_true hi
    obtain ⟨f, h1, h2⟩ := he
    refine ⟨va_rf (f i), h2 i hi', fun F' ho hn => ?_⟩
    unfold z_en
    split
    next h0 => exact absurd h0 n0
    next h0 => exact absurd h0 n1
    next h0 => exact absurd h0 n2
    next h0 => exact absurd h0 n3
    next h0 => exact absurd h0 n4
    next =>
      refine ⟨f, h1, fun j hj => ?_⟩
      by_cases ej : j = i
      · subst ej; exact hn
      · exact ho j _ ej (h2 j hj)
/-- a value of the place, known by a symbol from now on -/
theorem z_wd_kn {G : List zC} {cA : Nat → ClassId} {ov : zO} {ad : Nat → Nat} {b : Nat → Nat} {ρ ρ' : Nat → Int} {ws : va_W} {iv : zI} {p i : Nat} {g : zC} {v : zV} (hw : z_wd G cA ov ad b ρ ws) (hk : ∀ (p9 i9 : Nat) (v : zV), z_lk ov p9 i9 = some v → zok ov.length iv ρ v) (hx : ∀ j, j < iv.length → ρ' j = ρ j) (hn : z_nof ov p = false) (hp : p < ov.length) (hg : G[p]? = some g)
    (hV : ∀ e0, ws[p]? = some (ad p, e0) → z_en cA g (z_wv g ov ad b ρ p) e0 → ∃ V : Value, z_spv ov.length ad (z_sp g i) V ∧ (∀ F' : Nat → Value → Prop, (∀ j v, j ≠ i → z_wv g ov ad b ρ p j v → F' j v) → F' i V → z_en cA g F' e0) ∧ V = zcv ad b ρ' v) : z_wd G cA (z_wm (z_mm ov) ov p i v) ad b ρ' ws := by
  have hw' := z_wd_ext (ρ' := ρ') hw hk hx (fun _ _ => rfl)
  refine ⟨hw.1, fun p' q hq => ?_⟩
  by_cases e : p' = p
  · subst e
    obtain ⟨h1, g', hg', he⟩ := hw.2 p' q hq
    cases hg.symm.trans hg'
    refine ⟨h1, g, hg, ?_⟩
    obtain ⟨a, e0⟩ := q
    dsimp only at h1
    subst h1
    obtain ⟨V, h4, h2, h3⟩ := hV e0 hq he
    refine h2 _ (fun j w hj hw2 => ?_) ?_
    · unfold z_wv at hw2 ⊢
      rw [z_wm_ne (fun q => hj q.2)]
      refine ⟨hw2.1, ?_⟩
      replace hw2 := hw2.2
      split at hw2
      next a9 e9 => rw [hw2]; exact (zcv_ext (hk _ _ a9 e9) hx (fun _ _ => rfl)).symm
      next => exact True.intro
    · unfold z_wv
      rw [z_wm_at hn hp]
      exact ⟨h4, h3⟩
  · obtain ⟨h1, g', hg', he⟩ := hw'.2 p' q hq
    refine ⟨h1, g', hg', z_en_mono (fun j w hw2 => ?_) he⟩
    unfold z_wv at hw2 ⊢
    rw [z_wm_ne (fun q => e q.1)]
    exact hw2
def z_actp (iv : zI) : zI × zV := match iv.push (0, 13040013) with
  | iv' => (iv'.wf (iv'.fs.1, iv'.fs.2.1, iv'.fs.2.2.1, ((iv.length, 0, 589013), (iv.length, 10000000, 13040013)) :: iv'.fs.2.2.2), (0, iv.length, 0))
theorem z_actp_ok {iv : zI} {ρ : Nat → Int} {x : Int} (h : ziv iv ρ) (hx : z_act x) : ∃ ρ', zNw iv (z_actp iv).1 ρ ρ' 0 (z_actp iv).2 x := by
  have hb : 0 ≤ x ∧ x ≤ 13040013 := by unfold z_act at hx; omega
  have e0 : ∀ i, i < iv.length → (fun i => if i = iv.length then x else ρ i) i = ρ i := fun i h => if_neg (Nat.ne_of_lt h)
  refine ⟨fun i => if i = iv.length then x else ρ i, e0, Nat.le_succ _, ⟨?_, Nat.succ_pos _, ?_, ?_⟩, rfl, Nat.lt_succ_self _, ?_⟩
  · show (if 0 = iv.length then x else ρ 0) = 0
    rw [if_neg (Nat.ne_of_lt h.2.1)]; exact h.1
  · intro i q hq
    show q.1 ≤ (if i = iv.length then x else ρ i) ∧ (if i = iv.length then x else ρ i) ≤ q.2
    rcases zI.at_push (iv := iv) hq with ⟨hl, hq⟩ | ⟨hl, rfl⟩
    · rw [if_neg (Nat.ne_of_lt hl)]
      exact h.2.2.1 i q hq
    · rw [if_pos hl]; exact hb
  · have t := h.2.2.2.ext e0 (Nat.le_succ iv.length)
    refine ⟨t.1, t.2.1, fun k hk => ?_⟩
    rcases List.mem_cons.mp hk with q | q
    · subst q
      refine ⟨⟨Nat.lt_succ_self _, Nat.lt_succ_self _⟩, ?_⟩
      show (0 ≤ (if iv.length = iv.length then x else ρ iv.length) ∧ (if iv.length = iv.length then x else ρ iv.length) ≤ 589013) ∨ (10000000 ≤ (if iv.length = iv.length then x else ρ iv.length) ∧ (if iv.length = iv.length then x else ρ iv.length) ≤ 13040013)
      rw [if_pos rfl]; exact hx
    · exact t.2.2 k q
  · show (if iv.length = iv.length then x else ρ iv.length) + 0 = x
    rw [if_pos rfl]; omega
/-- the place gets a symbol, if it has none and its bounds say enough -/
def z_fc (G : List zC) (p i : Nat) (iv : zI) (ov : zO) : zI × zO := match z_lk ov p i with
  | some _ => (iv, ov)
  | none => bif z_nof ov p then (iv, ov) else bif Nat.blt p ov.length then (match G[p]? with
    | some g => bif z_rng g i then (match z_sp g i with
      | some (0, lo, hi) => ((z_mk iv 0 lo hi).1, z_wm (z_mm ov) ov p i (z_mk iv 0 lo hi).2)
      | some (1, lo, hi) => ((z_mk iv 1 lo hi).1, z_wm (z_mm ov) ov p i (z_mk iv 1 lo hi).2)
      | some (5, _, _) => ((z_actp iv).1, z_wm (z_mm ov) ov p i (z_actp iv).2)
      | some (6, q, _) => (iv, z_wm (z_mm ov) ov p i (2, q.toNat, 0))
      | _ => (iv, ov)) else (iv, ov)
    | none => (iv, ov)) else (iv, ov)
section ZST14
variable {D : va_G} {cl : List vw_C} {A : Nat → Prop} {cA : Nat → ClassId} {G : List zC} {b : Nat → Nat} {sl : Nat} {xs : Nat → Int32} {fl : zFl} {h0 : Heap} {nL : Nat}
theorem z_gm.kn {iv iv' : zI} {lv : zL} {sk : List zV} {ov : zO} {ρ ρ' : Nat → Int} {ad : Nat → Nat} {ws : va_W} {H : Heap} {locs : List Loc} {ls : Array Slot} {p i : Nat} {g : zC} {v : zV} (h : z_gm D cl A cA G b sl xs fl h0 nL iv lv sk ov ρ ad ws H locs ls) (hx : ∀ j, j < iv.length → ρ' j = ρ j) (hl : iv.length ≤ iv'.length) (hi : ziv iv' ρ') (hv : zok ov.length iv' ρ' v) (hn : z_nof ov p = false) (hp : p < ov.length) (hg : G[p]? = some g)
    (hV : ∀ e0, ws[p]? = some (ad p, e0) → z_en cA g (z_wv g ov ad b ρ p) e0 → ∃ V : Value, z_spv ov.length ad (z_sp g i) V ∧ (∀ F' : Nat → Value → Prop, (∀ j v, j ≠ i → z_wv g ov ad b ρ p j v → F' j v) → F' i V → z_en cA g F' e0) ∧ V = zcv ad b ρ' v) : z_gm D cl A cA G b sl xs fl h0 nL iv' lv sk (z_wm (z_mm ov) ov p i v) ρ' ad ws H locs ls := by
  have hm := h.mv hx hl hi (fun w hw => zok_ext (h.1.2.2.1 w hw) hx hl (Nat.le_refl _))
  refine ⟨⟨hi, hm.1.2.1, hm.1.2.2.1, fun p9 i9 w hw => ?_⟩, hm.2.1, z_wd_kn h.2.2.1 h.1.2.2.2 hx hn hp hg hV, hm.2.2.2.1, hm.2.2.2.2.1, hm.2.2.2.2.2.1, hm.2.2.2.2.2.2.1, hm.2.2.2.2.2.2.2.1, hm.2.2.2.2.2.2.2.2.1, hm.2.2.2.2.2.2.2.2.2⟩
  by_cases e : p9 = p ∧ i9 = i
  · rw [e.1, e.2, z_wm_at hn hp] at hw
    cases hw
    exact hv
  · rw [z_wm_ne e] at hw
    exact hm.1.2.2.2 p9 i9 w hw
theorem z_fc_ok {iv : zI} {lv : zL} {sk : List zV} {ov : zO} {ρ : Nat → Int} {ad : Nat → Nat} {ws : va_W} {H : Heap} {locs : List Loc} {ls : Array Slot} (p i : Nat) (h : z_gm D cl A cA G b sl xs fl h0 nL iv lv sk ov ρ ad ws H locs ls) : ∃ ρ', (∀ j, j < iv.length → ρ' j = ρ j) ∧ iv.length ≤ (z_fc G p i iv ov).1.length ∧ (z_fc G p i iv ov).2.length = ov.length ∧ z_gm D cl A cA G b sl xs fl h0 nL (z_fc G p i iv ov).1 lv sk (z_fc G p i iv ov).2 ρ' ad ws H locs ls := by
  unfold z_fc
  have triv : ∃ ρ', (∀ j, j < iv.length → ρ' j = ρ j) ∧ iv.length ≤ iv.length ∧ ov.length = ov.length ∧ z_gm D cl A cA G b sl xs fl h0 nL iv lv sk ov ρ' ad ws H locs ls := ⟨ρ, fun _ _ => rfl, Nat.le_refl _, rfl, h⟩
  split
  next => exact triv
  next hnone =>
    cases hn : z_nof ov p with
    | true => exact triv
    | false =>
      cases hp : Nat.blt p ov.length with
      | false => exact triv
      | true =>
        have hp' : p < ov.length := Nat.le_of_ble_eq_true hp
        show ∃ ρ', (∀ j, j < iv.length → ρ' j = ρ j) ∧ iv.length ≤ ((match G[p]? with | some g => _ | none => (iv, ov)) : zI × zO).1.length ∧ ((match G[p]? with | some g => _ | none => (iv, ov)) : zI × zO).2.length = ov.length ∧ z_gm D cl A cA G b sl xs fl h0 nL ((match G[p]? with | some g => _ | none => (iv, ov)) : zI × zO).1 lv sk ((match G[p]? with | some g => _ | none => (iv, ov)) : zI × zO).2 ρ' ad ws H locs ls
        split
        next g hg =>
          cases hr : z_rng g i with
          | false => exact triv
          | true =>
            have key : ∀ e0, ws[p]? = some (ad p, e0) → z_en cA g (z_wv g ov ad b ρ p) e0 → ∃ V : Value, z_spv ov.length ad (z_sp g i) V ∧ ∀ F' : Nat → Value → Prop, (∀ j v, j ≠ i → z_wv g ov ad b ρ p j v → F' j v) → F' i V → z_en cA g F' e0 := fun e0 _ he => by
              obtain ⟨V, h1, h2⟩ := z_en_at he hr
              exact ⟨V, h1.1, h2⟩
            obtain ⟨e1, hq1, he1⟩ := z_wd_at h.2.2.1 hp' hg
            obtain ⟨V, hV0, hF⟩ := key e1 hq1 he1
            have hV := hV0
            have same : ∀ e0, ws[p]? = some (ad p, e0) → e0 = e1 := fun e0 hq => by rw [hq1] at hq; cases hq; rfl
            dsimp only [cond_true, cond_false]
            split
            next lo hi hsp =>
              rw [hsp] at hV
              obtain ⟨X, rfl, b1, b2⟩ := hV
              obtain ⟨ρ', n1, n2, n3, n4, n5, n6⟩ := z_mk_ok 0 h.1.1 b1 b2
              refine ⟨ρ', n1, n2, rfl, h.kn n1 n2 n3 (z_ok0' n4 n5 X n6) hn hp' hg (fun e0 hq he => ⟨.int X, hV0, ?_, ?_⟩)⟩
              · rw [same e0 hq]; exact hF
              · rw [z_cv0 n4, n6, z_o32]
            next lo hi hsp =>
              rw [hsp] at hV
              obtain ⟨X, rfl, b1, b2⟩ := hV
              obtain ⟨ρ', n1, n2, n3, n4, n5, n6⟩ := z_mk_ok 1 h.1.1 b1 b2
              refine ⟨ρ', n1, n2, rfl, h.kn n1 n2 n3 (z_ok1' n4 n5 X n6) hn hp' hg (fun e0 hq he => ⟨.long X, hV0, ?_, ?_⟩)⟩
              · rw [same e0 hq]; exact hF
              · rw [z_cv1 n4, n6, z_o64]
            next q1 q2 hsp =>
              rw [hsp] at hV
              obtain ⟨X, rfl, b1⟩ := hV
              obtain ⟨ρ', n1, n2, n3, n4, n5, n6⟩ := z_actp_ok h.1.1 b1
              refine ⟨ρ', n1, n2, rfl, h.kn n1 n2 n3 (z_ok0' n4 n5 X n6) hn hp' hg (fun e0 hq he => ⟨.int X, hV0, ?_, ?_⟩)⟩
              · rw [same e0 hq]; exact hF
              · rw [z_cv0 n4, n6, z_o32]
            next q1 q2 hsp =>
              rw [hsp] at hV
              obtain ⟨b1, rfl⟩ := hV
              refine ⟨ρ, fun _ _ => rfl, Nat.le_refl _, rfl, h.kn (fun _ _ => rfl) (Nat.le_refl _) h.1.1 b1 hn hp' hg (fun e0 hq he => ⟨.ref (ad q1.toNat), hV0, ?_, ?_⟩)⟩
              · rw [same e0 hq]; exact hF
              · exact rfl
            next => exact triv
        next => exact triv
end ZST14
