/-! ===== states made narrower, and knowledge given up ===== -/
def z_er (ov : zO) (p i : Nat) : zO := Prod.mk (Prod.fst ov) (Prod.mk (Prod.fst (Prod.snd ov)) (fun p' i' => bif Nat.beq p' p then (bif Nat.beq i' i then none else z_at2 ov p' i') else z_at2 ov p' i'))
theorem z_er_lk {ov : zO} {p i p' i' : Nat} : z_lk (z_er ov p i) p' i' = bif z_nof ov p' then none else (bif Nat.blt p' (Prod.fst ov) then (bif Nat.beq p' p then (bif Nat.beq i' i then none else z_at2 ov p' i') else z_at2 ov p' i') else none) := rfl
theorem z_er_at {ov : zO} {p i : Nat} : z_lk (z_er ov p i) p i = none := by
  rw [z_er_lk, Nat.beq_refl, Nat.beq_refl]
  cases z_nof ov p with
  | true => rfl
  | false =>
    cases Nat.blt p (Prod.fst ov) with
    | true => rfl
    | false => rfl
theorem z_er_ne {ov : zO} {p i p' i' : Nat} (hn : ¬ (p' = p ∧ i' = i)) : z_lk (z_er ov p i) p' i' = z_lk ov p' i' := by
  rw [z_er_lk]
  unfold z_lk
  cases hb : Nat.beq p' p with
  | false => rfl
  | true =>
    cases hc : Nat.beq i' i with
    | false => rfl
    | true => exact absurd ⟨Nat.eq_of_beq_eq_true hb, Nat.eq_of_beq_eq_true hc⟩ hn
/-- does what is known of a place keep the place's bounds -/
def z_kpt (iv : zI) (n : Nat) (g : zC) (i : Nat) (v : zV) : Bool := match v.1 with
  | 2 => (match z_sp g i with
    | some (6, q, _) => Nat.beq q.toNat v.2.1 && Nat.blt v.2.1 n
    | _ => false)
  | _ => (match z_bd iv v with
    | some w => z_spw iv v w (z_sp g i)
    | none => false)
theorem z_kpt_ok {iv : zI} {ρ : Nat → Int} {n : Nat} {g : zC} {i : Nat} {v : zV} {ad : Nat → Nat} {b : Nat → Nat} (hi : ziv iv ρ) (hv : zok n iv ρ v) (h : z_kpt iv n g i v = true) : z_spv n ad (z_sp g i) (zcv ad b ρ v) := by
  unfold z_kpt at h
  split at h
  next h2 =>
    split at h
    next q q' hsp =>
      rw [Bool.and_eq_true] at h
      rw [hsp]
      have e : q.toNat = v.2.1 := Nat.eq_of_beq_eq_true h.1
      refine ⟨by rw [e]; exact Nat.le_of_ble_eq_true h.2, ?_⟩
      rw [z_cv2 h2, e]
    next => cases h
  next =>
    split at h
    next w hw => exact z_spw_ok hi hv hw h
    next => cases h
def z_fg (G : List zC) (iv : zI) (p i : Nat) (ov : zO) : Option zO := match z_lk ov p i with
  | none => some ov
  | some v => (match G[p]? with
    | some g => if z_kpt iv ov.length g i v then some (z_er ov p i) else none
    | none => none)
section ZST15
variable {D : va_G} {cl : List vw_C} {A : Nat → Prop} {cA : Nat → ClassId} {G : List zC} {b : Nat → Nat} {sl : Nat} {xs : Nat → Int32} {fl : Bool} {h0 : Heap} {nL : Nat}
theorem z_fg_ok {iv : zI} {lv : zL} {sk : List zV} {ov ov' : zO} {ρ : Nat → Int} {ad : Nat → Nat} {ws : va_W} {H : Heap} {locs : List Loc} {ls : Array Slot} {p i : Nat} (h : z_gm D cl A cA G b sl xs fl h0 nL iv lv sk ov ρ ad ws H locs ls) (hf : z_fg G iv p i ov = some ov') : ov'.length = ov.length ∧ z_gm D cl A cA G b sl xs fl h0 nL iv lv sk ov' ρ ad ws H locs ls := by
  unfold z_fg at hf
  split at hf
  next => cases hf; exact ⟨rfl, h⟩
  next v hv =>
    split at hf
    next g hg =>
      split at hf
      next hk =>
        cases hf
        refine ⟨rfl, ⟨h.1.1, h.1.2.1, h.1.2.2.1, fun p9 i9 w hw => ?_⟩, h.2.1, ⟨h.2.2.1.1, fun p' q hq => ?_⟩, h.2.2.2⟩
        · by_cases e : p9 = p ∧ i9 = i
          · rw [e.1, e.2, z_er_at] at hw; cases hw
          · rw [z_er_ne e] at hw; exact h.1.2.2.2 p9 i9 w hw
        · obtain ⟨h1, g', hg', he⟩ := h.2.2.1.2 p' q hq
          refine ⟨h1, g', hg', z_en_mono (fun j w hw => ?_) he⟩
          unfold z_wv at hw ⊢
          by_cases e : p' = p ∧ j = i
          · obtain ⟨rfl, rfl⟩ := e
            cases hg.symm.trans hg'
            rw [hv] at hw
            rw [z_er_at]
            dsimp only at hw ⊢
            rw [hw]
            exact z_kpt_ok h.1.1 (h.1.2.2.2 _ _ v hv) hk
          · rw [z_er_ne e]; exact hw
      next => cases hf
    next => cases hf
/-- narrower intervals, the same values -/
theorem z_gm.iv {iv iv' : zI} {lv : zL} {sk : List zV} {ov : zO} {ρ : Nat → Int} {ad : Nat → Nat} {ws : va_W} {H : Heap} {locs : List Loc} {ls : Array Slot} (h : z_gm D cl A cA G b sl xs fl h0 nL iv lv sk ov ρ ad ws H locs ls) (hi : ziv iv' ρ) (hl : iv'.length = iv.length) : z_gm D cl A cA G b sl xs fl h0 nL iv' lv sk ov ρ ad ws H locs ls :=
  h.mv (fun _ _ => rfl) (Nat.le_of_eq hl.symm) hi (fun w hw => z_okrf (h.1.2.2.1 w hw) hl)
theorem z_gm.tgt {iv : zI} {lv : zL} {sk : List zV} {ov : zO} {ρ : Nat → Int} {ad : Nat → Nat} {ws : va_W} {H : Heap} {locs : List Loc} {ls : Array Slot} (h : z_gm D cl A cA G b sl xs fl h0 nL iv lv sk ov ρ ad ws H locs ls) (n : Nat) : ∃ iv', z_tgt iv n = some iv' ∧ iv'.length = iv.length ∧ z_gm D cl A cA G b sl xs fl h0 nL iv' lv sk ov ρ ad ws H locs ls := by
  obtain ⟨iv', e1, e2, e3⟩ := z_tgt_ok h.1.1 n
  exact ⟨iv', e1, e3, h.iv e2 e3⟩
/-- an index that the facts hold within n -/
def z_ixr (iv : zI) (x : zV) (n : Int) : zI := bif z_pv iv 6 (z_ff 0 [(1, x)]) && z_pv iv 6 (z_ff (n - 1) [(-1, x)]) then (match z_bd iv x with
  | some q => z_put iv x (max q.1 0) (min q.2 (n - 1))
  | none => iv) else iv
theorem z_ixr_ok {iv : zI} {ρ : Nat → Int} {x : zV} {n : Int} (h : ziv iv ρ) : ziv (z_ixr iv x n) ρ ∧ (z_ixr iv x n).length = iv.length := by
  unfold z_ixr
  cases hb : z_pv iv 6 (z_ff 0 [(1, x)]) && z_pv iv 6 (z_ff (n - 1) [(-1, x)]) with
  | false => exact ⟨h, rfl⟩
  | true =>
    rw [Bool.and_eq_true] at hb
    have t1 := z_pv_ok h 6 _ hb.1
    have t2 := z_pv_ok h 6 _ hb.2
    rw [z_ff_ok h.1] at t1 t2
    change 0 ≤ 0 + (1 * z_val ρ x + 0) at t1
    change 0 ≤ n - 1 + (-1 * z_val ρ x + 0) at t2
    show ziv (match z_bd iv x with | some q => z_put iv x (max q.1 0) (min q.2 (n - 1)) | none => iv) ρ ∧ (match z_bd iv x with | some q => z_put iv x (max q.1 0) (min q.2 (n - 1)) | none => iv).length = iv.length
    split
    next q hq =>
      have b1 := z_bd_ok hq h
      exact z_put_ok h (by omega) (by omega)
    next => exact ⟨h, rfl⟩
end ZST15
