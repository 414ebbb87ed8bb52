/-! ===== tables: what the statement's words give ===== -/
def z_tyk (t : FieldType) : Nat := match t with
  | .int => 0
  | .long => 1
  | .object _ => 2
  | .array _ => 2
  | _ => 9
def zClsOk (cl : List vw_C) (zN : List String) (Ts : List Jvm.Cond) : Prop := ∀ (ci : Nat) (C : String) (T : u_T) (N : Nat), cl[ci]? = some (C, T, N) → zN[ci]? = some C ∧ (∀ w ∈ u_ws C T N, w ∈ Ts) ∧ (∃ ty0 : Nat → FieldType, ∀ k, k < N → parseFieldDescriptor (T k).2.2.1 = some (ty0 k)) ∧ (∀ a, a < N → ∀ b, b < N → a ≠ b → (T a).2.1 ≠ (T b).2.1) ∧ ∀ k, k < N → (T k).1 = C
/-- the kind of what stands at a place, by its bounds' kind -/
def z_skd (k : Nat) : Nat := if k = 6 then 2 else if k = 5 then 0 else k
def zGOk (cl : List vw_C) (G : List zC) : Prop := ∀ (p : Nat) (g : zC), G[p]? = some g → g.1 = 0 → ∃ (C : String) (T : u_T) (N : Nat), cl[g.2.1]? = some (C, T, N) ∧ g.2.2.length = N ∧ ∀ (f : Nat) (sp : Nat × Int × Int), g.2.2[f]? = some sp → ∃ ty, parseFieldDescriptor (T f).2.2.1 = some ty ∧ z_tyk ty = z_skd sp.1
def z_as (q : List (Nat × Nat × Nat)) (k : Nat) : Option (Nat × Nat) := match q with
  | [] => none
  | (i, a, b) :: r => if Nat.beq i k then some (a, b) else z_as r k
def z_fl (FL : List (List (Nat × Nat × Nat))) (cn idx : Nat) : Option (Nat × Nat) := match FL[cn]? with
  | some q => z_as q idx
  | none => none
def zFLOk (cl : List vw_C) (zN : List String) (FL : List (List (Nat × Nat × Nat))) (Ts : List Jvm.Cond) : Prop := ∀ (cn idx ci f : Nat) (own : String), z_fl FL cn idx = some (ci, f) → zN[cn]? = some own → ∃ (C : String) (T : u_T) (N : Nat), cl[ci]? = some (C, T, N) ∧ f < N ∧ Jvm.Cond.fieldLink own idx (T f).1 (T f).2.1 (T f).2.2.1 ∈ Ts
/-- the arrays' types: tag k + 1 at place k -/
def zTyOk (cA : Nat → ClassId) (tyl : List FieldType) (tys : List (ClassId × FieldType)) : Prop := tyl[0]? = some .int ∧ tyl[1]? = some .long ∧ tyl[2]? = some .byte ∧ tyl[3]? = some .boolean ∧ (∀ (k : Nat) (t : FieldType), 4 ≤ k → tyl[k]? = some t → t.isReference = true) ∧ ∀ (k : Nat) (t : FieldType), tyl[k]? = some t → tys[k]? = some (cA (k + 1), t)
theorem z_wm_lk {mm : List zMo} {ov : zO} {p i p' i' : Nat} {v : zV} : z_lk (z_wm mm ov p i v) p' i' = bif z_nof ov p' then none else (bif Nat.blt p' (Prod.fst ov) then (bif Nat.beq p' p then (bif Nat.beq i' i then some v else z_at2 ov p' i') else z_at2 ov p' i') else none) := rfl
theorem z_wm_at {mm : List zMo} {ov : zO} {p i : Nat} {v : zV} (hn : z_nof ov p = false) (hp : p < ov.length) : z_lk (z_wm mm ov p i v) p i = some v := by
  rw [z_wm_lk, Nat.beq_refl, Nat.beq_refl, hn]
  show (bif Nat.blt p (Prod.fst ov) then some v else none) = some v
  rw [show Nat.blt p (Prod.fst ov) = true from Nat.ble_eq_true_of_le hp]
  rfl
theorem z_wm_ne {mm : List zMo} {ov : zO} {p i p' i' : Nat} {v : zV} (hn : ¬ (p' = p ∧ i' = i)) : z_lk (z_wm mm ov p i v) p' i' = z_lk ov p' i' := by
  rw [z_wm_lk]
  unfold z_lk
  cases hb : Nat.beq p' p with
  | false => rfl
  | true =>
    cases hc : Nat.beq i' i with
    | false => rfl
    | true => exact absurd ⟨Nat.eq_of_beq_eq_true hb, Nat.eq_of_beq_eq_true hc⟩ hn
/-- nothing is known any more of the places lo .. hi of a cell -/
def z_ere (ov : zO) (p lo hi : Nat) : zO := Prod.mk (Prod.fst ov) (Prod.mk (Prod.fst (Prod.snd ov)) (Prod.mk (fun p' i' => bif Nat.beq p' p then (bif Nat.ble lo i' && Nat.ble i' hi then none else z_at2 ov p' i') else z_at2 ov p' i') []))
theorem z_ere_lk {ov : zO} {p lo hi p' i' : Nat} : z_lk (z_ere ov p lo hi) p' i' = bif z_nof ov p' then none else (bif Nat.blt p' (Prod.fst ov) then (bif Nat.beq p' p then (bif Nat.ble lo i' && Nat.ble i' hi then none else z_at2 ov p' i') else z_at2 ov p' i') else none) := rfl
theorem z_ere_or {ov : zO} {p lo hi p' i' : Nat} : z_lk (z_ere ov p lo hi) p' i' = none ∨ z_lk (z_ere ov p lo hi) p' i' = z_lk ov p' i' := by
  rw [z_ere_lk]
  unfold z_lk
  cases z_nof ov p' with
  | true => exact Or.inl rfl
  | false =>
    cases Nat.blt p' (Prod.fst ov) with
    | false => exact Or.inl rfl
    | true =>
      cases Nat.beq p' p with
      | false => exact Or.inr rfl
      | true =>
        cases Nat.ble lo i' && Nat.ble i' hi with
        | true => exact Or.inl rfl
        | false => exact Or.inr rfl
theorem z_ere_at {ov : zO} {p lo hi i' : Nat} (h1 : lo ≤ i') (h2 : i' ≤ hi) : z_lk (z_ere ov p lo hi) p i' = none := by
  rw [z_ere_lk, Nat.beq_refl, show Nat.ble lo i' = true from Nat.ble_eq_true_of_le h1, show Nat.ble i' hi = true from Nat.ble_eq_true_of_le h2]
  cases z_nof ov p with
  | true => rfl
  | false =>
    cases Nat.blt p (Prod.fst ov) with
    | true => rfl
    | false => rfl
/-- a write at place j of cell p: what is known afterwards -/
def zFg (p j : Nat) (v : zV) (ov ov' : zO) : Prop := ov'.length = ov.length ∧ z_mm ov' = [] ∧ (z_lk ov' p j = none ∨ z_lk ov' p j = some v) ∧ ∀ p' i', ¬ (p' = p ∧ i' = j) → z_lk ov' p' i' = none ∨ z_lk ov' p' i' = z_lk ov p' i'
theorem zFg.ok {p j : Nat} {v : zV} {ov ov' : zO} (h : zFg p j v ov ov') (p9 i9 : Nat) (w : zV) (hw : z_lk ov' p9 i9 = some w) : w = v ∨ z_lk ov p9 i9 = some w := by
  by_cases e : p9 = p ∧ i9 = j
  · rw [e.1, e.2] at hw
    rcases h.2.2.1 with q | q
    · rw [q] at hw; cases hw
    · rw [q] at hw; exact Or.inl (Option.some.inj hw).symm
  · rcases h.2.2.2 p9 i9 e with q | q
    · rw [q] at hw; cases hw
    · rw [q] at hw; exact Or.inr hw
theorem z_wr_fg {ov : zO} {p i : Nat} {v : zV} (hp : p < ov.length) : zFg p i v ov (z_wr ov p i v) := by
  refine ⟨rfl, rfl, ?_, fun p' i' hn => Or.inr (z_wm_ne hn)⟩
  cases hn : z_nof ov p with
  | true =>
    refine Or.inl ?_
    show z_lk (z_wm [] ov p i v) p i = none
    rw [z_wm_lk, hn]; rfl
  | false => exact Or.inr (z_wm_at hn hp)
def z_wx (ov : zO) (p : Nat) (q : Int × Int) (v : zV) : zO := if q.1 = q.2 then z_wr ov p q.1.toNat v else z_ere ov p q.1.toNat q.2.toNat
theorem z_wx_fg {ov : zO} {p : Nat} {q : Int × Int} {v : zV} {z : Int} (hp : p < ov.length) (h1 : q.1 ≤ z) (h2 : z ≤ q.2) (h0 : 0 ≤ q.1) : zFg p z.toNat v ov (z_wx ov p q v) := by
  unfold z_wx
  split
  next e =>
    rw [show z.toNat = q.1.toNat by omega]
    exact z_wr_fg hp
  next => exact ⟨rfl, rfl, Or.inl (z_ere_at (by omega) (by omega)), fun p' i' _ => z_ere_or⟩
theorem z_wv_or {g : zC} {ov ov' : zO} {ad : Nat → Nat} {b : Nat → Nat} {ρ : Nat → Int} {p i : Nat} {V : Value} (h : z_wv g ov ad b ρ p i V) (hl : ov'.length = ov.length) (ho : z_lk ov' p i = none ∨ z_lk ov' p i = z_lk ov p i) : z_wv g ov' ad b ρ p i V := by
  unfold z_wv at h ⊢
  rw [hl]
  refine ⟨h.1, ?_⟩
  rcases ho with q | q
  · rw [q]; exact True.intro
  · rw [q]; exact h.2
theorem z_wv_at {g : zC} {ov ov' : zO} {ad : Nat → Nat} {b : Nat → Nat} {ρ : Nat → Int} {p i : Nat} {v : zV} (hl : ov'.length = ov.length) (hs : z_spv ov.length ad (z_sp g i) (zcv ad b ρ v)) (ho : z_lk ov' p i = none ∨ z_lk ov' p i = some v) : z_wv g ov' ad b ρ p i (zcv ad b ρ v) := by
  unfold z_wv
  rw [hl]
  refine ⟨hs, ?_⟩
  rcases ho with q | q
  · rw [q]; exact True.intro
  · rw [q]
theorem z_wd_upd {G : List zC} {cA : Nat → ClassId} {ov ov' : zO} {ad : Nat → Nat} {b : Nat → Nat} {ρ : Nat → Int} {ws : va_W} {p a : Nat} {e0 e1 : va_E} {g : zC} (hw : z_wd G cA ov ad b ρ ws) (hp : ws[p]? = some (a, e0)) (hg : G[p]? = some g) (hl : ov'.length = ov.length) (ho : ∀ p', p' ≠ p → ∀ i, z_lk ov' p' i = none ∨ z_lk ov' p' i = z_lk ov p' i) (he : z_en cA g (z_wv g ov' ad b ρ p) e1) : z_wd G cA ov' ad b ρ (ws.set p (a, e1)) := by
  refine ⟨by rw [List.length_set, hl]; exact hw.1, fun p' q hq => ?_⟩
  by_cases e : p' = p
  · subst e
    rw [List.getElem?_set_self (List.getElem?_eq_some_iff.mp hp).1] at hq
    cases hq
    exact ⟨(hw.2 _ _ hp).1, g, hg, he⟩
  · rw [List.getElem?_set_ne (fun q => e q.symm)] at hq
    obtain ⟨h1, g', hg', he'⟩ := hw.2 p' q hq
    refine ⟨h1, g', hg', z_en_mono (fun i v hv => ?_) he'⟩
    exact z_wv_or hv hl (ho p' e i)
theorem z_wd_at {G : List zC} {cA : Nat → ClassId} {ov : zO} {ad : Nat → Nat} {b : Nat → Nat} {ρ : Nat → Int} {ws : va_W} {p : Nat} {g : zC} (hw : z_wd G cA ov ad b ρ ws) (hp : p < ov.length) (hg : G[p]? = some g) : ∃ e0, ws[p]? = some (ad p, e0) ∧ z_en cA g (z_wv g ov ad b ρ p) e0 := by
  have hp' : p < ws.length := by rw [hw.1]; exact hp
  obtain ⟨q, hq⟩ : ∃ q, ws[p]? = some q := ⟨_, List.getElem?_eq_getElem hp'⟩
  obtain ⟨h1, g', hg', he⟩ := hw.2 p q hq
  cases hg.symm.trans hg'
  obtain ⟨a, e0⟩ := q
  dsimp only at h1
  subst h1
  exact ⟨e0, hq, he⟩
section ZST5
variable {p : Program} {l : Launch} {e : Env} {R : Room} {s : State} {m : MethodId} {args : Array Value} {below : List Frame} {meth : Method} {c : Code} {Q : State → Prop} {D : va_G} {cl : List vw_C} {A : Nat → Prop} {cA : Nat → ClassId} {G : List zC} {b : Nat → Nat} {sl : Nat} {xs : Nat → Int32} {fl : zFl} {h0 : Heap} {nL : Nat} {cc : ByteArray} {pc : Nat}
variable {Ts : List Jvm.Cond} {zN : List String} {FL : List (List (Nat × Nat × Nat))} {tys : List (ClassId × FieldType)} {tyl : List FieldType} {own : String} {cn : Nat}
theorem z_gm.ov {iv iv' : zI} {lv : zL} {sk r : List zV} {ov ov' : zO} {ρ : Nat → Int} {ad : Nat → Nat} {ws ws' : va_W} {H H' : Heap} {locs locs' : List Loc} {ls : Array Slot} (h : z_gm D cl A cA G b sl xs fl h0 nL iv lv sk ov ρ ad ws H locs ls) (hiv : ziv iv' ρ) (hli : iv'.length = iv.length) (hl : ov'.length = ov.length) (hk : ∀ (p9 i9 : Nat) (w : zV), z_lk ov' p9 i9 = some w → zok ov.length iv ρ w) (hs : ∀ w ∈ r, zok ov.length iv ρ w) (hw : z_wd G cA ov' ad b ρ ws') (hP : va_P D cl ws' H') (hD : va_D A ws') (hS : va_S A h0 H' locs') (hm : z_mm ov' = []) (hkp : zKp fl.2 ws') : z_gm D cl A cA G b sl xs fl h0 nL iv' lv r ov' ρ ad ws' H' locs' ls :=
  ⟨⟨hiv, fun q hq => by rw [hl]; exact z_okrf (h.1.2.1 q hq) hli, fun w hw => by rw [hl]; exact z_okrf (hs w hw) hli, fun r hr w hw => by rw [hl]; exact z_okrf (hk r hr w hw) hli⟩, h.2.1, hw, hP, hD, hS, h.2.2.2.2.2.2.1, by rw [hli]; exact h.2.2.2.2.2.2.2.1, zMm.nil hm, hkp⟩
end ZST5
