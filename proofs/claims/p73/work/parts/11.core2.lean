/-! ===== known cells, and what a state means ===== -/
def z_lkr (rows : zRw) (p i : Nat) : Option zV := match rows[p]? with
  | some r => (match r[i]? with
    | some v => v
    | none => none)
  | none => none
def z_nof (ov : zO) (p : Nat) : Bool := Prod.fst (Prod.snd ov) p
def z_at2 (ov : zO) (p i : Nat) : Option zV := Prod.fst (Prod.snd (Prod.snd ov)) p i
def z_mm (ov : zO) : List zMo := Prod.snd (Prod.snd (Prod.snd ov))
def z_lk (ov : zO) (p i : Nat) : Option zV := bif z_nof ov p then none else (bif Nat.blt p (Prod.fst ov) then z_at2 ov p i else none)
/-- of this cell nothing is known -/
def z_un (ov : zO) (p : Nat) : Option (List (Option zV)) := bif z_nof ov p then some [] else none
theorem z_un_lk {ov : zO} {p i : Nat} (h : z_un ov p = some []) : z_lk ov p i = none := by
  unfold z_un at h
  unfold z_lk
  cases hb : z_nof ov p with
  | true => rfl
  | false => rw [hb] at h; cases h
def z_o0 : zO := Prod.mk 0 (Prod.mk (fun _ => true) (Prod.mk (fun _ _ => none) []))
theorem z_o0_lk {p i : Nat} {v : zV} (h : z_lk z_o0 p i = some v) : False := by cases h
def z_wm (mm : List zMo) (ov : zO) (p i : Nat) (v : zV) : zO := Prod.mk (Prod.fst ov) (Prod.mk (Prod.fst (Prod.snd ov)) (Prod.mk (fun p' i' => bif Nat.beq p' p then (bif Nat.beq i' i then some v else z_at2 ov p' i') else z_at2 ov p' i') mm))
/-- a write -/
def z_wr (ov : zO) (p i : Nat) (v : zV) : zO := z_wm [] ov p i v
def z_sw (ov : zO) (p i : Nat) (v : zV) : Option zO := match z_lk ov p i with
  | some _ => some (z_wr ov p i v)
  | none => none
def z_ap (ov : zO) (rows : zRw) : zO := Prod.mk (Prod.fst ov + rows.length) (Prod.mk (fun p => bif Nat.blt p (Prod.fst ov) then z_nof ov p else (match rows[p - Prod.fst ov]? with
    | some [] => true
    | some _ => false
    | none => true)) (Prod.mk (fun p i => bif Nat.blt p (Prod.fst ov) then z_at2 ov p i else z_lkr rows (p - Prod.fst ov) i) (z_mm ov)))
theorem z_ap_length {ov : zO} {rows : zRw} : (z_ap ov rows).length = ov.length + rows.length := rfl
theorem z_lk_lt {ov : zO} {p i : Nat} {v : zV} (h : z_lk ov p i = some v) : p < ov.length := by
  unfold z_lk at h
  cases hb : z_nof ov p with
  | true => rw [hb] at h; cases h
  | false =>
    rw [hb] at h
    cases hc : Nat.blt p (Prod.fst ov) with
    | true => exact Nat.le_of_ble_eq_true hc
    | false => rw [hc] at h; cases h
def z_sp (g : zC) (i : Nat) : Option (Nat × Int × Int) := match g.2.2 with
  | [x] => some x
  | q => q[i]?
def z_spv (n : Nat) (ad : Nat → Nat) (sp : Option (Nat × Int × Int)) (v : Value) : Prop := match sp with
  | some (0, lo, hi) => ∃ x : Int32, v = .int x ∧ lo ≤ x.toInt ∧ x.toInt ≤ hi
  | some (1, lo, hi) => ∃ x : Int64, v = .long x ∧ lo ≤ x.toInt ∧ x.toInt ≤ hi
  | some (5, _, _) => ∃ x : Int32, v = .int x ∧ z_act x.toInt
  | some (6, q, _) => q.toNat < n ∧ v = .ref (ad q.toNat)
  | _ => True
theorem z_spv_ext {n n' : Nat} {ad ad' : Nat → Nat} {sp : Option (Nat × Int × Int)} {v : Value} (h : z_spv n ad sp v) (ha : ∀ q, q < n → ad' q = ad q) (hn : n ≤ n') : z_spv n' ad' sp v := by
  unfold z_spv at h ⊢
  split at h
  · exact h
  · exact h
  · exact h
  · exact ⟨Nat.lt_of_lt_of_le h.1 hn, by rw [ha _ h.1]; exact h.2⟩
  · exact True.intro
def z_wv (g : zC) (ov : zO) (ad : Nat → Nat) (b : Nat → Nat) (ρ : Nat → Int) (p i : Nat) (v : Value) : Prop := z_spv ov.length ad (z_sp g i) v ∧ (match z_lk ov p i with
  | some a => v = zcv ad b ρ a
  | none => True)
def z_en (cA : Nat → ClassId) (g : zC) (F : Nat → Value → Prop) (e : va_E) : Prop := match g.1 with
  | 0 => ∃ fs : List Value, e = .inr (g.2.1, fs) ∧ fs.length = g.2.2.length ∧ ∀ (i : Nat) (v : Value), fs[i]? = some v → F i v
  | 1 => ∃ f : Nat → Int32, e = .inl (cA 1, g.2.1, .inl f) ∧ ∀ j, j < g.2.1 → F j (.int (f j))
  | 2 => ∃ f : Nat → Int64, e = .inl (cA 2, g.2.1, .inr (.inl f)) ∧ ∀ j, j < g.2.1 → F j (.long (f j))
  | 3 => ∃ f : Nat → Int32, e = .inl (cA 3, g.2.1, .inl f) ∧ ∀ j, j < g.2.1 → F j (.int (f j))
  | 4 => ∃ f : Nat → Int32, e = .inl (cA 4, g.2.1, .inl f) ∧ ∀ j, j < g.2.1 → F j (.int (f j))
  | k => ∃ f : Nat → Option Nat, e = .inl (cA k, g.2.1, .inr (.inr (.inr (.inr f)))) ∧ ∀ j, j < g.2.1 → F j (va_rf (f j))
def z_wd (G : List zC) (cA : Nat → ClassId) (ov : zO) (ad : Nat → Nat) (b : Nat → Nat) (ρ : Nat → Int) (ws : va_W) : Prop := ws.length = ov.length ∧ ∀ (p : Nat) (q : Nat × va_E), ws[p]? = some q → q.1 = ad p ∧ ∃ g, G[p]? = some g ∧ z_en cA g (z_wv g ov ad b ρ p) q.2
def z_pu (iv : zI) (lv : zL) (sk : List zV) (ov : zO) (ρ : Nat → Int) : Prop := ziv iv ρ ∧ (∀ q ∈ lv, zok ov.length iv ρ q.2) ∧ (∀ v ∈ sk, zok ov.length iv ρ v) ∧ ∀ (p9 i9 : Nat) (v : zV), z_lk ov p9 i9 = some v → zok ov.length iv ρ v
/-- what is known of the script: its length; from a place on, six of its ints -/
def zSc (sl : Nat) (xs : Nat → Int32) (fl : Bool) (ρ : Nat → Int) : Prop := ρ 1 = (sl : Int) ∧ (fl = true → 0 ≤ ρ 8 ∧ ρ 8 + 6 ≤ (sl : Int) ∧ (∀ j, j < 6 → ρ (2 + j) = (xs ((ρ 8).toNat + j)).toInt) ∧ ρ 9 = (xs (ρ 8).toNat &&& 127).toInt)
theorem zSc_ext {sl : Nat} {xs : Nat → Int32} {fl : Bool} {ρ ρ' : Nat → Int} (h : zSc sl xs fl ρ) (hx : ∀ i, i < 10 → ρ' i = ρ i) : zSc sl xs fl ρ' := by
  refine ⟨(hx 1 (by omega)).trans h.1, fun e => ?_⟩
  obtain ⟨h1, h2, h3, h4⟩ := h.2 e
  have e8 := hx 8 (by omega)
  refine ⟨by rw [e8]; exact h1, by rw [e8]; exact h2, fun j hj => ?_, by rw [hx 9 (by omega), e8]; exact h4⟩
  rw [hx (2 + j) (by omega), e8]
  exact h3 j hj
/-- flags: is a step of the script under way; places that are kept; the world at the beginning -/
abbrev zFl : Type := Bool × List (Nat × Nat) × va_W
def z_ink (K : List (Nat × Nat)) (p : Nat) : Bool := match K with
  | [] => false
  | r :: t => (Nat.ble r.1 p && Nat.blt p r.2) || z_ink t p
def zKp (K : List (Nat × Nat) × va_W) (ws : va_W) : Prop := ∀ p, z_ink K.1 p = true → p < ws.length ∧ ws[p]? = K.2[p]?
def zMm (iv : zI) (ov : zO) (ρ : Nat → Int) (ws : va_W) : Prop := ∀ m ∈ z_mm ov, (m.2.1.2.1 < iv.length ∧ m.2.2.2.1 < iv.length ∧ m.2.2.1 = 0) ∧ ∃ (a : Nat) (c : ClassId) (n : Nat) (f : Nat → Int32), ws[m.1]? = some (a, .inl (c, n, .inl f)) ∧ (f (z_val ρ m.2.1).toNat).toInt = z_val ρ m.2.2
theorem zMm.ext {iv iv' : zI} {ov : zO} {ρ ρ' : Nat → Int} {ws : va_W} (h : zMm iv ov ρ ws) (hx : ∀ i, i < iv.length → ρ' i = ρ i) (hl : iv.length ≤ iv'.length) : zMm iv' ov ρ' ws := by
  intro m hm
  obtain ⟨⟨h1, h2, h3⟩, a, c, n, f, h4, h5⟩ := h m hm
  refine ⟨⟨Nat.lt_of_lt_of_le h1 hl, Nat.lt_of_lt_of_le h2 hl, h3⟩, a, c, n, f, h4, ?_⟩
  unfold z_val at h5 ⊢
  rw [hx _ h1, hx _ h2]
  exact h5
theorem zMm.nil {iv : zI} {ov : zO} {ρ : Nat → Int} {ws : va_W} (h : z_mm ov = []) : zMm iv ov ρ ws := fun m hm => by rw [h] at hm; cases hm
theorem zKp.set {K : List (Nat × Nat) × va_W} {ws : va_W} {p : Nat} {q : Nat × va_E} (h : zKp K ws) (hp : z_ink K.1 p = false) : zKp K (ws.set p q) := by
  intro p' hp'
  obtain ⟨h1, h2⟩ := h p' hp'
  refine ⟨by rw [List.length_set]; exact h1, ?_⟩
  rw [List.getElem?_set_ne (fun e => by rw [e, hp'] at hp; cases hp)]
  exact h2
theorem zKp.app {K : List (Nat × Nat) × va_W} {ws news : va_W} (h : zKp K ws) : zKp K (ws ++ news) := by
  intro p' hp'
  obtain ⟨h1, h2⟩ := h p' hp'
  refine ⟨by rw [List.length_append]; omega, ?_⟩
  rw [List.getElem?_append_left h1]
  exact h2
def z_gm (D : va_G) (cl : List vw_C) (A : Nat → Prop) (cA : Nat → ClassId) (G : List zC) (b : Nat → Nat) (sl : Nat) (xs : Nat → Int32) (fl : zFl) (h0 : Heap) (nL : Nat) (iv : zI) (lv : zL) (sk : List zV) (ov : zO) (ρ : Nat → Int) (ad : Nat → Nat) (ws : va_W) (H : Heap) (locs : List Loc) (ls : Array Slot) : Prop :=
  z_pu iv lv sk ov ρ ∧ lv_has ls nL (lv.map fun q => (q.1, zcv ad b ρ q.2)) ∧ z_wd G cA ov ad b ρ ws ∧ va_P D cl ws H ∧ va_D A ws ∧ va_S A h0 H locs ∧ zSc sl xs fl.1 ρ ∧ 9 < iv.length ∧ zMm iv ov ρ ws ∧ zKp fl.2 ws
theorem z_en_mono {cA : Nat → ClassId} {g : zC} {F F' : Nat → Value → Prop} {e : va_E} (h : ∀ i v, F i v → F' i v) (he : z_en cA g F e) : z_en cA g F' e := by
  unfold z_en at he ⊢
  split at he
  · obtain ⟨fs, h1, h2, h3⟩ := he; exact ⟨fs, h1, h2, fun i v hv => h i v (h3 i v hv)⟩
  · obtain ⟨f, h1, h2⟩ := he; exact ⟨f, h1, fun j hj => h j _ (h2 j hj)⟩
  · obtain ⟨f, h1, h2⟩ := he; exact ⟨f, h1, fun j hj => h j _ (h2 j hj)⟩
  · obtain ⟨f, h1, h2⟩ := he; exact ⟨f, h1, fun j hj => h j _ (h2 j hj)⟩
  · obtain ⟨f, h1, h2⟩ := he; exact ⟨f, h1, fun j hj => h j _ (h2 j hj)⟩
  · obtain ⟨f, h1, h2⟩ := he; exact ⟨f, h1, fun j hj => h j _ (h2 j hj)⟩
theorem z_wd_ext {G : List zC} {cA : Nat → ClassId} {ov : zO} {ad ad' : Nat → Nat} {b : Nat → Nat} {ρ ρ' : Nat → Int} {ws : va_W} {iv : zI} (hw : z_wd G cA ov ad b ρ ws) (hk : ∀ (p9 i9 : Nat) (v : zV), z_lk ov p9 i9 = some v → zok ov.length iv ρ v) (hx : ∀ i, i < iv.length → ρ' i = ρ i) (ha : ∀ q, q < ov.length → ad' q = ad q) : z_wd G cA ov ad' b ρ' ws := by
  refine ⟨hw.1, fun p q hq => ?_⟩
  obtain ⟨h1, g, hg, he⟩ := hw.2 p q hq
  have hp : p < ov.length := by rw [← hw.1]; exact (List.getElem?_eq_some_iff.mp hq).1
  refine ⟨by rw [ha p hp]; exact h1, g, hg, z_en_mono (fun i v hv => ?_) he⟩
  unfold z_wv at hv ⊢
  refine ⟨z_spv_ext hv.1 ha (Nat.le_refl _), ?_⟩
  replace hv := hv.2
  split at hv
  next a e =>
    rw [hv]
    exact (zcv_ext (hk _ _ a e) hx ha).symm
  next => exact True.intro
theorem z_gm.mv {D : va_G} {cl : List vw_C} {A : Nat → Prop} {cA : Nat → ClassId} {G : List zC} {b : Nat → Nat} {sl : Nat} {xs : Nat → Int32} {fl : zFl} {h0 : Heap} {nL : Nat} {iv iv' : zI} {lv : zL} {sk sk' : List zV} {ov : zO} {ρ ρ' : Nat → Int} {ad : Nat → Nat} {ws : va_W} {H : Heap} {locs : List Loc} {ls : Array Slot}
    (h : z_gm D cl A cA G b sl xs fl h0 nL iv lv sk ov ρ ad ws H locs ls) (hx : ∀ i, i < iv.length → ρ' i = ρ i) (hl : iv.length ≤ iv'.length) (hv : ziv iv' ρ') (hs : ∀ v ∈ sk', zok ov.length iv' ρ' v) : z_gm D cl A cA G b sl xs fl h0 nL iv' lv sk' ov ρ' ad ws H locs ls := by
  obtain ⟨⟨h1, h2, h3, h4⟩, h5, h6, hP, hD, hS, e1, e2, e3, e4⟩ := h
  refine ⟨⟨hv, fun q hq => zok_ext (h2 q hq) hx hl (Nat.le_refl _), hs, fun r hr v hv => zok_ext (h4 r hr v hv) hx hl (Nat.le_refl _)⟩, ?_, z_wd_ext h6 h4 hx (fun _ _ => rfl), hP, hD, hS, zSc_ext e1 (fun i hi => hx i (by omega)), Nat.lt_of_lt_of_le e2 hl, e3.ext hx hl, e4⟩
  have e : (lv.map fun q => (q.1, zcv ad b ρ' q.2)) = (lv.map fun q => (q.1, zcv ad b ρ q.2)) := List.map_congr_left (fun q hq => by rw [zcv_ext (h2 q hq) hx (fun _ _ => rfl)])
  rw [e]
  exact h5
theorem z_skm {n : Nat} {iv : zI} {ρ ρ' : Nat → Int} {ad ad' : Nat → Nat} {b : Nat → Nat} {sk : List zV} (h : ∀ v ∈ sk, zok n iv ρ v) (hx : ∀ i, i < iv.length → ρ' i = ρ i) (ha : ∀ q, q < n → ad' q = ad q) : sk.map (zcv ad' b ρ') = sk.map (zcv ad b ρ) := List.map_congr_left (fun v hv => zcv_ext (h v hv) hx ha)
abbrev z_gs (D : va_G) (cl : List vw_C) (A : Nat → Prop) (cA : Nat → ClassId) (G : List zC) (b : Nat → Nat) (sl : Nat) (xs : Nat → Int32) (fl : zFl) (h0 : Heap) (nL : Nat) (st : zS) (ρ : Nat → Int) (ad : Nat → Nat) (ws : va_W) (H : Heap) (locs : List Loc) (ls : Array Slot) : Prop := z_gm D cl A cA G b sl xs fl h0 nL st.2.2.1 st.2.2.2.1 st.2.2.2.2.1 st.2.2.2.2.2 ρ ad ws H locs ls
def z_xt (st st' : zS) (ρ : Nat → Int) (ad : Nat → Nat) (ρ' : Nat → Int) (ad' : Nat → Nat) : Prop := (∀ i, i < st.2.2.1.length → ρ' i = ρ i) ∧ (∀ q, q < st.2.2.2.2.2.length → ad' q = ad q) ∧ st.2.2.1.length ≤ st'.2.2.1.length ∧ st.2.2.2.2.2.length ≤ st'.2.2.2.2.2.length
/-- the goal at one instruction: where each state behind it comes to its end, so does the one ahead of it -/
def zSt (p : Program) (l : Launch) (e : Env) (R : Room) (s : State) (m : MethodId) (args : Array Value) (below : List Frame) (meth : Method) (c : Code) (Q : State → Prop) (D : va_G) (cl : List vw_C) (A : Nat → Prop) (cA : Nat → ClassId) (G : List zC) (b : Nat → Nat) (sl : Nat) (xs : Nat → Int32) (fl : zFl) (h0 : Heap) (nL : Nat) (pc len : Nat) (st : zS) (ss : List (Option Nat × zS)) : Prop :=
  ∀ (ρ : Nat → Int) (ad : Nat → Nat) (ws : va_W) (H : Heap) (locs : List Loc) (ls : Array Slot), z_gs D cl A cA G b sl xs fl h0 nL st ρ ad ws H locs ls →
    (∀ q ∈ ss, ∀ (ρ' : Nat → Int) (ad' : Nat → Nat) (ws' : va_W) (H' : Heap) (locs' : List Loc) (ls' : Array Slot), z_xt st q.2 ρ ad ρ' ad' → z_gs D cl A cA G b sl xs fl h0 nL q.2 ρ' ad' ws' H' locs' ls' → W p l e R s m args below meth c H' locs' q.2.1 q.2.2.1 Q (F0 m (q.1.getD (pc + len)) ls' (q.2.2.2.2.2.1.map (zcv ad' b ρ')))) →
    W p l e R s m args below meth c H locs st.1 st.2.1 Q (F0 m pc ls (st.2.2.2.2.1.map (zcv ad b ρ)))
section ZST
variable {p : Program} {l : Launch} {e : Env} {R : Room} {s : State} {m : MethodId} {args : Array Value} {below : List Frame} {meth : Method} {c : Code} {Q : State → Prop} {D : va_G} {cl : List vw_C} {A : Nat → Prop} {cA : Nat → ClassId} {G : List zC} {b : Nat → Nat} {sl : Nat} {xs : Nat → Int32} {fl : zFl} {h0 : Heap} {nL : Nat} {cc : ByteArray} {pc : Nat}
/-! constants -/
def z_push (v : zV) (st : zS) : zR := match st with
  | (cu, su, iv, lv, sk, ov) => some [(none, (cu, su, iv, lv, v :: sk, ov))]
theorem zs_push {len : Nat} {v : zV} {x : Value} {st : zS} {ss : List (Option Nat × zS)} (h : z_push v st = some ss) (hv : ∀ (ad : Nat → Nat) (ρ : Nat → Int), ρ 0 = 0 → zcv ad b ρ v = x) (hk : ∀ (n : Nat) (iv : zI) (ρ : Nat → Int), ziv iv ρ → zok n iv ρ v)
    (hr : ∀ (H : Heap) (locs : List Loc) (cells slots : Nat) (ls : Array Slot) (rest : List Value), W p l e R s m args below meth c H locs cells slots Q (F0 m (pc + len) ls (x :: rest)) → W p l e R s m args below meth c H locs cells slots Q (F0 m pc ls rest)) : zSt p l e R s m args below meth c Q D cl A cA G b sl xs fl h0 nL pc len st ss := by
  obtain ⟨cu, su, iv, lv, sk, ov⟩ := st
  cases h
  intro ρ ad ws H locs ls hg kk
  have hi := hg.1.1
  have hq := kk _ (List.mem_singleton.mpr rfl) ρ ad ws H locs ls ⟨fun _ _ => rfl, fun _ _ => rfl, Nat.le_refl _, Nat.le_refl _⟩ (hg.mv (fun _ _ => rfl) (Nat.le_refl _) hi (fun w hw => (List.mem_cons.mp hw).elim (fun q => by rw [q]; exact hk _ _ _ hi) (fun q => hg.1.2.2.1 w q)))
  refine hr _ _ _ _ _ _ ?_
  have e : (v :: sk).map (zcv ad b ρ) = x :: sk.map (zcv ad b ρ) := by rw [List.map_cons, hv ad ρ hi.1]
  rw [← e]
  exact hq
theorem z_okc {n : Nat} {iv : zI} {ρ : Nat → Int} {k : Int} (hi : ziv iv ρ) (h1 : -2147483648 ≤ k) (h2 : k ≤ 2147483647) : zok n iv ρ (0, 0, k) := by
  refine ⟨hi.2.1, ?_, ?_⟩ <;> (unfold z_val; dsimp only; rw [hi.1]; omega)
theorem z_okl {n : Nat} {iv : zI} {ρ : Nat → Int} {k : Int} (hi : ziv iv ρ) (h1 : -9223372036854775808 ≤ k) (h2 : k ≤ 9223372036854775807) : zok n iv ρ (1, 0, k) := by
  refine ⟨hi.2.1, ?_, ?_⟩ <;> (unfold z_val; dsimp only; rw [hi.1]; omega)
theorem z_cvc {ad : Nat → Nat} {ρ : Nat → Int} {k : Int} (h : ρ 0 = 0) : zcv ad b ρ (0, 0, k) = .int (Int32.ofInt k) := by
  show Value.int (Int32.ofInt (ρ 0 + k)) = _
  rw [h, Int.zero_add]
theorem z_cvl {ad : Nat → Nat} {ρ : Nat → Int} {k : Int} (h : ρ 0 = 0) : zcv ad b ρ (1, 0, k) = .long (Int64.ofInt k) := by
  show Value.long (Int64.ofInt (ρ 0 + k)) = _
  rw [h, Int.zero_add]
def z_ipush (n : Int) (st : zS) : zR := if -32768 ≤ n ∧ n ≤ 32767 then z_push (0, 0, n) st else none
theorem zs_iconst (hx : p.tables.exec = Jvm.exec) (hb : c.code = cc) {n : Int} {st : zS} {ss : List (Option Nat × zS)} (hd : decode cc pc = .ok (.iconst n, 1)) (h : z_ipush n st = some ss) : zSt p l e R s m args below meth c Q D cl A cA G b sl xs fl h0 nL pc 1 st ss := by
  unfold z_ipush at h
  split at h
  next hn => exact zs_push h (fun ad ρ h0 => z_cvc h0) (fun _ _ _ hi => z_okc hi (by omega) (by omega)) (fun _ _ _ _ _ _ k => lv_iconst hx hb hd rfl k)
  next => cases h
theorem z_i8 {n : Int} (h1 : -128 ≤ n) (h2 : n ≤ 127) : (Int8.ofInt n).toInt32 = Int32.ofInt n := by
  apply Int32.toInt_inj.mp
  rw [Int8.toInt_toInt32, z_i32 (by omega) (by omega), Int8.toInt_ofInt]
  show n.bmod 256 = n
  rw [Int.bmod_def]
  split <;> omega
theorem z_i16 {n : Int} (h1 : -32768 ≤ n) (h2 : n ≤ 32767) : (Int16.ofInt n).toInt32 = Int32.ofInt n := by
  apply Int32.toInt_inj.mp
  rw [Int16.toInt_toInt32, z_i32 (by omega) (by omega), Int16.toInt_ofInt]
  show n.bmod 65536 = n
  rw [Int.bmod_def]
  split <;> omega
def z_bpush (n : Int) (st : zS) : zR := if -128 ≤ n ∧ n ≤ 127 then z_push (0, 0, n) st else none
theorem zs_bipush (hx : p.tables.exec = Jvm.exec) (hb : c.code = cc) {n : Int} {st : zS} {ss : List (Option Nat × zS)} (hd : decode cc pc = .ok (.bipush n, 2)) (h : z_bpush n st = some ss) : zSt p l e R s m args below meth c Q D cl A cA G b sl xs fl h0 nL pc 2 st ss := by
  unfold z_bpush at h
  split at h
  next hn => exact zs_push h (fun ad ρ h0 => z_cvc h0) (fun _ _ _ hi => z_okc hi (by omega) (by omega)) (fun _ _ _ _ _ _ k => lv_bipush hx hb hd (z_i8 hn.1 hn.2) k)
  next => cases h
theorem zs_sipush (hx : p.tables.exec = Jvm.exec) (hb : c.code = cc) {n : Int} {st : zS} {ss : List (Option Nat × zS)} (hd : decode cc pc = .ok (.sipush n, 3)) (h : z_ipush n st = some ss) : zSt p l e R s m args below meth c Q D cl A cA G b sl xs fl h0 nL pc 3 st ss := by
  unfold z_ipush at h
  split at h
  next hn => exact zs_push h (fun ad ρ h0 => z_cvc h0) (fun _ _ _ hi => z_okc hi (by omega) (by omega)) (fun _ _ _ _ _ _ k => lv_sipush hx hb hd (z_i16 hn.1 hn.2) k)
  next => cases h
theorem zs_lconst (hx : p.tables.exec = Jvm.exec) (hb : c.code = cc) {n : Fin 2} {st : zS} {ss : List (Option Nat × zS)} (hd : decode cc pc = .ok (.lconst n, 1)) (h : z_push (1, 0, (n.val : Int)) st = some ss) : zSt p l e R s m args below meth c Q D cl A cA G b sl xs fl h0 nL pc 1 st ss := by
  have hn : n.val < 2 := n.isLt
  exact zs_push h (fun ad ρ h0 => z_cvl h0) (fun _ _ _ hi => z_okl hi (by omega) (by omega)) (fun _ _ _ _ _ _ k => lv_lconst hx hb hd rfl k)
theorem zs_null (hx : p.tables.exec = Jvm.exec) (hb : c.code = cc) {st : zS} {ss : List (Option Nat × zS)} (hd : decode cc pc = .ok (.aconst_null, 1)) (h : z_push (3, 0, 0) st = some ss) : zSt p l e R s m args below meth c Q D cl A cA G b sl xs fl h0 nL pc 1 st ss :=
  zs_push h (fun ad ρ h0 => rfl) (fun _ _ _ hi => True.intro) (fun _ _ _ _ _ _ k => lv_null hx hb hd k)
/-! places -/
def z_fd (lv : zL) (k : Nat) : Option zV := match lv with
  | [] => none
  | (i, v) :: r => if i = k then some v else z_fd r k
theorem z_fd_mem {lv : zL} {k : Nat} {v : zV} (h : z_fd lv k = some v) : (k, v) ∈ lv := by
  induction lv with
  | nil => cases h
  | cons q r ih =>
    obtain ⟨i, w⟩ := q
    unfold z_fd at h
    split at h
    next e => cases h; subst e; exact List.mem_cons_self
    next => exact List.mem_cons_of_mem _ (ih h)
def z_ld (kd : Nat → Bool) (k : Nat) (st : zS) : zR := match st with
  | (cu, su, iv, lv, sk, ov) => match z_fd lv k with
    | some v => if kd v.1 then some [(none, (cu, su, iv, lv, v :: sk, ov))] else none
    | none => none
theorem zs_ld {len k : Nat} {kd : Nat → Bool} {st : zS} {ss : List (Option Nat × zS)} (h : z_ld kd k st = some ss)
    (hr : ∀ (ad : Nat → Nat) (ρ : Nat → Int) (v : zV) (H : Heap) (locs : List Loc) (cells slots : Nat) (ls : Array Slot) (rest : List Value), kd v.1 = true → ls[k]? = some (.val (zcv ad b ρ v)) → W p l e R s m args below meth c H locs cells slots Q (F0 m (pc + len) ls (zcv ad b ρ v :: rest)) → W p l e R s m args below meth c H locs cells slots Q (F0 m pc ls rest)) : zSt p l e R s m args below meth c Q D cl A cA G b sl xs fl h0 nL pc len st ss := by
  obtain ⟨cu, su, iv, lv, sk, ov⟩ := st
  unfold z_ld at h
  dsimp only at h
  split at h
  next v hv =>
    split at h
    next hk =>
      cases h
      intro ρ ad ws H locs ls hg kk
      have hm := z_fd_mem hv
      have hls : ls[k]? = some (.val (zcv ad b ρ v)) := hg.2.1.2.2 (k, zcv ad b ρ v) (List.mem_map.mpr ⟨(k, v), hm, rfl⟩)
      refine hr ad ρ v _ _ _ _ _ _ hk hls ?_
      exact kk _ (List.mem_singleton.mpr rfl) ρ ad ws H locs ls ⟨fun _ _ => rfl, fun _ _ => rfl, Nat.le_refl _, Nat.le_refl _⟩ (hg.mv (fun _ _ => rfl) (Nat.le_refl _) hg.1.1 (fun w hw => (List.mem_cons.mp hw).elim (fun q => q ▸ hg.1.2.1 _ hm) (fun q => hg.1.2.2.1 w q)))
    next => cases h
  next => cases h
def z_k0 (k : Nat) : Bool := Nat.beq k 0
def z_k1 (k : Nat) : Bool := Nat.beq k 1
def z_kr (k : Nat) : Bool := Nat.beq k 2 || Nat.beq k 4
theorem z_k0c {v : zV} (h : z_k0 v.1 = true) (ad : Nat → Nat) (b : Nat → Nat) (ρ : Nat → Int) : zcv ad b ρ v = .int (Int32.ofInt (z_val ρ v)) := by
  have e : v.1 = 0 := Nat.eq_of_beq_eq_true h
  unfold zcv; rw [e]; rfl
theorem z_k1c {v : zV} (h : z_k1 v.1 = true) (ad : Nat → Nat) (b : Nat → Nat) (ρ : Nat → Int) : zcv ad b ρ v = .long (Int64.ofInt (z_val ρ v)) := by
  have e : v.1 = 1 := Nat.eq_of_beq_eq_true h
  unfold zcv; rw [e]; rfl
theorem z_krc {v : zV} (h : z_kr v.1 = true) (ad : Nat → Nat) (b : Nat → Nat) (ρ : Nat → Int) : ∃ a : Nat, zcv ad b ρ v = .ref a := by
  unfold z_kr at h
  rcases Bool.or_eq_true _ _ ▸ h with q | q
  · have e : v.1 = 2 := Nat.eq_of_beq_eq_true q
    unfold zcv; rw [e]; exact ⟨_, rfl⟩
  · have e : v.1 = 4 := Nat.eq_of_beq_eq_true q
    unfold zcv; rw [e]; exact ⟨_, rfl⟩
theorem zs_iload (hx : p.tables.exec = Jvm.exec) (hb : c.code = cc) {k : Nat} {st : zS} {ss : List (Option Nat × zS)} (hd : decode cc pc = .ok (.iload k, 2)) (h : z_ld z_k0 k st = some ss) : zSt p l e R s m args below meth c Q D cl A cA G b sl xs fl h0 nL pc 2 st ss := zs_ld h (fun ad ρ v _ _ _ _ _ _ hk hl q => by
  rw [z_k0c hk] at hl q; exact lv_iload hx hb hd hl q)
theorem zs_iload_n (hx : p.tables.exec = Jvm.exec) (hb : c.code = cc) {k : Fin 4} {st : zS} {ss : List (Option Nat × zS)} (hd : decode cc pc = .ok (.iload_n k, 1)) (h : z_ld z_k0 k.val st = some ss) : zSt p l e R s m args below meth c Q D cl A cA G b sl xs fl h0 nL pc 1 st ss := zs_ld h (fun ad ρ v _ _ _ _ _ _ hk hl q => by
  rw [z_k0c hk] at hl q; exact lv_iload_n hx hb hd rfl hl q)
theorem zs_lload (hx : p.tables.exec = Jvm.exec) (hb : c.code = cc) {k : Nat} {st : zS} {ss : List (Option Nat × zS)} (hd : decode cc pc = .ok (.lload k, 2)) (h : z_ld z_k1 k st = some ss) : zSt p l e R s m args below meth c Q D cl A cA G b sl xs fl h0 nL pc 2 st ss := zs_ld h (fun ad ρ v _ _ _ _ _ _ hk hl q => by
  rw [z_k1c hk] at hl q; exact lv_lload hx hb hd hl q)
theorem zs_lload_n (hx : p.tables.exec = Jvm.exec) (hb : c.code = cc) {k : Fin 4} {st : zS} {ss : List (Option Nat × zS)} (hd : decode cc pc = .ok (.lload_n k, 1)) (h : z_ld z_k1 k.val st = some ss) : zSt p l e R s m args below meth c Q D cl A cA G b sl xs fl h0 nL pc 1 st ss := zs_ld h (fun ad ρ v _ _ _ _ _ _ hk hl q => by
  rw [z_k1c hk] at hl q; exact lv_lload_n hx hb hd rfl hl q)
theorem zs_aload (hx : p.tables.exec = Jvm.exec) (hb : c.code = cc) {k : Nat} {st : zS} {ss : List (Option Nat × zS)} (hd : decode cc pc = .ok (.aload k, 2)) (h : z_ld z_kr k st = some ss) : zSt p l e R s m args below meth c Q D cl A cA G b sl xs fl h0 nL pc 2 st ss := zs_ld h (fun ad ρ v _ _ _ _ _ _ hk hl q => by
  obtain ⟨a, ea⟩ := z_krc hk ad b ρ
  rw [ea] at hl q; exact lv_aload hx hb hd hl q)
theorem zs_aload_n (hx : p.tables.exec = Jvm.exec) (hb : c.code = cc) {k : Fin 4} {st : zS} {ss : List (Option Nat × zS)} (hd : decode cc pc = .ok (.aload_n k, 1)) (h : z_ld z_kr k.val st = some ss) : zSt p l e R s m args below meth c Q D cl A cA G b sl xs fl h0 nL pc 1 st ss := zs_ld h (fun ad ρ v _ _ _ _ _ _ hk hl q => by
  obtain ⟨a, ea⟩ := z_krc hk ad b ρ
  rw [ea] at hl q; exact lv_aload_n hx hb hd rfl hl q)
theorem z_cat {ad : Nat → Nat} {ρ : Nat → Int} (v : zV) : ((zcv ad b ρ v).category == 2) = Nat.beq v.1 1 := by
  obtain ⟨k, s, o⟩ := v
  match k with
  | 0 => rfl
  | 1 => rfl
  | 2 => rfl
  | 3 => rfl
  | 4 => rfl
  | _ + 5 =>
    show ((z_rn (b s)).category == 2) = false
    cases b s with
    | zero => rfl
    | succ n => rfl
def z_st1 (lv : zL) (k : Nat) (v : zV) : zL := (k, v) :: lv.filter (fun q => !(q.1 == k) && !(q.1 + 1 == k && Nat.beq q.2.1 1))
def z_st2 (lv : zL) (k : Nat) (v : zV) : zL := (k, v) :: lv.filter (fun q => !(q.1 == k) && (!(q.1 == k + 1) && !(q.1 + 1 == k && Nat.beq q.2.1 1)))
theorem z_st1_map {ad : Nat → Nat} {ρ : Nat → Int} {lv : zL} {k : Nat} {v : zV} : (k, zcv ad b ρ v) :: (lv.map fun q => (q.1, zcv ad b ρ q.2)).filter (fun q => !(q.1 == k) && !(q.1 + 1 == k && q.2.category == 2)) = (z_st1 lv k v).map fun q => (q.1, zcv ad b ρ q.2) := by
  unfold z_st1
  rw [List.map_cons, List.filter_map]
  congr 2
  apply List.filter_congr
  intro q _
  show (!(q.1 == k) && !(q.1 + 1 == k && (zcv ad b ρ q.2).category == 2)) = _
  rw [z_cat]
theorem z_st2_map {ad : Nat → Nat} {ρ : Nat → Int} {lv : zL} {k : Nat} {v : zV} : (k, zcv ad b ρ v) :: (lv.map fun q => (q.1, zcv ad b ρ q.2)).filter (fun q => !(q.1 == k) && (!(q.1 == k + 1) && !(q.1 + 1 == k && q.2.category == 2))) = (z_st2 lv k v).map fun q => (q.1, zcv ad b ρ q.2) := by
  unfold z_st2
  rw [List.map_cons, List.filter_map]
  congr 2
  apply List.filter_congr
  intro q _
  show (!(q.1 == k) && (!(q.1 == k + 1) && !(q.1 + 1 == k && (zcv ad b ρ q.2).category == 2))) = _
  rw [z_cat]
def z_sto (kd : Nat → Bool) (nL k : Nat) (st : zS) : zR := match st with
  | (cu, su, iv, lv, v :: sk, ov) => if kd v.1 && Nat.blt k nL then some [(none, (cu, su, iv, z_st1 lv k v, sk, ov))] else none
  | _ => none
def z_sto2 (nL k : Nat) (st : zS) : zR := match st with
  | (cu, su, iv, lv, v :: sk, ov) => if z_k1 v.1 && Nat.blt (k + 1) nL then some [(none, (cu, su, iv, z_st2 lv k v, sk, ov))] else none
  | _ => none
theorem z_gm.lv {iv : zI} {lv lv' : zL} {sk sk' : List zV} {ov : zO} {ρ : Nat → Int} {ad : Nat → Nat} {ws : va_W} {H : Heap} {locs : List Loc} {ls ls' : Array Slot} (h : z_gm D cl A cA G b sl xs fl h0 nL iv lv sk ov ρ ad ws H locs ls) (hl : lv_has ls' nL (lv'.map fun q => (q.1, zcv ad b ρ q.2))) (h1 : ∀ q ∈ lv', zok ov.length iv ρ q.2) (h2 : ∀ v ∈ sk', zok ov.length iv ρ v) : z_gm D cl A cA G b sl xs fl h0 nL iv lv' sk' ov ρ ad ws H locs ls' :=
  ⟨⟨h.1.1, h1, h2, h.1.2.2.2⟩, hl, h.2.2⟩
theorem zs_sto {len k : Nat} {kd : Nat → Bool} {st : zS} {ss : List (Option Nat × zS)} (h : z_sto kd nL k st = some ss)
    (hr : ∀ (ad : Nat → Nat) (ρ : Nat → Int) (v : zV) (lv : List (Nat × Value)) (H : Heap) (locs : List Loc) (cells slots : Nat) (ls : Array Slot) (rest : List Value), kd v.1 = true → k < nL → lv_has ls nL lv → (∀ ls' : Array Slot, lv_has ls' nL ((k, zcv ad b ρ v) :: lv.filter (fun q => !(q.1 == k) && !(q.1 + 1 == k && q.2.category == 2))) → W p l e R s m args below meth c H locs cells slots Q (F0 m (pc + len) ls' rest)) → W p l e R s m args below meth c H locs cells slots Q (F0 m pc ls (zcv ad b ρ v :: rest))) : zSt p l e R s m args below meth c Q D cl A cA G b sl xs fl h0 nL pc len st ss := by
  obtain ⟨cu, su, iv, lv, sk, ov⟩ := st
  unfold z_sto at h
  rcases sk with _ | ⟨v, sk⟩
  · cases h
  dsimp only at h
  split at h
  next hk =>
    cases h
    rw [Bool.and_eq_true] at hk
    intro ρ ad ws H locs ls hg kk
    refine hr ad ρ v _ _ _ _ _ _ _ hk.1 (Nat.le_of_ble_eq_true hk.2) hg.2.1 (fun ls' hl' => ?_)
    rw [z_st1_map] at hl'
    refine kk _ (List.mem_singleton.mpr rfl) ρ ad ws H locs ls' ⟨fun _ _ => rfl, fun _ _ => rfl, Nat.le_refl _, Nat.le_refl _⟩ (hg.lv hl' (fun q hq => ?_) (fun w hw => hg.1.2.2.1 w (List.mem_cons_of_mem _ hw)))
    rcases List.mem_cons.mp hq with r | r
    · subst r; exact hg.1.2.2.1 v List.mem_cons_self
    · exact hg.1.2.1 q (List.mem_filter.mp r).1
  next => cases h
theorem zs_sto2 {len k : Nat} {st : zS} {ss : List (Option Nat × zS)} (h : z_sto2 nL k st = some ss)
    (hr : ∀ (ad : Nat → Nat) (ρ : Nat → Int) (v : zV) (lv : List (Nat × Value)) (H : Heap) (locs : List Loc) (cells slots : Nat) (ls : Array Slot) (rest : List Value), z_k1 v.1 = true → k + 1 < nL → lv_has ls nL lv → (∀ ls' : Array Slot, lv_has ls' nL ((k, zcv ad b ρ v) :: lv.filter (fun q => !(q.1 == k) && (!(q.1 == k + 1) && !(q.1 + 1 == k && q.2.category == 2)))) → W p l e R s m args below meth c H locs cells slots Q (F0 m (pc + len) ls' rest)) → W p l e R s m args below meth c H locs cells slots Q (F0 m pc ls (zcv ad b ρ v :: rest))) : zSt p l e R s m args below meth c Q D cl A cA G b sl xs fl h0 nL pc len st ss := by
  obtain ⟨cu, su, iv, lv, sk, ov⟩ := st
  unfold z_sto2 at h
  rcases sk with _ | ⟨v, sk⟩
  · cases h
  dsimp only at h
  split at h
  next hk =>
    cases h
    rw [Bool.and_eq_true] at hk
    intro ρ ad ws H locs ls hg kk
    refine hr ad ρ v _ _ _ _ _ _ _ hk.1 (Nat.le_of_ble_eq_true hk.2) hg.2.1 (fun ls' hl' => ?_)
    rw [z_st2_map] at hl'
    refine kk _ (List.mem_singleton.mpr rfl) ρ ad ws H locs ls' ⟨fun _ _ => rfl, fun _ _ => rfl, Nat.le_refl _, Nat.le_refl _⟩ (hg.lv hl' (fun q hq => ?_) (fun w hw => hg.1.2.2.1 w (List.mem_cons_of_mem _ hw)))
    rcases List.mem_cons.mp hq with r | r
    · subst r; exact hg.1.2.2.1 v List.mem_cons_self
    · exact hg.1.2.1 q (List.mem_filter.mp r).1
  next => cases h
theorem zs_istore (hx : p.tables.exec = Jvm.exec) (hb : c.code = cc) {k : Nat} {st : zS} {ss : List (Option Nat × zS)} (hd : decode cc pc = .ok (.istore k, 2)) (h : z_sto z_k0 nL k st = some ss) : zSt p l e R s m args below meth c Q D cl A cA G b sl xs fl h0 nL pc 2 st ss := zs_sto h (fun ad ρ v _ _ _ _ _ _ _ hk hn hl q => by
  rw [z_k0c hk] at q ⊢; exact lv_istore hx hb hd hl hn rfl q)
theorem zs_istore_n (hx : p.tables.exec = Jvm.exec) (hb : c.code = cc) {k : Fin 4} {st : zS} {ss : List (Option Nat × zS)} (hd : decode cc pc = .ok (.istore_n k, 1)) (h : z_sto z_k0 nL k.val st = some ss) : zSt p l e R s m args below meth c Q D cl A cA G b sl xs fl h0 nL pc 1 st ss := zs_sto h (fun ad ρ v _ _ _ _ _ _ _ hk hn hl q => by
  rw [z_k0c hk] at q ⊢; exact lv_istore_n hx hb hd rfl hl hn rfl q)
theorem zs_lstore (hx : p.tables.exec = Jvm.exec) (hb : c.code = cc) {k : Nat} {st : zS} {ss : List (Option Nat × zS)} (hd : decode cc pc = .ok (.lstore k, 2)) (h : z_sto2 nL k st = some ss) : zSt p l e R s m args below meth c Q D cl A cA G b sl xs fl h0 nL pc 2 st ss := zs_sto2 h (fun ad ρ v _ _ _ _ _ _ _ hk hn hl q => by
  rw [z_k1c hk] at q ⊢; exact lv_lstore hx hb hd hl hn rfl q)
theorem zs_lstore_n (hx : p.tables.exec = Jvm.exec) (hb : c.code = cc) {k : Fin 4} {st : zS} {ss : List (Option Nat × zS)} (hd : decode cc pc = .ok (.lstore_n k, 1)) (h : z_sto2 nL k.val st = some ss) : zSt p l e R s m args below meth c Q D cl A cA G b sl xs fl h0 nL pc 1 st ss := zs_sto2 h (fun ad ρ v _ _ _ _ _ _ _ hk hn hl q => by
  rw [z_k1c hk] at q ⊢; exact lv_lstore_n hx hb hd rfl hl hn rfl q)
theorem zs_astore (hx : p.tables.exec = Jvm.exec) (hb : c.code = cc) {k : Nat} {st : zS} {ss : List (Option Nat × zS)} (hd : decode cc pc = .ok (.astore k, 2)) (h : z_sto z_kr nL k st = some ss) : zSt p l e R s m args below meth c Q D cl A cA G b sl xs fl h0 nL pc 2 st ss := zs_sto h (fun ad ρ v _ _ _ _ _ _ _ hk hn hl q => by
  obtain ⟨a, ea⟩ := z_krc hk ad b ρ
  rw [ea] at q ⊢; exact lv_astore hx hb hd hl hn rfl q)
theorem zs_astore_n (hx : p.tables.exec = Jvm.exec) (hb : c.code = cc) {k : Fin 4} {st : zS} {ss : List (Option Nat × zS)} (hd : decode cc pc = .ok (.astore_n k, 1)) (h : z_sto z_kr nL k.val st = some ss) : zSt p l e R s m args below meth c Q D cl A cA G b sl xs fl h0 nL pc 1 st ss := zs_sto h (fun ad ρ v _ _ _ _ _ _ _ hk hn hl q => by
  obtain ⟨a, ea⟩ := z_krc hk ad b ρ
  rw [ea] at q ⊢; exact lv_astore_n hx hb hd rfl hl hn rfl q)
end ZST
