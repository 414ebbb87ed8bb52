/-! ===== new cells ===== -/
theorem z_lk_l {ov : zO} {rows : zRw} {p i : Nat} (h : p < ov.length) : z_lk (z_ap ov rows) p i = z_lk ov p i := by
  have hb : Nat.blt p (Prod.fst ov) = true := Nat.ble_eq_true_of_le h
  have hb2 : Nat.blt p (Prod.fst (z_ap ov rows)) = true := Nat.ble_eq_true_of_le (Nat.lt_of_lt_of_le h (Nat.le_add_right _ _))
  have e1 : z_nof (z_ap ov rows) p = z_nof ov p := by
    show (bif Nat.blt p (Prod.fst ov) then z_nof ov p else _) = _
    rw [hb]; rfl
  have e2 : z_at2 (z_ap ov rows) p i = z_at2 ov p i := by
    show (bif Nat.blt p (Prod.fst ov) then z_at2 ov p i else _) = _
    rw [hb]; rfl
  unfold z_lk
  rw [e1, e2, hb, hb2]
theorem z_lk_r {ov : zO} {rows : zRw} {k i : Nat} : z_lk (z_ap ov rows) (ov.length + k) i = z_lkr rows k i := by
  have hb : Nat.blt (ov.length + k) (Prod.fst ov) = false := Bool.eq_false_iff.mpr (fun h => by
    have := Nat.le_of_ble_eq_true h
    have e : Prod.fst ov = ov.length := rfl
    omega)
  have ek : ov.length + k - Prod.fst ov = k := by
    have e : Prod.fst ov = ov.length := rfl
    omega
  have e1 : z_nof (z_ap ov rows) (ov.length + k) = (match rows[k]? with
    | some [] => true
    | some _ => false
    | none => true) := by
    show (bif Nat.blt (ov.length + k) (Prod.fst ov) then z_nof ov (ov.length + k) else (match rows[ov.length + k - Prod.fst ov]? with
      | some [] => true
      | some _ => false
      | none => true)) = _
    rw [hb, ek]; rfl
  have e2 : z_at2 (z_ap ov rows) (ov.length + k) i = z_lkr rows k i := by
    show (bif Nat.blt (ov.length + k) (Prod.fst ov) then z_at2 ov (ov.length + k) i else z_lkr rows (ov.length + k - Prod.fst ov) i) = _
    rw [hb, ek]; rfl
  unfold z_lk
  rw [e1, e2]
  unfold z_lkr
  cases hr : rows[k]? with
  | none => rfl
  | some r =>
    have hlt : k < rows.length := (List.getElem?_eq_some_iff.mp hr).1
    have hb2 : Nat.blt (ov.length + k) (Prod.fst (z_ap ov rows)) = true := Nat.ble_eq_true_of_le (by
      show ov.length + k + 1 ≤ ov.length + rows.length
      omega)
    rw [hb2]
    cases r with
    | nil => rfl
    | cons a t => rfl
theorem z_lkr_mem {rows : zRw} {p i : Nat} {v : zV} (h : z_lkr rows p i = some v) : ∃ r ∈ rows, some v ∈ r := by
  unfold z_lkr at h
  split at h
  next r hr =>
    split at h
    next w hw =>
      subst h
      exact ⟨r, List.mem_of_getElem? hr, List.mem_of_getElem? hw⟩
    next => cases h
  next => cases h
theorem z_wd_app {G : List zC} {cA : Nat → ClassId} {ov : zO} {rows : zRw} {ad ad' : Nat → Nat} {b : Nat → Nat} {ρ : Nat → Int} {ws news : va_W} {iv : zI} (hw : z_wd G cA ov ad b ρ ws) (hk : ∀ (p9 i9 : Nat) (v : zV), z_lk ov p9 i9 = some v → zok ov.length iv ρ v) (ha : ∀ q, q < ov.length → ad' q = ad q) (hl : news.length = rows.length)
    (hn : ∀ (i : Nat) (q : Nat × va_E), news[i]? = some q → q.1 = ad' (ov.length + i) ∧ ∃ g, G[ov.length + i]? = some g ∧ z_en cA g (z_wv g (z_ap ov rows) ad' b ρ (ov.length + i)) q.2) : z_wd G cA (z_ap ov rows) ad' b ρ (ws ++ news) := by
  have hw' := z_wd_ext (ρ' := ρ) hw hk (fun _ _ => rfl) ha
  refine ⟨by rw [List.length_append, z_ap_length, hw.1, hl], fun p q hq => ?_⟩
  by_cases hp : p < ws.length
  · rw [List.getElem?_append_left hp] at hq
    obtain ⟨h1, g, hg, he⟩ := hw'.2 p q hq
    refine ⟨h1, g, hg, z_en_mono (fun i v hv => ?_) he⟩
    unfold z_wv at hv ⊢
    rw [z_lk_l (by rw [← hw.1]; exact hp)]
    exact ⟨z_spv_ext hv.1 (fun _ _ => rfl) (by rw [z_ap_length]; exact Nat.le_add_right _ _), hv.2⟩
  · rw [List.getElem?_append_right (by omega)] at hq
    have := hn _ q hq
    rw [show ov.length + (p - ws.length) = p by rw [← hw.1]; omega] at this
    exact this
section ZST8
variable {p : Program} {l : Launch} {e : Env} {R : Room} {s : State} {m : MethodId} {args : Array Value} {below : List Frame} {meth : Method} {c : Code} {Q : State → Prop} {D : va_G} {cl : List vw_C} {A : Nat → Prop} {cA : Nat → ClassId} {G : List zC} {b : Nat → Nat} {sl : Nat} {xs : Nat → Int32} {fl : zFl} {h0 : Heap} {nL : Nat} {cc : ByteArray} {pc : Nat}
variable {Ts : List Jvm.Cond} {zN : List String} {FL : List (List (Nat × Nat × Nat))} {tys : List (ClassId × FieldType)} {tyl : List FieldType} {own : String} {cn : Nat}
theorem z_gm.app {iv : zI} {lv : zL} {sk sk' : List zV} {ov : zO} {rows : zRw} {ρ : Nat → Int} {ad ad' : Nat → Nat} {ws news : va_W} {H H' : Heap} {locs locs' : List Loc} {ls : Array Slot} (h : z_gm D cl A cA G b sl xs fl h0 nL iv lv sk ov ρ ad ws H locs ls) (ha : ∀ q, q < ov.length → ad' q = ad q) (hl : news.length = rows.length)
    (hn : ∀ (i : Nat) (q : Nat × va_E), news[i]? = some q → q.1 = ad' (ov.length + i) ∧ ∃ g, G[ov.length + i]? = some g ∧ z_en cA g (z_wv g (z_ap ov rows) ad' b ρ (ov.length + i)) q.2) (hrows : ∀ r ∈ rows, ∀ v, some v ∈ r → zok (z_ap ov rows).length iv ρ v) (hs : ∀ w ∈ sk', zok (z_ap ov rows).length iv ρ w) (hP : va_P D cl (ws ++ news) H') (hD : va_D A (ws ++ news)) (hS : va_S A h0 H' locs') :
    z_gm D cl A cA G b sl xs fl h0 nL iv lv sk' (z_ap ov rows) ρ ad' (ws ++ news) H' locs' ls := by
  have hle : ov.length ≤ (z_ap ov rows).length := by rw [z_ap_length]; omega
  have up : ∀ v, zok ov.length iv ρ v → zok (z_ap ov rows).length iv ρ v := fun v hv => zok_ext hv (fun _ _ => rfl) (Nat.le_refl _) hle
  refine ⟨⟨h.1.1, fun q hq => up _ (h.1.2.1 q hq), hs, fun r hr v hv => ?_⟩, ?_, z_wd_app h.2.2.1 h.1.2.2.2 ha hl hn, hP, hD, hS, h.2.2.2.2.2.2.1, h.2.2.2.2.2.2.2.1, fun m hm => ?_, h.2.2.2.2.2.2.2.2.2.app⟩
  · by_cases hp : r < ov.length
    · rw [z_lk_l hp] at hv
      exact up _ (h.1.2.2.2 r hr v hv)
    · rw [show r = ov.length + (r - ov.length) by omega, z_lk_r] at hv
      obtain ⟨r9, q1, q2⟩ := z_lkr_mem hv
      exact hrows r9 q1 v q2
  · have e : (lv.map fun q => (q.1, zcv ad' b ρ q.2)) = (lv.map fun q => (q.1, zcv ad b ρ q.2)) := List.map_congr_left (fun q hq => by rw [zcv_ext (h.1.2.1 q hq) (fun _ _ => rfl) ha])
    rw [e]; exact h.2.1
  · obtain ⟨h1, a, c, n, f, h4, h5⟩ := h.2.2.2.2.2.2.2.2.1 m hm
    exact ⟨h1, a, c, n, f, by rw [List.getElem?_append_left (List.getElem?_eq_some_iff.mp h4).1]; exact h4, h5⟩
/-- default values -/
def z_dv (k : Nat) : zV := match k with
  | 0 => (0, 0, 0)
  | 1 => (1, 0, 0)
  | _ => (3, 0, 0)
theorem z_dvo {n : Nat} {iv : zI} {ρ : Nat → Int} (hi : ziv iv ρ) (k : Nat) : zok n iv ρ (z_dv k) := by
  match k with
  | 0 => exact z_okc hi (by omega) (by omega)
  | 1 => exact z_okl hi (by omega) (by omega)
  | _ + 2 => exact True.intro
theorem z_dvv {ad : Nat → Nat} {ρ : Nat → Int} {k : Nat} {ty : FieldType} (h0 : ρ 0 = 0) (hk : z_tyk ty = k) (hk2 : k ≤ 2) : zcv ad b ρ (z_dv k) = defaultValue ty := by
  unfold z_tyk at hk
  split at hk
  · subst hk; show zcv ad b ρ (0, 0, 0) = _; rw [z_cvc h0]; rfl
  · subst hk; show zcv ad b ρ (1, 0, 0) = _; rw [z_cvl h0]; rfl
  · subst hk; rfl
  · subst hk; rfl
  · omega
/-- does a default value keep a bound -/
def z_dq (k : Nat) (sp : Nat × Int × Int) : Bool := match sp with
  | (0, lo, hi) => Nat.beq k 0 && decide (lo ≤ 0 ∧ 0 ≤ hi)
  | (1, lo, hi) => Nat.beq k 1 && decide (lo ≤ 0 ∧ 0 ≤ hi)
  | (2, _, _) => true
  | _ => false
theorem z_dq_ok {k n : Nat} {ad : Nat → Nat} {sp : Nat × Int × Int} {V : Value} (h : z_dq k sp = true) (h0 : k = 0 → V = .int 0) (h1 : k = 1 → V = .long 0) : z_spv n ad (some sp) V := by
  unfold z_dq at h
  split at h
  next lo hi =>
    rw [Bool.and_eq_true] at h
    have h2 := of_decide_eq_true h.2
    exact ⟨0, h0 (Nat.eq_of_beq_eq_true h.1), h2.1, h2.2⟩
  next lo hi =>
    rw [Bool.and_eq_true] at h
    have h2 := of_decide_eq_true h.2
    exact ⟨0, h1 (Nat.eq_of_beq_eq_true h.1), h2.1, h2.2⟩
  next => exact True.intro
  next => cases h
theorem z_sp_of {g : zC} {j : Nat} {sp : Nat × Int × Int} (h : g.2.2[j]? = some sp) : z_sp g j = some sp := by
  unfold z_sp
  split
  next x hx =>
    rw [hx] at h
    have hj : j < 1 := (List.getElem?_eq_some_iff.mp h).1
    rw [show j = 0 by omega] at h
    cases h
    rfl
  next => exact h
/-- all bounds of a cell are kept by a default value -/
theorem z_dqa {g : zC} {k n j : Nat} {ad : Nat → Nat} {V : Value} (h : g.2.2.all (z_dq k) = true) (h0 : k = 0 → V = .int 0) (h1 : k = 1 → V = .long 0) : z_spv n ad (z_sp g j) V := by
  have hm : ∀ sp, z_sp g j = some sp → sp ∈ g.2.2 := by
    intro sp hsp
    unfold z_sp at hsp
    split at hsp
    next x hx => cases hsp; rw [hx]; exact List.mem_singleton.mpr rfl
    next => exact List.mem_of_getElem? hsp
  cases hz : z_sp g j with
  | none => exact True.intro
  | some sp => exact z_dq_ok (List.all_eq_true.mp h sp (hm sp hz)) h0 h1
/-- NW: (place in the pool, number, slots) of what is made -/
def zNWOk (cl : List vw_C) (zN : List String) (NW : List (List (Nat × Nat × Nat))) (Ts : List Jvm.Cond) : Prop := ∀ (cn idx ci n : Nat) (own : String), z_fl NW cn idx = some (ci, n) → zN[cn]? = some own → ∃ (C : String) (T : u_T), cl[ci]? = some (C, T, n) ∧ Jvm.Cond.classLink own idx C ∈ Ts ∧ Jvm.Cond.instantiable C n ∈ Ts ∧ Jvm.Cond.initialized C ∈ Ts
def z_new (G : List zC) (NW : List (List (Nat × Nat × Nat))) (cn CC SS idx : Nat) (st : zS) : zR := match st with
  | (cu, su, iv, lv, sk, ov) => match z_fl NW cn idx, G[ov.length]? with
    | some (ci, n), some g => if g.1 = 0 ∧ g.2.1 = ci ∧ cu + 1 ≤ CC ∧ su + n ≤ SS ∧ g.2.2.all (fun sp => Nat.ble sp.1 2 && z_dq sp.1 sp) = true then some [(none, (cu + 1, su + n, iv, lv, (2, ov.length, 0) :: sk, z_ap ov [g.2.2.map (fun sp => some (z_dv sp.1))]))] else none
    | _, _ => none
theorem z_up_lt {ad : Nat → Nat} {n q : Nat} : ∀ k, k < n → va_up ad n q k = ad k := fun k hk => if_neg (Nat.ne_of_lt hk)
theorem zs_new {CC SS : Nat} (hx : p.tables.exec = Jvm.exec) (hb : c.code = cc) (hts : ∀ w ∈ Ts, w.before args s = true) (hK : va_K D cl tys s) (hown : s.vm.findClass own = some m.cls) (hN : zN[cn]? = some own) (hC : zClsOk cl zN Ts) (hG : zGOk cl G) {NW : List (List (Nat × Nat × Nat))} (hW : zNWOk cl zN NW Ts) (hA : ∀ q : Nat, h0.size ≤ q → A q) (hR1 : CC ≤ R.cells) (hR2 : SS ≤ R.slots) {idx : Nat} {st : zS} {ss : List (Option Nat × zS)} (hd : decode cc pc = .ok (.new idx, 3)) (h : z_new G NW cn CC SS idx st = some ss) : zSt p l e R s m args below meth c Q D cl A cA G b sl xs fl h0 nL pc 3 st ss := by
  obtain ⟨cu, su, iv, lv, sk, ov⟩ := st
  unfold z_new at h
  dsimp only at h
  split at h
  next ci n g hf hg =>
    split at h
    next hc =>
      cases h
      obtain ⟨hc1, hc2, hc3, hc4, hc5⟩ := hc
      obtain ⟨C, T, hcl, w1, w2, w3⟩ := hW cn idx ci n own hf hN
      obtain ⟨C2, T2, N2, hcl2, hl2, hty2⟩ := hG _ g hg hc1
      rw [hc2] at hcl2
      cases hcl.symm.trans hcl2
      obtain ⟨hNC, hin2, ⟨ty0, hty0⟩, hnm, hdecl⟩ := hC ci C T _ hcl
      intro ρ ad ws H locs ls hgm kk
      have hfs : ∀ j, j < g.2.2.length → defaultValue (ty0 j) = vp_V (g.2.2.map (fun sp => zcv ad b ρ (z_dv sp.1))) j := by
        intro j hj
        obtain ⟨sp, hsp⟩ : ∃ sp, g.2.2[j]? = some sp := ⟨_, List.getElem?_eq_getElem hj⟩
        obtain ⟨ty, hty, htk⟩ := hty2 j sp hsp
        have e1 : ty = ty0 j := Option.some.inj (hty.symm.trans (hty0 j (by omega)))
        have hk2 : sp.1 ≤ 2 := Nat.le_of_ble_eq_true (Bool.and_eq_true _ _ ▸ List.all_eq_true.mp hc5 sp (List.mem_of_getElem? hsp)).1
        have e9 : z_skd sp.1 = sp.1 := by unfold z_skd; rw [if_neg (by omega), if_neg (by omega)]
        rw [e9] at htk
        unfold vp_V
        rw [List.getD_eq_getElem?_getD, List.getElem?_map, hsp]
        show defaultValue (ty0 j) = zcv ad b ρ (z_dv sp.1)
        rw [← e1]
        exact (z_dvv hgm.1.1.1 htk hk2).symm
      have hSS : su + g.2.2.length ≤ SS := by omega
      show W p l e R s m args below meth c H locs cu su Q (F0 m pc ls (sk.map (zcv ad b ρ)))
      refine va_new hx hb hts hin2 ty0 hty0 hown (hts _ w1) (hts _ w2) (hts _ w3) hK hgm.2.2.2.1 hgm.2.2.2.2.1 hgm.2.2.2.2.2.1 hA hcl (fs := g.2.2.map (fun sp => zcv ad b ρ (z_dv sp.1))) (fun j hj => hfs j (by omega)) (by omega) (by omega) hd (fun q H1 hP1 hD1 hS1 => ?_)
      have hq := kk _ (List.mem_singleton.mpr rfl) ρ (va_up ad ov.length q) _ H1 locs ls ⟨fun _ _ => rfl, z_up_lt, Nat.le_refl _, by show ov.length ≤ (z_ap ov _).length; rw [z_ap_length]; omega⟩ (hgm.app (sk' := (2, ov.length, 0) :: sk) z_up_lt (rows := [g.2.2.map (fun sp => some (z_dv sp.1))]) rfl (fun i q' hq' => ?_) (fun r hr v hv => ?_) (fun w hw => ?_) hP1 hD1 hS1)
      · have e : ((2, ov.length, 0) :: sk : List zV).map (zcv (va_up ad ov.length q) b ρ) = .ref q :: sk.map (zcv ad b ρ) := by
          rw [List.map_cons, z_skm hgm.1.2.2.1 (fun _ _ => rfl) z_up_lt]
          show Value.ref (va_up ad ov.length q ov.length) :: _ = _
          rw [show va_up ad ov.length q ov.length = q from if_pos rfl]
        rw [← e]
        exact hq
      · have hi : i < 1 := (List.getElem?_eq_some_iff.mp hq').1
        rw [show i = 0 by omega] at hq' ⊢
        cases hq'
        refine ⟨(if_pos rfl).symm, g, hg, ?_⟩
        unfold z_en
        rw [hc1]
        refine ⟨_, by rw [hc2], by rw [List.length_map], fun j v hv => ?_⟩
        rw [List.getElem?_map] at hv
        obtain ⟨sp, hsp, rfl⟩ := Option.map_eq_some_iff.mp hv
        unfold z_wv
        rw [z_lk_r]
        unfold z_lkr
        refine ⟨?_, ?_⟩
        · rw [z_sp_of hsp]
          have hb9 := Bool.and_eq_true _ _ ▸ List.all_eq_true.mp hc5 sp (List.mem_of_getElem? hsp)
          refine z_dq_ok hb9.2 (fun e => ?_) (fun e => ?_)
          · rw [e]; show zcv ad b ρ (0, 0, 0) = _; rw [z_cvc hgm.1.1.1]; rfl
          · rw [e]; show zcv ad b ρ (1, 0, 0) = _; rw [z_cvl hgm.1.1.1]; rfl
        show match (match (g.2.2.map (fun sp => some (z_dv sp.1)))[j]? with | some v => v | none => none) with | some a => _ | none => _
        rw [List.getElem?_map, hsp]
        show zcv ad b ρ (z_dv sp.1) = zcv _ b ρ (z_dv sp.1)
        exact (zcv_ext (n := 0) (z_dvo hgm.1.1 sp.1) (fun _ _ => rfl) (fun q hq => absurd hq (Nat.not_lt_zero q))).symm
      · rw [List.mem_singleton] at hr
        subst hr
        obtain ⟨sp, -, hsp⟩ := List.mem_map.mp hv
        cases hsp
        exact z_dvo hgm.1.1 sp.1
      · rcases List.mem_cons.mp hw with q1 | q1
        · subst q1
          show ov.length < (z_ap ov _).length
          rw [z_ap_length]; exact Nat.lt_succ_self _
        · exact zok_ext (hgm.1.2.2.1 w q1) (fun _ _ => rfl) (Nat.le_refl _) (by rw [z_ap_length]; omega)
    next => cases h
  next => cases h
/-! arrays of numbers -/
def z_at (t : ArrayType) : Nat := match t with
  | .int => 1
  | .long => 2
  | .byte => 3
  | .boolean => 4
  | _ => 0
def z_tk (t : Nat) : Nat := if t = 2 then 1 else 0
/-- what is known of a new array: nothing but its bounds, or every place -/
def z_row (g : zC) (k : Nat) : Option (List (Option zV)) := match g.2.2 with
  | [(k', lo, hi)] => if k' = k ∧ lo ≤ 0 ∧ 0 ≤ hi then some [] else none
  | _ => if g.2.2.all (z_dq k) = true then some (List.replicate g.2.1 (some (z_dv k))) else none
def z_newa (G : List zC) (CC SS : Nat) (t : ArrayType) (st : zS) : zR := match st with
  | (cu, su, iv, lv, x :: r, ov) => match G[ov.length]? with
    | some g => if x.1 = 0 ∧ x.2.1 = 0 ∧ x.2.2 = (g.2.1 : Int) ∧ g.1 = z_at t ∧ 1 ≤ g.1 ∧ g.2.1 ≤ 100000 ∧ cu + 1 ≤ CC ∧ su + g.2.1 ≤ SS then (match z_row g (z_tk g.1) with
      | some row => some [(none, (cu + 1, su + g.2.1, iv, lv, (2, ov.length, 0) :: r, z_ap ov [row]))]
      | none => none) else none
    | none => none
  | _ => none
theorem z_rowo {g : zC} {k : Nat} {row : List (Option zV)} {n : Nat} {iv : zI} {ρ : Nat → Int} (hi : ziv iv ρ) (h : z_row g k = some row) : ∀ v, some v ∈ row → zok n iv ρ v := by
  unfold z_row at h
  split at h
  next =>
    split at h
    next => cases h; intro v hv; cases hv
    next => cases h
  next =>
    split at h
    next =>
      cases h
      intro v hv
      have := List.eq_of_mem_replicate hv
      cases this
      exact z_dvo hi k
    next => cases h
theorem z_rowv {g : zC} {k : Nat} {row : List (Option zV)} {ov : zO} {rows : zRw} {ad : Nat → Nat} {iv : zI} {ρ : Nat → Int} {j i : Nat} {V : Value} (hi : ziv iv ρ) (h : z_row g k = some row) (hr : rows[i]? = some row) (hj : j < g.2.1) (hV : zcv ad b ρ (z_dv k) = V) (hk : (k = 0 ∧ V = .int 0) ∨ (k = 1 ∧ V = .long 0) ∨ (2 ≤ k ∧ g.2.2.length ≠ 1)) : z_wv g (z_ap ov rows) ad b ρ (ov.length + i) j V := by
  unfold z_wv
  rw [z_lk_r]
  unfold z_lkr
  rw [hr]
  dsimp only
  unfold z_row at h
  split at h
  next k' lo hi' hsp =>
    split at h
    next hc =>
      cases h
      refine ⟨?_, True.intro⟩
      show z_spv (z_ap ov rows).length ad (z_sp g j) V
      unfold z_sp
      rw [hsp]
      dsimp only
      obtain ⟨hc1, hc2, hc3⟩ := hc
      subst hc1
      rcases hk with ⟨rfl, rfl⟩ | ⟨rfl, rfl⟩ | ⟨h2, h3⟩
      · exact ⟨0, rfl, hc2, hc3⟩
      · exact ⟨0, rfl, hc2, hc3⟩
      · rw [hsp] at h3; exact absurd rfl h3
    next => cases h
  next =>
    split at h
    next hall =>
      cases h
      refine ⟨z_dqa hall (fun e => ?_) (fun e => ?_), ?_⟩
      · rcases hk with ⟨-, q⟩ | ⟨q, -⟩ | ⟨q, -⟩
        · exact q
        · omega
        · omega
      · rcases hk with ⟨q, -⟩ | ⟨-, q⟩ | ⟨q, -⟩
        · omega
        · exact q
        · omega
      · rw [List.getElem?_replicate, if_pos hj]
        exact hV.symm
    next => cases h
theorem z_tyl {t : ArrayType} (hT : zTyOk cA tyl tys) (h : 1 ≤ z_at t) : tyl[z_at t - 1]? = some (newarray.typeOf t) ∧ (∀ c : ClassId, va_RA s c (newarray.typeOf t) ↔ s.vm.findClass ("[" ++ (newarray.typeOf t).toString) = some c) := by
  cases t with
  | int => exact ⟨hT.1, fun _ => Iff.rfl⟩
  | long => exact ⟨hT.2.1, fun _ => Iff.rfl⟩
  | byte => exact ⟨hT.2.2.1, fun _ => Iff.rfl⟩
  | boolean => exact ⟨hT.2.2.2.1, fun _ => Iff.rfl⟩
  | _ => exact absurd h (by decide)
def zArOk (Ts : List Jvm.Cond) : Prop := ∀ t : ArrayType, 1 ≤ z_at t → Jvm.Cond.arrayClass (newarray.typeOf t) ∈ Ts
theorem zs_newa {CC SS : Nat} (hx : p.tables.exec = Jvm.exec) (hb : c.code = cc) (hts : ∀ w ∈ Ts, w.before args s = true) (hK : va_K D cl tys s) (hT : zTyOk cA tyl tys) (hAr : zArOk Ts) (hA : ∀ q : Nat, h0.size ≤ q → A q) (hR1 : CC ≤ R.cells) (hR2 : SS ≤ R.slots) {t : ArrayType} {st : zS} {ss : List (Option Nat × zS)} (hd : decode cc pc = .ok (.newarray t, 2)) (h : z_newa G CC SS t st = some ss) : zSt p l e R s m args below meth c Q D cl A cA G b sl xs fl h0 nL pc 2 st ss := by
  obtain ⟨cu, su, iv, lv, sk, ov⟩ := st
  unfold z_newa at h
  rcases sk with _ | ⟨x, r⟩
  · cases h
  dsimp only at h
  split at h
  next g hg =>
    split at h
    next hc =>
      obtain ⟨hc1, hc2, hc3, hc4, hc5, hc6, hc7, hc8⟩ := hc
      split at h
      next row hrow =>
        cases h
        intro ρ ad ws H locs ls hgm kk
        have ox := z_ok0 (hgm.1.2.2.1 x List.mem_cons_self) hc1
        have ex : z_val ρ x = (g.2.1 : Int) := by unfold z_val; rw [hc2, hgm.1.1.1, hc3]; omega
        obtain ⟨hty, hRA⟩ := z_tyl (s := s) (t := t) hT (by omega)
        have hmem := hT.2.2.2.2.2 _ _ hty
        rw [show z_at t - 1 + 1 = g.1 by omega] at hmem
        have hfc := (hRA _).mp ((hK.2 _ _ hmem).2)
        show W p l e R s m args below meth c H locs cu su Q (F0 m pc ls (zcv ad b ρ x :: r.map (zcv ad b ρ)))
        rw [z_cv0 hc1, ex]
        have hpos : ¬ Int32.ofInt (g.2.1 : Int) < 0 := by
          rw [Int32.lt_iff_toInt_lt, z_i32 (by omega) (by omega)]
          have : (0 : Int32).toInt = 0 := rfl
          omega
        have hclamp : (Int32.ofInt (g.2.1 : Int)).toNatClampNeg = g.2.1 := by
          show (Int32.ofInt (g.2.1 : Int)).toInt.toNat = _
          rw [z_i32 (by omega) (by omega)]; omega
        have hbytes : g.2.1 * componentBytes (newarray.typeOf t) ≤ 536870912 := by
          have h8 : componentBytes (newarray.typeOf t) ≤ 8 := by cases t <;> decide
          have := Nat.mul_le_mul hc6 h8
          omega
        -- the cell of a new array by its tag
        have main : ∀ (a0 : vp_A), (∀ c : ClassId, vp_cell c a0 = arrV c g.2.1 (fun _ => defaultValue (newarray.typeOf t))) → (∀ (F : Nat → Value → Prop), (∀ j, j < g.2.1 → F j (defaultValue (newarray.typeOf t))) → z_en cA g F (.inl (cA g.1, a0))) → W p l e R s m args below meth c H locs cu su Q (F0 m pc ls (.int (Int32.ofInt (g.2.1 : Int)) :: r.map (zcv ad b ρ))) := by
          intro a0 ha0 hen
          refine va_newa hx hb (hts _ (hAr t (by omega))) rfl hK hgm.2.2.2.1 hgm.2.2.2.2.1 hgm.2.2.2.2.2.1 hA (a0 := a0) ha0 hpos hclamp hbytes (by omega) (by omega) hd (fun q cA1 H1 hK1 hP1 hD1 hS1 => ?_)
          have hlast : (tys ++ [(cA1, newarray.typeOf t)])[tys.length]? = some (cA1, newarray.typeOf t) := by rw [List.getElem?_append_right (Nat.le_refl _), Nat.sub_self]; rfl
          have hfc1 := (hRA _).mp ((hK1.2 _ _ hlast).2)
          have ec : cA1 = cA g.1 := Option.some.inj (hfc1.symm.trans hfc)
          rw [ec] at hP1 hD1
          have hq := kk _ (List.mem_singleton.mpr rfl) ρ (va_up ad ov.length q) _ H1 locs ls ⟨fun _ _ => rfl, z_up_lt, Nat.le_refl _, by show ov.length ≤ (z_ap ov _).length; rw [z_ap_length]; omega⟩ (hgm.app (sk' := (2, ov.length, 0) :: r) z_up_lt (rows := [row]) rfl (fun i q' hq' => ?_) (fun r' hr v hv => ?_) (fun w hw => ?_) hP1 hD1 hS1)
          · have e : ((2, ov.length, 0) :: r : List zV).map (zcv (va_up ad ov.length q) b ρ) = .ref q :: r.map (zcv ad b ρ) := by
              rw [List.map_cons, z_skm (fun w hw => hgm.1.2.2.1 w (List.mem_cons_of_mem _ hw)) (fun _ _ => rfl) z_up_lt]
              show Value.ref (va_up ad ov.length q ov.length) :: _ = _
              rw [show va_up ad ov.length q ov.length = q from if_pos rfl]
            rw [← e]
            exact hq
          · have hi : i < 1 := (List.getElem?_eq_some_iff.mp hq').1
            rw [show i = 0 by omega] at hq' ⊢
            cases hq'
            refine ⟨(if_pos rfl).symm, g, hg, hen _ (fun j hj => ?_)⟩
            have ht : (z_tk g.1 = 0 ∧ defaultValue (newarray.typeOf t) = .int 0) ∨ (z_tk g.1 = 1 ∧ defaultValue (newarray.typeOf t) = .long 0) ∨ (2 ≤ z_tk g.1 ∧ g.2.2.length ≠ 1) := by
              rw [hc4] at hc5 ⊢
              cases t with
              | int => exact Or.inl ⟨rfl, rfl⟩
              | long => exact Or.inr (Or.inl ⟨rfl, rfl⟩)
              | byte => exact Or.inl ⟨rfl, rfl⟩
              | boolean => exact Or.inl ⟨rfl, rfl⟩
              | _ => exact absurd hc5 (by decide)
            refine z_rowv hgm.1.1 hrow rfl hj ?_ ht
            rcases ht with ⟨q1, q2⟩ | ⟨q1, q2⟩ | ⟨q1, -⟩
            · rw [q1, q2]; show zcv _ b ρ (0, 0, 0) = _; rw [z_cvc hgm.1.1.1]; rfl
            · rw [q1, q2]; show zcv _ b ρ (1, 0, 0) = _; rw [z_cvl hgm.1.1.1]; rfl
            · unfold z_tk at q1; split at q1 <;> omega
          · rw [List.mem_singleton] at hr
            subst hr
            exact z_rowo hgm.1.1 hrow v hv
          · rcases List.mem_cons.mp hw with q1 | q1
            · subst q1
              show ov.length < (z_ap ov _).length
              rw [z_ap_length]; exact Nat.lt_succ_self _
            · exact zok_ext (hgm.1.2.2.1 w (List.mem_cons_of_mem _ q1)) (fun _ _ => rfl) (Nat.le_refl _) (by rw [z_ap_length]; omega)
        cases t with
        | int => exact main (g.2.1, .inl (fun _ => 0)) (fun _ => rfl) (fun F hF => by unfold z_en; rw [hc4]; exact ⟨_, rfl, hF⟩)
        | long => exact main (g.2.1, .inr (.inl (fun _ => 0))) (fun _ => rfl) (fun F hF => by unfold z_en; rw [hc4]; exact ⟨_, rfl, hF⟩)
        | byte => exact main (g.2.1, .inl (fun _ => 0)) (fun _ => rfl) (fun F hF => by unfold z_en; rw [hc4]; exact ⟨_, rfl, hF⟩)
        | boolean => exact main (g.2.1, .inl (fun _ => 0)) (fun _ => rfl) (fun F hF => by unfold z_en; rw [hc4]; exact ⟨_, rfl, hF⟩)
        | _ => exact absurd hc5 (by rw [hc4]; decide)
      next => cases h
    next => cases h
  next => cases h
end ZST8
