/-! ===== tables: what the statement's words give ===== -/
def z_tyk (t : FieldType) : Nat := match t with
  | .int => 0
  | .long => 1
  | .object _ => 2
  | .array _ => 2
  | _ => 9
def zClsOk (cl : List vw_C) (zN : List String) (Ts : List Jvm.Cond) : Prop := ∀ (ci : Nat) (C : String) (T : u_T) (N : Nat), cl[ci]? = some (C, T, N) → zN[ci]? = some C ∧ (∀ w ∈ u_ws C T N, w ∈ Ts) ∧ (∃ ty0 : Nat → FieldType, ∀ k, k < N → parseFieldDescriptor (T k).2.2.1 = some (ty0 k)) ∧ (∀ a, a < N → ∀ b, b < N → a ≠ b → (T a).2.1 ≠ (T b).2.1) ∧ ∀ k, k < N → (T k).1 = C
def zGOk (cl : List vw_C) (G : List zC) : Prop := ∀ (p : Nat) (g : zC), G[p]? = some g → g.1 = 0 → ∃ (C : String) (T : u_T) (N : Nat), cl[g.2.1]? = some (C, T, N) ∧ g.2.2.length = N ∧ ∀ (f : Nat) (sp : Nat × Int × Int), g.2.2[f]? = some sp → ∃ ty, parseFieldDescriptor (T f).2.2.1 = some ty ∧ z_tyk ty = sp.1
def z_as (q : List (Nat × Nat × Nat)) (k : Nat) : Option (Nat × Nat) := match q with
  | [] => none
  | (i, a, b) :: r => if Nat.beq i k then some (a, b) else z_as r k
def z_fl (FL : List (List (Nat × Nat × Nat))) (cn idx : Nat) : Option (Nat × Nat) := match FL[cn]? with
  | some q => z_as q idx
  | none => none
def zFLOk (cl : List vw_C) (zN : List String) (FL : List (List (Nat × Nat × Nat))) (Ts : List Jvm.Cond) : Prop := ∀ (cn idx ci f : Nat) (own : String), z_fl FL cn idx = some (ci, f) → zN[cn]? = some own → ∃ (C : String) (T : u_T) (N : Nat), cl[ci]? = some (C, T, N) ∧ f < N ∧ Jvm.Cond.fieldLink own idx (T f).1 (T f).2.1 (T f).2.2.1 ∈ Ts
/-- the arrays' types: tag k + 1 at place k -/
def zTyOk (cA : Nat → ClassId) (tyl : List FieldType) (tys : List (ClassId × FieldType)) : Prop := tyl[0]? = some .int ∧ tyl[1]? = some .long ∧ tyl[2]? = some .byte ∧ tyl[3]? = some .boolean ∧ (∀ (k : Nat) (t : FieldType), 4 ≤ k → tyl[k]? = some t → t.isReference = true) ∧ ∀ (k : Nat) (t : FieldType), tyl[k]? = some t → tys[k]? = some (cA (k + 1), t)
theorem z_wr_lk {ov : zO} {p i p' i' : Nat} {v : zV} : z_lk (z_wr ov p i v) p' i' = bif z_nof ov p' then none else (bif Nat.blt p' (Prod.fst ov) then (bif Nat.beq p' p then (bif Nat.beq i' i then some v else z_at2 ov p' i') else z_at2 ov p' i') else none) := rfl
theorem z_sw_ok {ov ov' : zO} {p i : Nat} {v : zV} (h : z_sw ov p i v = some ov') : ov'.length = ov.length ∧ z_lk ov' p i = some v ∧ (∀ p' i', ¬ (p' = p ∧ i' = i) → z_lk ov' p' i' = z_lk ov p' i') ∧ ∀ (p9 i9 : Nat) (w : zV), z_lk ov' p9 i9 = some w → w = v ∨ z_lk ov p9 i9 = some w := by
  unfold z_sw at h
  split at h
  next v0 hr =>
    cases h
    have h1 : z_lk (z_wr ov p i v) p i = some v := by
      rw [z_wr_lk, Nat.beq_refl, Nat.beq_refl]
      unfold z_lk at hr
      cases hb : z_nof ov p with
      | true => rw [hb] at hr; cases hr
      | false =>
        rw [hb] at hr
        cases hc : Nat.blt p (Prod.fst ov) with
        | true => rfl
        | false => rw [hc] at hr; cases hr
    have h2 : ∀ p' i', ¬ (p' = p ∧ i' = i) → z_lk (z_wr ov p i v) p' i' = z_lk ov p' i' := by
      intro p' i' hn
      rw [z_wr_lk]
      unfold z_lk
      cases hb : Nat.beq p' p with
      | false => rfl
      | true =>
        cases hc : Nat.beq i' i with
        | false => rfl
        | true => exact absurd ⟨Nat.eq_of_beq_eq_true hb, Nat.eq_of_beq_eq_true hc⟩ hn
    refine ⟨rfl, h1, h2, fun p9 i9 w hw => ?_⟩
    by_cases e : p9 = p ∧ i9 = i
    · rw [e.1, e.2, h1] at hw
      exact Or.inl (Option.some.inj hw).symm
    · rw [h2 p9 i9 e] at hw
      exact Or.inr hw
  next => cases h
theorem z_wd_upd {G : List zC} {cA : Nat → ClassId} {ov ov' : zO} {ad : Nat → Nat} {b : Nat → Nat} {ρ : Nat → Int} {ws : va_W} {p a : Nat} {e0 e1 : va_E} {g : zC} (hw : z_wd G cA ov ad b ρ ws) (hp : ws[p]? = some (a, e0)) (hg : G[p]? = some g) (hl : ov'.length = ov.length) (ho : ∀ p', p' ≠ p → ∀ i, z_lk ov' p' i = z_lk ov p' i) (he : z_en cA g (z_wv g ov' ad b ρ p) e1) : z_wd G cA ov' ad b ρ (ws.set p (a, e1)) := by
  refine ⟨by rw [List.length_set, hl]; exact hw.1, fun p' q hq => ?_⟩
  by_cases e : p' = p
  · subst e
    rw [List.getElem?_set_self (List.getElem?_eq_some_iff.mp hp).1] at hq
    cases hq
    exact ⟨(hw.2 _ _ hp).1, g, hg, he⟩
  · rw [List.getElem?_set_ne (fun q => e q.symm)] at hq
    obtain ⟨h1, g', hg', he'⟩ := hw.2 p' q hq
    refine ⟨h1, g', hg', z_en_mono (fun i v hv => ?_) he'⟩
    unfold z_wv at hv ⊢
    rw [ho p' e i, hl]
    exact hv
theorem z_wd_at {G : List zC} {cA : Nat → ClassId} {ov : zO} {ad : Nat → Nat} {b : Nat → Nat} {ρ : Nat → Int} {ws : va_W} {p : Nat} {g : zC} (hw : z_wd G cA ov ad b ρ ws) (hp : p < ov.length) (hg : G[p]? = some g) : ∃ e0, ws[p]? = some (ad p, e0) ∧ z_en cA g (z_wv g ov ad b ρ p) e0 := by
  have hp' : p < ws.length := by rw [hw.1]; exact hp
  obtain ⟨q, hq⟩ : ∃ q, ws[p]? = some q := ⟨_, List.getElem?_eq_getElem hp'⟩
  obtain ⟨h1, g', hg', he⟩ := hw.2 p q hq
  cases hg.symm.trans hg'
  obtain ⟨a, e0⟩ := q
  dsimp only at h1
  subst h1
  exact ⟨e0, hq, he⟩
section ZST5
variable {p : Program} {l : Launch} {e : Env} {R : Room} {s : State} {m : MethodId} {args : Array Value} {below : List Frame} {meth : Method} {c : Code} {Q : State → Prop} {D : va_G} {cl : List vw_C} {A : Nat → Prop} {cA : Nat → ClassId} {G : List zC} {b : Nat → Nat} {sl : Nat} {xs : Nat → Int32} {fl : Bool} {h0 : Heap} {nL : Nat} {cc : ByteArray} {pc : Nat}
variable {Ts : List Jvm.Cond} {zN : List String} {FL : List (List (Nat × Nat × Nat))} {tys : List (ClassId × FieldType)} {tyl : List FieldType} {own : String} {cn : Nat}
theorem z_gm.ov {iv iv' : zI} {lv : zL} {sk r : List zV} {ov ov' : zO} {ρ : Nat → Int} {ad : Nat → Nat} {ws ws' : va_W} {H H' : Heap} {locs locs' : List Loc} {ls : Array Slot} (h : z_gm D cl A cA G b sl xs fl h0 nL iv lv sk ov ρ ad ws H locs ls) (hiv : ziv iv' ρ) (hli : iv'.length = iv.length) (hl : ov'.length = ov.length) (hk : ∀ (p9 i9 : Nat) (w : zV), z_lk ov' p9 i9 = some w → zok ov.length iv ρ w) (hs : ∀ w ∈ r, zok ov.length iv ρ w) (hw : z_wd G cA ov' ad b ρ ws') (hP : va_P D cl ws' H') (hD : va_D A ws') (hS : va_S A h0 H' locs') : z_gm D cl A cA G b sl xs fl h0 nL iv' lv r ov' ρ ad ws' H' locs' ls :=
  ⟨⟨hiv, fun q hq => by rw [hl]; exact z_okrf (h.1.2.1 q hq) hli, fun w hw => by rw [hl]; exact z_okrf (hs w hw) hli, fun r hr w hw => by rw [hl]; exact z_okrf (hk r hr w hw) hli⟩, h.2.1, hw, hP, hD, hS, h.2.2.2.2.2.2.1, by rw [hli]; exact h.2.2.2.2.2.2.2⟩
/-! fields -/
def z_get (G : List zC) (FL : List (List (Nat × Nat × Nat))) (cn idx : Nat) (st : zS) : zR := match st with
  | (cu, su, iv, lv, x :: r, ov) => if x.1 = 2 then (match z_fl FL cn idx, G[x.2.1]? with
    | some (ci, f), some g => if g.1 = 0 ∧ g.2.1 = ci ∧ f < g.2.2.length then (match z_lk ov x.2.1 f with
      | some v => some [(none, (cu, su, iv, lv, v :: r, ov))]
      | none => none) else none
    | _, _ => none) else none
  | _ => none
theorem zs_get (hx : p.tables.exec = Jvm.exec) (hb : c.code = cc) (hts : ∀ w ∈ Ts, w.before args s = true) (hK : va_K D cl tys s) (hown : s.vm.findClass own = some m.cls) (hN : zN[cn]? = some own) (hC : zClsOk cl zN Ts) (hF : zFLOk cl zN FL Ts) {idx : Nat} {st : zS} {ss : List (Option Nat × zS)} (hd : decode cc pc = .ok (.getfield idx, 3)) (h : z_get G FL cn idx st = some ss) : zSt p l e R s m args below meth c Q D cl A cA G b sl xs fl h0 nL pc 3 st ss := by
  obtain ⟨cu, su, iv, lv, sk, ov⟩ := st
  unfold z_get at h
  rcases sk with _ | ⟨x, r⟩
  · cases h
  dsimp only at h
  split at h
  next hk =>
    split at h
    next ci f g hf hg =>
      split at h
      next hc =>
        split at h
        next v hv =>
          cases h
          obtain ⟨hc1, hc2, hc3⟩ := hc
          intro ρ ad ws H locs ls hgm kk
          have hxo : x.2.1 < ov.length := by
            have := hgm.1.2.2.1 x List.mem_cons_self
            unfold zok at this; rw [hk] at this; exact this
          obtain ⟨e0, hq, he⟩ := z_wd_at hgm.2.2.1 hxo hg
          unfold z_en at he
          rw [hc1] at he
          obtain ⟨fs, rfl, hl, hvs⟩ := he
          obtain ⟨C, T, N, hcl, hfN, hlink⟩ := hF cn idx ci f own hf hN
          obtain ⟨v0, hv0⟩ : ∃ v0, fs[f]? = some v0 := ⟨_, List.getElem?_eq_getElem (by rw [hl]; exact hc3)⟩
          have hw := hvs f v0 hv0
          unfold z_wv at hw
          rw [hv] at hw
          dsimp only at hw
          replace hw := hw.2
          rw [hc2] at hq
          show W p l e R s m args below meth c H locs cu su Q (F0 m pc ls (zcv ad b ρ x :: r.map (zcv ad b ρ)))
          rw [z_cv2 hk]
          refine va_get hx hb hts (hC ci C T N hcl).2.1 hown hK hgm.2.2.2.1 x.2.1 hq hcl f hfN (hts _ hlink) (fun _ h9 => h9) hv0 hd ?_
          rw [hw]
          exact kk _ (List.mem_singleton.mpr rfl) ρ ad ws H locs ls ⟨fun _ _ => rfl, fun _ _ => rfl, Nat.le_refl _, Nat.le_refl _⟩ (hgm.mv (fun _ _ => rfl) (Nat.le_refl _) hgm.1.1 (fun w hw => (List.mem_cons.mp hw).elim (fun q => by rw [q]; exact hgm.1.2.2.2 _ _ v hv) (fun q => hgm.1.2.2.1 w (List.mem_cons_of_mem _ q))))
        next => cases h
      next => cases h
    next => cases h
  next => cases h
def z_fin? (cl : List vw_C) (ci f : Nat) : Bool := match cl[ci]? with
  | some q => (q.2.1 f).2.2.2
  | none => true
def z_pk (k v : Nat) : Bool := match k with
  | 0 => Nat.beq v 0
  | 1 => Nat.beq v 1
  | 2 => Nat.beq v 2 || Nat.beq v 3
  | _ => false
def z_putf (cl : List vw_C) (G : List zC) (FL : List (List (Nat × Nat × Nat))) (cn : Nat) (ini : Bool) (idx : Nat) (st : zS) : zR := match st with
  | (cu, su, iv, lv, v :: x :: r, ov) => if x.1 = 2 then (match z_fl FL cn idx, G[x.2.1]? with
    | some (ci, f), some g => if g.1 = 0 ∧ g.2.1 = ci ∧ (z_fin? cl ci f = false ∨ (ini = true ∧ ci = cn)) then (match g.2.2[f]? with
      | some sp => if z_pk sp.1 v.1 && z_kq iv ov.length (z_sp g f) v then (match z_sw ov x.2.1 f v with
        | some ov' => some [(none, (cu, su, iv, lv, r, ov'))]
        | none => none) else none
      | none => none) else none
    | _, _ => none) else none
  | _ => none
theorem z_pk_ok {k : Nat} {v : zV} {ty : FieldType} (h : z_pk k v.1 = true) (ht : z_tyk ty = k) (ad : Nat → Nat) (b : Nat → Nat) (ρ : Nat → Int) : narrow ty (zcv ad b ρ v) = zcv ad b ρ v ∧ fits ty (zcv ad b ρ v) = true := by
  obtain ⟨kv, s, o⟩ := v
  dsimp only at h
  unfold z_tyk at ht
  split at ht
  · subst ht
    have e : kv = 0 := Nat.eq_of_beq_eq_true h
    subst e; exact ⟨rfl, rfl⟩
  · subst ht
    have e : kv = 1 := Nat.eq_of_beq_eq_true h
    subst e; exact ⟨rfl, rfl⟩
  · subst ht
    rcases Bool.or_eq_true _ _ ▸ (show (Nat.beq kv 2 || Nat.beq kv 3) = true from h) with q | q
    · have e : kv = 2 := Nat.eq_of_beq_eq_true q
      subst e; exact ⟨rfl, rfl⟩
    · have e : kv = 3 := Nat.eq_of_beq_eq_true q
      subst e; exact ⟨rfl, rfl⟩
  · subst ht
    rcases Bool.or_eq_true _ _ ▸ (show (Nat.beq kv 2 || Nat.beq kv 3) = true from h) with q | q
    · have e : kv = 2 := Nat.eq_of_beq_eq_true q
      subst e; exact ⟨rfl, rfl⟩
    · have e : kv = 3 := Nat.eq_of_beq_eq_true q
      subst e; exact ⟨rfl, rfl⟩
  · subst ht; cases h
theorem zs_putf (hx : p.tables.exec = Jvm.exec) (hb : c.code = cc) (hts : ∀ w ∈ Ts, w.before args s = true) (hK : va_K D cl tys s) (hown : s.vm.findClass own = some m.cls) (hN : zN[cn]? = some own) (hC : zClsOk cl zN Ts) (hG : zGOk cl G) (hF : zFLOk cl zN FL Ts) {ini : Bool} (hin : ini = true → meth.name = "<init>") {idx : Nat} {st : zS} {ss : List (Option Nat × zS)} (hd : decode cc pc = .ok (.putfield idx, 3)) (h : z_putf cl G FL cn ini idx st = some ss) : zSt p l e R s m args below meth c Q D cl A cA G b sl xs fl h0 nL pc 3 st ss := by
  obtain ⟨cu, su, iv, lv, sk, ov⟩ := st
  unfold z_putf at h
  rcases sk with _ | ⟨v, _ | ⟨x, r⟩⟩
  · cases h
  · cases h
  dsimp only at h
  split at h
  next hk =>
    split at h
    next ci f g hf hg =>
      split at h
      next hc =>
        split at h
        next sp hsp =>
          split at h
          next hpk0 =>
            rw [Bool.and_eq_true] at hpk0
            obtain ⟨hpk, hkq⟩ := hpk0
            split at h
            next ov' hov =>
              cases h
              obtain ⟨hc1, hc2, hc3⟩ := hc
              intro ρ ad ws H locs ls hgm kk
              have hxo : x.2.1 < ov.length := by
                have := hgm.1.2.2.1 x (List.mem_cons_of_mem _ List.mem_cons_self)
                unfold zok at this; rw [hk] at this; exact this
              obtain ⟨e0, hq, he⟩ := z_wd_at hgm.2.2.1 hxo hg
              unfold z_en at he
              rw [hc1] at he
              obtain ⟨fs, rfl, hl, hvs⟩ := he
              obtain ⟨C, T, N, hcl, hfN, hlink⟩ := hF cn idx ci f own hf hN
              obtain ⟨C2, T2, N2, hcl2, hl2, hty2⟩ := hG x.2.1 g hg hc1
              rw [hc2] at hq hcl2
              cases hcl.symm.trans hcl2
              obtain ⟨ty, hty, htk⟩ := hty2 f sp hsp
              obtain ⟨hNC, hin2, ⟨ty0, hty0⟩, hnm, hdecl⟩ := hC ci C T N hcl
              have hnf := z_pk_ok hpk htk ad b ρ
              obtain ⟨o1, o2, o3, o4⟩ := z_sw_ok hov
              have hfl : f < fs.length := by rw [hl]; exact (List.getElem?_eq_some_iff.mp hsp).1
              show W p l e R s m args below meth c H locs cu su Q (F0 m pc ls (zcv ad b ρ v :: zcv ad b ρ x :: r.map (zcv ad b ρ)))
              rw [z_cv2 hk]
              have fin : ∀ (H1 : Heap) (locs1 : List Loc), va_P D cl (ws.set x.2.1 (ad x.2.1, .inr (ci, fs.set f (zcv ad b ρ v)))) H1 → va_D A (ws.set x.2.1 (ad x.2.1, .inr (ci, fs.set f (zcv ad b ρ v)))) → va_S A h0 H1 locs1 → W p l e R s m args below meth c H1 locs1 cu su Q (F0 m (pc + 3) ls (r.map (zcv ad b ρ))) := by
                intro H1 locs1 hP1 hD1 hS1
                refine kk _ (List.mem_singleton.mpr rfl) ρ ad _ H1 locs1 ls ⟨fun _ _ => rfl, fun _ _ => rfl, Nat.le_refl _, Nat.le_of_eq o1.symm⟩ (hgm.ov hgm.1.1 rfl o1 (fun r' hr' w hw => ?_) (fun w hw => hgm.1.2.2.1 w (List.mem_cons_of_mem _ (List.mem_cons_of_mem _ hw))) ?_ hP1 hD1 hS1)
                · rcases o4 r' hr' w hw with q | q2
                  · subst q; exact hgm.1.2.2.1 _ List.mem_cons_self
                  · exact hgm.1.2.2.2 _ _ w q2
                · refine z_wd_upd hgm.2.2.1 hq hg o1 (fun p' hp' i => o3 p' i (fun q => hp' q.1)) ?_
                  unfold z_en
                  rw [hc1]
                  refine ⟨_, by rw [hc2], by rw [List.length_set]; exact hl, fun i w hw => ?_⟩
                  unfold z_wv
                  by_cases ei : i = f
                  · subst ei
                    rw [List.getElem?_set_self hfl] at hw
                    cases hw
                    refine ⟨?_, by rw [o2]⟩
                    rw [o1]
                    exact z_kq_ok hgm.1.1 (hgm.1.2.2.1 v List.mem_cons_self) hkq
                  · rw [List.getElem?_set_ne (fun q => ei q.symm)] at hw
                    rw [o3 x.2.1 i (fun q => ei q.2), o1]
                    exact hvs i w hw
              by_cases hfin : (T f).2.2.2 = false
              · exact va_put hx hb hts hin2 ty0 hty0 hnm hown hK hgm.2.2.2.1 hgm.2.2.2.2.1 hgm.2.2.2.2.2.1 x.2.1 hq hcl f hfN (hts _ hlink) (fun _ h9 => h9) hfin hty hnf.1 hnf.2 hfl hd fin
              · have hft : (T f).2.2.2 = true := by
                  cases hb9 : (T f).2.2.2
                  · exact absurd hb9 hfin
                  · rfl
                have hz : ini = true ∧ ci = cn := by
                  rcases hc3 with q | q
                  · unfold z_fin? at q
                    rw [hcl] at q
                    exact absurd q hfin
                  · exact q
                have hoC : C = own := by
                  have := hNC
                  rw [hz.2, hN] at this
                  exact (Option.some.inj this).symm
                exact va_putF hx hb hts hin2 ty0 hty0 hnm hown hK hgm.2.2.2.1 hgm.2.2.2.2.1 hgm.2.2.2.2.2.1 x.2.1 hq hcl f hfN (hts _ hlink) (fun _ h9 => h9) hft (hin hz.1) (by rw [hdecl f hfN]; exact hoC) hty hnf.1 hnf.2 hfl hd fin
            next => cases h
          next => cases h
        next => cases h
      next => cases h
    next => cases h
  next => cases h
end ZST5
