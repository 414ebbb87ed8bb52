section ZST5
variable {p : Program} {l : Launch} {e : Env} {R : Room} {s : State} {m : MethodId} {args : Array Value} {below : List Frame} {meth : Method} {c : Code} {Q : State → Prop} {D : va_G} {cl : List vw_C} {A : Nat → Prop} {cA : Nat → ClassId} {G : List zC} {b : Nat → Nat} {sl : Nat} {xs : Nat → Int32} {fl : zFl} {h0 : Heap} {nL : Nat} {cc : ByteArray} {pc : Nat}
variable {Ts : List Jvm.Cond} {zN : List String} {FL : List (List (Nat × Nat × Nat))} {tys : List (ClassId × FieldType)} {tyl : List FieldType} {own : String} {cn : Nat}
/-! fields -/
def z_get (G : List zC) (FL : List (List (Nat × Nat × Nat))) (cn idx : Nat) (st : zS) : zR := match st with
  | (cu, su, iv, lv, x :: r, ov) => if x.1 = 2 then (match z_fl FL cn idx, G[x.2.1]? with
    | some (ci, f), some g => if g.1 = 0 ∧ g.2.1 = ci ∧ f < g.2.2.length then (match z_fc G x.2.1 f iv ov with
      | (iv', ov') => (match z_lk ov' x.2.1 f with
        | some v => some [(none, (cu, su, iv', lv, v :: r, ov'))]
        | none => none)) else none
    | _, _ => none) else none
  | _ => none
theorem zs_get (hx : p.tables.exec = Jvm.exec) (hb : c.code = cc) (hts : ∀ w ∈ Ts, w.before args s = true) (hK : va_K D cl tys s) (hown : s.vm.findClass own = some m.cls) (hN : zN[cn]? = some own) (hC : zClsOk cl zN Ts) (hF : zFLOk cl zN FL Ts) {idx : Nat} {st : zS} {ss : List (Option Nat × zS)} (hd : decode cc pc = .ok (.getfield idx, 3)) (h : z_get G FL cn idx st = some ss) : zSt p l e R s m args below meth c Q D cl A cA G b sl xs fl h0 nL pc 3 st ss := by
  obtain ⟨cu, su, iv, lv, sk, ov⟩ := st
  unfold z_get at h
  rcases sk with _ | ⟨x, r⟩
  · cases h
  dsimp only at h
  split at h
  next hk =>
    split at h
    next ci f g hf hg =>
      split at h
      next hc =>
        intro ρ0 ad ws H locs ls hgm0 kk
        obtain ⟨ρ, w1, w2, w3, hgm⟩ := z_fc_ok x.2.1 f hgm0
        cases hz : z_fc G x.2.1 f iv ov with
        | mk iv' ov' =>
          rw [hz] at h hgm w2 w3
          dsimp only at h hgm w2 w3
          split at h
          next v hv =>
            cases h
            obtain ⟨hc1, hc2, hc3⟩ := hc
            have hxo : x.2.1 < ov'.length := by
              have := hgm.1.2.2.1 x List.mem_cons_self
              unfold zok at this; rw [hk] at this; exact this
            obtain ⟨e0, hq, he⟩ := z_wd_at hgm.2.2.1 hxo hg
            unfold z_en at he
            rw [hc1] at he
            obtain ⟨fs, rfl, hl, hvs⟩ := he
            obtain ⟨C, T, N, hcl, hfN, hlink⟩ := hF cn idx ci f own hf hN
            obtain ⟨v0, hv0⟩ : ∃ v0, fs[f]? = some v0 := ⟨_, List.getElem?_eq_getElem (by rw [hl]; exact hc3)⟩
            have hw := hvs f v0 hv0
            unfold z_wv at hw
            rw [hv] at hw
            dsimp only at hw
            replace hw := hw.2
            rw [hc2] at hq
            show W p l e R s m args below meth c H locs cu su Q (F0 m pc ls ((x :: r).map (zcv ad b ρ0)))
            rw [← z_skm hgm0.1.2.2.1 w1 (fun _ _ => rfl)]
            show W p l e R s m args below meth c H locs cu su Q (F0 m pc ls (zcv ad b ρ x :: r.map (zcv ad b ρ)))
            rw [z_cv2 hk]
            refine va_get hx hb hts (hC ci C T N hcl).2.1 hown hK hgm.2.2.2.1 x.2.1 hq hcl f hfN (hts _ hlink) (fun _ h9 => h9) hv0 hd ?_
            rw [hw]
            exact kk _ (List.mem_singleton.mpr rfl) ρ ad ws H locs ls ⟨w1, fun _ _ => rfl, w2, Nat.le_of_eq w3.symm⟩ (hgm.mv (fun _ _ => rfl) (Nat.le_refl _) hgm.1.1 (fun w hw => (List.mem_cons.mp hw).elim (fun q => by rw [q]; exact hgm.1.2.2.2 _ _ v hv) (fun q => hgm.1.2.2.1 w (List.mem_cons_of_mem _ q))))
          next => cases h
      next => cases h
    next => cases h
  next => cases h
def z_fin? (cl : List vw_C) (ci f : Nat) : Bool := match cl[ci]? with
  | some q => (q.2.1 f).2.2.2
  | none => true
def z_pk (k v : Nat) : Bool := match k with
  | 0 => Nat.beq v 0
  | 1 => Nat.beq v 1
  | 2 => Nat.beq v 2 || Nat.beq v 3
  | _ => false
def z_putf (K : List (Nat × Nat)) (cl : List vw_C) (G : List zC) (FL : List (List (Nat × Nat × Nat))) (cn : Nat) (ini : Bool) (idx : Nat) (st : zS) : zR := match st with
  | (cu, su, iv, lv, v :: x :: r, ov) => if x.1 = 2 then (match z_fl FL cn idx, G[x.2.1]? with
    | some (ci, f), some g => if g.1 = 0 ∧ g.2.1 = ci ∧ (z_fin? cl ci f = false ∨ (ini = true ∧ ci = cn)) then (match g.2.2[f]? with
      | some sp => if z_pk (z_skd sp.1) v.1 && (z_kq iv ov.length (z_sp g f) v && !z_ink K x.2.1) then some [(none, (cu, su, iv, lv, r, z_wr ov x.2.1 f v))] else none
      | none => none) else none
    | _, _ => none) else none
  | _ => none
theorem z_pk_ok {k : Nat} {v : zV} {ty : FieldType} (h : z_pk k v.1 = true) (ht : z_tyk ty = k) (ad : Nat → Nat) (b : Nat → Nat) (ρ : Nat → Int) : narrow ty (zcv ad b ρ v) = zcv ad b ρ v ∧ fits ty (zcv ad b ρ v) = true := by
  obtain ⟨kv, s, o⟩ := v
  dsimp only at h
  unfold z_tyk at ht
  split at ht
  · subst ht
    have e : kv = 0 := Nat.eq_of_beq_eq_true h
    subst e; exact ⟨rfl, rfl⟩
  · subst ht
    have e : kv = 1 := Nat.eq_of_beq_eq_true h
    subst e; exact ⟨rfl, rfl⟩
  · subst ht
    rcases Bool.or_eq_true _ _ ▸ (show (Nat.beq kv 2 || Nat.beq kv 3) = true from h) with q | q
    · have e : kv = 2 := Nat.eq_of_beq_eq_true q
      subst e; exact ⟨rfl, rfl⟩
    · have e : kv = 3 := Nat.eq_of_beq_eq_true q
      subst e; exact ⟨rfl, rfl⟩
  · subst ht
    rcases Bool.or_eq_true _ _ ▸ (show (Nat.beq kv 2 || Nat.beq kv 3) = true from h) with q | q
    · have e : kv = 2 := Nat.eq_of_beq_eq_true q
      subst e; exact ⟨rfl, rfl⟩
    · have e : kv = 3 := Nat.eq_of_beq_eq_true q
      subst e; exact ⟨rfl, rfl⟩
  · subst ht; cases h
theorem zs_putf (hx : p.tables.exec = Jvm.exec) (hb : c.code = cc) (hts : ∀ w ∈ Ts, w.before args s = true) (hK : va_K D cl tys s) (hown : s.vm.findClass own = some m.cls) (hN : zN[cn]? = some own) (hC : zClsOk cl zN Ts) (hG : zGOk cl G) (hF : zFLOk cl zN FL Ts) {ini : Bool} (hin : ini = true → meth.name = "<init>") {idx : Nat} {st : zS} {ss : List (Option Nat × zS)} (hd : decode cc pc = .ok (.putfield idx, 3)) (h : z_putf fl.2.1 cl G FL cn ini idx st = some ss) : zSt p l e R s m args below meth c Q D cl A cA G b sl xs fl h0 nL pc 3 st ss := by
  obtain ⟨cu, su, iv, lv, sk, ov⟩ := st
  unfold z_putf at h
  rcases sk with _ | ⟨v, _ | ⟨x, r⟩⟩
  · cases h
  · cases h
  dsimp only at h
  split at h
  next hk =>
    split at h
    next ci f g hf hg =>
      split at h
      next hc =>
        split at h
        next sp hsp =>
          split at h
          next hpk0 =>
            rw [Bool.and_eq_true, Bool.and_eq_true] at hpk0
            obtain ⟨hpk, hkq, hkk⟩ := hpk0
            have hkk : z_ink fl.2.1 x.2.1 = false := by
              cases hz : z_ink fl.2.1 x.2.1
              · rfl
              · rw [hz] at hkk; cases hkk
            cases h
            obtain ⟨hc1, hc2, hc3⟩ := hc
            intro ρ ad ws H locs ls hgm kk
            have hxo : x.2.1 < ov.length := by
              have := hgm.1.2.2.1 x (List.mem_cons_of_mem _ List.mem_cons_self)
              unfold zok at this; rw [hk] at this; exact this
            obtain ⟨e0, hq, he⟩ := z_wd_at hgm.2.2.1 hxo hg
            unfold z_en at he
            rw [hc1] at he
            obtain ⟨fs, rfl, hl, hvs⟩ := he
            obtain ⟨C, T, N, hcl, hfN, hlink⟩ := hF cn idx ci f own hf hN
            obtain ⟨C2, T2, N2, hcl2, hl2, hty2⟩ := hG x.2.1 g hg hc1
            rw [hc2] at hq hcl2
            cases hcl.symm.trans hcl2
            obtain ⟨ty, hty, htk⟩ := hty2 f sp hsp
            obtain ⟨hNC, hin2, ⟨ty0, hty0⟩, hnm, hdecl⟩ := hC ci C T N hcl
            have hnf := z_pk_ok hpk htk ad b ρ
            have hfg := z_wr_fg (v := v) (i := f) hxo
            have hfl : f < fs.length := by rw [hl]; exact (List.getElem?_eq_some_iff.mp hsp).1
            show W p l e R s m args below meth c H locs cu su Q (F0 m pc ls (zcv ad b ρ v :: zcv ad b ρ x :: r.map (zcv ad b ρ)))
            rw [z_cv2 hk]
            have fin : ∀ (H1 : Heap) (locs1 : List Loc), va_P D cl (ws.set x.2.1 (ad x.2.1, .inr (ci, fs.set f (zcv ad b ρ v)))) H1 → va_D A (ws.set x.2.1 (ad x.2.1, .inr (ci, fs.set f (zcv ad b ρ v)))) → va_S A h0 H1 locs1 → W p l e R s m args below meth c H1 locs1 cu su Q (F0 m (pc + 3) ls (r.map (zcv ad b ρ))) := by
              intro H1 locs1 hP1 hD1 hS1
              refine kk _ (List.mem_singleton.mpr rfl) ρ ad _ H1 locs1 ls ⟨fun _ _ => rfl, fun _ _ => rfl, Nat.le_refl _, Nat.le_of_eq hfg.1.symm⟩ (hgm.ov hgm.1.1 rfl hfg.1 (fun r' hr' w hw => ?_) (fun w hw => hgm.1.2.2.1 w (List.mem_cons_of_mem _ (List.mem_cons_of_mem _ hw))) ?_ hP1 hD1 hS1 hfg.2.1 (zKp.set hgm.2.2.2.2.2.2.2.2.2 hkk))
              · rcases hfg.ok r' hr' w hw with q | q2
                · subst q; exact hgm.1.2.2.1 _ List.mem_cons_self
                · exact hgm.1.2.2.2 _ _ w q2
              · refine z_wd_upd hgm.2.2.1 hq hg hfg.1 (fun p' hp' i => hfg.2.2.2 p' i (fun q => hp' q.1)) ?_
                unfold z_en
                rw [hc1]
                refine ⟨_, by rw [hc2], by rw [List.length_set]; exact hl, fun i w hw => ?_⟩
                by_cases ei : i = f
                · subst ei
                  rw [List.getElem?_set_self hfl] at hw
                  cases hw
                  exact z_wv_at hfg.1 (z_kq_ok hgm.1.1 (hgm.1.2.2.1 v List.mem_cons_self) hkq) hfg.2.2.1
                · rw [List.getElem?_set_ne (fun q => ei q.symm)] at hw
                  exact z_wv_or (hvs i w hw) hfg.1 (hfg.2.2.2 x.2.1 i (fun q => ei q.2))
            by_cases hfin : (T f).2.2.2 = false
            · exact va_put hx hb hts hin2 ty0 hty0 hnm hown hK hgm.2.2.2.1 hgm.2.2.2.2.1 hgm.2.2.2.2.2.1 x.2.1 hq hcl f hfN (hts _ hlink) (fun _ h9 => h9) hfin hty hnf.1 hnf.2 hfl hd fin
            · have hft : (T f).2.2.2 = true := by
                cases hb9 : (T f).2.2.2
                · exact absurd hb9 hfin
                · rfl
              have hz : ini = true ∧ ci = cn := by
                rcases hc3 with q | q
                · unfold z_fin? at q
                  rw [hcl] at q
                  exact absurd q hfin
                · exact q
              have hoC : C = own := by
                have := hNC
                rw [hz.2, hN] at this
                exact (Option.some.inj this).symm
              exact va_putF hx hb hts hin2 ty0 hty0 hnm hown hK hgm.2.2.2.1 hgm.2.2.2.2.1 hgm.2.2.2.2.2.1 x.2.1 hq hcl f hfN (hts _ hlink) (fun _ h9 => h9) hft (hin hz.1) (by rw [hdecl f hfN]; exact hoC) hty hnf.1 hnf.2 hfl hd fin
          next => cases h
        next => cases h
      next => cases h
    next => cases h
  next => cases h
end ZST5
