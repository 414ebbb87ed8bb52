/-! ===== stores into arrays ===== -/
/-- kv: the kind of what is stored; vl, vh: its bounds by the tag -/
def z_ast (K : List (Nat × Nat)) (tg : Nat → Bool) (kv : Nat) (vl vh : Nat → Int) (G : List zC) (st : zS) : zR := match st with
  | (cu, su, iv, lv, v :: x :: a :: r, ov) => if v.1 = kv ∧ x.1 = 0 ∧ a.1 = 2 then (match G[a.2.1]?, z_bd iv v with
    | some g, some w => (match z_ixb iv x (g.2.1 : Int) with
      | some q => if tg g.1 = true ∧ vl g.1 ≤ w.1 ∧ w.2 ≤ vh g.1 ∧ z_kqa iv ov.length g v q.1.toNat (q.2 - q.1).toNat = true ∧ z_ink K a.2.1 = false then some [(none, (cu, su, iv, lv, r, z_wx ov a.2.1 q v))] else none
      | none => none)
    | _, _ => none) else none
  | _ => none
section ZST7
variable {p : Program} {l : Launch} {e : Env} {R : Room} {s : State} {m : MethodId} {args : Array Value} {below : List Frame} {meth : Method} {c : Code} {Q : State → Prop} {D : va_G} {cl : List vw_C} {A : Nat → Prop} {cA : Nat → ClassId} {G : List zC} {b : Nat → Nat} {sl : Nat} {xs : Nat → Int32} {fl : zFl} {h0 : Heap} {nL : Nat} {cc : ByteArray} {pc : Nat}
variable {Ts : List Jvm.Cond} {zN : List String} {FL : List (List (Nat × Nat × Nat))} {tys : List (ClassId × FieldType)} {tyl : List FieldType} {own : String} {cn : Nat}
theorem zs_ast {tg : Nat → Bool} {kv : Nat} {vl vh : Nat → Int} {st : zS} {ss : List (Option Nat × zS)} (h : z_ast fl.2.1 tg kv vl vh G st = some ss)
    (hr : ∀ (g : zC) (F : Nat → Value → Prop) (a q0 : Nat) (e0 : va_E) (ws : va_W) (j : Int32) (V : Value) (z : Int) (H : Heap) (locs : List Loc) (cells slots : Nat) (ls : Array Slot) (rest : List Value), tg g.1 = true → z_en cA g F e0 → va_P D cl ws H → va_D A ws → va_S A h0 H locs → ws[q0]? = some (a, e0) → vp_in j g.2.1 → (kv = 0 → V = .int (Int32.ofInt z) ∧ -2147483648 ≤ z ∧ z ≤ 2147483647) → (kv = 1 → V = .long (Int64.ofInt z)) → vl g.1 ≤ z → z ≤ vh g.1 →
      (∀ (e1 : va_E) (H1 : Heap) (locs1 : List Loc), (∀ F' : Nat → Value → Prop, F' j.toNatClampNeg V → (∀ i v, i ≠ j.toNatClampNeg → F i v → F' i v) → z_en cA g F' e1) → va_P D cl (ws.set q0 (a, e1)) H1 → va_D A (ws.set q0 (a, e1)) → va_S A h0 H1 locs1 → W p l e R s m args below meth c H1 locs1 cells slots Q (F0 m (pc + 1) ls rest)) → W p l e R s m args below meth c H locs cells slots Q (F0 m pc ls (V :: .int j :: .ref a :: rest))) : zSt p l e R s m args below meth c Q D cl A cA G b sl xs fl h0 nL pc 1 st ss := by
  obtain ⟨cu, su, iv, lv, sk, ov⟩ := st
  unfold z_ast at h
  rcases sk with _ | ⟨v, _ | ⟨x, _ | ⟨a, r⟩⟩⟩
  · cases h
  · cases h
  · cases h
  dsimp only at h
  split at h
  next hk =>
    obtain ⟨hkv1, hkx, hka⟩ := hk
    split at h
    next g w hg hw =>
      split at h
      next q hq =>
        split at h
        next hc =>
          obtain ⟨hc1, hc4, hc5, hc6, hc7⟩ := hc
          cases h
          intro ρ ad ws H locs ls hgm kk
          have hxo : a.2.1 < ov.length := by
            have := hgm.1.2.2.1 a (List.mem_cons_of_mem _ (List.mem_cons_of_mem _ List.mem_cons_self))
            unfold zok at this; rw [hka] at this; exact this
          have ox := z_ok0 (hgm.1.2.2.1 x (List.mem_cons_of_mem _ List.mem_cons_self)) hkx
          have ov0 := hgm.1.2.2.1 v List.mem_cons_self
          obtain ⟨b1, b2, b3, b4, b5⟩ := z_ixb_ok hgm.1.1 hq
          have hb2 := z_bd_ok hw hgm.1.1
          obtain ⟨hvi, hcl⟩ := z_vin (z := z_val ρ x) (n := g.2.1) (by omega) (by omega) ox.2.2
          obtain ⟨e0, hqw, he⟩ := z_wd_at hgm.2.2.1 hxo hg
          have hrr : ∀ w ∈ r, zok ov.length iv ρ w := fun w hw => hgm.1.2.2.1 w (List.mem_cons_of_mem _ (List.mem_cons_of_mem _ (List.mem_cons_of_mem _ hw)))
          show W p l e R s m args below meth c H locs cu su Q (F0 m pc ls (zcv ad b ρ v :: zcv ad b ρ x :: zcv ad b ρ a :: r.map (zcv ad b ρ)))
          rw [z_cv0 hkx, z_cv2 hka]
          refine hr g _ (ad a.2.1) a.2.1 e0 ws _ _ (z_val ρ v) H locs cu su ls _ hc1 he hgm.2.2.2.1 hgm.2.2.2.2.1 hgm.2.2.2.2.2.1 hqw hvi (fun e => ?_) (fun e => ?_) (by omega) (by omega) (fun e1 H1 locs1 hen hP1 hD1 hS1 => ?_)
          · rw [e] at hkv1
            exact ⟨z_cv0 hkv1 ad b ρ, (z_ok0 ov0 hkv1).2⟩
          · rw [e] at hkv1
            exact z_cv1 hkv1 ad b ρ
          rw [hcl] at hen
          have hkq := z_kqa_ok hc6 (z_val ρ x).toNat (by omega) (by omega)
          have hfg := z_wx_fg (v := v) hxo b1 b2 b3
          refine kk _ (List.mem_singleton.mpr rfl) ρ ad _ H1 locs1 ls ⟨fun _ _ => rfl, fun _ _ => rfl, Nat.le_refl _, Nat.le_of_eq hfg.1.symm⟩ (hgm.ov hgm.1.1 rfl hfg.1 (fun r' hr' w hw => ?_) hrr ?_ hP1 hD1 hS1 hfg.2.1 (zKp.set hgm.2.2.2.2.2.2.2.2.2 hc7))
          · rcases hfg.ok r' hr' w hw with q9 | q2
            · subst q9; exact ov0
            · exact hgm.1.2.2.2 _ _ w q2
          · refine z_wd_upd hgm.2.2.1 hqw hg hfg.1 (fun p' hp' i => hfg.2.2.2 p' i (fun q => hp' q.1)) (hen _ ?_ (fun i v' hi' hv' => ?_))
            · exact z_wv_at hfg.1 (z_kq_ok hgm.1.1 ov0 hkq) hfg.2.2.1
            · exact z_wv_or hv' hfg.1 (hfg.2.2.2 a.2.1 i (fun q => hi' q.2))
        next => cases h
      next => cases h
    next => cases h
  next => cases h
theorem z_upd {F F' : Nat → Value → Prop} {f : Nat → Int32} {n k : Nat} {y : Int32} (hf : ∀ j, j < n → F j (.int (f j))) (h1 : F' k (.int y)) (h2 : ∀ i v, i ≠ k → F i v → F' i v) : ∀ j, j < n → F' j (.int (upd f k y j)) := by
  intro j hj
  by_cases ej : j = k
  · subst ej; rw [pk_us]; exact h1
  · rw [pk_un ej]; exact h2 j _ ej (hf j hj)
theorem z_updL {F F' : Nat → Value → Prop} {f : Nat → Int64} {n k : Nat} {y : Int64} (hf : ∀ j, j < n → F j (.long (f j))) (h1 : F' k (.long y)) (h2 : ∀ i v, i ≠ k → F i v → F' i v) : ∀ j, j < n → F' j (.long (vp_updL f k y j)) := by
  intro j hj
  by_cases ej : j = k
  · subst ej; rw [pk_uLs]; exact h1
  · rw [pk_uLn ej]; exact h2 j _ ej (hf j hj)
def z_vl (t : Nat) : Int := if t = 3 then -128 else if t = 4 then 0 else -2147483648
def z_vh (t : Nat) : Int := if t = 3 then 127 else if t = 4 then 1 else 2147483647
theorem zs_iast (hx : p.tables.exec = Jvm.exec) (hb : c.code = cc) (hK : va_K D cl tys s) (hT : zTyOk cA tyl tys) {st : zS} {ss : List (Option Nat × zS)} (hd : decode cc pc = .ok (.iastore, 1)) (h : z_ast fl.2.1 z_t1 0 z_vl z_vh G st = some ss) : zSt p l e R s m args below meth c Q D cl A cA G b sl xs fl h0 nL pc 1 st ss := by
  refine zs_ast h (fun g F a q0 e0 ws j V z H locs cells slots ls rest ht he hP hD hS hq hin hV _ _ _ k => ?_)
  have hg1 : g.1 = 1 := Nat.eq_of_beq_eq_true ht
  obtain ⟨f, rfl, hf⟩ := z_en1 hg1 he
  obtain ⟨rfl, -⟩ := hV rfl
  refine va_iast hx hb hK hP hD hS q0 0 hq (hT.2.2.2.2.2 0 _ hT.1) hin hd (fun H1 locs1 hP1 hD1 hS1 => k _ H1 locs1 (fun F' h1 h2 => ?_) hP1 hD1 hS1)
  unfold z_en; rw [hg1]
  exact ⟨_, rfl, z_upd hf h1 h2⟩
theorem z_narb {z : Int} (h1 : -128 ≤ z) (h2 : z ≤ 127) : vp_nar .byte (Int32.ofInt z) = Int32.ofInt z := by
  rw [vp_nar_byte]
  apply Int32.toInt_inj.mp
  rw [Int8.toInt_toInt32, Int32.toInt_toInt8, z_i32 (by omega) (by omega)]
  show z.bmod 256 = z
  rw [Int.bmod_def]
  split <;> omega
theorem z_narz {z : Int} (h1 : 0 ≤ z) (h2 : z ≤ 1) : vp_nar .boolean (Int32.ofInt z) = Int32.ofInt z := by
  rcases (show z = 0 ∨ z = 1 by omega) with rfl | rfl
  · decide
  · decide
theorem zs_bast (hx : p.tables.exec = Jvm.exec) (hb : c.code = cc) (hK : va_K D cl tys s) (hT : zTyOk cA tyl tys) {st : zS} {ss : List (Option Nat × zS)} (hd : decode cc pc = .ok (.bastore, 1)) (h : z_ast fl.2.1 z_t34 0 z_vl z_vh G st = some ss) : zSt p l e R s m args below meth c Q D cl A cA G b sl xs fl h0 nL pc 1 st ss := by
  refine zs_ast h (fun g F a q0 e0 ws j V z H locs cells slots ls rest ht he hP hD hS hq hin hV _ hl hh k => ?_)
  obtain ⟨rfl, -⟩ := hV rfl
  unfold z_t34 at ht
  rcases Bool.or_eq_true _ _ ▸ ht with t | t
  · have hg1 : g.1 = 3 := Nat.eq_of_beq_eq_true t
    obtain ⟨f, rfl, hf⟩ := z_en3 hg1 he
    rw [hg1] at hl hh
    refine va_bast hx hb hK hP hD hS q0 2 hq (hT.2.2.2.2.2 2 _ hT.2.2.1) hin hd (fun H1 locs1 hP1 hD1 hS1 => k _ H1 locs1 (fun F' h1 h2 => ?_) hP1 hD1 hS1)
    unfold z_en; rw [hg1]
    rw [z_narb hl hh]
    exact ⟨_, rfl, z_upd hf h1 h2⟩
  · have hg1 : g.1 = 4 := Nat.eq_of_beq_eq_true t
    obtain ⟨f, rfl, hf⟩ := z_en4 hg1 he
    rw [hg1] at hl hh
    refine va_zast hx hb hK hP hD hS q0 3 hq (hT.2.2.2.2.2 3 _ hT.2.2.2.1) hin hd (fun H1 locs1 hP1 hD1 hS1 => k _ H1 locs1 (fun F' h1 h2 => ?_) hP1 hD1 hS1)
    unfold z_en; rw [hg1]
    rw [z_narz hl hh]
    exact ⟨_, rfl, z_upd hf h1 h2⟩
def z_vlL (_ : Nat) : Int := -9223372036854775808
def z_vhL (_ : Nat) : Int := 9223372036854775807
theorem zs_last (hx : p.tables.exec = Jvm.exec) (hb : c.code = cc) (hK : va_K D cl tys s) (hT : zTyOk cA tyl tys) {st : zS} {ss : List (Option Nat × zS)} (hd : decode cc pc = .ok (.lastore, 1)) (h : z_ast fl.2.1 z_t2 1 z_vlL z_vhL G st = some ss) : zSt p l e R s m args below meth c Q D cl A cA G b sl xs fl h0 nL pc 1 st ss := by
  refine zs_ast h (fun g F a q0 e0 ws j V z H locs cells slots ls rest ht he hP hD hS hq hin _ hV _ _ k => ?_)
  have hg1 : g.1 = 2 := Nat.eq_of_beq_eq_true ht
  obtain ⟨f, rfl, hf⟩ := z_en2 hg1 he
  have hV := hV rfl
  subst hV
  refine va_last hx hb hK hP hD hS q0 1 hq (hT.2.2.2.2.2 1 _ hT.2.1) hin hd (fun H1 locs1 hP1 hD1 hS1 => k _ H1 locs1 (fun F' h1 h2 => ?_) hP1 hD1 hS1)
  unfold z_en; rw [hg1]
  exact ⟨_, rfl, z_updL hf h1 h2⟩
/-! references, at a known place -/
def z_aast (K : List (Nat × Nat)) (G : List zC) (tc : List (Nat × Nat × Nat)) (st : zS) : zR := match st with
  | (cu, su, iv, lv, v :: x :: a :: r, ov) => if v.1 = 2 ∧ x.1 = 0 ∧ x.2.1 = 0 ∧ a.1 = 2 then (match G[a.2.1]?, G[v.2.1]? with
    | some g, some gv => if 5 ≤ g.1 ∧ 0 ≤ x.2.2 ∧ x.2.2 < (g.2.1 : Int) ∧ gv.1 = 0 ∧ z_as tc g.1 = some (gv.2.1, 0) ∧ z_kq iv ov.length (z_sp g x.2.2.toNat) v = true ∧ z_ink K a.2.1 = false then some [(none, (cu, su, iv, lv, r, z_wr ov a.2.1 x.2.2.toNat v))] else none
    | _, _ => none) else none
  | _ => none
/-- tc: the number of an array's tag, of its elements' own kind -/
def zTcOk (cl : List vw_C) (tyl : List FieldType) (tc : List (Nat × Nat × Nat)) : Prop := ∀ (t ci z : Nat), z_as tc t = some (ci, z) → 5 ≤ t → ∃ r : vw_C, cl[ci]? = some r ∧ tyl[t - 1]? = some (.object r.1)
theorem zs_aast (hx : p.tables.exec = Jvm.exec) (hb : c.code = cc) (hK : va_K D cl tys s) (hT : zTyOk cA tyl tys) {tc : List (Nat × Nat × Nat)} (hTc : zTcOk cl tyl tc) {st : zS} {ss : List (Option Nat × zS)} (hd : decode cc pc = .ok (.aastore, 1)) (h : z_aast fl.2.1 G tc st = some ss) : zSt p l e R s m args below meth c Q D cl A cA G b sl xs fl h0 nL pc 1 st ss := by
  obtain ⟨cu, su, iv, lv, sk, ov⟩ := st
  unfold z_aast at h
  rcases sk with _ | ⟨v, _ | ⟨x, _ | ⟨a, r⟩⟩⟩
  · cases h
  · cases h
  · cases h
  dsimp only at h
  split at h
  next hk =>
    obtain ⟨hkv, hkx, hkx0, hka⟩ := hk
    split at h
    next g gv hg hgv =>
      split at h
      next hc =>
        obtain ⟨hc1, hc2, hc3, hc4, hc5, hc6, hc7⟩ := hc
        cases h
        intro ρ ad ws H locs ls hgm kk
        have hao : a.2.1 < ov.length := by
          have := hgm.1.2.2.1 a (List.mem_cons_of_mem _ (List.mem_cons_of_mem _ List.mem_cons_self))
          unfold zok at this; rw [hka] at this; exact this
        have hvo : v.2.1 < ov.length := by
          have := hgm.1.2.2.1 v List.mem_cons_self
          unfold zok at this; rw [hkv] at this; exact this
        have ox := z_ok0 (hgm.1.2.2.1 x (List.mem_cons_of_mem _ List.mem_cons_self)) hkx
        have ex : z_val ρ x = x.2.2 := by unfold z_val; rw [hkx0, hgm.1.1.1]; omega
        obtain ⟨hvi, hcl⟩ := z_vin (z := z_val ρ x) (n := g.2.1) (by omega) (by omega) ox.2.2
        obtain ⟨e0, hqw, he⟩ := z_wd_at hgm.2.2.1 hao hg
        obtain ⟨ev, hqv, hev⟩ := z_wd_at hgm.2.2.1 hvo hgv
        obtain ⟨kk5, hkk5⟩ : ∃ kk, g.1 = kk + 5 := ⟨g.1 - 5, by omega⟩
        obtain ⟨f, rfl, hf⟩ := z_en5 hkk5 he
        unfold z_en at hev
        rw [hc4] at hev
        obtain ⟨fs, rfl, -⟩ := hev
        obtain ⟨rc, hrc, hty⟩ := hTc g.1 gv.2.1 0 hc5 hc1
        have hq2 := hT.2.2.2.2.2 (g.1 - 1) _ hty
        rw [show g.1 - 1 + 1 = kk5 + 5 by omega] at hq2
        have hfg := z_wr_fg (v := v) (i := x.2.2.toNat) hao
        show W p l e R s m args below meth c H locs cu su Q (F0 m pc ls (zcv ad b ρ v :: zcv ad b ρ x :: zcv ad b ρ a :: r.map (zcv ad b ρ)))
        rw [z_cv0 hkx, z_cv2 hka, z_cv2 hkv]
        refine va_astq hx hb hK hgm.2.2.2.1 hgm.2.2.2.2.1 hgm.2.2.2.2.2.1 a.2.1 (g.1 - 1) v.2.1 gv.2.1 hqw hq2 hqv hrc hvi hd (fun H1 locs1 hP1 hD1 hS1 => ?_)
        refine kk _ (List.mem_singleton.mpr rfl) ρ ad _ H1 locs1 ls ⟨fun _ _ => rfl, fun _ _ => rfl, Nat.le_refl _, Nat.le_of_eq hfg.1.symm⟩ (hgm.ov hgm.1.1 rfl hfg.1 (fun r' hr' w hw => ?_) (fun w hw => hgm.1.2.2.1 w (List.mem_cons_of_mem _ (List.mem_cons_of_mem _ (List.mem_cons_of_mem _ hw)))) ?_ hP1 hD1 hS1 hfg.2.1 (zKp.set hgm.2.2.2.2.2.2.2.2.2 hc7))
        · rcases hfg.ok r' hr' w hw with q | q2
          · subst q; exact hgm.1.2.2.1 _ List.mem_cons_self
          · exact hgm.1.2.2.2 _ _ w q2
        · refine z_wd_upd hgm.2.2.1 hqw hg hfg.1 (fun p' hp' i => hfg.2.2.2 p' i (fun q => hp' q.1)) ?_
          unfold z_en
          rw [hkk5]
          refine ⟨_, rfl, fun j hj => ?_⟩
          rw [hcl, ex]
          by_cases ej : j = x.2.2.toNat
          · subst ej
            rw [show va_up f x.2.2.toNat (some (ad v.2.1)) x.2.2.toNat = some (ad v.2.1) from if_pos rfl]
            have ev9 : va_rf (some (ad v.2.1)) = zcv ad b ρ v := (z_cv2 hkv ad b ρ).symm
            rw [ev9]
            exact z_wv_at hfg.1 (z_kq_ok hgm.1.1 (hgm.1.2.2.1 v List.mem_cons_self) hc6) hfg.2.2.1
          · rw [show va_up f x.2.2.toNat (some (ad v.2.1)) j = f j from if_neg ej]
            exact z_wv_or (hf j hj) hfg.1 (hfg.2.2.2 a.2.1 j (fun q => ej q.2))
      next => cases h
    next => cases h
  next => cases h
end ZST7
