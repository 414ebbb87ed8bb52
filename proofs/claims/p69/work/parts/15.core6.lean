/-! ===== arrays ===== -/
def z_els (ov : zO) (p : Nat) (iv : zI) (x : zV) : Int → Nat → Option (List (zI × zV))
  | _, 0 => some []
  | j, n + 1 => match z_els ov p iv x (j + 1) n with
    | none => none
    | some q => (match z_eq iv x (0, 0, j) with
      | none => some q
      | some i => (match z_lk ov p j.toNat with
        | some v => some ((i, v) :: q)
        | none => none))
theorem z_els_ok {ov : zO} {p : Nat} {iv : zI} {x : zV} {ρ : Nat → Int} (hi : ziv iv ρ) : ∀ (n : Nat) (j : Int) (q : List (zI × zV)), z_els ov p iv x j n = some q → ∀ t : Nat, t < n → z_val ρ x = j + t → ∃ (iv' : zI) (v : zV), (iv', v) ∈ q ∧ z_lk ov p (z_val ρ x).toNat = some v ∧ ziv iv' ρ ∧ iv'.length = iv.length
  | 0, _, _, _, t, ht, _ => absurd ht (Nat.not_lt_zero t)
  | n + 1, j, q, h, t, ht, hv => by
    unfold z_els at h
    split at h
    next => cases h
    next q' hq' =>
      match t, ht, hv with
      | 0, _, hv =>
        have ej : z_val ρ x = j := by omega
        obtain ⟨iv', m1, m2, m3⟩ := z_eq_ok (x := x) (y := (0, 0, j)) hi (by rw [z_val0 hi]; exact ej)
        rw [m1] at h
        dsimp only at h
        split at h
        next v hv' => cases h; exact ⟨iv', v, List.mem_cons_self, by rw [ej]; exact hv', m2, m3⟩
        next => cases h
      | t + 1, ht, hv =>
        obtain ⟨iv', v, a1, a2⟩ := z_els_ok hi n (j + 1) q' hq' t (by omega) (by omega)
        split at h
        next => cases h; exact ⟨iv', v, a1, a2⟩
        next =>
          split at h
          next => cases h; exact ⟨iv', v, List.mem_cons_of_mem _ a1, a2⟩
          next => cases h
def z_ald (tg : Nat → Bool) (kr : Nat) (G : List zC) (st : zS) : zR := match st with
  | (cu, su, iv, lv, x :: a :: r, ov) => if x.1 = 0 ∧ a.1 = 2 then (match G[a.2.1]?, z_bd iv x with
    | some g, some q => if tg g.1 = true ∧ 0 ≤ q.1 ∧ q.2 < (g.2.1 : Int) then (match g.2.2 with
      | [(k, lo, hi)] => (match z_un ov a.2.1 with
        | some [] => if k = kr then some [(none, (cu, su, (z_mk iv kr lo hi).1, lv, (z_mk iv kr lo hi).2 :: r, ov))] else none
        | _ => none)
      | _ => (match z_els ov a.2.1 iv x q.1 (q.2 - q.1 + 1).toNat with
        | some es => some (es.map (fun w => (none, (cu, su, w.1, lv, w.2 :: r, ov))))
        | none => none)) else none
    | _, _ => none) else none
  | _ => none
section ZST6
variable {p : Program} {l : Launch} {e : Env} {R : Room} {s : State} {m : MethodId} {args : Array Value} {below : List Frame} {meth : Method} {c : Code} {Q : State → Prop} {D : va_G} {cl : List vw_C} {A : Nat → Prop} {cA : Nat → ClassId} {G : List zC} {b : Nat → Nat} {sl : Nat} {xs : Nat → Int32} {fl : Bool} {h0 : Heap} {nL : Nat} {cc : ByteArray} {pc : Nat}
variable {Ts : List Jvm.Cond} {zN : List String} {FL : List (List (Nat × Nat × Nat))} {tys : List (ClassId × FieldType)} {tyl : List FieldType} {own : String} {cn : Nat}
theorem z_vin {z : Int} {n : Nat} (h1 : 0 ≤ z) (h2 : z < (n : Int)) (h3 : z ≤ 2147483647) : vp_in (Int32.ofInt z) n ∧ (Int32.ofInt z).toNatClampNeg = z.toNat := by
  have e := z_i32 (z := z) (by omega) h3
  have e2 : (Int32.ofInt z).toNatClampNeg = z.toNat := by
    show (Int32.ofInt z).toInt.toNat = z.toNat
    rw [e]
  refine ⟨fun q => ?_, e2⟩
  rcases q with q | q
  · rw [Int32.lt_iff_toInt_lt, e] at q
    have : (0 : Int32).toInt = 0 := rfl
    omega
  · rw [e2] at q; omega
/-- what stands at a place of an array, known or by its bounds -/
theorem z_rd {g : zC} {ov : zO} {ad : Nat → Nat} {ρ : Nat → Int} {pp j : Nat} {v : Value} {k : Nat} {lo hi : Int} (hw : z_wv g ov ad b ρ pp j v) (hg : g.2.2 = [(k, lo, hi)]) (ho : z_un ov pp = some []) : z_spv ov.length ad (some (k, lo, hi)) v := by
  unfold z_wv at hw
  rw [z_un_lk ho] at hw
  dsimp only at hw
  unfold z_sp at hw
  rw [hg] at hw
  exact hw.1
theorem zs_ald {tg : Nat → Bool} {kr : Nat} {st : zS} {ss : List (Option Nat × zS)} (h : z_ald tg kr G st = some ss) (hkr : kr ≤ 1)
    (hr : ∀ (g : zC) (F : Nat → Value → Prop) (ad : Nat → Nat) (q0 : Nat) (e0 : va_E) (ws : va_W) (j : Int32) (H : Heap) (locs : List Loc) (cells slots : Nat) (ls : Array Slot) (rest : List Value), tg g.1 = true → z_en cA g F e0 → va_P D cl ws H → ws[q0]? = some (ad q0, e0) → vp_in j g.2.1 → (∀ v : Value, F j.toNatClampNeg v → W p l e R s m args below meth c H locs cells slots Q (F0 m (pc + 1) ls (v :: rest))) → W p l e R s m args below meth c H locs cells slots Q (F0 m pc ls (.int j :: .ref (ad q0) :: rest))) : zSt p l e R s m args below meth c Q D cl A cA G b sl xs fl h0 nL pc 1 st ss := by
  obtain ⟨cu, su, iv, lv, sk, ov⟩ := st
  unfold z_ald at h
  rcases sk with _ | ⟨x, _ | ⟨a, r⟩⟩
  · cases h
  · cases h
  dsimp only at h
  split at h
  next hk =>
    split at h
    next g q hg hq =>
      split at h
      next hc =>
        obtain ⟨hc1, hc2, hc3⟩ := hc
        intro ρ ad ws H locs ls hgm kk
        have hxo : a.2.1 < ov.length := by
          have := hgm.1.2.2.1 a (List.mem_cons_of_mem _ List.mem_cons_self)
          unfold zok at this; rw [hk.2] at this; exact this
        have ox := z_ok0 (hgm.1.2.2.1 x List.mem_cons_self) hk.1
        have hb := z_bd_ok hq hgm.1.1
        obtain ⟨hvi, hcl⟩ := z_vin (z := z_val ρ x) (n := g.2.1) (by omega) (by omega) ox.2.2
        obtain ⟨e0, hqw, he⟩ := z_wd_at hgm.2.2.1 hxo hg
        have hrr : ∀ w ∈ r, zok ov.length iv ρ w := fun w hw => hgm.1.2.2.1 w (List.mem_cons_of_mem _ (List.mem_cons_of_mem _ hw))
        show W p l e R s m args below meth c H locs cu su Q (F0 m pc ls (zcv ad b ρ x :: zcv ad b ρ a :: r.map (zcv ad b ρ)))
        rw [z_cv0 hk.1, z_cv2 hk.2]
        refine hr g _ ad a.2.1 e0 ws _ H locs cu su ls _ hc1 he hgm.2.2.2.1 hqw hvi (fun v hv => ?_)
        rw [hcl] at hv
        split at h
        next k lo hi hsp =>
          split at h
          next ho =>
            split at h
            next hkk =>
              cases h
              subst hkk
              have hs := z_rd hv hsp ho
              match k, hkr, hs with
              | 0, _, hs =>
                obtain ⟨X, rfl, b1, b2⟩ := hs
                obtain ⟨ρ', n1, n2, n3, n4, n5, n6⟩ := z_mk_ok 0 hgm.1.1 b1 b2
                exact z_fin hgm (fun w hw => List.mem_cons_of_mem _ (List.mem_cons_of_mem _ hw)) n1 n2 n3 (z_ok0' n4 n5 _ n6) (by rw [z_cv0 n4, n6, z_o32]) kk
              | 1, _, hs =>
                obtain ⟨X, rfl, b1, b2⟩ := hs
                obtain ⟨ρ', n1, n2, n3, n4, n5, n6⟩ := z_mk_ok 1 hgm.1.1 b1 b2
                exact z_fin hgm (fun w hw => List.mem_cons_of_mem _ (List.mem_cons_of_mem _ hw)) n1 n2 n3 (z_ok1' n4 n5 _ n6) (by rw [z_cv1 n4, n6, z_o64]) kk
            next => cases h
          next => cases h
        next =>
          split at h
          next es hes =>
            cases h
            obtain ⟨iv', w, m1, m2, m3, m4⟩ := z_els_ok hgm.1.1 _ _ es hes (z_val ρ x - q.1).toNat (by omega) (by omega)
            unfold z_wv at hv
            rw [m2] at hv
            dsimp only at hv
            rw [hv.2]
            exact z_rf (t := none) (r := w :: r) hgm kk (List.mem_map.mpr ⟨(iv', w), m1, rfl⟩) m3 m4 (fun w' hw' => (List.mem_cons.mp hw').elim (fun q9 => by rw [q9]; exact z_okrf (hgm.1.2.2.2 _ _ w m2) m4) (fun q9 => z_okrf (hrr w' q9) m4))
          next => cases h
      next => cases h
    next => cases h
  next => cases h
def z_t1 (t : Nat) : Bool := Nat.beq t 1
def z_t2 (t : Nat) : Bool := Nat.beq t 2
def z_t34 (t : Nat) : Bool := Nat.beq t 3 || Nat.beq t 4
def z_t5 (t : Nat) : Bool := Nat.ble 5 t
theorem z_en1 {g : zC} {F : Nat → Value → Prop} {e0 : va_E} (ht : g.1 = 1) (he : z_en cA g F e0) : ∃ f : Nat → Int32, e0 = .inl (cA 1, g.2.1, .inl f) ∧ ∀ j, j < g.2.1 → F j (.int (f j)) := by
  unfold z_en at he; rw [ht] at he; exact he
theorem z_en2 {g : zC} {F : Nat → Value → Prop} {e0 : va_E} (ht : g.1 = 2) (he : z_en cA g F e0) : ∃ f : Nat → Int64, e0 = .inl (cA 2, g.2.1, .inr (.inl f)) ∧ ∀ j, j < g.2.1 → F j (.long (f j)) := by
  unfold z_en at he; rw [ht] at he; exact he
theorem z_en3 {g : zC} {F : Nat → Value → Prop} {e0 : va_E} (ht : g.1 = 3) (he : z_en cA g F e0) : ∃ f : Nat → Int32, e0 = .inl (cA 3, g.2.1, .inl f) ∧ ∀ j, j < g.2.1 → F j (.int (f j)) := by
  unfold z_en at he; rw [ht] at he; exact he
theorem z_en4 {g : zC} {F : Nat → Value → Prop} {e0 : va_E} (ht : g.1 = 4) (he : z_en cA g F e0) : ∃ f : Nat → Int32, e0 = .inl (cA 4, g.2.1, .inl f) ∧ ∀ j, j < g.2.1 → F j (.int (f j)) := by
  unfold z_en at he; rw [ht] at he; exact he
theorem z_en5 {g : zC} {F : Nat → Value → Prop} {e0 : va_E} {k : Nat} (ht : g.1 = k + 5) (he : z_en cA g F e0) : ∃ f : Nat → Option Nat, e0 = .inl (cA (k + 5), g.2.1, .inr (.inr (.inr (.inr f)))) ∧ ∀ j, j < g.2.1 → F j (va_rf (f j)) := by
  unfold z_en at he; rw [ht] at he; exact he
theorem z_inlt {j : Int32} {n : Nat} (h : vp_in j n) : j.toNatClampNeg < n := Nat.not_le.mp fun q => h (Or.inr q)
theorem zs_iald (hx : p.tables.exec = Jvm.exec) (hb : c.code = cc) (hK : va_K D cl tys s) (hT : zTyOk cA tyl tys) {st : zS} {ss : List (Option Nat × zS)} (hd : decode cc pc = .ok (.iaload, 1)) (h : z_ald z_t1 0 G st = some ss) : zSt p l e R s m args below meth c Q D cl A cA G b sl xs fl h0 nL pc 1 st ss := by
  refine zs_ald h (by omega) (fun g F ad q0 e0 ws j H locs cells slots ls rest ht he hP hq hin k => ?_)
  obtain ⟨f, rfl, hf⟩ := z_en1 (Nat.eq_of_beq_eq_true ht) he
  exact va_iald hx hb hK hP q0 0 hq (hT.2.2.2.2.2 0 _ hT.1) hin hd (k _ (hf _ (z_inlt hin)))
theorem zs_lald (hx : p.tables.exec = Jvm.exec) (hb : c.code = cc) (hK : va_K D cl tys s) (hT : zTyOk cA tyl tys) {st : zS} {ss : List (Option Nat × zS)} (hd : decode cc pc = .ok (.laload, 1)) (h : z_ald z_t2 1 G st = some ss) : zSt p l e R s m args below meth c Q D cl A cA G b sl xs fl h0 nL pc 1 st ss := by
  refine zs_ald h (by omega) (fun g F ad q0 e0 ws j H locs cells slots ls rest ht he hP hq hin k => ?_)
  obtain ⟨f, rfl, hf⟩ := z_en2 (Nat.eq_of_beq_eq_true ht) he
  exact va_lald hx hb hK hP q0 1 hq (hT.2.2.2.2.2 1 _ hT.2.1) hin hd (k _ (hf _ (z_inlt hin)))
theorem zs_bald (hx : p.tables.exec = Jvm.exec) (hb : c.code = cc) (hK : va_K D cl tys s) (hT : zTyOk cA tyl tys) {st : zS} {ss : List (Option Nat × zS)} (hd : decode cc pc = .ok (.baload, 1)) (h : z_ald z_t34 0 G st = some ss) : zSt p l e R s m args below meth c Q D cl A cA G b sl xs fl h0 nL pc 1 st ss := by
  refine zs_ald h (by omega) (fun g F ad q0 e0 ws j H locs cells slots ls rest ht he hP hq hin k => ?_)
  unfold z_t34 at ht
  rcases Bool.or_eq_true _ _ ▸ ht with t | t
  · obtain ⟨f, rfl, hf⟩ := z_en3 (Nat.eq_of_beq_eq_true t) he
    exact va_bald hx hb hK hP q0 2 hq (hT.2.2.2.2.2 2 _ hT.2.2.1) hin hd (k _ (hf _ (z_inlt hin)))
  · obtain ⟨f, rfl, hf⟩ := z_en4 (Nat.eq_of_beq_eq_true t) he
    exact va_zald hx hb hK hP q0 3 hq (hT.2.2.2.2.2 3 _ hT.2.2.2.1) hin hd (k _ (hf _ (z_inlt hin)))
def z_t5b (tyl : List FieldType) (t : Nat) : Bool := Nat.ble 5 t && Nat.blt (t - 1) tyl.length
theorem zs_aald (hx : p.tables.exec = Jvm.exec) (hb : c.code = cc) (hK : va_K D cl tys s) (hT : zTyOk cA tyl tys) {st : zS} {ss : List (Option Nat × zS)} (hd : decode cc pc = .ok (.aaload, 1)) (h : z_ald (z_t5b tyl) 0 G st = some ss) : zSt p l e R s m args below meth c Q D cl A cA G b sl xs fl h0 nL pc 1 st ss := by
  refine zs_ald h (by omega) (fun g F ad q0 e0 ws j H locs cells slots ls rest ht he hP hq hin k => ?_)
  unfold z_t5b at ht
  rw [Bool.and_eq_true] at ht
  have h5 : 5 ≤ g.1 := Nat.le_of_ble_eq_true ht.1
  have hlt : g.1 - 1 < tyl.length := Nat.le_of_ble_eq_true ht.2
  obtain ⟨kk, hkk⟩ : ∃ kk, g.1 = kk + 5 := ⟨g.1 - 5, by omega⟩
  obtain ⟨f, rfl, hf⟩ := z_en5 hkk he
  obtain ⟨ty, hty⟩ : ∃ ty, tyl[g.1 - 1]? = some ty := ⟨_, List.getElem?_eq_getElem hlt⟩
  have hr := hT.2.2.2.2.1 (g.1 - 1) ty (by omega) hty
  have hq2 := hT.2.2.2.2.2 (g.1 - 1) ty hty
  have e1 : g.1 - 1 + 1 = kk + 5 := by omega
  rw [e1] at hq2
  have hcell := hP q0 _ hq
  have hin2 : ¬ (j < 0 ∨ (arrV (cA (kk + 5)) g.2.1 (fun j => va_rf (f j))).slots.size ≤ j.toNatClampNeg) := by rw [arrV_size]; exact hin
  exact W.aald (v := va_rf (f j.toNatClampNeg)) hx hb hcell ((hK.2 _ _ hq2).1 g.2.1 (fun j => va_rf (f j))) hr (fun q => by cases q) hin2 (by show (arrV _ _ _).slots[_]? = _; rw [arrV_read _ _ (z_inlt hin)]) rfl rfl hd (k _ (hf _ (z_inlt hin)))
/-! the script -/
def z_sof (iv : zI) (x : zV) : Option Nat := if Nat.beq x.2.1 8 then (if 0 ≤ x.2.2 ∧ x.2.2 < 6 then some x.2.2.toNat else none) else if Nat.beq x.2.1 0 then (match iv.at 8 with
  | some q => if q.1 = q.2 ∧ 0 ≤ x.2.2 - q.1 ∧ x.2.2 - q.1 < 6 then some (x.2.2 - q.1).toNat else none
  | none => none) else none
theorem z_sof_ok {iv : zI} {x : zV} {d : Nat} {ρ : Nat → Int} (hi : ziv iv ρ) (h : z_sof iv x = some d) : d < 6 ∧ z_val ρ x = ρ 8 + d := by
  unfold z_sof at h
  split at h
  next hb =>
    have e : x.2.1 = 8 := Nat.eq_of_beq_eq_true hb
    split at h
    next hc => cases h; unfold z_val; rw [e]; omega
    next => cases h
  next =>
    split at h
    next hb =>
      have e : x.2.1 = 0 := Nat.eq_of_beq_eq_true hb
      split at h
      next q hq =>
        split at h
        next hc =>
          cases h
          have := hi.2.2.1 8 q hq
          unfold z_val; rw [e, hi.1]; omega
        next => cases h
      next => cases h
    next => cases h
def z_sld (fl : Bool) (st : zS) : zR := match st with
  | (cu, su, iv, lv, x :: a :: r, ov) => if x.1 = 0 ∧ a.1 = 4 ∧ a.2.1 = 0 ∧ fl = true then (match z_sof iv x with
    | some d => some [(none, (cu, su, iv, lv, (0, 2 + d, 0) :: r, ov))]
    | none => none) else none
  | _ => none
theorem z_cv4 {v : zV} (hk : v.1 = 4) (ad : Nat → Nat) (b : Nat → Nat) (ρ : Nat → Int) : zcv ad b ρ v = .ref (b v.2.1) := by unfold zcv; rw [hk]; rfl
theorem zs_sld (hx : p.tables.exec = Jvm.exec) (hb : c.code = cc) (hX : va_X (b 0) sl xs s h0) (hbl : b 0 < h0.size) (hbA : ¬ A (b 0)) {st : zS} {ss : List (Option Nat × zS)} (hd : decode cc pc = .ok (.iaload, 1)) (h : z_sld fl st = some ss) : zSt p l e R s m args below meth c Q D cl A cA G b sl xs fl h0 nL pc 1 st ss := by
  obtain ⟨cu, su, iv, lv, sk, ov⟩ := st
  unfold z_sld at h
  rcases sk with _ | ⟨x, _ | ⟨a, r⟩⟩
  · cases h
  · cases h
  dsimp only at h
  split at h
  next hk =>
    split at h
    next d hds =>
      cases h
      intro ρ ad ws H locs ls hgm kk
      have ox := z_ok0 (hgm.1.2.2.1 x List.mem_cons_self) hk.1
      obtain ⟨hd6, hdv⟩ := z_sof_ok hgm.1.1 hds
      obtain ⟨s1, s2, s3, -⟩ := hgm.2.2.2.2.2.2.1.2 hk.2.2.2
      obtain ⟨hvi, hcl⟩ := z_vin (z := z_val ρ x) (n := sl) (by omega) (by omega) ox.2.2
      show W p l e R s m args below meth c H locs cu su Q (F0 m pc ls (zcv ad b ρ x :: zcv ad b ρ a :: r.map (zcv ad b ρ)))
      rw [z_cv0 hk.1, z_cv4 hk.2.1, hk.2.2.1]
      refine va_sld hx hb hX hbl hbA hgm.2.2.2.2.2.1 hvi hd ?_
      rw [hcl, hdv, show (ρ 8 + (d : Int)).toNat = (ρ 8).toNat + d by omega]
      have ev : z_val ρ (0, 2 + d, 0) = (xs ((ρ 8).toNat + d)).toInt := by show ρ (2 + d) + 0 = _; rw [s3 d hd6]; omega
      have hl8 : 9 < iv.length := hgm.2.2.2.2.2.2.2
      exact z_fin (v := (0, 2 + d, 0)) hgm (fun w hw => List.mem_cons_of_mem _ (List.mem_cons_of_mem _ hw)) (fun _ _ => rfl) (Nat.le_refl _) hgm.1.1 (z_ok0' rfl (by show 2 + d < iv.length; omega) _ ev) (by rw [z_cv0 rfl, ev, z_o32]) kk
    next => cases h
  next => cases h
/-! lengths -/
def z_alen (G : List zC) (tyl : List FieldType) (st : zS) : zR := match st with
  | (cu, su, iv, lv, a :: r, ov) => if a.1 = 4 ∧ a.2.1 = 0 then some [(none, (cu, su, iv, lv, (0, 1, 0) :: r, ov))] else if a.1 = 2 then (match G[a.2.1]? with
    | some g => if 1 ≤ g.1 ∧ g.1 - 1 < tyl.length ∧ (g.2.1 : Int) ≤ 2147483647 then some [(none, (cu, su, iv, lv, (0, 0, (g.2.1 : Int)) :: r, ov))] else none
    | none => none) else none
  | _ => none
theorem z_ofN (n : Nat) : Int32.ofNat n = Int32.ofInt (n : Int) := by
  apply Int32.toInt_inj.mp
  rw [Int32.toInt_ofInt, Int32.toInt_ofNat']
theorem zs_alen (hx : p.tables.exec = Jvm.exec) (hb : c.code = cc) (hK : va_K D cl tys s) (hT : zTyOk cA tyl tys) (hX : va_X (b 0) sl xs s h0) (hbl : b 0 < h0.size) (hbA : ¬ A (b 0)) (hsl : sl ≤ 2147483647) {st : zS} {ss : List (Option Nat × zS)} (hd : decode cc pc = .ok (.arraylength, 1)) (h : z_alen G tyl st = some ss) : zSt p l e R s m args below meth c Q D cl A cA G b sl xs fl h0 nL pc 1 st ss := by
  obtain ⟨cu, su, iv, lv, sk, ov⟩ := st
  unfold z_alen at h
  rcases sk with _ | ⟨a, r⟩
  · cases h
  dsimp only at h
  split at h
  next hk =>
    cases h
    intro ρ ad ws H locs ls hgm kk
    have h1 := hgm.2.2.2.2.2.2.1.1
    show W p l e R s m args below meth c H locs cu su Q (F0 m pc ls (zcv ad b ρ a :: r.map (zcv ad b ρ)))
    rw [z_cv4 hk.1, hk.2]
    refine va_slen hx hb hX hbl hbA hgm.2.2.2.2.2.1 hd ?_
    have ev : z_val ρ (0, 1, 0) = (sl : Int) := by show ρ 1 + 0 = _; rw [h1]; omega
    refine z_fin (v := (0, 1, 0)) hgm (fun w hw => List.mem_cons_of_mem _ hw) (fun _ _ => rfl) (Nat.le_refl _) hgm.1.1 ⟨by have h8 : 9 < iv.length := hgm.2.2.2.2.2.2.2; show 1 < iv.length; omega, by rw [ev]; omega, by rw [ev]; omega⟩ ?_ kk
    show Value.int (Int32.ofInt (z_val ρ (0, 1, 0))) = _
    rw [ev, z_ofN]
  next =>
    split at h
    next hk =>
      split at h
      next g hg =>
        split at h
        next hc =>
          cases h
          obtain ⟨hc1, hc2, hc3⟩ := hc
          intro ρ ad ws H locs ls hgm kk
          have hxo : a.2.1 < ov.length := by
            have := hgm.1.2.2.1 a List.mem_cons_self
            unfold zok at this; rw [hk] at this; exact this
          obtain ⟨e0, hq, he⟩ := z_wd_at hgm.2.2.1 hxo hg
          obtain ⟨ty, hty⟩ : ∃ ty, tyl[g.1 - 1]? = some ty := ⟨_, List.getElem?_eq_getElem hc2⟩
          have hq2 := hT.2.2.2.2.2 (g.1 - 1) ty hty
          rw [show g.1 - 1 + 1 = g.1 by omega] at hq2
          obtain ⟨cx, hcx⟩ : ∃ cx, e0 = .inl (cA g.1, g.2.1, cx) := by
            match hgt : g.1, hc1 with
            | 1, _ => obtain ⟨f, h1, -⟩ := z_en1 hgt he; exact ⟨_, h1⟩
            | 2, _ => obtain ⟨f, h1, -⟩ := z_en2 hgt he; exact ⟨_, h1⟩
            | 3, _ => obtain ⟨f, h1, -⟩ := z_en3 hgt he; exact ⟨_, h1⟩
            | 4, _ => obtain ⟨f, h1, -⟩ := z_en4 hgt he; exact ⟨_, h1⟩
            | k + 5, _ => obtain ⟨f, h1, -⟩ := z_en5 hgt he; exact ⟨_, h1⟩
          subst hcx
          show W p l e R s m args below meth c H locs cu su Q (F0 m pc ls (zcv ad b ρ a :: r.map (zcv ad b ρ)))
          rw [z_cv2 hk]
          refine va_alen hx hb hK hgm.2.2.2.1 a.2.1 (g.1 - 1) hq hq2 rfl hd ?_
          exact z_fin hgm (fun w hw => List.mem_cons_of_mem _ hw) (fun _ _ => rfl) (Nat.le_refl _) hgm.1.1 (z_okc hgm.1.1 (by omega) hc3) (by rw [z_cvc hgm.1.1.1, z_ofN]) kk
        next => cases h
      next => cases h
    next => cases h
end ZST6
