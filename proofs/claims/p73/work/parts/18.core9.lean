/-! ===== arrays of references, of arrays; counters; constants; copies ===== -/
/-- the classes of the arrays of references are there -/
def zOv (tyl : List FieldType) (s : State) : Prop := ∀ (k : Nat) (t : FieldType), 4 ≤ k → tyl[k]? = some t → (Jvm.Cond.arrayOver t).before #[] s = true
theorem zOv.moved {u U : State} {tyl : List FieldType} (h : u.vm.Alike U.vm) (q : zOv tyl u) : zOv tyl U := fun k t hk ht => by
  have e := Cond.arrayOver_setVmC (args := #[]) (s := u) h t
  rw [q k t hk ht] at e
  exact e
section ZST9
variable {p : Program} {l : Launch} {e : Env} {R : Room} {s : State} {m : MethodId} {args : Array Value} {below : List Frame} {meth : Method} {c : Code} {Q : State → Prop} {D : va_G} {cl : List vw_C} {A : Nat → Prop} {cA : Nat → ClassId} {G : List zC} {b : Nat → Nat} {sl : Nat} {xs : Nat → Int32} {fl : zFl} {h0 : Heap} {nL : Nat} {cc : ByteArray} {pc : Nat}
variable {Ts : List Jvm.Cond} {zN : List String} {FL : List (List (Nat × Nat × Nat))} {tys : List (ClassId × FieldType)} {tyl : List FieldType} {own : String} {cn : Nat}
def zANOk (zN : List String) (tyl : List FieldType) (AN : List (List (Nat × Nat × Nat))) (Ts : List Jvm.Cond) : Prop := ∀ (cn idx tag n : Nat) (own : String), z_fl AN cn idx = some (tag, n) → zN[cn]? = some own → 5 ≤ tag ∧ ∃ C : String, tyl[tag - 1]? = some (.object C) ∧ Jvm.Cond.classLink own idx C ∈ Ts
def z_anew (G : List zC) (AN : List (List (Nat × Nat × Nat))) (cn CC SS idx : Nat) (st : zS) : zR := match st with
  | (cu, su, iv, lv, x :: r, ov) => match z_fl AN cn idx, G[ov.length]? with
    | some (tag, _), some g => if x.1 = 0 ∧ x.2.1 = 0 ∧ x.2.2 = (g.2.1 : Int) ∧ g.1 = tag ∧ g.2.1 ≤ 100000 ∧ cu + 1 ≤ CC ∧ su + g.2.1 ≤ SS ∧ g.2.2.all (z_dq 2) = true then some [(none, (cu + 1, su + g.2.1, iv, lv, (2, ov.length, 0) :: r, z_ap ov [List.replicate g.2.1 (some (3, 0, 0))]))] else none
    | _, _ => none
  | _ => none
theorem zs_anew {CC SS : Nat} (hx : p.tables.exec = Jvm.exec) (hb : c.code = cc) (hts : ∀ w ∈ Ts, w.before args s = true) (hK : va_K D cl tys s) (hown : s.vm.findClass own = some m.cls) (hN : zN[cn]? = some own) (hT : zTyOk cA tyl tys) {AN : List (List (Nat × Nat × Nat))} (hOv : zOv tyl s) (hAN : zANOk zN tyl AN Ts) (hA : ∀ q : Nat, h0.size ≤ q → A q) (hR1 : CC ≤ R.cells) (hR2 : SS ≤ R.slots) {idx : Nat} {st : zS} {ss : List (Option Nat × zS)} (hd : decode cc pc = .ok (.anewarray idx, 3)) (h : z_anew G AN cn CC SS idx st = some ss) : zSt p l e R s m args below meth c Q D cl A cA G b sl xs fl h0 nL pc 3 st ss := by
  obtain ⟨cu, su, iv, lv, sk, ov⟩ := st
  unfold z_anew at h
  rcases sk with _ | ⟨x, r⟩
  · cases h
  dsimp only at h
  split at h
  next tag n9 g hf hg =>
    split at h
    next hc =>
      cases h
      obtain ⟨hc1, hc2, hc3, hc4, hc5, hc6, hc7, hc8⟩ := hc
      obtain ⟨ht5, C, hty, w1⟩ := hAN cn idx tag n9 own hf hN
      intro ρ ad ws H locs ls hgm kk
      have ex : z_val ρ x = (g.2.1 : Int) := by unfold z_val; rw [hc2, hgm.1.1.1, hc3]; omega
      have hmem := hT.2.2.2.2.2 _ _ hty
      obtain ⟨k5, hk5⟩ : ∃ k, g.1 = k + 5 := ⟨g.1 - 5, by omega⟩
      rw [show tag - 1 + 1 = k5 + 5 by omega] at hmem
      obtain ⟨kA, comp, -, -, -, hfc⟩ := (hK.2 _ _ hmem).2
      show W p l e R s m args below meth c H locs cu su Q (F0 m pc ls (zcv ad b ρ x :: r.map (zcv ad b ρ)))
      rw [z_cv0 hc1, ex]
      have hpos : ¬ Int32.ofInt (g.2.1 : Int) < 0 := by
        rw [Int32.lt_iff_toInt_lt, z_i32 (by omega) (by omega)]
        have : (0 : Int32).toInt = 0 := rfl
        omega
      have hclamp : (Int32.ofInt (g.2.1 : Int)).toNatClampNeg = g.2.1 := by
        show (Int32.ofInt (g.2.1 : Int)).toInt.toNat = _
        rw [z_i32 (by omega) (by omega)]; omega
      refine va_newq hx hb hown (hts _ w1) (show (Jvm.Cond.arrayOver (.object C)).before #[] s = true from hOv _ _ (by omega) hty) hK hgm.2.2.2.1 hgm.2.2.2.2.1 hgm.2.2.2.2.2.1 hA hpos hclamp (by omega) (by omega) (by omega) hd (fun q cA1 H1 hK1 hP1 hD1 hS1 => ?_)
      have hlast : (tys ++ [(cA1, FieldType.object C)])[tys.length]? = some (cA1, FieldType.object C) := by rw [List.getElem?_append_right (Nat.le_refl _), Nat.sub_self]; rfl
      obtain ⟨kA1, comp1, -, -, -, hfc1⟩ := (hK1.2 _ _ hlast).2
      have ec : cA1 = cA (k5 + 5) := Option.some.inj (hfc1.symm.trans hfc)
      rw [ec] at hP1 hD1
      have hq := kk _ (List.mem_singleton.mpr rfl) ρ (va_up ad ov.length q) _ H1 locs ls ⟨fun _ _ => rfl, z_up_lt, Nat.le_refl _, by show ov.length ≤ (z_ap ov _).length; rw [z_ap_length]; omega⟩ (hgm.app (sk' := (2, ov.length, 0) :: r) z_up_lt (rows := [List.replicate g.2.1 (some (3, 0, 0))]) rfl (fun i q' hq' => ?_) (fun r' hr v hv => ?_) (fun w hw => ?_) hP1 hD1 hS1)
      · have e : ((2, ov.length, 0) :: r : List zV).map (zcv (va_up ad ov.length q) b ρ) = .ref q :: r.map (zcv ad b ρ) := by
          rw [List.map_cons, z_skm (fun w hw => hgm.1.2.2.1 w (List.mem_cons_of_mem _ hw)) (fun _ _ => rfl) z_up_lt]
          show Value.ref (va_up ad ov.length q ov.length) :: _ = _
          rw [show va_up ad ov.length q ov.length = q from if_pos rfl]
        rw [← e]
        exact hq
      · have hi : i < 1 := (List.getElem?_eq_some_iff.mp hq').1
        rw [show i = 0 by omega] at hq' ⊢
        cases hq'
        refine ⟨(if_pos rfl).symm, g, hg, ?_⟩
        unfold z_en
        rw [hk5]
        refine ⟨_, rfl, fun j hj => ?_⟩
        unfold z_wv
        rw [z_lk_r]
        unfold z_lkr
        refine ⟨z_dqa hc8 (fun e => by cases e) (fun e => by cases e), ?_⟩
        show match (match (List.replicate g.2.1 (some ((3, 0, 0) : zV)))[j]? with | some v => v | none => none) with | some a => _ | none => _
        rw [List.getElem?_replicate, if_pos hj]
        rfl
      · rw [List.mem_singleton] at hr
        subst hr
        have := List.eq_of_mem_replicate hv
        cases this
        exact True.intro
      · rcases List.mem_cons.mp hw with q1 | q1
        · subst q1
          show ov.length < (z_ap ov _).length
          rw [z_ap_length]; exact Nat.lt_succ_self _
        · exact zok_ext (hgm.1.2.2.1 w (List.mem_cons_of_mem _ q1)) (fun _ _ => rfl) (Nat.le_refl _) (by rw [z_ap_length]; omega)
    next => cases h
  next => cases h
/-! new T[n][k] -/
def zMNOk (zN : List String) (tyl : List FieldType) (MN : List (List (Nat × Nat × Nat))) (Ts : List Jvm.Cond) : Prop := ∀ (cn idx tO tI : Nat) (own : String), z_fl MN cn idx = some (tO, tI) → zN[cn]? = some own → 5 ≤ tO ∧ ((tI = 1 ∧ tyl[tO - 1]? = some (.array .int) ∧ Jvm.Cond.classLink own idx ("[" ++ (FieldType.array .int).toString) ∈ Ts ∧ Jvm.Cond.arrayClass .int ∈ Ts) ∨ (tI = 2 ∧ tyl[tO - 1]? = some (.array .long) ∧ Jvm.Cond.classLink own idx ("[" ++ (FieldType.array .long).toString) ∈ Ts ∧ Jvm.Cond.arrayClass .long ∈ Ts))
def z_inn (G : List zC) (k t K : Nat) : Nat → Bool
  | 0 => true
  | i + 1 => (match G[k + i]? with
    | some g => Nat.beq g.1 t && Nat.beq g.2.1 K && (match g.2.2 with
      | [(k', lo, hi)] => Nat.beq k' (z_tk t) && decide (lo ≤ 0) && decide (0 ≤ hi)
      | _ => false)
    | none => false) && z_inn G k t K i
theorem z_inn_ok {G : List zC} {k t K : Nat} : ∀ (n : Nat), z_inn G k t K n = true → ∀ i, i < n → ∃ lo hi, G[k + i]? = some (t, K, [(z_tk t, lo, hi)]) ∧ lo ≤ 0 ∧ 0 ≤ hi
  | 0, _, i, hi => absurd hi (Nat.not_lt_zero i)
  | n + 1, h, i, hi => by
    unfold z_inn at h
    rw [Bool.and_eq_true] at h
    by_cases e : i = n
    · subst e
      have h1 := h.1
      split at h1
      next g hg =>
        rw [Bool.and_eq_true, Bool.and_eq_true] at h1
        obtain ⟨⟨a1, a2⟩, a3⟩ := h1
        split at a3
        next k' lo hi' hsp =>
          rw [Bool.and_eq_true, Bool.and_eq_true] at a3
          obtain ⟨⟨b1, b2⟩, b3⟩ := a3
          have e1 : g.1 = t := Nat.eq_of_beq_eq_true a1
          have e2 : g.2.1 = K := Nat.eq_of_beq_eq_true a2
          have e3 : k' = z_tk t := Nat.eq_of_beq_eq_true b1
          refine ⟨lo, hi', ?_, of_decide_eq_true b2, of_decide_eq_true b3⟩
          rw [hg]
          obtain ⟨g1, g2, g3⟩ := g
          dsimp only at e1 e2 hsp
          subst e1; subst e2; subst e3; subst hsp
          rfl
        next => cases a3
      next => cases h1
    · exact z_inn_ok n h.2 i (by omega)
def z_mna (G : List zC) (MN : List (List (Nat × Nat × Nat))) (cn CC SS idx : Nat) (st : zS) : zR := match st with
  | (cu, su, iv, lv, y :: x :: r, ov) => match z_fl MN cn idx, G[ov.length]? with
    | some (tO, tI), some g => if x.1 = 0 ∧ x.2.1 = 0 ∧ x.2.2 = (g.2.1 : Int) ∧ y.1 = 0 ∧ y.2.1 = 0 ∧ 0 ≤ y.2.2 ∧ y.2.2 ≤ 1000 ∧ g.1 = tO ∧ g.2.1 ≤ 1000 ∧ cu + (1 + g.2.1) ≤ CC ∧ su + (g.2.1 + g.2.1 * y.2.2.toNat) ≤ SS ∧ z_inn G (ov.length + 1) tI y.2.2.toNat g.2.1 = true ∧ g.2.2.all (z_dq 2) = true then some [(none, (cu + 1 + g.2.1, su + g.2.1 + g.2.1 * y.2.2.toNat, iv, lv, (2, ov.length, 0) :: r, z_ap ov ((List.range g.2.1).map (fun i => some ((2, ov.length + 1 + i, 0) : zV)) :: List.replicate g.2.1 [])))] else none
    | _, _ => none
  | _ => none
theorem zs_mna {CC SS : Nat} (hx : p.tables.exec = Jvm.exec) (hb : c.code = cc) (hts : ∀ w ∈ Ts, w.before args s = true) (hK : va_K D cl tys s) (hown : s.vm.findClass own = some m.cls) (hN : zN[cn]? = some own) (hT : zTyOk cA tyl tys) {MN : List (List (Nat × Nat × Nat))} (hOv : zOv tyl s) (hMN : zMNOk zN tyl MN Ts) (hA : ∀ q : Nat, h0.size ≤ q → A q) (hR1 : CC ≤ R.cells) (hR2 : SS ≤ R.slots) {idx : Nat} {st : zS} {ss : List (Option Nat × zS)} (hd : decode cc pc = .ok (.multianewarray idx 2, 4)) (h : z_mna G MN cn CC SS idx st = some ss) : zSt p l e R s m args below meth c Q D cl A cA G b sl xs fl h0 nL pc 4 st ss := by
  obtain ⟨cu, su, iv, lv, sk, ov⟩ := st
  unfold z_mna at h
  rcases sk with _ | ⟨y, _ | ⟨x, r⟩⟩
  · cases h
  · cases h
  dsimp only at h
  split at h
  next tO tI g hf hg =>
    split at h
    next hc =>
      cases h
      obtain ⟨hc1, hc2, hc3, hd1, hd2, hd3, hd4, hc4, hc5, hc6, hc7, hc8, hc9⟩ := hc
      obtain ⟨ht5, hty⟩ := hMN cn idx tO tI own hf hN
      intro ρ ad ws H locs ls hgm kk
      have ex : z_val ρ x = (g.2.1 : Int) := by unfold z_val; rw [hc2, hgm.1.1.1, hc3]; omega
      have ey : z_val ρ y = y.2.2 := by unfold z_val; rw [hd2, hgm.1.1.1]; omega
      obtain ⟨k5, hk5⟩ : ∃ k, g.1 = k + 5 := ⟨g.1 - 5, by omega⟩
      have hposx : ¬ Int32.ofInt (g.2.1 : Int) < 0 := by
        rw [Int32.lt_iff_toInt_lt, z_i32 (by omega) (by omega)]
        have : (0 : Int32).toInt = 0 := rfl
        omega
      have hclx : (Int32.ofInt (g.2.1 : Int)).toNatClampNeg = g.2.1 := by
        show (Int32.ofInt (g.2.1 : Int)).toInt.toNat = _
        rw [z_i32 (by omega) (by omega)]; omega
      have hposy : ¬ Int32.ofInt y.2.2 < 0 := by
        rw [Int32.lt_iff_toInt_lt, z_i32 (by omega) (by omega)]
        have : (0 : Int32).toInt = 0 := rfl
        omega
      have hcly : (Int32.ofInt y.2.2).toNatClampNeg = y.2.2.toNat := by
        show (Int32.ofInt y.2.2).toInt.toNat = _
        rw [z_i32 (by omega) (by omega)]
      show W p l e R s m args below meth c H locs cu su Q (F0 m pc ls (zcv ad b ρ y :: zcv ad b ρ x :: r.map (zcv ad b ρ)))
      rw [z_cv0 hc1, z_cv0 hd1, ex, ey]
      have hP0 : va_P D cl (ws ++ va_pl [] (fun _ => .inr (0, []))) H := by show va_P D cl (ws ++ []) H; rw [List.append_nil]; exact hgm.2.2.2.1
      have hD0 : va_D A (ws ++ va_pl [] (fun _ => .inr (0, []))) := by show va_D A (ws ++ []); rw [List.append_nil]; exact hgm.2.2.2.2.1
      have main : ∀ (ty : FieldType) (z : vp_A), tyl[tO - 1]? = some (.array ty) → (∀ cx : ClassId, va_RA s cx (.array ty) → s.vm.findClass ("[" ++ (FieldType.array ty).toString) = some cx) → Jvm.Cond.classLink own idx ("[" ++ (FieldType.array ty).toString) ∈ Ts → Jvm.Cond.arrayClass ty ∈ Ts → s.vm.findClass (FieldType.array ty).toString = some (cA tI) → componentBytes ty ≤ 8 → fits ty (defaultValue ty) = true → (defaultValue ty).isDefault = true → (∀ cx : ClassId, Jvm.Free.Multi.innerC cx y.2.2.toNat (defaultValue ty) = vp_cell cx z) → (∀ (lo hi : Int) (F : Nat → Value → Prop), lo ≤ 0 → 0 ≤ hi → (∀ j v, (∀ (n9 : Nat) (ad9 : Nat → Nat), z_spv n9 ad9 (some (z_tk tI, lo, hi)) v) → F j v) → z_en cA (tI, y.2.2.toNat, [(z_tk tI, lo, hi)]) F (.inl (cA tI, z))) → W p l e R s m args below meth c H locs cu su Q (F0 m pc ls (.int (Int32.ofInt y.2.2) :: .int (Int32.ofInt (g.2.1 : Int)) :: r.map (zcv ad b ρ))) := by
        intro ty z hty hra w1 w3 hcy hcb hdf hdd hz hen
        have hmem := hT.2.2.2.2.2 _ _ hty
        rw [show tO - 1 + 1 = k5 + 5 by omega] at hmem
        have hfc := hra _ (hK.2 _ _ hmem).2
        have hbb : y.2.2.toNat * componentBytes ty ≤ 536870912 := by
          have := Nat.mul_le_mul (show y.2.2.toNat ≤ 1000 by omega) hcb
          omega
        refine va_mna (X := ws) (L := []) (f := fun _ => .inr (0, [])) hx hb hown (hts _ w1) (show (Jvm.Cond.arrayOver (.array ty)).before args s = true from hOv _ _ (by omega) hty) (hts _ w3) hcy hK hP0 hD0 hgm.2.2.2.2.2.1 hA hposx hposy hclx hcly (by omega) hbb (by omega) hdf hdd (by omega) (by omega) hz hd (fun q rr cA1 H1 hinj _ hK1 hP1 hD1 hS1 => ?_)
        have hlast : (tys ++ [(cA1, FieldType.array ty)])[tys.length]? = some (cA1, FieldType.array ty) := by rw [List.getElem?_append_right (Nat.le_refl _), Nat.sub_self]; rfl
        have hfc1 := hra _ (hK1.2 _ _ hlast).2
        have ec : cA1 = cA (k5 + 5) := Option.some.inj (hfc1.symm.trans hfc)
        rw [ec] at hP1 hD1
        rw [List.append_assoc] at hP1 hD1
        -- the places of the new cells
        have epl : ∀ (fz : Nat → va_E), ([(q, (.inl (cA (k5 + 5), g.2.1, .inr (.inr (.inr (.inr (fun i => if i < g.2.1 then some (rr i) else none))))) : va_E))] ++ va_pl ([] ++ (List.range g.2.1).map rr) fz) = (q, .inl (cA (k5 + 5), g.2.1, .inr (.inr (.inr (.inr (fun i => if i < g.2.1 then some (rr i) else none)))))) :: ((List.range g.2.1).map rr).map (fun a => (a, fz a)) := fun fz => rfl
        rw [epl] at hP1 hD1
        have hadl : ∀ k, k < ov.length → (fun k => if k < ov.length then ad k else if k = ov.length then q else rr (k - ov.length - 1)) k = ad k := fun k hk => if_pos hk
        have hq := kk _ (List.mem_singleton.mpr rfl) ρ (fun k => if k < ov.length then ad k else if k = ov.length then q else rr (k - ov.length - 1)) _ H1 locs ls ⟨fun _ _ => rfl, hadl, Nat.le_refl _, by show ov.length ≤ (z_ap ov _).length; rw [z_ap_length]; omega⟩ (hgm.app (sk' := (2, ov.length, 0) :: r) hadl (rows := (List.range g.2.1).map (fun i => some ((2, ov.length + 1 + i, 0) : zV)) :: List.replicate g.2.1 []) (by rw [List.length_cons, List.length_cons, List.length_map, List.length_map, List.length_range, List.length_replicate]) (fun i q' hq' => ?_) (fun r' hr v hv => ?_) (fun w hw => ?_) hP1 hD1 hS1)
        · have e : ((2, ov.length, 0) :: r : List zV).map (zcv (fun k => if k < ov.length then ad k else if k = ov.length then q else rr (k - ov.length - 1)) b ρ) = .ref q :: r.map (zcv ad b ρ) := by
            rw [List.map_cons, z_skm (fun w hw => hgm.1.2.2.1 w (List.mem_cons_of_mem _ (List.mem_cons_of_mem _ hw))) (fun _ _ => rfl) hadl]
            show Value.ref (if ov.length < ov.length then _ else if ov.length = ov.length then q else _) :: _ = _
            rw [if_neg (Nat.lt_irrefl _), if_pos rfl]
          rw [← e]
          exact hq
        · match i, hq' with
          | 0, hq' =>
            cases hq'
            refine ⟨?_, g, hg, ?_⟩
            · show q = if ov.length + 0 < ov.length then _ else if ov.length + 0 = ov.length then q else _
              rw [if_neg (by omega), if_pos (by omega)]
            unfold z_en
            rw [hk5]
            refine ⟨_, rfl, fun j hj => ?_⟩
            unfold z_wv
            rw [z_lk_r]
            unfold z_lkr
            refine ⟨z_dqa hc9 (fun e => by cases e) (fun e => by cases e), ?_⟩
            show match (match ((List.range g.2.1).map (fun i => some ((2, ov.length + 1 + i, 0) : zV)))[j]? with | some v => v | none => none) with | some a => _ | none => _
            rw [List.getElem?_map, List.getElem?_range hj]
            show va_rf (if j < g.2.1 then some (rr j) else none) = Value.ref (if ov.length + 1 + j < ov.length then _ else if ov.length + 1 + j = ov.length then q else rr (ov.length + 1 + j - ov.length - 1))
            rw [if_pos hj, if_neg (by omega), if_neg (by omega), show ov.length + 1 + j - ov.length - 1 = j by omega]
            rfl
          | i + 1, hq' =>
            rw [List.getElem?_cons_succ, List.getElem?_map, List.getElem?_map] at hq'
            have hi : i < g.2.1 := by
              rcases Nat.lt_or_ge i g.2.1 with h9 | h9
              · exact h9
              · rw [List.getElem?_eq_none (by rw [List.length_range]; exact h9)] at hq'
                cases hq'
            rw [List.getElem?_range hi] at hq'
            cases hq'
            obtain ⟨lo, hi', hgi, hlo, hhi⟩ := z_inn_ok _ hc8 i hi
            refine ⟨?_, _, by rw [show ov.length + (i + 1) = ov.length + 1 + i by omega]; exact hgi, ?_⟩
            · show rr i = if ov.length + (i + 1) < ov.length then _ else if ov.length + (i + 1) = ov.length then q else rr (ov.length + (i + 1) - ov.length - 1)
              rw [if_neg (by omega), if_neg (by omega), show ov.length + (i + 1) - ov.length - 1 = i by omega]
            · have hm : rr i ∈ (List.range g.2.1).map rr := List.mem_map.mpr ⟨i, List.mem_range.mpr hi, rfl⟩
              have hz9 : vr_up (fun _ => (.inr (0, []) : va_E)) ((List.range g.2.1).map rr) (.inl (cA tI, z)) (rr i) = .inl (cA tI, z) := vr_up_in hm
              dsimp only
              rw [hz9]
              refine hen lo hi' _ hlo hhi (fun j v hv => ?_)
              unfold z_wv
              rw [z_lk_r]
              unfold z_lkr
              rw [List.getElem?_cons_succ, List.getElem?_replicate, if_pos hi]
              exact ⟨hv _ _, True.intro⟩
        · rcases List.mem_cons.mp hr with q9 | q9
          · subst q9
            obtain ⟨i, hi, hsp⟩ := List.mem_map.mp hv
            cases hsp
            have := List.mem_range.mp hi
            show ov.length + 1 + i < (z_ap ov _).length
            rw [z_ap_length, List.length_cons, List.length_replicate]; omega
          · have := List.eq_of_mem_replicate q9
            subst this
            cases hv
        · rcases List.mem_cons.mp hw with q1 | q1
          · subst q1
            show ov.length < (z_ap ov _).length
            rw [z_ap_length, List.length_cons]; omega
          · exact zok_ext (hgm.1.2.2.1 w (List.mem_cons_of_mem _ (List.mem_cons_of_mem _ q1))) (fun _ _ => rfl) (Nat.le_refl _) (by rw [z_ap_length]; omega)
      rcases hty with ⟨rfl, q1, q2, q4⟩ | ⟨rfl, q1, q2, q4⟩
      · have hm1 := hT.2.2.2.2.2 0 _ hT.1
        have hf1 : s.vm.findClass ("[" ++ FieldType.int.toString) = some (cA 1) := (hK.2 _ _ hm1).2
        refine main .int (y.2.2.toNat, .inl (fun _ => 0)) q1 (fun _ h9 => h9) q2 q4 hf1 (by decide) rfl rfl (fun cx => ?_) (fun lo hi F h1 h2 hF => ?_)
        · show ({ cls := cx, slots := Array.replicate y.2.2.toNat (.int 0), vm := .none } : Cell) = _
          rw [arrV_new]; rfl
        · exact ⟨fun _ => 0, rfl, fun j _ => hF j _ (fun _ _ => ⟨0, rfl, h1, h2⟩)⟩
      · have hm1 := hT.2.2.2.2.2 1 _ hT.2.1
        have hf1 : s.vm.findClass ("[" ++ FieldType.long.toString) = some (cA 2) := (hK.2 _ _ hm1).2
        refine main .long (y.2.2.toNat, .inr (.inl (fun _ => 0))) q1 (fun _ h9 => h9) q2 q4 hf1 (by decide) rfl rfl (fun cx => ?_) (fun lo hi F h1 h2 hF => ?_)
        · show ({ cls := cx, slots := Array.replicate y.2.2.toNat (.long 0), vm := .none } : Cell) = _
          rw [arrV_new]; rfl
        · exact ⟨fun _ => 0, rfl, fun j _ => hF j _ (fun _ _ => ⟨0, rfl, h1, h2⟩)⟩
    next => cases h
  next => cases h
/-! counters -/
def z_inc (nL k : Nat) (n : Int) (st : zS) : zR := match st with
  | (cu, su, iv, lv, sk, ov) => match z_fd lv k with
    | some v => if v.1 = 0 ∧ k < nL ∧ -32768 ≤ n ∧ n ≤ 32767 then (match z_add 0 iv v (0, 0, n) with
      | some q => some [(none, (cu, su, q.1, z_st1 lv k q.2, sk, ov))]
      | none => none) else none
    | none => none
theorem zs_inc (hx : p.tables.exec = Jvm.exec) (hb : c.code = cc) {k : Nat} {n : Int} {st : zS} {ss : List (Option Nat × zS)} (hd : decode cc pc = .ok (.iinc k n, 3)) (h : z_inc nL k n st = some ss) : zSt p l e R s m args below meth c Q D cl A cA G b sl xs fl h0 nL pc 3 st ss := by
  obtain ⟨cu, su, iv, lv, sk, ov⟩ := st
  unfold z_inc at h
  dsimp only at h
  split at h
  next v hv =>
    split at h
    next hc =>
      split at h
      next q hq =>
        cases h
        obtain ⟨hc1, hc2, hc3, hc4⟩ := hc
        intro ρ ad ws H locs ls hgm kk
        have hm := z_fd_mem hv
        have ox := z_ok0 (hgm.1.2.1 _ hm) hc1
        have eX := z_i32 ox.2.1 ox.2.2
        have eN : (Int32.ofInt n).toInt = z_val ρ (0, 0, n) := by rw [z_i32 (by omega) (by omega), z_val0 hgm.1.1]
        obtain ⟨ρ', n1, n2, n3, n4, n5, n6⟩ := zb_iadd iv v (0, 0, n) q ρ _ _ hq hgm.1.1 ox.1 hgm.1.1.2.1 eX eN
        have hg2 := hgm.mv n1 n2 n3 (fun w hw => zok_ext (hgm.1.2.2.1 w hw) n1 n2 (Nat.le_refl _))
        obtain ⟨i9, hi9⟩ := List.getElem?_of_mem (List.mem_map.mpr ⟨(k, v), hm, rfl⟩ : (k, zcv ad b ρ v) ∈ lv.map fun q => (q.1, zcv ad b ρ q.2))
        rw [z_cv0 hc1] at hi9
        show W p l e R s m args below meth c H locs cu su Q (F0 m pc ls (sk.map (zcv ad b ρ)))
        refine lv_iinc hx hb hd hgm.2.1 hi9 rfl hc2 rfl (fun ls' hl' => ?_)
        have hnew : zcv ad b ρ' q.2 = .int (Int32.ofInt (z_val ρ v) + Int32.ofInt n) := by rw [z_cv0 n4, n6, z_o32]
        have elv : (lv.map fun q => (q.1, zcv ad b ρ q.2)) = (lv.map fun q => (q.1, zcv ad b ρ' q.2)) := List.map_congr_left (fun q9 hq9 => by rw [zcv_ext (hgm.1.2.1 q9 hq9) n1 (fun _ _ => rfl)])
        rw [elv, ← hnew, z_st1_map] at hl'
        have esk : sk.map (zcv ad b ρ) = sk.map (zcv ad b ρ') := (z_skm hgm.1.2.2.1 n1 (fun _ _ => rfl)).symm
        rw [esk]
        refine kk _ (List.mem_singleton.mpr rfl) ρ' ad ws H locs ls' ⟨n1, fun _ _ => rfl, n2, Nat.le_refl _⟩ (hg2.lv hl' (fun q9 hq9 => ?_) hg2.1.2.2.1)
        rcases List.mem_cons.mp hq9 with r9 | r9
        · subst r9; exact z_ok0' n4 n5 _ n6
        · exact hg2.1.2.1 q9 (List.mem_filter.mp r9).1
      next => cases h
    next => cases h
  next => cases h
/-! constants of the pool -/
def z_ka (q : List (Nat × Int)) (k : Nat) : Option Int := match q with
  | [] => none
  | (i, v) :: r => if Nat.beq i k then some v else z_ka r k
def z_kt (KT : List (List (Nat × Int))) (cn idx : Nat) : Option Int := match KT[cn]? with
  | some q => z_ka q idx
  | none => none
def zKIOk (zN : List String) (KT : List (List (Nat × Int))) (Ts : List Jvm.Cond) : Prop := ∀ (cn idx : Nat) (v : Int) (own : String), z_kt KT cn idx = some v → zN[cn]? = some own → Jvm.Cond.constant own idx (Int32.ofInt v) ∈ Ts
def zKLOk (zN : List String) (KT : List (List (Nat × Int))) (Ts : List Jvm.Cond) : Prop := ∀ (cn idx : Nat) (v : Int) (own : String), z_kt KT cn idx = some v → zN[cn]? = some own → Jvm.Cond.constantLong own idx (Int64.ofInt v) ∈ Ts
def z_ldc (KT : List (List (Nat × Int))) (cn idx : Nat) (st : zS) : zR := match z_kt KT cn idx with
  | some v => if -2147483648 ≤ v ∧ v ≤ 2147483647 then z_push (0, 0, v) st else none
  | none => none
def z_ldc2 (KT : List (List (Nat × Int))) (cn idx : Nat) (st : zS) : zR := match z_kt KT cn idx with
  | some v => if -9223372036854775808 ≤ v ∧ v ≤ 9223372036854775807 then z_push (1, 0, v) st else none
  | none => none
theorem zs_ldc (hx : p.tables.exec = Jvm.exec) (hb : c.code = cc) (hts : ∀ w ∈ Ts, w.before args s = true) (hown : s.vm.findClass own = some m.cls) (hN : zN[cn]? = some own) {KT : List (List (Nat × Int))} (hKT : zKIOk zN KT Ts) {idx : Nat} {st : zS} {ss : List (Option Nat × zS)} (hd : decode cc pc = .ok (.ldc idx, 2)) (h : z_ldc KT cn idx st = some ss) : zSt p l e R s m args below meth c Q D cl A cA G b sl xs fl h0 nL pc 2 st ss := by
  unfold z_ldc at h
  split at h
  next v hv =>
    split at h
    next hr => exact zs_push h (fun ad ρ h0 => z_cvc h0) (fun _ _ _ hi => z_okc hi hr.1 hr.2) (fun _ _ _ _ _ _ k => lv_ldc hx hb hown (hts _ (hKT cn idx v own hv hN)) hd k)
    next => cases h
  next => cases h
theorem zs_ldcw (hx : p.tables.exec = Jvm.exec) (hb : c.code = cc) (hts : ∀ w ∈ Ts, w.before args s = true) (hown : s.vm.findClass own = some m.cls) (hN : zN[cn]? = some own) {KT : List (List (Nat × Int))} (hKT : zKIOk zN KT Ts) {idx : Nat} {st : zS} {ss : List (Option Nat × zS)} (hd : decode cc pc = .ok (.ldc_w idx, 3)) (h : z_ldc KT cn idx st = some ss) : zSt p l e R s m args below meth c Q D cl A cA G b sl xs fl h0 nL pc 3 st ss := by
  unfold z_ldc at h
  split at h
  next v hv =>
    split at h
    next hr => exact zs_push h (fun ad ρ h0 => z_cvc h0) (fun _ _ _ hi => z_okc hi hr.1 hr.2) (fun _ _ _ _ _ _ k => lv_ldcw hx hb hown (hts _ (hKT cn idx v own hv hN)) hd k)
    next => cases h
  next => cases h
theorem zs_ldc2 (hx : p.tables.exec = Jvm.exec) (hb : c.code = cc) (hts : ∀ w ∈ Ts, w.before args s = true) (hown : s.vm.findClass own = some m.cls) (hN : zN[cn]? = some own) {KT : List (List (Nat × Int))} (hKT : zKLOk zN KT Ts) {idx : Nat} {st : zS} {ss : List (Option Nat × zS)} (hd : decode cc pc = .ok (.ldc2_w idx, 3)) (h : z_ldc2 KT cn idx st = some ss) : zSt p l e R s m args below meth c Q D cl A cA G b sl xs fl h0 nL pc 3 st ss := by
  unfold z_ldc2 at h
  split at h
  next v hv =>
    split at h
    next hr => exact zs_push h (fun ad ρ h0 => z_cvl h0) (fun _ _ _ hi => z_okl hi hr.1 hr.2) (fun _ _ _ _ _ _ k => lv_ldc2 hx hb hown (hts _ (hKT cn idx v own hv hN)) hd k)
    next => cases h
  next => cases h
end ZST9
