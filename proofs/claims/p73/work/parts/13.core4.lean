/-! ===== branches ===== -/
def z_cd (cd : Jvm.ClassFile.Cond) (a b : Int) : Prop := match cd with
  | .eq => a = b
  | .ne => ¬ a = b
  | .lt => a < b
  | .ge => b ≤ a
  | .gt => b < a
  | .le => a ≤ b
theorem z_br_t {cd : Jvm.ClassFile.Cond} {iv : zI} {ρ : Nat → Int} {x y : zV} (h : ziv iv ρ) (hx : x.2.1 < iv.length) (hy : y.2.1 < iv.length) (hc : z_cd cd (z_val ρ x) (z_val ρ y)) : zRl iv ρ (z_brf cd iv x y).1 := by
  cases cd with
  | eq => exact (z_eqf_ok h hx hy hc).l
  | ne => exact z_nef_ok h hx hy hc
  | lt => exact (z_ltf_ok h hx hy hc).l
  | ge => exact (z_lef_ok h hy hx hc).l
  | gt => exact (z_ltf_ok h hy hx hc).l
  | le => exact (z_lef_ok h hx hy hc).l
theorem z_br_f {cd : Jvm.ClassFile.Cond} {iv : zI} {ρ : Nat → Int} {x y : zV} (h : ziv iv ρ) (hx : x.2.1 < iv.length) (hy : y.2.1 < iv.length) (hc : ¬ z_cd cd (z_val ρ x) (z_val ρ y)) : zRl iv ρ (z_brf cd iv x y).2 := by
  cases cd with
  | eq => exact z_nef_ok h hx hy hc
  | ne => exact (z_eqf_ok h hx hy (Classical.not_not.mp hc)).l
  | lt => exact (z_lef_ok h hy hx (Int.not_lt.mp hc)).l
  | ge => exact (z_ltf_ok h hx hy (Int.not_le.mp hc)).l
  | gt => exact (z_lef_ok h hx hy (Int.not_lt.mp hc)).l
  | le => exact (z_ltf_ok h hy hx (Int.not_le.mp hc)).l
def z_jp (pc : Nat) (off : Int) : Option Nat := if 0 ≤ (pc : Int) + off then some ((pc : Int) + off).toNat else none
theorem z_jp_ok {pc t : Nat} {off : Int} (h : z_jp pc off = some t) : (pc : Int) + off = (t : Int) := by
  unfold z_jp at h
  split at h
  next hn => cases h; omega
  next => cases h
def z_cmp (cd : Jvm.ClassFile.Cond) (pc : Nat) (off : Int) (x y : zV) (cu su : Nat) (iv : zI) (lv : zL) (r : List zV) (ov : zO) : zR := match z_jp pc off with
  | some t => some ((z_brf cd iv x y).1.map (fun i => (some t, (cu, su, i, lv, r, ov))) ++ (z_brf cd iv x y).2.map (fun i => (none, (cu, su, i, lv, r, ov))))
  | none => none
def z_icmp (cd : Jvm.ClassFile.Cond) (pc : Nat) (off : Int) (st : zS) : zR := match st with
  | (cu, su, iv, lv, y :: x :: r, ov) => if x.1 = 0 ∧ y.1 = 0 then z_cmp cd pc off x y cu su iv lv r ov else none
  | _ => none
def z_if (cd : Jvm.ClassFile.Cond) (pc : Nat) (off : Int) (st : zS) : zR := match st with
  | (cu, su, iv, lv, x :: r, ov) => if x.1 = 0 then z_cmp cd pc off x (0, 0, 0) cu su iv lv r ov else none
  | _ => none
def z_goto (pc : Nat) (off : Int) (st : zS) : zR := match z_jp pc off with
  | some t => some [(some t, st)]
  | none => none
section ZST4
variable {p : Program} {l : Launch} {e : Env} {R : Room} {s : State} {m : MethodId} {args : Array Value} {below : List Frame} {meth : Method} {c : Code} {Q : State → Prop} {D : va_G} {cl : List vw_C} {A : Nat → Prop} {cA : Nat → ClassId} {G : List zC} {b : Nat → Nat} {sl : Nat} {xs : Nat → Int32} {fl : zFl} {h0 : Heap} {nL : Nat} {cc : ByteArray} {pc : Nat}
/-! what a way on asks for -/
abbrev zKK (p : Program) (l : Launch) (e : Env) (R : Room) (s : State) (m : MethodId) (args : Array Value) (below : List Frame) (meth : Method) (c : Code) (Q : State → Prop) (D : va_G) (cl : List vw_C) (A : Nat → Prop) (cA : Nat → ClassId) (G : List zC) (b : Nat → Nat) (sl : Nat) (xs : Nat → Int32) (fl : zFl) (h0 : Heap) (nL : Nat) (pc len : Nat) (st : zS) (ρ : Nat → Int) (ad : Nat → Nat) (ss : List (Option Nat × zS)) : Prop := ∀ q ∈ ss, ∀ (ρ' : Nat → Int) (ad' : Nat → Nat) (ws' : va_W) (H' : Heap) (locs' : List Loc) (ls' : Array Slot), z_xt st q.2 ρ ad ρ' ad' → z_gs D cl A cA G b sl xs fl h0 nL q.2 ρ' ad' ws' H' locs' ls' → W p l e R s m args below meth c H' locs' q.2.1 q.2.2.1 Q (F0 m (q.1.getD (pc + len)) ls' (q.2.2.2.2.2.1.map (zcv ad' b ρ')))
/-- a narrower state, the same values -/
theorem z_rf {cu su : Nat} {iv iv' : zI} {lv : zL} {sk r : List zV} {ov : zO} {ρ : Nat → Int} {ad : Nat → Nat} {ws : va_W} {H : Heap} {locs : List Loc} {ls : Array Slot} {len : Nat} {t : Option Nat} {ss : List (Option Nat × zS)}
    (hg : z_gm D cl A cA G b sl xs fl h0 nL iv lv sk ov ρ ad ws H locs ls) (kk : zKK p l e R s m args below meth c Q D cl A cA G b sl xs fl h0 nL pc len (cu, su, iv, lv, sk, ov) ρ ad ss) (hm : (t, ((cu, su, iv', lv, r, ov) : zS)) ∈ ss) (hv : ziv iv' ρ) (hl : iv'.length = iv.length) (hs : ∀ w ∈ r, zok ov.length iv' ρ w) :
    W p l e R s m args below meth c H locs cu su Q (F0 m (t.getD (pc + len)) ls (r.map (zcv ad b ρ))) :=
  kk _ hm ρ ad ws H locs ls ⟨fun _ _ => rfl, fun _ _ => rfl, by rw [hl]; exact Nat.le_refl _, Nat.le_refl _⟩ (hg.mv (fun _ _ => rfl) (by rw [hl]; exact Nat.le_refl _) hv hs)
theorem z_okrf {n : Nat} {iv iv' : zI} {ρ : Nat → Int} {v : zV} (h : zok n iv ρ v) (hl : iv'.length = iv.length) : zok n iv' ρ v := zok_ext h (fun _ _ => rfl) (by rw [hl]; exact Nat.le_refl _) (Nat.le_refl _)
theorem z_rowc (hx : p.tables.exec = Jvm.exec) (hb : c.code = cc) {cd : Jvm.ClassFile.Cond} {off : Int} {t : Nat} (hd : decode cc pc = .ok (.if_icmp cd off, 3)) (ht : (pc : Int) + off = (t : Int)) {X Y : Int32} {H : Heap} {locs : List Loc} {cells slots : Nat} {ls : Array Slot} {rest : List Value}
    (kt : z_cd cd X.toInt Y.toInt → W p l e R s m args below meth c H locs cells slots Q (F0 m t ls rest)) (kf : ¬ z_cd cd X.toInt Y.toInt → W p l e R s m args below meth c H locs cells slots Q (F0 m (pc + 3) ls rest)) : W p l e R s m args below meth c H locs cells slots Q (F0 m pc ls (.int Y :: .int X :: rest)) := by
  cases cd with
  | eq => exact lv_icmp_eq hx hb hd ht (fun q => kt (by rw [q]; exact rfl)) (fun q => kf (fun w => q (Int32.toInt_inj.mp w)))
  | ne => exact lv_icmp_ne hx hb hd ht (fun q => kt (fun w => q (Int32.toInt_inj.mp w))) (fun q => kf (fun w => w (by rw [q])))
  | lt => exact lv_icmp_lt hx hb hd ht (fun q => kt (Int32.lt_iff_toInt_lt.mp q)) (fun q => kf (fun w => q (Int32.lt_iff_toInt_lt.mpr w)))
  | ge => exact lv_icmp_ge hx hb hd ht (fun q => kt (Int32.le_iff_toInt_le.mp q)) (fun q => kf (fun w => q (Int32.le_iff_toInt_le.mpr w)))
  | gt => exact lv_icmp_gt hx hb hd ht (fun q => kt (Int32.lt_iff_toInt_lt.mp q)) (fun q => kf (fun w => q (Int32.lt_iff_toInt_lt.mpr w)))
  | le => exact lv_icmp_le hx hb hd ht (fun q => kt (Int32.le_iff_toInt_le.mp q)) (fun q => kf (fun w => q (Int32.le_iff_toInt_le.mpr w)))
theorem z_rowi (hx : p.tables.exec = Jvm.exec) (hb : c.code = cc) {cd : Jvm.ClassFile.Cond} {off : Int} {t : Nat} (hd : decode cc pc = .ok (.ifCond cd off, 3)) (ht : (pc : Int) + off = (t : Int)) {X : Int32} {H : Heap} {locs : List Loc} {cells slots : Nat} {ls : Array Slot} {rest : List Value}
    (kt : z_cd cd X.toInt 0 → W p l e R s m args below meth c H locs cells slots Q (F0 m t ls rest)) (kf : ¬ z_cd cd X.toInt 0 → W p l e R s m args below meth c H locs cells slots Q (F0 m (pc + 3) ls rest)) : W p l e R s m args below meth c H locs cells slots Q (F0 m pc ls (.int X :: rest)) := by
  have e0 : (0 : Int32).toInt = 0 := rfl
  cases cd with
  | eq => exact lv_if_eq hx hb hd ht (fun q => kt (by rw [q]; exact rfl)) (fun q => kf (fun w => q (Int32.toInt_inj.mp w)))
  | ne => exact lv_if_ne hx hb hd ht (fun q => kt (fun w => q (Int32.toInt_inj.mp w))) (fun q => kf (fun w => w (by rw [q]; exact rfl)))
  | lt => exact lv_if_lt hx hb hd ht (fun q => kt (Int32.lt_iff_toInt_lt.mp q)) (fun q => kf (fun w => q (Int32.lt_iff_toInt_lt.mpr w)))
  | ge => exact lv_if_ge hx hb hd ht (fun q => kt (Int32.le_iff_toInt_le.mp q)) (fun q => kf (fun w => q (Int32.le_iff_toInt_le.mpr w)))
  | gt => exact lv_if_gt hx hb hd ht (fun q => kt (Int32.lt_iff_toInt_lt.mp q)) (fun q => kf (fun w => q (Int32.lt_iff_toInt_lt.mpr w)))
  | le => exact lv_if_le hx hb hd ht (fun q => kt (Int32.le_iff_toInt_le.mp q)) (fun q => kf (fun w => q (Int32.le_iff_toInt_le.mpr w)))
theorem zs_icmp (hx : p.tables.exec = Jvm.exec) (hb : c.code = cc) {cd : Jvm.ClassFile.Cond} {off : Int} {st : zS} {ss : List (Option Nat × zS)} (hd : decode cc pc = .ok (.if_icmp cd off, 3)) (h : z_icmp cd pc off st = some ss) : zSt p l e R s m args below meth c Q D cl A cA G b sl xs fl h0 nL pc 3 st ss := by
  obtain ⟨cu, su, iv, lv, sk, ov⟩ := st
  unfold z_icmp at h
  rcases sk with _ | ⟨y, _ | ⟨x, r⟩⟩
  · cases h
  · cases h
  dsimp only at h
  split at h
  next hk =>
    unfold z_cmp at h
    split at h
    next t ht =>
      cases h
      intro ρ ad ws H locs ls hg kk
      have ox := z_ok0 (hg.1.2.2.1 x (List.mem_cons_of_mem _ List.mem_cons_self)) hk.1
      have oy := z_ok0 (hg.1.2.2.1 y List.mem_cons_self) hk.2
      have hr : ∀ w ∈ r, zok ov.length iv ρ w := fun w hw => hg.1.2.2.1 w (List.mem_cons_of_mem _ (List.mem_cons_of_mem _ hw))
      show W p l e R s m args below meth c H locs cu su Q (F0 m pc ls (zcv ad b ρ y :: zcv ad b ρ x :: r.map (zcv ad b ρ)))
      rw [z_cv0 hk.1, z_cv0 hk.2]
      refine z_rowc hx hb hd (z_jp_ok ht) (fun q => ?_) (fun q => ?_)
      · rw [z_i32 ox.2.1 ox.2.2, z_i32 oy.2.1 oy.2.2] at q
        obtain ⟨iv', m1, m2, m3⟩ := z_br_t hg.1.1 ox.1 oy.1 q
        exact z_rf (t := some t) hg kk (List.mem_append_left _ (List.mem_map.mpr ⟨iv', m1, rfl⟩)) m2 m3 (fun w hw => z_okrf (hr w hw) m3)
      · rw [z_i32 ox.2.1 ox.2.2, z_i32 oy.2.1 oy.2.2] at q
        obtain ⟨iv', m1, m2, m3⟩ := z_br_f hg.1.1 ox.1 oy.1 q
        exact z_rf (t := none) hg kk (List.mem_append_right _ (List.mem_map.mpr ⟨iv', m1, rfl⟩)) m2 m3 (fun w hw => z_okrf (hr w hw) m3)
    next => cases h
  next => cases h
theorem z_val0 {iv : zI} {ρ : Nat → Int} (hi : ziv iv ρ) (k : Nat) (n : Int) : z_val ρ (k, 0, n) = n := by
  unfold z_val; dsimp only; rw [hi.1]; omega
theorem zs_if (hx : p.tables.exec = Jvm.exec) (hb : c.code = cc) {cd : Jvm.ClassFile.Cond} {off : Int} {st : zS} {ss : List (Option Nat × zS)} (hd : decode cc pc = .ok (.ifCond cd off, 3)) (h : z_if cd pc off st = some ss) : zSt p l e R s m args below meth c Q D cl A cA G b sl xs fl h0 nL pc 3 st ss := by
  obtain ⟨cu, su, iv, lv, sk, ov⟩ := st
  unfold z_if at h
  rcases sk with _ | ⟨x, r⟩
  · cases h
  dsimp only at h
  split at h
  next hk =>
    unfold z_cmp at h
    split at h
    next t ht =>
      cases h
      intro ρ ad ws H locs ls hg kk
      have ox := z_ok0 (hg.1.2.2.1 x List.mem_cons_self) hk
      have hr : ∀ w ∈ r, zok ov.length iv ρ w := fun w hw => hg.1.2.2.1 w (List.mem_cons_of_mem _ hw)
      show W p l e R s m args below meth c H locs cu su Q (F0 m pc ls (zcv ad b ρ x :: r.map (zcv ad b ρ)))
      rw [z_cv0 hk]
      refine z_rowi hx hb hd (z_jp_ok ht) (fun q => ?_) (fun q => ?_)
      · rw [z_i32 ox.2.1 ox.2.2] at q
        obtain ⟨iv', m1, m2, m3⟩ := z_br_t (x := x) (y := (0, 0, 0)) hg.1.1 ox.1 hg.1.1.2.1 (by rw [z_val0 hg.1.1]; exact q)
        exact z_rf (t := some t) hg kk (List.mem_append_left _ (List.mem_map.mpr ⟨iv', m1, rfl⟩)) m2 m3 (fun w hw => z_okrf (hr w hw) m3)
      · rw [z_i32 ox.2.1 ox.2.2] at q
        obtain ⟨iv', m1, m2, m3⟩ := z_br_f (x := x) (y := (0, 0, 0)) hg.1.1 ox.1 hg.1.1.2.1 (by rw [z_val0 hg.1.1]; exact q)
        exact z_rf (t := none) hg kk (List.mem_append_right _ (List.mem_map.mpr ⟨iv', m1, rfl⟩)) m2 m3 (fun w hw => z_okrf (hr w hw) m3)
    next => cases h
  next => cases h
theorem zs_goto (hx : p.tables.exec = Jvm.exec) (hb : c.code = cc) {off : Int} {st : zS} {ss : List (Option Nat × zS)} (hd : decode cc pc = .ok (.goto off, 3)) (h : z_goto pc off st = some ss) : zSt p l e R s m args below meth c Q D cl A cA G b sl xs fl h0 nL pc 3 st ss := by
  unfold z_goto at h
  split at h
  next t ht =>
    cases h
    intro ρ ad ws H locs ls hg kk
    refine lv_goto hx hb hd (z_jp_ok ht) ?_
    exact kk _ (List.mem_singleton.mpr rfl) ρ ad ws H locs ls ⟨fun _ _ => rfl, fun _ _ => rfl, Nat.le_refl _, Nat.le_refl _⟩ hg
  next => cases h
/-! the order of two longs -/
def z_lcmp (st : zS) : zR := match st with
  | (cu, su, iv, lv, y :: x :: r, ov) => if x.1 = 1 ∧ y.1 = 1 then some ((z_ol (z_ltf iv x y)).map (fun i => (none, (cu, su, i, lv, (0, 0, -1) :: r, ov))) ++ ((z_ol (z_eqf iv x y)).map (fun i => (none, (cu, su, i, lv, (0, 0, 0) :: r, ov))) ++ (z_ol (z_ltf iv y x)).map (fun i => (none, (cu, su, i, lv, (0, 0, 1) :: r, ov))))) else none
  | _ => none
theorem zs_lcmp (hx : p.tables.exec = Jvm.exec) (hb : c.code = cc) {st : zS} {ss : List (Option Nat × zS)} (hd : decode cc pc = .ok (.lcmp, 1)) (h : z_lcmp st = some ss) : zSt p l e R s m args below meth c Q D cl A cA G b sl xs fl h0 nL pc 1 st ss := by
  obtain ⟨cu, su, iv, lv, sk, ov⟩ := st
  unfold z_lcmp at h
  rcases sk with _ | ⟨y, _ | ⟨x, r⟩⟩
  · cases h
  · cases h
  dsimp only at h
  split at h
  next hk =>
    cases h
    intro ρ ad ws H locs ls hg kk
    have ox := z_ok1 (hg.1.2.2.1 x (List.mem_cons_of_mem _ List.mem_cons_self)) hk.1
    have oy := z_ok1 (hg.1.2.2.1 y List.mem_cons_self) hk.2
    have eX := z_i64 ox.2.1 ox.2.2
    have eY := z_i64 oy.2.1 oy.2.2
    have hr : ∀ w ∈ r, zok ov.length iv ρ w := fun w hw => hg.1.2.2.1 w (List.mem_cons_of_mem _ (List.mem_cons_of_mem _ hw))
    show W p l e R s m args below meth c H locs cu su Q (F0 m pc ls (zcv ad b ρ y :: zcv ad b ρ x :: r.map (zcv ad b ρ)))
    rw [z_cv1 hk.1, z_cv1 hk.2]
    refine W.lcmp hx hb hd ?_
    have fin : ∀ (n : Int) (iv' : zI) (X : Int32), -2147483648 ≤ n → n ≤ 2147483647 → Int32.ofInt n = X → (none, ((cu, su, iv', lv, (0, 0, n) :: r, ov) : zS)) ∈ ((z_ol (z_ltf iv x y)).map (fun i => ((none : Option Nat), ((cu, su, i, lv, (0, 0, -1) :: r, ov) : zS))) ++ ((z_ol (z_eqf iv x y)).map (fun i => (none, (cu, su, i, lv, (0, 0, 0) :: r, ov))) ++ (z_ol (z_ltf iv y x)).map (fun i => (none, (cu, su, i, lv, (0, 0, 1) :: r, ov))))) → ziv iv' ρ → iv'.length = iv.length → W p l e R s m args below meth c H locs cu su Q (F0 m (pc + 1) ls (.int X :: r.map (zcv ad b ρ))) := by
      intro n iv' X n1 n2 eX hm m2 m3
      have hq := z_rf (t := none) hg kk hm m2 m3 (fun w hw => (List.mem_cons.mp hw).elim (fun q => by rw [q]; exact z_okc m2 n1 n2) (fun q => z_okrf (hr w q) m3))
      have e : ((0, 0, n) :: r : List zV).map (zcv ad b ρ) = .int X :: r.map (zcv ad b ρ) := by rw [List.map_cons, z_cvc m2.1, eX]
      rw [← e]; exact hq
    by_cases h1 : z_val ρ x < z_val ρ y
    · obtain ⟨iv', m1, m2, m3⟩ := (z_ltf_ok hg.1.1 ox.1 oy.1 h1).l
      have ev : lg_cmp (Int64.ofInt (z_val ρ x)) (Int64.ofInt (z_val ρ y)) = -1 := by
        unfold lg_cmp
        rw [if_neg (by show ¬ _ > _; rw [gt_iff_lt, Int64.lt_iff_toInt_lt, eX, eY]; omega), if_neg (by rw [← Int64.toInt_inj, eX, eY]; omega)]
      exact fin (-1) iv' _ (by omega) (by omega) (by rw [ev]; rfl) (List.mem_append_left _ (List.mem_map.mpr ⟨iv', m1, rfl⟩)) m2 m3
    · by_cases h2 : z_val ρ x = z_val ρ y
      · obtain ⟨iv', m1, m2, m3⟩ := (z_eqf_ok hg.1.1 ox.1 oy.1 h2).l
        have ev : lg_cmp (Int64.ofInt (z_val ρ x)) (Int64.ofInt (z_val ρ y)) = 0 := by
          unfold lg_cmp
          rw [if_neg (by show ¬ _ > _; rw [gt_iff_lt, Int64.lt_iff_toInt_lt, eX, eY]; omega), if_pos (by rw [h2])]
        exact fin 0 iv' _ (by omega) (by omega) (by rw [ev]; rfl) (List.mem_append_right _ (List.mem_append_left _ (List.mem_map.mpr ⟨iv', m1, rfl⟩))) m2 m3
      · obtain ⟨iv', m1, m2, m3⟩ := (z_ltf_ok (x := y) (y := x) hg.1.1 oy.1 ox.1 (by omega)).l
        have ev : lg_cmp (Int64.ofInt (z_val ρ x)) (Int64.ofInt (z_val ρ y)) = 1 := by
          unfold lg_cmp
          rw [if_pos (by show _ > _; rw [gt_iff_lt, Int64.lt_iff_toInt_lt, eX, eY]; omega)]
        exact fin 1 iv' _ (by omega) (by omega) (by rw [ev]; rfl) (List.mem_append_right _ (List.mem_append_right _ (List.mem_map.mpr ⟨iv', m1, rfl⟩))) m2 m3
  next => cases h
/-! switches -/
def z_tab (f : zI → zS) (iv : zI) (x : zV) (pc : Nat) : Int → List Int → Option (List (Option Nat × zS))
  | _, [] => some []
  | k, o :: r => match z_jp pc o, z_tab f iv x pc (k + 1) r with
    | some t, some q => some ((z_ol (z_eq iv x (0, 0, k))).map (fun i => (some t, f i)) ++ q)
    | _, _ => none
theorem z_tab_ok {f : zI → zS} {iv : zI} {x : zV} {pc : Nat} {ρ : Nat → Int} (hi : ziv iv ρ) : ∀ (offs : List Int) (k : Int) (q : List (Option Nat × zS)), z_tab f iv x pc k offs = some q → ∀ (j : Nat) (off : Int), offs[j]? = some off → z_val ρ x = k + j → ∃ (t : Nat) (iv' : zI), (pc : Int) + off = (t : Int) ∧ (some t, f iv') ∈ q ∧ ziv iv' ρ ∧ iv'.length = iv.length
  | [], _, _, _, j, off, hj, _ => by cases hj
  | o :: r, k, q, h, j, off, hj, hv => by
    unfold z_tab at h
    split at h
    next t q' ht hq' =>
      cases h
      match j, hj with
      | 0, hj =>
        cases hj
        obtain ⟨iv', m1, m2, m3⟩ := (z_eq_ok (x := x) (y := (0, 0, k)) hi (by rw [z_val0 hi]; omega)).l
        exact ⟨t, iv', z_jp_ok ht, List.mem_append_left _ (List.mem_map.mpr ⟨iv', m1, rfl⟩), m2, m3⟩
      | j + 1, hj =>
        obtain ⟨t', iv', a1, a2, a3⟩ := z_tab_ok hi r (k + 1) q' hq' j off hj (by omega)
        exact ⟨t', iv', a1, List.mem_append_right _ a2, a3⟩
    next => cases h
def z_tsw (pc : Nat) (dflt lo hi : Int) (offs : Array Int) (st : zS) : zR := match st with
  | (cu, su, iv, lv, x :: r, ov) => if x.1 = 0 ∧ (offs.toList.length : Int) = hi - lo + 1 then (match z_jp pc dflt, z_tab (fun i => (cu, su, i, lv, r, ov)) iv x pc lo offs.toList with
    | some t, some q => some (q ++ ((z_ol (z_lt iv x (0, 0, lo))).map (fun i => (some t, (cu, su, i, lv, r, ov))) ++ (z_ol (z_lt iv (0, 0, hi) x)).map (fun i => (some t, (cu, su, i, lv, r, ov)))))
    | _, _ => none) else none
  | _ => none
theorem zs_tsw (hx : p.tables.exec = Jvm.exec) (hb : c.code = cc) {dflt lo hi : Int} {offs : Array Int} {len : Nat} {st : zS} {ss : List (Option Nat × zS)} (hd : decode cc pc = .ok (.tableswitch dflt lo hi offs, len)) (h : z_tsw pc dflt lo hi offs st = some ss) : zSt p l e R s m args below meth c Q D cl A cA G b sl xs fl h0 nL pc len st ss := by
  obtain ⟨cu, su, iv, lv, sk, ov⟩ := st
  unfold z_tsw at h
  rcases sk with _ | ⟨x, r⟩
  · cases h
  dsimp only at h
  split at h
  next hk =>
    split at h
    next t q ht hq =>
      cases h
      intro ρ ad ws H locs ls hg kk
      have ox := z_ok0 (hg.1.2.2.1 x List.mem_cons_self) hk.1
      have eX := z_i32 ox.2.1 ox.2.2
      have hr : ∀ w ∈ r, zok ov.length iv ρ w := fun w hw => hg.1.2.2.1 w (List.mem_cons_of_mem _ hw)
      show W p l e R s m args below meth c H locs cu su Q (F0 m pc ls (zcv ad b ρ x :: r.map (zcv ad b ρ)))
      rw [z_cv0 hk.1]
      by_cases h1 : z_val ρ x < lo
      · refine lv_tableOut hx hb hd (Or.inl (by rw [eX]; exact h1)) (z_jp_ok ht) ?_
        obtain ⟨iv', m1, m2, m3⟩ := (z_lt_ok (x := x) (y := (0, 0, lo)) hg.1.1 (by rw [z_val0 hg.1.1]; exact h1)).l
        exact z_rf (t := some t) hg kk (List.mem_append_right _ (List.mem_append_left _ (List.mem_map.mpr ⟨iv', m1, rfl⟩))) m2 m3 (fun w hw => z_okrf (hr w hw) m3)
      · by_cases h2 : hi < z_val ρ x
        · refine lv_tableOut hx hb hd (Or.inr (by rw [eX]; exact h2)) (z_jp_ok ht) ?_
          obtain ⟨iv', m1, m2, m3⟩ := (z_lt_ok (x := (0, 0, hi)) (y := x) hg.1.1 (by rw [z_val0 hg.1.1]; exact h2)).l
          exact z_rf (t := some t) hg kk (List.mem_append_right _ (List.mem_append_right _ (List.mem_map.mpr ⟨iv', m1, rfl⟩))) m2 m3 (fun w hw => z_okrf (hr w hw) m3)
        · have hj : (z_val ρ x - lo).toNat < offs.toList.length := by omega
          obtain ⟨off, ho⟩ : ∃ off, offs.toList[(z_val ρ x - lo).toNat]? = some off := ⟨_, List.getElem?_eq_getElem hj⟩
          obtain ⟨t', iv', a1, a2, a3, a4⟩ := z_tab_ok hg.1.1 offs.toList lo q hq _ off ho (by omega)
          refine lv_tableIn hx hb hd (by rw [eX]; exact h1) (by rw [eX]; exact h2) (off := off) (by rw [eX, ← Array.getElem?_toList]; exact ho) a1 ?_
          exact z_rf (t := some t') hg kk (List.mem_append_left _ a2) a3 a4 (fun w hw => z_okrf (hr w hw) a4)
    next => cases h
  next => cases h
def z_lks (f : zI → zS) (x : zV) (pc : Nat) (dflt : Int) : List (Int × Int) → List zI → Option (List (Option Nat × zS))
  | [], ivs => match z_jp pc dflt with
    | some t => some (ivs.map (fun i => (some t, f i)))
    | none => none
  | (a, o) :: r, ivs => match z_jp pc o, z_lks f x pc dflt r (ivs.flatMap (fun i => z_ne i x (0, 0, a))) with
    | some t, some q => some ((ivs.flatMap (fun i => z_ol (z_eq i x (0, 0, a)))).map (fun i => (some t, f i)) ++ q)
    | _, _ => none
theorem z_lks_ok {f : zI → zS} {x : zV} {pc : Nat} {dflt : Int} {ρ : Nat → Int} : ∀ (ps : List (Int × Int)) (ivs : List zI) (q : List (Option Nat × zS)), z_lks f x pc dflt ps ivs = some q → ∀ iv ∈ ivs, ziv iv ρ → ∃ (t : Nat) (iv' : zI), (pc : Int) + Op.lookupswitch.offset ps dflt (z_val ρ x) = (t : Int) ∧ (some t, f iv') ∈ q ∧ ziv iv' ρ ∧ iv'.length = iv.length
  | [], ivs, q, h, iv, hm, hi => by
    unfold z_lks at h
    split at h
    next t ht => cases h; exact ⟨t, iv, z_jp_ok ht, List.mem_map.mpr ⟨iv, hm, rfl⟩, hi, rfl⟩
    next => cases h
  | (a, o) :: r, ivs, q, h, iv, hm, hi => by
    unfold z_lks at h
    split at h
    next t q' ht hq' =>
      cases h
      by_cases ha : z_val ρ x = a
      · obtain ⟨iv', m1, m2, m3⟩ := (z_eq_ok (x := x) (y := (0, 0, a)) hi (by rw [z_val0 hi]; exact ha)).l
        refine ⟨t, iv', ?_, List.mem_append_left _ (List.mem_map.mpr ⟨iv', List.mem_flatMap.mpr ⟨iv, hm, m1⟩, rfl⟩), m2, m3⟩
        rw [Op.lookupswitch.offset_cons, if_pos ha.symm]
        exact z_jp_ok ht
      · obtain ⟨iv1, m1, m2, m3⟩ := z_ne_ok (x := x) (y := (0, 0, a)) hi (by rw [z_val0 hi]; exact ha)
        obtain ⟨t', iv', a1, a2, a3, a4⟩ := z_lks_ok r _ q' hq' iv1 (List.mem_flatMap.mpr ⟨iv, hm, m1⟩) m2
        refine ⟨t', iv', ?_, List.mem_append_right _ a2, a3, a4.trans m3⟩
        rw [Op.lookupswitch.offset_cons, if_neg (fun e => ha e.symm)]
        exact a1
    next => cases h
def z_lsw (pc : Nat) (dflt : Int) (ps : Array (Int × Int)) (st : zS) : zR := match st with
  | (cu, su, iv, lv, x :: r, ov) => if x.1 = 0 ∧ (ps.toList.zip (ps.toList.drop 1)).all (fun (a, next) => a.1 < next.1) = true then z_lks (fun i => (cu, su, i, lv, r, ov)) x pc dflt ps.toList [iv] else none
  | _ => none
theorem zs_lsw (hx : p.tables.exec = Jvm.exec) (hb : c.code = cc) {dflt : Int} {ps : Array (Int × Int)} {len : Nat} {st : zS} {ss : List (Option Nat × zS)} (hd : decode cc pc = .ok (.lookupswitch dflt ps, len)) (h : z_lsw pc dflt ps st = some ss) : zSt p l e R s m args below meth c Q D cl A cA G b sl xs fl h0 nL pc len st ss := by
  obtain ⟨cu, su, iv, lv, sk, ov⟩ := st
  unfold z_lsw at h
  rcases sk with _ | ⟨x, r⟩
  · cases h
  dsimp only at h
  split at h
  next hk =>
    intro ρ ad ws H locs ls hg kk
    have ox := z_ok0 (hg.1.2.2.1 x List.mem_cons_self) hk.1
    have eX := z_i32 ox.2.1 ox.2.2
    have hr : ∀ w ∈ r, zok ov.length iv ρ w := fun w hw => hg.1.2.2.1 w (List.mem_cons_of_mem _ hw)
    show W p l e R s m args below meth c H locs cu su Q (F0 m pc ls (zcv ad b ρ x :: r.map (zcv ad b ρ)))
    rw [z_cv0 hk.1]
    obtain ⟨t, iv', a1, a2, a3, a4⟩ := z_lks_ok _ _ _ h iv (List.mem_singleton.mpr rfl) hg.1.1
    refine lv_lookup hx hb hd hk.2 (by rw [eX]) a1 ?_
    exact z_rf (t := some t) hg kk a2 a3 a4 (fun w hw => z_okrf (hr w hw) a4)
  next => cases h
end ZST4
