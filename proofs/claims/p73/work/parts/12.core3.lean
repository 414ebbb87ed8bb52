section ZST3
variable {p : Program} {l : Launch} {e : Env} {R : Room} {s : State} {m : MethodId} {args : Array Value} {below : List Frame} {meth : Method} {c : Code} {Q : State → Prop} {D : va_G} {cl : List vw_C} {A : Nat → Prop} {cA : Nat → ClassId} {G : List zC} {b : Nat → Nat} {sl : Nat} {xs : Nat → Int32} {fl : zFl} {h0 : Heap} {nL : Nat} {cc : ByteArray} {pc : Nat}
theorem z_ok0 {n : Nat} {iv : zI} {ρ : Nat → Int} {v : zV} (h : zok n iv ρ v) (hk : v.1 = 0) : v.2.1 < iv.length ∧ -2147483648 ≤ z_val ρ v ∧ z_val ρ v ≤ 2147483647 := by
  unfold zok at h; rw [hk] at h; exact h
theorem z_ok1 {n : Nat} {iv : zI} {ρ : Nat → Int} {v : zV} (h : zok n iv ρ v) (hk : v.1 = 1) : v.2.1 < iv.length ∧ -9223372036854775808 ≤ z_val ρ v ∧ z_val ρ v ≤ 9223372036854775807 := by
  unfold zok at h; rw [hk] at h; exact h
theorem z_ok0' {n : Nat} {iv : zI} {ρ : Nat → Int} {v : zV} (hk : v.1 = 0) (h1 : v.2.1 < iv.length) (x : Int32) (hx : z_val ρ v = x.toInt) : zok n iv ρ v := by
  unfold zok; rw [hk]; exact ⟨h1, by rw [hx]; exact (z_r32 x).1, by rw [hx]; exact (z_r32 x).2⟩
theorem z_ok1' {n : Nat} {iv : zI} {ρ : Nat → Int} {v : zV} (hk : v.1 = 1) (h1 : v.2.1 < iv.length) (x : Int64) (hx : z_val ρ v = x.toInt) : zok n iv ρ v := by
  unfold zok; rw [hk]; exact ⟨h1, by rw [hx]; exact (z_r64 x).1, by rw [hx]; exact (z_r64 x).2⟩
theorem z_cv0 {v : zV} (hk : v.1 = 0) (ad : Nat → Nat) (b : Nat → Nat) (ρ : Nat → Int) : zcv ad b ρ v = .int (Int32.ofInt (z_val ρ v)) := by unfold zcv; rw [hk]; rfl
theorem z_cv1 {v : zV} (hk : v.1 = 1) (ad : Nat → Nat) (b : Nat → Nat) (ρ : Nat → Int) : zcv ad b ρ v = .long (Int64.ofInt (z_val ρ v)) := by unfold zcv; rw [hk]; rfl
theorem z_cv2 {v : zV} (hk : v.1 = 2) (ad : Nat → Nat) (b : Nat → Nat) (ρ : Nat → Int) : zcv ad b ρ v = .ref (ad v.2.1) := by unfold zcv; rw [hk]; rfl
/-! one new value in place of k old ones -/
theorem z_fin {cu su : Nat} {iv iv' : zI} {lv : zL} {sk r : List zV} {ov : zO} {ρ ρ' : Nat → Int} {ad : Nat → Nat} {ws : va_W} {H : Heap} {locs : List Loc} {ls : Array Slot} {len : Nat} {v : zV} {x : Value}
    (hg : z_gm D cl A cA G b sl xs fl h0 nL iv lv sk ov ρ ad ws H locs ls) (hsub : ∀ w ∈ r, w ∈ sk) (hx : ∀ i, i < iv.length → ρ' i = ρ i) (hl : iv.length ≤ iv'.length) (hv : ziv iv' ρ') (hvo : zok ov.length iv' ρ' v) (hvx : zcv ad b ρ' v = x)
    (kk : ∀ q ∈ [((none : Option Nat), ((cu, su, iv', lv, v :: r, ov) : zS))], ∀ (ρ' : Nat → Int) (ad' : Nat → Nat) (ws' : va_W) (H' : Heap) (locs' : List Loc) (ls' : Array Slot), z_xt (cu, su, iv, lv, sk, ov) q.2 ρ ad ρ' ad' → z_gs D cl A cA G b sl xs fl h0 nL q.2 ρ' ad' ws' H' locs' ls' → W p l e R s m args below meth c H' locs' q.2.1 q.2.2.1 Q (F0 m (q.1.getD (pc + len)) ls' (q.2.2.2.2.2.1.map (zcv ad' b ρ')))) :
    W p l e R s m args below meth c H locs cu su Q (F0 m (pc + len) ls (x :: r.map (zcv ad b ρ))) := by
  have hq := kk _ (List.mem_singleton.mpr rfl) ρ' ad ws H locs ls ⟨hx, fun _ _ => rfl, hl, Nat.le_refl _⟩ (hg.mv hx hl hv (fun w hw => (List.mem_cons.mp hw).elim (fun q => by rw [q]; exact hvo) (fun q => zok_ext (hg.1.2.2.1 w (hsub w q)) hx hl (Nat.le_refl _))))
  have e : (v :: r).map (zcv ad b ρ') = x :: r.map (zcv ad b ρ) := by
    rw [List.map_cons, hvx, z_skm (fun w hw => hg.1.2.2.1 w (hsub w hw)) hx (fun _ _ => rfl)]
  rw [← e]
  exact hq
def z_bo (k1 k2 : Nat) (f : zI → zV → zV → Option (zI × zV)) (st : zS) : zR := match st with
  | (cu, su, iv, lv, y :: x :: r, ov) => if x.1 = k1 ∧ y.1 = k2 then (match f iv x y with
      | some q => some [(none, (cu, su, q.1, lv, q.2 :: r, ov))]
      | none => none) else none
  | _ => none
theorem z_bo_inv {k1 k2 : Nat} {f : zI → zV → zV → Option (zI × zV)} {st : zS} {ss : List (Option Nat × zS)} (h : z_bo k1 k2 f st = some ss) : ∃ cu su iv lv y x r ov q, st = (cu, su, iv, lv, y :: x :: r, ov) ∧ x.1 = k1 ∧ y.1 = k2 ∧ f iv x y = some q ∧ ss = [(none, (cu, su, q.1, lv, q.2 :: r, ov))] := by
  obtain ⟨cu, su, iv, lv, sk, ov⟩ := st
  unfold z_bo at h
  rcases sk with _ | ⟨y, _ | ⟨x, r⟩⟩
  · cases h
  · cases h
  dsimp only at h
  split at h
  next hk =>
    split at h
    next q hq => cases h; exact ⟨cu, su, iv, lv, y, x, r, ov, q, rfl, hk.1, hk.2, hq, rfl⟩
    next => cases h
  next => cases h
theorem zs_bi {len : Nat} {op : Int32 → Int32 → Int32} {f : zI → zV → zV → Option (zI × zV)} {st : zS} {ss : List (Option Nat × zS)} (hf : zBi op f) (h : z_bo 0 0 f st = some ss)
    (hr : ∀ (X Y : Int32) (H : Heap) (locs : List Loc) (cells slots : Nat) (ls : Array Slot) (rest : List Value), (∃ iv x y ρ, f iv x y ≠ none ∧ ziv iv ρ ∧ Y.toInt = z_val ρ y) → W p l e R s m args below meth c H locs cells slots Q (F0 m (pc + len) ls (.int (op X Y) :: rest)) → W p l e R s m args below meth c H locs cells slots Q (F0 m pc ls (.int Y :: .int X :: rest))) : zSt p l e R s m args below meth c Q D cl A cA G b sl xs fl h0 nL pc len st ss := by
  obtain ⟨cu, su, iv, lv, y, x, r, ov, q, rfl, hx, hy, hq, rfl⟩ := z_bo_inv h
  intro ρ ad ws H locs ls hg kk
  have ox := z_ok0 (hg.1.2.2.1 x (List.mem_cons_of_mem _ List.mem_cons_self)) hx
  have oy := z_ok0 (hg.1.2.2.1 y List.mem_cons_self) hy
  have eX := z_i32 ox.2.1 ox.2.2
  have eY := z_i32 oy.2.1 oy.2.2
  obtain ⟨ρ', n1, n2, n3, n4, n5, n6⟩ := hf iv x y q ρ _ _ hq hg.1.1 ox.1 oy.1 eX eY
  show W p l e R s m args below meth c H locs cu su Q (F0 m pc ls (zcv ad b ρ y :: zcv ad b ρ x :: r.map (zcv ad b ρ)))
  rw [z_cv0 hx, z_cv0 hy]
  refine hr _ _ _ _ _ _ _ _ ⟨iv, x, y, ρ, (by rw [hq]; exact fun h => by cases h), hg.1.1, eY⟩ ?_
  exact z_fin hg (fun w hw => List.mem_cons_of_mem _ (List.mem_cons_of_mem _ hw)) n1 n2 n3 (z_ok0' n4 n5 _ n6) (by rw [z_cv0 n4, n6, z_o32]) kk
theorem zs_bl {len : Nat} {op : Int64 → Int64 → Int64} {f : zI → zV → zV → Option (zI × zV)} {st : zS} {ss : List (Option Nat × zS)} (hf : zBl op f) (h : z_bo 1 1 f st = some ss)
    (hr : ∀ (X Y : Int64) (H : Heap) (locs : List Loc) (cells slots : Nat) (ls : Array Slot) (rest : List Value), (∃ iv x y ρ, f iv x y ≠ none ∧ ziv iv ρ ∧ Y.toInt = z_val ρ y) → W p l e R s m args below meth c H locs cells slots Q (F0 m (pc + len) ls (.long (op X Y) :: rest)) → W p l e R s m args below meth c H locs cells slots Q (F0 m pc ls (.long Y :: .long X :: rest))) : zSt p l e R s m args below meth c Q D cl A cA G b sl xs fl h0 nL pc len st ss := by
  obtain ⟨cu, su, iv, lv, y, x, r, ov, q, rfl, hx, hy, hq, rfl⟩ := z_bo_inv h
  intro ρ ad ws H locs ls hg kk
  have ox := z_ok1 (hg.1.2.2.1 x (List.mem_cons_of_mem _ List.mem_cons_self)) hx
  have oy := z_ok1 (hg.1.2.2.1 y List.mem_cons_self) hy
  have eX := z_i64 ox.2.1 ox.2.2
  have eY := z_i64 oy.2.1 oy.2.2
  obtain ⟨ρ', n1, n2, n3, n4, n5, n6⟩ := hf iv x y q ρ _ _ hq hg.1.1 ox.1 oy.1 eX eY
  show W p l e R s m args below meth c H locs cu su Q (F0 m pc ls (zcv ad b ρ y :: zcv ad b ρ x :: r.map (zcv ad b ρ)))
  rw [z_cv1 hx, z_cv1 hy]
  refine hr _ _ _ _ _ _ _ _ ⟨iv, x, y, ρ, (by rw [hq]; exact fun h => by cases h), hg.1.1, eY⟩ ?_
  exact z_fin hg (fun w hw => List.mem_cons_of_mem _ (List.mem_cons_of_mem _ hw)) n1 n2 n3 (z_ok1' n4 n5 _ n6) (by rw [z_cv1 n4, n6, z_o64]) kk
theorem zs_bs {len : Nat} {op : Int64 → Int32 → Int64} {f : zI → zV → zV → Option (zI × zV)} {st : zS} {ss : List (Option Nat × zS)} (hf : zBs op f) (h : z_bo 1 0 f st = some ss)
    (hr : ∀ (X : Int64) (Y : Int32) (H : Heap) (locs : List Loc) (cells slots : Nat) (ls : Array Slot) (rest : List Value), W p l e R s m args below meth c H locs cells slots Q (F0 m (pc + len) ls (.long (op X Y) :: rest)) → W p l e R s m args below meth c H locs cells slots Q (F0 m pc ls (.int Y :: .long X :: rest))) : zSt p l e R s m args below meth c Q D cl A cA G b sl xs fl h0 nL pc len st ss := by
  obtain ⟨cu, su, iv, lv, y, x, r, ov, q, rfl, hx, hy, hq, rfl⟩ := z_bo_inv h
  intro ρ ad ws H locs ls hg kk
  have ox := z_ok1 (hg.1.2.2.1 x (List.mem_cons_of_mem _ List.mem_cons_self)) hx
  have oy := z_ok0 (hg.1.2.2.1 y List.mem_cons_self) hy
  have eX := z_i64 ox.2.1 ox.2.2
  have eY := z_i32 oy.2.1 oy.2.2
  obtain ⟨ρ', n1, n2, n3, n4, n5, n6⟩ := hf iv x y q ρ _ _ hq hg.1.1 ox.1 oy.1 eX eY
  show W p l e R s m args below meth c H locs cu su Q (F0 m pc ls (zcv ad b ρ y :: zcv ad b ρ x :: r.map (zcv ad b ρ)))
  rw [z_cv1 hx, z_cv0 hy]
  refine hr _ _ _ _ _ _ _ _ ?_
  exact z_fin hg (fun w hw => List.mem_cons_of_mem _ (List.mem_cons_of_mem _ hw)) n1 n2 n3 (z_ok1' n4 n5 _ n6) (by rw [z_cv1 n4, n6, z_o64]) kk
abbrev cfI (op : Int32 → Int32 → Int32) : Int → Int → Int := fun a b => (op (Int32.ofInt a) (Int32.ofInt b)).toInt
abbrev cfL (op : Int64 → Int64 → Int64) : Int → Int → Int := fun a b => (op (Int64.ofInt a) (Int64.ofInt b)).toInt
abbrev cfS (op : Int64 → Int32 → Int64) : Int → Int → Int := fun a b => (op (Int64.ofInt a) (Int32.ofInt b)).toInt
theorem zs_iadd (hx : p.tables.exec = Jvm.exec) (hb : c.code = cc) {st : zS} {ss : List (Option Nat × zS)} (hd : decode cc pc = .ok (.iadd, 1)) (h : z_bo 0 0 (z_em 0 (z_add2 0)) st = some ss) : zSt p l e R s m args below meth c Q D cl A cA G b sl xs fl h0 nL pc 1 st ss := zs_bi zb_iaddE h (fun X Y _ _ _ _ _ _ _ k => lv_iadd hx hb hd k)
theorem zs_isub (hx : p.tables.exec = Jvm.exec) (hb : c.code = cc) {st : zS} {ss : List (Option Nat × zS)} (hd : decode cc pc = .ok (.isub, 1)) (h : z_bo 0 0 (z_em 1 (z_sub2 0)) st = some ss) : zSt p l e R s m args below meth c Q D cl A cA G b sl xs fl h0 nL pc 1 st ss := zs_bi zb_isubE h (fun X Y _ _ _ _ _ _ _ k => lv_isub hx hb hd k)
theorem zs_imul (hx : p.tables.exec = Jvm.exec) (hb : c.code = cc) {st : zS} {ss : List (Option Nat × zS)} (hd : decode cc pc = .ok (.imul, 1)) (h : z_bo 0 0 (z_em 2 (z_mul 0 (cfI fun a b => a * b))) st = some ss) : zSt p l e R s m args below meth c Q D cl A cA G b sl xs fl h0 nL pc 1 st ss := zs_bi zb_imulE h (fun X Y _ _ _ _ _ _ _ k => lv_imul hx hb hd k)
theorem zs_iand (hx : p.tables.exec = Jvm.exec) (hb : c.code = cc) {st : zS} {ss : List (Option Nat × zS)} (hd : decode cc pc = .ok (.iand, 1)) (h : z_bo 0 0 (z_em 3 (z_and (cfI fun a b => a &&& b))) st = some ss) : zSt p l e R s m args below meth c Q D cl A cA G b sl xs fl h0 nL pc 1 st ss := zs_bi zb_iandE h (fun X Y _ _ _ _ _ _ _ k => lv_iand hx hb hd k)
/-- the first int of a step, by 127: a symbol of its own -/
def z_ian (fl : Bool) (st : zS) : zR := match st with
  | (cu, su, iv, lv, (0, 0, 127) :: (0, 2, 0) :: r, ov) => if fl = true then some [(none, (cu, su, iv, lv, (0, 9, 0) :: r, ov))] else none
  | _ => none
theorem zs_ian (hx : p.tables.exec = Jvm.exec) (hb : c.code = cc) {st : zS} {ss : List (Option Nat × zS)} (hd : decode cc pc = .ok (.iand, 1)) (h : z_ian fl.1 st = some ss) : zSt p l e R s m args below meth c Q D cl A cA G b sl xs fl h0 nL pc 1 st ss := by
  unfold z_ian at h
  split at h
  next cu su iv lv r ov =>
    split at h
    next hf =>
      cases h
      intro ρ ad ws H locs ls hg kk
      obtain ⟨s1, s2, s3, s4⟩ := hg.2.2.2.2.2.2.1.2 hf
      have hl9 : 9 < iv.length := hg.2.2.2.2.2.2.2.1
      have e2 : zcv ad b ρ (0, 2, 0) = .int (xs (ρ 8).toNat) := by
        rw [z_cv0 rfl]
        have e : z_val ρ (0, 2, 0) = (xs (ρ 8).toNat).toInt := by
          show ρ 2 + 0 = _
          have := s3 0 (by omega)
          rw [Nat.add_zero] at this
          rw [Int.add_zero]
          exact this
        rw [e, z_o32]
      have e7 : zcv ad b ρ (0, 0, 127) = .int 127 := by
        rw [z_cv0 rfl]
        have e : z_val ρ (0, 0, 127) = 127 := by show ρ 0 + 127 = 127; rw [hg.1.1.1]; rfl
        rw [e]; rfl
      have ev : z_val ρ (0, 9, 0) = (xs (ρ 8).toNat &&& 127).toInt := by show ρ 9 + 0 = _; rw [s4]; omega
      show W p l e R s m args below meth c H locs cu su Q (F0 m pc ls (zcv ad b ρ (0, 0, 127) :: zcv ad b ρ (0, 2, 0) :: r.map (zcv ad b ρ)))
      rw [e2, e7]
      refine lv_iand hx hb hd ?_
      exact z_fin (v := (0, 9, 0)) hg (fun w hw => List.mem_cons_of_mem _ (List.mem_cons_of_mem _ hw)) (fun _ _ => rfl) (Nat.le_refl _) hg.1.1 (z_ok0' rfl hl9 _ ev) (by rw [z_cv0 rfl, ev, z_o32]) kk
    next => cases h
  next => cases h
theorem zs_ior (hx : p.tables.exec = Jvm.exec) (hb : c.code = cc) {st : zS} {ss : List (Option Nat × zS)} (hd : decode cc pc = .ok (.ior, 1)) (h : z_bo 0 0 (z_or2 (cfI fun a b => a ||| b)) st = some ss) : zSt p l e R s m args below meth c Q D cl A cA G b sl xs fl h0 nL pc 1 st ss := zs_bi zb_ior2 h (fun X Y _ _ _ _ _ _ _ k => lv_ior hx hb hd k)
theorem zs_ixor (hx : p.tables.exec = Jvm.exec) (hb : c.code = cc) {st : zS} {ss : List (Option Nat × zS)} (hd : decode cc pc = .ok (.ixor, 1)) (h : z_bo 0 0 (z_fold 0 (cfI fun a b => a ^^^ b)) st = some ss) : zSt p l e R s m args below meth c Q D cl A cA G b sl xs fl h0 nL pc 1 st ss := zs_bi (zb_ifold fun a b => a ^^^ b) h (fun X Y _ _ _ _ _ _ _ k => lv_ixor hx hb hd k)
theorem zs_ishl (hx : p.tables.exec = Jvm.exec) (hb : c.code = cc) {st : zS} {ss : List (Option Nat × zS)} (hd : decode cc pc = .ok (.ishl, 1)) (h : z_bo 0 0 (z_sft 0 31 (cfI fun a b => a <<< (b &&& 31))) st = some ss) : zSt p l e R s m args below meth c Q D cl A cA G b sl xs fl h0 nL pc 1 st ss := zs_bi (zb_isft (fun a b => a <<< (b &&& 31)) 31) h (fun X Y _ _ _ _ _ _ _ k => lv_ishl hx hb hd k)
theorem zs_ishr (hx : p.tables.exec = Jvm.exec) (hb : c.code = cc) {st : zS} {ss : List (Option Nat × zS)} (hd : decode cc pc = .ok (.ishr, 1)) (h : z_bo 0 0 (z_fold 0 (cfI fun a b => a >>> (b &&& 31))) st = some ss) : zSt p l e R s m args below meth c Q D cl A cA G b sl xs fl h0 nL pc 1 st ss := zs_bi (zb_ifold fun a b => a >>> (b &&& 31)) h (fun X Y _ _ _ _ _ _ _ k => lv_ishr hx hb hd k)
theorem z_nz {iv : zI} {x y : zV} {ρ : Nat → Int} {k : Nat} {cf : Int → Int → Int} (h : z_foldD k cf iv x y ≠ none) (hi : ziv iv ρ) : z_val ρ y ≠ 0 := by
  unfold z_foldD at h
  split at h
  next q2 e2 =>
    have b2 := z_bd_ok e2 hi
    split at h
    next q => have := q.2; omega
    next => exact absurd rfl h
  next => exact absurd rfl h
theorem zs_idiv (hx : p.tables.exec = Jvm.exec) (hb : c.code = cc) {st : zS} {ss : List (Option Nat × zS)} (hd : decode cc pc = .ok (.idiv, 1)) (h : z_bo 0 0 (z_div 0) st = some ss) : zSt p l e R s m args below meth c Q D cl A cA G b sl xs fl h0 nL pc 1 st ss := zs_bi zb_idiv2 h (fun X Y _ _ _ _ _ _ hY k => by
  obtain ⟨iv, x, y, ρ, h1, h2, h3⟩ := hY
  exact lv_idiv hx hb hd (fun e => z_nzD h1 h2 (by rw [← h3, e]; rfl)) k)
theorem zs_irem (hx : p.tables.exec = Jvm.exec) (hb : c.code = cc) {st : zS} {ss : List (Option Nat × zS)} (hd : decode cc pc = .ok (.irem, 1)) (h : z_bo 0 0 (z_rem 0) st = some ss) : zSt p l e R s m args below meth c Q D cl A cA G b sl xs fl h0 nL pc 1 st ss := zs_bi zb_irem3 h (fun X Y _ _ _ _ _ _ hY k => by
  obtain ⟨iv, x, y, ρ, h1, h2, h3⟩ := hY
  exact lv_irem hx hb hd (fun e => z_nzR h1 h2 (by rw [← h3, e]; rfl)) k)
theorem zs_ladd (hx : p.tables.exec = Jvm.exec) (hb : c.code = cc) {st : zS} {ss : List (Option Nat × zS)} (hd : decode cc pc = .ok (.ladd, 1)) (h : z_bo 1 1 (z_add2 1) st = some ss) : zSt p l e R s m args below meth c Q D cl A cA G b sl xs fl h0 nL pc 1 st ss := zs_bl zb_ladd2 h (fun X Y _ _ _ _ _ _ _ k => lv_ladd hx hb hd k)
theorem zs_lsub (hx : p.tables.exec = Jvm.exec) (hb : c.code = cc) {st : zS} {ss : List (Option Nat × zS)} (hd : decode cc pc = .ok (.lsub, 1)) (h : z_bo 1 1 (z_sub2 1) st = some ss) : zSt p l e R s m args below meth c Q D cl A cA G b sl xs fl h0 nL pc 1 st ss := zs_bl zb_lsub2 h (fun X Y _ _ _ _ _ _ _ k => lv_lsub hx hb hd k)
theorem zs_lmul (hx : p.tables.exec = Jvm.exec) (hb : c.code = cc) {st : zS} {ss : List (Option Nat × zS)} (hd : decode cc pc = .ok (.lmul, 1)) (h : z_bo 1 1 (z_mul 1 (cfL fun a b => a * b)) st = some ss) : zSt p l e R s m args below meth c Q D cl A cA G b sl xs fl h0 nL pc 1 st ss := zs_bl zb_lmul2 h (fun X Y _ _ _ _ _ _ _ k => lv_lmul hx hb hd k)
theorem zs_land (hx : p.tables.exec = Jvm.exec) (hb : c.code = cc) {st : zS} {ss : List (Option Nat × zS)} (hd : decode cc pc = .ok (.land, 1)) (h : z_bo 1 1 (z_fold 1 (cfL fun a b => a &&& b)) st = some ss) : zSt p l e R s m args below meth c Q D cl A cA G b sl xs fl h0 nL pc 1 st ss := zs_bl (zb_lfold fun a b => a &&& b) h (fun X Y _ _ _ _ _ _ _ k => lv_land hx hb hd k)
theorem zs_lor (hx : p.tables.exec = Jvm.exec) (hb : c.code = cc) {st : zS} {ss : List (Option Nat × zS)} (hd : decode cc pc = .ok (.lor, 1)) (h : z_bo 1 1 (z_fold 1 (cfL fun a b => a ||| b)) st = some ss) : zSt p l e R s m args below meth c Q D cl A cA G b sl xs fl h0 nL pc 1 st ss := zs_bl (zb_lfold fun a b => a ||| b) h (fun X Y _ _ _ _ _ _ _ k => lv_lor hx hb hd k)
theorem zs_ldiv (hx : p.tables.exec = Jvm.exec) (hb : c.code = cc) {st : zS} {ss : List (Option Nat × zS)} (hd : decode cc pc = .ok (.ldiv, 1)) (h : z_bo 1 1 (z_div 1) st = some ss) : zSt p l e R s m args below meth c Q D cl A cA G b sl xs fl h0 nL pc 1 st ss := zs_bl zb_ldiv2 h (fun X Y _ _ _ _ _ _ hY k => by
  obtain ⟨iv, x, y, ρ, h1, h2, h3⟩ := hY
  exact lv_ldiv hx hb hd (fun e => z_nzD h1 h2 (by rw [← h3, e]; rfl)) k)
theorem zs_lrem (hx : p.tables.exec = Jvm.exec) (hb : c.code = cc) {st : zS} {ss : List (Option Nat × zS)} (hd : decode cc pc = .ok (.lrem, 1)) (h : z_bo 1 1 (z_rem 1) st = some ss) : zSt p l e R s m args below meth c Q D cl A cA G b sl xs fl h0 nL pc 1 st ss := zs_bl zb_lrem3 h (fun X Y _ _ _ _ _ _ hY k => by
  obtain ⟨iv, x, y, ρ, h1, h2, h3⟩ := hY
  exact lv_lrem hx hb hd (fun e => z_nzR h1 h2 (by rw [← h3, e]; rfl)) k)
theorem zs_lshl (hx : p.tables.exec = Jvm.exec) (hb : c.code = cc) {st : zS} {ss : List (Option Nat × zS)} (hd : decode cc pc = .ok (.lshl, 1)) (h : z_bo 1 0 (z_fold 1 (cfS fun a b => a <<< (b.toInt64 &&& 63))) st = some ss) : zSt p l e R s m args below meth c Q D cl A cA G b sl xs fl h0 nL pc 1 st ss := zs_bs (zb_sfold fun a b => a <<< (b.toInt64 &&& 63)) h (fun X Y _ _ _ _ _ _ k => lv_lshl hx hb hd rfl k)
theorem zs_lshr (hx : p.tables.exec = Jvm.exec) (hb : c.code = cc) {st : zS} {ss : List (Option Nat × zS)} (hd : decode cc pc = .ok (.lshr, 1)) (h : z_bo 1 0 (z_fold 1 (cfS fun a b => a >>> (b.toInt64 &&& 63))) st = some ss) : zSt p l e R s m args below meth c Q D cl A cA G b sl xs fl h0 nL pc 1 st ss := zs_bs (zb_sfold fun a b => a >>> (b.toInt64 &&& 63)) h (fun X Y _ _ _ _ _ _ k => lv_lshr hx hb hd rfl k)
/-! one value for one -/
def z_uo (k1 : Nat) (f : zI → zV → Option (zI × zV)) (st : zS) : zR := match st with
  | (cu, su, iv, lv, x :: r, ov) => if x.1 = k1 then (match f iv x with
      | some q => some [(none, (cu, su, q.1, lv, q.2 :: r, ov))]
      | none => none) else none
  | _ => none
theorem z_uo_inv {k1 : Nat} {f : zI → zV → Option (zI × zV)} {st : zS} {ss : List (Option Nat × zS)} (h : z_uo k1 f st = some ss) : ∃ cu su iv lv x r ov q, st = (cu, su, iv, lv, x :: r, ov) ∧ x.1 = k1 ∧ f iv x = some q ∧ ss = [(none, (cu, su, q.1, lv, q.2 :: r, ov))] := by
  obtain ⟨cu, su, iv, lv, sk, ov⟩ := st
  unfold z_uo at h
  rcases sk with _ | ⟨x, r⟩
  · cases h
  dsimp only at h
  split at h
  next hk =>
    split at h
    next q hq => cases h; exact ⟨cu, su, iv, lv, x, r, ov, q, rfl, hk, hq, rfl⟩
    next => cases h
  next => cases h
def z_i2l (iv : zI) (x : zV) : Option (zI × zV) := some (iv, (1, x.2.1, x.2.2))
theorem z_wide {z : Int} (h1 : -2147483648 ≤ z) (h2 : z ≤ 2147483647) : (Int32.ofInt z).toInt64 = Int64.ofInt z := by
  apply Int64.toInt_inj.mp
  rw [Int32.toInt_toInt64, z_i32 h1 h2, z_i64 (by omega) (by omega)]
theorem zs_i2l (hx : p.tables.exec = Jvm.exec) (hb : c.code = cc) {st : zS} {ss : List (Option Nat × zS)} (hd : decode cc pc = .ok (.i2l, 1)) (h : z_uo 0 z_i2l st = some ss) : zSt p l e R s m args below meth c Q D cl A cA G b sl xs fl h0 nL pc 1 st ss := by
  obtain ⟨cu, su, iv, lv, x, r, ov, q, rfl, hk, hq, rfl⟩ := z_uo_inv h
  cases hq
  intro ρ ad ws H locs ls hg kk
  have ox := z_ok0 (hg.1.2.2.1 x List.mem_cons_self) hk
  show W p l e R s m args below meth c H locs cu su Q (F0 m pc ls (zcv ad b ρ x :: r.map (zcv ad b ρ)))
  rw [z_cv0 hk]
  refine lv_i2l hx hb hd (z_wide ox.2.1 ox.2.2) ?_
  have o2 : zok ov.length iv ρ (1, x.2.1, x.2.2) := ⟨ox.1, by show _ ≤ z_val ρ x; omega, by show z_val ρ x ≤ _; omega⟩
  exact z_fin hg (fun w hw => List.mem_cons_of_mem _ hw) (fun _ _ => rfl) (Nat.le_refl _) hg.1.1 o2 rfl kk
def z_l2i (iv : zI) (x : zV) : Option (zI × zV) := match z_bd iv x with
  | some q => if z_in 0 q.1 q.2 then some (iv, (0, x.2.1, x.2.2)) else some (z_mk iv 0 (z_rl 0) (z_rh 0))
  | none => none
theorem z_narrow {z : Int} (h1 : -2147483648 ≤ z) (h2 : z ≤ 2147483647) : (Int64.ofInt z).toInt32 = Int32.ofInt z := by
  apply Int32.toInt_inj.mp
  rw [Int64.toInt_toInt32, z_i64 (by omega) (by omega), z_i32 h1 h2]
  exact z_bm32 h1 h2
theorem zs_l2i (hx : p.tables.exec = Jvm.exec) (hb : c.code = cc) {st : zS} {ss : List (Option Nat × zS)} (hd : decode cc pc = .ok (.l2i, 1)) (h : z_uo 1 z_l2i st = some ss) : zSt p l e R s m args below meth c Q D cl A cA G b sl xs fl h0 nL pc 1 st ss := by
  obtain ⟨cu, su, iv, lv, x, r, ov, q, rfl, hk, hq, rfl⟩ := z_uo_inv h
  intro ρ ad ws H locs ls hg kk
  have ox := z_ok1 (hg.1.2.2.1 x List.mem_cons_self) hk
  show W p l e R s m args below meth c H locs cu su Q (F0 m pc ls (zcv ad b ρ x :: r.map (zcv ad b ρ)))
  rw [z_cv1 hk]
  unfold z_l2i at hq
  split at hq
  next q1 e1 =>
    have b1 := z_bd_ok e1 hg.1.1
    split at hq
    next hin =>
      have hr := z_in0 hin
      cases hq
      refine lv_l2i hx hb hd (z_narrow (by omega) (by omega)) ?_
      have o2 : zok ov.length iv ρ (0, x.2.1, x.2.2) := ⟨ox.1, by show _ ≤ z_val ρ x; omega, by show z_val ρ x ≤ _; omega⟩
      exact z_fin hg (fun w hw => List.mem_cons_of_mem _ hw) (fun _ _ => rfl) (Nat.le_refl _) hg.1.1 o2 rfl kk
    next =>
      cases hq
      refine lv_l2i hx hb hd rfl ?_
      obtain ⟨ρ', n1, n2, n3, n4, n5, n6⟩ := zBi_full hg.1.1 (Int64.ofInt (z_val ρ x)).toInt32
      exact z_fin hg (fun w hw => List.mem_cons_of_mem _ hw) n1 n2 n3 (z_ok0' n4 n5 _ n6) (by rw [z_cv0 n4, n6, z_o32]) kk
  next => cases hq
def z_i2b (iv : zI) (x : zV) : Option (zI × zV) := if x.2.1 = 0 then some (iv, (0, 0, ((Int32.ofInt x.2.2).toInt8.toInt32).toInt)) else some (z_mk iv 0 (-128) 127)
theorem z_b8 (x : Int32) : -128 ≤ x.toInt8.toInt32.toInt ∧ x.toInt8.toInt32.toInt ≤ 127 := by
  rw [Int8.toInt_toInt32]
  have a := x.toInt8.le_toInt
  have b := x.toInt8.toInt_lt
  omega
theorem zs_i2b (hx : p.tables.exec = Jvm.exec) (hb : c.code = cc) {st : zS} {ss : List (Option Nat × zS)} (hd : decode cc pc = .ok (.i2b, 1)) (h : z_uo 0 z_i2b st = some ss) : zSt p l e R s m args below meth c Q D cl A cA G b sl xs fl h0 nL pc 1 st ss := by
  obtain ⟨cu, su, iv, lv, x, r, ov, q, rfl, hk, hq, rfl⟩ := z_uo_inv h
  intro ρ ad ws H locs ls hg kk
  show W p l e R s m args below meth c H locs cu su Q (F0 m pc ls (zcv ad b ρ x :: r.map (zcv ad b ρ)))
  rw [z_cv0 hk]
  refine lv_i2b hx hb hd rfl ?_
  have hb8 := z_b8 (Int32.ofInt (z_val ρ x))
  unfold z_i2b at hq
  split at hq
  next hz =>
    cases hq
    have ez : z_val ρ x = x.2.2 := by unfold z_val; rw [hz, hg.1.1.1]; omega
    refine z_fin hg (fun w hw => List.mem_cons_of_mem _ hw) (fun _ _ => rfl) (Nat.le_refl _) hg.1.1 ?_ ?_ kk
    · rw [ez] at hb8; exact z_okc hg.1.1 (by omega) (by omega)
    · rw [z_cvc hg.1.1.1, z_o32, ez]
  next =>
    cases hq
    obtain ⟨ρ', n1, n2, n3, n4, n5, n6⟩ := z_mk_ok 0 hg.1.1 hb8.1 hb8.2
    exact z_fin hg (fun w hw => List.mem_cons_of_mem _ hw) n1 n2 n3 (z_ok0' n4 n5 _ n6) (by rw [z_cv0 n4, n6, z_o32]) kk
/-! the stack alone -/
def z_rest (f : List zV → Option (List zV)) (st : zS) : zR := match st with
  | (cu, su, iv, lv, sk, ov) => match f sk with
    | some r => some [(none, (cu, su, iv, lv, r, ov))]
    | none => none
def z_dup (sk : List zV) : Option (List zV) := match sk with
  | x :: r => if Nat.beq x.1 1 then none else some (x :: x :: r)
  | [] => none
def z_pop (sk : List zV) : Option (List zV) := match sk with
  | x :: r => if Nat.beq x.1 1 then none else some r
  | [] => none
def z_dup2 (sk : List zV) : Option (List zV) := match sk with
  | x :: y :: r => if Nat.beq x.1 1 || Nat.beq y.1 1 then none else some (x :: y :: x :: y :: r)
  | _ => none
def z_pop2 (sk : List zV) : Option (List zV) := match sk with
  | x :: r => if Nat.beq x.1 1 then some r else none
  | [] => none
theorem z_cat1 {ad : Nat → Nat} {ρ : Nat → Int} {v : zV} (h : ¬ Nat.beq v.1 1 = true) : (zcv ad b ρ v).category = 1 := by
  have hc := z_cat (b := b) (ad := ad) (ρ := ρ) v
  rcases lv_cat (zcv ad b ρ v) with q | q
  · exact q
  · rw [q] at hc
    exact absurd hc.symm h
theorem z_cat2 {ad : Nat → Nat} {ρ : Nat → Int} {v : zV} (h : Nat.beq v.1 1 = true) : (zcv ad b ρ v).category = 2 := by
  have hc := z_cat (b := b) (ad := ad) (ρ := ρ) v
  rw [h] at hc
  exact eq_of_beq hc
theorem zs_rest {len : Nat} {f : List zV → Option (List zV)} {st : zS} {ss : List (Option Nat × zS)} (h : z_rest f st = some ss) (hs : ∀ (sk r : List zV), f sk = some r → ∀ w ∈ r, w ∈ sk)
    (hr : ∀ (sk r : List zV) (ad : Nat → Nat) (ρ : Nat → Int) (H : Heap) (locs : List Loc) (cells slots : Nat) (ls : Array Slot), f sk = some r → W p l e R s m args below meth c H locs cells slots Q (F0 m (pc + len) ls (r.map (zcv ad b ρ))) → W p l e R s m args below meth c H locs cells slots Q (F0 m pc ls (sk.map (zcv ad b ρ)))) : zSt p l e R s m args below meth c Q D cl A cA G b sl xs fl h0 nL pc len st ss := by
  obtain ⟨cu, su, iv, lv, sk, ov⟩ := st
  unfold z_rest at h
  dsimp only at h
  split at h
  next r hf =>
    cases h
    intro ρ ad ws H locs ls hg kk
    refine hr sk r ad ρ _ _ _ _ _ hf ?_
    exact kk _ (List.mem_singleton.mpr rfl) ρ ad ws H locs ls ⟨fun _ _ => rfl, fun _ _ => rfl, Nat.le_refl _, Nat.le_refl _⟩ (hg.mv (fun _ _ => rfl) (Nat.le_refl _) hg.1.1 (fun w hw => hg.1.2.2.1 w (hs sk r hf w hw)))
  next => cases h
theorem zs_dup (hx : p.tables.exec = Jvm.exec) (hb : c.code = cc) {st : zS} {ss : List (Option Nat × zS)} (hd : decode cc pc = .ok (.dup, 1)) (h : z_rest z_dup st = some ss) : zSt p l e R s m args below meth c Q D cl A cA G b sl xs fl h0 nL pc 1 st ss := by
  refine zs_rest h (fun sk r hf => ?_) (fun sk r ad ρ _ _ _ _ _ hf k => ?_)
  · unfold z_dup at hf
    split at hf
    next x r0 =>
      split at hf
      · cases hf
      · cases hf; intro w hw; exact (List.mem_cons.mp hw).elim (fun q => q ▸ List.mem_cons_self) id
    next => cases hf
  · unfold z_dup at hf
    split at hf
    next x r0 =>
      split at hf
      · cases hf
      next hc => cases hf; exact lv_dup hx hb hd (z_cat1 hc) k
    next => cases hf
theorem zs_pop (hx : p.tables.exec = Jvm.exec) (hb : c.code = cc) {st : zS} {ss : List (Option Nat × zS)} (hd : decode cc pc = .ok (.pop, 1)) (h : z_rest z_pop st = some ss) : zSt p l e R s m args below meth c Q D cl A cA G b sl xs fl h0 nL pc 1 st ss := by
  refine zs_rest h (fun sk r hf => ?_) (fun sk r ad ρ _ _ _ _ _ hf k => ?_)
  · unfold z_pop at hf
    split at hf
    next x r0 =>
      split at hf
      · cases hf
      · cases hf; intro w hw; exact List.mem_cons_of_mem _ hw
    next => cases hf
  · unfold z_pop at hf
    split at hf
    next x r0 =>
      split at hf
      · cases hf
      next hc => cases hf; exact lv_pop hx hb hd (z_cat1 hc) k
    next => cases hf
theorem zs_pop2 (hx : p.tables.exec = Jvm.exec) (hb : c.code = cc) {st : zS} {ss : List (Option Nat × zS)} (hd : decode cc pc = .ok (.pop2, 1)) (h : z_rest z_pop2 st = some ss) : zSt p l e R s m args below meth c Q D cl A cA G b sl xs fl h0 nL pc 1 st ss := by
  refine zs_rest h (fun sk r hf => ?_) (fun sk r ad ρ _ _ _ _ _ hf k => ?_)
  · unfold z_pop2 at hf
    split at hf
    next x r0 =>
      split at hf
      · cases hf; intro w hw; exact List.mem_cons_of_mem _ hw
      · cases hf
    next => cases hf
  · unfold z_pop2 at hf
    split at hf
    next x r0 =>
      split at hf
      next hc => cases hf; exact lv_pop2_2 hx hb hd (z_cat2 hc) k
      · cases hf
    next => cases hf
theorem zs_dup2 (hx : p.tables.exec = Jvm.exec) (hb : c.code = cc) {st : zS} {ss : List (Option Nat × zS)} (hd : decode cc pc = .ok (.dup2, 1)) (h : z_rest z_dup2 st = some ss) : zSt p l e R s m args below meth c Q D cl A cA G b sl xs fl h0 nL pc 1 st ss := by
  refine zs_rest h (fun sk r hf => ?_) (fun sk r ad ρ _ _ _ _ _ hf k => ?_)
  · unfold z_dup2 at hf
    split at hf
    next x y r0 =>
      split at hf
      · cases hf
      · cases hf; intro w hw; rcases List.mem_cons.mp hw with q | q
        · exact q ▸ List.mem_cons_self
        · rcases List.mem_cons.mp q with q | q
          · exact q ▸ List.mem_cons_of_mem _ List.mem_cons_self
          · exact q
    next => cases hf
  · unfold z_dup2 at hf
    split at hf
    next x y r0 =>
      split at hf
      · cases hf
      next hc =>
        cases hf
        have h1 : ¬ Nat.beq x.1 1 = true := fun q => hc (by rw [q]; rfl)
        have h2 : ¬ Nat.beq y.1 1 = true := fun q => hc (by rw [q, Bool.or_true])
        exact lv_dup2_11 hx hb hd (z_cat1 h1) (z_cat1 h2) k
    next => cases hf
end ZST3
