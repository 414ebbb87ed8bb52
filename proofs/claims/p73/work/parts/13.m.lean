/-! ===== java/lang/Math: min, max, abs of ints, abs of a long, by the kit's rows ===== -/
def zMw (j : Nat) : MethodName × ByteArray × Nat × Option FieldType := match j with
  | 0 => (Lib.Math.min.name, Lib.Math.min.code, 2, some .int)
  | 1 => (Lib.Math.max.name, Lib.Math.max.code, 2, some .int)
  | 2 => (Lib.Math.abs.name, Lib.Math.abs.code, 1, some .int)
  | _ => (Lib.MathLoose.abs_long.x, Lib.MathLoose.abs_long.code, 2, some .long)
def z_ngs (cu su : Nat) (lv : zL) (r : List zV) (ov : zO) (f : zI → Option (List (zI × zV))) : List zI → zR
  | [] => some []
  | i :: t => match f i, z_ngs cu su lv r ov f t with
    | some qs, some ss => some (qs.map (fun q => (none, (cu, su, q.1, lv, q.2 :: r, ov))) ++ ss)
    | _, _ => none
theorem z_ngs_ok {cu su : Nat} {lv : zL} {r : List zV} {ov : zO} {f : zI → Option (List (zI × zV))} : ∀ (L : List zI) (ss : List (Option Nat × zS)), z_ngs cu su lv r ov f L = some ss → ∀ i ∈ L, ∃ qs, f i = some qs ∧ ∀ q ∈ qs, ((none : Option Nat), ((cu, su, q.1, lv, q.2 :: r, ov) : zS)) ∈ ss
  | [], _, _, i, hi => absurd hi List.not_mem_nil
  | a :: t, ss, h, i, hi => by
    unfold z_ngs at h
    split at h
    next q ss' hq hs =>
      cases h
      rcases List.mem_cons.mp hi with e | e
      · subst e; exact ⟨q, hq, fun w hw => List.mem_append_left _ (List.mem_map.mpr ⟨w, hw, rfl⟩)⟩
      · obtain ⟨q', h1, h2⟩ := z_ngs_ok t ss' hs i e
        exact ⟨q', h1, fun w hw => List.mem_append_right _ (h2 w hw)⟩
    next => cases h
def z_negl (iv : zI) (x : zV) : Option (List (zI × zV)) := match z_bd iv x with
  | some q => if -9223372036854775808 < q.1 then some [z_mk iv 1 (-q.2) (-q.1)] else some [(iv, (1, 0, -9223372036854775808)), z_mk iv 1 (-q.2) 9223372036854775807]
  | none => none
def z_mnx (cd : Jvm.ClassFile.Cond) (st : zS) : zR := match st with
  | (cu, su, iv, lv, y :: x :: r, ov) => if x.1 = 0 ∧ y.1 = 0 then some ((z_brf cd iv x y).1.map (fun i => (none, (cu, su, i, lv, y :: r, ov))) ++ (z_brf cd iv x y).2.map (fun i => (none, (cu, su, i, lv, x :: r, ov)))) else none
  | _ => none
def z_mab (st : zS) : zR := match st with
  | (cu, su, iv, lv, x :: r, ov) => if x.1 = 0 then (match z_ngs cu su lv r ov (fun i => (z_neg i x).map fun q => [q]) (z_brf .ge iv x (0, 0, 0)).2 with
    | some ss => some ((z_brf .ge iv x (0, 0, 0)).1.map (fun i => (none, (cu, su, i, lv, x :: r, ov))) ++ ss)
    | none => none) else none
  | _ => none
def z_mal (st : zS) : zR := match st with
  | (cu, su, iv, lv, x :: r, ov) => if x.1 = 1 then (match z_ngs cu su lv r ov (fun i => z_negl i x) (z_ol (z_ltf iv x (1, 0, 0))) with
    | some ss => some (ss ++ ((z_ol (z_eqf iv x (1, 0, 0))).map (fun i => (none, (cu, su, i, lv, x :: r, ov))) ++ (z_ol (z_ltf iv (1, 0, 0) x)).map (fun i => (none, (cu, su, i, lv, x :: r, ov)))))
    | none => none) else none
  | _ => none
def z_mth (j : Nat) (st : zS) : zR := match j with
  | 0 => z_mnx .gt st
  | 1 => z_mnx .lt st
  | 2 => z_mab st
  | 3 => z_mal st
  | _ => none
section ZSTM
variable {p : Program} {l : Launch} {e : Env} {R : Room} {s : State} {m : MethodId} {args : Array Value} {below : List Frame} {meth : Method} {c : Code} {Q : State → Prop} {D : va_G} {cl : List vw_C} {A : Nat → Prop} {cA : Nat → ClassId} {G : List zC} {b : Nat → Nat} {sl : Nat} {xs : Nat → Int32} {fl : zFl} {h0 : Heap} {nL : Nat} {cc : ByteArray} {pc : Nat}
theorem z_gml {iv : zI} {lv : zL} {sk : List zV} {ov : zO} {ρ : Nat → Int} {ad : Nat → Nat} {ws : va_W} {H : Heap} {locs : List Loc} {ls : Array Slot} (hg : z_gm D cl A cA G b sl xs fl h0 nL iv lv sk ov ρ ad ws H locs ls) : ls.size = nL := hg.2.1.1
theorem zs_mnx {cd : Jvm.ClassFile.Cond} {st : zS} {ss : List (Option Nat × zS)} {op : Int32 → Int32 → Int32} (h : z_mnx cd st = some ss) (hop : ∀ X Y : Int32, (z_cd cd X.toInt Y.toInt → op X Y = Y) ∧ (¬ z_cd cd X.toInt Y.toInt → op X Y = X))
    (hr : ∀ (X Y : Int32) (H : Heap) (locs : List Loc) (ls : Array Slot) (rest : List Value), ls.size = nL → (rest.map fun v => v.category).sum ≤ (st.2.2.2.2.1.map fun v => if Nat.beq v.1 1 then 2 else 1).sum → W p l e R s m args below meth c H locs st.1 st.2.1 Q (F0 m (pc + 3) ls (.int (op X Y) :: rest)) → W p l e R s m args below meth c H locs st.1 st.2.1 Q (F0 m pc ls (.int Y :: .int X :: rest)))
    (hcat : ∀ (ad : Nat → Nat) (ρ : Nat → Int) (r : List zV), ((r.map (zcv ad b ρ)).map fun v => v.category).sum = (r.map fun v => if Nat.beq v.1 1 then 2 else 1).sum) : zSt p l e R s m args below meth c Q D cl A cA G b sl xs fl h0 nL pc 3 st ss := by
  obtain ⟨cu, su, iv, lv, sk, ov⟩ := st
  unfold z_mnx at h
  rcases sk with _ | ⟨y, _ | ⟨x, r⟩⟩
  · cases h
  · cases h
  dsimp only at h
  split at h
  next hk =>
    cases h
    intro ρ ad ws H locs ls hg kk
    have vx := hg.1.2.2.1 x (List.mem_cons_of_mem _ List.mem_cons_self)
    have vy := hg.1.2.2.1 y List.mem_cons_self
    have ox := z_ok0 vx hk.1
    have oy := z_ok0 vy hk.2
    have hrr : ∀ w ∈ r, zok ov.length iv ρ w := fun w hw => hg.1.2.2.1 w (List.mem_cons_of_mem _ (List.mem_cons_of_mem _ hw))
    show W p l e R s m args below meth c H locs cu su Q (F0 m pc ls (zcv ad b ρ y :: zcv ad b ρ x :: r.map (zcv ad b ρ)))
    have eX := z_i32 ox.2.1 ox.2.2
    have eY := z_i32 oy.2.1 oy.2.2
    obtain ⟨o1, o2⟩ := hop (Int32.ofInt (z_val ρ x)) (Int32.ofInt (z_val ρ y))
    rw [eX, eY] at o1 o2
    have cx := z_cv0 hk.1 ad b ρ
    have cy := z_cv0 hk.2 ad b ρ
    rw [cx, cy]
    refine hr _ _ H locs ls _ (z_gml hg) ?_ ?_
    · rw [hcat]
      show _ ≤ List.sum (_ :: _ :: r.map _)
      rw [List.sum_cons, List.sum_cons]
      omega
    · by_cases q : z_cd cd (z_val ρ x) (z_val ρ y)
      · obtain ⟨iv', m1, m2, m3⟩ := z_br_t hg.1.1 ox.1 oy.1 q
        rw [o1 q, ← cy]
        exact z_rf (t := none) (r := y :: r) hg kk (List.mem_append_left _ (List.mem_map.mpr ⟨iv', m1, rfl⟩)) m2 m3 (fun w hw => (List.mem_cons.mp hw).elim (fun q => by rw [q]; exact z_okrf vy m3) (fun q => z_okrf (hrr w q) m3))
      · obtain ⟨iv', m1, m2, m3⟩ := z_br_f hg.1.1 ox.1 oy.1 q
        rw [o2 q, ← cx]
        exact z_rf (t := none) (r := x :: r) hg kk (List.mem_append_right _ (List.mem_map.mpr ⟨iv', m1, rfl⟩)) m2 m3 (fun w hw => (List.mem_cons.mp hw).elim (fun q => by rw [q]; exact z_okrf vx m3) (fun q => z_okrf (hrr w q) m3))
  next => cases h
/-- a new value behind a narrowed state -/
theorem z_fin2 {cu su : Nat} {iv iv1 iv' : zI} {lv : zL} {sk r : List zV} {ov : zO} {ρ ρ' : Nat → Int} {ad : Nat → Nat} {ws : va_W} {H : Heap} {locs : List Loc} {ls : Array Slot} {len : Nat} {v : zV} {x : Value} {ss : List (Option Nat × zS)}
    (hg : z_gm D cl A cA G b sl xs fl h0 nL iv lv sk ov ρ ad ws H locs ls) (hsub : ∀ w ∈ r, w ∈ sk) (hi1 : ziv iv1 ρ) (hl1 : iv1.length = iv.length) (hx : ∀ i, i < iv1.length → ρ' i = ρ i) (hl : iv1.length ≤ iv'.length) (hv : ziv iv' ρ') (hvo : zok ov.length iv' ρ' v) (hvx : zcv ad b ρ' v = x)
    (hm : ((none : Option Nat), ((cu, su, iv', lv, v :: r, ov) : zS)) ∈ ss) (kk : zKK p l e R s m args below meth c Q D cl A cA G b sl xs fl h0 nL pc len (cu, su, iv, lv, sk, ov) ρ ad ss) :
    W p l e R s m args below meth c H locs cu su Q (F0 m (pc + len) ls (x :: r.map (zcv ad b ρ))) := by
  have hg1 : z_gm D cl A cA G b sl xs fl h0 nL iv1 lv sk ov ρ ad ws H locs ls := hg.mv (fun _ _ => rfl) (Nat.le_of_eq hl1.symm) hi1 (fun w hw => z_okrf (hg.1.2.2.1 w hw) hl1)
  refine z_fin (cu := cu) (su := su) hg1 hsub hx hl hv hvo hvx (fun q hq ρ9 ad9 ws9 H9 locs9 ls9 hxt hg9 => ?_)
  rw [List.mem_singleton] at hq
  subst hq
  refine kk _ hm ρ9 ad9 ws9 H9 locs9 ls9 ?_ hg9
  obtain ⟨x1, x2, x3, x4⟩ := hxt
  dsimp only at x1 x2 x3 x4
  exact ⟨fun i hi => x1 i (by rw [hl1]; exact hi), x2, by rw [hl1] at x3; exact x3, x4⟩
theorem zs_mab {st : zS} {ss : List (Option Nat × zS)} (h : z_mab st = some ss)
    (hr : ∀ (X : Int32) (H : Heap) (locs : List Loc) (ls : Array Slot) (rest : List Value), ls.size = nL → (rest.map fun v => v.category).sum ≤ (st.2.2.2.2.1.map fun v => if Nat.beq v.1 1 then 2 else 1).sum → W p l e R s m args below meth c H locs st.1 st.2.1 Q (F0 m (pc + 3) ls (.int (if 0 ≤ X then X else 0 - X) :: rest)) → W p l e R s m args below meth c H locs st.1 st.2.1 Q (F0 m pc ls (.int X :: rest)))
    (hcat : ∀ (ad : Nat → Nat) (ρ : Nat → Int) (r : List zV), ((r.map (zcv ad b ρ)).map fun v => v.category).sum = (r.map fun v => if Nat.beq v.1 1 then 2 else 1).sum) : zSt p l e R s m args below meth c Q D cl A cA G b sl xs fl h0 nL pc 3 st ss := by
  obtain ⟨cu, su, iv, lv, sk, ov⟩ := st
  unfold z_mab at h
  rcases sk with _ | ⟨x, r⟩
  · cases h
  dsimp only at h
  split at h
  next hk =>
    split at h
    next sn hn =>
      cases h
      intro ρ ad ws H locs ls hg kk
      have vx := hg.1.2.2.1 x List.mem_cons_self
      have ox := z_ok0 vx hk
      have hrr : ∀ w ∈ r, zok ov.length iv ρ w := fun w hw => hg.1.2.2.1 w (List.mem_cons_of_mem _ hw)
      show W p l e R s m args below meth c H locs cu su Q (F0 m pc ls (zcv ad b ρ x :: r.map (zcv ad b ρ)))
      have eX := z_i32 ox.2.1 ox.2.2
      have cx := z_cv0 hk ad b ρ
      rw [cx]
      refine hr _ H locs ls _ (z_gml hg) ?_ ?_
      · rw [hcat]
        show _ ≤ List.sum (_ :: r.map _)
        rw [List.sum_cons]
        omega
      · by_cases q : (0 : Int) ≤ z_val ρ x
        · obtain ⟨iv', m1, m2, m3⟩ := z_br_t (cd := .ge) (x := x) (y := (0, 0, 0)) hg.1.1 ox.1 hg.1.1.2.1 (by rw [z_val0 hg.1.1]; exact q)
          rw [if_pos (Int32.le_iff_toInt_le.mpr (by rw [eX]; exact q)), ← cx]
          exact z_rf (t := none) (r := x :: r) hg kk (List.mem_append_left _ (List.mem_map.mpr ⟨iv', m1, rfl⟩)) m2 m3 (fun w hw => (List.mem_cons.mp hw).elim (fun q => by rw [q]; exact z_okrf vx m3) (fun q => z_okrf (hrr w q) m3))
        · obtain ⟨iv', m1, m2, m3⟩ := z_br_f (cd := .ge) (x := x) (y := (0, 0, 0)) hg.1.1 ox.1 hg.1.1.2.1 (by rw [z_val0 hg.1.1]; exact q)
          rw [if_neg (fun w => q (by rw [← eX]; exact Int32.le_iff_toInt_le.mp w)), Int32.zero_sub]
          obtain ⟨qs, hqs, hmem⟩ := z_ngs_ok _ _ hn iv' m1
          obtain ⟨z, hz, rfl⟩ := Option.map_eq_some_iff.mp hqs
          have hmem := hmem z List.mem_cons_self
          obtain ⟨ρ', n1, n2, n3, n4, n5, n6⟩ := zu_neg iv' x z ρ _ hz m2 (by rw [m3]; exact ox.1) eX
          exact z_fin2 (iv1 := iv') hg (fun w hw => List.mem_cons_of_mem _ hw) m2 m3 n1 n2 n3 (z_ok0' n4 n5 _ n6) (by rw [z_cv0 n4, n6, z_o32]) (List.mem_append_right _ hmem) kk
    next => cases h
  next => cases h
theorem zs_mal {st : zS} {ss : List (Option Nat × zS)} (h : z_mal st = some ss)
    (hr : ∀ (X : Int64) (H : Heap) (locs : List Loc) (ls : Array Slot) (rest : List Value), ls.size = nL → (rest.map fun v => v.category).sum ≤ (st.2.2.2.2.1.map fun v => if Nat.beq v.1 1 then 2 else 1).sum → W p l e R s m args below meth c H locs st.1 st.2.1 Q (F0 m (pc + 3) ls (.long (if 0 < X then X else -X) :: rest)) → W p l e R s m args below meth c H locs st.1 st.2.1 Q (F0 m pc ls (.long X :: rest)))
    (hcat : ∀ (ad : Nat → Nat) (ρ : Nat → Int) (r : List zV), ((r.map (zcv ad b ρ)).map fun v => v.category).sum = (r.map fun v => if Nat.beq v.1 1 then 2 else 1).sum) : zSt p l e R s m args below meth c Q D cl A cA G b sl xs fl h0 nL pc 3 st ss := by
  obtain ⟨cu, su, iv, lv, sk, ov⟩ := st
  unfold z_mal at h
  rcases sk with _ | ⟨x, r⟩
  · cases h
  dsimp only at h
  split at h
  next hk =>
    split at h
    next sn hn =>
      cases h
      intro ρ ad ws H locs ls hg kk
      have vx := hg.1.2.2.1 x List.mem_cons_self
      have ox := z_ok1 vx hk
      have hrr : ∀ w ∈ r, zok ov.length iv ρ w := fun w hw => hg.1.2.2.1 w (List.mem_cons_of_mem _ hw)
      show W p l e R s m args below meth c H locs cu su Q (F0 m pc ls (zcv ad b ρ x :: r.map (zcv ad b ρ)))
      have eX := z_i64 ox.2.1 ox.2.2
      have e0 : (0 : Int64).toInt = 0 := rfl
      have cx := z_cv1 hk ad b ρ
      have v0 : z_val ρ (1, 0, 0) = 0 := z_val0 hg.1.1 1 0
      rw [cx]
      refine hr _ H locs ls _ (z_gml hg) ?_ ?_
      · rw [hcat]
        show _ ≤ List.sum (_ :: r.map _)
        rw [List.sum_cons]
        omega
      · by_cases q1 : z_val ρ x < 0
        · obtain ⟨iv', m1, m2, m3⟩ := (z_ltf_ok (x := x) (y := (1, 0, 0)) hg.1.1 ox.1 hg.1.1.2.1 (by rw [v0]; exact q1)).l
          rw [if_neg (by rw [Int64.lt_iff_toInt_lt, eX, e0]; omega)]
          obtain ⟨z, hz, hmem⟩ := z_ngs_ok _ _ hn iv' m1
          unfold z_negl at hz
          split at hz
          next w hw =>
            have b1 := z_bd_ok hw m2
            split at hz
            next hlt =>
              cases hz
              have es : (-(Int64.ofInt (z_val ρ x))).toInt = -z_val ρ x := by rw [z_negL (by rw [eX]; omega), eX]
              obtain ⟨ρ', n1, n2, n3, n4, n5, n6⟩ := z_mk_ok 1 (lo := -w.2) (hi := -w.1) (x := (-(Int64.ofInt (z_val ρ x))).toInt) m2 (by rw [es]; omega) (by rw [es]; omega)
              exact z_fin2 (iv1 := iv') hg (fun w hw => List.mem_cons_of_mem _ hw) m2 m3 n1 n2 n3 (z_ok1' n4 n5 _ n6) (by rw [z_cv1 n4, n6, z_o64]) (List.mem_append_left _ (hmem _ List.mem_cons_self)) kk
            next =>
              cases hz
              by_cases e : z_val ρ x = -9223372036854775808
              · rw [e]
                exact z_fin2 (iv1 := iv') (v := (1, 0, -9223372036854775808)) hg (fun w hw => List.mem_cons_of_mem _ hw) m2 m3 (fun _ _ => rfl) (Nat.le_refl _) m2 (z_okl m2 (by omega) (by omega)) (by rw [z_cvl m2.1]; rfl) (List.mem_append_left _ (hmem _ List.mem_cons_self)) kk
              · have es : (-(Int64.ofInt (z_val ρ x))).toInt = -z_val ρ x := by rw [z_negL (by rw [eX]; exact e), eX]
                obtain ⟨ρ', n1, n2, n3, n4, n5, n6⟩ := z_mk_ok 1 (lo := -w.2) (hi := 9223372036854775807) (x := (-(Int64.ofInt (z_val ρ x))).toInt) m2 (by rw [es]; omega) (by rw [es]; omega)
                exact z_fin2 (iv1 := iv') hg (fun w hw => List.mem_cons_of_mem _ hw) m2 m3 n1 n2 n3 (z_ok1' n4 n5 _ n6) (by rw [z_cv1 n4, n6, z_o64]) (List.mem_append_left _ (hmem _ (List.mem_cons_of_mem _ List.mem_cons_self))) kk
          next => cases hz
        · by_cases q2 : z_val ρ x = 0
          · obtain ⟨iv', m1, m2, m3⟩ := (z_eqf_ok (x := x) (y := (1, 0, 0)) hg.1.1 ox.1 hg.1.1.2.1 (by rw [v0]; exact q2)).l
            have ez : (if (0 : Int64) < Int64.ofInt (z_val ρ x) then Int64.ofInt (z_val ρ x) else -Int64.ofInt (z_val ρ x)) = Int64.ofInt (z_val ρ x) := by rw [q2]; rfl
            rw [ez, ← cx]
            exact z_rf (t := none) (r := x :: r) hg kk (List.mem_append_right _ (List.mem_append_left _ (List.mem_map.mpr ⟨iv', m1, rfl⟩))) m2 m3 (fun w hw => (List.mem_cons.mp hw).elim (fun q => by rw [q]; exact z_okrf vx m3) (fun q => z_okrf (hrr w q) m3))
          · obtain ⟨iv', m1, m2, m3⟩ := (z_ltf_ok (x := (1, 0, 0)) (y := x) hg.1.1 hg.1.1.2.1 ox.1 (by rw [v0]; omega)).l
            rw [if_pos (by rw [Int64.lt_iff_toInt_lt, eX, e0]; omega), ← cx]
            exact z_rf (t := none) (r := x :: r) hg kk (List.mem_append_right _ (List.mem_append_right _ (List.mem_map.mpr ⟨iv', m1, rfl⟩))) m2 m3 (fun w hw => (List.mem_cons.mp hw).elim (fun q => by rw [q]; exact z_okrf vx m3) (fun q => z_okrf (hrr w q) m3))
    next => cases h
  next => cases h
/-- all four -/
theorem zs_mth {j idx lo : Nat} {own : String} {st : zS} {ss : List (Option Nat × zS)} (hx : p.tables.exec = Jvm.exec) (hb : c.code = cc) (hml : c.maxLocals = nL) (hown : s.vm.findClass own = some m.cls) (h1 : (Jvm.Cond.methodLink own idx (zMw j).1).before args s = true) (h2 : (Jvm.Cond.static (zMw j).1).before args s = true) (h3 : (Jvm.Cond.initialized "java/lang/Math").before args s = true) (h4 : (Jvm.Cond.code (zMw j).1 (zMw j).2.1 (zMw j).2.2.1 (zMw j).2.2.2).before args s = true)
    (hfr : 1 ≤ R.frames) (hlo : lo ≤ R.locals) (hwd : (st.2.2.2.2.1.map fun v => if Nat.beq v.1 1 then 2 else 1).sum + 13 ≤ lo) (hc : st.1 ≤ R.cells) (hs : st.2.1 ≤ R.slots) (hcat : ∀ (ad : Nat → Nat) (ρ : Nat → Int) (r : List zV), ((r.map (zcv ad b ρ)).map fun v => v.category).sum = (r.map fun v => if Nat.beq v.1 1 then 2 else 1).sum)
    (hd : decode cc pc = .ok (.invokestatic idx, 3)) (h : z_mth j st = some ss) : zSt p l e R s m args below meth c Q D cl A cA G b sl xs fl h0 nL pc 3 st ss := by
  unfold z_mth at h
  split at h
  · refine zs_mnx (op := fun X Y => if Y < X then Y else X) h (fun X Y => ⟨fun q => if_pos (Int32.lt_iff_toInt_lt.mpr q), fun q => if_neg (fun w => q (Int32.lt_iff_toInt_lt.mp w))⟩) (fun X Y H locs ls rest hls hre k => ?_) hcat
    exact va_mmin hx hb (hml.trans hls.symm) hown h1 h2 h3 h4 hfr (by omega) hc hs hd k
  · refine zs_mnx (op := fun X Y => if X < Y then Y else X) h (fun X Y => ⟨fun q => if_pos (Int32.lt_iff_toInt_lt.mpr q), fun q => if_neg (fun w => q (Int32.lt_iff_toInt_lt.mp w))⟩) (fun X Y H locs ls rest hls hre k => ?_) hcat
    exact va_mmax hx hb (hml.trans hls.symm) hown h1 h2 h3 h4 hfr (by omega) hc hs hd k
  · refine zs_mab h (fun X H locs ls rest hls hre k => ?_) hcat
    exact va_mabs hx hb (hml.trans hls.symm) hown h1 h2 h3 h4 hfr (by omega) hc hs hd k
  · refine zs_mal h (fun X H locs ls rest hls hre k => ?_) hcat
    exact va_mabs_long hx hb (hml.trans hls.symm) hown h1 h2 h3 h4 hfr (by omega) hc hs hd k
  · cases h
end ZSTM
