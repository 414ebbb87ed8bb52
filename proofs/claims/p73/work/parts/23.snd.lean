/-! ===== a run that the checker passes is a run of the machine ===== -/
def zRv (M : zM) (kk : Nat) (o : zOu) (ρ : Nat → Int) : Prop := (kk = 0 ∧ M.2.2.2.1 = none ∧ o.2.1 = none) ∨ (kk = 1 ∧ ∃ (v : zV) (ty : FieldType), o.2.1 = some v ∧ v.1 = 0 ∧ M.2.2.2.1 = some ty ∧ narrow ty (.int (Int32.ofInt (z_val ρ v))) = .int (Int32.ofInt (z_val ρ v))) ∨ (kk = 2 ∧ ∃ v, o.2.1 = some v ∧ v.1 = 1 ∧ M.2.2.2.1 = some .long)
theorem z_rt_ok {M : zM} {k : Nat} {st : zS} {o : zOu} (h : z_rt M k st = some o) : o.1 = st.2.2.1 ∧ o.2.2 = st.2.2.2.2.2 ∧ st.2.2.2.2.1 = o.2.1.toList ∧ st.1 ≤ M.2.2.2.2.2.1 ∧ st.2.1 ≤ M.2.2.2.2.2.2.1 ∧ ∀ ρ, ziv st.2.2.1 ρ → zRv M k o ρ := by
  obtain ⟨cu, su, iv, lv, sk, ov⟩ := st
  unfold z_rt at h
  dsimp only at h
  split at h
  next hb =>
    rw [Bool.and_eq_true] at hb
    have b1 := Nat.le_of_ble_eq_true hb.1
    have b2 := Nat.le_of_ble_eq_true hb.2
    split at h
    next hr => cases h; exact ⟨rfl, rfl, rfl, b1, b2, fun ρ _ => Or.inl ⟨rfl, hr, rfl⟩⟩
    next ty v hr =>
      split at h
      next hv => cases h; exact ⟨rfl, rfl, rfl, b1, b2, fun ρ hi => Or.inr (Or.inl ⟨rfl, v, ty, rfl, hv.1, hr, z_rty_ok hv.2 hi⟩)⟩
      next => cases h
    next v hr =>
      split at h
      next hv => cases h; exact ⟨rfl, rfl, rfl, b1, b2, fun ρ _ => Or.inr (Or.inr ⟨rfl, v, rfl, hv, hr⟩)⟩
      next => cases h
    next => cases h
  next => cases h
/-- what is due at each end -/
def zDue (p : Program) (l : Launch) (e : Env) (R : Room) (s : State) (m : MethodId) (args : Array Value) (below : List Frame) (meth : Method) (c : Code) (Q : State → Prop) (D : va_G) (A : Nat → Prop) (cA : Nat → ClassId) (b : Nat → Nat) (sl : Nat) (xs : Nat → Int32) (fl : zFl) (T : zTb) (M : zM) (k n : Nat) (ρ : Nat → Int) (ad : Nat → Nat) (outs : List zOu) : Prop :=
  ∀ o ∈ outs, ∀ (ρ' : Nat → Int) (ad' : Nat → Nat) (ws' : va_W) (H' : Heap) (locs' : List Loc) (ls' : Array Slot) (pc' kk cu su : Nat) (i : Instr), zBh k n ρ ad o ρ' ad' → zEnd T.1 T.2.1 cA D A b sl xs fl o ρ' ad' ws' H' → va_S A s.heap H' locs' → zRt kk i → zRv M kk o ρ' → decode M.2.1 pc' = .ok (i, 1) → cu ≤ M.2.2.2.2.2.1 → su ≤ M.2.2.2.2.2.2.1 → W p l e R s m args below meth c H' locs' cu su Q (F0 m pc' ls' (o.2.1.toList.map (zcv ad' b ρ')))
/-- what is due where the run stops -/
def zArv (p : Program) (l : Launch) (e : Env) (R : Room) (s : State) (m : MethodId) (args : Array Value) (below : List Frame) (meth : Method) (c : Code) (Q : State → Prop) (D : va_G) (A : Nat → Prop) (cA : Nat → ClassId) (b : Nat → Nat) (sl : Nat) (xs : Nat → Int32) (fl : zFl) (T : zTb) (M : zM) (k n : Nat) (ρ : Nat → Int) (ad : Nat → Nat) (arrs : List (Nat × zS)) : Prop :=
  ∀ a ∈ arrs, ∀ (ρ' : Nat → Int) (ad' : Nat → Nat) (ws' : va_W) (H' : Heap) (locs' : List Loc) (ls' : Array Slot), zBh k n ρ ad (a.2.2.2.1, none, a.2.2.2.2.2.2) ρ' ad' → z_gs D T.2.1 A cA T.1 b sl xs fl s.heap M.2.2.1 a.2 ρ' ad' ws' H' locs' ls' → W p l e R s m args below meth c H' locs' a.2.1 a.2.2.1 Q (F0 m a.1 ls' (a.2.2.2.2.2.1.map (zcv ad' b ρ')))
/-- the claim of the run at a fuel -/
def zSd (l : Launch) (T : zTb) (CN : Nat → List zCn) (zN : List String) (Ts : List Jvm.Cond) (D : va_G) (A : Nat → Prop) (cA : Nat → ClassId) (tys : List (ClassId × FieldType)) (b : Nat → Nat) (sl : Nat) (xs : Nat → Int32) (fl : zFl) (f : Nat) : Prop :=
  ∀ (SP : List Nat) (fr lo : Nat) (M : zM) (pc : Nat) (cur : List zP) (st : zS) (outs : List zOu × List (Nat × zS)), zx T CN fl f SP fr lo M pc cur st = some outs → zMOk zN Ts M → (∀ e ∈ cur, e ∈ M.2.2.2.2.1) →
    ∀ (p : Program) (e : Env) (R : Room) (s : State) (m : MethodId) (args : Array Value) (below : List Frame) (meth : Method) (c : Code) (Q : State → Prop), zCx p R s m args meth c T zN Ts D A tys b sl xs s.heap M → fr ≤ R.frames → lo ≤ R.locals →
    ∀ (ρ : Nat → Int) (ad : Nat → Nat) (ws : va_W) (H : Heap) (locs : List Loc) (ls : Array Slot), z_gs D T.2.1 A cA T.1 b sl xs fl s.heap M.2.2.1 st ρ ad ws H locs ls → zDue p l e R s m args below meth c Q D A cA b sl xs fl T M st.2.2.1.length st.2.2.2.2.2.length ρ ad outs.1 → zArv p l e R s m args below meth c Q D A cA b sl xs fl T M st.2.2.1.length st.2.2.2.2.2.length ρ ad outs.2 →
    W p l e R s m args below meth c H locs st.1 st.2.1 Q (F0 m pc ls (st.2.2.2.2.1.map (zcv ad b ρ)))
theorem zBh.tr {k n k' n' : Nat} {ρ ρ' ρ'' : Nat → Int} {ad ad' ad'' : Nat → Nat} {o : zOu} (h : zBh k' n' ρ' ad' o ρ'' ad'') (h1 : ∀ i, i < k → ρ' i = ρ i) (h2 : ∀ q, q < n → ad' q = ad q) (h3 : k ≤ k') (h4 : n ≤ n') : zBh k n ρ ad o ρ'' ad'' :=
  ⟨fun i hi => (h.1 i (by omega)).trans (h1 i hi), fun q hq => (h.2.1 q (by omega)).trans (h2 q hq), by have := h.2.2.1; omega, by have := h.2.2.2; omega⟩
section ZDUE
variable {p : Program} {l : Launch} {e : Env} {R : Room} {s : State} {m : MethodId} {args : Array Value} {below : List Frame} {meth : Method} {c : Code} {Q : State → Prop} {D : va_G} {A : Nat → Prop} {cA : Nat → ClassId} {b : Nat → Nat} {sl : Nat} {xs : Nat → Int32} {fl : zFl} {T : zTb} {M : zM}
theorem zDue.tr {k n k' n' : Nat} {ρ ρ' : Nat → Int} {ad ad' : Nat → Nat} {outs outs' : List zOu} (h : zDue p l e R s m args below meth c Q D A cA b sl xs fl T M k n ρ ad outs) (hs : ∀ x ∈ outs', x ∈ outs) (h1 : ∀ i, i < k → ρ' i = ρ i) (h2 : ∀ q, q < n → ad' q = ad q) (h3 : k ≤ k') (h4 : n ≤ n') : zDue p l e R s m args below meth c Q D A cA b sl xs fl T M k' n' ρ' ad' outs' :=
  fun o9 ho9 ρ9 ad9 ws9 H9 locs9 ls9 pc9 kk9 cu9 su9 i9 hbh9 => h o9 (hs o9 ho9) ρ9 ad9 ws9 H9 locs9 ls9 pc9 kk9 cu9 su9 i9 (hbh9.tr h1 h2 h3 h4)
theorem zArv.tr {k n k' n' : Nat} {ρ ρ' : Nat → Int} {ad ad' : Nat → Nat} {arrs arrs' : List (Nat × zS)} (h : zArv p l e R s m args below meth c Q D A cA b sl xs fl T M k n ρ ad arrs) (hs : ∀ x ∈ arrs', x ∈ arrs) (h1 : ∀ i, i < k → ρ' i = ρ i) (h2 : ∀ q, q < n → ad' q = ad q) (h3 : k ≤ k') (h4 : n ≤ n') : zArv p l e R s m args below meth c Q D A cA b sl xs fl T M k' n' ρ' ad' arrs' :=
  fun a9 ha9 ρ9 ad9 ws9 H9 locs9 ls9 hbh9 => h a9 (hs a9 ha9) ρ9 ad9 ws9 H9 locs9 ls9 (hbh9.tr h1 h2 h3 h4)
end ZDUE
section ZMAIN
variable {l : Launch} {T : zTb} {CN : Nat → List zCn} {zN : List String} {Ts : List Jvm.Cond} {D : va_G} {A : Nat → Prop} {cA : Nat → ClassId} {tys : List (ClassId × FieldType)} {b : Nat → Nat} {sl : Nat} {xs : Nat → Int32} {fl : zFl}
def zPc (T : zTb) (zN : List String) (D : va_G) (A : Nat → Prop) (tys : List (ClassId × FieldType)) (b : Nat → Nat) (sl : Nat) (xs : Nat → Int32) (as : List zV) (ρ : Nat → Int) (ad : Nat → Nat) (ws : va_W) : Array Value → State → Prop := fun a U => a = (as.map (zcv ad b ρ)).toArray ∧ va_K D T.2.1 tys U ∧ va_P D T.2.1 ws U.heap ∧ (va_X (b 0) sl xs U U.heap ∧ zOv T.2.2.1 U ∧ zStr T.2.2.2.2.2.2.2.2.2.2.2.2 zN A b U U.heap) ∧ b 0 < U.heap.size ∧ ∀ q : Nat, U.heap.size ≤ q → A q
def zQc (T : zTb) (D : va_G) (A : Nat → Prop) (cA : Nat → ClassId) (b : Nat → Nat) (sl : Nat) (xs : Nat → Int32) (fl : zFl) (k n : Nat) (ρ : Nat → Int) (ad : Nat → Nat) (outs : List zOu) : Array Value → State → Outcome → State → Prop := fun _ st oc t => va_F A st t ∧ ∃ o ∈ outs, ∃ (ρ' : Nat → Int) (ad' : Nat → Nat) (ws' : va_W), zBh k n ρ ad o ρ' ad' ∧ zEnd T.1 T.2.1 cA D A b sl xs fl o ρ' ad' ws' t.heap ∧ oc = .returned (o.2.1.map (zcv ad' b ρ'))
/-- from a walk of the body to a contract of the machine -/
theorem z_body (hAll : zAllOk T zN Ts cA tys) (hbA : ¬ A (b 0)) (hsl : sl ≤ 2147483647) {M : zM} (hM : zMOk zN Ts M) (hpl : plainName M.1.cls = true) {fr lo k n : Nat} {as : List zV} {outs : List zOu} {ρ : Nat → Int} {ad : Nat → Nat} {ws : va_W} (hwd : z_wd2 as ≤ M.2.2.1)
    (hW : ∀ (p : Program) (e : Env) (s : State) (m : MethodId) (args : Array Value) (below : List Frame) (meth : Method) (c : Code) (Q : State → Prop) (ls : Array Slot), zCx p { frames := fr, cells := M.2.2.2.2.2.1, slots := M.2.2.2.2.2.2.1, locals := lo } s m args meth c T zN Ts D A tys b sl xs s.heap M → va_P D T.2.1 ws s.heap → lv_has ls M.2.2.1 ((z_arg 0 as).map fun q => (q.1, zcv ad b ρ q.2)) → zDue p l e { frames := fr, cells := M.2.2.2.2.2.1, slots := M.2.2.2.2.2.2.1, locals := lo } s m args below meth c Q D A cA b sl xs fl T M k n ρ ad outs → W p l e { frames := fr, cells := M.2.2.2.2.2.1, slots := M.2.2.2.2.2.2.1, locals := lo } s m args below meth c s.heap [] 0 0 Q (F0 m 0 ls [])) :
    Met l M.1 (Jvm.Cond.code M.1 M.2.1 M.2.2.1 M.2.2.2.1 :: Ts) { frames := fr, cells := M.2.2.2.2.2.1, slots := M.2.2.2.2.2.2.1, locals := lo } (zPc T zN D A tys b sl xs as ρ ad ws) (zQc T D A cA b sl xs fl k n ρ ad outs) M.2.2.2.2.2.1 M.2.2.2.2.2.2.1 A := by
  refine Met.ofW (cc := M.2.1) (maxL := M.2.2.1) (ret := M.2.2.2.1) hpl rfl ?_
  intro p e s m args below meth c s₁ B hml hv
  obtain ⟨rfl, hK, hP, hX, hbl, hA⟩ := hv
  have hx := B.exec
  have hb := B.bytes
  have hr := B.returns
  have hts0 := atoms_spec (ws := Jvm.Cond.code M.1 M.2.1 M.2.2.1 M.2.2.2.1 :: Ts) B.pre
  have hts : ∀ w ∈ Ts, w.before (as.map (zcv ad b ρ)).toArray s = true := fun w h => hts0 w (List.mem_cons_of_mem _ h)
  have hown : s.vm.findClass M.1.cls = some m.cls := findClass_of_methodNamed B.named
  have hlocks := B.notSynchronized
  have hname : meth.name = M.1.name := (name_of_methodNamed B.named B.method).1
  have hl := lv_entry (as.map (zcv ad b ρ)) (n := M.2.2.1) (by rw [z_wd2_sl]; exact hwd)
  rw [z_arg_map] at hl
  rw [lg_entry_eq]
  generalize (lg_sl (as.map (zcv ad b ρ)) ++ List.replicate (M.2.2.1 - (lg_sl (as.map (zcv ad b ρ))).length) Slot.unset).toArray = ls at hl ⊢
  refine hW p e s m _ below meth c _ ls ⟨hx, hb, hml, hr, hlocks, hown, hts, hK, fun h => by rw [hname]; exact hM.2.2 h, hX, hbl, hbA, hA, hsl, Nat.le_refl _, Nat.le_refl _⟩ hP hl ?_
  intro o ho ρ' ad' ws' H' locs' ls' pc' kk cu su i hbh hend hS hrt hrv hd hcu hsu
  refine W.widen hcu hsu ?_
  have hq : ∀ (ov' : Option Value) (t : State), ov' = o.2.1.map (zcv ad' b ρ') → t.heap = H' → zQc T D A cA b sl xs fl k n ρ ad outs (as.map (zcv ad b ρ)).toArray s (.returned ov') t := fun ov' t e1 ht => ⟨hS.F ht, o, ho, ρ', ad', ws', hbh, by rw [ht]; exact hend, by rw [e1]⟩
  rcases hrv with ⟨rfl, r1, r2⟩ | ⟨rfl, v, ty, r1, r2, r3, r4⟩ | ⟨rfl, v, r1, r2, r3⟩
  · rcases hrt with ⟨-, rfl⟩ | ⟨q, -⟩ | ⟨q, -⟩
    · rw [r2]
      exact W.vret hx hb (hr.trans r1) (fun t ht _ => hq none t (by rw [r2]; rfl) ht) hS.2.2 hd
    · omega
    · omega
  · rcases hrt with ⟨q, -⟩ | ⟨-, rfl⟩ | ⟨q, -⟩
    · omega
    · rw [r1]
      show W _ _ _ _ _ _ _ _ _ _ _ _ _ _ _ (F0 m pc' ls' [zcv ad' b ρ' v])
      rw [z_cv0 r2]
      have hq2 : ∀ (t : State), t.heap = H' → zQc T D A cA b sl xs fl k n ρ ad outs (as.map (zcv ad b ρ)).toArray s (.returned (some (.int (Int32.ofInt (z_val ρ' v))))) t := fun t ht => hq _ t (by rw [r1]; show _ = some (zcv ad' b ρ' v); rw [z_cv0 r2]) ht
      exact W.zret hx hb (hr.trans r3) r4 (fun t ht _ => hq2 t ht) hS.2.2 hd
    · omega
  · rcases hrt with ⟨q, -⟩ | ⟨q, -⟩ | ⟨-, rfl⟩
    · omega
    · omega
    · rw [r1]
      show W _ _ _ _ _ _ _ _ _ _ _ _ _ _ _ (F0 m pc' ls' [zcv ad' b ρ' v])
      rw [z_cv1 r2]
      exact W.lret hx hb (hr.trans r3) (fun t ht _ => hq _ t (by rw [r1]; show _ = some (zcv ad' b ρ' v); rw [z_cv1 r2]) ht) hS.2.2 hd
theorem z_met (hAll : zAllOk T zN Ts cA tys) (hbA : ¬ A (b 0)) (hsl : sl ≤ 2147483647) {M : zM} (hM : zMOk zN Ts M) (hpl : plainName M.1.cls = true) {f fr lo : Nat} {iv : zI} {as : List zV} {ov : zO} {outs : List zOu} (hrun : zx T CN fl f [] fr lo M 0 M.2.2.2.2.1 (0, 0, iv, z_arg 0 as, [], ov) = some (outs, [])) (ih : zSd l T CN zN Ts D A cA tys b sl xs fl f)
    {ρ : Nat → Int} {ad : Nat → Nat} {ws : va_W} (hi : ziv iv ρ) (has : ∀ v ∈ as, zok ov.length iv ρ v) (hov : ∀ (p9 i9 : Nat) (v : zV), z_lk ov p9 i9 = some v → zok ov.length iv ρ v) (hw : z_wd T.1 cA ov ad b ρ ws) (hD : va_D A ws) (h1 : zSc sl xs fl.1 ρ) (h2 : 9 < iv.length ∧ zMm iv ov ρ ws ∧ zKp fl.2 ws) (hwd : z_wd2 as ≤ M.2.2.1) :
    Met l M.1 (Jvm.Cond.code M.1 M.2.1 M.2.2.1 M.2.2.2.1 :: Ts) { frames := fr, cells := M.2.2.2.2.2.1, slots := M.2.2.2.2.2.2.1, locals := lo } (zPc T zN D A tys b sl xs as ρ ad ws) (zQc T D A cA b sl xs fl iv.length ov.length ρ ad outs) M.2.2.2.2.2.1 M.2.2.2.2.2.2.1 A := by
  refine z_body hAll hbA hsl hM hpl hwd (fun p e s m args below meth c Q ls hC hP hl hdue => ?_)
  refine ih [] fr lo M 0 M.2.2.2.2.1 (0, 0, iv, z_arg 0 as, [], ov) (outs, []) hrun hM (fun _ h => h) p e _ s m _ below meth c _ hC (Nat.le_refl _) (Nat.le_refl _) ρ ad ws s.heap [] ls ⟨⟨hi, fun q hq => has _ (z_arg_mem 0 q hq), (fun v hv => absurd hv List.not_mem_nil), hov⟩, hl, hw, hP, hD, va_S.rf, h1, h2.1, h2.2.1, h2.2.2⟩ hdue (fun a ha => absurd ha List.not_mem_nil)
theorem z_blind {as : List zV} {ρ : Nat → Int} {ad : Nat → Nat} {ws : va_W} : FrameBlind (zPc T zN D A tys b sl xs as ρ ad ws) := fun a U g mk q => by
  obtain ⟨q1, q2, q3, q4, q5, q6⟩ := q
  exact ⟨q1, va_K.moved (u := U) (U := U.calling g mk a) (Vm.Alike.refl U.vm) q2, q3, ⟨va_X.moved (u := U) (U := U.calling g mk a) (Vm.Alike.refl U.vm) q4.1, q4.2.1.moved (u := U) (U := U.calling g mk a) (Vm.Alike.refl U.vm), q4.2.2.1.moved (u := U) (U := U.calling g mk a) (Vm.Alike.refl U.vm), q4.2.2.2.same (u := U) (U := U.calling g mk a) rfl⟩, q5, q6⟩
theorem z_len {sk : List zV} {na : Nat} (h : ¬ Nat.blt sk.length na = true) : na ≤ sk.length := by
  rcases Nat.lt_or_ge sk.length na with q | q
  · exact absurd (Nat.ble_eq_true_of_le q) h
  · exact q
theorem z_split {sk : List zV} {na : Nat} {ad : Nat → Nat} {ρ : Nat → Int} : sk.map (zcv ad b ρ) = (((sk.take na).reverse).map (zcv ad b ρ)).reverse ++ (sk.drop na).map (zcv ad b ρ) := by
  rw [← List.map_reverse, List.reverse_reverse, ← List.map_append, List.take_append_drop]
theorem z_pre_mem {G : List zC} {ST : List (List Int)} {knd na cn' : Nat} {sk as rest : List zV} (hpre : z_pre G ST knd na cn' sk = some (as, rest)) : (∀ v ∈ as, v ∈ sk) ∧ ∀ w ∈ rest, w ∈ sk := by
  have key : ∀ (o : zV) (r : List zV), sk.drop na = o :: r → (∀ v ∈ o :: (sk.take na).reverse, v ∈ sk) ∧ ∀ w ∈ r, w ∈ sk := fun o r hdr => by
    refine ⟨fun v hv => ?_, fun w hw => List.mem_of_mem_drop (by rw [hdr]; exact List.mem_cons_of_mem _ hw)⟩
    rcases List.mem_cons.mp hv with q | q
    · subst q; exact List.mem_of_mem_drop (by rw [hdr]; exact List.mem_cons_self)
    · exact List.mem_of_mem_take (List.mem_reverse.mp q)
  unfold z_pre at hpre
  split at hpre
  · cases hpre
  · split at hpre
    · cases hpre
      exact ⟨fun v hv => List.mem_of_mem_take (List.mem_reverse.mp hv), fun w hw => List.mem_of_mem_drop hw⟩
    · split at hpre
      next o r hdr =>
        split at hpre
        · split at hpre
          · split at hpre
            · cases hpre; exact key o _ hdr
            · cases hpre
          · cases hpre
        · cases hpre
      next => cases hpre
    · split at hpre
      next o r hdr =>
        split at hpre
        · cases hpre; exact key o _ hdr
        · cases hpre
      next => cases hpre
    · split at hpre
      next o r hdr =>
        split at hpre
        · split at hpre
          · cases hpre; exact key o _ hdr
          · cases hpre
        · cases hpre
      next => cases hpre
    · cases hpre
      exact ⟨fun v hv => List.mem_of_mem_take (List.mem_reverse.mp hv), fun w hw => List.mem_of_mem_drop hw⟩
    · cases hpre
/-- a call, by a contract of the machine -/
theorem z_run {p : Program} {e : Env} {R : Room} {s : State} {m : MethodId} {args : Array Value} {below : List Frame} {meth : Method} {c : Code} {M M' : zM} {pc cu su knd mi na k idx fr' lo' : Nat} {i : Instr} {iv : zI} {lv : zL} {sk as rest as' : List zV} {ov : zO} {ρ ρ' : Nat → Int} {ad : Nat → Nat} {ws : va_W} {H : Heap} {locs : List Loc} {ls : Array Slot} {Qc : Array Value → State → Outcome → State → Prop} (hAll : zAllOk T zN Ts cA tys) (hM : zMOk zN Ts M) (hC : zCx p R s m args meth c T zN Ts D A tys b sl xs s.heap M)
    (hg : z_gm D T.2.1 A cA T.1 b sl xs fl s.heap M.2.2.1 iv lv sk ov ρ ad ws H locs ls) (hct : z_ct T.2.2.2.2.2.2.2.2.2.2.2.1 M.2.2.2.2.2.2.2.1 idx = some (knd, mi, na)) (hmt : T.2.2.2.2.2.2.2.2.2.2.1[mi]? = some M') (hkd : z_kd knd k = true) (k2 : k = 4 → i = .invokevirtual idx) (k3 : k = 5 → i = .invokestatic idx) (k4 : k = 6 → i = .invokespecial idx)
    (hpre : z_pre T.1 T.2.2.2.2.2.2.2.2.2.2.2.2.1 knd na M'.2.2.2.2.2.2.2.1 sk = some (as, rest)) (c2 : z_wd2 rest ≤ 8) (hfit : cu + M'.2.2.2.2.2.1 ≤ R.cells ∧ su + M'.2.2.2.2.2.2.1 ≤ R.slots) (hfr : fr' + 1 ≤ R.frames) (hlo : 8 + (M'.2.2.1 + 11) + lo' ≤ R.locals) (eas : as'.map (zcv ad b ρ') = as.map (zcv ad b ρ))
    (hMet : Met l M'.1 (Jvm.Cond.code M'.1 M'.2.1 M'.2.2.1 M'.2.2.2.1 :: Ts) { frames := fr', cells := M'.2.2.2.2.2.1, slots := M'.2.2.2.2.2.2.1, locals := lo' } (zPc T zN D A tys b sl xs as' ρ' ad ws) Qc M'.2.2.2.2.2.1 M'.2.2.2.2.2.2.1 A) (hd : decode M.2.1 pc = .ok (i, 3)) :
    ∃ As, CallRun p l e R s m args below meth c H locs cu su M'.2.2.2.2.2.1 M'.2.2.2.2.2.2.1 (F0 m pc ls (sk.map (zcv ad b ρ))) (rest.map (zcv ad b ρ)) (Qc As) A := by
  obtain ⟨w3, w4, w02, -, w7⟩ := hAll.2.2.1 _ _ _ _ _ _ hct hM.1
  obtain ⟨hx, hb, hml, hr, hlk, hown, hts, hK, hin, hX, hbl, hbA, hA, hsl', hR1, hR2⟩ := id hC
  obtain ⟨hM', hpl', hcode'⟩ := hAll.2.1 mi M' hmt
  have hass := z_pre_mem hpre
  have hGood : GoodIn Ts (Jvm.Cond.code M'.1 M'.2.1 M'.2.2.1 M'.2.2.2.1 :: Ts) := fun w hw => by
    rcases List.mem_cons.mp hw with q | q
    · subst q; exact ⟨hcode', hAll.2.2.2 _ hcode'⟩
    · exact ⟨q, hAll.2.2.2 _ q⟩
  have hPcU : ∀ U : State, U.heap = H → s.WarmedH U.vm → zPc T zN D A tys b sl xs as' ρ' ad ws (as.map (zcv ad b ρ)).toArray U := fun U hU hW => ⟨by rw [eas], va_K.moved hW.alike hK, by rw [hU]; exact hg.2.2.2.1, ⟨va_X.moved hW.alike (by rw [hU]; exact hX.1.kept (hg.2.2.2.2.2.1.2.1 (b 0) hbl hbA)), hX.2.1.moved hW.alike, zStr1.moved hW.alike (by rw [hU]; exact hX.2.2.1.kept hg.2.2.2.2.2.1.2.1), hX.2.2.2.warm hW⟩, by rw [hU]; exact Nat.lt_of_lt_of_le hbl hg.2.2.2.2.2.1.1, fun q hq => hA q (by rw [hU] at hq; exact Nat.le_trans hg.2.2.2.2.2.1.1 hq)⟩
  have hrest : 2 * (F0 m pc ls (sk.map (zcv ad b ρ))).monitorRoom + ((rest.map (zcv ad b ρ)).map fun v => v.category).sum ≤ 8 := lv_room (by rw [z_wd2_cat]; exact c2)
  have hfix : CallFix p m c M.2.1 M.2.2.1 s args Ts M.1.cls := ⟨hx, hb, hml, hown, hts⟩
  by_cases h7 : knd = 7
  · subst h7
    obtain ⟨⟨host, hnl⟩, v2, v3, v4, v5⟩ := w7 rfl M' hmt
    have hCN : va_CN R s args M.1.cls idx M'.1 host M'.2.1 M'.2.2.1 M'.2.2.2.1 (Jvm.Cond.code M'.1 M'.2.1 M'.2.2.1 M'.2.2.2.1 :: Ts) { frames := fr', cells := M'.2.2.2.2.2.1, slots := M'.2.2.2.2.2.2.1, locals := lo' } M'.2.2.2.2.2.1 M'.2.2.2.2.2.2.1 na :=
      va_cnB na hts hGood rfl rfl rfl (hX.2.2.2.2 _ hnl) (hts _ v2) ⟨v3.1, v3.2, v4⟩ ⟨hfr, hlo⟩
    unfold z_pre at hpre
    split at hpre
    next => cases hpre
    next hna =>
      have hna := z_len hna
      have htl : ((sk.take na).reverse.map (zcv ad b ρ)).length = na := by rw [List.length_map, List.length_reverse, List.length_take]; omega
      change some ((sk.take na).reverse, sk.drop na) = some (as, rest) at hpre
      cases hpre
      have hi5 : i = .invokestatic idx := k3 (Nat.eq_of_beq_eq_true hkd)
      subst hi5
      refine ⟨((sk.take na).reverse.map (zcv ad b ρ)).toArray, fun T9 hT9 X9 => ?_⟩
      obtain ⟨v, st₀, t, T', L, h0, X', hL, e1, -, hq, st⟩ := va_runSN hfix hMet ⟨hCN, hts _ v5, trivial⟩ ⟨z_blind, hPcU⟩ rfl htl hg.2.1.1 z_split hrest hd hfit T9 hT9 X9
      exact ⟨v, st₀, t, T', L, h0, X', hL, e1, hq, st⟩
  have hknd : knd ≤ 2 ∨ knd = 5 := by
    unfold z_pre at hpre
    split at hpre
    · cases hpre
    · split at hpre
      · omega
      · omega
      · omega
      · omega
      · exact absurd rfl h7
      · cases hpre
  obtain ⟨u1, u2, u3, u4, u5, u6, u7, u8⟩ := w02 hknd M' hmt
  have hCB : CallB R s args M.1.cls idx M'.1 M'.2.1 M'.2.2.1 M'.2.2.2.1 (Jvm.Cond.code M'.1 M'.2.1 M'.2.2.1 M'.2.2.2.1 :: Ts) { frames := fr', cells := M'.2.2.2.2.2.1, slots := M'.2.2.2.2.2.2.1, locals := lo' } M'.2.2.2.2.2.1 M'.2.2.2.2.2.2.1 na :=
    callB_of na hts hGood rfl rfl rfl (hts _ u2) (hts _ u1) ⟨u3.1, u3.2, u4⟩ ⟨hfr, hlo⟩
  unfold z_pre at hpre
  split at hpre
  next => cases hpre
  next hna =>
    have hna := z_len hna
    have htl : ((sk.take na).reverse.map (zcv ad b ρ)).length = na := by rw [List.length_map, List.length_reverse, List.length_take]; omega
    split at hpre
    next =>
      -- static
      cases hpre
      have hi5 : i = .invokestatic idx := k3 (Nat.eq_of_beq_eq_true hkd)
      subst hi5
      exact ⟨_, W.runS hfix hMet ⟨hCB, hts _ (u6 rfl)⟩ ⟨z_blind, hPcU⟩ rfl htl hg.2.1.1 z_split hrest hd hfit⟩
    next =>
      -- virtual
      have hi4 : i = .invokevirtual idx := k2 (Nat.eq_of_beq_eq_true hkd)
      subst hi4
      split at hpre
      next o r hdr =>
        split at hpre
        next ho2 =>
          split at hpre
          next g hgp =>
            split at hpre
            next hgc =>
              cases hpre
              have hoo : o.2.1 < ov.length := by
                have := hg.1.2.2.1 o (hass.1 o List.mem_cons_self)
                unfold zok at this; rw [ho2] at this; exact this
              obtain ⟨e0, hq, he⟩ := z_wd_at hg.2.2.1 hoo hgp
              unfold z_en at he
              rw [hgc.1] at he
              obtain ⟨fs, rfl, -, -⟩ := he
              obtain ⟨C2, T2, N2, hcl2, -, -⟩ := hAll.1.2.1 _ g hgp hgc.1
              have hNC := (hAll.1.1 _ C2 T2 N2 hcl2).1
              rw [hgc.2, hM'.1] at hNC
              have hCe : M'.1.cls = C2 := Option.some.inj hNC
              have hrecv := va_recv hK hg.2.2.2.1 hcl2 hq
              have estk : sk.map (zcv ad b ρ) = ((sk.take na).reverse.map (zcv ad b ρ)).reverse ++ .ref (ad o.2.1) :: rest.map (zcv ad b ρ) := by
                rw [z_split (na := na), hdr, List.map_cons, z_cv2 ho2]
              have hPv : ∀ U : State, U.heap = H → s.WarmedH U.vm → zPc T zN D A tys b sl xs as' ρ' ad ws (Value.ref (ad o.2.1) :: (sk.take na).reverse.map (zcv ad b ρ)).toArray U := fun U hU hW => by
                have := hPcU U hU hW
                rw [List.map_cons, z_cv2 ho2] at this
                exact this
              exact ⟨_, W.runV hfix hMet ⟨hCB, hts _ (u5 (Or.inl rfl)).1, hts _ (u5 (Or.inl rfl)).2⟩ ⟨z_blind, by rw [hCe]; exact hrecv, hPv⟩ rfl htl hg.2.1.1 estk hrest hd hfit⟩
            next => cases hpre
          next => cases hpre
        next => cases hpre
      next => cases hpre
    next =>
      -- makers
      have hi6 : i = .invokespecial idx := k4 (Nat.eq_of_beq_eq_true hkd)
      subst hi6
      split at hpre
      next o r hdr =>
        split at hpre
        next ho2 =>
          cases hpre
          obtain ⟨y1, y2, y3⟩ := u7 rfl
          have estk : sk.map (zcv ad b ρ) = ((sk.take na).reverse.map (zcv ad b ρ)).reverse ++ .ref (ad o.2.1) :: rest.map (zcv ad b ρ) := by
            rw [z_split (na := na), hdr, List.map_cons, z_cv2 ho2]
          have hPv : ∀ U : State, U.heap = H → s.WarmedH U.vm → zPc T zN D A tys b sl xs as' ρ' ad ws (Value.ref (ad o.2.1) :: (sk.take na).reverse.map (zcv ad b ρ)).toArray U := fun U hU hW => by
            have := hPcU U hU hW
            rw [List.map_cons, z_cv2 ho2] at this
            exact this
          rw [y3] at hCB hMet
          exact ⟨_, W.runI hfix hMet ⟨hCB, y1, hts _ y2⟩ ⟨z_blind, hPv⟩ rfl htl hg.2.1.1 estk hrest hd hfit⟩
        next => cases hpre
      next => cases hpre
    next =>
      -- of a text
      have hi4 : i = .invokevirtual idx := k2 (Nat.eq_of_beq_eq_true hkd)
      subst hi4
      split at hpre
      next o r hdr =>
        split at hpre
        next ho4 =>
          split at hpre
          next i9 hno =>
            cases hpre
            obtain ⟨e1, e2⟩ := z_sno_ok hno
            obtain ⟨cell, h1, h2, h3, -⟩ := (hX.2.2.1.1 i9 e2).1.kept hg.2.2.2.2.2.1.2.1
            have estk : sk.map (zcv ad b ρ) = ((sk.take na).reverse.map (zcv ad b ρ)).reverse ++ .ref (b (1 + 2 * i9)) :: rest.map (zcv ad b ρ) := by
              rw [z_split (na := na), hdr, List.map_cons, z_cv4 ho4, e1]
            have hPv : ∀ U : State, U.heap = H → s.WarmedH U.vm → zPc T zN D A tys b sl xs as' ρ' ad ws (Value.ref (b (1 + 2 * i9)) :: (sk.take na).reverse.map (zcv ad b ρ)).toArray U := fun U hU hW => by
              have := hPcU U hU hW
              rw [List.map_cons, z_cv4 ho4, e1] at this
              exact this
            exact ⟨_, W.runV hfix hMet ⟨hCB, hts _ (u5 (Or.inr rfl)).1, hts _ (u5 (Or.inr rfl)).2⟩ ⟨z_blind, by rw [u8 rfl]; exact ⟨cell, h1, h2, h3⟩, hPv⟩ rfl htl hg.2.1.1 estk hrest hd hfit⟩
          next => cases hpre
        next => cases hpre
      next => cases hpre
    next => exact absurd rfl h7
    next => cases hpre
end ZMAIN
