/-! ===== a run that the checker passes is a run of the machine ===== -/
def zRv (M : zM) (kk : Nat) (o : zOu) (ρ : Nat → Int) : Prop := (kk = 0 ∧ M.2.2.2.1 = none ∧ o.2.1 = none) ∨ (kk = 1 ∧ ∃ v, o.2.1 = some v ∧ v.1 = 0 ∧ (M.2.2.2.1 = some .int ∨ (M.2.2.2.1 = some .boolean ∧ 0 ≤ z_val ρ v ∧ z_val ρ v ≤ 1))) ∨ (kk = 2 ∧ ∃ v, o.2.1 = some v ∧ v.1 = 1 ∧ M.2.2.2.1 = some .long)
theorem z_rt_ok {M : zM} {k : Nat} {st : zS} {outs : List zOu} (h : z_rt M k st = some outs) : ∃ o : zOu, outs = [o] ∧ o.1 = st.2.2.1 ∧ o.2.2 = st.2.2.2.2.2 ∧ st.2.2.2.2.1 = o.2.1.toList ∧ st.1 ≤ M.2.2.2.2.2.1 ∧ st.2.1 ≤ M.2.2.2.2.2.2.1 ∧ ∀ ρ, ziv st.2.2.1 ρ → zRv M k o ρ := by
  obtain ⟨cu, su, iv, lv, sk, ov⟩ := st
  unfold z_rt at h
  dsimp only at h
  split at h
  next hb =>
    rw [Bool.and_eq_true] at hb
    have b1 := Nat.le_of_ble_eq_true hb.1
    have b2 := Nat.le_of_ble_eq_true hb.2
    split at h
    next hr => cases h; exact ⟨_, rfl, rfl, rfl, rfl, b1, b2, fun ρ _ => Or.inl ⟨rfl, hr, rfl⟩⟩
    next v hr =>
      split at h
      next hv => cases h; exact ⟨_, rfl, rfl, rfl, rfl, b1, b2, fun ρ _ => Or.inr (Or.inl ⟨rfl, v, rfl, hv, Or.inl hr⟩)⟩
      next => cases h
    next v hr =>
      split at h
      next hv =>
        split at h
        next q hq =>
          split at h
          next hc =>
            cases h
            refine ⟨_, rfl, rfl, rfl, rfl, b1, b2, fun ρ hi => Or.inr (Or.inl ⟨rfl, v, rfl, hv, Or.inr ⟨hr, ?_⟩⟩)⟩
            have := z_bd_ok hq hi
            exact ⟨by omega, by omega⟩
          next => cases h
        next => cases h
      next => cases h
    next v hr =>
      split at h
      next hv => cases h; exact ⟨_, rfl, rfl, rfl, rfl, b1, b2, fun ρ _ => Or.inr (Or.inr ⟨rfl, v, rfl, hv, hr⟩)⟩
      next => cases h
    next => cases h
  next => cases h
/-- what is due at each end -/
def zDue (p : Program) (l : Launch) (e : Env) (R : Room) (s : State) (m : MethodId) (args : Array Value) (below : List Frame) (meth : Method) (c : Code) (Q : State → Prop) (D : va_G) (A : Nat → Prop) (cA : Nat → ClassId) (b : Nat → Nat) (sl : Nat) (xs : Nat → Int32) (fl : Bool) (T : zTb) (M : zM) (k n : Nat) (ρ : Nat → Int) (ad : Nat → Nat) (outs : List zOu) : Prop :=
  ∀ o ∈ outs, ∀ (ρ' : Nat → Int) (ad' : Nat → Nat) (ws' : va_W) (H' : Heap) (locs' : List Loc) (ls' : Array Slot) (pc' kk cu su : Nat) (i : Instr), zBh k n ρ ad o ρ' ad' → zEnd T.1 T.2.1 cA D A b sl xs fl o ρ' ad' ws' H' → va_S A s.heap H' locs' → zRt kk i → zRv M kk o ρ' → decode M.2.1 pc' = .ok (i, 1) → cu ≤ M.2.2.2.2.2.1 → su ≤ M.2.2.2.2.2.2.1 → W p l e R s m args below meth c H' locs' cu su Q (F0 m pc' ls' (o.2.1.toList.map (zcv ad' b ρ')))
/-- the claim of the run at a fuel -/
def zSd (l : Launch) (T : zTb) (zN : List String) (Ts : List Jvm.Cond) (D : va_G) (A : Nat → Prop) (cA : Nat → ClassId) (tys : List (ClassId × FieldType)) (b : Nat → Nat) (sl : Nat) (xs : Nat → Int32) (fl : Bool) (f : Nat) : Prop :=
  ∀ (fr lo : Nat) (M : zM) (pc : Nat) (cur : List zP) (st : zS) (outs : List zOu), zx T fl f fr lo M pc cur st = some outs → zMOk zN Ts M → (∀ e ∈ cur, e ∈ M.2.2.2.2.1) →
    ∀ (p : Program) (e : Env) (R : Room) (s : State) (m : MethodId) (args : Array Value) (below : List Frame) (meth : Method) (c : Code) (Q : State → Prop), zCx p R s m args meth c T Ts D A tys b sl xs s.heap M → fr ≤ R.frames → lo ≤ R.locals →
    ∀ (ρ : Nat → Int) (ad : Nat → Nat) (ws : va_W) (H : Heap) (locs : List Loc) (ls : Array Slot), z_gs D T.2.1 A cA T.1 b sl xs fl s.heap M.2.2.1 st ρ ad ws H locs ls → zDue p l e R s m args below meth c Q D A cA b sl xs fl T M st.2.2.1.length st.2.2.2.2.2.length ρ ad outs →
    W p l e R s m args below meth c H locs st.1 st.2.1 Q (F0 m pc ls (st.2.2.2.2.1.map (zcv ad b ρ)))
theorem zBh.tr {k n k' n' : Nat} {ρ ρ' ρ'' : Nat → Int} {ad ad' ad'' : Nat → Nat} {o : zOu} (h : zBh k' n' ρ' ad' o ρ'' ad'') (h1 : ∀ i, i < k → ρ' i = ρ i) (h2 : ∀ q, q < n → ad' q = ad q) (h3 : k ≤ k') (h4 : n ≤ n') : zBh k n ρ ad o ρ'' ad'' :=
  ⟨fun i hi => (h.1 i (by omega)).trans (h1 i hi), fun q hq => (h.2.1 q (by omega)).trans (h2 q hq), by have := h.2.2.1; omega, by have := h.2.2.2; omega⟩
section ZMAIN
variable {l : Launch} {T : zTb} {zN : List String} {Ts : List Jvm.Cond} {D : va_G} {A : Nat → Prop} {cA : Nat → ClassId} {tys : List (ClassId × FieldType)} {b : Nat → Nat} {sl : Nat} {xs : Nat → Int32} {fl : Bool}
def zPc (T : zTb) (D : va_G) (A : Nat → Prop) (tys : List (ClassId × FieldType)) (b : Nat → Nat) (sl : Nat) (xs : Nat → Int32) (as : List zV) (ρ : Nat → Int) (ad : Nat → Nat) (ws : va_W) : Array Value → State → Prop := fun a U => a = (as.map (zcv ad b ρ)).toArray ∧ va_K D T.2.1 tys U ∧ va_P D T.2.1 ws U.heap ∧ (va_X (b 0) sl xs U U.heap ∧ zOv T.2.2.1 U) ∧ b 0 < U.heap.size ∧ ∀ q : Nat, U.heap.size ≤ q → A q
def zQc (T : zTb) (D : va_G) (A : Nat → Prop) (cA : Nat → ClassId) (b : Nat → Nat) (sl : Nat) (xs : Nat → Int32) (fl : Bool) (iv : zI) (ov : zO) (ρ : Nat → Int) (ad : Nat → Nat) (outs : List zOu) : Array Value → State → Outcome → State → Prop := fun _ st oc t => va_F A st t ∧ ∃ o ∈ outs, ∃ (ρ' : Nat → Int) (ad' : Nat → Nat) (ws' : va_W), zBh iv.length ov.length ρ ad o ρ' ad' ∧ zEnd T.1 T.2.1 cA D A b sl xs fl o ρ' ad' ws' t.heap ∧ oc = .returned (o.2.1.map (zcv ad' b ρ'))
theorem z_narz2 {z : Int} (h1 : 0 ≤ z) (h2 : z ≤ 1) : narrow .boolean (.int (Int32.ofInt z)) = .int (Int32.ofInt z) := by
  rcases (show z = 0 ∨ z = 1 by omega) with rfl | rfl
  · decide
  · decide
set_option maxHeartbeats 4000000 in
theorem z_met (hAll : zAllOk T zN Ts cA tys) (hbA : ¬ A (b 0)) (hsl : sl ≤ 2147483647) {M : zM} (hM : zMOk zN Ts M) (hpl : plainName M.1.cls = true) {f fr lo : Nat} {iv : zI} {as : List zV} {ov : zO} {outs : List zOu} (hrun : zx T fl f fr lo M 0 M.2.2.2.2.1 (0, 0, iv, z_arg 0 as, [], ov) = some outs) (ih : zSd l T zN Ts D A cA tys b sl xs fl f)
    {ρ : Nat → Int} {ad : Nat → Nat} {ws : va_W} (hi : ziv iv ρ) (has : ∀ v ∈ as, zok ov.length iv ρ v) (hov : ∀ (p9 i9 : Nat) (v : zV), z_lk ov p9 i9 = some v → zok ov.length iv ρ v) (hw : z_wd T.1 cA ov ad b ρ ws) (hD : va_D A ws) (h1 : zSc sl xs fl ρ) (h2 : 9 < iv.length) (hwd : z_wd2 as ≤ M.2.2.1) :
    Met l M.1 (Jvm.Cond.code M.1 M.2.1 M.2.2.1 M.2.2.2.1 :: Ts) { frames := fr, cells := M.2.2.2.2.2.1, slots := M.2.2.2.2.2.2.1, locals := lo } (zPc T D A tys b sl xs as ρ ad ws) (zQc T D A cA b sl xs fl iv ov ρ ad outs) M.2.2.2.2.2.1 M.2.2.2.2.2.2.1 A := by
  refine Met.ofW (cc := M.2.1) (maxL := M.2.2.1) (ret := M.2.2.2.1) hpl rfl ?_
  intro p e s m args below meth c s₁ B hml hv
  obtain ⟨rfl, hK, hP, hX, hbl, hA⟩ := hv
  have hx := B.exec
  have hb := B.bytes
  have hr := B.returns
  have hts0 := atoms_spec (ws := Jvm.Cond.code M.1 M.2.1 M.2.2.1 M.2.2.2.1 :: Ts) B.pre
  have hts : ∀ w ∈ Ts, w.before (as.map (zcv ad b ρ)).toArray s = true := fun w h => hts0 w (List.mem_cons_of_mem _ h)
  have hown : s.vm.findClass M.1.cls = some m.cls := findClass_of_methodNamed B.named
  have hlocks := B.notSynchronized
  have hname : meth.name = M.1.name := (name_of_methodNamed B.named B.method).1
  have hl := lv_entry (as.map (zcv ad b ρ)) (n := M.2.2.1) (by rw [z_wd2_sl]; exact hwd)
  rw [z_arg_map] at hl
  rw [lg_entry_eq]
  generalize (lg_sl (as.map (zcv ad b ρ)) ++ List.replicate (M.2.2.1 - (lg_sl (as.map (zcv ad b ρ))).length) Slot.unset).toArray = ls at hl ⊢
  refine ih fr lo M 0 M.2.2.2.2.1 (0, 0, iv, z_arg 0 as, [], ov) outs hrun hM (fun _ h => h) p e _ s m _ below meth c _ ⟨hx, hb, hml, hr, hlocks, hown, hts, hK, fun h => by rw [hname]; exact hM.2.2 h, hX, hbl, hbA, hA, hsl, Nat.le_refl _, Nat.le_refl _⟩ (Nat.le_refl _) (Nat.le_refl _) ρ ad ws s.heap [] ls ⟨⟨hi, fun q hq => has _ (z_arg_mem 0 q hq), (fun v hv => absurd hv List.not_mem_nil), hov⟩, hl, hw, hP, hD, va_S.rf, h1, h2⟩ ?_
  intro o ho ρ' ad' ws' H' locs' ls' pc' kk cu su i hbh hend hS hrt hrv hd hcu hsu
  refine W.widen hcu hsu ?_
  have hq : ∀ (ov' : Option Value) (t : State), ov' = o.2.1.map (zcv ad' b ρ') → t.heap = H' → zQc T D A cA b sl xs fl iv ov ρ ad outs (as.map (zcv ad b ρ)).toArray s (.returned ov') t := fun ov' t e1 ht => ⟨hS.F ht, o, ho, ρ', ad', ws', hbh, by rw [ht]; exact hend, by rw [e1]⟩
  rcases hrv with ⟨rfl, r1, r2⟩ | ⟨rfl, v, r1, r2, r3⟩ | ⟨rfl, v, r1, r2, r3⟩
  · rcases hrt with ⟨-, rfl⟩ | ⟨q, -⟩ | ⟨q, -⟩
    · rw [r2]
      exact W.vret hx hb (hr.trans r1) (fun t ht _ => hq none t (by rw [r2]; rfl) ht) hS.2.2 hd
    · omega
    · omega
  · rcases hrt with ⟨q, -⟩ | ⟨-, rfl⟩ | ⟨q, -⟩
    · omega
    · rw [r1]
      show W _ _ _ _ _ _ _ _ _ _ _ _ _ _ _ (F0 m pc' ls' [zcv ad' b ρ' v])
      rw [z_cv0 r2]
      have hq2 : ∀ (t : State), t.heap = H' → zQc T D A cA b sl xs fl iv ov ρ ad outs (as.map (zcv ad b ρ)).toArray s (.returned (some (.int (Int32.ofInt (z_val ρ' v))))) t := fun t ht => hq _ t (by rw [r1]; show _ = some (zcv ad' b ρ' v); rw [z_cv0 r2]) ht
      rcases r3 with r3 | ⟨r3, r4, r5⟩
      · exact W.iret hx hb (hr.trans r3) (fun t ht _ => hq2 t ht) hS.2.2 hd
      · exact W.zret hx hb (hr.trans r3) (z_narz2 r4 r5) (fun t ht _ => hq2 t ht) hS.2.2 hd
    · omega
  · rcases hrt with ⟨q, -⟩ | ⟨q, -⟩ | ⟨-, rfl⟩
    · omega
    · omega
    · rw [r1]
      show W _ _ _ _ _ _ _ _ _ _ _ _ _ _ _ (F0 m pc' ls' [zcv ad' b ρ' v])
      rw [z_cv1 r2]
      exact W.lret hx hb (hr.trans r3) (fun t ht _ => hq _ t (by rw [r1]; show _ = some (zcv ad' b ρ' v); rw [z_cv1 r2]) ht) hS.2.2 hd
theorem z_blind {as : List zV} {ρ : Nat → Int} {ad : Nat → Nat} {ws : va_W} : FrameBlind (zPc T D A tys b sl xs as ρ ad ws) := fun a U g mk q => by
  obtain ⟨q1, q2, q3, q4, q5, q6⟩ := q
  exact ⟨q1, va_K.moved (u := U) (U := U.calling g mk a) (Vm.Alike.refl U.vm) q2, q3, ⟨va_X.moved (u := U) (U := U.calling g mk a) (Vm.Alike.refl U.vm) q4.1, q4.2.moved (u := U) (U := U.calling g mk a) (Vm.Alike.refl U.vm)⟩, q5, q6⟩
/-- behind a call -/
theorem z_back {p : Program} {e : Env} {R : Room} {s : State} {m : MethodId} {args : Array Value} {below : List Frame} {meth : Method} {c : Code} {Q : State → Prop} {M : zM} {f fr lo pc cu su mc ms : Nat} {nxt : List zP} {iv : zI} {lv : zL} {sk rest : List zV} {ov : zO} {outs outs' : List zOu} (ih : zSd l T zN Ts D A cA tys b sl xs fl f) (hM : zMOk zN Ts M) (hcur : ∀ e ∈ nxt, e ∈ M.2.2.2.2.1) (hC : zCx p R s m args meth c T Ts D A tys b sl xs s.heap M) (hfr : fr ≤ R.frames) (hlo : lo ≤ R.locals)
    {ρ : Nat → Int} {ad : Nat → Nat} {ws : va_W} {H : Heap} {locs : List Loc} {ls : Array Slot} (hg : z_gm D T.2.1 A cA T.1 b sl xs fl s.heap M.2.2.1 iv lv sk ov ρ ad ws H locs ls) (hsub : ∀ w ∈ rest, w ∈ sk) (hall : z_all (fun o : zOu => zx T fl f fr lo M (pc + 3) nxt (cu + mc, su + ms, o.1, lv, o.2.1.toList ++ rest, o.2.2)) outs' = some outs) (hdue : zDue p l e R s m args below meth c Q D A cA b sl xs fl T M iv.length ov.length ρ ad outs)
    {stk : List Value} {As : Array Value} (hr : CallRun p l e R s m args below meth c H locs cu su mc ms (F0 m pc ls stk) (rest.map (zcv ad b ρ)) (zQc T D A cA b sl xs fl iv ov ρ ad outs' As) A) : W p l e R s m args below meth c H locs cu su Q (F0 m pc ls stk) := by
  refine z_go hr (fun v st₀ t L h0 hL hq => ?_)
  obtain ⟨hF, o, ho, ρ', ad', ws', hbh, hend, hv⟩ := hq
  have hv := Outcome.returned.inj hv
  subst hv
  obtain ⟨o', ho', hso⟩ := z_all_ok outs' outs hall o ho
  obtain ⟨e1, e2, e3, e4⟩ := hbh
  obtain ⟨d1, d2, d3, d4, d5, d6, d7, d8⟩ := hend
  have up : ∀ v, zok ov.length iv ρ v → zok o.2.2.length o.1 ρ' v := fun v hv => zok_ext hv e1 e3 e4
  have hS : va_S A s.heap t.heap (locs ++ L) := by
    obtain ⟨s1, s2, s3⟩ := hg.2.2.2.2.2.1
    obtain ⟨f1, f2⟩ := hF
    rw [h0] at f1 f2
    refine ⟨Nat.le_trans s1 f1, fun q h1 h2 => ?_, fun q hq => ?_⟩
    · rw [f2 q (Nat.lt_of_lt_of_le h1 s1) h2]; exact s2 q h1 h2
    · rcases List.mem_append.mp hq with r | r
      · exact s3 q r
      · exact hL q r
  have hgs : z_gs D T.2.1 A cA T.1 b sl xs fl s.heap M.2.2.1 (cu + mc, su + ms, o.1, lv, o.2.1.toList ++ rest, o.2.2) ρ' ad' ws' t.heap (locs ++ L) ls := by
    refine ⟨⟨d1, fun q hq => up _ (hg.1.2.1 q hq), fun w hw => ?_, d3⟩, ?_, d4, d5, d6, hS, d7, d8⟩
    · rcases List.mem_append.mp hw with r | r
      · exact d2 w (Option.mem_toList.mp r)
      · exact up w (hg.1.2.2.1 w (hsub w r))
    · have e : (lv.map fun q => (q.1, zcv ad' b ρ' q.2)) = (lv.map fun q => (q.1, zcv ad b ρ q.2)) := List.map_congr_left (fun q hq => by rw [zcv_ext (hg.1.2.1 q hq) e1 e2])
      show lv_has ls M.2.2.1 (lv.map fun q => (q.1, zcv ad' b ρ' q.2))
      rw [e]; exact hg.2.1
  have hW := ih fr lo M (pc + 3) nxt _ o' ho' hM hcur p e R s m args below meth c Q hC hfr hlo ρ' ad' ws' t.heap (locs ++ L) ls hgs (fun o9 ho9 ρ9 ad9 ws9 H9 locs9 ls9 pc9 kk9 cu9 su9 i9 hbh9 => hdue o9 (hso o9 ho9) ρ9 ad9 ws9 H9 locs9 ls9 pc9 kk9 cu9 su9 i9 (hbh9.tr e1 e2 e3 e4))
  have es : (o.2.1.map (zcv ad' b ρ')).toList ++ rest.map (zcv ad b ρ) = (o.2.1.toList ++ rest).map (zcv ad' b ρ') := by
    rw [List.map_append, z_skm (fun w hw => hg.1.2.2.1 w (hsub w hw)) e1 e2]
    congr 1
    cases o.2.1 <;> rfl
  show W p l e R s m args below meth c t.heap (locs ++ L) (cu + mc) (su + ms) Q (F0 m (pc + 3) ls ((o.2.1.map (zcv ad' b ρ')).toList ++ rest.map (zcv ad b ρ)))
  rw [es]
  exact hW
end ZMAIN
