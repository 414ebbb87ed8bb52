/-! ===== the checker is sound ===== -/
def z_otu (n : Nat) (o : zOt) : zOu := (o.1, o.2.1, z_ko n o.2.2.1)
/-- what a contract says of the machine -/
def zCS (l : Launch) (T : zTb) (zN : List String) (Ts : List Jvm.Cond) (D : va_G) (A : Nat → Prop) (cA : Nat → ClassId) (tys : List (ClassId × FieldType)) (b : Nat → Nat) (sl : Nat) (xs : Nat → Int32) (M : zM) (C : zCn) : Prop :=
  ∀ (ρ : Nat → Int) (ad : Nat → Nat) (ws : va_W), ziv C.2.1 ρ → (∀ v ∈ C.2.2.1, zok C.2.2.2.2.2.2.2.2 C.2.1 ρ v) → (∀ (p9 i9 : Nat) (v : zV), z_lk (z_ko C.2.2.2.2.2.2.2.2 C.2.2.2.1) p9 i9 = some v → zok C.2.2.2.2.2.2.2.2 C.2.1 ρ v) → z_wd T.1 cA (z_ko C.2.2.2.2.2.2.2.2 C.2.2.2.1) ad b ρ ws → va_D A ws → ρ 1 = (sl : Int) → 9 < C.2.1.length →
    Met l M.1 (Jvm.Cond.code M.1 M.2.1 M.2.2.1 M.2.2.2.1 :: Ts) { frames := C.2.2.2.2.2.2.1, cells := M.2.2.2.2.2.1, slots := M.2.2.2.2.2.2.1, locals := C.2.2.2.2.2.2.2.1 } (zPc T zN D A tys b sl xs C.2.2.1 ρ ad ws) (zQc T D A cA b sl xs (false, C.1, ws) C.2.1.length C.2.2.2.2.2.2.2.2 ρ ad (C.2.2.2.2.2.1.map (z_otu C.2.2.2.2.2.2.2.2))) M.2.2.2.2.2.1 M.2.2.2.2.2.2.1 A
def zCNOk (l : Launch) (T : zTb) (zN : List String) (Ts : List Jvm.Cond) (D : va_G) (A : Nat → Prop) (cA : Nat → ClassId) (tys : List (ClassId × FieldType)) (b : Nat → Nat) (sl : Nat) (xs : Nat → Int32) (CN : Nat → List zCn) : Prop := ∀ (mi : Nat) (M : zM), T.2.2.2.2.2.2.2.2.2.2.1[mi]? = some M → ∀ C ∈ CN mi, zCS l T zN Ts D A cA tys b sl xs M C
section ZSOUND
variable {l : Launch} {T : zTb} {CN : Nat → List zCn} {zN : List String} {Ts : List Jvm.Cond} {D : va_G} {A : Nat → Prop} {cA : Nat → ClassId} {tys : List (ClassId × FieldType)} {b : Nat → Nat} {sl : Nat} {xs : Nat → Int32} {fl : zFl}
variable {p : Program} {e : Env} {R : Room} {s : State} {m : MethodId} {args : Array Value} {below : List Frame} {meth : Method} {c : Code} {Q : State → Prop}
theorem z_vaS {H : Heap} {locs L : List Loc} {st₀ t : State} (hS : va_S A s.heap H locs) (h0 : st₀.heap = H) (hL : ∀ q ∈ L, A q.base) (hF : va_F A st₀ t) : va_S A s.heap t.heap (locs ++ L) := by
  obtain ⟨s1, s2, s3⟩ := hS
  obtain ⟨f1, f2⟩ := hF
  rw [h0] at f1 f2
  refine ⟨Nat.le_trans s1 f1, fun q h1 h2 => ?_, fun q hq => ?_⟩
  · rw [f2 q (Nat.lt_of_lt_of_le h1 s1) h2]; exact s2 q h1 h2
  · rcases List.mem_append.mp hq with r | r
    · exact s3 q r
    · exact hL q r
/-- behind a call gone into -/
theorem z_back {M : zM} {f fr lo pc cu su mc ms : Nat} {SP : List Nat} {nxt : List zP} {iv : zI} {lv : zL} {sk rest : List zV} {ov : zO} {outs : List zOu × List (Nat × zS)} {outs' : List zOu} (ih : zSd l T CN zN Ts D A cA tys b sl xs fl f) (hM : zMOk zN Ts M) (hcur : ∀ e ∈ nxt, e ∈ M.2.2.2.2.1) (hC : zCx p R s m args meth c T zN Ts D A tys b sl xs s.heap M) (hfr : fr ≤ R.frames) (hlo : lo ≤ R.locals)
    {ρ : Nat → Int} {ad : Nat → Nat} {ws : va_W} {H : Heap} {locs : List Loc} {ls : Array Slot} (hg : z_gm D T.2.1 A cA T.1 b sl xs fl s.heap M.2.2.1 iv lv sk ov ρ ad ws H locs ls) (hsub : ∀ w ∈ rest, w ∈ sk) (hall : z_alz (fun o : zOu => zx T CN fl f SP fr lo M (pc + 3) nxt (cu + mc, su + ms, o.1, lv, o.2.1.toList ++ rest, o.2.2)) outs' = some outs) (hdue : zDue p l e R s m args below meth c Q D A cA b sl xs fl T M iv.length ov.length ρ ad outs.1) (harv : zArv p l e R s m args below meth c Q D A cA b sl xs fl T M iv.length ov.length ρ ad outs.2)
    {stk : List Value} {As : Array Value} (hr : CallRun p l e R s m args below meth c H locs cu su mc ms (F0 m pc ls stk) (rest.map (zcv ad b ρ)) (zQc T D A cA b sl xs fl iv.length ov.length ρ ad outs' As) A) : W p l e R s m args below meth c H locs cu su Q (F0 m pc ls stk) := by
  refine z_go hr (fun v st₀ t L h0 hL hq => ?_)
  obtain ⟨hF, o, ho, ρ', ad', ws', hbh, hend, hv⟩ := hq
  have hv := Outcome.returned.inj hv
  subst hv
  obtain ⟨o', ho', hso, hsa⟩ := z_alz_ok outs' outs hall o ho
  obtain ⟨e1, e2, e3, e4⟩ := hbh
  obtain ⟨d1, d2, d3, d4, d5, d6, d7, d8, d9, d10⟩ := hend
  have up : ∀ v, zok ov.length iv ρ v → zok o.2.2.length o.1 ρ' v := fun v hv => zok_ext hv e1 e3 e4
  have hS := z_vaS hg.2.2.2.2.2.1 h0 hL hF
  have hgs : z_gs D T.2.1 A cA T.1 b sl xs fl s.heap M.2.2.1 (cu + mc, su + ms, o.1, lv, o.2.1.toList ++ rest, o.2.2) ρ' ad' ws' t.heap (locs ++ L) ls := by
    refine ⟨⟨d1, fun q hq => up _ (hg.1.2.1 q hq), fun w hw => ?_, d3⟩, ?_, d4, d5, d6, hS, d7, d8, d9, d10⟩
    · rcases List.mem_append.mp hw with r | r
      · exact d2 w (Option.mem_toList.mp r)
      · exact up w (hg.1.2.2.1 w (hsub w r))
    · have e : (lv.map fun q => (q.1, zcv ad' b ρ' q.2)) = (lv.map fun q => (q.1, zcv ad b ρ q.2)) := List.map_congr_left (fun q hq => by rw [zcv_ext (hg.1.2.1 q hq) e1 e2])
      show lv_has ls M.2.2.1 (lv.map fun q => (q.1, zcv ad' b ρ' q.2))
      rw [e]; exact hg.2.1
  have hW := ih SP fr lo M (pc + 3) nxt _ o' ho' hM hcur p e R s m args below meth c Q hC hfr hlo ρ' ad' ws' t.heap (locs ++ L) ls hgs (hdue.tr hso e1 e2 e3 e4) (harv.tr hsa e1 e2 e3 e4)
  have es : (o.2.1.map (zcv ad' b ρ')).toList ++ rest.map (zcv ad b ρ) = (o.2.1.toList ++ rest).map (zcv ad' b ρ') := by
    rw [List.map_append, z_skm (fun w hw => hg.1.2.2.1 w (hsub w hw)) e1 e2]
    congr 1
    cases o.2.1 <;> rfl
  show W p l e R s m args below meth c t.heap (locs ++ L) (cu + mc) (su + ms) Q (F0 m (pc + 3) ls ((o.2.1.map (zcv ad' b ρ')).toList ++ rest.map (zcv ad b ρ)))
  rw [es]
  exact hW
/-- behind a call taken by contract -/
theorem z_cont {M M' : zM} {C : zCn} {f fr lo pc cu su : Nat} {SP : List Nat} {nxt : List zP} {iv : zI} {lv : zL} {sk rest : List zV} {ov : zO} {outs : List zOu × List (Nat × zS)} {sg : Nat → zV} (ih : zSd l T CN zN Ts D A cA tys b sl xs fl f) (hM : zMOk zN Ts M) (hcur : ∀ e ∈ nxt, e ∈ M.2.2.2.2.1) (hC : zCx p R s m args meth c T zN Ts D A tys b sl xs s.heap M) (hfr : fr ≤ R.frames) (hlo : lo ≤ R.locals)
    {ρ ρE : Nat → Int} {ad : Nat → Nat} {ws : va_W} {H : Heap} {locs : List Loc} {ls : Array Slot} (hg : z_gm D T.2.1 A cA T.1 b sl xs fl s.heap M.2.2.1 iv lv sk ov ρ ad ws H locs ls) (hsub : ∀ w ∈ rest, w ∈ sk) (hall : z_alz (fun st : zS => zx T CN fl f SP fr lo M (pc + 3) nxt st) (C.2.2.2.2.2.1.filterMap (z_aft M' C sg cu su iv lv rest ov)) = some outs) (hdue : zDue p l e R s m args below meth c Q D A cA b sl xs fl T M iv.length ov.length ρ ad outs.1) (harv : zArv p l e R s m args below meth c Q D A cA b sl xs fl T M iv.length ov.length ρ ad outs.2)
    (hN : ov.length = C.2.2.2.2.2.2.2.2) (hks : z_ksb fl.2.1 C.1 = true) (hout : C.2.2.2.2.2.1.all (fun o => Nat.ble C.2.1.length o.1.length && o.2.2.2.2.all (fun i => Nat.blt i C.2.1.length)) = true) (hsg : ∀ i, i < C.2.1.length → (sg i).2.1 < iv.length ∧ ρE i = z_val ρ (sg i))
    {stk : List Value} {As : Array Value} (hr : CallRun p l e R s m args below meth c H locs cu su M'.2.2.2.2.2.1 M'.2.2.2.2.2.2.1 (F0 m pc ls stk) (rest.map (zcv ad b ρ)) (zQc T D A cA b sl xs (false, C.1, ws) C.2.1.length C.2.2.2.2.2.2.2.2 ρE ad (C.2.2.2.2.2.1.map (z_otu C.2.2.2.2.2.2.2.2)) As) A) : W p l e R s m args below meth c H locs cu su Q (F0 m pc ls stk) := by
  refine z_go hr (fun v st₀ t L h0 hL hq => ?_)
  obtain ⟨hF, o', ho', ρo, ad', ws', hbh, hend, hv⟩ := hq
  have hv := Outcome.returned.inj hv
  subst hv
  obtain ⟨o, ho, rfl⟩ := List.mem_map.mp ho'
  rw [← hN] at hbh hend
  obtain ⟨e1, e2, e3, e4⟩ := hbh
  obtain ⟨d1, d2, d3, d4, d5, d6, d7, d8, d9, d10⟩ := hend
  have hsg' : ∀ i, i < C.2.1.length → (sg i).2.1 < iv.length ∧ ρo i = z_val ρ (sg i) := fun i hi => ⟨(hsg i hi).1, (e1 i hi).trans (hsg i hi).2⟩
  have hkl : C.2.1.length ≤ o.1.length := e3
  have ho2 := List.all_eq_true.mp hout o ho
  rw [Bool.and_eq_true] at ho2
  obtain ⟨hs, hb⟩ := z_sgo_ok (o := o.1) hkl hsg'
  have eo : ∀ i, i < iv.length → z_rρ iv.length C.2.1.length ρ ρo i = ρ i := fun i h => if_pos h
  have hle : iv.length ≤ (z_riv iv C.2.1.length sg o.1).length := Nat.le_add_right _ _
  have hriv := z_riv_ok hg.1.1 d1 hkl hsg'
  obtain ⟨iv2, en, ez, el⟩ := z_nar_ok (sg := sg) (o := o.1) o.2.2.2.2 _ hriv (fun i hi t9 ht9 => by
    have hik : i < C.2.1.length := Nat.le_of_ble_eq_true (List.all_eq_true.mp ho2.2 i hi)
    have h9 := d1.2.2.1 i t9 ht9
    have ev : z_val (z_rρ iv.length C.2.1.length ρ ρo) (sg i) = ρo i := by
      rw [(hsg' i hik).2]
      unfold z_val
      rw [eo _ (hsg' i hik).1]
    rw [ev]
    exact h9)
  have hrov := z_rov_ok (o := o.1) (oo := z_ko ov.length o.2.2.1) (K := C.1) hkl hsg' hg.1.2.2.2 hg.2.2.1 d3 d4 rfl e2 d10
  have haft : z_aft M' C sg cu su iv lv rest ov o = some (cu + M'.2.2.2.2.2.1, su + M'.2.2.2.2.2.2.1, iv2, lv, o.2.1.toList.map (z_sb (z_sgo C.2.1.length iv.length sg)) ++ rest, z_rov C.1 (z_sgo C.2.1.length iv.length sg) ov (z_ko ov.length o.2.2.1)) := by
    rw [z_aft_eq]
    change z_nar sg o.1 (z_riv iv C.2.1.length sg o.1) o.2.2.2.2 = some iv2 at en
    rw [en, hN]
  obtain ⟨o', ho', hso, hsa⟩ := z_alz_ok _ outs hall _ (List.mem_filterMap.mpr ⟨o, ho, haft⟩)
  have up : ∀ v, zok ov.length iv ρ v → zok ov.length iv2 (z_rρ iv.length C.2.1.length ρ ρo) v := fun v hv => z_okrf (zok_ext hv eo hle (Nat.le_refl _)) el
  have hS := z_vaS hg.2.2.2.2.2.1 h0 hL hF
  have hle2 : iv.length ≤ iv2.length := by rw [el]; exact hle
  have hkp : zKp fl.2 ws' := fun q hq => by
    obtain ⟨k1, k2⟩ := d10 q (z_ksb_ok _ hks hq)
    exact ⟨k1, k2.trans (hg.2.2.2.2.2.2.2.2.2 q hq).2⟩
  have hgs : z_gs D T.2.1 A cA T.1 b sl xs fl s.heap M.2.2.1 (cu + M'.2.2.2.2.2.1, su + M'.2.2.2.2.2.2.1, iv2, lv, o.2.1.toList.map (z_sb (z_sgo C.2.1.length iv.length sg)) ++ rest, z_rov C.1 (z_sgo C.2.1.length iv.length sg) ov (z_ko ov.length o.2.2.1)) (z_rρ iv.length C.2.1.length ρ ρo) ad' ws' t.heap (locs ++ L) ls := by
    refine ⟨⟨ez, fun q hq => up _ (hg.1.2.1 q hq), fun w hw => ?_, fun p9 i9 w hw => z_okrf (hrov.1 p9 i9 w hw) el⟩, ?_, hrov.2, d5, d6, hS, zSc_ext hg.2.2.2.2.2.2.1 (fun i hi => eo i (Nat.lt_of_lt_of_le hi hg.2.2.2.2.2.2.2.1)), Nat.lt_of_lt_of_le hg.2.2.2.2.2.2.2.1 hle2, fun m9 hm9 => ?_, hkp⟩
    · rcases List.mem_append.mp hw with r | r
      · obtain ⟨w0, hw0, rfl⟩ := List.mem_map.mp r
        exact z_okrf (z_sb_cv hs hb (d2 w0 (Option.mem_toList.mp hw0)) ad b).1 el
      · exact up w (hg.1.2.2.1 w (hsub w r))
    · have e : (lv.map fun q => (q.1, zcv ad' b (z_rρ iv.length C.2.1.length ρ ρo) q.2)) = (lv.map fun q => (q.1, zcv ad b ρ q.2)) := List.map_congr_left (fun q hq => by rw [zcv_ext (hg.1.2.1 q hq) eo e2])
      show lv_has ls M.2.2.1 (lv.map fun q => (q.1, zcv ad' b (z_rρ iv.length C.2.1.length ρ ρo) q.2))
      rw [e]; exact hg.2.1
    · obtain ⟨hm1, hm2⟩ := List.mem_filter.mp hm9
      obtain ⟨⟨x1, x2, x3⟩, a9, c9, n9, f9, x4, x5⟩ := hg.2.2.2.2.2.2.2.2.1 m9 hm1
      refine ⟨⟨Nat.lt_of_lt_of_le x1 hle2, Nat.lt_of_lt_of_le x2 hle2, x3⟩, a9, c9, n9, f9, ?_, ?_⟩
      · obtain ⟨-, k2⟩ := d10 m9.1 hm2
        exact k2.trans x4
      · unfold z_val at x5 ⊢
        rw [eo _ x1, eo _ x2]
        exact x5
  have hW := ih SP fr lo M (pc + 3) nxt _ o' ho' hM hcur p e R s m args below meth c Q hC hfr hlo _ ad' ws' t.heap (locs ++ L) ls hgs (hdue.tr hso eo e2 hle2 (Nat.le_refl _)) (harv.tr hsa eo e2 hle2 (Nat.le_refl _))
  have es : (o.2.1.map (zcv ad' b ρo)).toList ++ rest.map (zcv ad b ρ) = (o.2.1.toList.map (z_sb (z_sgo C.2.1.length iv.length sg)) ++ rest).map (zcv ad' b (z_rρ iv.length C.2.1.length ρ ρo)) := by
    rw [List.map_append, z_skm (fun w hw => hg.1.2.2.1 w (hsub w hw)) eo e2]
    congr 1
    cases hz : o.2.1 with
    | none => rfl
    | some w0 =>
      show [zcv ad' b ρo w0] = [zcv ad' b (z_rρ iv.length C.2.1.length ρ ρo) (z_sb (z_sgo C.2.1.length iv.length sg) w0)]
      rw [(z_sb_cv hs hb (d2 w0 hz) ad' b).2]
  show W p l e R s m args below meth c t.heap (locs ++ L) (cu + M'.2.2.2.2.2.1) (su + M'.2.2.2.2.2.2.1) Q (F0 m (pc + 3) ls ((o.2.1.map (zcv ad' b ρo)).toList ++ rest.map (zcv ad b ρ)))
  rw [es]
  exact hW
set_option maxHeartbeats 1000000 in
theorem z_soundB (hAll : zAllOk T zN Ts cA tys) (hCN : zCNOk l T zN Ts D A cA tys b sl xs CN) (hbA : ¬ A (b 0)) (hsl : sl ≤ 2147483647) {f : Nat} (ih : zSd l T CN zN Ts D A cA tys b sl xs fl f) {SP : List Nat} {fr lo : Nat} {M : zM} {pc : Nat} {cur : List zP} {st : zS} {outs : List zOu × List (Nat × zS)} (h : zxB (zx T CN fl f SP) (zx T CN fl f []) T CN fl fr lo M pc cur st = some outs) (hM : zMOk zN Ts M) (hcur : ∀ e ∈ cur, e ∈ M.2.2.2.2.1)
    (hC : zCx p R s m args meth c T zN Ts D A tys b sl xs s.heap M) (hfr : fr ≤ R.frames) (hlo : lo ≤ R.locals) {ρ : Nat → Int} {ad : Nat → Nat} {ws : va_W} {H : Heap} {locs : List Loc} {ls : Array Slot} (hg : z_gs D T.2.1 A cA T.1 b sl xs fl s.heap M.2.2.1 st ρ ad ws H locs ls) (hdue : zDue p l e R s m args below meth c Q D A cA b sl xs fl T M st.2.2.1.length st.2.2.2.2.2.length ρ ad outs.1) (harv : zArv p l e R s m args below meth c Q D A cA b sl xs fl T M st.2.2.1.length st.2.2.2.2.2.length ρ ad outs.2) :
    W p l e R s m args below meth c H locs st.1 st.2.1 Q (F0 m pc ls (st.2.2.2.2.1.map (zcv ad b ρ))) := by
  rcases cur with _ | ⟨⟨pc', o, len⟩, nxt⟩
  · unfold zxB at h; cases h
  unfold zxB at h
  dsimp only at h
  split at h
  next hpc =>
    have epc : pc' = pc := Nat.eq_of_beq_eq_true hpc
    subst epc
    have hd : decode M.2.1 pc' = .ok (zdec o, len) := by
      have h9 := hM.2.1 (pc', o, len) (hcur (pc', o, len) List.mem_cons_self)
      dsimp only at h9
      exact h9
    have hcn : ∀ e ∈ nxt, e ∈ M.2.2.2.2.1 := fun e he => hcur e (List.mem_cons_of_mem _ he)
    unfold zxI at h
    rw [z_spkC_eq, zstepC_eq] at h
    clear hcur
    generalize zdec o = i at h hd
    split at h
    next hk =>
      unfold zxS at h
      split at h
      next => cases h
      next ss hs =>
        refine zstep_sound hAll.1 hC hM.1 hd hs ρ ad ws H locs ls hg (fun q hq ρ' ad' ws' H' locs' ls' hxt hg' => ?_)
        obtain ⟨o', ho', hso, hsa⟩ := z_alz_ok ss outs h q hq
        obtain ⟨t, st'⟩ := q
        have hdue' := hdue.tr hso hxt.1 hxt.2.1 hxt.2.2.1 hxt.2.2.2
        have harv' := harv.tr hsa hxt.1 hxt.2.1 hxt.2.2.1 hxt.2.2.2
        match t, ho' with
        | none, ho' => exact ih SP fr lo M (pc' + len) nxt st' o' ho' hM hcn p e R s m args below meth c Q hC hfr hlo ρ' ad' ws' H' locs' ls' hg' hdue' harv'
        | some t, ho' => exact ih SP fr lo M t _ st' o' ho' hM (fun e he => z_drop_mem e he) p e R s m args below meth c Q hC hfr hlo ρ' ad' ws' H' locs' ls' hg' hdue' harv'
    next k idx hk =>
      obtain ⟨k1, k2, k3, k4⟩ := z_spk_ok hk
      split at h
      next hk2 =>
        have hk2' : k ≤ 2 := Nat.le_of_ble_eq_true hk2
        split at h
        next hl1 =>
          have hl1' : len = 1 := Nat.eq_of_beq_eq_true hl1
          subst hl1'
          split at h
          next o hrt =>
            cases h
            obtain ⟨o1, o2, o3, o4, o5, o6⟩ := z_rt_ok hrt
            rw [o3]
            refine hdue o (List.mem_singleton.mpr rfl) ρ ad ws H locs ls pc' k st.1 st.2.1 i ⟨fun _ _ => rfl, fun _ _ => rfl, by rw [o1]; exact Nat.le_refl _, by rw [o2]; exact Nat.le_refl _⟩ ⟨by rw [o1]; exact hg.1.1, fun v hv => ?_, by rw [o1, o2]; exact hg.1.2.2.2, by rw [o2]; exact hg.2.2.1, hg.2.2.2.1, hg.2.2.2.2.1, hg.2.2.2.2.2.2.1, by rw [o1]; exact hg.2.2.2.2.2.2.2.1, by rw [o1, o2]; exact hg.2.2.2.2.2.2.2.2.1, hg.2.2.2.2.2.2.2.2.2⟩ hg.2.2.2.2.2.1 (k1 hk2') (o6 ρ hg.1.1) hd o4 o5
            rw [o1, o2]
            exact hg.1.2.2.1 v (by rw [o3, hv]; exact List.mem_singleton.mpr rfl)
          next => cases h
        next => cases h
      next =>
        obtain ⟨cu, su, iv, lv, sk, ov⟩ := st
        unfold zxC at h
        split at h
        next cu0 su0 iv0 lv0 sk0 ov0 knd mi na est hct =>
          cases est
          split at h
          next hb3 =>
            rw [Bool.and_eq_true, Bool.and_eq_true] at hb3
            obtain ⟨⟨b1, b2⟩, b3⟩ := hb3
            have hlen : len = 3 := Nat.eq_of_beq_eq_true b1
            subst hlen
            have hfr1 : 1 ≤ fr := Nat.le_of_ble_eq_true b3
            split at h
            next =>
              -- a copy
              split at h
              next hcw =>
                split at h
                next st' hcp =>
                  obtain ⟨w3, -, -⟩ := hAll.2.2.1 _ _ _ _ _ _ hct hM.1
                  obtain ⟨hx, hb, hml, hr, hlk, hown, hts, hK, hin, hX, hbl, hbA', hA, hsl', hR1, hR2⟩ := id hC
                  obtain ⟨v1, v2, v3, v4⟩ := w3 rfl
                  have hi5 : i = .invokestatic idx := k3 (Nat.eq_of_beq_eq_true b2)
                  subst hi5
                  refine zs_copy (own := M.1.cls) (idx := idx) hx hb hml hK hAll.1.2.2.2.1 hown (hts _ v1) (hts _ v2) (hts _ v3) (hts _ v4) (Nat.le_trans hfr1 hfr) hlo (fun ad9 ρ9 => by rw [z_wd2_cat]; exact Nat.le_of_ble_eq_true hcw) hd hcp ρ ad ws H locs ls hg (fun q hq ρ' ad' ws' H' locs' ls' hxt hg' => ?_)
                  rw [List.mem_singleton] at hq
                  subst hq
                  exact ih SP fr lo M (pc' + 3) nxt st' outs h hM hcn p e R s m args below meth c Q hC hfr hlo ρ' ad' ws' H' locs' ls' hg' (hdue.tr (fun _ h => h) hxt.1 hxt.2.1 hxt.2.2.1 hxt.2.2.2) (harv.tr (fun _ h => h) hxt.1 hxt.2.1 hxt.2.2.1 hxt.2.2.2)
                next => cases h
              next => cases h
            next =>
              -- Object's own maker
              split at h
              next o r =>
                split at h
                next hc =>
                  obtain ⟨-, w4, -⟩ := hAll.2.2.1 _ _ _ _ _ _ hct hM.1
                  obtain ⟨hx, hb, hml, hr, hlk, hown, hts, hK, hin, hX, hbl, hbA', hA, hsl', hR1, hR2⟩ := id hC
                  obtain ⟨v1, v2, v3⟩ := w4 rfl
                  have hi6 : i = .invokespecial idx := k4 (Nat.eq_of_beq_eq_true b2)
                  subst hi6
                  show W p l e R s m args below meth c H locs cu su Q (F0 m pc' ls (zcv ad b ρ o :: r.map (zcv ad b ρ)))
                  rw [z_cv2 hc.1]
                  have hwr := Nat.le_of_ble_eq_true hc.2
                  have hcat := z_wd2_cat (ad := ad) (b := b) (ρ := ρ) r
                  refine W.objInit hx hb hown (hts _ v1) (hts _ v2) (hts _ v3) rfl (by rw [hml]; exact hg.2.1.1) rfl hd (Nat.le_trans hfr1 hfr) (by show 2 * 0 + ((r.map (zcv ad b ρ)).map fun v => v.category).sum + 12 ≤ R.locals; omega) ?_
                  exact ih SP fr lo M (pc' + 3) nxt (cu, su, iv, lv, r, ov) outs h hM hcn p e R s m args below meth c Q hC hfr hlo ρ ad ws H locs ls (hg.mv (fun _ _ => rfl) (Nat.le_refl _) hg.1.1 (fun w hw => hg.1.2.2.1 w (List.mem_cons_of_mem _ hw))) hdue harv
                next => cases h
              next => cases h
            next =>
              -- min, max, abs
              split at h
              next hcw =>
                rw [Bool.and_eq_true, Bool.and_eq_true] at hcw
                obtain ⟨⟨cw1, cw2⟩, cw3⟩ := hcw
                unfold zxS at h
                split at h
                next => cases h
                next ss hs =>
                  obtain ⟨-, -, -, w6, -⟩ := hAll.2.2.1 _ _ _ _ _ _ hct hM.1
                  obtain ⟨hx, hb, hml, hr, hlk, hown, hts, hK, hin, hX, hbl, hbA', hA, hsl', hR1, hR2⟩ := id hC
                  obtain ⟨v1, v2, v3, v4⟩ := w6 rfl
                  have hi5 : i = .invokestatic idx := k3 (Nat.eq_of_beq_eq_true b2)
                  subst hi5
                  have hws : ∀ vs : List zV, (vs.map fun v => if Nat.beq v.1 1 then 2 else 1).sum = z_wd2 vs := z_wd2_sum
                  refine zs_mth (own := M.1.cls) (idx := idx) (lo := lo) hx hb hml hown (hts _ v1) (hts _ v2) (hts _ v3) (hts _ v4) (Nat.le_trans hfr1 hfr) hlo (by rw [hws]; exact Nat.le_of_ble_eq_true cw1) (Nat.le_trans (Nat.le_of_ble_eq_true cw2) hR1) (Nat.le_trans (Nat.le_of_ble_eq_true cw3) hR2) (fun ad9 ρ9 r9 => by rw [hws, z_wd2_cat]) hd hs ρ ad ws H locs ls hg (fun q hq ρ' ad' ws' H' locs' ls' hxt hg' => ?_)
                  obtain ⟨o', ho', hso, hsa⟩ := z_alz_ok ss outs h q hq
                  obtain ⟨t, st'⟩ := q
                  have hdue' := hdue.tr hso hxt.1 hxt.2.1 hxt.2.2.1 hxt.2.2.2
                  have harv' := harv.tr hsa hxt.1 hxt.2.1 hxt.2.2.1 hxt.2.2.2
                  match t, ho' with
                  | none, ho' => exact ih SP fr lo M (pc' + 3) nxt st' o' ho' hM hcn p e R s m args below meth c Q hC hfr hlo ρ' ad' ws' H' locs' ls' hg' hdue' harv'
                  | some t, ho' => exact ih SP fr lo M t _ st' o' ho' hM (fun e he => z_drop_mem e he) p e R s m args below meth c Q hC hfr hlo ρ' ad' ws' H' locs' ls' hg' hdue' harv'
              next => cases h
            next hn3 hn4 hn6 =>
              split at h
              next M' hmt =>
                unfold zxM at h
                split at h
                next as rest hpre =>
                  split at h
                  next hcond =>
                    rw [Bool.and_eq_true, Bool.and_eq_true, Bool.and_eq_true] at hcond
                    obtain ⟨⟨⟨c1, c2⟩, c4⟩, c5⟩ := hcond
                    have c1 := Nat.le_of_ble_eq_true c1
                    have c2 := Nat.le_of_ble_eq_true c2
                    have c4 := Nat.le_of_ble_eq_true c4
                    have c5 := Nat.le_of_ble_eq_true c5
                    have hass := z_pre_mem hpre
                    obtain ⟨hM', hpl', hcode'⟩ := hAll.2.1 mi M' hmt
                    have hR1 : M.2.2.2.2.2.1 ≤ R.cells := hC.2.2.2.2.2.2.2.2.2.2.2.2.2.2.1
                    have hR2 : M.2.2.2.2.2.2.1 ≤ R.slots := hC.2.2.2.2.2.2.2.2.2.2.2.2.2.2.2
                    split at h
                    next =>
                      -- gone into
                      unfold zxN at h
                      split at h
                      next c3 =>
                        have c3 := Nat.le_of_ble_eq_true c3
                        split at h
                        next outs' hrun =>
                          have hMet := z_met hAll hbA hsl hM' hpl' hrun ih hg.1.1 (fun v hv => hg.1.2.2.1 v (hass.1 v hv)) hg.1.2.2.2 hg.2.2.1 hg.2.2.2.2.1 hg.2.2.2.2.2.2.1 hg.2.2.2.2.2.2.2 c1
                          obtain ⟨As, hr⟩ := z_run (cu := cu) (su := su) hAll hM hC hg hct hmt b2 k2 k3 k4 hpre c2 ⟨by omega, by omega⟩ (by omega) (by omega) rfl hMet hd
                          exact z_back ih hM hcn hC hfr hlo hg hass.2 h hdue harv hr
                        next => cases h
                      next => cases h
                    next C0 Cs hcs =>
                      -- by contract
                      split at h
                      next sts hfst =>
                        obtain ⟨C, hCm, huse⟩ := z_fst_ok _ hfst
                        rw [← hcs] at hCm
                        have hCS := hCN mi M' hmt C hCm
                        unfold z_use at huse
                        obtain ⟨ρ1, hfo⟩ := z_fcl_ok C.2.2.2.2.1 (iv, ov) ρ hg
                        cases hz : z_fcl T.1 C.2.2.2.2.1 (iv, ov) with
                        | mk iv0 ov1 =>
                          rw [hz] at huse hfo
                          dsimp only at huse
                          obtain ⟨w1, w2, w3, hg0⟩ := hfo
                          dsimp only at w1 w2 w3 hg0
                          obtain ⟨iv1, et, hi1, el⟩ := z_tgo_ok hg0.1.1
                          rw [et] at huse
                          dsimp only at huse
                          have hg1 : z_gm D T.2.1 A cA T.1 b sl xs fl s.heap M.2.2.1 iv1 lv sk ov1 ρ1 ad ws H locs ls := hg0.mv (fun _ _ => rfl) (Nat.le_of_eq el.symm) hi1 (fun w hw => z_okrf (hg0.1.2.2.1 w hw) el)
                          rw [← el] at w2
                          unfold z_usc at huse
                          cases hcc : C.2.2.2.2.1.all (fun s => Nat.ble 10 s.1) && (Nat.beq ov1.length C.2.2.2.2.2.2.2.2 && (z_ksb fl.2.1 C.1 && (Nat.ble (C.2.2.2.2.2.2.1 + 1) fr && (Nat.ble (8 + (M'.2.2.1 + 11) + C.2.2.2.2.2.2.2.1) lo && (z_mvl iv1 (z_sgc C as ov1) C.2.1.length as C.2.2.1 && (z_mat iv1 ov1 (z_sgc C as ov1) C.2.1 C.2.2.2.1 && C.2.2.2.2.2.1.all (fun o => Nat.ble C.2.1.length o.1.length && o.2.2.2.2.all (fun i => Nat.blt i C.2.1.length)))))))) with
                          | false => rw [hcc] at huse; cases huse
                          | true =>
                            rw [hcc] at huse
                            cases huse
                            rw [Bool.and_eq_true, Bool.and_eq_true, Bool.and_eq_true, Bool.and_eq_true, Bool.and_eq_true, Bool.and_eq_true, Bool.and_eq_true] at hcc
                            obtain ⟨q1, q2, q3, q4, q5, q6, q7, q8⟩ := hcc
                            have q2 := Nat.eq_of_beq_eq_true q2
                            have q4 := Nat.le_of_ble_eq_true q4
                            have q5 := Nat.le_of_ble_eq_true q5
                            have hsE : zSg C.2.1.length (z_sgc C as ov1) ρ1 (fun i => z_val ρ1 (z_sgc C as ov1 i)) := fun _ _ => rfl
                            have h00 : (fun i => z_val ρ1 (z_sgc C as ov1 i)) 0 = 0 := by
                              show ρ1 0 + 0 = 0
                              rw [hg1.1.1.1]
                              rfl
                            have h01 : (fun i => z_val ρ1 (z_sgc C as ov1 i)) 1 = (sl : Int) := by
                              show z_val ρ1 (z_src [] as ov1 C.2.2.2.2.1 1) = _
                              rw [z_src_id (k := 10) (by omega) _ q1]
                              show ρ1 1 + 0 = _
                              rw [hg1.2.2.2.2.2.2.1.1]
                              omega
                            have hasok : ∀ v ∈ as, zok ov1.length iv1 ρ1 v := fun v hv => hg1.1.2.2.1 v (hass.1 v hv)
                            obtain ⟨m1, m2⟩ := z_mvl_ok hg1.1.1 hsE ad b as C.2.2.1 hasok q6
                            obtain ⟨t1, t2, t3, t4⟩ := z_mat_ok q7 hg1.1.1 hg1.1.2.2.2 hg1.2.2.1 h00 hsE
                            have hmi : ∀ i, i < C.2.1.length → (z_sgc C as ov1 i).2.1 < iv1.length := fun i hi => by
                              unfold z_mat at q7
                              rw [Bool.and_eq_true, Bool.and_eq_true] at q7
                              exact (z_mi_ok hg1.1.1 _ q7.2.1 i hi).1
                            rw [q2] at m1 t2 t3
                            have hMet := hCS (fun i => z_val ρ1 (z_sgc C as ov1 i)) ad ws t1 m1 t2 t3 hg1.2.2.2.2.1 h01 t4
                            obtain ⟨As, hr⟩ := z_run (cu := cu) (su := su) hAll hM hC hg1 hct hmt b2 k2 k3 k4 hpre c2 ⟨by omega, by omega⟩ (by omega) (by omega) m2 hMet hd
                            have esk : sk.map (zcv ad b ρ) = sk.map (zcv ad b ρ1) := (z_skm hg.1.2.2.1 w1 (fun _ _ => rfl)).symm
                            show W p l e R s m args below meth c H locs cu su Q (F0 m pc' ls (sk.map (zcv ad b ρ)))
                            rw [esk]
                            exact z_cont ih hM hcn hC hfr hlo hg1 hass.2 h (hdue.tr (fun _ h => h) w1 (fun _ _ => rfl) w2 (Nat.le_of_eq w3.symm)) (harv.tr (fun _ h => h) w1 (fun _ _ => rfl) w2 (Nat.le_of_eq w3.symm)) q2 q3 q8 (fun i hi => ⟨hmi i hi, rfl⟩) hr
                      next => cases h
                  next => cases h
                next => cases h
              next => cases h
          next => cases h
        next => cases h
  next => cases h
end ZSOUND
section ZSOUND2
variable {l : Launch} {T : zTb} {CN : Nat → List zCn} {zN : List String} {Ts : List Jvm.Cond} {D : va_G} {A : Nat → Prop} {cA : Nat → ClassId} {tys : List (ClassId × FieldType)} {b : Nat → Nat} {sl : Nat} {xs : Nat → Int32} {fl : zFl}
theorem z_sound (hAll : zAllOk T zN Ts cA tys) (hCN : zCNOk l T zN Ts D A cA tys b sl xs CN) (hbA : ¬ A (b 0)) (hsl : sl ≤ 2147483647) : ∀ f : Nat, zSd l T CN zN Ts D A cA tys b sl xs fl f := by
  intro f
  induction f with
  | zero => intro SP fr lo M pc cur st outs h; unfold zx at h; cases h
  | succ f ih =>
    intro SP fr lo M pc cur st outs h hM hcur p e R s m args below meth c Q hC hfr hlo ρ ad ws H locs ls hg hdue harv
    unfold zx at h
    cases hm : z_mem SP pc with
    | true =>
      rw [hm] at h
      cases h
      exact harv (pc, st) (List.mem_singleton.mpr rfl) ρ ad ws H locs ls ⟨fun _ _ => rfl, fun _ _ => rfl, Nat.le_refl _, Nat.le_refl _⟩ hg
    | false =>
      rw [hm] at h
      exact z_soundB hAll hCN hbA hsl ih h hM hcur hC hfr hlo hg hdue harv
end ZSOUND2
