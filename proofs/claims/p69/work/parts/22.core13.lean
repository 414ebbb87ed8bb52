section ZMAIN2
variable {l : Launch} {T : zTb} {zN : List String} {Ts : List Jvm.Cond} {D : va_G} {A : Nat → Prop} {cA : Nat → ClassId} {tys : List (ClassId × FieldType)} {b : Nat → Nat} {sl : Nat} {xs : Nat → Int32} {fl : Bool}
theorem z_len {sk : List zV} {na : Nat} (h : ¬ Nat.blt sk.length na = true) : na ≤ sk.length := by
  rcases Nat.lt_or_ge sk.length na with q | q
  · exact absurd (Nat.ble_eq_true_of_le q) h
  · exact q
theorem z_split {sk : List zV} {na : Nat} {ad : Nat → Nat} {ρ : Nat → Int} : sk.map (zcv ad b ρ) = (((sk.take na).reverse).map (zcv ad b ρ)).reverse ++ (sk.drop na).map (zcv ad b ρ) := by
  rw [← List.map_reverse, List.reverse_reverse, ← List.map_append, List.take_append_drop]
set_option maxHeartbeats 1000000 in
theorem z_sound (hAll : zAllOk T zN Ts cA tys) (hbA : ¬ A (b 0)) (hsl : sl ≤ 2147483647) : ∀ f : Nat, zSd l T zN Ts D A cA tys b sl xs fl f := by
  intro f
  induction f with
  | zero => intro fr lo M pc cur st outs h; unfold zx at h; cases h
  | succ f ih =>
    intro fr lo M pc cur st outs h hM hcur p e R s m args below meth c Q hC hfr hlo ρ ad ws H locs ls hg hdue
    rcases cur with _ | ⟨⟨pc', o, len⟩, nxt⟩
    · unfold zx zxB at h; cases h
    unfold zx zxB at h
    dsimp only at h
    split at h
    next hpc =>
      have epc : pc' = pc := Nat.eq_of_beq_eq_true hpc
      subst epc
      have hd : decode M.2.1 pc' = .ok (zdec o, len) := by
        have h9 := hM.2.1 (pc', o, len) (hcur (pc', o, len) List.mem_cons_self)
        dsimp only at h9
        exact h9
      have hcn : ∀ e ∈ nxt, e ∈ M.2.2.2.2.1 := fun e he => hcur e (List.mem_cons_of_mem _ he)
      unfold zxI at h
      rw [z_spkC_eq, zstepC_eq] at h
      clear hcur
      generalize zdec o = i at h hd
      split at h
      next hk =>
        unfold zxS at h
        split at h
        next => cases h
        next ss hs =>
          refine zstep_sound hAll.1 hC hM.1 hd hs ρ ad ws H locs ls hg (fun q hq ρ' ad' ws' H' locs' ls' hxt hg' => ?_)
          obtain ⟨o', ho', hsub⟩ := z_all_ok ss outs h q hq
          obtain ⟨t, st'⟩ := q
          have hdue' : zDue p l e R s m args below meth c Q D A cA b sl xs fl T M st'.2.2.1.length st'.2.2.2.2.2.length ρ' ad' o' := fun o9 ho9 ρ9 ad9 ws9 H9 locs9 ls9 pc9 kk9 cu9 su9 i9 hbh9 => hdue o9 (hsub o9 ho9) ρ9 ad9 ws9 H9 locs9 ls9 pc9 kk9 cu9 su9 i9 (hbh9.tr hxt.1 hxt.2.1 hxt.2.2.1 hxt.2.2.2)
          match t, ho' with
          | none, ho' => exact ih fr lo M (pc' + len) nxt st' o' ho' hM hcn p e R s m args below meth c Q hC hfr hlo ρ' ad' ws' H' locs' ls' hg' hdue'
          | some t, ho' => exact ih fr lo M t _ st' o' ho' hM (fun e he => z_drop_mem e he) p e R s m args below meth c Q hC hfr hlo ρ' ad' ws' H' locs' ls' hg' hdue'
      next k idx hk =>
        obtain ⟨k1, k2, k3, k4⟩ := z_spk_ok hk
        split at h
        next hk2 =>
          have hk2' : k ≤ 2 := Nat.le_of_ble_eq_true hk2
          split at h
          next hl1 =>
            have hl1' : len = 1 := Nat.eq_of_beq_eq_true hl1
            subst hl1'
            obtain ⟨o, rfl, o1, o2, o3, o4, o5, o6⟩ := z_rt_ok h
            rw [o3]
            refine hdue o (List.mem_singleton.mpr rfl) ρ ad ws H locs ls pc' k st.1 st.2.1 i ⟨fun _ _ => rfl, fun _ _ => rfl, by rw [o1]; exact Nat.le_refl _, by rw [o2]; exact Nat.le_refl _⟩ ⟨by rw [o1]; exact hg.1.1, fun v hv => ?_, by rw [o1, o2]; exact hg.1.2.2.2, by rw [o2]; exact hg.2.2.1, hg.2.2.2.1, hg.2.2.2.2.1, hg.2.2.2.2.2.2.1, by rw [o1]; exact hg.2.2.2.2.2.2.2⟩ hg.2.2.2.2.2.1 (k1 hk2') (o6 ρ hg.1.1) hd o4 o5
            rw [o1, o2]
            exact hg.1.2.2.1 v (by rw [o3, hv]; exact List.mem_singleton.mpr rfl)
          next => cases h
        next =>
          obtain ⟨cu, su, iv, lv, sk, ov⟩ := st
          unfold zxC at h
          split at h
          next cu0 su0 iv0 lv0 sk0 ov0 knd mi na est hct =>
            cases est
            split at h
            next hb3 =>
              rw [Bool.and_eq_true, Bool.and_eq_true] at hb3
              obtain ⟨⟨b1, b2⟩, b3⟩ := hb3
              have hlen : len = 3 := Nat.eq_of_beq_eq_true b1
              subst hlen
              have hfr1 : 1 ≤ fr := Nat.le_of_ble_eq_true b3
              obtain ⟨w3, w4, w02⟩ := hAll.2.2.1 _ _ _ _ _ _ hct hM.1
              obtain ⟨hx, hb, hml, hr, hlk, hown, hts, hK, hin, hX, hbl, hbA', hA, hsl', hR1, hR2⟩ := id hC
              split at h
              next =>
                -- a copy
                split at h
                next hcw =>
                  split at h
                  next st' hcp =>
                    obtain ⟨v1, v2, v3, v4⟩ := w3 rfl
                    have hi5 : i = .invokestatic idx := k3 (Nat.eq_of_beq_eq_true b2)
                    subst hi5
                    refine zs_copy (own := M.1.cls) (idx := idx) hx hb hml hK hAll.1.2.2.2.1 hown (hts _ v1) (hts _ v2) (hts _ v3) (hts _ v4) (Nat.le_trans hfr1 hfr) hlo (fun ad9 ρ9 => by rw [z_wd2_cat]; exact Nat.le_of_ble_eq_true hcw) hd hcp ρ ad ws H locs ls hg (fun q hq ρ' ad' ws' H' locs' ls' hxt hg' => ?_)
                    rw [List.mem_singleton] at hq
                    subst hq
                    exact ih fr lo M (pc' + 3) nxt st' outs h hM hcn p e R s m args below meth c Q hC hfr hlo ρ' ad' ws' H' locs' ls' hg' (fun o9 ho9 ρ9 ad9 ws9 H9 locs9 ls9 pc9 kk9 cu9 su9 i9 hbh9 => hdue o9 ho9 ρ9 ad9 ws9 H9 locs9 ls9 pc9 kk9 cu9 su9 i9 (hbh9.tr hxt.1 hxt.2.1 hxt.2.2.1 hxt.2.2.2))
                  next => cases h
                next => cases h
              next =>
                -- Object's own maker
                split at h
                next o r =>
                  split at h
                  next hc =>
                    obtain ⟨v1, v2, v3⟩ := w4 rfl
                    have hi6 : i = .invokespecial idx := k4 (Nat.eq_of_beq_eq_true b2)
                    subst hi6
                    show W p l e R s m args below meth c H locs cu su Q (F0 m pc' ls (zcv ad b ρ o :: r.map (zcv ad b ρ)))
                    rw [z_cv2 hc.1]
                    have hwr := Nat.le_of_ble_eq_true hc.2
                    have hcat := z_wd2_cat (ad := ad) (b := b) (ρ := ρ) r
                    refine W.objInit hx hb hown (hts _ v1) (hts _ v2) (hts _ v3) rfl (by rw [hml]; exact hg.2.1.1) rfl hd (Nat.le_trans hfr1 hfr) (by show 2 * 0 + ((r.map (zcv ad b ρ)).map fun v => v.category).sum + 12 ≤ R.locals; omega) ?_
                    exact ih fr lo M (pc' + 3) nxt (cu, su, iv, lv, r, ov) outs h hM hcn p e R s m args below meth c Q hC hfr hlo ρ ad ws H locs ls (hg.mv (fun _ _ => rfl) (Nat.le_refl _) hg.1.1 (fun w hw => hg.1.2.2.1 w (List.mem_cons_of_mem _ hw))) hdue
                  next => cases h
                next => cases h
              next hn3 hn4 =>
                split at h
                next M' hmt =>
                  unfold zxM at h
                  split at h
                  next as rest hpre =>
                    split at h
                    next hcond =>
                      rw [Bool.and_eq_true, Bool.and_eq_true, Bool.and_eq_true, Bool.and_eq_true] at hcond
                      obtain ⟨⟨⟨⟨c1, c2⟩, c3⟩, c4⟩, c5⟩ := hcond
                      have c1 := Nat.le_of_ble_eq_true c1
                      have c2 := Nat.le_of_ble_eq_true c2
                      have c3 := Nat.le_of_ble_eq_true c3
                      have c4 := Nat.le_of_ble_eq_true c4
                      have c5 := Nat.le_of_ble_eq_true c5
                      split at h
                      next => cases h
                      next outs' hrun =>
                        obtain ⟨hM', hpl', hcode'⟩ := hAll.2.1 mi M' hmt
                        have hknd : knd ≤ 2 := by
                          unfold z_pre at hpre
                          split at hpre
                          · cases hpre
                          · split at hpre
                            · omega
                            · omega
                            · omega
                            · cases hpre
                        obtain ⟨u1, u2, u3, u4, u5, u6, u7⟩ := w02 hknd M' hmt
                        -- the values of the call
                        have hass : (∀ v ∈ as, v ∈ sk) ∧ ∀ w ∈ rest, w ∈ sk := by
                          unfold z_pre at hpre
                          split at hpre
                          · cases hpre
                          · split at hpre
                            · cases hpre
                              exact ⟨fun v hv => List.mem_of_mem_take (List.mem_reverse.mp hv), fun w hw => List.mem_of_mem_drop hw⟩
                            · split at hpre
                              next o r hdr =>
                                split at hpre
                                · split at hpre
                                  · split at hpre
                                    · cases hpre
                                      refine ⟨fun v hv => ?_, fun w hw => List.mem_of_mem_drop (by rw [hdr]; exact List.mem_cons_of_mem _ hw)⟩
                                      rcases List.mem_cons.mp hv with q | q
                                      · subst q; exact List.mem_of_mem_drop (by rw [hdr]; exact List.mem_cons_self)
                                      · exact List.mem_of_mem_take (List.mem_reverse.mp q)
                                    · cases hpre
                                  · cases hpre
                                · cases hpre
                              next => cases hpre
                            · split at hpre
                              next o r hdr =>
                                split at hpre
                                · cases hpre
                                  refine ⟨fun v hv => ?_, fun w hw => List.mem_of_mem_drop (by rw [hdr]; exact List.mem_cons_of_mem _ hw)⟩
                                  rcases List.mem_cons.mp hv with q | q
                                  · subst q; exact List.mem_of_mem_drop (by rw [hdr]; exact List.mem_cons_self)
                                  · exact List.mem_of_mem_take (List.mem_reverse.mp q)
                                · cases hpre
                              next => cases hpre
                            · cases hpre
                        have hMet := z_met hAll hbA hsl hM' hpl' hrun ih hg.1.1 (fun v hv => hg.1.2.2.1 v (hass.1 v hv)) hg.1.2.2.2 hg.2.2.1 hg.2.2.2.2.1 hg.2.2.2.2.2.2.1 hg.2.2.2.2.2.2.2 c1
                        have hGood : GoodIn Ts (Jvm.Cond.code M'.1 M'.2.1 M'.2.2.1 M'.2.2.2.1 :: Ts) := fun w hw => by
                          rcases List.mem_cons.mp hw with q | q
                          · subst q; exact ⟨hcode', hAll.2.2.2 _ hcode'⟩
                          · exact ⟨q, hAll.2.2.2 _ q⟩
                        have hCB : CallB R s args M.1.cls idx M'.1 M'.2.1 M'.2.2.1 M'.2.2.2.1 (Jvm.Cond.code M'.1 M'.2.1 M'.2.2.1 M'.2.2.2.1 :: Ts) { frames := fr - 1, cells := M'.2.2.2.2.2.1, slots := M'.2.2.2.2.2.2.1, locals := lo - (8 + (M'.2.2.1 + 11)) } M'.2.2.2.2.2.1 M'.2.2.2.2.2.2.1 na :=
                          callB_of na hts hGood rfl rfl rfl (hts _ u2) (hts _ u1) ⟨u3.1, u3.2, u4⟩ ⟨by show fr - 1 + 1 ≤ R.frames; omega, by show 8 + (M'.2.2.1 + 11) + (lo - (8 + (M'.2.2.1 + 11))) ≤ R.locals; omega⟩
                        have hPcU : ∀ U : State, U.heap = H → s.WarmedH U.vm → zPc T D A tys b sl xs as ρ ad ws (as.map (zcv ad b ρ)).toArray U := fun U hU hW => ⟨rfl, va_K.moved hW.alike hK, by rw [hU]; exact hg.2.2.2.1, ⟨va_X.moved hW.alike (by rw [hU]; exact hX.1.kept (hg.2.2.2.2.2.1.2.1 (b 0) hbl hbA)), hX.2.moved hW.alike⟩, by rw [hU]; exact Nat.lt_of_lt_of_le hbl hg.2.2.2.2.2.1.1, fun q hq => hA q (by rw [hU] at hq; exact Nat.le_trans hg.2.2.2.2.2.1.1 hq)⟩
                        have hrest : 2 * (F0 m pc' ls (sk.map (zcv ad b ρ))).monitorRoom + ((rest.map (zcv ad b ρ)).map fun v => v.category).sum ≤ 8 := lv_room (by rw [z_wd2_cat]; exact c2)
                        have hfit : cu + M'.2.2.2.2.2.1 ≤ R.cells ∧ su + M'.2.2.2.2.2.2.1 ≤ R.slots := ⟨by omega, by omega⟩
                        have hfix : CallFix p m c M.2.1 M.2.2.1 s args Ts M.1.cls := ⟨hx, hb, hml, hown, hts⟩
                        show W p l e R s m args below meth c H locs cu su Q (F0 m pc' ls (sk.map (zcv ad b ρ)))
                        unfold z_pre at hpre
                        split at hpre
                        next => cases hpre
                        next hna =>
                          have hna := z_len hna
                          have htl : ((sk.take na).reverse.map (zcv ad b ρ)).length = na := by rw [List.length_map, List.length_reverse, List.length_take]; omega
                          split at hpre
                          next =>
                            -- static
                            cases hpre
                            have hi5 : i = .invokestatic idx := k3 (Nat.eq_of_beq_eq_true b2)
                            subst hi5
                            exact z_back ih hM hcn hC hfr hlo hg hass.2 h hdue (W.runS hfix hMet ⟨hCB, hts _ (u6 rfl)⟩ ⟨z_blind, hPcU⟩ rfl htl hg.2.1.1 z_split hrest hd hfit)
                          next =>
                            -- virtual
                            have hi4 : i = .invokevirtual idx := k2 (Nat.eq_of_beq_eq_true b2)
                            subst hi4
                            split at hpre
                            next o r hdr =>
                              split at hpre
                              next ho2 =>
                                split at hpre
                                next g hgp =>
                                  split at hpre
                                  next hgc =>
                                    cases hpre
                                    have hoo : o.2.1 < ov.length := by
                                      have := hg.1.2.2.1 o (hass.1 o List.mem_cons_self)
                                      unfold zok at this; rw [ho2] at this; exact this
                                    obtain ⟨e0, hq, he⟩ := z_wd_at hg.2.2.1 hoo hgp
                                    unfold z_en at he
                                    rw [hgc.1] at he
                                    obtain ⟨fs, rfl, -, -⟩ := he
                                    obtain ⟨C2, T2, N2, hcl2, -, -⟩ := hAll.1.2.1 _ g hgp hgc.1
                                    have hNC := (hAll.1.1 _ C2 T2 N2 hcl2).1
                                    rw [hgc.2, hM'.1] at hNC
                                    have hCe : M'.1.cls = C2 := Option.some.inj hNC
                                    have hrecv := va_recv hK hg.2.2.2.1 hcl2 hq
                                    have estk : sk.map (zcv ad b ρ) = ((sk.take na).reverse.map (zcv ad b ρ)).reverse ++ .ref (ad o.2.1) :: rest.map (zcv ad b ρ) := by
                                      rw [z_split (na := na), hdr, List.map_cons, z_cv2 ho2]
                                    have hPv : ∀ U : State, U.heap = H → s.WarmedH U.vm → zPc T D A tys b sl xs (o :: (sk.take na).reverse) ρ ad ws (Value.ref (ad o.2.1) :: (sk.take na).reverse.map (zcv ad b ρ)).toArray U := fun U hU hW => by
                                      have := hPcU U hU hW
                                      rw [List.map_cons, z_cv2 ho2] at this
                                      exact this
                                    exact z_back ih hM hcn hC hfr hlo hg hass.2 h hdue (W.runV hfix hMet ⟨hCB, hts _ (u5 rfl).1, hts _ (u5 rfl).2⟩ ⟨z_blind, by rw [hCe]; exact hrecv, hPv⟩ rfl htl hg.2.1.1 estk hrest hd hfit)
                                  next => cases hpre
                                next => cases hpre
                              next => cases hpre
                            next => cases hpre
                          next =>
                            -- makers
                            have hi6 : i = .invokespecial idx := k4 (Nat.eq_of_beq_eq_true b2)
                            subst hi6
                            split at hpre
                            next o r hdr =>
                              split at hpre
                              next ho2 =>
                                cases hpre
                                obtain ⟨y1, y2, y3⟩ := u7 rfl
                                have estk : sk.map (zcv ad b ρ) = ((sk.take na).reverse.map (zcv ad b ρ)).reverse ++ .ref (ad o.2.1) :: rest.map (zcv ad b ρ) := by
                                  rw [z_split (na := na), hdr, List.map_cons, z_cv2 ho2]
                                have hPv : ∀ U : State, U.heap = H → s.WarmedH U.vm → zPc T D A tys b sl xs (o :: (sk.take na).reverse) ρ ad ws (Value.ref (ad o.2.1) :: (sk.take na).reverse.map (zcv ad b ρ)).toArray U := fun U hU hW => by
                                  have := hPcU U hU hW
                                  rw [List.map_cons, z_cv2 ho2] at this
                                  exact this
                                rw [y3] at hCB hMet
                                exact z_back ih hM hcn hC hfr hlo hg hass.2 h hdue (W.runI hfix hMet ⟨hCB, y1, hts _ y2⟩ ⟨z_blind, hPv⟩ rfl htl hg.2.1.1 estk hrest hd hfit)
                              next => cases hpre
                            next => cases hpre
                          next => cases hpre
                    next => cases h
                  next => cases h
                next => cases h
            next => cases h
          next => cases h
    next => cases h
end ZMAIN2
