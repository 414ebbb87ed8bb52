/-! ===== the loop of a law: from one step of the script to the next ===== -/
section ZLAW
variable {l : Launch} {T : zTb} {CN : Nat → List zCn} {zN : List String} {Ts : List Jvm.Cond} {D : va_G} {A : Nat → Prop} {cA : Nat → ClassId} {tys : List (ClassId × FieldType)} {b : Nat → Nat} {sl : Nat} {xs : Nat → Int32} {fl : zFl}
variable {p : Program} {e : Env} {R : Room} {s : State} {m : MethodId} {args : Array Value} {below : List Frame} {meth : Method} {c : Code} {Q : State → Prop}
theorem z_arr2 {M : zM} {k n : Nat} {m0 : Option zFc} {a : Nat × zS} {nd : zNd} {ρ : Nat → Int} {ad : Nat → Nat} {ws : va_W} {H : Heap} {locs : List Loc} {ls : Array Slot} (hf : fl.1 = false) (hk10 : 2 ≤ k) (h : z_nmt T.1 k n m0 a nd = true) (hka : k ≤ a.2.2.2.1.length) (hg : z_gs D T.2.1 A cA T.1 b sl xs fl s.heap M.2.2.1 a.2 ρ ad ws H locs ls) :
    ∃ ρ', (∃ (ρ1 : Nat → Int) (ov1 : zO), (∀ j, j < a.2.2.2.1.length → ρ1 j = ρ j) ∧ ∀ i, ρ' i = z_val ρ1 (z_sgl a.2.2.2.2.1 a.2.2.2.2.2.1 ov1 nd.2.2.2.2.2.1 i)) ∧ (∀ i, i < k → ρ' i = ρ i) ∧ k ≤ nd.2.1.length ∧ a.1 = nd.1 ∧ a.2.1 = 0 ∧ a.2.2.1 = 0 ∧ a.2.2.2.2.2.2.length = n ∧ nd.2.2.2.1.map (zcv ad b ρ') = a.2.2.2.2.2.1.map (zcv ad b ρ) ∧ z_gs D T.2.1 A cA T.1 b sl xs fl s.heap M.2.2.1 (z_nst n nd) ρ' ad ws H locs ls ∧ 0 ≤ z_ev ρ' nd.2.2.2.2.2.2.1 ∧ ∀ f, m0 = some f → (∀ q ∈ f.2, q.1 < a.2.2.2.1.length) → z_ev ρ' nd.2.2.2.2.2.2.1 < z_ev ρ f := by
  obtain ⟨pc, cu, su, iv, lv, sk, ov⟩ := a
  unfold z_nmt at h
  dsimp only at h hka ⊢
  rw [Bool.and_eq_true] at h
  obtain ⟨hpc, h⟩ := h
  obtain ⟨ρ1, hfo⟩ := z_fcl_ok nd.2.2.2.2.2.1 (iv, ov) ρ hg
  cases hz : z_fcl T.1 nd.2.2.2.2.2.1 (iv, ov) with
  | mk iv0 ov1 =>
    rw [hz] at h hfo
    dsimp only at h
    obtain ⟨w1, w2, w3, hg0⟩ := hfo
    dsimp only at w1 w2 w3 hg0
    obtain ⟨iv1, et, hi1, el⟩ := z_tgo_ok hg0.1.1
    rw [et] at h
    dsimp only at h
    have hg1 : z_gm D T.2.1 A cA T.1 b sl xs fl s.heap M.2.2.1 iv1 lv sk ov1 ρ1 ad ws H locs ls := hg0.mv (fun _ _ => rfl) (Nat.le_of_eq el.symm) hi1 (fun w hw => z_okrf (hg0.1.2.2.1 w hw) el)
    unfold z_nm1 at h
    rw [Bool.and_eq_true, Bool.and_eq_true, Bool.and_eq_true, Bool.and_eq_true, Bool.and_eq_true, Bool.and_eq_true, Bool.and_eq_true, Bool.and_eq_true, Bool.and_eq_true, Bool.and_eq_true] at h
    obtain ⟨c1, c2, c3, c4, c5, c6, c7, c8, c9, c10, c11⟩ := h
    have c1 := Nat.eq_of_beq_eq_true c1
    have c2 := Nat.eq_of_beq_eq_true c2
    have c3 := Nat.eq_of_beq_eq_true c3
    have c5 := Nat.le_of_ble_eq_true c5
    have hsE : zSg nd.2.1.length (z_sgl lv sk ov1 nd.2.2.2.2.2.1) ρ1 (fun i => z_val ρ1 (z_sgl lv sk ov1 nd.2.2.2.2.2.1 i)) := fun _ _ => rfl
    have h00 : (fun i => z_val ρ1 (z_sgl lv sk ov1 nd.2.2.2.2.2.1 i)) 0 = 0 := by
      show ρ1 0 + 0 = 0
      rw [hg1.1.1.1]
      rfl
    have hid : ∀ i, i < k → z_val ρ1 (z_sgl lv sk ov1 nd.2.2.2.2.2.1 i) = ρ i := fun i hi => by
      rw [z_sgl_id c4 hi]
      show ρ1 i + 0 = _
      rw [w1 i (Nat.lt_of_lt_of_le hi hka)]
      omega
    have hm6 : ∀ q ∈ nd.2.2.2.2.2.2.1.2, q.1 < nd.2.1.length := fun q hq => Nat.le_of_ble_eq_true (List.all_eq_true.mp c6 q hq)
    obtain ⟨m1, m2⟩ := z_mvl_ok hg1.1.1 hsE ad b sk nd.2.2.2.1 hg1.1.2.2.1 c7
    obtain ⟨l1, l2⟩ := z_mlv_ok hg1.1.1 hsE hg1.1.2.1 hg1.2.1 c8
    obtain ⟨t1, t2, t3, t4⟩ := z_mat_ok c9 hg1.1.1 hg1.1.2.2.2 hg1.2.2.1 h00 hsE
    have eN : ov1.length = n := c3
    have hev : z_ev ρ1 (z_sbf (z_sgl lv sk ov1 nd.2.2.2.2.2.1) nd.2.2.2.2.2.2.1) = z_ev (fun i => z_val ρ1 (z_sgl lv sk ov1 nd.2.2.2.2.2.1 i)) nd.2.2.2.2.2.2.1 := z_sbf_ok hsE hg1.1.1.1 hm6
    rw [eN] at m1 l1 t2 t3
    refine ⟨fun i => z_val ρ1 (z_sgl lv sk ov1 nd.2.2.2.2.2.1 i), ⟨ρ1, ov1, w1, fun _ => rfl⟩, hid, c5, Nat.eq_of_beq_eq_true hpc, c1, c2, w3.symm.trans c3, ?_, ?_, ?_, fun f hf9 hfm => ?_⟩
    · rw [m2]
      exact z_skm hg.1.2.2.1 w1 (fun _ _ => rfl)
    · refine ⟨⟨t1, l1, m1, t2⟩, l2, t3, hg1.2.2.2.1, hg1.2.2.2.2.1, hg1.2.2.2.2.2.1, ⟨?_, fun q => ?_⟩, t4, zMm.nil rfl, hg1.2.2.2.2.2.2.2.2.2⟩
      · show z_val ρ1 (z_sgl lv sk ov1 nd.2.2.2.2.2.1 1) = _
        rw [hid 1 (by omega)]
        exact hg.2.2.2.2.2.2.1.1
      · rw [hf] at q; cases q
    · rw [← hev]
      exact z_pv_ok hg1.1.1 4 _ c10
    · rw [hf9] at c11
      have h9 := z_fall_ok hg1.1.1 c11
      rw [hev] at h9
      have h8 : z_ev ρ1 f = z_ev ρ f := by
        unfold z_ev
        rw [z_sum_ext w1 f.2 hfm]
      rw [h8] at h9
      exact h9
/-- one symbol more -/
theorem z_gm.psh {cl : List vw_C} {G : List zC} {h0 : Heap} {nL : Nat} {iv : zI} {lv : zL} {sk : List zV} {ov : zO} {ρ : Nat → Int} {ad : Nat → Nat} {ws : va_W} {H : Heap} {locs : List Loc} {ls : Array Slot} {q : Int × Int} {x : Int} (h : z_gm D cl A cA G b sl xs fl h0 nL iv lv sk ov ρ ad ws H locs ls) (hq : q.1 ≤ x ∧ x ≤ q.2) : z_gm D cl A cA G b sl xs fl h0 nL (iv.push q) lv sk ov (fun i => if i = iv.length then x else ρ i) ad ws H locs ls := by
  have e0 : ∀ i, i < iv.length → (fun i => if i = iv.length then x else ρ i) i = ρ i := fun i hi => if_neg (by omega)
  have hl : iv.length ≤ (iv.push q).length := Nat.le_succ _
  have hi := h.1.1
  refine h.mv e0 hl ⟨?_, Nat.lt_of_lt_of_le hi.2.1 hl, fun i r hr => ?_, hi.2.2.2.ext e0 hl⟩ (fun v hv => zok_ext (h.1.2.2.1 v hv) e0 hl (Nat.le_refl _))
  · exact (e0 0 hi.2.1).trans hi.1
  · rcases zI.at_push hr with ⟨h1, h2⟩ | ⟨h1, rfl⟩
    · rw [e0 i h1]; exact hi.2.2.1 i r h2
    · show r.1 ≤ (if i = iv.length then x else ρ i) ∧ (if i = iv.length then x else ρ i) ≤ r.2
      rw [if_pos h1]
      exact hq
/-- many symbols more -/
def z_pshl (iv : zI) (l : List ((Int × Int) × Int)) : zI := match l with
  | [] => iv
  | q :: r => z_pshl (iv.push q.1) r
theorem z_gm.pshl {cl : List vw_C} {G : List zC} {h0 : Heap} {nL : Nat} {lv : zL} {sk : List zV} {ov : zO} {ad : Nat → Nat} {ws : va_W} {H : Heap} {locs : List Loc} {ls : Array Slot} : ∀ (l : List ((Int × Int) × Int)) (iv : zI) (ρ : Nat → Int), z_gm D cl A cA G b sl xs fl h0 nL iv lv sk ov ρ ad ws H locs ls → (∀ q ∈ l, q.1.1 ≤ q.2 ∧ q.2 ≤ q.1.2) → ∃ ρ', z_gm D cl A cA G b sl xs fl h0 nL (z_pshl iv l) lv sk ov ρ' ad ws H locs ls ∧ (∀ i, i < iv.length → ρ' i = ρ i) ∧ (∀ j q, l[j]? = some q → ρ' (iv.length + j) = q.2)
  | [], iv, ρ, h, _ => ⟨ρ, h, fun _ _ => rfl, fun j q hq => by rw [List.getElem?_nil] at hq; cases hq⟩
  | q :: r, iv, ρ, h, hl => by
    obtain ⟨ρ', h1, h2, h3⟩ := z_gm.pshl r _ _ (h.psh (hl q List.mem_cons_self)) (fun w hw => hl w (List.mem_cons_of_mem _ hw))
    have el : (iv.push q.1).length = iv.length + 1 := rfl
    refine ⟨ρ', h1, fun i hi => ?_, fun j w hw => ?_⟩
    · rw [h2 i (by rw [el]; omega)]
      exact if_neg (by omega)
    · cases j with
      | zero =>
        rw [List.getElem?_cons_zero] at hw
        cases hw
        rw [h2 (iv.length + 0) (by rw [el]; omega)]
        exact if_pos rfl
      | succ j =>
        rw [List.getElem?_cons_succ] at hw
        have := h3 j w hw
        rw [el] at this
        rw [show iv.length + (j + 1) = iv.length + 1 + j by omega]
        exact this
end ZLAW
