/-! ===== contracts are held by runs from node to node ===== -/
/-- a node: where; intervals; locals; stack; what is known; where its symbols come from; a measure; a symbol to be told apart, and its parts -/
abbrev zNd : Type := Nat × zI × zL × List zV × List zKn × List zSr × zFc × Option (Nat × List (Int × Int))
def z_nst (n : Nat) (nd : zNd) : zS := (0, 0, nd.2.1, nd.2.2.1, nd.2.2.2.1, z_ko n nd.2.2.2.2.1)
theorem z_mv_kind {iv : zI} {sg : Nat → zV} {n : Nat} {w v : zV} {ρ : Nat → Int} (hi : ziv iv ρ) (h : z_mv iv sg n w v = true) : w.1 = v.1 := by
  unfold z_mv at h
  rw [Bool.and_eq_true] at h
  have ek : (z_sb sg v).1 = v.1 := by
    unfold z_sb
    cases Nat.ble v.1 1 <;> rfl
  rcases z_ve_ok hi h.1 with q | ⟨q, -, -⟩
  · rw [q, ek]
  · rw [q, ek]
def z_sgl (lv : zL) (sk : List zV) (ov : zO) (l : List zSr) (i : Nat) : zV := bif Nat.beq i 0 then (0, 0, 0) else z_src lv sk ov l i
theorem z_sgl_id {lv : zL} {sk : List zV} {ov : zO} {l : List zSr} {k i : Nat} (h : l.all (fun s => Nat.ble k s.1) = true) (hi : i < k) : z_sgl lv sk ov l i = (0, i, 0) := by
  unfold z_sgl
  cases hb : Nat.beq i 0 with
  | true => rw [Nat.eq_of_beq_eq_true hb]; rfl
  | false => exact z_src_id hi l h
/-- f falls by one at least, to g -/
def z_fall (iv : zI) (f : Option zFc) (g : zFc) : Bool := match f with
  | none => true
  | some f => z_pv iv 4 (f.1 - g.1 - 1, z_fadd (-1) g.2 f.2)
theorem z_fall_ok {iv : zI} {ρ : Nat → Int} {f g : zFc} (hi : ziv iv ρ) (h : z_fall iv (some f) g = true) : z_ev ρ g < z_ev ρ f := by
  have h1 := z_pv_ok hi 4 _ h
  unfold z_ev at h1 ⊢
  dsimp only at h1
  rw [z_fadd_ok] at h1
  omega
/-- the state lies at a node -/
def z_nm1 (k n : Nat) (m0 : Option zFc) (cu su : Nat) (iv1 : zI) (lv : zL) (sk : List zV) (ov1 : zO) (nd : zNd) : Bool := Nat.beq cu 0 && (Nat.beq su 0 && (Nat.beq ov1.length n && (nd.2.2.2.2.2.1.all (fun s => Nat.ble k s.1) && (Nat.ble k nd.2.1.length && (nd.2.2.2.2.2.2.1.2.all (fun q => Nat.blt q.1 nd.2.1.length) && (z_mvl iv1 (z_sgl lv sk ov1 nd.2.2.2.2.2.1) nd.2.1.length sk nd.2.2.2.1 && (z_mlv iv1 (z_sgl lv sk ov1 nd.2.2.2.2.2.1) nd.2.1.length lv nd.2.2.1 && (z_mat iv1 ov1 (z_sgl lv sk ov1 nd.2.2.2.2.2.1) nd.2.1 nd.2.2.2.2.1 && (z_pv iv1 4 (z_sbf (z_sgl lv sk ov1 nd.2.2.2.2.2.1) nd.2.2.2.2.2.2.1) && z_fall iv1 m0 (z_sbf (z_sgl lv sk ov1 nd.2.2.2.2.2.1) nd.2.2.2.2.2.2.1))))))))))
def z_nmt (G : List zC) (k n : Nat) (m0 : Option zFc) (a : Nat × zS) (nd : zNd) : Bool := match a with
  | (pc, cu, su, iv, lv, sk, ov) => Nat.beq pc nd.1 && (match z_fcl G nd.2.2.2.2.2.1 (iv, ov) with
    | (iv0, ov1) => (match z_tgo iv0 with
      | some iv1 => z_nm1 k n m0 cu su iv1 lv sk ov1 nd
      | none => true))
/-- an end is one of the contract's -/
def z_em1 (k n : Nat) (o : zOu) (t : zOt) (iv1 : zI) (ov1 : zO) : Bool := Nat.beq ov1.length n && (t.2.2.2.1.all (fun s => Nat.ble k s.1) && (Nat.ble k t.1.length && (z_mvl iv1 (z_sgl [] o.2.1.toList ov1 t.2.2.2.1) t.1.length o.2.1.toList t.2.1.toList && z_mat iv1 ov1 (z_sgl [] o.2.1.toList ov1 t.2.2.2.1) t.1 t.2.2.1)))
def z_emt (G : List zC) (k n : Nat) (o : zOu) (t : zOt) : Bool := match z_fcl G t.2.2.2.1 (o.1, o.2.2) with
  | (iv0, ov1) => (match z_tgo iv0 with
    | some iv1 => z_em1 k n o t iv1 ov1
    | none => true)
/-- places that hold numbers: are they those of the node -/
def z_qf (lv : zL) (nd : zNd) : Bool := nd.2.2.1.all (fun q => bif Nat.ble q.2.1 1 && Nat.beq q.2.2.1 0 then (match z_fd lv q.1 with
  | some w => bif Nat.beq w.2.1 0 then decide (w.2.2 = q.2.2.2) else true
  | none => false) else true)
def z_rok (G : List zC) (C : zCn) (m0 : Option zFc) (nds : List zNd) (r : zRz) : Bool := match r with
  | some (outs, arrs) => outs.all (fun o => C.2.2.2.2.2.1.any (z_emt G C.2.1.length C.2.2.2.2.2.2.2.2 o)) && arrs.all (fun a => nds.any (fun nd => (Nat.beq a.1 nd.1 && z_qf a.2.2.2.2.1 nd) && z_nmt G C.2.1.length C.2.2.2.2.2.2.2.2 m0 a nd))
  | none => false
/-- parts that hold all from lo to hi -/
def z_cov (lo hi : Int) : List (Int × Int) → Bool
  | [] => false
  | [q] => decide (q.1 ≤ lo ∧ hi ≤ q.2)
  | q :: r => decide (q.1 ≤ lo) && z_cov (q.2 + 1) hi r
theorem z_cov_ok {hi x : Int} : ∀ (l : List (Int × Int)) (lo : Int), z_cov lo hi l = true → lo ≤ x → x ≤ hi → ∃ q ∈ l, q.1 ≤ x ∧ x ≤ q.2
  | [], _, h, _, _ => by cases h
  | [q], lo, h, h1, h2 => by
    have := of_decide_eq_true h
    exact ⟨q, List.mem_singleton.mpr rfl, by omega, by omega⟩
  | q :: q' :: r, lo, h, h1, h2 => by
    unfold z_cov at h
    rw [Bool.and_eq_true] at h
    have h3 := of_decide_eq_true h.1
    by_cases e : x ≤ q.2
    · exact ⟨q, List.mem_cons_self, by omega, e⟩
    · obtain ⟨w, hw, h4⟩ := z_cov_ok (q' :: r) (q.2 + 1) h.2 (by omega) h2
      exact ⟨w, List.mem_cons_of_mem _ hw, h4⟩
def z_nrun (T : zTb) (CN : Nat → List zCn) (fl : zFl) (f : Nat) (SP : List Nat) (M : zM) (C : zCn) (nd : zNd) : zRz := match nd.2.2.2.2.2.2.2 with
  | none => zxB (zx T CN fl f SP) (zx T CN fl f []) T CN fl C.2.2.2.2.2.2.1 C.2.2.2.2.2.2.2.1 M nd.1 (z_drop M.2.2.2.2.1 nd.1) (z_nst C.2.2.2.2.2.2.2.2 nd)
  | some (i, parts) => (match nd.2.1.at i with
    | some q => bif z_cov q.1 q.2 parts then some ([], parts.map (fun w => (nd.1, (0, 0, nd.2.1.set i w, nd.2.2.1, nd.2.2.2.1, z_ko C.2.2.2.2.2.2.2.2 nd.2.2.2.2.1)))) else none
    | none => none)
def z_cok (T : zTb) (CN : Nat → List zCn) (f : Nat) (SP : List Nat) (M : zM) (C : zCn) (nds : List zNd) : Bool := (Nat.ble (z_wd2 C.2.2.1) M.2.2.1 && (C.1.all (fun r => Nat.ble r.2 C.2.2.2.2.2.2.2.2) && nds.all (fun nd => nd.2.2.2.2.2.2.1.2.all (fun q => Nat.blt q.1 nd.2.1.length)))) && (z_rok T.1 C none nds (zxB (zx T CN (false, C.1, []) f SP) (zx T CN (false, C.1, []) f []) T CN (false, C.1, []) C.2.2.2.2.2.2.1 C.2.2.2.2.2.2.2.1 M 0 M.2.2.2.2.1 (0, 0, C.2.1, z_arg 0 C.2.2.1, [], z_ko C.2.2.2.2.2.2.2.2 C.2.2.2.1)) && nds.all (fun nd => z_rok T.1 C (some nd.2.2.2.2.2.2.1) nds (z_nrun T CN (false, C.1, []) f SP M C nd)))
/-- the check in pieces -/
def z_ck0 (T : zTb) (CN : Nat → List zCn) (f : Nat) (SP : List Nat) (M : zM) (C : zCn) (nds : List zNd) : Bool := (Nat.ble (z_wd2 C.2.2.1) M.2.2.1 && (C.1.all (fun r => Nat.ble r.2 C.2.2.2.2.2.2.2.2) && nds.all (fun nd => nd.2.2.2.2.2.2.1.2.all (fun q => Nat.blt q.1 nd.2.1.length)))) && z_rok T.1 C none nds (zxB (zx T CN (false, C.1, []) f SP) (zx T CN (false, C.1, []) f []) T CN (false, C.1, []) C.2.2.2.2.2.2.1 C.2.2.2.2.2.2.2.1 M 0 M.2.2.2.2.1 (0, 0, C.2.1, z_arg 0 C.2.2.1, [], z_ko C.2.2.2.2.2.2.2.2 C.2.2.2.1))
def z_ckn (T : zTb) (CN : Nat → List zCn) (f : Nat) (SP : List Nat) (M : zM) (C : zCn) (nds l : List zNd) : Bool := l.all (fun nd => z_rok T.1 C (some nd.2.2.2.2.2.2.1) nds (z_nrun T CN (false, C.1, []) f SP M C nd))
theorem z_ckn_app {T : zTb} {CN : Nat → List zCn} {f : Nat} {SP : List Nat} {M : zM} {C : zCn} {nds l l' : List zNd} (h : z_ckn T CN f SP M C nds l = true) (h' : z_ckn T CN f SP M C nds l' = true) : z_ckn T CN f SP M C nds (l ++ l') = true := by
  unfold z_ckn at h h' ⊢
  rw [List.all_append, h, h']
  rfl
theorem z_cok_of {T : zTb} {CN : Nat → List zCn} {f : Nat} {SP : List Nat} {M : zM} {C : zCn} {nds : List zNd} (h : z_ck0 T CN f SP M C nds = true) (h' : z_ckn T CN f SP M C nds nds = true) : z_cok T CN f SP M C nds = true := by
  unfold z_ck0 at h
  rw [Bool.and_eq_true] at h
  unfold z_ckn at h'
  unfold z_cok
  rw [h.1, h.2, h']
  rfl
/-! the world at the beginning is for the proof alone -/
theorem zstep_irr {T : zTb} {a : Bool} {K : List (Nat × Nat)} {w w' : va_W} {M : zM} {pc : Nat} {i : Instr} {len : Nat} {st : zS} : zstep T (a, K, w) M pc i len st = zstep T (a, K, w') M pc i len st := by
  cases i <;> rfl
theorem zxB_irr {rec recC : zRc} {T : zTb} {CN : Nat → List zCn} {a : Bool} {K : List (Nat × Nat)} {w w' : va_W} {fr lo : Nat} {M : zM} {pc : Nat} {cur : List zP} {st : zS} : zxB rec recC T CN (a, K, w) fr lo M pc cur st = zxB rec recC T CN (a, K, w') fr lo M pc cur st := by
  unfold zxB
  split
  · rfl
  · unfold zxI
    rw [zstepC_eq, zstepC_eq, zstep_irr (w := w) (w' := w')]
theorem zx_irr {T : zTb} {CN : Nat → List zCn} {a : Bool} {K : List (Nat × Nat)} {w w' : va_W} : ∀ f : Nat, zx T CN (a, K, w) f = zx T CN (a, K, w') f
  | 0 => rfl
  | f + 1 => by
    funext SP fr lo M pc cur st
    unfold zx
    rw [zx_irr (w := w) (w' := w') f, zxB_irr (w := w) (w' := w')]
section ZCON
variable {l : Launch} {T : zTb} {CN : Nat → List zCn} {zN : List String} {Ts : List Jvm.Cond} {D : va_G} {A : Nat → Prop} {cA : Nat → ClassId} {tys : List (ClassId × FieldType)} {b : Nat → Nat} {sl : Nat} {xs : Nat → Int32} {fl : zFl}
variable {p : Program} {e : Env} {R : Room} {s : State} {m : MethodId} {args : Array Value} {below : List Frame} {meth : Method} {c : Code} {Q : State → Prop}
theorem z_mlv_ok {iv τ : zI} {sg : Nat → zV} {n : Nat} {ρ ρ' : Nat → Int} {lv lt : zL} {ad : Nat → Nat} {ls : Array Slot} {nL : Nat} (hi : ziv iv ρ) (hs : zSg τ.length sg ρ ρ') (hl : ∀ q ∈ lv, zok n iv ρ q.2) (hh : lv_has ls nL (lv.map fun q => (q.1, zcv ad b ρ q.2))) (h : z_mlv iv sg τ.length lv lt = true) : (∀ q ∈ lt, zok n τ ρ' q.2) ∧ lv_has ls nL (lt.map fun q => (q.1, zcv ad b ρ' q.2)) := by
  have key : ∀ q ∈ lt, zok n τ ρ' q.2 ∧ ls[q.1]? = some (.val (zcv ad b ρ' q.2)) := fun q hq => by
    have h1 := List.all_eq_true.mp h q hq
    split at h1
    next w hw =>
      have hm := z_fd_mem hw
      obtain ⟨a1, a2⟩ := z_mv_ok hi hs (hl _ hm) h1 ad b
      refine ⟨a1, ?_⟩
      rw [a2]
      exact hh.2.2 (q.1, zcv ad b ρ w) (List.mem_map.mpr ⟨(q.1, w), hm, rfl⟩)
    next => cases h1
  refine ⟨fun q hq => (key q hq).1, hh.1, hh.2.1, fun w hw => ?_⟩
  obtain ⟨q, hq, rfl⟩ := List.mem_map.mp hw
  exact (key q hq).2
theorem z_arrm {M : zM} {k n : Nat} {m0 : Option zFc} {a : Nat × zS} {nd : zNd} {ρ : Nat → Int} {ad : Nat → Nat} {ws : va_W} {H : Heap} {locs : List Loc} {ls : Array Slot} (hf : fl.1 = false) (hk10 : 10 ≤ k) (h : z_nmt T.1 k n m0 a nd = true) (hka : k ≤ a.2.2.2.1.length) (hg : z_gs D T.2.1 A cA T.1 b sl xs fl s.heap M.2.2.1 a.2 ρ ad ws H locs ls) :
    ∃ ρ', (∀ i, i < k → ρ' i = ρ i) ∧ k ≤ nd.2.1.length ∧ a.1 = nd.1 ∧ a.2.1 = 0 ∧ a.2.2.1 = 0 ∧ a.2.2.2.2.2.2.length = n ∧ nd.2.2.2.1.map (zcv ad b ρ') = a.2.2.2.2.2.1.map (zcv ad b ρ) ∧ z_gs D T.2.1 A cA T.1 b sl xs fl s.heap M.2.2.1 (z_nst n nd) ρ' ad ws H locs ls ∧ 0 ≤ z_ev ρ' nd.2.2.2.2.2.2.1 ∧ ∀ f, m0 = some f → (∀ q ∈ f.2, q.1 < a.2.2.2.1.length) → z_ev ρ' nd.2.2.2.2.2.2.1 < z_ev ρ f := by
  obtain ⟨pc, cu, su, iv, lv, sk, ov⟩ := a
  unfold z_nmt at h
  dsimp only at h hka ⊢
  rw [Bool.and_eq_true] at h
  obtain ⟨hpc, h⟩ := h
  obtain ⟨ρ1, hfo⟩ := z_fcl_ok nd.2.2.2.2.2.1 (iv, ov) ρ hg
  cases hz : z_fcl T.1 nd.2.2.2.2.2.1 (iv, ov) with
  | mk iv0 ov1 =>
    rw [hz] at h hfo
    dsimp only at h
    obtain ⟨w1, w2, w3, hg0⟩ := hfo
    dsimp only at w1 w2 w3 hg0
    obtain ⟨iv1, et, hi1, el⟩ := z_tgo_ok hg0.1.1
    rw [et] at h
    dsimp only at h
    have hg1 : z_gm D T.2.1 A cA T.1 b sl xs fl s.heap M.2.2.1 iv1 lv sk ov1 ρ1 ad ws H locs ls := hg0.mv (fun _ _ => rfl) (Nat.le_of_eq el.symm) hi1 (fun w hw => z_okrf (hg0.1.2.2.1 w hw) el)
    unfold z_nm1 at h
    rw [Bool.and_eq_true, Bool.and_eq_true, Bool.and_eq_true, Bool.and_eq_true, Bool.and_eq_true, Bool.and_eq_true, Bool.and_eq_true, Bool.and_eq_true, Bool.and_eq_true, Bool.and_eq_true] at h
    obtain ⟨c1, c2, c3, c4, c5, c6, c7, c8, c9, c10, c11⟩ := h
    have c1 := Nat.eq_of_beq_eq_true c1
    have c2 := Nat.eq_of_beq_eq_true c2
    have c3 := Nat.eq_of_beq_eq_true c3
    have c5 := Nat.le_of_ble_eq_true c5
    have hsE : zSg nd.2.1.length (z_sgl lv sk ov1 nd.2.2.2.2.2.1) ρ1 (fun i => z_val ρ1 (z_sgl lv sk ov1 nd.2.2.2.2.2.1 i)) := fun _ _ => rfl
    have h00 : (fun i => z_val ρ1 (z_sgl lv sk ov1 nd.2.2.2.2.2.1 i)) 0 = 0 := by
      show ρ1 0 + 0 = 0
      rw [hg1.1.1.1]
      rfl
    have hid : ∀ i, i < k → z_val ρ1 (z_sgl lv sk ov1 nd.2.2.2.2.2.1 i) = ρ i := fun i hi => by
      rw [z_sgl_id c4 hi]
      show ρ1 i + 0 = _
      rw [w1 i (Nat.lt_of_lt_of_le hi hka)]
      omega
    have hm6 : ∀ q ∈ nd.2.2.2.2.2.2.1.2, q.1 < nd.2.1.length := fun q hq => Nat.le_of_ble_eq_true (List.all_eq_true.mp c6 q hq)
    obtain ⟨m1, m2⟩ := z_mvl_ok hg1.1.1 hsE ad b sk nd.2.2.2.1 hg1.1.2.2.1 c7
    obtain ⟨l1, l2⟩ := z_mlv_ok hg1.1.1 hsE hg1.1.2.1 hg1.2.1 c8
    obtain ⟨t1, t2, t3, t4⟩ := z_mat_ok c9 hg1.1.1 hg1.1.2.2.2 hg1.2.2.1 h00 hsE
    have eN : ov1.length = n := c3
    have hev : z_ev ρ1 (z_sbf (z_sgl lv sk ov1 nd.2.2.2.2.2.1) nd.2.2.2.2.2.2.1) = z_ev (fun i => z_val ρ1 (z_sgl lv sk ov1 nd.2.2.2.2.2.1 i)) nd.2.2.2.2.2.2.1 := z_sbf_ok hsE hg1.1.1.1 hm6
    rw [eN] at m1 l1 t2 t3
    refine ⟨fun i => z_val ρ1 (z_sgl lv sk ov1 nd.2.2.2.2.2.1 i), hid, c5, Nat.eq_of_beq_eq_true hpc, c1, c2, w3.symm.trans c3, ?_, ?_, ?_, fun f hf9 hfm => ?_⟩
    · rw [m2]
      exact z_skm hg.1.2.2.1 w1 (fun _ _ => rfl)
    · refine ⟨⟨t1, l1, m1, t2⟩, l2, t3, hg1.2.2.2.1, hg1.2.2.2.2.1, hg1.2.2.2.2.2.1, ⟨?_, fun q => ?_⟩, t4, zMm.nil rfl, hg1.2.2.2.2.2.2.2.2.2⟩
      · show z_val ρ1 (z_sgl lv sk ov1 nd.2.2.2.2.2.1 1) = _
        rw [hid 1 (by omega)]
        exact hg.2.2.2.2.2.2.1.1
      · rw [hf] at q; cases q
    · rw [← hev]
      exact z_pv_ok hg1.1.1 4 _ c10
    · rw [hf9] at c11
      have h9 := z_fall_ok hg1.1.1 c11
      rw [hev] at h9
      have h8 : z_ev ρ1 f = z_ev ρ f := by
        unfold z_ev
        rw [z_sum_ext w1 f.2 hfm]
      rw [h8] at h9
      exact h9
theorem z_wf0 : lv_wf (#[] : Array Slot) := ⟨(fun i v h => by cases h), (fun i h => by cases h)⟩
theorem z_endm {M : zM} {C : zCn} {kk : Nat} {o : zOu} {ρ0 ρ : Nat → Int} {ad0 ad : Nat → Nat} {ws : va_W} {H : Heap} {locs : List Loc} {ls : Array Slot} {pc cu su : Nat} {i : Instr} (hf : fl.1 = false) (hk10 : 10 ≤ C.2.1.length) (h : C.2.2.2.2.2.1.any (z_emt T.1 C.2.1.length C.2.2.2.2.2.2.2.2 o) = true) (hbh : zBh C.2.1.length C.2.2.2.2.2.2.2.2 ρ0 ad0 o ρ ad) (hend : zEnd T.1 T.2.1 cA D A b sl xs fl o ρ ad ws H) (hS : va_S A s.heap H locs) (hrt : zRt kk i) (hrv : zRv M kk o ρ) (hd : decode M.2.1 pc = .ok (i, 1)) (hcu : cu ≤ M.2.2.2.2.2.1) (hsu : su ≤ M.2.2.2.2.2.2.1)
    (hdue : zDue p l e R s m args below meth c Q D A cA b sl xs fl T M C.2.1.length C.2.2.2.2.2.2.2.2 ρ0 ad0 (C.2.2.2.2.2.1.map (z_otu C.2.2.2.2.2.2.2.2))) : W p l e R s m args below meth c H locs cu su Q (F0 m pc ls (o.2.1.toList.map (zcv ad b ρ))) := by
  obtain ⟨t, ht, h⟩ := List.any_eq_true.mp h
  obtain ⟨d1, d2, d3, d4, d5, d6, d7, d8, d9, d10⟩ := hend
  unfold z_emt at h
  have hgd : z_gm D T.2.1 A cA T.1 b sl xs fl H 0 o.1 [] o.2.1.toList o.2.2 ρ ad ws H [] #[] := ⟨⟨d1, (fun q hq => absurd hq List.not_mem_nil), (fun v hv => d2 v (Option.mem_toList.mp hv)), d3⟩, ⟨rfl, z_wf0, (fun q hq => absurd hq List.not_mem_nil)⟩, d4, d5, d6, va_S.rf, d7, d8, d9, d10⟩
  obtain ⟨ρ1, hfo⟩ := z_fcl_ok t.2.2.2.1 (o.1, o.2.2) ρ hgd
  cases hz : z_fcl T.1 t.2.2.2.1 (o.1, o.2.2) with
  | mk iv0 ov1 =>
    rw [hz] at h hfo
    dsimp only at h
    obtain ⟨w1, w2, w3, hg0⟩ := hfo
    dsimp only at w1 w2 w3 hg0
    obtain ⟨iv1, et, hi1, el⟩ := z_tgo_ok hg0.1.1
    rw [et] at h
    dsimp only at h
    have hg1 : z_gm D T.2.1 A cA T.1 b sl xs fl H 0 iv1 [] o.2.1.toList ov1 ρ1 ad ws H [] #[] := hg0.mv (fun _ _ => rfl) (Nat.le_of_eq el.symm) hi1 (fun w hw => z_okrf (hg0.1.2.2.1 w hw) el)
    unfold z_em1 at h
    rw [Bool.and_eq_true, Bool.and_eq_true, Bool.and_eq_true, Bool.and_eq_true] at h
    obtain ⟨c3, c4, c5, c7, c9⟩ := h
    have c3 := Nat.eq_of_beq_eq_true c3
    have c5 := Nat.le_of_ble_eq_true c5
    have hsE : zSg t.1.length (z_sgl [] o.2.1.toList ov1 t.2.2.2.1) ρ1 (fun i => z_val ρ1 (z_sgl [] o.2.1.toList ov1 t.2.2.2.1 i)) := fun _ _ => rfl
    have h00 : (fun i => z_val ρ1 (z_sgl [] o.2.1.toList ov1 t.2.2.2.1 i)) 0 = 0 := by
      show ρ1 0 + 0 = 0
      rw [hg1.1.1.1]
      rfl
    have hid : ∀ i, i < C.2.1.length → z_val ρ1 (z_sgl [] o.2.1.toList ov1 t.2.2.2.1 i) = ρ i := fun i hi => by
      rw [z_sgl_id c4 hi]
      show ρ1 i + 0 = _
      rw [w1 i (Nat.lt_of_lt_of_le hi hbh.2.2.1)]
      omega
    obtain ⟨m1, m2⟩ := z_mvl_ok hg1.1.1 hsE ad b o.2.1.toList t.2.1.toList hg1.1.2.2.1 c7
    obtain ⟨t1, t2, t3, t4⟩ := z_mat_ok c9 hg1.1.1 hg1.1.2.2.2 hg1.2.2.1 h00 hsE
    rw [c3] at m1 t2 t3
    have e9 : o.2.1.toList.map (zcv ad b ρ1) = o.2.1.toList.map (zcv ad b ρ) := z_skm hgd.1.2.2.1 w1 (fun _ _ => rfl)
    rw [← e9, ← m2]
    refine hdue (z_otu C.2.2.2.2.2.2.2.2 t) (List.mem_map.mpr ⟨t, ht, rfl⟩) _ ad ws H locs ls pc kk cu su i ⟨fun i hi => (hid i hi).trans (hbh.1 i hi), hbh.2.1, c5, Nat.le_refl _⟩ ⟨t1, fun v hv => m1 v (Option.mem_toList.mpr hv), t2, t3, d5, d6, ⟨?_, fun q => ?_⟩, t4, zMm.nil rfl, d10⟩ hS hrt ?_ hd hcu hsu
    · show z_val ρ1 (z_sgl [] o.2.1.toList ov1 t.2.2.2.1 1) = _
      rw [hid 1 (by omega)]
      exact d7.1
    · rw [hf] at q; cases q
    · rcases hrv with ⟨r0, r1, r2⟩ | ⟨r0, v, ty, r1, r2, r3, r4⟩ | ⟨r0, v, r1, r2, r3⟩
      · refine Or.inl ⟨r0, r1, ?_⟩
        show t.2.1 = none
        rw [r2] at c7
        cases hz9 : t.2.1 with
        | none => rfl
        | some x => rw [hz9] at c7; cases c7
      · have e7 : z_sgl [] o.2.1.toList ov1 t.2.2.2.1 = z_sgl [] (some v).toList ov1 t.2.2.2.1 := by rw [r1]
        rw [e7]
        rw [r1] at c7 m2 e9
        cases hz9 : t.2.1 with
        | none => rw [hz9] at c7; cases c7
        | some x =>
          rw [hz9] at c7 m2
          change (z_mv iv1 _ t.1.length v x && true) = true at c7
          rw [Bool.and_true] at c7
          have hk := z_mv_kind hg1.1.1 c7
          have hx0 : x.1 = 0 := hk.symm.trans r2
          refine Or.inr (Or.inl ⟨r0, x, ty, hz9, hx0, r3, ?_⟩)
          have m3 : zcv ad b (fun i => z_val ρ1 (z_sgl [] (some v).toList ov1 t.2.2.2.1 i)) x = zcv ad b ρ v := by
            have a1 := List.cons.inj m2
            have a2 := List.cons.inj e9
            exact a1.1.trans a2.1
          rw [z_cv0 hx0, z_cv0 r2] at m3
          rw [m3]
          exact r4
      · rw [r1] at c7
        cases hz9 : t.2.1 with
        | none => rw [hz9] at c7; cases c7
        | some x =>
          rw [hz9] at c7
          change (z_mv iv1 _ t.1.length v x && true) = true at c7
          rw [Bool.and_true] at c7
          have hk := z_mv_kind hg1.1.1 c7
          exact Or.inr (Or.inr ⟨r0, x, hz9, hk.symm.trans r2, r3⟩)
end ZCON
section ZCON2
variable {l : Launch} {T : zTb} {CN : Nat → List zCn} {zN : List String} {Ts : List Jvm.Cond} {D : va_G} {A : Nat → Prop} {cA : Nat → ClassId} {tys : List (ClassId × FieldType)} {b : Nat → Nat} {sl : Nat} {xs : Nat → Int32}
theorem z_con (hAll : zAllOk T zN Ts cA tys) (hCN : zCNOk l T zN Ts D A cA tys b sl xs CN) (hbA : ¬ A (b 0)) (hsl : sl ≤ 2147483647) {mi : Nat} {M : zM} (hmt : T.2.2.2.2.2.2.2.2.2.2.1[mi]? = some M) {f : Nat} {SP : List Nat} {C : zCn} {nds : List zNd} (h : z_cok T CN f SP M C nds = true) : zCS l T zN Ts D A cA tys b sl xs M C := by
  intro ρ ad ws hi has hov hw hD h1 h9
  obtain ⟨hM, hpl, -⟩ := hAll.2.1 mi M hmt
  unfold z_cok at h
  rw [Bool.and_eq_true] at h
  obtain ⟨hwd, h⟩ := h
  rw [Bool.and_eq_true] at h
  obtain ⟨hent, hnds⟩ := h
  rw [Bool.and_eq_true, Bool.and_eq_true] at hwd
  obtain ⟨hwd, hKN, hms⟩ := hwd
  have hwd := Nat.le_of_ble_eq_true hwd
  rw [zxB_irr (w' := ws), zx_irr (w := []) (w' := ws)] at hent
  refine z_body (fl := (false, C.1, ws)) hAll hbA hsl hM hpl hwd (fun p e s m args below meth c Q ls hC hP hl hdue => ?_)
  have hsd := z_sound (fl := (false, C.1, ws)) hAll hCN hbA hsl f
  -- what a run gives
  have use : ∀ (r : List zOu × List (Nat × zS)) (m0 : Option zFc) (k' n' : Nat) (ρ' : Nat → Int) (ad' : Nat → Nat), z_rok T.1 C m0 nds (some r) = true → C.2.1.length ≤ k' → C.2.2.2.2.2.2.2.2 ≤ n' → (∀ i, i < C.2.1.length → ρ' i = ρ i) → (∀ q, q < C.2.2.2.2.2.2.2.2 → ad' q = ad q) →
      (∀ nd ∈ nds, ∀ (ρ2 : Nat → Int) (ad2 : Nat → Nat) (ws2 : va_W) (H2 : Heap) (locs2 : List Loc) (ls2 : Array Slot), z_gs D T.2.1 A cA T.1 b sl xs (false, C.1, ws) s.heap M.2.2.1 (z_nst C.2.2.2.2.2.2.2.2 nd) ρ2 ad2 ws2 H2 locs2 ls2 → (∀ i, i < C.2.1.length → ρ2 i = ρ i) → (∀ q, q < C.2.2.2.2.2.2.2.2 → ad2 q = ad q) → C.2.1.length ≤ nd.2.1.length → 0 ≤ z_ev ρ2 nd.2.2.2.2.2.2.1 → (∀ f, m0 = some f → (∀ q ∈ f.2, q.1 < k') → z_ev ρ2 nd.2.2.2.2.2.2.1 < z_ev ρ' f) → W p l e { frames := C.2.2.2.2.2.2.1, cells := M.2.2.2.2.2.1, slots := M.2.2.2.2.2.2.1, locals := C.2.2.2.2.2.2.2.1 } s m args below meth c H2 locs2 0 0 Q (F0 m nd.1 ls2 (nd.2.2.2.1.map (zcv ad2 b ρ2)))) →
      zDue p l e { frames := C.2.2.2.2.2.2.1, cells := M.2.2.2.2.2.1, slots := M.2.2.2.2.2.2.1, locals := C.2.2.2.2.2.2.2.1 } s m args below meth c Q D A cA b sl xs (false, C.1, ws) T M k' n' ρ' ad' r.1 ∧ zArv p l e { frames := C.2.2.2.2.2.2.1, cells := M.2.2.2.2.2.1, slots := M.2.2.2.2.2.2.1, locals := C.2.2.2.2.2.2.2.1 } s m args below meth c Q D A cA b sl xs (false, C.1, ws) T M k' n' ρ' ad' r.2 := by
    intro r m0 k' n' ρ' ad' hr hk hn hρ had hnd
    obtain ⟨outs, arrs⟩ := r
    unfold z_rok at hr
    dsimp only at hr
    rw [Bool.and_eq_true] at hr
    refine ⟨fun o ho ρ2 ad2 ws2 H2 locs2 ls2 pc2 kk cu su i hbh hend hS hrt hrv hd hcu hsu => ?_, fun a ha ρ2 ad2 ws2 H2 locs2 ls2 hbh hg => ?_⟩
    · exact z_endm (fl := (false, C.1, ws)) rfl h9 (List.all_eq_true.mp hr.1 o ho) (hbh.tr hρ had hk hn) hend hS hrt hrv hd hcu hsu hdue
    · obtain ⟨nd, hm, h20⟩ := List.any_eq_true.mp (List.all_eq_true.mp hr.2 a ha)
      have h2 := (Bool.and_eq_true _ _ ▸ h20).2
      have hka : k' ≤ a.2.2.2.1.length := hbh.2.2.1
      obtain ⟨ρ3, x1, x2, x3, x4, x5, x6, x7, x8, x9, x10⟩ := z_arrm (fl := (false, C.1, ws)) rfl h9 h2 (Nat.le_trans hk hka) hg
      rw [x3, x4, x5, ← x7]
      refine hnd nd hm ρ3 ad2 ws2 H2 locs2 ls2 x8 (fun i hi => (x1 i hi).trans ((hbh.1 i (Nat.lt_of_lt_of_le hi hk)).trans (hρ i hi))) (fun q hq => (hbh.2.1 q (Nat.lt_of_lt_of_le hq hn)).trans (had q hq)) x2 x9 (fun f hf hfm => ?_)
      have h8 := x10 f hf (fun q hq => Nat.lt_of_lt_of_le (hfm q hq) hka)
      have h7 : z_ev ρ2 f = z_ev ρ' f := by
        unfold z_ev
        rw [z_sum_ext hbh.1 f.2 hfm]
      rw [h7] at h8
      exact h8
  -- the nodes, by their measure
  have node : ∀ (v : Nat), ∀ nd ∈ nds, ∀ (ρ2 : Nat → Int) (ad2 : Nat → Nat) (ws2 : va_W) (H2 : Heap) (locs2 : List Loc) (ls2 : Array Slot), z_gs D T.2.1 A cA T.1 b sl xs (false, C.1, ws) s.heap M.2.2.1 (z_nst C.2.2.2.2.2.2.2.2 nd) ρ2 ad2 ws2 H2 locs2 ls2 → (∀ i, i < C.2.1.length → ρ2 i = ρ i) → (∀ q, q < C.2.2.2.2.2.2.2.2 → ad2 q = ad q) → C.2.1.length ≤ nd.2.1.length → 0 ≤ z_ev ρ2 nd.2.2.2.2.2.2.1 → z_ev ρ2 nd.2.2.2.2.2.2.1 < v → W p l e { frames := C.2.2.2.2.2.2.1, cells := M.2.2.2.2.2.1, slots := M.2.2.2.2.2.2.1, locals := C.2.2.2.2.2.2.2.1 } s m args below meth c H2 locs2 0 0 Q (F0 m nd.1 ls2 (nd.2.2.2.1.map (zcv ad2 b ρ2))) := by
    intro v
    induction v with
    | zero => intro nd _ ρ2 _ _ _ _ _ _ _ _ _ h5 h6; omega
    | succ v ih =>
      intro nd hnd ρ2 ad2 ws2 H2 locs2 ls2 hg e1 e2 e3 e4 e5
      have hr := List.all_eq_true.mp hnds nd hnd
      have hstep : ∀ nd' ∈ nds, ∀ (ρ3 : Nat → Int) (ad3 : Nat → Nat) (ws3 : va_W) (H3 : Heap) (locs3 : List Loc) (ls3 : Array Slot), z_gs D T.2.1 A cA T.1 b sl xs (false, C.1, ws) s.heap M.2.2.1 (z_nst C.2.2.2.2.2.2.2.2 nd') ρ3 ad3 ws3 H3 locs3 ls3 → (∀ i, i < C.2.1.length → ρ3 i = ρ i) → (∀ q, q < C.2.2.2.2.2.2.2.2 → ad3 q = ad q) → C.2.1.length ≤ nd'.2.1.length → 0 ≤ z_ev ρ3 nd'.2.2.2.2.2.2.1 → (∀ f, some nd.2.2.2.2.2.2.1 = some f → (∀ q ∈ f.2, q.1 < nd.2.1.length) → z_ev ρ3 nd'.2.2.2.2.2.2.1 < z_ev ρ2 f) → W p l e { frames := C.2.2.2.2.2.2.1, cells := M.2.2.2.2.2.1, slots := M.2.2.2.2.2.2.1, locals := C.2.2.2.2.2.2.2.1 } s m args below meth c H3 locs3 0 0 Q (F0 m nd'.1 ls3 (nd'.2.2.2.1.map (zcv ad3 b ρ3))) := by
        intro nd' hnd' ρ3 ad3 ws3 H3 locs3 ls3 hg3 y1 y2 y3 y4 y5
        have := y5 _ rfl (fun q hq => Nat.le_of_ble_eq_true (List.all_eq_true.mp (List.all_eq_true.mp hms nd hnd) q hq))
        exact ih nd' hnd' ρ3 ad3 ws3 H3 locs3 ls3 hg3 y1 y2 y3 y4 (by omega)
      unfold z_nrun at hr
      split at hr
      next =>
        rw [zxB_irr (w' := ws), zx_irr (w := []) (w' := ws)] at hr
        cases hz : zxB (zx T CN (false, C.1, ws) f SP) (zx T CN (false, C.1, ws) f []) T CN (false, C.1, ws) C.2.2.2.2.2.2.1 C.2.2.2.2.2.2.2.1 M nd.1 (z_drop M.2.2.2.2.1 nd.1) (z_nst C.2.2.2.2.2.2.2.2 nd) with
        | none => rw [hz] at hr; cases hr
        | some r =>
          rw [hz] at hr
          obtain ⟨u1, u2⟩ := use r (some nd.2.2.2.2.2.2.1) nd.2.1.length C.2.2.2.2.2.2.2.2 ρ2 ad2 hr e3 (Nat.le_refl _) e1 e2 hstep
          exact z_soundB hAll hCN hbA hsl hsd hz hM (fun e he => z_drop_mem e he) hC (Nat.le_refl _) (Nat.le_refl _) hg u1 u2
      next i parts hact =>
        split at hr
        next q hq =>
          cases hcv : z_cov q.1 q.2 parts with
          | false => rw [hcv] at hr; cases hr
          | true =>
            rw [hcv] at hr
            dsimp only [cond_true] at hr
            obtain ⟨u1, u2⟩ := use _ (some nd.2.2.2.2.2.2.1) nd.2.1.length C.2.2.2.2.2.2.2.2 ρ2 ad2 hr e3 (Nat.le_refl _) e1 e2 hstep
            have hb := hg.1.1.2.2.1 i q hq
            obtain ⟨w, hw9, w1, w2⟩ := z_cov_ok parts q.1 hcv hb.1 hb.2
            obtain ⟨v1, v2⟩ := z_set_ok (k := i) (q := w) hg.1.1 w1 w2
            exact u2 (nd.1, (0, 0, nd.2.1.set i w, nd.2.2.1, nd.2.2.2.1, z_ko C.2.2.2.2.2.2.2.2 nd.2.2.2.2.1)) (List.mem_map.mpr ⟨w, hw9, rfl⟩) ρ2 ad2 ws2 H2 locs2 ls2 ⟨fun _ _ => rfl, fun _ _ => rfl, Nat.le_refl _, Nat.le_refl _⟩ (z_gm.mv hg (fun _ _ => rfl) (Nat.le_refl _) v1 (fun w9 hw9 => z_okrf (hg.1.2.2.1 w9 hw9) v2))
        next => cases hr
  cases hz : zxB (zx T CN (false, C.1, ws) f SP) (zx T CN (false, C.1, ws) f []) T CN (false, C.1, ws) C.2.2.2.2.2.2.1 C.2.2.2.2.2.2.2.1 M 0 M.2.2.2.2.1 (0, 0, C.2.1, z_arg 0 C.2.2.1, [], z_ko C.2.2.2.2.2.2.2.2 C.2.2.2.1) with
  | none => rw [hz] at hent; cases hent
  | some r =>
    rw [hz] at hent
    obtain ⟨u1, u2⟩ := use r none C.2.1.length C.2.2.2.2.2.2.2.2 ρ ad hent (Nat.le_refl _) (Nat.le_refl _) (fun _ _ => rfl) (fun _ _ => rfl) (fun nd hnd ρ2 ad2 ws2 H2 locs2 ls2 hg y1 y2 y3 y4 _ => node ((z_ev ρ2 nd.2.2.2.2.2.2.1).toNat + 1) nd hnd ρ2 ad2 ws2 H2 locs2 ls2 hg y1 y2 y3 y4 (by omega))
    have hkp : zKp (C.1, ws) ws := fun p9 hp9 => by
      refine ⟨?_, rfl⟩
      rw [hw.1]
      show p9 < C.2.2.2.2.2.2.2.2
      clear hent hnds use node hdue u1 u2
      have key : ∀ K : List (Nat × Nat), K.all (fun r => Nat.ble r.2 C.2.2.2.2.2.2.2.2) = true → z_ink K p9 = true → p9 < C.2.2.2.2.2.2.2.2 := by
        intro K
        induction K with
        | nil => intro _ h; cases h
        | cons a t ih =>
          intro h1 h2
          rw [List.all_cons, Bool.and_eq_true] at h1
          unfold z_ink at h2
          rcases Bool.or_eq_true _ _ ▸ h2 with q | q
          · rw [Bool.and_eq_true] at q
            have q2 : p9 < a.2 := Nat.le_of_ble_eq_true q.2
            have q3 := Nat.le_of_ble_eq_true h1.1
            omega
          · exact ih h1.2 q
      exact key C.1 hKN hp9
    exact z_soundB hAll hCN hbA hsl hsd hz hM (fun _ h => h) hC (Nat.le_refl _) (Nat.le_refl _) ⟨⟨hi, fun q hq => has _ (z_arg_mem 0 q hq), (fun v hv => absurd hv List.not_mem_nil), hov⟩, hl, hw, hP, hD, va_S.rf, ⟨h1, fun q => by cases q⟩, h9, zMm.nil rfl, hkp⟩ u1 u2
end ZCON2
