/-- from the head: an end that gives 1, or into a step -/
def z_lhd (T : zTb) (CN : Nat → List zCn) (f fr lo : Nat) (M : zM) (n : Nat) (rest : List zSr) (sA cu0 su0 : Nat) (nA nB : zNd) : Bool := match zxB (zx T CN (false, [], []) f [nB.1]) (zx T CN (false, [], []) f []) T CN (false, [], []) fr lo M nA.1 (z_drop M.2.2.2.2.1 nA.1) (cu0, su0, (z_nst n nA).2.2) with
  | some (outs, arrs) => outs.all (fun o => decide (o.2.1 = some (0, 0, 1))) && arrs.all (fun a => Nat.beq a.2.1 cu0 && (Nat.beq a.2.2.1 su0 && (z_in6 T.1 n rest (a.1, 0, 0, a.2.2.2) nB && decide (z_fd a.2.2.2.2.1 3 = some (0, sA, 0)))))
  | none => false
/-- no values can have all that is said of them: one fact says against the others -/
def z_ctr (iv : zI) : Bool := iv.fs.2.1.any (fun f => z_pv iv 4 (-1 - f.1, f.2.map (fun q => (q.1, -q.2))))
theorem z_sum_neg {ρ : Nat → Int} : ∀ l : List (Nat × Int), z_sum ρ (l.map (fun q => (q.1, -q.2))) = -z_sum ρ l
  | [] => rfl
  | q :: r => by
    unfold z_sum
    show -q.2 * ρ q.1 + z_sum ρ (r.map (fun q => (q.1, -q.2))) = -(q.2 * ρ q.1 + z_sum ρ r)
    rw [z_sum_neg r, Int.neg_mul]
    omega
theorem z_ctr_no {iv : zI} {ρ : Nat → Int} (hi : ziv iv ρ) (h : z_ctr iv = true) : False := by
  obtain ⟨f, hf, hp⟩ := List.any_eq_true.mp h
  have h1 := (hi.2.2.2.1 f hf).1
  have h2 := z_pv_ok hi 4 _ hp
  unfold z_ev at h1 h2
  dsimp only at h2
  rw [z_sum_neg] at h2
  omega
/-- a step: to the head, the place's number six more -/
def z_lst (T : zTb) (CN : Nat → List zCn) (f fr lo : Nat) (M : zM) (n cu0 su0 : Nat) (nA nB : zNd) : Bool := match zxB (zx T CN (true, [], []) f [nA.1]) (zx T CN (true, [], []) f []) T CN (true, [], []) fr lo M nB.1 (z_drop M.2.2.2.2.1 nB.1) (cu0, su0, (z_nst n nB).2.2) with
  | some (outs, arrs) => outs.all (fun o => z_ctr o.1) && arrs.all (fun a => Nat.beq a.2.1 cu0 && (Nat.beq a.2.2.1 su0 && (decide (z_fd a.2.2.2.2.1 3 = some (0, 8, 6)) && z_nmt T.1 2 n none (a.1, 0, 0, a.2.2.2) nA)))
  | none => false
/-- the node, a symbol of it in one part -/
def z_nsp (nd : zNd) (k : Nat) (w : Int × Int) : zNd := (nd.1, nd.2.1.set k w, nd.2.2)
/-- a step from the node, whatever its symbols are: some narrower node of which it is checked -/
def zLs (T : zTb) (CN : Nat → List zCn) (f fr lo : Nat) (M : zM) (n cu0 su0 : Nat) (nA nB : zNd) : Prop := ∀ ρ : Nat → Int, ziv nB.2.1 ρ → ∃ iv' : zI, ziv iv' ρ ∧ iv'.length = nB.2.1.length ∧ z_lst T CN f fr lo M n cu0 su0 nA (nB.1, iv', nB.2.2) = true
theorem zLs_leaf {T : zTb} {CN : Nat → List zCn} {f fr lo : Nat} {M : zM} {n cu0 su0 : Nat} {nA nB : zNd} (h : z_lst T CN f fr lo M n cu0 su0 nA nB = true) : zLs T CN f fr lo M n cu0 su0 nA nB := fun _ hi => ⟨nB.2.1, hi, rfl, h⟩
theorem zLs_cut {T : zTb} {CN : Nat → List zCn} {f fr lo : Nat} {M : zM} {n cu0 su0 : Nat} {nA nB : zNd} (k : Nat) (q : Int × Int) (parts : List (Int × Int)) (hk : nB.2.1.at k = some q) (hcv : z_cov q.1 q.2 parts = true) (h : ∀ w ∈ parts, zLs T CN f fr lo M n cu0 su0 nA (z_nsp nB k w)) : zLs T CN f fr lo M n cu0 su0 nA nB := by
  intro ρ hi
  have hb := hi.2.2.1 k q hk
  obtain ⟨w, hw, w1, w2⟩ := z_cov_ok parts q.1 hcv hb.1 hb.2
  obtain ⟨v1, v2⟩ := z_set_ok (k := k) (q := w) hi w1 w2
  obtain ⟨iv', u1, u2, u3⟩ := h w hw ρ v1
  exact ⟨iv', u1, u2.trans v2, u3⟩
section ZLAW2
variable {l : Launch} {T : zTb} {CN : Nat → List zCn} {zN : List String} {Ts : List Jvm.Cond} {D : va_G} {A : Nat → Prop} {cA : Nat → ClassId} {tys : List (ClassId × FieldType)} {b : Nat → Nat} {sl : Nat} {xs : Nat → Int32}
variable {p : Program} {e : Env} {R : Room} {s : State} {m : MethodId} {args : Array Value} {below : List Frame} {meth : Method} {c : Code} {Q : State → Prop}
theorem z_law (hAll : zAllOk T zN Ts cA tys) (hCN : zCNOk l T zN Ts D A cA tys b sl xs CN) (hbA : ¬ A (b 0)) (hsl : sl ≤ 2147483647) {f fr lo n sA cu0 su0 : Nat} {M : zM} {rest : List zSr} {nA nB : zNd} (hM : zMOk zN Ts M) (hC : zCx p R s m args meth c T zN Ts D A tys b sl xs s.heap M) (hfr : fr ≤ R.frames) (hlo : lo ≤ R.locals)
    (hA : z_lhd T CN f fr lo M n rest sA cu0 su0 nA nB = true) (hB : zLs T CN f fr lo M n cu0 su0 nA nB) (hsA : sA < nA.2.1.length) (h9B : 9 < nB.2.1.length) (hkA : nA.2.2.2.1 = []) (hkB : nB.2.2.2.1 = []) (hsrc : ∀ (lv : zL) (sk : List zV) (ov : zO), z_sgl lv sk ov nA.2.2.2.2.2.1 sA = (z_fd lv 3).getD (0, 0, 0)) {ws0 : va_W}
    (hdue : ∀ (k' n' : Nat) (ρ' : Nat → Int) (ad' : Nat → Nat) (o : zOu), o.2.1 = some (0, 0, 1) → zDue p l e R s m args below meth c Q D A cA b sl xs (false, [], ws0) T M k' n' ρ' ad' [o]) :
    ∀ (N : Nat) (ρ : Nat → Int) (ad : Nat → Nat) (ws : va_W) (H : Heap) (locs : List Loc) (ls : Array Slot), z_gs D T.2.1 A cA T.1 b sl xs (false, [], ws0) s.heap M.2.2.1 (z_nst n nA) ρ ad ws H locs ls → ρ sA ≤ (sl : Int) → (sl : Int) - ρ sA < N → W p l e R s m args below meth c H locs cu0 su0 Q (F0 m nA.1 ls []) := by
  intro N
  induction N with
  | zero => intro ρ ad ws H locs ls _ h1 h2; omega
  | succ N ih =>
    intro ρ ad ws H locs ls hg h1 h2
    unfold z_lhd at hA
    rw [zxB_irr (w' := ws0), zx_irr (w := []) (w' := ws0)] at hA
    cases hz : zxB (zx T CN (false, [], ws0) f [nB.1]) (zx T CN (false, [], ws0) f []) T CN (false, [], ws0) fr lo M nA.1 (z_drop M.2.2.2.2.1 nA.1) (cu0, su0, (z_nst n nA).2.2) with
    | none => rw [hz] at hA; cases hA
    | some r =>
      rw [hz] at hA
      obtain ⟨outs, arrs⟩ := r
      dsimp only at hA
      rw [Bool.and_eq_true] at hA
      have hsd := z_sound (fl := (false, [], ws0)) hAll hCN hbA hsl f
      have key := z_soundB (st := (cu0, su0, (z_nst n nA).2.2)) hAll hCN hbA hsl hsd hz hM (fun e he => z_drop_mem e he) hC hfr hlo hg (Q := Q) (below := below) (e := e) ?_ ?_
      · have e0 : (z_nst n nA).2.2.2.2.1 = [] := hkA
        rw [e0] at key
        exact key
      · intro o ho
        exact hdue _ _ _ _ o (of_decide_eq_true (List.all_eq_true.mp hA.1 o ho)) o List.mem_cons_self
      · intro a ha ρ2 ad2 ws2 H2 locs2 ls2 hbh hg2
        have h3 := List.all_eq_true.mp hA.2 a ha
        rw [Bool.and_eq_true, Bool.and_eq_true, Bool.and_eq_true] at h3
        obtain ⟨g1, g2, g3, g4⟩ := h3
        have h4 := of_decide_eq_true g4
        obtain ⟨ρ3, x1, x2, x3, x4, x5, x6, v, x7, x8⟩ := z_in6_ok (K := ([], ws0)) (a := (a.1, 0, 0, a.2.2.2)) g3 hg2
        dsimp only at x1 x5 x7
        rw [h4] at x7
        cases x7
        rw [x1, Nat.eq_of_beq_eq_true g1, Nat.eq_of_beq_eq_true g2, ← x5, hkB]
        have h8 : ρ3 8 = ρ sA := by
          rw [x8]
          show ρ2 sA + 0 = ρ sA
          rw [hbh.1 sA hsA]
          omega
        -- a step
        obtain ⟨iv9, v1, v2, hB⟩ := hB ρ3 x6.1.1
        have x6' : z_gm D T.2.1 A cA T.1 b sl xs (true, [], ws0) s.heap M.2.2.1 iv9 nB.2.2.1 nB.2.2.2.1 (z_ko n nB.2.2.2.2.1) ρ3 ad2 ws2 H2 locs2 ls2 := z_gm.mv x6 (fun _ _ => rfl) (Nat.le_of_eq v2.symm) v1 (fun w8 hw8 => z_okrf (x6.1.2.2.1 w8 hw8) v2)
        unfold z_lst at hB
        rw [zxB_irr (w' := ws0), zx_irr (w := []) (w' := ws0)] at hB
        cases hz' : zxB (zx T CN (true, [], ws0) f [nA.1]) (zx T CN (true, [], ws0) f []) T CN (true, [], ws0) fr lo M ((nB.1, iv9, nB.2.2) : zNd).1 (z_drop M.2.2.2.2.1 ((nB.1, iv9, nB.2.2) : zNd).1) (cu0, su0, (z_nst n ((nB.1, iv9, nB.2.2) : zNd)).2.2) with
        | none => rw [hz'] at hB; cases hB
        | some r' =>
          rw [hz'] at hB
          obtain ⟨outs', arrs'⟩ := r'
          dsimp only at hB
          rw [Bool.and_eq_true] at hB
          have hsd' := z_sound (fl := (true, [], ws0)) hAll hCN hbA hsl f
          have key := z_soundB (st := (cu0, su0, (z_nst n ((nB.1, iv9, nB.2.2) : zNd)).2.2)) hAll hCN hbA hsl hsd' hz' hM (fun e he => z_drop_mem e he) hC hfr hlo x6' (Q := Q) (below := below) (e := e) ?_ ?_
          · have e0 : (z_nst n ((nB.1, iv9, nB.2.2) : zNd)).2.2.2.2.1 = [] := hkB
            rw [e0] at key
            exact key
          · intro o ho ρ9 ad9 ws9 H9 locs9 ls9 pc9 kk9 cu9 su9 i9 hbh9 hend9
            exact (z_ctr_no hend9.1 (List.all_eq_true.mp hB.1 o ho)).elim
          · intro a' ha' ρ4 ad4 ws4 H4 locs4 ls4 hbh' hg4
            have h5 := List.all_eq_true.mp hB.2 a' ha'
            rw [Bool.and_eq_true, Bool.and_eq_true, Bool.and_eq_true] at h5
            obtain ⟨g5, g6, g7, g8⟩ := h5
            have h6 := of_decide_eq_true g7
            have hl4 : 9 < a'.2.2.2.1.length := hg4.2.2.2.2.2.2.2.1
            obtain ⟨ρ5, ⟨ρ6, ov6, y1, y2⟩, -, -, y5, y6, y7, -, y9, y10, -, -⟩ := z_arr2 (fl := (false, [], ws0)) (a := (a'.1, 0, 0, a'.2.2.2)) (k := 2) rfl (Nat.le_refl _) g8 (by show 2 ≤ a'.2.2.2.1.length; omega) (z_gm.off hg4)
            dsimp only at y1 y2 y5 y9
            rw [y5, Nat.eq_of_beq_eq_true g5, Nat.eq_of_beq_eq_true g6, ← y9, hkA]
            have hs : zSc sl xs true ρ4 := hg4.2.2.2.2.2.2.1
            have e8 : ρ4 8 = ρ3 8 := hbh'.1 8 (show 8 < iv9.length by omega)
            have e5 : ρ5 sA = ρ4 8 + 6 := by
              rw [y2 sA, hsrc, h6]
              show ρ6 8 + 6 = ρ4 8 + 6
              rw [y1 8 (by omega)]
            have hs2 := (hs.2 rfl).2.1
            exact ih ρ5 ad4 ws4 H4 locs4 ls4 y10 (by omega) (by omega)
end ZLAW2
