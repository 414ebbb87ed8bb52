/-! ===== the loop of a law ===== -/
/-- where the symbols of a step come from, behind seven new ones -/
def z_lsrc (L : Nat) : List zSr := [(2, 1, 4, L, 0), (3, 1, 4, L + 1, 0), (4, 1, 4, L + 2, 0), (5, 1, 4, L + 3, 0), (6, 1, 4, L + 4, 0), (7, 1, 4, L + 5, 0), (8, 1, 0, 3, 0), (9, 1, 4, L + 6, 0)]
abbrev z_q32 : Int × Int := (-2147483648, 2147483647)
/-- the next six ints of the script, and the first one's last seven bits -/
def z_nxt (xs : Nat → Int32) (i : Nat) : List ((Int × Int) × Int) := [(z_q32, (xs i).toInt), (z_q32, (xs (i + 1)).toInt), (z_q32, (xs (i + 2)).toInt), (z_q32, (xs (i + 3)).toInt), (z_q32, (xs (i + 4)).toInt), (z_q32, (xs (i + 5)).toInt), ((0, 127), (xs i &&& 127).toInt)]
/-- seven symbols more, as intervals alone -/
def z_p7 (iv : zI) : zI := ((((((iv.push z_q32).push z_q32).push z_q32).push z_q32).push z_q32).push z_q32).push (0, 127)
theorem z_p7_eq {xs : Nat → Int32} {i : Nat} {iv : zI} : z_pshl iv (z_nxt xs i) = z_p7 iv := rfl
theorem z_q32_in (x : Int32) : z_q32.1 ≤ x.toInt ∧ x.toInt ≤ z_q32.2 := z_r32 x
/-- from the head into a step: the place's number lies so that a step is left; the state, seven symbols more, lies at the step's node -/
def z_in6 (G : List zC) (n : Nat) (rest : List zSr) (a : Nat × zS) (nd : zNd) : Bool := (match z_fd a.2.2.2.2.1 3 with
  | some v => Nat.beq v.1 0 && (Nat.blt v.2.1 a.2.2.2.1.length && (z_pv a.2.2.2.1 4 (z_ff 0 [(1, v)]) && z_pv a.2.2.2.1 4 (z_ff (-6) [(1, (0, 1, 0)), (-1, v)])))
  | none => false) && (decide (nd.2.2.2.2.2.1 = z_lsrc a.2.2.2.1.length ++ rest) && z_nmt G 2 n none (a.1, a.2.1, a.2.2.1, z_p7 a.2.2.2.1, a.2.2.2.2) nd)
section ZLOOP
variable {l : Launch} {T : zTb} {CN : Nat → List zCn} {zN : List String} {Ts : List Jvm.Cond} {D : va_G} {A : Nat → Prop} {cA : Nat → ClassId} {tys : List (ClassId × FieldType)} {b : Nat → Nat} {sl : Nat} {xs : Nat → Int32} {fl : zFl}
variable {p : Program} {e : Env} {R : Room} {s : State} {m : MethodId} {args : Array Value} {below : List Frame} {meth : Method} {c : Code} {Q : State → Prop}
/-- a state of a step is also one of none -/
theorem z_gm.off {cl : List vw_C} {G : List zC} {h0 : Heap} {nL : Nat} {iv : zI} {lv : zL} {sk : List zV} {ov : zO} {ρ : Nat → Int} {ad : Nat → Nat} {ws : va_W} {H : Heap} {locs : List Loc} {ls : Array Slot} {a' : Bool} {K : List (Nat × Nat) × va_W} (h : z_gm D cl A cA G b sl xs (a', K) h0 nL iv lv sk ov ρ ad ws H locs ls) : z_gm D cl A cA G b sl xs (false, K) h0 nL iv lv sk ov ρ ad ws H locs ls := by
  obtain ⟨a1, a2, a3, a4, a5, a6, a7, a8, a9, a10⟩ := h
  exact ⟨a1, a2, a3, a4, a5, a6, ⟨a7.1, fun q => by cases q⟩, a8, a9, a10⟩
theorem z_gm.on {cl : List vw_C} {G : List zC} {h0 : Heap} {nL : Nat} {iv : zI} {lv : zL} {sk : List zV} {ov : zO} {ρ : Nat → Int} {ad : Nat → Nat} {ws : va_W} {H : Heap} {locs : List Loc} {ls : Array Slot} {K : List (Nat × Nat) × va_W} (h : z_gm D cl A cA G b sl xs (false, K) h0 nL iv lv sk ov ρ ad ws H locs ls) (hs : zSc sl xs true ρ) : z_gm D cl A cA G b sl xs (true, K) h0 nL iv lv sk ov ρ ad ws H locs ls := by
  obtain ⟨a1, a2, a3, a4, a5, a6, a7, a8, a9, a10⟩ := h
  exact ⟨a1, a2, a3, a4, a5, a6, hs, a8, a9, a10⟩
theorem z_and127 (x : Int32) : 0 ≤ (x &&& 127).toInt ∧ (x &&& 127).toInt ≤ 127 := z_andI (x := x) (y := 127) (by decide)
theorem z_in6_ok {M : zM} {n : Nat} {rest : List zSr} {a : Nat × zS} {nd : zNd} {ρ : Nat → Int} {ad : Nat → Nat} {ws : va_W} {H : Heap} {locs : List Loc} {ls : Array Slot} {K : List (Nat × Nat) × va_W} (h : z_in6 T.1 n rest a nd = true) (hg : z_gs D T.2.1 A cA T.1 b sl xs (false, K) s.heap M.2.2.1 a.2 ρ ad ws H locs ls) :
    ∃ ρ', a.1 = nd.1 ∧ a.2.1 = 0 ∧ a.2.2.1 = 0 ∧ a.2.2.2.2.2.2.length = n ∧ nd.2.2.2.1.map (zcv ad b ρ') = a.2.2.2.2.2.1.map (zcv ad b ρ) ∧ z_gs D T.2.1 A cA T.1 b sl xs (true, K) s.heap M.2.2.1 (z_nst n nd) ρ' ad ws H locs ls ∧ ∃ v, z_fd a.2.2.2.2.1 3 = some v ∧ ρ' 8 = z_val ρ v := by
  obtain ⟨pc, cu, su, iv, lv, sk, ov⟩ := a
  unfold z_in6 at h
  dsimp only at h hg ⊢
  rw [Bool.and_eq_true, Bool.and_eq_true] at h
  obtain ⟨h1, h2, h3⟩ := h
  have h2 := of_decide_eq_true h2
  split at h1
  next v hv =>
    rw [Bool.and_eq_true, Bool.and_eq_true, Bool.and_eq_true] at h1
    obtain ⟨k1, k2, k3, k4⟩ := h1
    have k2 : v.2.1 < iv.length := Nat.le_of_ble_eq_true k2
    have hi : ziv iv ρ := hg.1.1
    have k3 := z_pv_ok hi 4 _ k3
    have k4 := z_pv_ok hi 4 _ k4
    rw [z_ff_ok hi.1] at k3 k4
    change 0 ≤ 0 + (1 * z_val ρ v + 0) at k3
    change 0 ≤ -6 + (1 * (ρ 1 + 0) + ((-1) * z_val ρ v + 0)) at k4
    have e1 : ρ 1 = (sl : Int) := hg.2.2.2.2.2.2.1.1
    obtain ⟨ρ2, g2, x1, x2⟩ := z_gm.pshl (z_nxt xs (z_val ρ v).toNat) iv ρ hg (fun q hq => by
      unfold z_nxt at hq
      rcases List.mem_cons.mp hq with rfl | hq
      · exact z_r32 _
      rcases List.mem_cons.mp hq with rfl | hq
      · exact z_r32 _
      rcases List.mem_cons.mp hq with rfl | hq
      · exact z_r32 _
      rcases List.mem_cons.mp hq with rfl | hq
      · exact z_r32 _
      rcases List.mem_cons.mp hq with rfl | hq
      · exact z_r32 _
      rcases List.mem_cons.mp hq with rfl | hq
      · exact z_r32 _
      rcases List.mem_cons.mp hq with rfl | hq
      · exact z_and127 _
      cases hq)
    rw [z_p7_eq] at g2
    have el : (z_p7 iv).length = iv.length + 7 := rfl
    obtain ⟨ρ', ⟨ρ3, ov1, y1, y2⟩, y3, y4, y5, y6, y7, y8, y9, y10, -, -⟩ := z_arr2 (fl := (false, K)) (a := (pc, cu, su, z_p7 iv, lv, sk, ov)) (k := 2) rfl (Nat.le_refl _) h3 (by show 2 ≤ (z_p7 iv).length; rw [el]; omega) g2
    dsimp only at y1 y2 y5 y6 y7 y8 y9 y10
    rw [h2] at y2
    have z1 : ρ' 1 = (sl : Int) := by
      have := y3 1 (by omega)
      rw [this, x1 1 (by have h9 : 9 < iv.length := hg.2.2.2.2.2.2.2.1; omega)]
      exact e1
    have z8 : ρ' 8 = z_val ρ v := by
      rw [y2 8]
      show z_val ρ3 ((z_fd lv 3).getD (0, 0, 0)) = _
      rw [hv]
      show ρ3 v.2.1 + v.2.2 = ρ v.2.1 + v.2.2
      rw [y1 _ (by rw [el]; omega), x1 _ k2]
    have zj : ∀ j q, (z_nxt xs (z_val ρ v).toNat)[j]? = some q → j < 7 → ρ3 (iv.length + j) + 0 = q.2 := fun j q hq hj => by
      rw [y1 _ (by rw [el]; omega), x2 j q hq]
      omega
    have hsc : zSc sl xs true ρ' := by
      refine ⟨z1, fun _ => ⟨by rw [z8]; omega, by rw [z8]; omega, fun j hj => ?_, ?_⟩⟩
      · rw [z8]
        match j, hj with
        | 0, _ => rw [y2 2]; exact zj 0 _ rfl (by omega)
        | 1, _ => rw [y2 3]; exact zj 1 _ rfl (by omega)
        | 2, _ => rw [y2 4]; exact zj 2 _ rfl (by omega)
        | 3, _ => rw [y2 5]; exact zj 3 _ rfl (by omega)
        | 4, _ => rw [y2 6]; exact zj 4 _ rfl (by omega)
        | 5, _ => rw [y2 7]; exact zj 5 _ rfl (by omega)
        | j + 6, hj => omega
      · rw [z8, y2 9]
        exact zj 6 _ rfl (by omega)
    refine ⟨ρ', y5, y6, y7, y8, ?_, z_gm.on y10 hsc, v, hv, z8⟩
    rw [y9]
    exact z_skm hg.1.2.2.1 x1 (fun _ _ => rfl)
  next => cases h1
end ZLOOP
