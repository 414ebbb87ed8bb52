def zIN : List (Nat × Nat) := [(1, 91), (2, 13), (2, 190), (1, 85), (2, 56), (2, 138), (1, 31), (1, 48), (1, 54), (2, 165), (2, 95), (1, 23), (6, 169)]
def zckn : Bool := (List.range zcl.length).all (fun c => match zcl[c]?, zIN[c]? with
  | some q, some i => zck i (.instantiable q.1 q.2.2)
  | _, _ => false)
theorem zckn_ok : zckn = true := by decide +kernel
theorem z_tbl {w : Jvm.Cond} (h : w ∈ zTs) : w ∈ lw_tbl := (List.mem_filter.mp h).1
/-- an array's class, by its words -/
theorem z_arrp {args : Array Value} {s : State} {ty : FieldType} (h : (Jvm.Cond.arrayClass ty).before args s = true) (hty : ty = .int ∨ ty = .long ∨ ty = .byte ∨ ty = .boolean) : ∃ cA : ClassId, ArrOfT s cA ty ∧ va_RA s cA ty := by
  obtain ⟨c, k, comp, h1, h2, h3⟩ := Cond.arrayClass_spec h
  refine ⟨c, fun N z => ⟨(fun k h => by cases h), k, h2, comp, h3⟩, ?_⟩
  rcases hty with rfl | rfl | rfl | rfl
  · exact h1
  · exact h1
  · exact h1
  · exact h1
theorem z_arro {args : Array Value} {s : State} {C : String} (h : (Jvm.Cond.arrayOver (.object C)).before args s = true) : ∃ cA : ClassId, ArrOfT s cA (.object C) ∧ va_RA s cA (.object C) := by
  obtain ⟨comp, c, k, h1, -, h2, h3, h4⟩ := Cond.arrayOver_spec h
  exact ⟨c, fun N z => ⟨(fun k h => by cases h), k, h2, comp, h3⟩, k, comp, h2, h3, h1, h4⟩
theorem z_arra {args : Array Value} {s : State} {t : FieldType} (h : (Jvm.Cond.arrayOver (.array t)).before args s = true) : ∃ cA : ClassId, ArrOfT s cA (.array t) ∧ va_RA s cA (.array t) := by
  obtain ⟨comp, c, k, h1, -, h2, h3, h4⟩ := Jvm.Stand.arrayOver_specB h
  exact ⟨c, fun N z => ⟨(fun k h => by cases h), k, h2, comp, h3⟩, h4⟩
def zcA (a : List ClassId) : Nat → ClassId := fun k => a.getD (k - 1) 0
theorem z_tc : zTcOk zcl ztyl ztc := by
  intro t ci z h _
  have hm := z_as_mem h
  simp only [ztc, List.mem_cons, List.not_mem_nil, or_false] at hm
  rcases hm with e | e
  · cases e; exact ⟨_, rfl, rfl⟩
  · cases e; exact ⟨_, rfl, rfl⟩
theorem z_ty8 (a : Nat → ClassId) : zTyOk a ztyl [(a 1, .int), (a 2, .long), (a 3, .byte), (a 4, .boolean), (a 5, .object "WindSigned$Walk"), (a 6, .object "WindSigned$Plain"), (a 7, .array .long), (a 8, .array .int)] := by
  refine ⟨rfl, rfl, rfl, rfl, fun k t hk ht => ?_, fun k t ht => ?_⟩
  · match k, hk, ht with
    | 4, _, ht => cases ht; rfl
    | 5, _, ht => cases ht; rfl
    | 6, _, ht => cases ht; rfl
    | 7, _, ht => cases ht; rfl
    | k + 8, _, ht => cases ht
  · match k, ht with
    | 0, ht => cases ht; rfl
    | 1, ht => cases ht; rfl
    | 2, ht => cases ht; rfl
    | 3, ht => cases ht; rfl
    | 4, ht => cases ht; rfl
    | 5, ht => cases ht; rfl
    | 6, ht => cases ht; rfl
    | 7, ht => cases ht; rfl
    | k + 8, ht => cases ht
theorem z_allok (a : Nat → ClassId) : zAllOk zTT zN zTs a [(a 1, .int), (a 2, .long), (a 3, .byte), (a 4, .boolean), (a 5, .object "WindSigned$Walk"), (a 6, .object "WindSigned$Plain"), (a 7, .array .long), (a 8, .array .int)] :=
  ⟨⟨zok_cls, zok_g, zFL_ok zck_FL, z_ty8 a, zNW_ok zck_NW, zAN_ok zck_AN, zMN_ok zck_MN, zKI_ok zck_KI, zKL_ok zck_KL, z_tc, zok_ar⟩, zok_mt, zCT_ok zck_CT, zTs_good⟩
theorem z_cls {args : Array Value} {s : State} (hts : ∀ w ∈ lw_tbl, w.before args s = true) : ∃ D : va_G, ∀ (c : Nat) (q : vw_C), zcl[c]? = some q → u_Kn s q.1 q.2.1 q.2.2 (D.1 c) (D.2 c) := by
  have h : ∀ c : Nat, ∃ d : ClassId × (Nat → Nat), ∀ q : vw_C, zcl[c]? = some q → u_Kn s q.1 q.2.1 q.2.2 d.1 d.2 := by
    intro c
    cases hc : zcl[c]? with
    | none => exact ⟨(0, fun _ => 0), fun q hq => by cases hq⟩
    | some q =>
      obtain ⟨C, T, N⟩ := q
      have hlt : c < zcl.length := (List.getElem?_eq_some_iff.mp hc).1
      have h1 := List.all_eq_true.mp zckn_ok c (List.mem_range.mpr hlt)
      rw [hc] at h1
      split at h1
      next q' i hq' hi =>
        cases hq'
        obtain ⟨cC, iS, hk⟩ := u_known (C := C) (T := T) (N := N) (n := N) hts (fun w hw => z_tbl ((zok_cls c C T N hc).2.1 w hw)) (hts _ (z_tbl (zck_ok h1)))
        exact ⟨(cC, iS), fun q hq => by cases hq; exact hk⟩
      next => cases h1
  obtain ⟨d, hd⟩ := Classical.axiomOfChoice h
  exact ⟨(fun c => (d c).1, fun c => (d c).2), fun c q hq => hd c q hq⟩
def zrho (L : Nat) (xs : Nat → Int32) : Nat → Int := fun i => match i with
  | 1 => (L : Int)
  | 2 => (xs 0).toInt
  | 3 => (xs 1).toInt
  | 4 => (xs 2).toInt
  | 5 => (xs 3).toInt
  | 6 => (xs 4).toInt
  | 7 => (xs 5).toInt
  | 9 => if L = 6 then (xs 0 &&& 127).toInt else 0
  | _ => 0
theorem z_a127 (v : Int32) : 0 ≤ (v &&& 127).toInt ∧ (v &&& 127).toInt ≤ 127 := by
  have h : ∀ w : BitVec 32, 0 ≤ (w &&& 127#32).toInt ∧ (w &&& 127#32).toInt ≤ 127 := fun w => by
    have h1 : (w &&& 127#32).toNat ≤ 127 := by rw [BitVec.toNat_and]; exact Nat.and_le_right
    rw [BitVec.toInt_eq_toNat_of_lt (by omega)]
    omega
  exact h v.toBitVec
theorem z_iv5 {L : Nat} {xs : Nat → Int32} (h : L ≤ 5) : ziv ziv5 (zrho L xs) := by
  refine ⟨rfl, by decide, fun i q hq => ?_⟩
  match i, hq with
  | 0, hq => cases hq; exact ⟨Int.le_refl _, Int.le_refl _⟩
  | 1, hq => cases hq; exact ⟨Int.natCast_nonneg L, by show (L : Int) ≤ 5; omega⟩
  | 2, hq => cases hq; exact z_r32 _
  | 3, hq => cases hq; exact z_r32 _
  | 4, hq => cases hq; exact z_r32 _
  | 5, hq => cases hq; exact z_r32 _
  | 6, hq => cases hq; exact z_r32 _
  | 7, hq => cases hq; exact z_r32 _
  | 8, hq => cases hq; exact ⟨Int.le_refl _, Int.le_refl _⟩
  | 9, hq => cases hq; show (0 : Int) ≤ (if L = 6 then (xs 0 &&& 127).toInt else 0) ∧ (if L = 6 then (xs 0 &&& 127).toInt else 0) ≤ (0 : Int); rw [if_neg (by omega)]; exact ⟨Int.le_refl _, Int.le_refl _⟩
  | i + 10, hq => cases hq
theorem z_iv6 {xs : Nat → Int32} {lo hi : Int} (h : lo ≤ (xs 0 &&& 127).toInt ∧ (xs 0 &&& 127).toInt ≤ hi) : ziv (zivr lo hi) (zrho 6 xs) := by
  refine ⟨rfl, Nat.succ_pos 9, fun i q hq => ?_⟩
  match i, hq with
  | 0, hq => cases hq; exact ⟨Int.le_refl _, Int.le_refl _⟩
  | 1, hq => cases hq; exact ⟨Int.le_refl _, Int.le_refl _⟩
  | 2, hq => cases hq; exact z_r32 _
  | 3, hq => cases hq; exact z_r32 _
  | 4, hq => cases hq; exact z_r32 _
  | 5, hq => cases hq; exact z_r32 _
  | 6, hq => cases hq; exact z_r32 _
  | 7, hq => cases hq; exact z_r32 _
  | 8, hq => cases hq; exact ⟨Int.le_refl _, Int.le_refl _⟩
  | 9, hq => cases hq; exact h
  | i + 10, hq => cases hq
theorem z_sc6 {xs : Nat → Int32} {fl : Bool} : zSc 6 xs fl (zrho 6 xs) := by
  refine ⟨rfl, fun _ => ⟨Int.le_refl _, Int.le_refl _, fun j hj => ?_, rfl⟩⟩
  match j, hj with
  | 0, _ => rfl
  | 1, _ => rfl
  | 2, _ => rfl
  | 3, _ => rfl
  | 4, _ => rfl
  | 5, _ => rfl
  | j + 6, hj => omega
set_option maxHeartbeats 1000000 in
theorem z_start {p : Program} {e : Env} {s : State} {m : MethodId} {below : List Frame} {meth : Method} {c : Code} (l : Launch) {b L : Nat} {xs : Nat → Int32} (hL : L ≤ 6) (C0 : lw_At p s m meth c b L xs) {fl : Bool} {f : Nat} {iv : zI} {ρ : Nat → Int} (hrun : zOnes (zx zTT fl f 15 562 zmL 0 zpL (0, 0, iv, [(0, (4, 0, 0))], [], z_o0)) = true) (hiv : ziv iv ρ) (hsc : zSc L xs fl ρ) (hlen : 9 < iv.length) : W p l e room_1 s m #[Value.ref b] below meth c s.heap [] 0 0 (lw_Z below #[Value.ref b] s) (entryFrame m ([Value.ref b] : List Value).toArray 4) := by
  obtain ⟨hx, hb, hr, hml, hown, hts, hX, hbl, hlocks, -⟩ := C0
  cases hz : zx zTT fl f 15 562 zmL 0 zpL (0, 0, iv, [(0, (4, 0, 0))], [], z_o0) with
  | none => rw [hz] at hrun; cases hrun
  | some outs =>
    rw [hz] at hrun
    have hones : ∀ o ∈ outs, o.2.1 = some (0, 0, 1) := fun o ho => of_decide_eq_true (List.all_eq_true.mp hrun o ho)
    obtain ⟨D, hD⟩ := z_cls hts
    obtain ⟨a1, q1⟩ := z_arrp (hts _ (z_tbl (zok_ar .int (by decide)))) (Or.inl rfl)
    obtain ⟨a2, q2⟩ := z_arrp (hts _ (z_tbl (zok_ar .long (by decide)))) (Or.inr (Or.inl rfl))
    obtain ⟨a3, q3⟩ := z_arrp (hts _ (z_tbl (zok_ar .byte (by decide)))) (Or.inr (Or.inr (Or.inl rfl)))
    obtain ⟨a4, q4⟩ := z_arrp (hts _ (z_tbl (zok_ar .boolean (by decide)))) (Or.inr (Or.inr (Or.inr rfl)))
    have w5 : (Jvm.Cond.arrayOver (.object "WindSigned$Walk")).before #[Value.ref b] s = true := hts _ (zwl_in (k := 2) (List.mem_of_getElem? (i := 94) (by decide +kernel)))
    have w6 : (Jvm.Cond.arrayOver (.object "WindSigned$Plain")).before #[Value.ref b] s = true := hts _ (zwl_in (k := 2) (List.mem_of_getElem? (i := 221) (by decide +kernel)))
    have w7 : (Jvm.Cond.arrayOver (.array .long)).before #[Value.ref b] s = true := hts _ (zwl_in (k := 2) (List.mem_of_getElem? (i := 144) (by decide +kernel)))
    have w8 : (Jvm.Cond.arrayOver (.array .int)).before #[Value.ref b] s = true := hts _ (zwl_in (k := 2) (List.mem_of_getElem? (i := 196) (by decide +kernel)))
    obtain ⟨a5, q5⟩ := z_arro w5
    obtain ⟨a6, q6⟩ := z_arro w6
    obtain ⟨a7, q7⟩ := z_arra w7
    obtain ⟨a8, q8⟩ := z_arra w8
    have hK : va_K D zcl [(zcA [a1, a2, a3, a4, a5, a6, a7, a8] 1, .int), (zcA [a1, a2, a3, a4, a5, a6, a7, a8] 2, .long), (zcA [a1, a2, a3, a4, a5, a6, a7, a8] 3, .byte), (zcA [a1, a2, a3, a4, a5, a6, a7, a8] 4, .boolean), (zcA [a1, a2, a3, a4, a5, a6, a7, a8] 5, .object "WindSigned$Walk"), (zcA [a1, a2, a3, a4, a5, a6, a7, a8] 6, .object "WindSigned$Plain"), (zcA [a1, a2, a3, a4, a5, a6, a7, a8] 7, .array .long), (zcA [a1, a2, a3, a4, a5, a6, a7, a8] 8, .array .int)] s := by
      refine ⟨hD, fun k q hk => ?_⟩
      match k, hk with
      | 0, hk => cases hk; exact q1
      | 1, hk => cases hk; exact q2
      | 2, hk => cases hk; exact q3
      | 3, hk => cases hk; exact q4
      | 4, hk => cases hk; exact q5
      | 5, hk => cases hk; exact q6
      | 6, hk => cases hk; exact q7
      | 7, hk => cases hk; exact q8
      | k + 8, hk => cases hk
    have hOv : zOv ztyl s := by
      intro k t hk ht
      match k, hk, ht with
      | 4, _, ht => cases ht; exact w5
      | 5, _, ht => cases ht; exact w6
      | 6, _, ht => cases ht; exact w7
      | 7, _, ht => cases ht; exact w8
      | k + 8, _, ht => cases ht
    have hbA : ¬ s.heap.size ≤ b := Nat.not_le.mpr hbl
    have hl := lv_entry ([((4, 0, 0) : zV)].map (zcv (fun _ => 0) b ρ)) (n := 4) (by rw [z_wd2_sl]; decide)
    rw [z_arg_map] at hl
    rw [lg_entry_eq]
    have e1 : ([((4, 0, 0) : zV)].map (zcv (fun _ => 0) b ρ)) = [Value.ref b] := rfl
    rw [e1] at hl
    generalize (lg_sl ([Value.ref b] : List Value) ++ List.replicate (4 - (lg_sl ([Value.ref b] : List Value)).length) Slot.unset).toArray = ls at hl ⊢
    refine z_sound (l := l) (D := D) (A := fun q => s.heap.size ≤ q) (b := b) (sl := L) (xs := xs) (fl := fl) (z_allok (zcA [a1, a2, a3, a4, a5, a6, a7, a8])) hbA (by omega) f 15 562 zmL 0 zpL (0, 0, iv, [(0, (4, 0, 0))], [], z_o0) outs hz zok_law (fun _ h => h) p e room_1 s m #[Value.ref b] below meth c (lw_Z below #[Value.ref b] s) ⟨hx, hb, hml, hr, hlocks, hown, fun w hw => hts w (z_tbl hw), hK, (fun h => by cases h), ⟨hX, hOv⟩, hbl, hbA, fun _ h => h, by omega, Nat.le_refl _, Nat.le_refl _⟩ (Nat.le_refl _) (Nat.le_refl _) ρ (fun _ => 0) [] s.heap [] ls ⟨⟨hiv, fun q hq => ?_, (fun v hv => absurd hv List.not_mem_nil), (fun _ _ _ hv => (z_o0_lk hv).elim)⟩, hl, ⟨rfl, (fun k q hk => by cases hk)⟩, (fun k q hk => by cases hk), ⟨(fun i j p q hi => by cases hi), (fun k q hk => by cases hk)⟩, va_S.rf, hsc, hlen⟩ ?_
    · rw [List.mem_singleton] at hq
      subst hq
      exact trivial
    · intro o ho ρ' ad' ws' H' locs' ls' pc' kk cu su i hbh hend hS hrt hrv hd hcu hsu
      have eo := hones o ho
      rw [eo]
      have ev : zcv ad' b ρ' (0, 0, 1) = .int 1 := by
        show Value.int (Int32.ofInt (ρ' 0 + 1)) = .int 1
        rw [hend.1.1]; rfl
      show W p l e room_1 s m #[Value.ref b] below meth c H' locs' cu su (lw_Z below #[Value.ref b] s) (F0 m pc' ls' [zcv ad' b ρ' (0, 0, 1)])
      rw [ev]
      have hk1 : i = .ireturn := by
        rcases hrv with ⟨r0, r1, r2⟩ | ⟨r0, v, r1, r2, r3⟩ | ⟨r0, v, r1, r2, r3⟩
        · rw [eo] at r2; cases r2
        · rcases hrt with ⟨q, -⟩ | ⟨-, q⟩ | ⟨q, -⟩
          · omega
          · exact q
          · omega
        · rw [eo] at r1; cases r1; cases r2
      subst hk1
      refine va_forget (fun q hq => hS.2.2 q hq) ?_
      exact W.widen hcu hsu (lw_ret hx hb hr hlocks hd)
