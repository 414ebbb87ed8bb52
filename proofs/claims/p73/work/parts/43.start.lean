def zIN : List (Nat × Nat) := [(1, 91), (2, 13), (2, 190), (1, 85), (2, 56), (2, 138), (1, 31), (1, 48), (1, 54), (2, 165), (2, 95), (1, 23), (6, 169)]
def zckn : Bool := (List.range zcl.length).all (fun c => match zcl[c]?, zIN[c]? with
  | some q, some i => zck i (.instantiable q.1 q.2.2)
  | _, _ => false)
theorem zckn_ok : zckn = true := by decide +kernel
theorem z_tbl {w : Jvm.Cond} (h : w ∈ zTs) : w ∈ lw_tbl := (List.mem_filter.mp h).1
/-- an array's class, by its words -/
theorem z_arrp {args : Array Value} {s : State} {ty : FieldType} (h : (Jvm.Cond.arrayClass ty).before args s = true) (hty : ty = .int ∨ ty = .long ∨ ty = .byte ∨ ty = .boolean) : ∃ cA : ClassId, ArrOfT s cA ty ∧ va_RA s cA ty := by
  obtain ⟨c, k, comp, h1, h2, h3⟩ := Cond.arrayClass_spec h
  refine ⟨c, fun N z => ⟨(fun k h => by cases h), k, h2, comp, h3⟩, ?_⟩
  rcases hty with rfl | rfl | rfl | rfl
  · exact h1
  · exact h1
  · exact h1
  · exact h1
theorem z_arro {args : Array Value} {s : State} {C : String} (h : (Jvm.Cond.arrayOver (.object C)).before args s = true) : ∃ cA : ClassId, ArrOfT s cA (.object C) ∧ va_RA s cA (.object C) := by
  obtain ⟨comp, c, k, h1, -, h2, h3, h4⟩ := Cond.arrayOver_spec h
  exact ⟨c, fun N z => ⟨(fun k h => by cases h), k, h2, comp, h3⟩, k, comp, h2, h3, h1, h4⟩
theorem z_arra {args : Array Value} {s : State} {t : FieldType} (h : (Jvm.Cond.arrayOver (.array t)).before args s = true) : ∃ cA : ClassId, ArrOfT s cA (.array t) ∧ va_RA s cA (.array t) := by
  obtain ⟨comp, c, k, h1, -, h2, h3, h4⟩ := Jvm.Stand.arrayOver_specB h
  exact ⟨c, fun N z => ⟨(fun k h => by cases h), k, h2, comp, h3⟩, h4⟩
def zcA (a : List ClassId) : Nat → ClassId := fun k => a.getD (k - 1) 0
theorem z_ty8 (a : Nat → ClassId) : zTyOk a ztyl [(a 1, .int), (a 2, .long), (a 3, .byte), (a 4, .boolean), (a 5, .object "WindSigned$Walk"), (a 6, .object "WindSigned$Plain"), (a 7, .array .long), (a 8, .array .int)] := by
  refine ⟨rfl, rfl, rfl, rfl, fun k t hk ht => ?_, fun k t ht => ?_⟩
  · match k, hk, ht with
    | 4, _, ht => cases ht; rfl
    | 5, _, ht => cases ht; rfl
    | 6, _, ht => cases ht; rfl
    | 7, _, ht => cases ht; rfl
    | k + 8, _, ht => cases ht
  · match k, ht with
    | 0, ht => cases ht; rfl
    | 1, ht => cases ht; rfl
    | 2, ht => cases ht; rfl
    | 3, ht => cases ht; rfl
    | 4, ht => cases ht; rfl
    | 5, ht => cases ht; rfl
    | 6, ht => cases ht; rfl
    | 7, ht => cases ht; rfl
    | k + 8, ht => cases ht
theorem z_cls {args : Array Value} {s : State} (hts : ∀ w ∈ lw_tbl, w.before args s = true) : ∃ D : va_G, ∀ (c : Nat) (q : vw_C), zcl[c]? = some q → u_Kn s q.1 q.2.1 q.2.2 (D.1 c) (D.2 c) := by
  have h : ∀ c : Nat, ∃ d : ClassId × (Nat → Nat), ∀ q : vw_C, zcl[c]? = some q → u_Kn s q.1 q.2.1 q.2.2 d.1 d.2 := by
    intro c
    cases hc : zcl[c]? with
    | none => exact ⟨(0, fun _ => 0), fun q hq => by cases hq⟩
    | some q =>
      obtain ⟨C, T, N⟩ := q
      have hlt : c < zcl.length := (List.getElem?_eq_some_iff.mp hc).1
      have h1 := List.all_eq_true.mp zckn_ok c (List.mem_range.mpr hlt)
      rw [hc] at h1
      split at h1
      next q' i hq' hi =>
        cases hq'
        obtain ⟨cC, iS, hk⟩ := u_known (C := C) (T := T) (N := N) (n := N) hts (fun w hw => z_tbl ((zok_cls c C T N hc).2.1 w hw)) (hts _ (z_tbl (zck_ok h1)))
        exact ⟨(cC, iS), fun q hq => by cases hq; exact hk⟩
      next => cases h1
  obtain ⟨d, hd⟩ := Classical.axiomOfChoice h
  exact ⟨(fun c => (d c).1, fun c => (d c).2), fun c q hq => hd c q hq⟩
def zrho (L : Nat) (xs : Nat → Int32) : Nat → Int := fun i => match i with
  | 1 => (L : Int)
  | _ => 0
theorem z_ivS {L : Nat} {xs : Nat → Int32} (h : L ≤ 3072) : ziv zivS (zrho L xs) := by
  refine ⟨rfl, by decide, fun i q hq => ?_, ⟨(fun f hf => absurd hf List.not_mem_nil), (fun f hf => absurd hf List.not_mem_nil), (fun f hf => absurd hf List.not_mem_nil)⟩⟩
  match i, hq with
  | 0, hq => cases hq; exact ⟨Int.le_refl _, Int.le_refl _⟩
  | 1, hq => cases hq; exact ⟨Int.natCast_nonneg L, by show (L : Int) ≤ 3072; omega⟩
  | 2, hq => cases hq; exact ⟨(by decide : (-2147483648 : Int) ≤ 0), (by decide : (0 : Int) ≤ 2147483647)⟩
  | 3, hq => cases hq; exact ⟨(by decide : (-2147483648 : Int) ≤ 0), (by decide : (0 : Int) ≤ 2147483647)⟩
  | 4, hq => cases hq; exact ⟨(by decide : (-2147483648 : Int) ≤ 0), (by decide : (0 : Int) ≤ 2147483647)⟩
  | 5, hq => cases hq; exact ⟨(by decide : (-2147483648 : Int) ≤ 0), (by decide : (0 : Int) ≤ 2147483647)⟩
  | 6, hq => cases hq; exact ⟨(by decide : (-2147483648 : Int) ≤ 0), (by decide : (0 : Int) ≤ 2147483647)⟩
  | 7, hq => cases hq; exact ⟨(by decide : (-2147483648 : Int) ≤ 0), (by decide : (0 : Int) ≤ 2147483647)⟩
  | 8, hq => cases hq; exact ⟨Int.le_refl _, Int.le_refl _⟩
  | 9, hq => cases hq; exact ⟨Int.le_refl _, Int.le_refl _⟩
  | i + 10, hq => cases hq
/-- the law's end -/
theorem z_end1 {p : Program} {l : Launch} {e : Env} {s : State} {m : MethodId} {below : List Frame} {meth : Method} {c : Code} {b : Nat} (hx : p.tables.exec = Jvm.exec) (hb : c.code = code) (hr : meth.sig.returnType = ret) (hlocks : meth.locks = false) {D : va_G} {A : Nat → Prop} {cA : Nat → ClassId} {B : Nat → Nat} {L : Nat} {xs : Nat → Int32} {fl : zFl} {k' n' : Nat} {ρ' : Nat → Int} {ad' : Nat → Nat} {o : zOu} (eo : o.2.1 = some (0, 0, 1)) (hAs : ∀ q, A q → s.heap.size ≤ q) : zDue p l e room_1 s m #[Value.ref b] below meth c (lw_Z below #[Value.ref b] s) D A cA B L xs fl zT1 zmL k' n' ρ' ad' [o] := by
  intro o1 ho1 ρ1 ad1 ws1 H1 locs1 ls1 pc1 kk cu su i hbh hend hS hrt hrv hd hcu hsu
  rw [List.mem_singleton] at ho1
  subst ho1
  rw [eo]
  have ev : zcv ad1 B ρ1 (0, 0, 1) = .int 1 := by
    show Value.int (Int32.ofInt (ρ1 0 + 1)) = .int 1
    rw [hend.1.1]; rfl
  show W p l e room_1 s m #[Value.ref b] below meth c H1 locs1 cu su (lw_Z below #[Value.ref b] s) (F0 m pc1 ls1 [zcv ad1 B ρ1 (0, 0, 1)])
  rw [ev]
  have hk1 : i = .ireturn := by
    rcases hrv with ⟨r0, r1, r2⟩ | ⟨r0, v, r1, r2, r3⟩ | ⟨r0, v, r1, r2, r3⟩
    · rw [eo] at r2; cases r2
    · rcases hrt with ⟨q, -⟩ | ⟨-, q⟩ | ⟨q, -⟩
      · omega
      · exact q
      · omega
    · rw [eo] at r1; cases r1; cases r2
  subst hk1
  refine va_forget (fun q hq => hAs _ (hS.2.2 q hq)) ?_
  exact W.widen hcu hsu (lw_ret hx hb hr hlocks hd)
set_option maxHeartbeats 1000000 in
theorem whole_start {p : Program} {e : Env} {s : State} {m : MethodId} {below : List Frame} {meth : Method} {c : Code} (l : Launch) (hflags : l.flags = flags0) {b L : Nat} {xs : Nat → Int32} (hL : L ≤ 3072) (C0 : lw_At p s m meth c b L xs) : W p l e room_1 s m #[Value.ref b] below meth c s.heap [] 0 0 (lw_Z below #[Value.ref b] s) (entryFrame m ([Value.ref b] : List Value).toArray 4) := by
  obtain ⟨hx, hb, hr, hml, hown, hts, hX, hbl, hlocks, hgv⟩ := C0
  have hA0 : ∀ a : Nat, a < s.heap.size → ¬ s.heap.size ≤ a := fun a h => Nat.not_le.mpr h
  obtain ⟨B, hB0, hStr⟩ := z_texts (A := fun q => s.heap.size ≤ q) b (flat_of_before _ hgv) hts hA0
  subst hB0
  obtain ⟨D, hD⟩ := z_cls hts
  obtain ⟨a1, q1⟩ := z_arrp (hts _ (z_tbl (zok_ar .int (by decide)))) (Or.inl rfl)
  obtain ⟨a2, q2⟩ := z_arrp (hts _ (z_tbl (zok_ar .long (by decide)))) (Or.inr (Or.inl rfl))
  obtain ⟨a3, q3⟩ := z_arrp (hts _ (z_tbl (zok_ar .byte (by decide)))) (Or.inr (Or.inr (Or.inl rfl)))
  obtain ⟨a4, q4⟩ := z_arrp (hts _ (z_tbl (zok_ar .boolean (by decide)))) (Or.inr (Or.inr (Or.inr rfl)))
  have w5 : (Jvm.Cond.arrayOver (.object "WindSigned$Walk")).before #[Value.ref (B 0)] s = true := hts _ (zwl_in (k := 2) (List.mem_of_getElem? (i := 94) (by decide +kernel)))
  have w6 : (Jvm.Cond.arrayOver (.object "WindSigned$Plain")).before #[Value.ref (B 0)] s = true := hts _ (zwl_in (k := 2) (List.mem_of_getElem? (i := 221) (by decide +kernel)))
  have w7 : (Jvm.Cond.arrayOver (.array .long)).before #[Value.ref (B 0)] s = true := hts _ (zwl_in (k := 2) (List.mem_of_getElem? (i := 144) (by decide +kernel)))
  have w8 : (Jvm.Cond.arrayOver (.array .int)).before #[Value.ref (B 0)] s = true := hts _ (zwl_in (k := 2) (List.mem_of_getElem? (i := 196) (by decide +kernel)))
  obtain ⟨a5, q5⟩ := z_arro w5
  obtain ⟨a6, q6⟩ := z_arro w6
  obtain ⟨a7, q7⟩ := z_arra w7
  obtain ⟨a8, q8⟩ := z_arra w8
  have hK : va_K D zcl [(zcA [a1, a2, a3, a4, a5, a6, a7, a8] 1, .int), (zcA [a1, a2, a3, a4, a5, a6, a7, a8] 2, .long), (zcA [a1, a2, a3, a4, a5, a6, a7, a8] 3, .byte), (zcA [a1, a2, a3, a4, a5, a6, a7, a8] 4, .boolean), (zcA [a1, a2, a3, a4, a5, a6, a7, a8] 5, .object "WindSigned$Walk"), (zcA [a1, a2, a3, a4, a5, a6, a7, a8] 6, .object "WindSigned$Plain"), (zcA [a1, a2, a3, a4, a5, a6, a7, a8] 7, .array .long), (zcA [a1, a2, a3, a4, a5, a6, a7, a8] 8, .array .int)] s := by
    refine ⟨hD, fun k q hk => ?_⟩
    match k, hk with
    | 0, hk => cases hk; exact q1
    | 1, hk => cases hk; exact q2
    | 2, hk => cases hk; exact q3
    | 3, hk => cases hk; exact q4
    | 4, hk => cases hk; exact q5
    | 5, hk => cases hk; exact q6
    | 6, hk => cases hk; exact q7
    | 7, hk => cases hk; exact q8
    | k + 8, hk => cases hk
  have hOv : zOv ztyl s := by
    intro k t hk ht
    match k, hk, ht with
    | 4, _, ht => cases ht; exact w5
    | 5, _, ht => cases ht; exact w6
    | 6, _, ht => cases ht; exact w7
    | 7, _, ht => cases ht; exact w8
    | k + 8, _, ht => cases ht
  have hbA : ¬ s.heap.size ≤ B 0 := Nat.not_le.mpr hbl
  have hl := lv_entry ([((4, 0, 0) : zV)].map (zcv (fun _ => 0) B (zrho L xs))) (n := 4) (by rw [z_wd2_sl]; decide)
  rw [z_arg_map] at hl
  rw [lg_entry_eq]
  have e1 : ([((4, 0, 0) : zV)].map (zcv (fun _ => 0) B (zrho L xs))) = [Value.ref (B 0)] := rfl
  rw [e1] at hl
  generalize (lg_sl ([Value.ref (B 0)] : List Value) ++ List.replicate (4 - (lg_sl ([Value.ref (B 0)] : List Value)).length) Slot.unset).toArray = ls at hl ⊢
  have hsl : L ≤ 2147483647 := by omega
  have hC : zCx p room_1 s m #[Value.ref (B 0)] meth c zT1 zN zTs D (fun q => s.heap.size ≤ q) [(zcA [a1, a2, a3, a4, a5, a6, a7, a8] 1, .int), (zcA [a1, a2, a3, a4, a5, a6, a7, a8] 2, .long), (zcA [a1, a2, a3, a4, a5, a6, a7, a8] 3, .byte), (zcA [a1, a2, a3, a4, a5, a6, a7, a8] 4, .boolean), (zcA [a1, a2, a3, a4, a5, a6, a7, a8] 5, .object "WindSigned$Walk"), (zcA [a1, a2, a3, a4, a5, a6, a7, a8] 6, .object "WindSigned$Plain"), (zcA [a1, a2, a3, a4, a5, a6, a7, a8] 7, .array .long), (zcA [a1, a2, a3, a4, a5, a6, a7, a8] 8, .array .int)] B L xs s.heap zmL :=
    ⟨hx, hb, hml, hr, hlocks, hown, fun w hw => hts w (z_tbl hw), hK, (fun h => by cases h), ⟨hX, hOv, hStr⟩, hbl, hbA, fun _ h => h, hsl, Nat.le_refl _, Nat.le_refl _⟩
  have hAll1 := zok_all (z_ty8 (zcA [a1, a2, a3, a4, a5, a6, a7, a8]))
  have hAll0 := zok_all0 (z_ty8 (zcA [a1, a2, a3, a4, a5, a6, a7, a8]))
  have hrun := zsta
  unfold z_sta at hrun
  cases hz : zx zT0 (fun _ => []) (false, [], []) 20000 [18] 15 560 zmL 0 zpL zst0 with
  | none => rw [hz] at hrun; cases hrun
  | some r =>
    rw [hz] at hrun
    obtain ⟨outs, arrs⟩ := r
    dsimp only at hrun
    rw [Bool.and_eq_true] at hrun
    obtain ⟨hrun0, hrun⟩ := hrun
    have eo : outs = [] := List.isEmpty_iff.mp hrun0
    subst eo
    refine z_sound (l := l) (T := zT0) (CN := fun _ => []) (D := D) (A := fun q => s.heap.size ≤ q) (b := B) (sl := L) (xs := xs) (fl := (false, [], [])) hAll0 (fun mi M hM C hC => by cases hC) hbA hsl 20000 [18] 15 560 zmL 0 zpL zst0 ([], arrs) hz zok_law (fun _ h => h) p e room_1 s m #[Value.ref (B 0)] below meth c (lw_Z below #[Value.ref (B 0)] s) hC (by decide) (by decide) (zrho L xs) (fun _ => 0) [] s.heap [] ls ⟨⟨z_ivS hL, fun q hq => ?_, (fun v hv => absurd hv List.not_mem_nil), (fun _ _ _ hv => (z_o0_lk hv).elim)⟩, hl, ⟨rfl, (fun k q hk => by cases hk)⟩, (fun k q hk => by cases hk), ⟨(fun i j p q hi => by cases hi), (fun k q hk => by cases hk)⟩, va_S.rf, ⟨rfl, fun h => by cases h⟩, by decide, zMm.nil rfl, fun _ h => by cases h⟩ (fun o ho => absurd ho List.not_mem_nil) ?_
    · have hq9 : q ∈ ([(0, (4, 0, 0))] : List (Nat × zV)) := hq
      rw [List.mem_singleton] at hq9
      subst hq9
      exact trivial
    · intro a ha ρ1 ad1 ws1 H1 locs1 ls1 hbh hg1
      have h1 := List.all_eq_true.mp hrun a ha
      rw [Bool.and_eq_true, Bool.and_eq_true, Bool.and_eq_true, Bool.and_eq_true, Bool.and_eq_true, Bool.and_eq_true] at h1
      obtain ⟨g1, g2, g3, g4, g6, g7, g5⟩ := h1
      have g3 := of_decide_eq_true g3
      have hg2 := z_cvt2 g4 g6 (Nat.eq_of_beq_eq_true g7) hg1
      have hl9 : 9 < a.2.2.2.1.length := hg1.2.2.2.2.2.2.2.1
      obtain ⟨ρ2, ⟨ρ3, ov3, y1, y2⟩, -, -, y5, y6, y7, -, y9, y10, -, -⟩ := z_arr2 (T := zT1) (M := zmL) (fl := (false, [], [])) (a := (a.1, 0, 0, a.2.2.2.1, a.2.2.2.2.1, a.2.2.2.2.2.1, z_ko 176 zkl0)) (k := 2) rfl (Nat.le_refl _) g5 (by show 2 ≤ a.2.2.2.1.length; omega) hg2
      dsimp only at y1 y2 y5 y9
      rw [y5, Nat.eq_of_beq_eq_true g1, Nat.eq_of_beq_eq_true g2, ← y9]
      have e10 : ρ2 10 = 0 := by
        rw [y2 10]
        have e : z_sgl a.2.2.2.2.1 a.2.2.2.2.2.1 ov3 znA.2.2.2.2.2.1 10 = (z_fd a.2.2.2.2.1 3).getD (0, 0, 0) := rfl
        rw [e, g3]
        show ρ3 0 + 0 = 0
        rw [y1 0 (by omega), hg1.1.1.1]
        rfl
      exact z_law (cu0 := 176) (su0 := 6108) (n := 176) (sA := 10) (rest := zrB) (nA := znA) (nB := znB) (M := zmL) (T := zT1) (CN := z_cnt zL9) (fr := 15) (lo := 560) (f := 20000) hAll1 (zcn9 hAll1 hbA hsl) hbA hsl zok_law hC (by decide) (by decide) zlA zlB (by decide) (by decide) rfl rfl (fun _ _ _ => rfl) (ws0 := []) (fun k' n' ρ' ad' o eo => z_end1 hx hb hr hlocks eo (fun _ h => h)) (L + 1) ρ2 ad1 ws1 H1 locs1 ls1 y10 (by rw [e10]; exact Int.natCast_nonneg L) (by rw [e10]; omega)
