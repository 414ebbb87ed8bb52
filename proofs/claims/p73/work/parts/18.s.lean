/-! ===== constant texts, and two statics ===== -/
/-- the texts' bytes; (class, place in the pool) -> text; -> field of a text (0 its bytes, 1 its kind); -> static (0 whether texts are compact, 1 one that is only carried) -/
abbrev zXt : Type := List (List Int) × List (List (Nat × Nat)) × List (List (Nat × Nat)) × List (List (Nat × Nat))
def z_ka2 (q : List (Nat × Nat)) (k : Nat) : Option Nat := match q with
  | [] => none
  | (i, v) :: r => if Nat.beq i k then some v else z_ka2 r k
def z_k2 (KT : List (List (Nat × Nat))) (cn idx : Nat) : Option Nat := match KT[cn]? with
  | some q => z_ka2 q idx
  | none => none
def zStr1 (ST : List (List Int)) (A : Nat → Prop) (b : Nat → Nat) (U : State) (H : Heap) : Prop :=
  (∀ i : Nat, i < ST.length → va_O "java/lang/String" (b (1 + 2 * i)) A U H ∧ va_OF "java/lang/String" "coder" "B" (.int 0) (b (1 + 2 * i)) A U H ∧ va_OF "java/lang/String" "value" "[B" (.ref (b (2 + 2 * i))) (b (1 + 2 * i)) A U H ∧ va_T .byte (b (2 + 2 * i)) (ST.getD i []).length (fun j => .int (Int32.ofInt ((ST.getD i []).getD j 0))) A U H) ∧
  va_Z "java/lang/String" "COMPACT_STRINGS" "Z" (.int 1) A U H ∧ va_Z "jdk/internal/util/Preconditions" "SIOOBE_FORMATTER" "Ljava/util/function/BiFunction;" (z_rn (b (2 * ST.length + 1))) A U H
/-- calls of another class's own methods, within a nest -/
def zNL : List (String × Nat × MethodName × String) := [("WindSigned$Walk", 88, ⟨"WindSigned", "hasBit", "(II)Z"⟩, "WindSigned"), ("WindSigned$Plain", 91, ⟨"WindSigned", "distance", "(II)I"⟩, "WindSigned"), ("WindSigned$Trials", 63, ⟨"WindSigned", "hasBit", "(II)Z"⟩, "WindSigned")]
def zStr2 (X : zXt) (zN : List String) (b : Nat → Nat) (U : State) : Prop := (∀ (cn idx i : Nat) (own : String), z_k2 X.2.1 cn idx = some i → zN[cn]? = some own → i < X.1.length ∧ ∃ tx, vk_R own idx tx (b (1 + 2 * i)) U) ∧ ∀ q ∈ zNL, va_Nw (.methodLinkNest q.1 q.2.1 q.2.2.1 q.2.2.2) U
def zStr (X : zXt) (zN : List String) (A : Nat → Prop) (b : Nat → Nat) (U : State) (H : Heap) : Prop := zStr1 X.1 A b U H ∧ zStr2 X zN b U
theorem zStr1.moved {ST : List (List Int)} {A : Nat → Prop} {b : Nat → Nat} {u U : State} {H : Heap} (hvm : u.vm.Alike U.vm) (h : zStr1 ST A b u H) : zStr1 ST A b U H :=
  ⟨fun i hi => ⟨va_O.moved hvm (h.1 i hi).1, va_OF.moved hvm (h.1 i hi).2.1, va_OF.moved hvm (h.1 i hi).2.2.1, va_T.moved hvm (h.1 i hi).2.2.2⟩, va_Z.moved hvm h.2.1, va_Z.moved hvm h.2.2⟩
theorem zStr1.kept {ST : List (List Int)} {A : Nat → Prop} {b : Nat → Nat} {U : State} {H H1 : Heap} (h : zStr1 ST A b U H) (hq : ∀ a : Nat, a < H.size → ¬ A a → H1[a]? = H[a]?) : zStr1 ST A b U H1 :=
  ⟨fun i hi => ⟨(h.1 i hi).1.kept hq, (h.1 i hi).2.1.kept hq, (h.1 i hi).2.2.1.kept hq, (h.1 i hi).2.2.2.kept hq⟩, h.2.1.kept hq, h.2.2.kept hq⟩
theorem zStr2.same {X : zXt} {zN : List String} {b : Nat → Nat} {u U : State} (hv : U.vm = u.vm) (h : zStr2 X zN b u) : zStr2 X zN b U := ⟨fun cn idx i own h1 h2 => by
  obtain ⟨h3, tx, h4⟩ := h.1 cn idx i own h1 h2
  exact ⟨h3, tx, vk_R.same hv h4⟩, fun q hq => va_Nw.same rfl hv.symm (h.2 q hq)⟩
theorem zStr2.warm {X : zXt} {zN : List String} {b : Nat → Nat} {s U : State} (hW : s.WarmedH U.vm) (h : zStr2 X zN b s) : zStr2 X zN b U := ⟨fun cn idx i own h1 h2 => by
  obtain ⟨h3, tx, h4⟩ := h.1 cn idx i own h1 h2
  exact ⟨h3, tx, vk_R.warm hW h4⟩, fun q hq => va_Nw.warmM hW (h.2 q hq)⟩
def zSFOk (zN : List String) (SF : List (List (Nat × Nat))) (Ts : List Jvm.Cond) : Prop := ∀ (cn idx w : Nat) (own : String), z_k2 SF cn idx = some w → zN[cn]? = some own → (w = 0 → Jvm.Cond.fieldLink own idx "java/lang/String" "value" "[B" ∈ Ts) ∧ (w = 1 → Jvm.Cond.fieldLink own idx "java/lang/String" "coder" "B" ∈ Ts)
def zGSOk (zN : List String) (GS : List (List (Nat × Nat))) (Ts : List Jvm.Cond) : Prop := ∀ (cn idx w : Nat) (own : String), z_k2 GS cn idx = some w → zN[cn]? = some own → (w = 0 → Jvm.Cond.fieldLink own idx "java/lang/String" "COMPACT_STRINGS" "Z" ∈ Ts) ∧ (w = 1 → Jvm.Cond.fieldLink own idx "jdk/internal/util/Preconditions" "SIOOBE_FORMATTER" "Ljava/util/function/BiFunction;" ∈ Ts)
def z_ldcS (X : zXt) (cn idx : Nat) (st : zS) : zR := match z_k2 X.2.1 cn idx with
  | some i => z_push (4, 1 + 2 * i, 0) st
  | none => none
/-- which text, by its number: 1 + 2i the text, 2 + 2i its bytes -/
def z_sno (ST : List (List Int)) (k r : Nat) : Option Nat := bif Nat.ble r k && (Nat.beq ((k - r) % 2) 0 && Nat.blt ((k - r) / 2) ST.length) then some ((k - r) / 2) else none
theorem z_sno_ok {ST : List (List Int)} {k r i : Nat} (h : z_sno ST k r = some i) : k = r + 2 * i ∧ i < ST.length := by
  unfold z_sno at h
  cases hb : Nat.ble r k && (Nat.beq ((k - r) % 2) 0 && Nat.blt ((k - r) / 2) ST.length) with
  | false => rw [hb] at h; cases h
  | true =>
    rw [hb] at h
    cases h
    rw [Bool.and_eq_true, Bool.and_eq_true] at hb
    have h1 := Nat.le_of_ble_eq_true hb.1
    have h2 := Nat.eq_of_beq_eq_true hb.2.1
    have h3 : (k - r) / 2 < ST.length := Nat.le_of_ble_eq_true hb.2.2
    exact ⟨by omega, h3⟩
def z_getS (X : zXt) (cn idx : Nat) (st : zS) : zR := match st with
  | (cu, su, iv, lv, x :: r, ov) => if x.1 = 4 then (match z_sno X.1 x.2.1 1, z_k2 X.2.2.1 cn idx with
    | some i, some 0 => some [(none, (cu, su, iv, lv, (4, 2 + 2 * i, 0) :: r, ov))]
    | some _, some 1 => some [(none, (cu, su, iv, lv, (0, 0, 0) :: r, ov))]
    | _, _ => none) else none
  | _ => none
def z_gst (X : zXt) (cn idx : Nat) (st : zS) : zR := match st with
  | (cu, su, iv, lv, r, ov) => (match z_k2 X.2.2.2 cn idx with
    | some 0 => some [(none, (cu, su, iv, lv, (0, 0, 1) :: r, ov))]
    | some 1 => some [(none, (cu, su, iv, lv, (5, 2 * X.1.length + 1, 0) :: r, ov))]
    | _ => none)
def z_alenS (X : zXt) (st : zS) : zR := match st with
  | (cu, su, iv, lv, x :: r, ov) => if x.1 = 4 then (match z_sno X.1 x.2.1 2 with
    | some i => if (X.1.getD i []).length ≤ 1000 then some [(none, (cu, su, iv, lv, (0, 0, ((X.1.getD i []).length : Int)) :: r, ov))] else none
    | none => none) else none
  | _ => none
def z_aldS (X : zXt) (st : zS) : zR := match st with
  | (cu, su, iv, lv, y :: x :: r, ov) => if y.1 = 0 ∧ x.1 = 4 then (match z_sno X.1 x.2.1 2, z_bd iv y with
    | some i, some q => if q.1 = q.2 ∧ 0 ≤ q.1 ∧ q.1 < ((X.1.getD i []).length : Int) ∧ -128 ≤ (X.1.getD i []).getD q.1.toNat 0 ∧ (X.1.getD i []).getD q.1.toNat 0 ≤ 127 then some [(none, (cu, su, iv, lv, (0, 0, (X.1.getD i []).getD q.1.toNat 0) :: r, ov))] else none
    | _, _ => none) else none
  | _ => none
section ZST9S
variable {p : Program} {l : Launch} {e : Env} {R : Room} {s : State} {m : MethodId} {args : Array Value} {below : List Frame} {meth : Method} {c : Code} {Q : State → Prop} {D : va_G} {cl : List vw_C} {A : Nat → Prop} {cA : Nat → ClassId} {G : List zC} {b : Nat → Nat} {sl : Nat} {xs : Nat → Int32} {fl : zFl} {nL : Nat} {cc : ByteArray} {pc : Nat}
variable {Ts : List Jvm.Cond} {zN : List String} {own : String} {cn : Nat} {X : zXt}
theorem zs_ldcS (hx : p.tables.exec = Jvm.exec) (hb : c.code = cc) (hown : s.vm.findClass own = some m.cls) (hN : zN[cn]? = some own) (hs : zStr2 X zN b s) {h0 : Heap} {idx : Nat} {st : zS} {ss : List (Option Nat × zS)} (hd : decode cc pc = .ok (.ldc idx, 2)) (h : z_ldcS X cn idx st = some ss) : zSt p l e R s m args below meth c Q D cl A cA G b sl xs fl h0 nL pc 2 st ss := by
  unfold z_ldcS at h
  split at h
  next i hi =>
    obtain ⟨-, tx, hR⟩ := hs.1 cn idx i own hi hN
    exact zs_push h (fun ad ρ h0 => rfl) (fun _ _ _ _ => True.intro) (fun _ _ _ _ _ _ k => va_ldcS hx hb hown hR hd k)
  next => cases h
theorem zs_getS (hx : p.tables.exec = Jvm.exec) (hb : c.code = cc) (hts : ∀ w ∈ Ts, w.before args s = true) (hown : s.vm.findClass own = some m.cls) (hN : zN[cn]? = some own) (hF : zSFOk zN X.2.2.1 Ts) (hs : zStr1 X.1 A b s s.heap) {idx : Nat} {st : zS} {ss : List (Option Nat × zS)} (hd : decode cc pc = .ok (.getfield idx, 3)) (h : z_getS X cn idx st = some ss) : zSt p l e R s m args below meth c Q D cl A cA G b sl xs fl s.heap nL pc 3 st ss := by
  obtain ⟨cu, su, iv, lv, sk, ov⟩ := st
  unfold z_getS at h
  rcases sk with _ | ⟨x, r⟩
  · cases h
  dsimp only at h
  split at h
  next hk =>
    split at h
    next i hi hw =>
      cases h
      intro ρ ad ws H locs ls hgm kk
      obtain ⟨e1, e2⟩ := z_sno_ok hi
      show W p l e R s m args below meth c H locs cu su Q (F0 m pc ls (zcv ad b ρ x :: r.map (zcv ad b ρ)))
      rw [z_cv4 hk, e1]
      refine vk_getf hx hb (hs.1 i e2).2.2.1 hgm.2.2.2.2.2.1 hown (hts _ ((hF cn idx 0 own hw hN).1 rfl)) (fun _ h9 => h9) hd ?_
      exact z_fin (v := (4, 2 + 2 * i, 0)) hgm (fun w hw => List.mem_cons_of_mem _ hw) (fun _ _ => rfl) (Nat.le_refl _) hgm.1.1 True.intro rfl kk
    next i hi hw =>
      cases h
      intro ρ ad ws H locs ls hgm kk
      obtain ⟨e1, e2⟩ := z_sno_ok hi
      show W p l e R s m args below meth c H locs cu su Q (F0 m pc ls (zcv ad b ρ x :: r.map (zcv ad b ρ)))
      rw [z_cv4 hk, e1]
      refine vk_getf hx hb (hs.1 _ e2).2.1 hgm.2.2.2.2.2.1 hown (hts _ ((hF cn idx 1 own hw hN).2 rfl)) (fun _ h9 => h9) hd ?_
      exact z_fin (v := (0, 0, 0)) hgm (fun w hw => List.mem_cons_of_mem _ hw) (fun _ _ => rfl) (Nat.le_refl _) hgm.1.1 (z_okc hgm.1.1 (by omega) (by omega)) (by rw [z_cvc hgm.1.1.1]; rfl) kk
    next => cases h
  next => cases h
theorem zs_gst (hx : p.tables.exec = Jvm.exec) (hb : c.code = cc) (hts : ∀ w ∈ Ts, w.before args s = true) (hown : s.vm.findClass own = some m.cls) (hN : zN[cn]? = some own) (hF : zGSOk zN X.2.2.2 Ts) (hs : zStr1 X.1 A b s s.heap) {idx : Nat} {st : zS} {ss : List (Option Nat × zS)} (hd : decode cc pc = .ok (.getstatic idx, 3)) (h : z_gst X cn idx st = some ss) : zSt p l e R s m args below meth c Q D cl A cA G b sl xs fl s.heap nL pc 3 st ss := by
  obtain ⟨cu, su, iv, lv, r, ov⟩ := st
  unfold z_gst at h
  dsimp only at h
  split at h
  next hw =>
    cases h
    intro ρ ad ws H locs ls hgm kk
    show W p l e R s m args below meth c H locs cu su Q (F0 m pc ls (r.map (zcv ad b ρ)))
    refine va_gets hx hb hs.2.1 hgm.2.2.2.2.2.1 hown (hts _ ((hF cn idx 0 own hw hN).1 rfl)) (fun _ h9 => h9) hd ?_
    exact z_fin (v := (0, 0, 1)) hgm (fun w hw => hw) (fun _ _ => rfl) (Nat.le_refl _) hgm.1.1 (z_okc hgm.1.1 (by omega) (by omega)) (by rw [z_cvc hgm.1.1.1]; rfl) kk
  next hw =>
    cases h
    intro ρ ad ws H locs ls hgm kk
    show W p l e R s m args below meth c H locs cu su Q (F0 m pc ls (r.map (zcv ad b ρ)))
    refine va_gets hx hb hs.2.2 hgm.2.2.2.2.2.1 hown (hts _ ((hF cn idx 1 own hw hN).2 rfl)) (fun _ h9 => h9) hd ?_
    exact z_fin (v := (5, 2 * X.1.length + 1, 0)) hgm (fun w hw => hw) (fun _ _ => rfl) (Nat.le_refl _) hgm.1.1 True.intro rfl kk
  next => cases h
theorem zs_alenS (hx : p.tables.exec = Jvm.exec) (hb : c.code = cc) (hs : zStr1 X.1 A b s s.heap) {st : zS} {ss : List (Option Nat × zS)} (hd : decode cc pc = .ok (.arraylength, 1)) (h : z_alenS X st = some ss) : zSt p l e R s m args below meth c Q D cl A cA G b sl xs fl s.heap nL pc 1 st ss := by
  obtain ⟨cu, su, iv, lv, sk, ov⟩ := st
  unfold z_alenS at h
  rcases sk with _ | ⟨x, r⟩
  · cases h
  dsimp only at h
  split at h
  next hk =>
    split at h
    next i hi =>
      split at h
      next hl =>
        cases h
        intro ρ ad ws H locs ls hgm kk
        obtain ⟨e1, e2⟩ := z_sno_ok hi
        show W p l e R s m args below meth c H locs cu su Q (F0 m pc ls (zcv ad b ρ x :: r.map (zcv ad b ρ)))
        rw [z_cv4 hk, e1]
        refine va_tlen hx hb (hs.1 i e2).2.2.2 hgm.2.2.2.2.2.1 (z_ofN _) hd ?_
        exact z_fin (v := (0, 0, ((X.1.getD i []).length : Int))) hgm (fun w hw => List.mem_cons_of_mem _ hw) (fun _ _ => rfl) (Nat.le_refl _) hgm.1.1 (z_okc hgm.1.1 (by omega) (by omega)) (by rw [z_cvc hgm.1.1.1]) kk
      next => cases h
    next => cases h
  next => cases h
theorem zs_aldS (hx : p.tables.exec = Jvm.exec) (hb : c.code = cc) (hs : zStr1 X.1 A b s s.heap) {st : zS} {ss : List (Option Nat × zS)} (hd : decode cc pc = .ok (.baload, 1)) (h : z_aldS X st = some ss) : zSt p l e R s m args below meth c Q D cl A cA G b sl xs fl s.heap nL pc 1 st ss := by
  obtain ⟨cu, su, iv, lv, sk, ov⟩ := st
  unfold z_aldS at h
  rcases sk with _ | ⟨y, _ | ⟨x, r⟩⟩
  · cases h
  · cases h
  dsimp only at h
  split at h
  next hk =>
    split at h
    next i q hi hq =>
      split at h
      next hc =>
        cases h
        obtain ⟨c1, c2, c3, c4, c5⟩ := hc
        intro ρ ad ws H locs ls hgm kk
        obtain ⟨e1, e2⟩ := z_sno_ok hi
        have ox := z_ok0 (hgm.1.2.2.1 y List.mem_cons_self) hk.1
        have b1 := z_bd_ok hq hgm.1.1
        obtain ⟨hvi, hcl⟩ := z_vin (z := z_val ρ y) (n := (X.1.getD i []).length) (by omega) (by omega) ox.2.2
        show W p l e R s m args below meth c H locs cu su Q (F0 m pc ls (zcv ad b ρ y :: zcv ad b ρ x :: r.map (zcv ad b ρ)))
        rw [z_cv0 hk.1, z_cv4 hk.2, e1]
        refine va_tb hx hb (hs.1 i e2).2.2.2 hgm.2.2.2.2.2.1 hvi (v := .int (Int32.ofInt ((X.1.getD i []).getD q.1.toNat 0))) (by rw [hcl, show z_val ρ y = q.1 by omega]) hd ?_
        exact z_fin (v := (0, 0, (X.1.getD i []).getD q.1.toNat 0)) hgm (fun w hw => List.mem_cons_of_mem _ (List.mem_cons_of_mem _ hw)) (fun _ _ => rfl) (Nat.le_refl _) hgm.1.1 (z_okc hgm.1.1 (by omega) (by omega)) (by rw [z_cvc hgm.1.1.1]) kk
      next => cases h
    next => cases h
  next => cases h
end ZST9S
