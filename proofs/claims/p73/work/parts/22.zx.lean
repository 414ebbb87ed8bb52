/-! ===== a whole run: calls gone into, or taken by contract; stops ===== -/
/-- an end: intervals, what is given back, known cells -/
abbrev zOu : Type := zI × Option zV × zO
/-- ends, and states at places where the run stops -/
abbrev zRz : Type := Option (List zOu × List (Nat × zS))
def z_alz {α : Type} (k : α → zRz) : List α → zRz
  | [] => some ([], [])
  | [a] => k a
  | a :: r => match k a with
    | none => none
    | some x => (match z_alz k r with
      | none => none
      | some y => some (x.1 ++ y.1, x.2 ++ y.2))
theorem z_alz_ok {α : Type} {k : α → zRz} : ∀ (q : List α) (o : List zOu × List (Nat × zS)), z_alz k q = some o → ∀ a ∈ q, ∃ o', k a = some o' ∧ (∀ x ∈ o'.1, x ∈ o.1) ∧ ∀ x ∈ o'.2, x ∈ o.2
  | [], _, _, a, ha => by cases ha
  | [a'], o, h, a, ha => by
    rw [List.mem_singleton] at ha
    subst ha
    exact ⟨o, h, fun _ hx => hx, fun _ hx => hx⟩
  | a' :: b' :: r, o, h, a, ha => by
    unfold z_alz at h
    split at h
    next => cases h
    next x hx =>
      split at h
      next => cases h
      next y hy =>
        cases h
        rcases List.mem_cons.mp ha with q | q
        · subst q; exact ⟨x, hx, fun _ hz => List.mem_append_left _ hz, fun _ hz => List.mem_append_left _ hz⟩
        · obtain ⟨o', h1, h2, h3⟩ := z_alz_ok (b' :: r) y hy a q
          exact ⟨o', h1, fun z hz => List.mem_append_right _ (h2 z hz), fun z hz => List.mem_append_right _ (h3 z hz)⟩
def z_drop (prog : List zP) (t : Nat) : List zP := match prog with
  | [] => []
  | e :: r => if Nat.beq e.1 t then e :: r else z_drop r t
theorem z_drop_mem {prog : List zP} {t : Nat} : ∀ e ∈ z_drop prog t, e ∈ prog := by
  induction prog with
  | nil => intro e he; cases he
  | cons a r ih =>
    intro e he
    unfold z_drop at he
    split at he
    · exact he
    · exact List.mem_cons_of_mem _ (ih e he)
/-- what a method may give back, by its type -/
def z_rty (ty : FieldType) (iv : zI) (v : zV) : Bool := match ty with
  | .int => true
  | .boolean => (match z_bd iv v with
    | some q => decide (0 ≤ q.1 ∧ q.2 ≤ 1)
    | none => false)
  | .byte => (match z_bd iv v with
    | some q => decide (q.1 = q.2 ∧ (Int32.ofInt q.1).toInt8.toInt32 = Int32.ofInt q.1)
    | none => false)
  | .char => (match z_bd iv v with
    | some q => decide (q.1 = q.2 ∧ (Int32.ofInt q.1).toUInt32.toUInt16.toUInt32.toInt32 = Int32.ofInt q.1)
    | none => false)
  | _ => false
theorem z_narz2 {z : Int} (h1 : 0 ≤ z) (h2 : z ≤ 1) : narrow .boolean (.int (Int32.ofInt z)) = .int (Int32.ofInt z) := by
  rcases (show z = 0 ∨ z = 1 by omega) with rfl | rfl
  · decide
  · decide
theorem z_rty_ok {ty : FieldType} {iv : zI} {v : zV} {ρ : Nat → Int} (h : z_rty ty iv v = true) (hi : ziv iv ρ) : narrow ty (.int (Int32.ofInt (z_val ρ v))) = .int (Int32.ofInt (z_val ρ v)) := by
  unfold z_rty at h
  split at h
  · rfl
  · split at h
    next q hq =>
      have b1 := z_bd_ok hq hi
      have b2 := of_decide_eq_true h
      exact z_narz2 (by omega) (by omega)
    next => cases h
  · split at h
    next q hq =>
      have b1 := z_bd_ok hq hi
      have b2 := of_decide_eq_true h
      have e : z_val ρ v = q.1 := by omega
      rw [e]
      exact congrArg Value.int b2.2
    next => cases h
  · split at h
    next q hq =>
      have b1 := z_bd_ok hq hi
      have b2 := of_decide_eq_true h
      have e : z_val ρ v = q.1 := by omega
      rw [e]
      exact congrArg Value.int b2.2
    next => cases h
  · cases h
def z_rt (M : zM) (k : Nat) (st : zS) : Option zOu := match st with
  | (cu, su, iv, _, sk, ov) => if Nat.ble cu M.2.2.2.2.2.1 && Nat.ble su M.2.2.2.2.2.2.1 then (match k, M.2.2.2.1, sk with
    | 0, none, [] => some (iv, none, ov)
    | 1, some ty, [v] => if v.1 = 0 ∧ z_rty ty iv v = true then some (iv, some v, ov) else none
    | 2, some .long, [v] => if v.1 = 1 then some (iv, some v, ov) else none
    | _, _, _ => none) else none
def z_ca4 (q : List (Nat × Nat × Nat × Nat)) (k : Nat) : Option (Nat × Nat × Nat) := match q with
  | [] => none
  | (i, a) :: r => if Nat.beq i k then some a else z_ca4 r k
def z_ct (CT : List (List (Nat × Nat × Nat × Nat))) (cn idx : Nat) : Option (Nat × Nat × Nat) := match CT[cn]? with
  | some q => z_ca4 q idx
  | none => none
def z_arg (i : Nat) (vs : List zV) : zL := match vs with
  | [] => []
  | v :: r => (i, v) :: z_arg (if Nat.beq v.1 1 then i + 2 else i + 1) r
def z_wd2 (vs : List zV) : Nat := match vs with
  | [] => 0
  | v :: r => (if Nat.beq v.1 1 then 2 else 1) + z_wd2 r
/-- the callee's values, and what is left below them -/
def z_pre (G : List zC) (ST : List (List Int)) (knd na : Nat) (cn' : Nat) (sk : List zV) : Option (List zV × List zV) := if Nat.blt sk.length na then none else match knd with
  | 1 => some ((sk.take na).reverse, sk.drop na)
  | 0 => (match sk.drop na with
    | o :: r => if o.1 = 2 then (match G[o.2.1]? with
      | some g => if g.1 = 0 ∧ g.2.1 = cn' then some (o :: (sk.take na).reverse, r) else none
      | none => none) else none
    | [] => none)
  | 2 => (match sk.drop na with
    | o :: r => if o.1 = 2 then some (o :: (sk.take na).reverse, r) else none
    | [] => none)
  | 5 => (match sk.drop na with
    | o :: r => if o.1 = 4 then (match z_sno ST o.2.1 1 with
      | some _ => some (o :: (sk.take na).reverse, r)
      | none => none) else none
    | [] => none)
  | 7 => some ((sk.take na).reverse, sk.drop na)
  | _ => none
/-- which instruction a call of a kind is -/
def z_kd (knd k : Nat) : Bool := match knd with
  | 0 => Nat.beq k 4
  | 1 => Nat.beq k 5
  | 2 => Nat.beq k 6
  | 3 => Nat.beq k 5
  | 4 => Nat.beq k 6
  | 5 => Nat.beq k 4
  | 6 => Nat.beq k 5
  | 7 => Nat.beq k 5
  | _ => false
abbrev z_ncw : Nat := nativeFrameWords "java/lang/System" "arraycopy" 5 + 11
/-- the symbols of a contract's beginning, by the state and the values -/
def z_sgc (C : zCn) (as : List zV) (ov : zO) (i : Nat) : zV := bif Nat.beq i 0 then (0, 0, 0) else z_src [] as ov C.2.2.2.2.1 i
/-- the intervals behind one end of a contract, its facts told -/
def z_riw (iv : zI) (k : Nat) (sg : Nat → zV) (o : zI) (fs : List zFc) : zI := Prod.mk (iv.length + (o.length - k)) (Prod.mk (fun i => bif Nat.blt i iv.length then Prod.fst (Prod.snd iv) i else Prod.fst (Prod.snd o) (k + (i - iv.length))) (iv.fs.1, fs ++ iv.fs.2.1, iv.fs.2.2.1, o.fs.2.2.2.map (z_sbd (z_sgo k iv.length sg)) ++ iv.fs.2.2.2))
/-- the state behind one end of a contract -/
def z_aft (M' : zM) (C : zCn) (sg : Nat → zV) (cu su : Nat) (iv : zI) (lv : zL) (rest : List zV) (ov : zO) (o : zOt) : Option zS := z_fBs (z_sgo C.2.1.length iv.length sg) o.1.fs.2.1 (fun fs => match z_nar sg o.1 (z_riw iv C.2.1.length sg o.1 fs) o.2.2.2.2 with
  | none => none
  | some iv2 => some (cu + M'.2.2.2.2.2.1, su + M'.2.2.2.2.2.2.1, iv2, lv, o.2.1.toList.map (z_sb (z_sgo C.2.1.length iv.length sg)) ++ rest, z_rov C.1 (z_sgo C.2.1.length iv.length sg) ov (z_ko C.2.2.2.2.2.2.2.2 o.2.2.1)))
theorem z_aft_eq {M' : zM} {C : zCn} {sg : Nat → zV} {cu su : Nat} {iv : zI} {lv : zL} {rest : List zV} {ov : zO} {o : zOt} : z_aft M' C sg cu su iv lv rest ov o = match z_nar sg o.1 (z_riv iv C.2.1.length sg o.1) o.2.2.2.2 with
  | none => none
  | some iv2 => some (cu + M'.2.2.2.2.2.1, su + M'.2.2.2.2.2.2.1, iv2, lv, o.2.1.toList.map (z_sb (z_sgo C.2.1.length iv.length sg)) ++ rest, z_rov C.1 (z_sgo C.2.1.length iv.length sg) ov (z_ko C.2.2.2.2.2.2.2.2 o.2.2.1)) := by
  unfold z_aft
  rw [z_fBs_eq]
  rfl
def z_usc (K : List (Nat × Nat)) (M' : zM) (fr lo : Nat) (as rest : List zV) (cu su : Nat) (iv1 : zI) (lv : zL) (ov1 : zO) (C : zCn) : Option (List zS) := bif C.2.2.2.2.1.all (fun s => Nat.ble 10 s.1) && (Nat.beq ov1.length C.2.2.2.2.2.2.2.2 && (z_ksb K C.1 && (Nat.ble (C.2.2.2.2.2.2.1 + 1) fr && (Nat.ble (8 + (M'.2.2.1 + 11) + C.2.2.2.2.2.2.2.1) lo && (z_mvl iv1 (z_sgc C as ov1) C.2.1.length as C.2.2.1 && (z_mat iv1 ov1 (z_sgc C as ov1) C.2.1 C.2.2.2.1 && C.2.2.2.2.2.1.all (fun o => Nat.ble C.2.1.length o.1.length && o.2.2.2.2.all (fun i => Nat.blt i C.2.1.length)))))))) then some (C.2.2.2.2.2.1.filterMap (z_aft M' C (z_sgc C as ov1) cu su iv1 lv rest ov1)) else none
def z_use (G : List zC) (K : List (Nat × Nat)) (M' : zM) (fr lo : Nat) (as rest : List zV) (cu su : Nat) (iv : zI) (lv : zL) (ov : zO) (C : zCn) : Option (List zS) := match z_fcl G C.2.2.2.2.1 (iv, ov) with
  | (iv0, ov1) => (match z_tgo iv0 with
    | some iv1 => z_usc K M' fr lo as rest cu su iv1 lv ov1 C
    | none => some [])
def z_fst {α β : Type} (k : α → Option β) : List α → Option β
  | [] => none
  | a :: r => match k a with
    | some x => some x
    | none => z_fst k r
theorem z_fst_ok {α β : Type} {k : α → Option β} {x : β} : ∀ l : List α, z_fst k l = some x → ∃ a ∈ l, k a = some x
  | [], h => by cases h
  | a :: r, h => by
    unfold z_fst at h
    split at h
    next y hy => cases h; exact ⟨a, List.mem_cons_self, hy⟩
    next =>
      obtain ⟨c, h1, h2⟩ := z_fst_ok r h
      exact ⟨c, List.mem_cons_of_mem _ h1, h2⟩
abbrev zRc : Type := Nat → Nat → zM → Nat → List zP → zS → zRz
def zxS (rec : zRc) (fr lo : Nat) (M : zM) (pc len : Nat) (nxt : List zP) (r : zR) : zRz := match r with
  | none => none
  | some ss => z_alz (fun q => match q.1 with
    | none => rec fr lo M (pc + len) nxt q.2
    | some t => rec fr lo M t (z_drop M.2.2.2.2.1 t) q.2) ss
/-- into the callee -/
def zxN (rec recC : zRc) (fr lo : Nat) (M : zM) (pc : Nat) (nxt : List zP) (M' : zM) (as rest : List zV) (cu su : Nat) (iv : zI) (lv : zL) (ov : zO) : zRz := if Nat.ble (8 + (M'.2.2.1 + 11)) lo then (match recC (fr - 1) (lo - (8 + (M'.2.2.1 + 11))) M' 0 M'.2.2.2.2.1 (0, 0, iv, z_arg 0 as, [], ov) with
    | some (outs, []) => z_alz (fun o => rec fr lo M (pc + 3) nxt (cu + M'.2.2.2.2.2.1, su + M'.2.2.2.2.2.2.1, o.1, lv, o.2.1.toList ++ rest, o.2.2)) outs
    | _ => none) else none
def zxM (rec recC : zRc) (T : zTb) (CN : Nat → List zCn) (K : List (Nat × Nat)) (fr lo : Nat) (M : zM) (pc : Nat) (nxt : List zP) (knd mi na : Nat) (M' : zM) (cu su : Nat) (iv : zI) (lv : zL) (sk : List zV) (ov : zO) : zRz := match z_pre T.1 T.2.2.2.2.2.2.2.2.2.2.2.2.1 knd na M'.2.2.2.2.2.2.2.1 sk with
  | some (as, rest) => if Nat.ble (z_wd2 as) M'.2.2.1 && Nat.ble (z_wd2 rest) 8 && Nat.ble (cu + M'.2.2.2.2.2.1) M.2.2.2.2.2.1 && Nat.ble (su + M'.2.2.2.2.2.2.1) M.2.2.2.2.2.2.1 then (match CN mi with
    | [] => zxN rec recC fr lo M pc nxt M' as rest cu su iv lv ov
    | C :: Cs => (match z_fst (z_use T.1 K M' fr lo as rest cu su iv lv ov) (C :: Cs) with
      | some sts => z_alz (fun st => rec fr lo M (pc + 3) nxt st) sts
      | none => none)) else none
  | none => none
def zxC (rec recC : zRc) (T : zTb) (CN : Nat → List zCn) (K : List (Nat × Nat)) (fr lo : Nat) (M : zM) (pc len : Nat) (nxt : List zP) (k idx : Nat) (st : zS) : zRz := match st, z_ct T.2.2.2.2.2.2.2.2.2.2.2.1 M.2.2.2.2.2.2.2.1 idx with
  | (cu, su, iv, lv, sk, ov), some (knd, mi, na) => if Nat.beq len 3 && z_kd knd k && Nat.blt 0 fr then (match knd with
    | 3 => if Nat.ble (z_wd2 (sk.drop 5) + z_ncw) lo then (match z_copy K T.1 st with
      | some [(none, st')] => rec fr lo M (pc + 3) nxt st'
      | _ => none) else none
    | 4 => (match sk with
      | o :: r => if (o.1 = 2) ∧ Nat.ble (z_wd2 r + 12) lo = true then rec fr lo M (pc + 3) nxt (cu, su, iv, lv, r, ov) else none
      | [] => none)
    | 6 => if Nat.ble (z_wd2 sk + 13) lo && Nat.ble cu M.2.2.2.2.2.1 && Nat.ble su M.2.2.2.2.2.2.1 then zxS rec fr lo M pc 3 nxt (z_mth mi st) else none
    | _ => (match T.2.2.2.2.2.2.2.2.2.2.1[mi]? with
      | some M' => zxM rec recC T CN K fr lo M pc nxt knd mi na M' cu su iv lv sk ov
      | none => none)) else none
  | _, none => none
def zxI (rec recC : zRc) (T : zTb) (CN : Nat → List zCn) (fl : zFl) (fr lo : Nat) (M : zM) (pc : Nat) (o : zQ) (len : Nat) (nxt : List zP) (st : zS) : zRz := match z_spkC o with
  | none => zxS rec fr lo M pc len nxt (zstepC T fl M pc o len st)
  | some (k, idx) => if Nat.ble k 2 then (if Nat.beq len 1 then (match z_rt M k st with
    | some o => some ([o], [])
    | none => none) else none) else zxC rec recC T CN fl.2.1 fr lo M pc len nxt k idx st
def zxB (rec recC : zRc) (T : zTb) (CN : Nat → List zCn) (fl : zFl) (fr lo : Nat) (M : zM) (pc : Nat) (cur : List zP) (st : zS) : zRz := match cur with
  | [] => none
  | (pc', o, len) :: nxt => if Nat.beq pc' pc then zxI rec recC T CN fl fr lo M pc' o len nxt st else none
def z_mem (l : List Nat) (k : Nat) : Bool := match l with
  | [] => false
  | a :: r => Nat.beq a k || z_mem r k
def zx (T : zTb) (CN : Nat → List zCn) (fl : zFl) : Nat → List Nat → zRc
  | 0, _, _, _, _, _, _, _ => none
  | f + 1, SP, fr, lo, M, pc, cur, st => bif z_mem SP pc then some ([], [(pc, st)]) else zxB (zx T CN fl f SP) (zx T CN fl f []) T CN fl fr lo M pc cur st
/-- what holds of an end -/
def zEnd (G : List zC) (cl : List vw_C) (cA : Nat → ClassId) (D : va_G) (A : Nat → Prop) (b : Nat → Nat) (sl : Nat) (xs : Nat → Int32) (fl : zFl) (o : zOu) (ρ : Nat → Int) (ad : Nat → Nat) (ws : va_W) (H : Heap) : Prop :=
  ziv o.1 ρ ∧ (∀ v, o.2.1 = some v → zok o.2.2.length o.1 ρ v) ∧ (∀ (p9 i9 : Nat) (v : zV), z_lk o.2.2 p9 i9 = some v → zok o.2.2.length o.1 ρ v) ∧ z_wd G cA o.2.2 ad b ρ ws ∧ va_P D cl ws H ∧ va_D A ws ∧ zSc sl xs fl.1 ρ ∧ 9 < o.1.length ∧ zMm o.1 o.2.2 ρ ws ∧ zKp fl.2 ws
/-- an end lies behind a beginning -/
def zBh (k n : Nat) (ρ : Nat → Int) (ad : Nat → Nat) (o : zOu) (ρ' : Nat → Int) (ad' : Nat → Nat) : Prop := (∀ i, i < k → ρ' i = ρ i) ∧ (∀ q, q < n → ad' q = ad q) ∧ k ≤ o.1.length ∧ n ≤ o.2.2.length
def zMOk (zN : List String) (Ts : List Jvm.Cond) (M : zM) : Prop := zN[M.2.2.2.2.2.2.2.1]? = some M.1.cls ∧ (∀ e ∈ M.2.2.2.2.1, decode M.2.1 e.1 = .ok (zdec e.2.1, e.2.2)) ∧ (M.2.2.2.2.2.2.2.2 = true → M.1.name = "<init>")
def zMTOk (zN : List String) (Ts : List Jvm.Cond) (MT : List zM) : Prop := ∀ (mi : Nat) (M : zM), MT[mi]? = some M → zMOk zN Ts M ∧ plainName M.1.cls = true ∧ Jvm.Cond.code M.1 M.2.1 M.2.2.1 M.2.2.2.1 ∈ Ts
def zCTOk (zN : List String) (Ts : List Jvm.Cond) (MT : List zM) (CT : List (List (Nat × Nat × Nat × Nat))) : Prop := ∀ (cn idx knd mi na : Nat) (own : String), z_ct CT cn idx = some (knd, mi, na) → zN[cn]? = some own →
  (knd = 3 → Jvm.Cond.methodLink own idx arraycopyName ∈ Ts ∧ Jvm.Cond.native arraycopyName ∈ Ts ∧ Jvm.Cond.static arraycopyName ∈ Ts ∧ Jvm.Cond.initialized "java/lang/System" ∈ Ts) ∧
  (knd = 4 → Jvm.Cond.methodLink own idx objectInit ∈ Ts ∧ Jvm.Cond.instanceMethod objectInit ∈ Ts ∧ Jvm.Cond.code objectInit ⟨#[0xb1]⟩ 1 none ∈ Ts) ∧
  (knd ≤ 2 ∨ knd = 5 → ∀ M : zM, MT[mi]? = some M → Jvm.Cond.methodLink own idx M.1 ∈ Ts ∧ Jvm.Cond.initialized M.1.cls ∈ Ts ∧ (M.1.cls ≠ "java/lang/invoke/MethodHandle" ∧ M.1.cls ≠ "java/lang/invoke/VarHandle") ∧ (parseMethodDescriptor M.1.desc).map (fun d => d.parameters.length) = some na ∧ (knd = 0 ∨ knd = 5 → Jvm.Cond.instanceMethod M.1 ∈ Ts ∧ Jvm.Cond.selects M.1.cls M.1 M.1 ∈ Ts) ∧ (knd = 1 → Jvm.Cond.static M.1 ∈ Ts) ∧ (knd = 2 → M.1.name = "<init>" ∧ Jvm.Cond.instanceMethod M.1 ∈ Ts ∧ M.2.2.2.1 = none) ∧ (knd = 5 → M.1.cls = "java/lang/String")) ∧
  (knd = 6 → Jvm.Cond.methodLink own idx (zMw mi).1 ∈ Ts ∧ Jvm.Cond.static (zMw mi).1 ∈ Ts ∧ Jvm.Cond.initialized "java/lang/Math" ∈ Ts ∧ Jvm.Cond.code (zMw mi).1 (zMw mi).2.1 (zMw mi).2.2.1 (zMw mi).2.2.2 ∈ Ts) ∧
  (knd = 7 → ∀ M : zM, MT[mi]? = some M → (∃ host, (own, idx, M.1, host) ∈ zNL) ∧ Jvm.Cond.initialized M.1.cls ∈ Ts ∧ (M.1.cls ≠ "java/lang/invoke/MethodHandle" ∧ M.1.cls ≠ "java/lang/invoke/VarHandle") ∧ (parseMethodDescriptor M.1.desc).map (fun d => d.parameters.length) = some na ∧ Jvm.Cond.static M.1 ∈ Ts)
/-- all tables -/
def zAllOk (T : zTb) (zN : List String) (Ts : List Jvm.Cond) (cA : Nat → ClassId) (tys : List (ClassId × FieldType)) : Prop := zTbOk T zN Ts cA tys ∧ zMTOk zN Ts T.2.2.2.2.2.2.2.2.2.2.1 ∧ zCTOk zN Ts T.2.2.2.2.2.2.2.2.2.2.1 T.2.2.2.2.2.2.2.2.2.2.2.1 ∧ (∀ w ∈ Ts, (w.onTables && w.keeps) = true ∨ ∃ ty, w = .arrayClass ty)
/-- the way to a method's end: the last instruction, and what is due there -/
def zRt (k : Nat) (i : Instr) : Prop := (k = 0 ∧ i = .return_) ∨ (k = 1 ∧ i = .ireturn) ∨ (k = 2 ∧ i = .lreturn)
theorem z_spk_ok {i : Instr} {k idx : Nat} (h : z_spk i = some (k, idx)) : (k ≤ 2 → zRt k i) ∧ (k = 4 → i = .invokevirtual idx) ∧ (k = 5 → i = .invokestatic idx) ∧ (k = 6 → i = .invokespecial idx) := by
  cases i
  case return_ => cases h; exact ⟨fun _ => Or.inl ⟨rfl, rfl⟩, fun h => by omega, fun h => by omega, fun h => by omega⟩
  case ireturn => cases h; exact ⟨fun _ => Or.inr (Or.inl ⟨rfl, rfl⟩), fun h => by omega, fun h => by omega, fun h => by omega⟩
  case lreturn => cases h; exact ⟨fun _ => Or.inr (Or.inr ⟨rfl, rfl⟩), fun h => by omega, fun h => by omega, fun h => by omega⟩
  case invokevirtual k => cases h; exact ⟨fun h => by omega, fun _ => rfl, fun h => by omega, fun h => by omega⟩
  case invokestatic k => cases h; exact ⟨fun h => by omega, fun h => by omega, fun _ => rfl, fun h => by omega⟩
  case invokespecial k => cases h; exact ⟨fun h => by omega, fun h => by omega, fun h => by omega, fun _ => rfl⟩
  all_goals (change (none : Option (Nat × Nat)) = some (k, idx) at h; cases h)
theorem z_arg_map {ad : Nat → Nat} {b : Nat → Nat} {ρ : Nat → Int} : ∀ (vs : List zV) (i : Nat), lv_args i (vs.map (zcv ad b ρ)) = (z_arg i vs).map fun q => (q.1, zcv ad b ρ q.2)
  | [], _ => rfl
  | v :: r, i => by
    show (i, zcv ad b ρ v) :: lv_args (if (zcv ad b ρ v).category = 2 then i + 2 else i + 1) (r.map (zcv ad b ρ)) = (i, zcv ad b ρ v) :: (z_arg (if Nat.beq v.1 1 then i + 2 else i + 1) r).map fun q => (q.1, zcv ad b ρ q.2)
    have hc := z_cat (b := b) (ad := ad) (ρ := ρ) v
    have e : (if (zcv ad b ρ v).category = 2 then i + 2 else i + 1) = (if Nat.beq v.1 1 then i + 2 else i + 1) := by
      cases hb : Nat.beq v.1 1
      · rw [hb] at hc
        rw [if_neg (fun q => by rw [q] at hc; cases hc)]; rfl
      · rw [hb] at hc
        rw [if_pos (eq_of_beq hc)]; rfl
    rw [e, z_arg_map r]
theorem z_arg_mem {vs : List zV} : ∀ (i : Nat), ∀ q ∈ z_arg i vs, q.2 ∈ vs := by
  induction vs with
  | nil => intro i q hq; cases hq
  | cons v r ih =>
    intro i q hq
    rcases List.mem_cons.mp hq with h | h
    · subst h; exact List.mem_cons_self
    · exact List.mem_cons_of_mem _ (ih _ q h)
theorem z_wd2_sum : ∀ vs : List zV, (vs.map fun v => if Nat.beq v.1 1 then 2 else 1).sum = z_wd2 vs
  | [] => rfl
  | v :: r => by
    rw [List.map_cons, List.sum_cons, z_wd2_sum r]
    rfl
theorem z_wd2_cat {ad : Nat → Nat} {b : Nat → Nat} {ρ : Nat → Int} : ∀ vs : List zV, ((vs.map (zcv ad b ρ)).map fun v => v.category).sum = z_wd2 vs
  | [] => rfl
  | v :: r => by
    show (zcv ad b ρ v).category + ((r.map (zcv ad b ρ)).map fun v => v.category).sum = (if Nat.beq v.1 1 then 2 else 1) + z_wd2 r
    rw [z_wd2_cat r]
    have hc := z_cat (b := b) (ad := ad) (ρ := ρ) v
    cases hb : Nat.beq v.1 1
    · rw [z_cat1 (by rw [hb]; exact Bool.false_ne_true)]; rfl
    · rw [z_cat2 hb]; rfl
theorem z_wd2_sl {ad : Nat → Nat} {b : Nat → Nat} {ρ : Nat → Int} : ∀ vs : List zV, (lg_sl (vs.map (zcv ad b ρ))).length = z_wd2 vs
  | [] => rfl
  | v :: r => by
    have ih := z_wd2_sl (ad := ad) (b := b) (ρ := ρ) r
    unfold lg_sl at ih ⊢
    rw [List.map_cons, List.flatMap_cons, List.length_append, ih]
    show _ = (if Nat.beq v.1 1 then 2 else 1) + z_wd2 r
    cases hb : Nat.beq v.1 1
    · rw [z_cat1 (by rw [hb]; exact Bool.false_ne_true)]; rfl
    · rw [z_cat2 hb]; rfl
theorem z_go {p : Program} {l : Launch} {e : Env} {R : Room} {s : State} {m : MethodId} {args : Array Value} {below : List Frame} {meth : Method} {c : Code} {Q : State → Prop} {H : Heap} {locs : List Loc} {cells slots mc ms : Nat} {g : JFrame} {rest : List Value} {Qa : State → Outcome → State → Prop} {free : Addr → Prop} (hr : CallRun p l e R s m args below meth c H locs cells slots mc ms g rest Qa free)
    (kk : ∀ (v : Option Value) (st₀ t : State) (L : List Loc), st₀.heap = H → (∀ q ∈ L, free q.base) → Qa st₀ (.returned v) t → W p l e R s m args below meth c t.heap (locs ++ L) (cells + mc) (slots + ms) Q { g with pc := g.pc + 3, stack := v.toList ++ rest }) : W p l e R s m args below meth c H locs cells slots Q g := by
  intro T hT X
  obtain ⟨v, st₀, t, T', L, h0, X', hL, e1, hq, st⟩ := hr T hT X
  obtain ⟨t2, a1, b1⟩ := kk v st₀ t L h0 hL hq T' e1 X'
  exact ⟨t2, st t2 a1, b1⟩
