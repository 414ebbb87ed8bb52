/-! ===== a whole run, calls gone into ===== -/
/-- an end: intervals, what is given back, known cells -/
abbrev zOu : Type := zI × Option zV × zO
def z_all {α β : Type} (k : α → Option (List β)) : List α → Option (List β)
  | [] => some []
  | [a] => k a
  | a :: r => match k a with
    | none => none
    | some x => (match z_all k r with
      | none => none
      | some y => some (x ++ y))
theorem z_all_ok {α β : Type} {k : α → Option (List β)} : ∀ (q : List α) (o : List β), z_all k q = some o → ∀ a ∈ q, ∃ o', k a = some o' ∧ ∀ x ∈ o', x ∈ o
  | [], _, _, a, ha => by cases ha
  | [a'], o, h, a, ha => by
    rw [List.mem_singleton] at ha
    subst ha
    exact ⟨o, h, fun _ hx => hx⟩
  | a' :: b' :: r, o, h, a, ha => by
    unfold z_all at h
    split at h
    next => cases h
    next x hx =>
      split at h
      next => cases h
      next y hy =>
        cases h
        rcases List.mem_cons.mp ha with q | q
        · subst q; exact ⟨x, hx, fun _ hz => List.mem_append_left _ hz⟩
        · obtain ⟨o', h1, h2⟩ := z_all_ok (b' :: r) y hy a q
          exact ⟨o', h1, fun z hz => List.mem_append_right _ (h2 z hz)⟩
def z_drop (prog : List zP) (t : Nat) : List zP := match prog with
  | [] => []
  | e :: r => if Nat.beq e.1 t then e :: r else z_drop r t
theorem z_drop_mem {prog : List zP} {t : Nat} : ∀ e ∈ z_drop prog t, e ∈ prog := by
  induction prog with
  | nil => intro e he; cases he
  | cons a r ih =>
    intro e he
    unfold z_drop at he
    split at he
    · exact he
    · exact List.mem_cons_of_mem _ (ih e he)
def z_rt (M : zM) (k : Nat) (st : zS) : Option (List zOu) := match st with
  | (cu, su, iv, _, sk, ov) => if Nat.ble cu M.2.2.2.2.2.1 && Nat.ble su M.2.2.2.2.2.2.1 then (match k, M.2.2.2.1, sk with
    | 0, none, [] => some [(iv, none, ov)]
    | 1, some .int, [v] => if v.1 = 0 then some [(iv, some v, ov)] else none
    | 1, some .boolean, [v] => if v.1 = 0 then (match z_bd iv v with
      | some q => if 0 ≤ q.1 ∧ q.2 ≤ 1 then some [(iv, some v, ov)] else none
      | none => none) else none
    | 2, some .long, [v] => if v.1 = 1 then some [(iv, some v, ov)] else none
    | _, _, _ => none) else none
def z_ca4 (q : List (Nat × Nat × Nat × Nat)) (k : Nat) : Option (Nat × Nat × Nat) := match q with
  | [] => none
  | (i, a) :: r => if Nat.beq i k then some a else z_ca4 r k
def z_ct (CT : List (List (Nat × Nat × Nat × Nat))) (cn idx : Nat) : Option (Nat × Nat × Nat) := match CT[cn]? with
  | some q => z_ca4 q idx
  | none => none
def z_arg (i : Nat) (vs : List zV) : zL := match vs with
  | [] => []
  | v :: r => (i, v) :: z_arg (if Nat.beq v.1 1 then i + 2 else i + 1) r
def z_wd2 (vs : List zV) : Nat := match vs with
  | [] => 0
  | v :: r => (if Nat.beq v.1 1 then 2 else 1) + z_wd2 r
/-- the callee's values, and what is left below them -/
def z_pre (G : List zC) (knd na : Nat) (cn' : Nat) (sk : List zV) : Option (List zV × List zV) := if Nat.blt sk.length na then none else match knd with
  | 1 => some ((sk.take na).reverse, sk.drop na)
  | 0 => (match sk.drop na with
    | o :: r => if o.1 = 2 then (match G[o.2.1]? with
      | some g => if g.1 = 0 ∧ g.2.1 = cn' then some (o :: (sk.take na).reverse, r) else none
      | none => none) else none
    | [] => none)
  | 2 => (match sk.drop na with
    | o :: r => if o.1 = 2 then some (o :: (sk.take na).reverse, r) else none
    | [] => none)
  | _ => none
/-- which instruction a call of a kind is -/
def z_kd (knd k : Nat) : Bool := match knd with
  | 0 => Nat.beq k 4
  | 1 => Nat.beq k 5
  | 2 => Nat.beq k 6
  | 3 => Nat.beq k 5
  | 4 => Nat.beq k 6
  | _ => false
abbrev z_ncw : Nat := nativeFrameWords "java/lang/System" "arraycopy" 5 + 11
abbrev zRc : Type := Nat → Nat → zM → Nat → List zP → zS → Option (List zOu)
def zxS (rec : zRc) (fr lo : Nat) (M : zM) (pc len : Nat) (nxt : List zP) (r : zR) : Option (List zOu) := match r with
  | none => none
  | some ss => z_all (fun q => match q.1 with
    | none => rec fr lo M (pc + len) nxt q.2
    | some t => rec fr lo M t (z_drop M.2.2.2.2.1 t) q.2) ss
def zxM (rec : zRc) (T : zTb) (fr lo : Nat) (M : zM) (pc : Nat) (nxt : List zP) (knd na : Nat) (M' : zM) (cu su : Nat) (iv : zI) (lv : zL) (sk : List zV) (ov : zO) : Option (List zOu) := match z_pre T.1 knd na M'.2.2.2.2.2.2.2.1 sk with
  | some (as, rest) => if Nat.ble (z_wd2 as) M'.2.2.1 && Nat.ble (z_wd2 rest) 8 && Nat.ble (8 + (M'.2.2.1 + 11)) lo && Nat.ble (cu + M'.2.2.2.2.2.1) M.2.2.2.2.2.1 && Nat.ble (su + M'.2.2.2.2.2.2.1) M.2.2.2.2.2.2.1 then (match rec (fr - 1) (lo - (8 + (M'.2.2.1 + 11))) M' 0 M'.2.2.2.2.1 (0, 0, iv, z_arg 0 as, [], ov) with
    | none => none
    | some outs => z_all (fun o => rec fr lo M (pc + 3) nxt (cu + M'.2.2.2.2.2.1, su + M'.2.2.2.2.2.2.1, o.1, lv, o.2.1.toList ++ rest, o.2.2)) outs) else none
  | none => none
def zxC (rec : zRc) (T : zTb) (fr lo : Nat) (M : zM) (pc len : Nat) (nxt : List zP) (k idx : Nat) (st : zS) : Option (List zOu) := match st, z_ct T.2.2.2.2.2.2.2.2.2.2.2 M.2.2.2.2.2.2.2.1 idx with
  | (cu, su, iv, lv, sk, ov), some (knd, mi, na) => if Nat.beq len 3 && z_kd knd k && Nat.blt 0 fr then (match knd with
    | 3 => if Nat.ble (z_wd2 (sk.drop 5) + z_ncw) lo then (match z_copy T.1 st with
      | some [(none, st')] => rec fr lo M (pc + 3) nxt st'
      | _ => none) else none
    | 4 => (match sk with
      | o :: r => if (o.1 = 2) ∧ Nat.ble (z_wd2 r + 12) lo = true then rec fr lo M (pc + 3) nxt (cu, su, iv, lv, r, ov) else none
      | [] => none)
    | _ => (match T.2.2.2.2.2.2.2.2.2.2.1[mi]? with
      | some M' => zxM rec T fr lo M pc nxt knd na M' cu su iv lv sk ov
      | none => none)) else none
  | _, none => none
def zxI (rec : zRc) (T : zTb) (fl : Bool) (fr lo : Nat) (M : zM) (pc : Nat) (o : zQ) (len : Nat) (nxt : List zP) (st : zS) : Option (List zOu) := match z_spkC o with
  | none => zxS rec fr lo M pc len nxt (zstepC T fl M pc o len st)
  | some (k, idx) => if Nat.ble k 2 then (if Nat.beq len 1 then z_rt M k st else none) else zxC rec T fr lo M pc len nxt k idx st
def zxB (rec : zRc) (T : zTb) (fl : Bool) (fr lo : Nat) (M : zM) (pc : Nat) (cur : List zP) (st : zS) : Option (List zOu) := match cur with
  | [] => none
  | (pc', o, len) :: nxt => if Nat.beq pc' pc then zxI rec T fl fr lo M pc' o len nxt st else none
def zx (T : zTb) (fl : Bool) : Nat → zRc
  | 0, _, _, _, _, _, _ => none
  | f + 1, fr, lo, M, pc, cur, st => zxB (zx T fl f) T fl fr lo M pc cur st
/-- what holds of an end -/
def zEnd (G : List zC) (cl : List vw_C) (cA : Nat → ClassId) (D : va_G) (A : Nat → Prop) (b : Nat → Nat) (sl : Nat) (xs : Nat → Int32) (fl : Bool) (o : zOu) (ρ : Nat → Int) (ad : Nat → Nat) (ws : va_W) (H : Heap) : Prop :=
  ziv o.1 ρ ∧ (∀ v, o.2.1 = some v → zok o.2.2.length o.1 ρ v) ∧ (∀ (p9 i9 : Nat) (v : zV), z_lk o.2.2 p9 i9 = some v → zok o.2.2.length o.1 ρ v) ∧ z_wd G cA o.2.2 ad b ρ ws ∧ va_P D cl ws H ∧ va_D A ws ∧ zSc sl xs fl ρ ∧ 9 < o.1.length
/-- an end lies behind a beginning -/
def zBh (k n : Nat) (ρ : Nat → Int) (ad : Nat → Nat) (o : zOu) (ρ' : Nat → Int) (ad' : Nat → Nat) : Prop := (∀ i, i < k → ρ' i = ρ i) ∧ (∀ q, q < n → ad' q = ad q) ∧ k ≤ o.1.length ∧ n ≤ o.2.2.length
def zMOk (zN : List String) (Ts : List Jvm.Cond) (M : zM) : Prop := zN[M.2.2.2.2.2.2.2.1]? = some M.1.cls ∧ (∀ e ∈ M.2.2.2.2.1, decode M.2.1 e.1 = .ok (zdec e.2.1, e.2.2)) ∧ (M.2.2.2.2.2.2.2.2 = true → M.1.name = "<init>")
def zMTOk (zN : List String) (Ts : List Jvm.Cond) (MT : List zM) : Prop := ∀ (mi : Nat) (M : zM), MT[mi]? = some M → zMOk zN Ts M ∧ plainName M.1.cls = true ∧ Jvm.Cond.code M.1 M.2.1 M.2.2.1 M.2.2.2.1 ∈ Ts
def zCTOk (zN : List String) (Ts : List Jvm.Cond) (MT : List zM) (CT : List (List (Nat × Nat × Nat × Nat))) : Prop := ∀ (cn idx knd mi na : Nat) (own : String), z_ct CT cn idx = some (knd, mi, na) → zN[cn]? = some own →
  (knd = 3 → Jvm.Cond.methodLink own idx arraycopyName ∈ Ts ∧ Jvm.Cond.native arraycopyName ∈ Ts ∧ Jvm.Cond.static arraycopyName ∈ Ts ∧ Jvm.Cond.initialized "java/lang/System" ∈ Ts) ∧
  (knd = 4 → Jvm.Cond.methodLink own idx objectInit ∈ Ts ∧ Jvm.Cond.instanceMethod objectInit ∈ Ts ∧ Jvm.Cond.code objectInit ⟨#[0xb1]⟩ 1 none ∈ Ts) ∧
  (knd ≤ 2 → ∀ M : zM, MT[mi]? = some M → Jvm.Cond.methodLink own idx M.1 ∈ Ts ∧ Jvm.Cond.initialized M.1.cls ∈ Ts ∧ (M.1.cls ≠ "java/lang/invoke/MethodHandle" ∧ M.1.cls ≠ "java/lang/invoke/VarHandle") ∧ (parseMethodDescriptor M.1.desc).map (fun d => d.parameters.length) = some na ∧ (knd = 0 → Jvm.Cond.instanceMethod M.1 ∈ Ts ∧ Jvm.Cond.selects M.1.cls M.1 M.1 ∈ Ts) ∧ (knd = 1 → Jvm.Cond.static M.1 ∈ Ts) ∧ (knd = 2 → M.1.name = "<init>" ∧ Jvm.Cond.instanceMethod M.1 ∈ Ts ∧ M.2.2.2.1 = none))
/-- all tables -/
def zAllOk (T : zTb) (zN : List String) (Ts : List Jvm.Cond) (cA : Nat → ClassId) (tys : List (ClassId × FieldType)) : Prop := zTbOk T zN Ts cA tys ∧ zMTOk zN Ts T.2.2.2.2.2.2.2.2.2.2.1 ∧ zCTOk zN Ts T.2.2.2.2.2.2.2.2.2.2.1 T.2.2.2.2.2.2.2.2.2.2.2 ∧ (∀ w ∈ Ts, (w.onTables && w.keeps) = true ∨ ∃ ty, w = .arrayClass ty)
/-- the way to a method's end: the last instruction, and what is due there -/
def zRt (k : Nat) (i : Instr) : Prop := (k = 0 ∧ i = .return_) ∨ (k = 1 ∧ i = .ireturn) ∨ (k = 2 ∧ i = .lreturn)
theorem z_spk_ok {i : Instr} {k idx : Nat} (h : z_spk i = some (k, idx)) : (k ≤ 2 → zRt k i) ∧ (k = 4 → i = .invokevirtual idx) ∧ (k = 5 → i = .invokestatic idx) ∧ (k = 6 → i = .invokespecial idx) := by
  cases i
  case return_ => cases h; exact ⟨fun _ => Or.inl ⟨rfl, rfl⟩, fun h => by omega, fun h => by omega, fun h => by omega⟩
  case ireturn => cases h; exact ⟨fun _ => Or.inr (Or.inl ⟨rfl, rfl⟩), fun h => by omega, fun h => by omega, fun h => by omega⟩
  case lreturn => cases h; exact ⟨fun _ => Or.inr (Or.inr ⟨rfl, rfl⟩), fun h => by omega, fun h => by omega, fun h => by omega⟩
  case invokevirtual k => cases h; exact ⟨fun h => by omega, fun _ => rfl, fun h => by omega, fun h => by omega⟩
  case invokestatic k => cases h; exact ⟨fun h => by omega, fun h => by omega, fun _ => rfl, fun h => by omega⟩
  case invokespecial k => cases h; exact ⟨fun h => by omega, fun h => by omega, fun h => by omega, fun _ => rfl⟩
  all_goals (change (none : Option (Nat × Nat)) = some (k, idx) at h; cases h)
theorem z_arg_map {ad : Nat → Nat} {b : Nat → Nat} {ρ : Nat → Int} : ∀ (vs : List zV) (i : Nat), lv_args i (vs.map (zcv ad b ρ)) = (z_arg i vs).map fun q => (q.1, zcv ad b ρ q.2)
  | [], _ => rfl
  | v :: r, i => by
    show (i, zcv ad b ρ v) :: lv_args (if (zcv ad b ρ v).category = 2 then i + 2 else i + 1) (r.map (zcv ad b ρ)) = (i, zcv ad b ρ v) :: (z_arg (if Nat.beq v.1 1 then i + 2 else i + 1) r).map fun q => (q.1, zcv ad b ρ q.2)
    have hc := z_cat (b := b) (ad := ad) (ρ := ρ) v
    have e : (if (zcv ad b ρ v).category = 2 then i + 2 else i + 1) = (if Nat.beq v.1 1 then i + 2 else i + 1) := by
      cases hb : Nat.beq v.1 1
      · rw [hb] at hc
        rw [if_neg (fun q => by rw [q] at hc; cases hc)]; rfl
      · rw [hb] at hc
        rw [if_pos (eq_of_beq hc)]; rfl
    rw [e, z_arg_map r]
theorem z_arg_mem {vs : List zV} : ∀ (i : Nat), ∀ q ∈ z_arg i vs, q.2 ∈ vs := by
  induction vs with
  | nil => intro i q hq; cases hq
  | cons v r ih =>
    intro i q hq
    rcases List.mem_cons.mp hq with h | h
    · subst h; exact List.mem_cons_self
    · exact List.mem_cons_of_mem _ (ih _ q h)
theorem z_wd2_cat {ad : Nat → Nat} {b : Nat → Nat} {ρ : Nat → Int} : ∀ vs : List zV, ((vs.map (zcv ad b ρ)).map fun v => v.category).sum = z_wd2 vs
  | [] => rfl
  | v :: r => by
    show (zcv ad b ρ v).category + ((r.map (zcv ad b ρ)).map fun v => v.category).sum = (if Nat.beq v.1 1 then 2 else 1) + z_wd2 r
    rw [z_wd2_cat r]
    have hc := z_cat (b := b) (ad := ad) (ρ := ρ) v
    cases hb : Nat.beq v.1 1
    · rw [z_cat1 (by rw [hb]; exact Bool.false_ne_true)]; rfl
    · rw [z_cat2 hb]; rfl
theorem z_wd2_sl {ad : Nat → Nat} {b : Nat → Nat} {ρ : Nat → Int} : ∀ vs : List zV, (lg_sl (vs.map (zcv ad b ρ))).length = z_wd2 vs
  | [] => rfl
  | v :: r => by
    have ih := z_wd2_sl (ad := ad) (b := b) (ρ := ρ) r
    unfold lg_sl at ih ⊢
    rw [List.map_cons, List.flatMap_cons, List.length_append, ih]
    show _ = (if Nat.beq v.1 1 then 2 else 1) + z_wd2 r
    cases hb : Nat.beq v.1 1
    · rw [z_cat1 (by rw [hb]; exact Bool.false_ne_true)]; rfl
    · rw [z_cat2 hb]; rfl
theorem z_go {p : Program} {l : Launch} {e : Env} {R : Room} {s : State} {m : MethodId} {args : Array Value} {below : List Frame} {meth : Method} {c : Code} {Q : State → Prop} {H : Heap} {locs : List Loc} {cells slots mc ms : Nat} {g : JFrame} {rest : List Value} {Qa : State → Outcome → State → Prop} {free : Addr → Prop} (hr : CallRun p l e R s m args below meth c H locs cells slots mc ms g rest Qa free)
    (kk : ∀ (v : Option Value) (st₀ t : State) (L : List Loc), st₀.heap = H → (∀ q ∈ L, free q.base) → Qa st₀ (.returned v) t → W p l e R s m args below meth c t.heap (locs ++ L) (cells + mc) (slots + ms) Q { g with pc := g.pc + 3, stack := v.toList ++ rest }) : W p l e R s m args below meth c H locs cells slots Q g := by
  intro T hT X
  obtain ⟨v, st₀, t, T', L, h0, X', hL, e1, hq, st⟩ := hr T hT X
  obtain ⟨t2, a1, b1⟩ := kk v st₀ t L h0 hL hq T' e1 X'
  exact ⟨t2, st t2 a1, b1⟩
