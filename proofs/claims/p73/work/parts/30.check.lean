/-! ===== the tables are held against the statement's words, by the kernel ===== -/
def zwl (k : Nat) : List Jvm.Cond := match k with
  | 0 => k2_sels lw_privs
  | 1 => tables_1_1
  | 2 => tables_1_2
  | 3 => tables_1_3
  | 4 => tables_1_4
  | 5 => tables_1_5
  | 6 => tables_1_6
  | 7 => tables_1_7
  | 8 => tables_1_8
  | 9 => tables_1_9
  | _ => []
theorem zwl_in {k : Nat} {w : Jvm.Cond} (h : w ∈ zwl k) : w ∈ lw_tbl := by
  unfold lw_tbl tables_1
  unfold zwl at h
  simp only [List.mem_append]
  split at h
  · exact Or.inl h
  · exact Or.inr (Or.inl h)
  · exact Or.inr (Or.inr (Or.inl h))
  · exact Or.inr (Or.inr (Or.inr (Or.inl h)))
  · exact Or.inr (Or.inr (Or.inr (Or.inr (Or.inl h))))
  · exact Or.inr (Or.inr (Or.inr (Or.inr (Or.inr (Or.inl h)))))
  · exact Or.inr (Or.inr (Or.inr (Or.inr (Or.inr (Or.inr (Or.inl h))))))
  · exact Or.inr (Or.inr (Or.inr (Or.inr (Or.inr (Or.inr (Or.inr (Or.inl h)))))))
  · exact Or.inr (Or.inr (Or.inr (Or.inr (Or.inr (Or.inr (Or.inr (Or.inr (Or.inl h))))))))
  · exact Or.inr (Or.inr (Or.inr (Or.inr (Or.inr (Or.inr (Or.inr (Or.inr (Or.inr h))))))))
  · cases h
def zTs : List Jvm.Cond := lw_tbl.filter goodWord
theorem zTs_good : ∀ w ∈ zTs, (w.onTables && w.keeps) = true ∨ ∃ ty, w = .arrayClass ty := fun w h => good_of_word (List.mem_filter.mp h).2
def zck (q : Nat × Nat) (w : Jvm.Cond) : Bool := decide ((zwl q.1)[q.2]? = some w) && goodWord w
theorem zck_ok {q : Nat × Nat} {w : Jvm.Cond} (h : zck q w = true) : w ∈ zTs := by
  unfold zck at h
  rw [Bool.and_eq_true] at h
  exact List.mem_filter.mpr ⟨zwl_in (List.mem_of_getElem? (of_decide_eq_true h.1)), h.2⟩
def zckl (q : List (Nat × Nat)) (ws : List Jvm.Cond) : Bool := match q, ws with
  | [], [] => true
  | a :: r, w :: t => zck a w && zckl r t
  | _, _ => false
theorem zckl_ok : ∀ (q : List (Nat × Nat)) (ws : List Jvm.Cond), zckl q ws = true → ∀ w ∈ ws, w ∈ zTs
  | _, [], _, w, h => by cases h
  | [], _ :: _, h, _, _ => by cases h
  | a :: r, w' :: t, h, w, hw => by
    unfold zckl at h
    rw [Bool.and_eq_true] at h
    rcases List.mem_cons.mp hw with q | q
    · subst q; exact zck_ok h.1
    · exact zckl_ok r t h.2 w q
/-- one row of a table -/
def zckr {α : Type} (words : String → α → Option (List Jvm.Cond)) (own : String) (L : List α) (I : List (List (Nat × Nat))) : Bool := match L, I with
  | [], _ => true
  | a :: r, i :: t => (match words own a with
    | some ws => zckl i ws
    | none => false) && zckr words own r t
  | _ :: _, [] => false
theorem zckr_ok {α : Type} {words : String → α → Option (List Jvm.Cond)} {own : String} : ∀ (L : List α) (I : List (List (Nat × Nat))), zckr words own L I = true → ∀ a ∈ L, ∃ ws, words own a = some ws ∧ ∀ w ∈ ws, w ∈ zTs
  | [], _, _, a, h => by cases h
  | _ :: _, [], h, _, _ => by cases h
  | a' :: r, i :: t, h, a, ha => by
    unfold zckr at h
    rw [Bool.and_eq_true] at h
    rcases List.mem_cons.mp ha with q | q
    · subst q
      have h1 := h.1
      split at h1
      next ws hws => exact ⟨ws, hws, zckl_ok i ws h1⟩
      next => cases h1
    · exact zckr_ok r t h.2 a q
def zckt {α : Type} (words : String → α → Option (List Jvm.Cond)) (zN : List String) (L : List (List α)) (I : List (List (List (Nat × Nat)))) : Bool := match zN, L, I with
  | _, [], _ => true
  | n :: zN', a :: r, i :: t => zckr words n a i && zckt words zN' r t
  | _, _, _ => false
theorem zckt_ok {α : Type} {words : String → α → Option (List Jvm.Cond)} : ∀ (zN : List String) (L : List (List α)) (I : List (List (List (Nat × Nat)))), zckt words zN L I = true → ∀ (cn : Nat) (q : List α) (own : String), L[cn]? = some q → zN[cn]? = some own → ∀ a ∈ q, ∃ ws, words own a = some ws ∧ ∀ w ∈ ws, w ∈ zTs
  | _, [], _, _, cn, q, own, hq, _, _, _ => by cases hq
  | [], _ :: _, _, h, _, _, _, _, _, _, _ => by unfold zckt at h; cases h
  | _ :: _, _ :: _, [], h, _, _, _, _, _, _, _ => by unfold zckt at h; cases h
  | n :: zN', a' :: r, i :: t, h, cn, q, own, hq, hn, a, ha => by
    unfold zckt at h
    rw [Bool.and_eq_true] at h
    match cn, hq, hn with
    | 0, hq, hn => cases hq; cases hn; exact zckr_ok _ _ h.1 a ha
    | cn + 1, hq, hn => exact zckt_ok zN' r t h.2 cn q own hq hn a ha
theorem z_as_mem {q : List (Nat × Nat × Nat)} {k a b : Nat} (h : z_as q k = some (a, b)) : (k, a, b) ∈ q := by
  induction q with
  | nil => cases h
  | cons e r ih =>
    obtain ⟨i, x, y⟩ := e
    unfold z_as at h
    split at h
    next hb => cases h; rw [Nat.eq_of_beq_eq_true hb]; exact List.mem_cons_self
    next => exact List.mem_cons_of_mem _ (ih h)
theorem z_fl_mem {FL : List (List (Nat × Nat × Nat))} {cn idx a b : Nat} (h : z_fl FL cn idx = some (a, b)) : ∃ q, FL[cn]? = some q ∧ (idx, a, b) ∈ q := by
  unfold z_fl at h
  split at h
  next q hq => exact ⟨q, hq, z_as_mem h⟩
  next => cases h
theorem z_ka_mem {q : List (Nat × Int)} {k : Nat} {v : Int} (h : z_ka q k = some v) : (k, v) ∈ q := by
  induction q with
  | nil => cases h
  | cons e r ih =>
    obtain ⟨i, x⟩ := e
    unfold z_ka at h
    split at h
    next hb => cases h; rw [Nat.eq_of_beq_eq_true hb]; exact List.mem_cons_self
    next => exact List.mem_cons_of_mem _ (ih h)
theorem z_kt_mem {KT : List (List (Nat × Int))} {cn idx : Nat} {v : Int} (h : z_kt KT cn idx = some v) : ∃ q, KT[cn]? = some q ∧ (idx, v) ∈ q := by
  unfold z_kt at h
  split at h
  next q hq => exact ⟨q, hq, z_ka_mem h⟩
  next => cases h
theorem z_ca4_mem {q : List (Nat × Nat × Nat × Nat)} {k : Nat} {a : Nat × Nat × Nat} (h : z_ca4 q k = some a) : (k, a) ∈ q := by
  induction q with
  | nil => cases h
  | cons e r ih =>
    obtain ⟨i, x⟩ := e
    unfold z_ca4 at h
    split at h
    next hb => cases h; rw [Nat.eq_of_beq_eq_true hb]; exact List.mem_cons_self
    next => exact List.mem_cons_of_mem _ (ih h)
theorem z_ct_mem {CT : List (List (Nat × Nat × Nat × Nat))} {cn idx : Nat} {a : Nat × Nat × Nat} (h : z_ct CT cn idx = some a) : ∃ q, CT[cn]? = some q ∧ (idx, a) ∈ q := by
  unfold z_ct at h
  split at h
  next q hq => exact ⟨q, hq, z_ca4_mem h⟩
  next => cases h
/-! the tables' words -/
def zwFL (cl : List vw_C) (own : String) (e : Nat × Nat × Nat) : Option (List Jvm.Cond) := match cl[e.2.1]? with
  | some (_, T, N) => if e.2.2 < N then some [.fieldLink own e.1 (T e.2.2).1 (T e.2.2).2.1 (T e.2.2).2.2.1] else none
  | none => none
theorem zFL_ok {cl : List vw_C} {zN : List String} {FL : List (List (Nat × Nat × Nat))} {I : List (List (List (Nat × Nat)))} (h : zckt (zwFL cl) zN FL I = true) : zFLOk cl zN FL zTs := by
  intro cn idx ci f own hf hn
  obtain ⟨q, hq, hm⟩ := z_fl_mem hf
  obtain ⟨ws, h1, h2⟩ := zckt_ok zN FL I h cn q own hq hn _ hm
  unfold zwFL at h1
  split at h1
  next C T N hcl =>
    split at h1
    next hlt => cases h1; exact ⟨C, T, N, hcl, hlt, h2 _ List.mem_cons_self⟩
    next => cases h1
  next => cases h1
def zwNW (cl : List vw_C) (own : String) (e : Nat × Nat × Nat) : Option (List Jvm.Cond) := match cl[e.2.1]? with
  | some (C, _, N) => if N = e.2.2 then some [.classLink own e.1 C, .instantiable C e.2.2, .initialized C] else none
  | none => none
theorem zNW_ok {cl : List vw_C} {zN : List String} {NW : List (List (Nat × Nat × Nat))} {I : List (List (List (Nat × Nat)))} (h : zckt (zwNW cl) zN NW I = true) : zNWOk cl zN NW zTs := by
  intro cn idx ci n own hf hn
  obtain ⟨q, hq, hm⟩ := z_fl_mem hf
  obtain ⟨ws, h1, h2⟩ := zckt_ok zN NW I h cn q own hq hn _ hm
  unfold zwNW at h1
  split at h1
  next C T N hcl =>
    split at h1
    next hlt =>
      cases h1
      refine ⟨C, T, ?_, h2 _ List.mem_cons_self, h2 _ (List.mem_cons_of_mem _ List.mem_cons_self), h2 _ (List.mem_cons_of_mem _ (List.mem_cons_of_mem _ List.mem_cons_self))⟩
      dsimp only at hcl hlt
      rw [← hlt]; exact hcl
    next => cases h1
  next => cases h1
def zwAN (tyl : List FieldType) (own : String) (e : Nat × Nat × Nat) : Option (List Jvm.Cond) := match tyl[e.2.1 - 1]? with
  | some (.object C) => if 5 ≤ e.2.1 then some [.classLink own e.1 C] else none
  | _ => none
theorem zAN_ok {tyl : List FieldType} {zN : List String} {AN : List (List (Nat × Nat × Nat))} {I : List (List (List (Nat × Nat)))} (h : zckt (zwAN tyl) zN AN I = true) : zANOk zN tyl AN zTs := by
  intro cn idx tag n own hf hn
  obtain ⟨q, hq, hm⟩ := z_fl_mem hf
  obtain ⟨ws, h1, h2⟩ := zckt_ok zN AN I h cn q own hq hn _ hm
  unfold zwAN at h1
  split at h1
  next C hcl =>
    split at h1
    next hlt => cases h1; exact ⟨hlt, C, hcl, h2 _ List.mem_cons_self⟩
    next => cases h1
  next => cases h1
def zwMN (tyl : List FieldType) (own : String) (e : Nat × Nat × Nat) : Option (List Jvm.Cond) := if 5 ≤ e.2.1 then (match e.2.2 with
  | 1 => if tyl[e.2.1 - 1]? = some (.array .int) then some [.classLink own e.1 ("[" ++ (FieldType.array .int).toString), .arrayClass .int] else none
  | 2 => if tyl[e.2.1 - 1]? = some (.array .long) then some [.classLink own e.1 ("[" ++ (FieldType.array .long).toString), .arrayClass .long] else none
  | _ => none) else none
theorem zMN_ok {tyl : List FieldType} {zN : List String} {MN : List (List (Nat × Nat × Nat))} {I : List (List (List (Nat × Nat)))} (h : zckt (zwMN tyl) zN MN I = true) : zMNOk zN tyl MN zTs := by
  intro cn idx tO tI own hf hn
  obtain ⟨q, hq, hm⟩ := z_fl_mem hf
  obtain ⟨ws, h1, h2⟩ := zckt_ok zN MN I h cn q own hq hn _ hm
  unfold zwMN at h1
  split at h1
  next h5 =>
    refine ⟨h5, ?_⟩
    split at h1
    next e1 =>
      split at h1
      next hlt => cases h1; exact Or.inl ⟨e1, hlt, h2 _ List.mem_cons_self, h2 _ (List.mem_cons_of_mem _ List.mem_cons_self)⟩
      next => cases h1
    next e1 =>
      split at h1
      next hlt => cases h1; exact Or.inr ⟨e1, hlt, h2 _ List.mem_cons_self, h2 _ (List.mem_cons_of_mem _ List.mem_cons_self)⟩
      next => cases h1
    next => cases h1
  next => cases h1
def zwKI (own : String) (e : Nat × Int) : Option (List Jvm.Cond) := some [.constant own e.1 (Int32.ofInt e.2)]
def zwKL (own : String) (e : Nat × Int) : Option (List Jvm.Cond) := some [.constantLong own e.1 (Int64.ofInt e.2)]
theorem zKI_ok {zN : List String} {KT : List (List (Nat × Int))} {I : List (List (List (Nat × Nat)))} (h : zckt zwKI zN KT I = true) : zKIOk zN KT zTs := by
  intro cn idx v own hf hn
  obtain ⟨q, hq, hm⟩ := z_kt_mem hf
  obtain ⟨ws, h1, h2⟩ := zckt_ok zN KT I h cn q own hq hn _ hm
  cases h1
  exact h2 _ List.mem_cons_self
theorem zKL_ok {zN : List String} {KT : List (List (Nat × Int))} {I : List (List (List (Nat × Nat)))} (h : zckt zwKL zN KT I = true) : zKLOk zN KT zTs := by
  intro cn idx v own hf hn
  obtain ⟨q, hq, hm⟩ := z_kt_mem hf
  obtain ⟨ws, h1, h2⟩ := zckt_ok zN KT I h cn q own hq hn _ hm
  cases h1
  exact h2 _ List.mem_cons_self
/-! calls -/
def zwC2 (k : Nat) (own : String) (i na : Nat) (M : zM) : Option (List Jvm.Cond) := if M.1.cls ≠ "java/lang/invoke/MethodHandle" ∧ M.1.cls ≠ "java/lang/invoke/VarHandle" ∧ (parseMethodDescriptor M.1.desc).map (fun d => d.parameters.length) = some na then (match k with
  | 0 => some [.methodLink own i M.1, .initialized M.1.cls, .instanceMethod M.1, .selects M.1.cls M.1 M.1]
  | 1 => some [.methodLink own i M.1, .initialized M.1.cls, .static M.1]
  | 2 => if M.1.name = "<init>" ∧ M.2.2.2.1 = none then some [.methodLink own i M.1, .initialized M.1.cls, .instanceMethod M.1] else none
  | 5 => if M.1.cls = "java/lang/String" then some [.methodLink own i M.1, .initialized M.1.cls, .instanceMethod M.1, .selects M.1.cls M.1 M.1] else none
  | 7 => if zNL.any (fun q => decide (q.1 = own ∧ q.2.1 = i ∧ q.2.2.1 = M.1)) = true then some [.initialized M.1.cls, .static M.1] else none
  | _ => none) else none
def zwCT (MT : List zM) (own : String) (e : Nat × Nat × Nat × Nat) : Option (List Jvm.Cond) := if e.2.1 = 3 then some [.methodLink own e.1 arraycopyName, .native arraycopyName, .static arraycopyName, .initialized "java/lang/System"] else if e.2.1 = 4 then some [.methodLink own e.1 objectInit, .instanceMethod objectInit, .code objectInit ⟨#[0xb1]⟩ 1 none] else if e.2.1 = 6 then some [.methodLink own e.1 (zMw e.2.2.1).1, .static (zMw e.2.2.1).1, .initialized "java/lang/Math", .code (zMw e.2.2.1).1 (zMw e.2.2.1).2.1 (zMw e.2.2.1).2.2.1 (zMw e.2.2.1).2.2.2] else (match MT[e.2.2.1]? with
  | some M => zwC2 e.2.1 own e.1 e.2.2.2 M
  | none => none)
theorem zCT_ok {MT : List zM} {zN : List String} {CT : List (List (Nat × Nat × Nat × Nat))} {I : List (List (List (Nat × Nat)))} (h : zckt (zwCT MT) zN CT I = true) : zCTOk zN zTs MT CT := by
  intro cn idx knd mi na own hf hn
  obtain ⟨q, hq, hm⟩ := z_ct_mem hf
  obtain ⟨ws, h1, h2⟩ := zckt_ok zN CT I h cn q own hq hn _ hm
  refine ⟨fun e => ?_, fun e => ?_, fun e M hM => ?_, fun e => ?_, fun e M hM => ?_⟩
  · subst e
    unfold zwCT at h1
    rw [if_pos rfl] at h1
    cases h1
    exact ⟨h2 _ List.mem_cons_self, h2 _ (List.mem_cons_of_mem _ List.mem_cons_self), h2 _ (List.mem_cons_of_mem _ (List.mem_cons_of_mem _ List.mem_cons_self)), h2 _ (List.mem_cons_of_mem _ (List.mem_cons_of_mem _ (List.mem_cons_of_mem _ List.mem_cons_self)))⟩
  · subst e
    unfold zwCT at h1
    rw [if_neg (by show ¬ (4:Nat) = 3; decide), if_pos rfl] at h1
    cases h1
    exact ⟨h2 _ List.mem_cons_self, h2 _ (List.mem_cons_of_mem _ List.mem_cons_self), h2 _ (List.mem_cons_of_mem _ (List.mem_cons_of_mem _ List.mem_cons_self))⟩
  · unfold zwCT at h1
    rw [if_neg (by show ¬ knd = 3; omega), if_neg (by show ¬ knd = 4; omega), if_neg (by show ¬ knd = 6; omega)] at h1
    dsimp only at h1
    rw [hM] at h1
    dsimp only at h1
    have main : ∃ rest, (M.1.cls ≠ "java/lang/invoke/MethodHandle" ∧ M.1.cls ≠ "java/lang/invoke/VarHandle" ∧ (parseMethodDescriptor M.1.desc).map (fun d => d.parameters.length) = some na) ∧ ws = .methodLink own idx M.1 :: .initialized M.1.cls :: rest ∧ (knd = 0 ∨ knd = 5 → rest = [.instanceMethod M.1, .selects M.1.cls M.1 M.1]) ∧ (knd = 1 → rest = [.static M.1]) ∧ (knd = 2 → rest = [.instanceMethod M.1] ∧ M.1.name = "<init>" ∧ M.2.2.2.1 = none) ∧ (knd = 5 → M.1.cls = "java/lang/String") := by
      unfold zwC2 at h1
      split at h1
      next hc =>
        split at h1
        next => cases h1; exact ⟨_, hc, rfl, fun _ => rfl, fun h => by omega, fun h => by omega, fun h => by omega⟩
        next => cases h1; exact ⟨_, hc, rfl, fun h => by omega, fun _ => rfl, fun h => by omega, fun h => by omega⟩
        next =>
          split at h1
          next hc2 => cases h1; exact ⟨_, hc, rfl, fun h => by omega, fun h => by omega, fun _ => ⟨rfl, hc2⟩, fun h => by omega⟩
          next => cases h1
        next =>
          split at h1
          next hc2 => cases h1; exact ⟨_, hc, rfl, fun _ => rfl, fun h => by omega, fun h => by omega, fun _ => hc2⟩
          next => cases h1
        next => omega
        next => cases h1
      next => cases h1
    obtain ⟨rest, hc, rfl, r0, r1, r2, r5⟩ := main
    refine ⟨h2 _ List.mem_cons_self, h2 _ (List.mem_cons_of_mem _ List.mem_cons_self), ⟨hc.1, hc.2.1⟩, hc.2.2, fun k0 => ?_, fun k1 => ?_, fun k2 => ?_, r5⟩
    · rw [r0 k0] at h2; exact ⟨h2 _ (List.mem_cons_of_mem _ (List.mem_cons_of_mem _ List.mem_cons_self)), h2 _ (List.mem_cons_of_mem _ (List.mem_cons_of_mem _ (List.mem_cons_of_mem _ List.mem_cons_self)))⟩
    · rw [r1 k1] at h2; exact h2 _ (List.mem_cons_of_mem _ (List.mem_cons_of_mem _ List.mem_cons_self))
    · rw [(r2 k2).1] at h2; exact ⟨(r2 k2).2.1, h2 _ (List.mem_cons_of_mem _ (List.mem_cons_of_mem _ List.mem_cons_self)), (r2 k2).2.2⟩
  · subst e
    unfold zwCT at h1
    rw [if_neg (by show ¬ (6:Nat) = 3; decide), if_neg (by show ¬ (6:Nat) = 4; decide), if_pos rfl] at h1
    cases h1
    exact ⟨h2 _ List.mem_cons_self, h2 _ (List.mem_cons_of_mem _ List.mem_cons_self), h2 _ (List.mem_cons_of_mem _ (List.mem_cons_of_mem _ List.mem_cons_self)), h2 _ (List.mem_cons_of_mem _ (List.mem_cons_of_mem _ (List.mem_cons_of_mem _ List.mem_cons_self)))⟩
  · subst e
    unfold zwCT at h1
    rw [if_neg (by show ¬ (7:Nat) = 3; decide), if_neg (by show ¬ (7:Nat) = 4; decide), if_neg (by show ¬ (7:Nat) = 6; decide)] at h1
    dsimp only at h1
    rw [hM] at h1
    dsimp only at h1
    unfold zwC2 at h1
    split at h1
    next hc =>
      change (if zNL.any (fun q => decide (q.1 = own ∧ q.2.1 = idx ∧ q.2.2.1 = M.1)) = true then some [Jvm.Cond.initialized M.1.cls, Jvm.Cond.static M.1] else none) = some ws at h1
      split at h1
      next hn7 =>
        cases h1
        obtain ⟨q7, hq7, hd7⟩ := List.any_eq_true.mp hn7
        obtain ⟨r1, r2, r3⟩ := of_decide_eq_true hd7
        obtain ⟨c1, c2, c3, c4⟩ := q7
        dsimp only at r1 r2 r3
        subst r1 r2 r3
        exact ⟨⟨c4, hq7⟩, h2 _ List.mem_cons_self, ⟨hc.1, hc.2.1⟩, hc.2.2, h2 _ (List.mem_cons_of_mem _ List.mem_cons_self)⟩
      next => cases h1
    next => cases h1
/-! methods -/
def zckd (c : ByteArray) (pr : List zP) : Bool := pr.all (fun e => decide (decode c e.1 = .ok (zdec e.2.1, e.2.2)))
theorem zckd_ok {c : ByteArray} {pr : List zP} (h : zckd c pr = true) : ∀ e ∈ pr, decode c e.1 = .ok (zdec e.2.1, e.2.2) := fun e he => of_decide_eq_true (List.all_eq_true.mp h e he)
theorem zckd_app {c : ByteArray} {a b : List zP} (ha : zckd c a = true) (hb : zckd c b = true) : zckd c (a ++ b) = true := by
  unfold zckd at ha hb ⊢
  rw [List.all_append, ha, hb]; rfl
def zckm (zN : List String) (q : (Nat × Nat) × zM) : Bool := decide (zN[q.2.2.2.2.2.2.2.2.1]? = some q.2.1.cls) && plainName q.2.1.cls && zck q.1 (.code q.2.1 q.2.2.1 q.2.2.2.1 q.2.2.2.2.1) && (!q.2.2.2.2.2.2.2.2.2 || decide (q.2.1.name = "<init>"))
theorem zckm_ok {zN : List String} {q : (Nat × Nat) × zM} (h : zckm zN q = true) (hd : zckd q.2.2.1 q.2.2.2.2.2.1 = true) : zMOk zN zTs q.2 ∧ plainName q.2.1.cls = true ∧ Jvm.Cond.code q.2.1 q.2.2.1 q.2.2.2.1 q.2.2.2.2.1 ∈ zTs := by
  unfold zckm at h
  rw [Bool.and_eq_true, Bool.and_eq_true, Bool.and_eq_true] at h
  obtain ⟨⟨⟨h1, h2⟩, h4⟩, h5⟩ := h
  refine ⟨⟨of_decide_eq_true h1, zckd_ok hd, fun hi => ?_⟩, h2, zck_ok h4⟩
  rw [hi] at h5
  exact of_decide_eq_true h5
theorem zMT_ok {zN : List String} {MTi : List ((Nat × Nat) × zM)} (h : MTi.all (zckm zN) = true) (hd : ∀ M ∈ MTi.map Prod.snd, zckd M.2.1 M.2.2.2.2.1 = true) : zMTOk zN zTs (MTi.map Prod.snd) := by
  intro mi M hM
  have hm := List.mem_of_getElem? hM
  rw [List.getElem?_map] at hM
  obtain ⟨q, hq, rfl⟩ := Option.map_eq_some_iff.mp hM
  exact zckm_ok (List.all_eq_true.mp h q (List.mem_of_getElem? hq)) (hd _ hm)
/-! the kinds of cells -/
def zckk (zN : List String) (ci : Nat) (r : vw_C) (ly : List (Nat × Nat)) : Bool := decide (zN[ci]? = some r.1) && (List.range r.2.2).all (fun k => (match ly[k]? with
    | some q => zck q (u_lay r.1 r.2.1 k)
    | none => false) && ((parseFieldDescriptor (r.2.1 k).2.2.1).isSome && (decide ((r.2.1 k).1 = r.1) && (List.range r.2.2).all (fun k2 => Nat.beq k k2 || decide ((r.2.1 k).2.1 ≠ (r.2.1 k2).2.1)))))
theorem zckk_ok {zN : List String} {ci : Nat} {C : String} {T : u_T} {N : Nat} {ly : List (Nat × Nat)} (h : zckk zN ci (C, T, N) ly = true) : zN[ci]? = some C ∧ (∀ w ∈ u_ws C T N, w ∈ zTs) ∧ (∃ ty0 : Nat → FieldType, ∀ k, k < N → parseFieldDescriptor (T k).2.2.1 = some (ty0 k)) ∧ (∀ a, a < N → ∀ b, b < N → a ≠ b → (T a).2.1 ≠ (T b).2.1) ∧ ∀ k, k < N → (T k).1 = C := by
  unfold zckk at h
  rw [Bool.and_eq_true] at h
  obtain ⟨h1, h2⟩ := h
  have hk : ∀ k, k < N → _ := fun k hk => List.all_eq_true.mp h2 k (List.mem_range.mpr hk)
  refine ⟨of_decide_eq_true h1, fun w hw => ?_, ⟨fun k => (parseFieldDescriptor (T k).2.2.1).getD .int, fun k hkN => ?_⟩, fun a ha b hb hab => ?_, fun k hkN => ?_⟩
  · unfold u_ws at hw
    obtain ⟨k, hkr, rfl⟩ := List.mem_map.mp hw
    have h3 := hk k (List.mem_range.mp hkr)
    rw [Bool.and_eq_true] at h3
    have h4 := h3.1
    split at h4
    next q hq => exact zck_ok h4
    next => cases h4
  · have h3 := hk k hkN
    rw [Bool.and_eq_true, Bool.and_eq_true] at h3
    have h4 := h3.2.1
    dsimp only at h4 ⊢
    cases hp : parseFieldDescriptor (T k).2.2.1 with
    | none => rw [hp] at h4; cases h4
    | some t => rfl
  · have h3 := hk a ha
    rw [Bool.and_eq_true, Bool.and_eq_true, Bool.and_eq_true] at h3
    have h4 := List.all_eq_true.mp h3.2.2.2 b (List.mem_range.mpr hb)
    rcases Bool.or_eq_true _ _ ▸ h4 with q | q
    · exact absurd (Nat.eq_of_beq_eq_true q) hab
    · exact of_decide_eq_true q
  · have h3 := hk k hkN
    rw [Bool.and_eq_true, Bool.and_eq_true, Bool.and_eq_true] at h3
    exact of_decide_eq_true h3.2.2.1
def zckc (zN : List String) (cl : List vw_C) (LY : List (List (Nat × Nat))) : Bool := (List.range cl.length).all (fun ci => match cl[ci]?, LY[ci]? with
  | some r, some ly => zckk zN ci r ly
  | _, _ => false)
theorem zCls_ok {zN : List String} {cl : List vw_C} {LY : List (List (Nat × Nat))} (h : zckc zN cl LY = true) : zClsOk cl zN zTs := by
  intro ci C T N hcl
  have hlt : ci < cl.length := (List.getElem?_eq_some_iff.mp hcl).1
  have h1 := List.all_eq_true.mp h ci (List.mem_range.mpr hlt)
  rw [hcl] at h1
  split at h1
  next r ly hr hly => cases hr; exact zckk_ok h1
  next => cases h1
def zckg (cl : List vw_C) (G : List zC) : Bool := G.all (fun g => if g.1 = 0 then (match cl[g.2.1]? with
  | some r => Nat.beq g.2.2.length r.2.2 && (List.range g.2.2.length).all (fun f => match g.2.2[f]?, parseFieldDescriptor (r.2.1 f).2.2.1 with
    | some sp, some ty => Nat.beq (z_tyk ty) (z_skd sp.1)
    | _, _ => false)
  | none => false) else true)
theorem zG_ok {cl : List vw_C} {G : List zC} (h : zckg cl G = true) : zGOk cl G := by
  intro p g hg h0
  have h1 := List.all_eq_true.mp h g (List.mem_of_getElem? hg)
  rw [if_pos h0] at h1
  split at h1
  next r hr =>
    obtain ⟨C, T, N⟩ := r
    rw [Bool.and_eq_true] at h1
    refine ⟨C, T, N, hr, Nat.eq_of_beq_eq_true h1.1, fun f sp hsp => ?_⟩
    have hf : f < g.2.2.length := (List.getElem?_eq_some_iff.mp hsp).1
    have h2 := List.all_eq_true.mp h1.2 f (List.mem_range.mpr hf)
    rw [hsp] at h2
    dsimp only at h2
    split at h2
    next sp' ty hs hty => cases hs; exact ⟨ty, hty, Nat.eq_of_beq_eq_true h2⟩
    next => cases h2
  next => cases h1

/-! texts' fields, statics -/
theorem z_ka2_mem {q : List (Nat × Nat)} {k v : Nat} (h : z_ka2 q k = some v) : (k, v) ∈ q := by
  induction q with
  | nil => cases h
  | cons a r ih =>
    obtain ⟨i, w⟩ := a
    unfold z_ka2 at h
    split at h
    next hb => cases h; rw [Nat.eq_of_beq_eq_true hb]; exact List.mem_cons_self
    next => exact List.mem_cons_of_mem _ (ih h)
theorem z_k2_mem {KT : List (List (Nat × Nat))} {cn idx v : Nat} (h : z_k2 KT cn idx = some v) : ∃ q, KT[cn]? = some q ∧ (idx, v) ∈ q := by
  unfold z_k2 at h
  split at h
  next q hq => exact ⟨q, hq, z_ka2_mem h⟩
  next => cases h
def zwSF (own : String) (e : Nat × Nat) : Option (List Jvm.Cond) := match e.2 with
  | 0 => some [.fieldLink own e.1 "java/lang/String" "value" "[B"]
  | 1 => some [.fieldLink own e.1 "java/lang/String" "coder" "B"]
  | _ => none
def zwGS (own : String) (e : Nat × Nat) : Option (List Jvm.Cond) := match e.2 with
  | 0 => some [.fieldLink own e.1 "java/lang/String" "COMPACT_STRINGS" "Z"]
  | 1 => some [.fieldLink own e.1 "jdk/internal/util/Preconditions" "SIOOBE_FORMATTER" "Ljava/util/function/BiFunction;"]
  | _ => none
theorem zSF_ok {zN : List String} {SF : List (List (Nat × Nat))} {I : List (List (List (Nat × Nat)))} (h : zckt zwSF zN SF I = true) : zSFOk zN SF zTs := by
  intro cn idx w own hf hn
  obtain ⟨q, hq, hm⟩ := z_k2_mem hf
  obtain ⟨ws, h1, h2⟩ := zckt_ok zN SF I h cn q own hq hn _ hm
  constructor
  · intro e; subst e; cases h1; exact h2 _ List.mem_cons_self
  · intro e; subst e; cases h1; exact h2 _ List.mem_cons_self
theorem zGS_ok {zN : List String} {GS : List (List (Nat × Nat))} {I : List (List (List (Nat × Nat)))} (h : zckt zwGS zN GS I = true) : zGSOk zN GS zTs := by
  intro cn idx w own hf hn
  obtain ⟨q, hq, hm⟩ := z_k2_mem hf
  obtain ⟨ws, h1, h2⟩ := zckt_ok zN GS I h cn q own hq hn _ hm
  constructor
  · intro e; subst e; cases h1; exact h2 _ List.mem_cons_self
  · intro e; subst e; cases h1; exact h2 _ List.mem_cons_self
