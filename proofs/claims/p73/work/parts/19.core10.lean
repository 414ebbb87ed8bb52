/-! ===== one instruction, of all kinds ===== -/
abbrev zT3 : Type := List (List (Nat × Nat × Nat))
/-- y, bytes, places, what it gives back, rows, cells, slots, number, whether it is a maker -/
abbrev zM : Type := MethodName × ByteArray × Nat × Option FieldType × List zP × Nat × Nat × Nat × Bool
/-- G, cl, tyl, FL, NW, AN, MN, KI, KL, tc, methods, calls -/
abbrev zTb : Type := List zC × List vw_C × List FieldType × zT3 × zT3 × zT3 × zT3 × List (List (Nat × Int)) × List (List (Nat × Int)) × List (Nat × Nat × Nat) × List zM × List (List (Nat × Nat × Nat × Nat)) × zXt
def z_g (len n : Nat) (r : zR) : zR := if Nat.beq len n then r else none
theorem z_g_ok {len n : Nat} {r : zR} {ss : List (Option Nat × zS)} (h : z_g len n r = some ss) : len = n ∧ r = some ss := by
  unfold z_g at h
  split at h
  next hb => exact ⟨Nat.eq_of_beq_eq_true hb, h⟩
  next => cases h
def z_or (a b : zR) : zR := match a with
  | some r => some r
  | none => b
theorem z_or_ok {a b : zR} {ss : List (Option Nat × zS)} (h : z_or a b = some ss) : a = some ss ∨ b = some ss := by
  unfold z_or at h
  split at h
  · cases h; exact Or.inl rfl
  · exact Or.inr h
def zstep (T : zTb) (fl : zFl) (M : zM) (pc : Nat) (i : Instr) (len : Nat) (st : zS) : zR := match i with
  | .iconst n => z_g len 1 (z_ipush n st)
  | .bipush n => z_g len 2 (z_bpush n st)
  | .sipush n => z_g len 3 (z_ipush n st)
  | .lconst n => z_g len 1 (z_push (1, 0, (n.val : Int)) st)
  | .aconst_null => z_g len 1 (z_push (3, 0, 0) st)
  | .ldc k => z_g len 2 (z_or (z_ldc T.2.2.2.2.2.2.2.1 M.2.2.2.2.2.2.2.1 k st) (z_ldcS T.2.2.2.2.2.2.2.2.2.2.2.2 M.2.2.2.2.2.2.2.1 k st))
  | .ldc_w k => z_g len 3 (z_ldc T.2.2.2.2.2.2.2.1 M.2.2.2.2.2.2.2.1 k st)
  | .ldc2_w k => z_g len 3 (z_ldc2 T.2.2.2.2.2.2.2.2.1 M.2.2.2.2.2.2.2.1 k st)
  | .iload k => z_g len 2 (z_ld z_k0 k st)
  | .iload_n k => z_g len 1 (z_ld z_k0 k.val st)
  | .lload k => z_g len 2 (z_ld z_k1 k st)
  | .lload_n k => z_g len 1 (z_ld z_k1 k.val st)
  | .aload k => z_g len 2 (z_ld z_kr k st)
  | .aload_n k => z_g len 1 (z_ld z_kr k.val st)
  | .istore k => z_g len 2 (z_sto z_k0 M.2.2.1 k st)
  | .istore_n k => z_g len 1 (z_sto z_k0 M.2.2.1 k.val st)
  | .lstore k => z_g len 2 (z_sto2 M.2.2.1 k st)
  | .lstore_n k => z_g len 1 (z_sto2 M.2.2.1 k.val st)
  | .astore k => z_g len 2 (z_sto z_kr M.2.2.1 k st)
  | .astore_n k => z_g len 1 (z_sto z_kr M.2.2.1 k.val st)
  | .iinc k n => z_g len 3 (z_inc M.2.2.1 k n st)
  | .iadd => z_g len 1 (z_bo 0 0 (z_em 0 (z_add2 0)) st)
  | .isub => z_g len 1 (z_bo 0 0 (z_em 1 (z_sub2 0)) st)
  | .imul => z_g len 1 (z_bo 0 0 (z_em 2 (z_mul 0 (cfI fun a b => a * b))) st)
  | .iand => z_g len 1 (z_or (z_ian fl.1 st) (z_bo 0 0 (z_em 3 (z_and (cfI fun a b => a &&& b))) st))
  | .ior => z_g len 1 (z_bo 0 0 (z_or2 (cfI fun a b => a ||| b)) st)
  | .ixor => z_g len 1 (z_bo 0 0 (z_fold 0 (cfI fun a b => a ^^^ b)) st)
  | .ishl => z_g len 1 (z_bo 0 0 (z_sft 0 31 (cfI fun a b => a <<< (b &&& 31))) st)
  | .ishr => z_g len 1 (z_bo 0 0 (z_fold 0 (cfI fun a b => a >>> (b &&& 31))) st)
  | .idiv => z_g len 1 (z_bo 0 0 (z_div 0) st)
  | .irem => z_g len 1 (z_bo 0 0 (z_rem 0) st)
  | .ladd => z_g len 1 (z_bo 1 1 (z_add2 1) st)
  | .lsub => z_g len 1 (z_bo 1 1 (z_sub2 1) st)
  | .lmul => z_g len 1 (z_bo 1 1 (z_mul 1 (cfL fun a b => a * b)) st)
  | .land => z_g len 1 (z_bo 1 1 (z_fold 1 (cfL fun a b => a &&& b)) st)
  | .lor => z_g len 1 (z_bo 1 1 (z_fold 1 (cfL fun a b => a ||| b)) st)
  | .ldiv => z_g len 1 (z_bo 1 1 (z_div 1) st)
  | .lrem => z_g len 1 (z_bo 1 1 (z_rem 1) st)
  | .lshl => z_g len 1 (z_bo 1 0 (z_fold 1 (cfS fun a b => a <<< (b.toInt64 &&& 63))) st)
  | .lshr => z_g len 1 (z_bo 1 0 (z_fold 1 (cfS fun a b => a >>> (b.toInt64 &&& 63))) st)
  | .i2l => z_g len 1 (z_uo 0 z_i2l st)
  | .l2i => z_g len 1 (z_uo 1 z_l2i st)
  | .i2b => z_g len 1 (z_uo 0 z_i2b st)
  | .i2s => z_g len 1 (z_uo 0 (z_uf (fun a => a.toInt16.toInt32) (-32768) 32767) st)
  | .i2c => z_g len 1 (z_uo 0 (z_uf (fun a => (a.toUInt32 % 65536).toInt32) (z_rl 0) (z_rh 0)) st)
  | .ineg => z_g len 1 (z_uo 0 z_neg st)
  | .iushr => z_g len 1 (z_bo 0 0 (z_fold 0 (cfI fun a b => (a.toUInt32 >>> (b.toUInt32 &&& Int32.toUInt32 31)).toInt32)) st)
  | .lneg => z_g len 1 (z_lneg st)
  | .dup => z_g len 1 (z_rest z_dup st)
  | .pop => z_g len 1 (z_rest z_pop st)
  | .pop2 => z_g len 1 (z_rest z_pop2 st)
  | .dup2 => z_g len 1 (z_rest z_dup2 st)
  | .if_icmp cd off => z_g len 3 (z_icmp cd pc off st)
  | .ifCond cd off => z_g len 3 (z_if cd pc off st)
  | .goto off => z_g len 3 (z_goto pc off st)
  | .lcmp => z_g len 1 (z_lcmp st)
  | .tableswitch d lo hi offs => z_tsw pc d lo hi offs st
  | .lookupswitch d ps => z_lsw pc d ps st
  | .getfield k => z_g len 3 (z_or (z_get T.1 T.2.2.2.1 M.2.2.2.2.2.2.2.1 k st) (z_getS T.2.2.2.2.2.2.2.2.2.2.2.2 M.2.2.2.2.2.2.2.1 k st))
  | .getstatic k => z_g len 3 (z_gst T.2.2.2.2.2.2.2.2.2.2.2.2 M.2.2.2.2.2.2.2.1 k st)
  | .putfield k => z_g len 3 (z_putf fl.2.1 T.2.1 T.1 T.2.2.2.1 M.2.2.2.2.2.2.2.1 M.2.2.2.2.2.2.2.2 k st)
  | .iaload => z_g len 1 (z_or (z_ald true z_t1 0 T.1 st) (z_sld fl.1 st))
  | .laload => z_g len 1 (z_ald false z_t2 1 T.1 st)
  | .baload => z_g len 1 (z_or (z_ald true z_t34 0 T.1 st) (z_aldS T.2.2.2.2.2.2.2.2.2.2.2.2 st))
  | .aaload => z_g len 1 (z_ald false (z_t5b T.2.2.1) 2 T.1 st)
  | .arraylength => z_g len 1 (z_or (z_alen T.1 T.2.2.1 st) (z_alenS T.2.2.2.2.2.2.2.2.2.2.2.2 st))
  | .iastore => z_g len 1 (z_ast fl.2.1 z_t1 0 z_vl z_vh T.1 st)
  | .bastore => z_g len 1 (z_ast fl.2.1 z_t34 0 z_vl z_vh T.1 st)
  | .lastore => z_g len 1 (z_ast fl.2.1 z_t2 1 z_vlL z_vhL T.1 st)
  | .aastore => z_g len 1 (z_aast fl.2.1 T.1 T.2.2.2.2.2.2.2.2.2.1 st)
  | .new k => z_g len 3 (z_new T.1 T.2.2.2.2.1 M.2.2.2.2.2.2.2.1 M.2.2.2.2.2.1 M.2.2.2.2.2.2.1 k st)
  | .newarray t => z_g len 2 (z_newa T.1 M.2.2.2.2.2.1 M.2.2.2.2.2.2.1 t st)
  | .anewarray k => z_g len 3 (z_anew T.1 T.2.2.2.2.2.1 M.2.2.2.2.2.2.2.1 M.2.2.2.2.2.1 M.2.2.2.2.2.2.1 k st)
  | .multianewarray k d => if d = 2 then z_g len 4 (z_mna T.1 T.2.2.2.2.2.2.1 M.2.2.2.2.2.2.2.1 M.2.2.2.2.2.1 M.2.2.2.2.2.2.1 k st) else none
  | _ => none
/-- the tables hold what the words say -/
def zTbOk (T : zTb) (zN : List String) (Ts : List Jvm.Cond) (cA : Nat → ClassId) (tys : List (ClassId × FieldType)) : Prop :=
  zClsOk T.2.1 zN Ts ∧ zGOk T.2.1 T.1 ∧ zFLOk T.2.1 zN T.2.2.2.1 Ts ∧ zTyOk cA T.2.2.1 tys ∧ zNWOk T.2.1 zN T.2.2.2.2.1 Ts ∧ zANOk zN T.2.2.1 T.2.2.2.2.2.1 Ts ∧ zMNOk zN T.2.2.1 T.2.2.2.2.2.2.1 Ts ∧ zKIOk zN T.2.2.2.2.2.2.2.1 Ts ∧ zKLOk zN T.2.2.2.2.2.2.2.2.1 Ts ∧ zTcOk T.2.1 T.2.2.1 T.2.2.2.2.2.2.2.2.2.1 ∧ zArOk Ts ∧ zSFOk zN T.2.2.2.2.2.2.2.2.2.2.2.2.2.2.1 Ts ∧ zGSOk zN T.2.2.2.2.2.2.2.2.2.2.2.2.2.2.2 Ts
/-- what holds within a method -/
def zCx (p : Program) (R : Room) (s : State) (m : MethodId) (args : Array Value) (meth : Method) (c : Code) (T : zTb) (zN : List String) (Ts : List Jvm.Cond) (D : va_G) (A : Nat → Prop) (tys : List (ClassId × FieldType)) (b : Nat → Nat) (sl : Nat) (xs : Nat → Int32) (h0 : Heap) (M : zM) : Prop :=
  p.tables.exec = Jvm.exec ∧ c.code = M.2.1 ∧ c.maxLocals = M.2.2.1 ∧ meth.sig.returnType = M.2.2.2.1 ∧ meth.locks = false ∧ s.vm.findClass M.1.cls = some m.cls ∧ (∀ w ∈ Ts, w.before args s = true) ∧ va_K D T.2.1 tys s ∧ (M.2.2.2.2.2.2.2.2 = true → meth.name = "<init>") ∧ (va_X (b 0) sl xs s h0 ∧ zOv T.2.2.1 s ∧ zStr T.2.2.2.2.2.2.2.2.2.2.2.2 zN A b s h0) ∧ b 0 < h0.size ∧ ¬ A (b 0) ∧ (∀ q : Nat, h0.size ≤ q → A q) ∧ sl ≤ 2147483647 ∧ M.2.2.2.2.2.1 ≤ R.cells ∧ M.2.2.2.2.2.2.1 ≤ R.slots
section ZST10
variable {p : Program} {l : Launch} {e : Env} {R : Room} {s : State} {m : MethodId} {args : Array Value} {below : List Frame} {meth : Method} {c : Code} {Q : State → Prop} {D : va_G} {A : Nat → Prop} {cA : Nat → ClassId} {b : Nat → Nat} {sl : Nat} {h0 : Heap} {pc : Nat} {T : zTb} {M : zM}
variable {Ts : List Jvm.Cond} {zN : List String} {tys : List (ClassId × FieldType)} {xs : Nat → Int32} {fl : zFl}
set_option maxHeartbeats 4000000 in
theorem zstep_sound (hT : zTbOk T zN Ts cA tys) (hC : zCx p R s m args meth c T zN Ts D A tys b sl xs s.heap M) (hN : zN[M.2.2.2.2.2.2.2.1]? = some M.1.cls) {i : Instr} {len : Nat} (hd : decode M.2.1 pc = .ok (i, len)) {st : zS} {ss : List (Option Nat × zS)} (h : zstep T fl M pc i len st = some ss) : zSt p l e R s m args below meth c Q D T.2.1 A cA T.1 b sl xs fl s.heap M.2.2.1 pc len st ss := by
  obtain ⟨hx, hb, hml, hr, hlk, hown, hts, hK, hin, hX, hbl, hbA, hA, hsl, hR1, hR2⟩ := hC
  obtain ⟨t1, t2, t3, t4, t5, t6, t7, t8, t9, t10, t11, t12, t13⟩ := hT
  cases i
  case iconst n => obtain ⟨rfl, h⟩ := z_g_ok h; exact zs_iconst hx hb hd h
  case bipush n => obtain ⟨rfl, h⟩ := z_g_ok h; exact zs_bipush hx hb hd h
  case sipush n => obtain ⟨rfl, h⟩ := z_g_ok h; exact zs_sipush hx hb hd h
  case lconst n => obtain ⟨rfl, h⟩ := z_g_ok h; exact zs_lconst hx hb hd h
  case aconst_null => obtain ⟨rfl, h⟩ := z_g_ok h; exact zs_null hx hb hd h
  case ldc k =>
    obtain ⟨rfl, h⟩ := z_g_ok h
    rcases z_or_ok h with h | h
    · exact zs_ldc hx hb hts hown hN t8 hd h
    · exact zs_ldcS hx hb hown hN hX.2.2.2 hd h
  case ldc_w k => obtain ⟨rfl, h⟩ := z_g_ok h; exact zs_ldcw hx hb hts hown hN t8 hd h
  case ldc2_w k => obtain ⟨rfl, h⟩ := z_g_ok h; exact zs_ldc2 hx hb hts hown hN t9 hd h
  case iload k => obtain ⟨rfl, h⟩ := z_g_ok h; exact zs_iload hx hb hd h
  case iload_n k => obtain ⟨rfl, h⟩ := z_g_ok h; exact zs_iload_n hx hb hd h
  case lload k => obtain ⟨rfl, h⟩ := z_g_ok h; exact zs_lload hx hb hd h
  case lload_n k => obtain ⟨rfl, h⟩ := z_g_ok h; exact zs_lload_n hx hb hd h
  case aload k => obtain ⟨rfl, h⟩ := z_g_ok h; exact zs_aload hx hb hd h
  case aload_n k => obtain ⟨rfl, h⟩ := z_g_ok h; exact zs_aload_n hx hb hd h
  case istore k => obtain ⟨rfl, h⟩ := z_g_ok h; exact zs_istore hx hb hd h
  case istore_n k => obtain ⟨rfl, h⟩ := z_g_ok h; exact zs_istore_n hx hb hd h
  case lstore k => obtain ⟨rfl, h⟩ := z_g_ok h; exact zs_lstore hx hb hd h
  case lstore_n k => obtain ⟨rfl, h⟩ := z_g_ok h; exact zs_lstore_n hx hb hd h
  case astore k => obtain ⟨rfl, h⟩ := z_g_ok h; exact zs_astore hx hb hd h
  case astore_n k => obtain ⟨rfl, h⟩ := z_g_ok h; exact zs_astore_n hx hb hd h
  case iinc k n => obtain ⟨rfl, h⟩ := z_g_ok h; exact zs_inc hx hb hd h
  case iadd => obtain ⟨rfl, h⟩ := z_g_ok h; exact zs_iadd hx hb hd h
  case isub => obtain ⟨rfl, h⟩ := z_g_ok h; exact zs_isub hx hb hd h
  case imul => obtain ⟨rfl, h⟩ := z_g_ok h; exact zs_imul hx hb hd h
  case iand =>
    obtain ⟨rfl, h⟩ := z_g_ok h
    rcases z_or_ok h with h | h
    · exact zs_ian hx hb hd h
    · exact zs_iand hx hb hd h
  case ior => obtain ⟨rfl, h⟩ := z_g_ok h; exact zs_ior hx hb hd h
  case ixor => obtain ⟨rfl, h⟩ := z_g_ok h; exact zs_ixor hx hb hd h
  case ishl => obtain ⟨rfl, h⟩ := z_g_ok h; exact zs_ishl hx hb hd h
  case ishr => obtain ⟨rfl, h⟩ := z_g_ok h; exact zs_ishr hx hb hd h
  case idiv => obtain ⟨rfl, h⟩ := z_g_ok h; exact zs_idiv hx hb hd h
  case irem => obtain ⟨rfl, h⟩ := z_g_ok h; exact zs_irem hx hb hd h
  case ladd => obtain ⟨rfl, h⟩ := z_g_ok h; exact zs_ladd hx hb hd h
  case lsub => obtain ⟨rfl, h⟩ := z_g_ok h; exact zs_lsub hx hb hd h
  case lmul => obtain ⟨rfl, h⟩ := z_g_ok h; exact zs_lmul hx hb hd h
  case land => obtain ⟨rfl, h⟩ := z_g_ok h; exact zs_land hx hb hd h
  case lor => obtain ⟨rfl, h⟩ := z_g_ok h; exact zs_lor hx hb hd h
  case ldiv => obtain ⟨rfl, h⟩ := z_g_ok h; exact zs_ldiv hx hb hd h
  case lrem => obtain ⟨rfl, h⟩ := z_g_ok h; exact zs_lrem hx hb hd h
  case lshl => obtain ⟨rfl, h⟩ := z_g_ok h; exact zs_lshl hx hb hd h
  case lshr => obtain ⟨rfl, h⟩ := z_g_ok h; exact zs_lshr hx hb hd h
  case i2l => obtain ⟨rfl, h⟩ := z_g_ok h; exact zs_i2l hx hb hd h
  case l2i => obtain ⟨rfl, h⟩ := z_g_ok h; exact zs_l2i hx hb hd h
  case i2b => obtain ⟨rfl, h⟩ := z_g_ok h; exact zs_i2b hx hb hd h
  case i2s => obtain ⟨rfl, h⟩ := z_g_ok h; exact zs_i2s hx hb hd h
  case i2c => obtain ⟨rfl, h⟩ := z_g_ok h; exact zs_i2c hx hb hd h
  case ineg => obtain ⟨rfl, h⟩ := z_g_ok h; exact zs_ineg hx hb hd h
  case iushr => obtain ⟨rfl, h⟩ := z_g_ok h; exact zs_iushr hx hb hd h
  case lneg => obtain ⟨rfl, h⟩ := z_g_ok h; exact zs_lneg hx hb hd h
  case dup => obtain ⟨rfl, h⟩ := z_g_ok h; exact zs_dup hx hb hd h
  case pop => obtain ⟨rfl, h⟩ := z_g_ok h; exact zs_pop hx hb hd h
  case pop2 => obtain ⟨rfl, h⟩ := z_g_ok h; exact zs_pop2 hx hb hd h
  case dup2 => obtain ⟨rfl, h⟩ := z_g_ok h; exact zs_dup2 hx hb hd h
  case if_icmp cd off => obtain ⟨rfl, h⟩ := z_g_ok h; exact zs_icmp hx hb hd h
  case ifCond cd off => obtain ⟨rfl, h⟩ := z_g_ok h; exact zs_if hx hb hd h
  case goto off => obtain ⟨rfl, h⟩ := z_g_ok h; exact zs_goto hx hb hd h
  case lcmp => obtain ⟨rfl, h⟩ := z_g_ok h; exact zs_lcmp hx hb hd h
  case tableswitch d lo hi offs => exact zs_tsw hx hb hd h
  case lookupswitch d ps => exact zs_lsw hx hb hd h
  case getfield k =>
    obtain ⟨rfl, h⟩ := z_g_ok h
    rcases z_or_ok h with h | h
    · exact zs_get hx hb hts hK hown hN t1 t3 hd h
    · exact zs_getS hx hb hts hown hN t12 hX.2.2.1 hd h
  case getstatic k => obtain ⟨rfl, h⟩ := z_g_ok h; exact zs_gst hx hb hts hown hN t13 hX.2.2.1 hd h
  case putfield k => obtain ⟨rfl, h⟩ := z_g_ok h; exact zs_putf hx hb hts hK hown hN t1 t2 t3 hin hd h
  case iaload =>
    obtain ⟨rfl, h⟩ := z_g_ok h
    rcases z_or_ok h with h | h
    · exact zs_iald hx hb hK t4 hd h
    · exact zs_sld hx hb hX.1 hbl hbA hd h
  case laload => obtain ⟨rfl, h⟩ := z_g_ok h; exact zs_lald hx hb hK t4 hd h
  case baload =>
    obtain ⟨rfl, h⟩ := z_g_ok h
    rcases z_or_ok h with h | h
    · exact zs_bald hx hb hK t4 hd h
    · exact zs_aldS hx hb hX.2.2.1 hd h
  case aaload => obtain ⟨rfl, h⟩ := z_g_ok h; exact zs_aald hx hb hK t4 hd h
  case arraylength =>
    obtain ⟨rfl, h⟩ := z_g_ok h
    rcases z_or_ok h with h | h
    · exact zs_alen hx hb hK t4 hX.1 hbl hbA hsl hd h
    · exact zs_alenS hx hb hX.2.2.1 hd h
  case iastore => obtain ⟨rfl, h⟩ := z_g_ok h; exact zs_iast hx hb hK t4 hd h
  case bastore => obtain ⟨rfl, h⟩ := z_g_ok h; exact zs_bast hx hb hK t4 hd h
  case lastore => obtain ⟨rfl, h⟩ := z_g_ok h; exact zs_last hx hb hK t4 hd h
  case aastore => obtain ⟨rfl, h⟩ := z_g_ok h; exact zs_aast hx hb hK t4 t10 hd h
  case new k => obtain ⟨rfl, h⟩ := z_g_ok h; exact zs_new hx hb hts hK hown hN t1 t2 t5 hA hR1 hR2 hd h
  case newarray t => obtain ⟨rfl, h⟩ := z_g_ok h; exact zs_newa hx hb hts hK t4 t11 hA hR1 hR2 hd h
  case anewarray k => obtain ⟨rfl, h⟩ := z_g_ok h; exact zs_anew hx hb hts hK hown hN t4 hX.2.1 t6 hA hR1 hR2 hd h
  case multianewarray k d =>
    change (if d = 2 then z_g len 4 (z_mna T.1 T.2.2.2.2.2.2.1 M.2.2.2.2.2.2.2.1 M.2.2.2.2.2.1 M.2.2.2.2.2.2.1 k st) else none) = some ss at h
    split at h
    next hd2 =>
      subst hd2
      obtain ⟨rfl, h⟩ := z_g_ok h
      exact zs_mna hx hb hts hK hown hN t4 hX.2.1 t7 hA hR1 hR2 hd h
    next => cases h
  all_goals (change (none : zR) = some ss at h; cases h)
end ZST10
