/-! ===== one value for one: what the first checker didn't need ===== -/
def zUi (op : Int32 → Int32) (f : zI → zV → Option (zI × zV)) : Prop := ∀ (iv : zI) (x : zV) (r : zI × zV) (ρ : Nat → Int) (X : Int32), f iv x = some r → ziv iv ρ → x.2.1 < iv.length → X.toInt = z_val ρ x → ∃ ρ', zNw iv r.1 ρ ρ' 0 r.2 (op X).toInt
def z_uf (op : Int32 → Int32) (lo hi : Int) (iv : zI) (x : zV) : Option (zI × zV) := match z_bd iv x with
  | some q => if q.1 = q.2 then some (iv, (0, 0, (op (Int32.ofInt q.1)).toInt)) else some (z_mk iv 0 lo hi)
  | none => none
theorem zu_uf {op : Int32 → Int32} {lo hi : Int} (hop : ∀ X : Int32, lo ≤ (op X).toInt ∧ (op X).toInt ≤ hi) : zUi op (z_uf op lo hi) := by
  intro iv x r ρ X h hi' hx eX
  unfold z_uf at h
  split at h
  next q e1 =>
    have b1 := z_bd_ok e1 hi'
    split at h
    next h0 =>
      cases h
      have ex : X = Int32.ofInt q.1 := by rw [← z_o32 X, eX]; congr 1; omega
      refine z_same hi' rfl hi'.2.1 ?_
      show ρ 0 + _ = _
      rw [hi'.1, ex]; exact Int.zero_add _
    next => cases h; exact z_mk_ok 0 hi' (hop X).1 (hop X).2
  next => cases h
def z_neg (iv : zI) (x : zV) : Option (zI × zV) := match z_bd iv x with
  | some q => if z_in 0 (-q.2) (-q.1) then some (z_mk iv 0 (-q.2) (-q.1)) else some (z_mk iv 0 (z_rl 0) (z_rh 0))
  | none => none
theorem z_negI {x : Int32} (h : x.toInt ≠ -2147483648) : (-x).toInt = -x.toInt := by
  have := z_r32 x
  rw [Int32.toInt_neg]
  exact z_bm32 (by omega) (by omega)
theorem z_negL {x : Int64} (h : x.toInt ≠ -9223372036854775808) : (-x).toInt = -x.toInt := by
  have := z_r64 x
  rw [Int64.toInt_neg]
  exact z_bm64 (by omega) (by omega)
theorem zu_neg : zUi (fun a => -a) z_neg := by
  intro iv x r ρ X h hi hx eX
  unfold z_neg at h
  split at h
  next q e1 =>
    have b1 := z_bd_ok e1 hi
    split at h
    next hin =>
      have hr := z_in0 hin
      have es : (-X).toInt = -z_val ρ x := by rw [z_negI (by omega), eX]
      cases h
      exact z_mk_ok 0 hi (by show _ ≤ (-X).toInt; omega) (by show (-X).toInt ≤ _; omega)
    next => cases h; exact zBi_full hi _
  next => cases h
section ZST3B
variable {p : Program} {l : Launch} {e : Env} {R : Room} {s : State} {m : MethodId} {args : Array Value} {below : List Frame} {meth : Method} {c : Code} {Q : State → Prop} {D : va_G} {cl : List vw_C} {A : Nat → Prop} {cA : Nat → ClassId} {G : List zC} {b : Nat → Nat} {sl : Nat} {xs : Nat → Int32} {fl : zFl} {h0 : Heap} {nL : Nat} {cc : ByteArray} {pc : Nat}
theorem zs_ui {op : Int32 → Int32} {f : zI → zV → Option (zI × zV)} {st : zS} {ss : List (Option Nat × zS)} (hf : zUi op f) (h : z_uo 0 f st = some ss)
    (hr : ∀ (X : Int32) (H : Heap) (locs : List Loc) (cells slots : Nat) (ls : Array Slot) (rest : List Value), W p l e R s m args below meth c H locs cells slots Q (F0 m (pc + 1) ls (.int (op X) :: rest)) → W p l e R s m args below meth c H locs cells slots Q (F0 m pc ls (.int X :: rest))) : zSt p l e R s m args below meth c Q D cl A cA G b sl xs fl h0 nL pc 1 st ss := by
  obtain ⟨cu, su, iv, lv, x, r, ov, q, rfl, hk, hq, rfl⟩ := z_uo_inv h
  intro ρ ad ws H locs ls hg kk
  have ox := z_ok0 (hg.1.2.2.1 x List.mem_cons_self) hk
  have eX := z_i32 ox.2.1 ox.2.2
  obtain ⟨ρ', n1, n2, n3, n4, n5, n6⟩ := hf iv x q ρ _ hq hg.1.1 ox.1 eX
  show W p l e R s m args below meth c H locs cu su Q (F0 m pc ls (zcv ad b ρ x :: r.map (zcv ad b ρ)))
  rw [z_cv0 hk]
  refine hr _ _ _ _ _ _ _ ?_
  exact z_fin hg (fun w hw => List.mem_cons_of_mem _ hw) n1 n2 n3 (z_ok0' n4 n5 _ n6) (by rw [z_cv0 n4, n6, z_o32]) kk
theorem z_s16 (X : Int32) : -32768 ≤ (X.toInt16.toInt32).toInt ∧ (X.toInt16.toInt32).toInt ≤ 32767 := by
  rw [Int16.toInt_toInt32]
  have a := X.toInt16.le_toInt
  have b := X.toInt16.toInt_lt
  omega
theorem zs_i2s (hx : p.tables.exec = Jvm.exec) (hb : c.code = cc) {st : zS} {ss : List (Option Nat × zS)} (hd : decode cc pc = .ok (.i2s, 1)) (h : z_uo 0 (z_uf (fun a => a.toInt16.toInt32) (-32768) 32767) st = some ss) : zSt p l e R s m args below meth c Q D cl A cA G b sl xs fl h0 nL pc 1 st ss := zs_ui (zu_uf z_s16) h (fun X _ _ _ _ _ _ k => lv_i2s hx hb hd rfl k)
theorem zs_i2c (hx : p.tables.exec = Jvm.exec) (hb : c.code = cc) {st : zS} {ss : List (Option Nat × zS)} (hd : decode cc pc = .ok (.i2c, 1)) (h : z_uo 0 (z_uf (fun a => (a.toUInt32 % 65536).toInt32) (z_rl 0) (z_rh 0)) st = some ss) : zSt p l e R s m args below meth c Q D cl A cA G b sl xs fl h0 nL pc 1 st ss := zs_ui (zu_uf (fun X => z_r32 _)) h (fun X _ _ _ _ _ _ k => lv_i2c hx hb hd rfl k)
theorem zs_ineg (hx : p.tables.exec = Jvm.exec) (hb : c.code = cc) {st : zS} {ss : List (Option Nat × zS)} (hd : decode cc pc = .ok (.ineg, 1)) (h : z_uo 0 z_neg st = some ss) : zSt p l e R s m args below meth c Q D cl A cA G b sl xs fl h0 nL pc 1 st ss := zs_ui zu_neg h (fun X _ _ _ _ _ _ k => lv_ineg hx hb hd k)
theorem zs_iushr (hx : p.tables.exec = Jvm.exec) (hb : c.code = cc) {st : zS} {ss : List (Option Nat × zS)} (hd : decode cc pc = .ok (.iushr, 1)) (h : z_bo 0 0 (z_fold 0 (cfI fun a b => (a.toUInt32 >>> (b.toUInt32 &&& Int32.toUInt32 31)).toInt32)) st = some ss) : zSt p l e R s m args below meth c Q D cl A cA G b sl xs fl h0 nL pc 1 st ss := zs_bi (zb_ifold fun a b => (a.toUInt32 >>> (b.toUInt32 &&& Int32.toUInt32 31)).toInt32) h (fun X Y _ _ _ _ _ _ _ k => lv_iushr hx hb hd rfl k)
/-- the least long apart from the others -/
def z_lneg (st : zS) : zR := match st with
  | (cu, su, iv, lv, x :: r, ov) => if x.1 = 1 then (match z_bd iv x with
    | some q => if -9223372036854775808 < q.1 then some [(none, (cu, su, (z_mk iv 1 (-q.2) (-q.1)).1, lv, (z_mk iv 1 (-q.2) (-q.1)).2 :: r, ov))] else some [(none, (cu, su, iv, lv, (1, 0, -9223372036854775808) :: r, ov)), (none, (cu, su, (z_mk iv 1 (-q.2) 9223372036854775807).1, lv, (z_mk iv 1 (-q.2) 9223372036854775807).2 :: r, ov))]
    | none => none) else none
  | _ => none
theorem zs_lneg (hx : p.tables.exec = Jvm.exec) (hb : c.code = cc) {st : zS} {ss : List (Option Nat × zS)} (hd : decode cc pc = .ok (.lneg, 1)) (h : z_lneg st = some ss) : zSt p l e R s m args below meth c Q D cl A cA G b sl xs fl h0 nL pc 1 st ss := by
  obtain ⟨cu, su, iv, lv, sk, ov⟩ := st
  unfold z_lneg at h
  rcases sk with _ | ⟨x, r⟩
  · cases h
  dsimp only at h
  split at h
  next hk =>
    split at h
    next q hq =>
      intro ρ ad ws H locs ls hg kk
      have ox := z_ok1 (hg.1.2.2.1 x List.mem_cons_self) hk
      have eX := z_i64 ox.2.1 ox.2.2
      have b1 := z_bd_ok hq hg.1.1
      show W p l e R s m args below meth c H locs cu su Q (F0 m pc ls (zcv ad b ρ x :: r.map (zcv ad b ρ)))
      rw [z_cv1 hk]
      refine lv_lneg hx hb hd ?_
      split at h
      next hlt =>
        cases h
        have es : (-(Int64.ofInt (z_val ρ x))).toInt = -z_val ρ x := by rw [z_negL (by rw [eX]; omega), eX]
        obtain ⟨ρ', n1, n2, n3, n4, n5, n6⟩ := z_mk_ok 1 (lo := -q.2) (hi := -q.1) (x := (-(Int64.ofInt (z_val ρ x))).toInt) hg.1.1 (by rw [es]; omega) (by rw [es]; omega)
        exact z_fin hg (fun w hw => List.mem_cons_of_mem _ hw) n1 n2 n3 (z_ok1' n4 n5 _ n6) (by rw [z_cv1 n4, n6, z_o64]) kk
      next =>
        cases h
        by_cases e : z_val ρ x = -9223372036854775808
        · rw [e]
          exact z_fin (v := (1, 0, -9223372036854775808)) hg (fun w hw => List.mem_cons_of_mem _ hw) (fun _ _ => rfl) (Nat.le_refl _) hg.1.1 (z_okl hg.1.1 (by omega) (by omega)) (by rw [z_cvl hg.1.1.1]; rfl) (fun q hq => kk q (by rw [List.mem_singleton] at hq; rw [hq]; exact List.mem_cons_self))
        · have es : (-(Int64.ofInt (z_val ρ x))).toInt = -z_val ρ x := by rw [z_negL (by rw [eX]; exact e), eX]
          obtain ⟨ρ', n1, n2, n3, n4, n5, n6⟩ := z_mk_ok 1 (lo := -q.2) (hi := 9223372036854775807) (x := (-(Int64.ofInt (z_val ρ x))).toInt) hg.1.1 (by rw [es]; omega) (by rw [es]; omega)
          exact z_fin hg (fun w hw => List.mem_cons_of_mem _ hw) n1 n2 n3 (z_ok1' n4 n5 _ n6) (by rw [z_cv1 n4, n6, z_o64]) (fun q hq => kk q (by rw [List.mem_singleton] at hq; rw [hq]; exact List.mem_cons_of_mem _ (List.mem_singleton.mpr rfl)))
    next => cases h
  next => cases h
end ZST3B
