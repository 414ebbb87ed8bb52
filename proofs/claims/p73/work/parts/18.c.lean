/-! ===== copies between arrays of which one bound each is known ===== -/
/-- a number at least 0, and by how much at the most -/
def z_ca (iv : zI) (x : zV) : Option (Int × Int) := if x.1 = 0 then (match z_bd iv x with
  | some q => if 0 ≤ q.1 then some q else none
  | none => none) else none
/-- two numbers that lie within n together -/
def z_cs (iv : zI) (x y : zV) (a b : Int × Int) (n : Int) : Bool := decide (a.2 + b.2 ≤ n) || (iv.fs.1 && z_pv iv 5 (z_ff n [(-1, x), (-1, y)]))
theorem z_cs_ok {iv : zI} {ρ : Nat → Int} {x y : zV} {a b : Int × Int} {n : Int} (h : ziv iv ρ) (ha : z_val ρ x ≤ a.2) (hb : z_val ρ y ≤ b.2) (hc : z_cs iv x y a b n = true) : z_val ρ x + z_val ρ y ≤ n := by
  unfold z_cs at hc
  rcases Bool.or_eq_true _ _ ▸ hc with c | c
  · have := of_decide_eq_true c; omega
  · rw [Bool.and_eq_true] at c
    have t1 := z_pv_ok h 5 _ c.2
    rw [z_ff_ok h.1] at t1
    change 0 ≤ n + (-1 * z_val ρ x + (-1 * z_val ρ y + 0)) at t1
    omega
def z_copy (K : List (Nat × Nat)) (G : List zC) (st : zS) : zR := match st with
  | (cu, su, iv, lv, n :: dp :: d :: sp :: a :: r, ov) => match z_ca iv n, z_ca iv dp, z_ca iv sp, G[d.2.1]?, G[a.2.1]? with
    | some n', some dp', some sp', some gd, some ga => if d.1 = 2 ∧ a.1 = 2 ∧ gd.1 = ga.1 ∧ (gd.1 = 1 ∨ gd.1 = 2) ∧ z_cs iv sp n sp' n' (ga.2.1 : Int) = true ∧ z_cs iv dp n dp' n' (gd.2.1 : Int) = true ∧ z_ink K d.2.1 = false then (match gd.2.2, ga.2.2 with
      | [(k, lo, hi)], [(k2, lo2, hi2)] => if k = k2 ∧ k = gd.1 - 1 ∧ lo ≤ lo2 ∧ hi2 ≤ hi then some [(none, (cu, su, iv, lv, r, z_ere ov d.2.1 0 gd.2.1))] else none
      | _, _ => none) else none
    | _, _, _, _, _ => none
  | _ => none
theorem z_ca_ok {iv : zI} {x : zV} {n : Nat} {q : Int × Int} {ρ : Nat → Int} (h : z_ca iv x = some q) (hi : ziv iv ρ) (hx : zok n iv ρ x) (ad : Nat → Nat) (b : Nat → Nat) : zcv ad b ρ x = .int (Int32.ofInt (z_val ρ x)) ∧ 0 ≤ z_val ρ x ∧ z_val ρ x ≤ q.2 ∧ ¬ Int32.ofInt (z_val ρ x) < 0 ∧ (Int32.ofInt (z_val ρ x)).toNatClampNeg = (z_val ρ x).toNat := by
  unfold z_ca at h
  split at h
  next hk =>
    split at h
    next q0 hq0 =>
      split at h
      next hc =>
        cases h
        have b1 := z_bd_ok hq0 hi
        have o := z_ok0 hx hk
        have e := z_i32 o.2.1 o.2.2
        refine ⟨z_cv0 hk ad b ρ, by omega, by omega, ?_, ?_⟩
        · rw [Int32.lt_iff_toInt_lt, e]
          have : (0 : Int32).toInt = 0 := rfl
          omega
        · show (Int32.ofInt (z_val ρ x)).toInt.toNat = _
          rw [e]
      next => cases h
    next => cases h
  next => cases h
section ZST9C
variable {p : Program} {l : Launch} {e : Env} {R : Room} {s : State} {m : MethodId} {args : Array Value} {below : List Frame} {meth : Method} {c : Code} {Q : State → Prop} {D : va_G} {cl : List vw_C} {A : Nat → Prop} {cA : Nat → ClassId} {G : List zC} {b : Nat → Nat} {sl : Nat} {xs : Nat → Int32} {fl : zFl} {h0 : Heap} {nL : Nat} {cc : ByteArray} {pc : Nat}
variable {Ts : List Jvm.Cond} {zN : List String} {FL : List (List (Nat × Nat × Nat))} {tys : List (ClassId × FieldType)} {tyl : List FieldType} {own : String} {cn : Nat}
theorem z_spb {g : zC} {ov : zO} {ad : Nat → Nat} {ρ : Nat → Int} {pp j : Nat} {V : Value} {sp : Nat × Int × Int} (hw : z_wv g ov ad b ρ pp j V) (hg : g.2.2 = [sp]) : z_spv ov.length ad (some sp) V := by
  have := hw.1
  unfold z_sp at this
  rw [hg] at this
  exact this
set_option maxHeartbeats 1000000 in
theorem zs_copy (hx : p.tables.exec = Jvm.exec) (hb : c.code = cc) (hml : c.maxLocals = nL) (hK : va_K D cl tys s) (hT : zTyOk cA tyl tys) (hown : s.vm.findClass own = some m.cls) {idx : Nat} (hlink : (Jvm.Cond.methodLink own idx arraycopyName).before args s = true) (hnat : (Jvm.Cond.native arraycopyName).before args s = true) (hstat : (Jvm.Cond.static arraycopyName).before args s = true) (hini : (Jvm.Cond.initialized "java/lang/System").before args s = true) (hfr : 1 ≤ R.frames) {lo : Nat} (hlo : lo ≤ R.locals) {st : zS} (hsum : ∀ (ad : Nat → Nat) (ρ : Nat → Int), (((st.2.2.2.2.1.drop 5).map (zcv ad b ρ)).map fun v => v.category).sum + (nativeFrameWords "java/lang/System" "arraycopy" 5 + 11) ≤ lo) {ss : List (Option Nat × zS)} (hd : decode cc pc = .ok (.invokestatic idx, 3)) (h : z_copy fl.2.1 G st = some ss) : zSt p l e R s m args below meth c Q D cl A cA G b sl xs fl h0 nL pc 3 st ss := by
  obtain ⟨cu, su, iv, lv, sk, ov⟩ := st
  unfold z_copy at h
  rcases sk with _ | ⟨n, _ | ⟨dp, _ | ⟨d, _ | ⟨sp, _ | ⟨a, r⟩⟩⟩⟩⟩
  · cases h
  · cases h
  · cases h
  · cases h
  · cases h
  dsimp only at h
  split at h
  next n' dp' sp' gd ga e1 e2 e3 hgd hga =>
    split at h
    next hc =>
      obtain ⟨c1, c2, c3, c4, c5, c6, c7⟩ := hc
      split at h
      next k1 lo1 hi1 k2 lo2 hi2 hs1 hs2 =>
        split at h
        next hb9 =>
          cases h
          obtain ⟨rfl, hkk, hb1, hb2⟩ := hb9
          intro ρ ad ws H locs ls hgm kk
          have m1 := hgm.1.2.2.1 n List.mem_cons_self
          have m2 := hgm.1.2.2.1 dp (List.mem_cons_of_mem _ List.mem_cons_self)
          have m3 := hgm.1.2.2.1 sp (List.mem_cons_of_mem _ (List.mem_cons_of_mem _ (List.mem_cons_of_mem _ List.mem_cons_self)))
          obtain ⟨v1, p1, q1, r1, t1⟩ := z_ca_ok e1 hgm.1.1 m1 ad b
          obtain ⟨v2, p2, q2, r2, t2⟩ := z_ca_ok e2 hgm.1.1 m2 ad b
          obtain ⟨v3, p3, q3, r3, t3⟩ := z_ca_ok e3 hgm.1.1 m3 ad b
          have f1 := z_cs_ok hgm.1.1 q3 q1 c5
          have f2 := z_cs_ok hgm.1.1 q2 q1 c6
          have hdo : d.2.1 < ov.length := by
            have h9 := hgm.1.2.2.1 d (List.mem_cons_of_mem _ (List.mem_cons_of_mem _ List.mem_cons_self))
            unfold zok at h9; rw [c1] at h9; exact h9
          have hao : a.2.1 < ov.length := by
            have h9 := hgm.1.2.2.1 a (List.mem_cons_of_mem _ (List.mem_cons_of_mem _ (List.mem_cons_of_mem _ (List.mem_cons_of_mem _ List.mem_cons_self))))
            unfold zok at h9; rw [c2] at h9; exact h9
          obtain ⟨ed, hqd, hed⟩ := z_wd_at hgm.2.2.1 hdo hgd
          obtain ⟨ea, hqa, hea⟩ := z_wd_at hgm.2.2.1 hao hga
          have hrr : ∀ w ∈ r, zok ov.length iv ρ w := fun w hw => hgm.1.2.2.1 w (List.mem_cons_of_mem _ (List.mem_cons_of_mem _ (List.mem_cons_of_mem _ (List.mem_cons_of_mem _ (List.mem_cons_of_mem _ hw)))))
          have hor : ∀ p' i', z_lk (z_ere ov d.2.1 0 gd.2.1) p' i' = none ∨ z_lk (z_ere ov d.2.1 0 gd.2.1) p' i' = z_lk ov p' i' := fun _ _ => z_ere_or
          have hok : ∀ (p9 i9 : Nat) (w : zV), z_lk (z_ere ov d.2.1 0 gd.2.1) p9 i9 = some w → zok ov.length iv ρ w := fun p9 i9 w hw => by
            rcases hor p9 i9 with q | q
            · rw [q] at hw; cases hw
            · rw [q] at hw; exact hgm.1.2.2.2 p9 i9 w hw
          have fin : ∀ (e1 : va_E) (H1 : Heap) (locs1 : List Loc), z_en cA gd (z_wv gd (z_ere ov d.2.1 0 gd.2.1) ad b ρ d.2.1) e1 → va_P D cl (ws.set d.2.1 (ad d.2.1, e1)) H1 → va_D A (ws.set d.2.1 (ad d.2.1, e1)) → va_S A h0 H1 locs1 → W p l e R s m args below meth c H1 locs1 cu su Q (F0 m (pc + 3) ls (r.map (zcv ad b ρ))) := fun e1 H1 locs1 hen hP1 hD1 hS1 =>
            kk _ (List.mem_singleton.mpr rfl) ρ ad _ H1 locs1 ls ⟨fun _ _ => rfl, fun _ _ => rfl, Nat.le_refl _, Nat.le_refl _⟩ (hgm.ov hgm.1.1 rfl rfl hok hrr (z_wd_upd hgm.2.2.1 hqd hgd rfl (fun p' _ i => hor p' i) hen) hP1 hD1 hS1 rfl (zKp.set hgm.2.2.2.2.2.2.2.2.2 c7))
          have wv : ∀ (j : Nat) (V : Value), j < gd.2.1 → z_spv ov.length ad (some (k1, lo1, hi1)) V → z_wv gd (z_ere ov d.2.1 0 gd.2.1) ad b ρ d.2.1 j V := fun j V hj hV => by
            unfold z_wv
            rw [z_ere_at (Nat.zero_le _) (Nat.le_of_lt hj)]
            refine ⟨?_, True.intro⟩
            unfold z_sp
            rw [hs1]
            exact hV
          show W p l e R s m args below meth c H locs cu su Q (F0 m pc ls (zcv ad b ρ n :: zcv ad b ρ dp :: zcv ad b ρ d :: zcv ad b ρ sp :: zcv ad b ρ a :: r.map (zcv ad b ρ)))
          rw [v1, v2, v3, z_cv2 c1, z_cv2 c2]
          rcases c4 with g1 | g1
          · have g2 : ga.1 = 1 := by omega
            have ek : k1 = 0 := by omega
            subst ek
            obtain ⟨gf, rfl, hgf⟩ := z_en1 g1 hed
            obtain ⟨ff, rfl, hff⟩ := z_en1 g2 hea
            refine va_copyi hx hb (hml.trans hgm.2.1.1.symm) hown hlink hnat hstat hini hK hgm.2.2.2.1 hgm.2.2.2.2.1 hgm.2.2.2.2.2.1 a.2.1 d.2.1 0 0 hqa hqd (hT.2.2.2.2.2 0 _ hT.1) (hT.2.2.2.2.2 0 _ hT.1) rfl r3 r2 r1 (by rw [t3, t1]; omega) (by rw [t2, t1]; omega) (fun _ _ => rfl) hfr (Nat.le_trans (hsum ad ρ) hlo) hd (fun H1 locs1 hP1 hD1 hS1 => fin _ H1 locs1 ?_ hP1 hD1 hS1)
            unfold z_en
            rw [g1]
            refine ⟨_, rfl, fun j hj => wv j _ hj ?_⟩
            unfold va_cpy
            split
            next hin =>
              obtain ⟨X, eX, b1, b2⟩ := z_spb (hff (((Int32.ofInt (z_val ρ sp)).toNatClampNeg) + (j - (Int32.ofInt (z_val ρ dp)).toNatClampNeg)) (by rw [t3, t2] at *; rw [t1] at hin; omega)) hs2
              exact ⟨X, eX, by omega, by omega⟩
            next => exact z_spb (hgf j hj) hs1
          · have g2 : ga.1 = 2 := by omega
            have ek : k1 = 1 := by omega
            subst ek
            obtain ⟨gf, rfl, hgf⟩ := z_en2 g1 hed
            obtain ⟨ff, rfl, hff⟩ := z_en2 g2 hea
            refine va_copyl hx hb (hml.trans hgm.2.1.1.symm) hown hlink hnat hstat hini hK hgm.2.2.2.1 hgm.2.2.2.2.1 hgm.2.2.2.2.2.1 a.2.1 d.2.1 1 1 hqa hqd (hT.2.2.2.2.2 1 _ hT.2.1) (hT.2.2.2.2.2 1 _ hT.2.1) rfl r3 r2 r1 (by rw [t3, t1]; omega) (by rw [t2, t1]; omega) (fun _ _ => rfl) hfr (Nat.le_trans (hsum ad ρ) hlo) hd (fun H1 locs1 hP1 hD1 hS1 => fin _ H1 locs1 ?_ hP1 hD1 hS1)
            unfold z_en
            rw [g1]
            refine ⟨_, rfl, fun j hj => wv j _ hj ?_⟩
            unfold va_cpy
            split
            next hin =>
              obtain ⟨X, eX, b1, b2⟩ := z_spb (hff (((Int32.ofInt (z_val ρ sp)).toNatClampNeg) + (j - (Int32.ofInt (z_val ρ dp)).toNatClampNeg)) (by rw [t3, t2] at *; rw [t1] at hin; omega)) hs2
              exact ⟨X, eX, by omega, by omega⟩
            next => exact z_spb (hgf j hj) hs1
        next => cases h
      next => cases h
    next => cases h
  next => cases h
end ZST9C
