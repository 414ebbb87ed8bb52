/-! ===== a place of an array, by the bounds of all places that it can be ===== -/
def z_pl (g : zC) (iv : zI) (ov : zO) (p k i : Nat) : Option (Int × Int) := match z_lk ov p i with
  | some v => if v.1 = k then z_bd iv v else none
  | none => (match z_sp g i with
    | some (k', l, h) => if k' = k then some (l, h) else if k' = 5 ∧ k = 0 then some (0, 13040013) else none
    | none => none)
def z_hul (g : zC) (iv : zI) (ov : zO) (p k lo : Nat) : Nat → Option (Int × Int)
  | 0 => z_pl g iv ov p k lo
  | n + 1 => match z_hul g iv ov p k lo n, z_pl g iv ov p k (lo + (n + 1)) with
    | some a, some b => some (min a.1 b.1, max a.2 b.2)
    | _, _ => none
section ZST6B
variable {p : Program} {l : Launch} {e : Env} {R : Room} {s : State} {m : MethodId} {args : Array Value} {below : List Frame} {meth : Method} {c : Code} {Q : State → Prop} {D : va_G} {cl : List vw_C} {A : Nat → Prop} {cA : Nat → ClassId} {G : List zC} {b : Nat → Nat} {sl : Nat} {xs : Nat → Int32} {fl : Bool} {h0 : Heap} {nL : Nat} {cc : ByteArray} {pc : Nat}
variable {tys : List (ClassId × FieldType)} {tyl : List FieldType}
theorem z_pl0 {g : zC} {iv : zI} {ov : zO} {ad : Nat → Nat} {ρ : Nat → Int} {pp i : Nat} {V : Value} {q : Int × Int} (hi : ziv iv ρ) (hk : ∀ (p9 i9 : Nat) (v : zV), z_lk ov p9 i9 = some v → zok ov.length iv ρ v) (hw : z_wv g ov ad b ρ pp i V) (h : z_pl g iv ov pp 0 i = some q) : ∃ X : Int32, V = .int X ∧ q.1 ≤ X.toInt ∧ X.toInt ≤ q.2 := by
  unfold z_pl at h
  unfold z_wv at hw
  split at h
  next v hv =>
    rw [hv] at hw
    dsimp only at hw
    replace hw := hw.2
    split at h
    next h1 =>
      have o := z_ok0 (hk _ _ v hv) h1
      have b1 := z_bd_ok h hi
      refine ⟨_, by rw [hw, z_cv0 h1], ?_⟩
      rw [z_i32 o.2.1 o.2.2]
      exact b1.2
    next => cases h
  next hn =>
    rw [hn] at hw
    dsimp only at hw
    replace hw := hw.1
    split at h
    next k' lo hi' hsp =>
      rw [hsp] at hw
      split at h
      next e => cases h; subst e; exact hw
      next =>
        split at h
        next e =>
          cases h
          obtain ⟨rfl, -⟩ := e
          obtain ⟨X, h1, h2⟩ := hw
          refine ⟨X, h1, ?_⟩
          unfold z_act at h2
          omega
        next => cases h
    next => cases h
theorem z_pl1 {g : zC} {iv : zI} {ov : zO} {ad : Nat → Nat} {ρ : Nat → Int} {pp i : Nat} {V : Value} {q : Int × Int} (hi : ziv iv ρ) (hk : ∀ (p9 i9 : Nat) (v : zV), z_lk ov p9 i9 = some v → zok ov.length iv ρ v) (hw : z_wv g ov ad b ρ pp i V) (h : z_pl g iv ov pp 1 i = some q) : ∃ X : Int64, V = .long X ∧ q.1 ≤ X.toInt ∧ X.toInt ≤ q.2 := by
  unfold z_pl at h
  unfold z_wv at hw
  split at h
  next v hv =>
    rw [hv] at hw
    dsimp only at hw
    replace hw := hw.2
    split at h
    next h1 =>
      have o := z_ok1 (hk _ _ v hv) h1
      have b1 := z_bd_ok h hi
      refine ⟨_, by rw [hw, z_cv1 h1], ?_⟩
      rw [z_i64 o.2.1 o.2.2]
      exact b1.2
    next => cases h
  next hn =>
    rw [hn] at hw
    dsimp only at hw
    replace hw := hw.1
    split at h
    next k' lo hi' hsp =>
      rw [hsp] at hw
      split at h
      next e => cases h; subst e; exact hw
      next =>
        split at h
        next e => exact absurd e.2 (by decide)
        next => cases h
    next => cases h
theorem z_hul_ok {g : zC} {iv : zI} {ov : zO} {pp k lo : Nat} : ∀ (n : Nat) (q : Int × Int), z_hul g iv ov pp k lo n = some q → ∀ i, lo ≤ i → i ≤ lo + n → ∃ q', z_pl g iv ov pp k i = some q' ∧ q.1 ≤ q'.1 ∧ q'.2 ≤ q.2
  | 0, q, h, i, h1, h2 => by
    have e : i = lo := by omega
    subst e
    exact ⟨q, h, Int.le_refl _, Int.le_refl _⟩
  | n + 1, q, h, i, h1, h2 => by
    unfold z_hul at h
    split at h
    next a b' ha hb' =>
      cases h
      by_cases e : i = lo + (n + 1)
      · subst e
        exact ⟨b', hb', by dsimp only; omega, by dsimp only; omega⟩
      · obtain ⟨q', h3, h4, h5⟩ := z_hul_ok n a ha i h1 (by omega)
        exact ⟨q', h3, by dsimp only; omega, by dsimp only; omega⟩
    next => cases h
def z_aldh (tg : Nat → Bool) (kr : Nat) (G : List zC) (st : zS) : zR := match st with
  | (cu, su, iv, lv, x :: a :: r, ov) => if x.1 = 0 ∧ a.1 = 2 then (match G[a.2.1]?, z_bd iv x with
    | some g, some q => if tg g.1 = true ∧ 0 ≤ q.1 ∧ q.1 ≤ q.2 ∧ q.2 < (g.2.1 : Int) then (match z_hul g iv ov a.2.1 kr q.1.toNat (q.2 - q.1).toNat with
      | some h => some [(none, (cu, su, (z_mk iv kr h.1 h.2).1, lv, (z_mk iv kr h.1 h.2).2 :: r, ov))]
      | none => none) else none
    | _, _ => none) else none
  | _ => none
theorem zs_aldh {tg : Nat → Bool} {kr : Nat} {st : zS} {ss : List (Option Nat × zS)} (h : z_aldh tg kr G st = some ss) (hkr : kr ≤ 1)
    (hr : ∀ (g : zC) (F : Nat → Value → Prop) (ad : Nat → Nat) (q0 : Nat) (e0 : va_E) (ws : va_W) (j : Int32) (H : Heap) (locs : List Loc) (cells slots : Nat) (ls : Array Slot) (rest : List Value), tg g.1 = true → z_en cA g F e0 → va_P D cl ws H → ws[q0]? = some (ad q0, e0) → vp_in j g.2.1 → (∀ v : Value, F j.toNatClampNeg v → W p l e R s m args below meth c H locs cells slots Q (F0 m (pc + 1) ls (v :: rest))) → W p l e R s m args below meth c H locs cells slots Q (F0 m pc ls (.int j :: .ref (ad q0) :: rest))) : zSt p l e R s m args below meth c Q D cl A cA G b sl xs fl h0 nL pc 1 st ss := by
  obtain ⟨cu, su, iv, lv, sk, ov⟩ := st
  unfold z_aldh at h
  rcases sk with _ | ⟨x, _ | ⟨a, r⟩⟩
  · cases h
  · cases h
  dsimp only at h
  split at h
  next hk =>
    split at h
    next g q hg hq =>
      split at h
      next hc =>
        obtain ⟨hc1, hc2, hc9, hc3⟩ := hc
        split at h
        next hh hhu =>
          cases h
          intro ρ ad ws H locs ls hgm kk
          have hxo : a.2.1 < ov.length := by
            have := hgm.1.2.2.1 a (List.mem_cons_of_mem _ List.mem_cons_self)
            unfold zok at this; rw [hk.2] at this; exact this
          have ox := z_ok0 (hgm.1.2.2.1 x List.mem_cons_self) hk.1
          have hb := z_bd_ok hq hgm.1.1
          obtain ⟨hvi, hcl⟩ := z_vin (z := z_val ρ x) (n := g.2.1) (by omega) (by omega) ox.2.2
          obtain ⟨e0, hqw, he⟩ := z_wd_at hgm.2.2.1 hxo hg
          show W p l e R s m args below meth c H locs cu su Q (F0 m pc ls (zcv ad b ρ x :: zcv ad b ρ a :: r.map (zcv ad b ρ)))
          rw [z_cv0 hk.1, z_cv2 hk.2]
          refine hr g _ ad a.2.1 e0 ws _ H locs cu su ls _ hc1 he hgm.2.2.2.1 hqw hvi (fun v hv => ?_)
          rw [hcl] at hv
          obtain ⟨q', h3, h4, h5⟩ := z_hul_ok _ hh hhu (z_val ρ x).toNat (by omega) (by omega)
          match kr, hkr, h3, kk with
          | 0, _, h3, kk =>
            obtain ⟨X, rfl, b1, b2⟩ := z_pl0 hgm.1.1 hgm.1.2.2.2 hv h3
            obtain ⟨ρ', n1, n2, n3, n4, n5, n6⟩ := z_mk_ok 0 (lo := hh.1) (hi := hh.2) (x := X.toInt) hgm.1.1 (by omega) (by omega)
            exact z_fin hgm (fun w hw => List.mem_cons_of_mem _ (List.mem_cons_of_mem _ hw)) n1 n2 n3 (z_ok0' n4 n5 _ n6) (by rw [z_cv0 n4, n6, z_o32]) kk
          | 1, _, h3, kk =>
            obtain ⟨X, rfl, b1, b2⟩ := z_pl1 hgm.1.1 hgm.1.2.2.2 hv h3
            obtain ⟨ρ', n1, n2, n3, n4, n5, n6⟩ := z_mk_ok 1 (lo := hh.1) (hi := hh.2) (x := X.toInt) hgm.1.1 (by omega) (by omega)
            exact z_fin hgm (fun w hw => List.mem_cons_of_mem _ (List.mem_cons_of_mem _ hw)) n1 n2 n3 (z_ok1' n4 n5 _ n6) (by rw [z_cv1 n4, n6, z_o64]) kk
        next => cases h
      next => cases h
    next => cases h
  next => cases h
theorem zs_iald2 (hx : p.tables.exec = Jvm.exec) (hb : c.code = cc) (hK : va_K D cl tys s) (hT : zTyOk cA tyl tys) {st : zS} {ss : List (Option Nat × zS)} (hd : decode cc pc = .ok (.iaload, 1)) (h : z_aldh z_t1 0 G st = some ss) : zSt p l e R s m args below meth c Q D cl A cA G b sl xs fl h0 nL pc 1 st ss := by
  refine zs_aldh h (by omega) (fun g F ad q0 e0 ws j H locs cells slots ls rest ht he hP hq hin k => ?_)
  obtain ⟨f, rfl, hf⟩ := z_en1 (Nat.eq_of_beq_eq_true ht) he
  exact va_iald hx hb hK hP q0 0 hq (hT.2.2.2.2.2 0 _ hT.1) hin hd (k _ (hf _ (z_inlt hin)))
theorem zs_lald2 (hx : p.tables.exec = Jvm.exec) (hb : c.code = cc) (hK : va_K D cl tys s) (hT : zTyOk cA tyl tys) {st : zS} {ss : List (Option Nat × zS)} (hd : decode cc pc = .ok (.laload, 1)) (h : z_aldh z_t2 1 G st = some ss) : zSt p l e R s m args below meth c Q D cl A cA G b sl xs fl h0 nL pc 1 st ss := by
  refine zs_aldh h (by omega) (fun g F ad q0 e0 ws j H locs cells slots ls rest ht he hP hq hin k => ?_)
  obtain ⟨f, rfl, hf⟩ := z_en2 (Nat.eq_of_beq_eq_true ht) he
  exact va_lald hx hb hK hP q0 1 hq (hT.2.2.2.2.2 1 _ hT.2.1) hin hd (k _ (hf _ (z_inlt hin)))
end ZST6B
