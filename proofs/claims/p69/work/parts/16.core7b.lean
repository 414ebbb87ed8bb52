/-! ===== a value that keeps a place's bounds ===== -/
def z_spw (iv : zI) (v : zV) (w : Int × Int) (sp : Option (Nat × Int × Int)) : Bool := match sp with
  | some (k, lo, hi) => if k = v.1 ∧ k ≤ 1 then decide (lo ≤ w.1 ∧ w.2 ≤ hi) else if k = 5 ∧ v.1 = 0 then (decide ((0 ≤ w.1 ∧ w.2 ≤ 589013) ∨ (10000000 ≤ w.1 ∧ w.2 ≤ 13040013)) || (decide (v.2.2 = 0) && iv.fs.2.2.2.any (fun k => Nat.beq k v.2.1))) else false
  | none => false
theorem z_spw_ok {iv : zI} {ρ : Nat → Int} {v : zV} {w : Int × Int} {sp : Option (Nat × Int × Int)} {n : Nat} {ad : Nat → Nat} {b : Nat → Nat} (hi : ziv iv ρ) (hv : zok n iv ρ v) (hw : z_bd iv v = some w) (h : z_spw iv v w sp = true) : z_spv n ad sp (zcv ad b ρ v) := by
  have hb := z_bd_ok hw hi
  unfold z_spw at h
  split at h
  next k lo hi' =>
    split at h
    next hk =>
      have h1 := of_decide_eq_true h
      obtain ⟨e, hk1⟩ := hk
      match k, hk1, e with
      | 0, _, e =>
        have o := z_ok0 hv e.symm
        refine ⟨_, z_cv0 e.symm ad b ρ, ?_⟩
        rw [z_i32 o.2.1 o.2.2]
        omega
      | 1, _, e =>
        have o := z_ok1 hv e.symm
        refine ⟨_, z_cv1 e.symm ad b ρ, ?_⟩
        rw [z_i64 o.2.1 o.2.2]
        omega
    next =>
      split at h
      next hk =>
        obtain ⟨rfl, e⟩ := hk
        have o := z_ok0 hv e
        refine ⟨_, z_cv0 e ad b ρ, ?_⟩
        rw [z_i32 o.2.1 o.2.2]
        rcases Bool.or_eq_true _ _ ▸ h with h1 | h1
        · have h2 := of_decide_eq_true h1
          unfold z_act
          omega
        · rw [Bool.and_eq_true] at h1
          have h2 := of_decide_eq_true h1.1
          obtain ⟨k, hk, hk2⟩ := List.any_eq_true.mp h1.2
          have ek : k = v.2.1 := Nat.eq_of_beq_eq_true hk2
          subst ek
          have t := (hi.2.2.2.2.2 _ hk).2
          unfold z_val
          rw [h2, Int.add_zero]
          exact t
      next => cases h
  next => cases h
/-- nothing is known of the places lo .. lo + n, and the value keeps the bounds of each -/
def z_fre (g : zC) (iv : zI) (ov : zO) (p : Nat) (v : zV) (w : Int × Int) (lo : Nat) : Nat → Bool
  | 0 => (z_lk ov p lo).isNone && z_spw iv v w (z_sp g lo)
  | n + 1 => z_fre g iv ov p v w lo n && ((z_lk ov p (lo + (n + 1))).isNone && z_spw iv v w (z_sp g (lo + (n + 1))))
theorem z_fre_ok {g : zC} {iv : zI} {ov : zO} {pp : Nat} {v : zV} {w : Int × Int} {lo : Nat} : ∀ n : Nat, z_fre g iv ov pp v w lo n = true → ∀ i, lo ≤ i → i ≤ lo + n → z_lk ov pp i = none ∧ z_spw iv v w (z_sp g i) = true
  | 0, h, i, h1, h2 => by
    have e : i = lo := by omega
    subst e
    unfold z_fre at h
    rw [Bool.and_eq_true] at h
    exact ⟨Option.isNone_iff_eq_none.mp h.1, h.2⟩
  | n + 1, h, i, h1, h2 => by
    unfold z_fre at h
    rw [Bool.and_eq_true, Bool.and_eq_true] at h
    by_cases e : i = lo + (n + 1)
    · subst e; exact ⟨Option.isNone_iff_eq_none.mp h.2.1, h.2.2⟩
    · exact z_fre_ok n h.1 i h1 (by omega)
def z_asth (tg : Nat → Bool) (kv : Nat) (vl vh : Nat → Int) (G : List zC) (st : zS) : zR := match st with
  | (cu, su, iv, lv, v :: x :: a :: r, ov) => if v.1 = kv ∧ x.1 = 0 ∧ a.1 = 2 then (match G[a.2.1]?, z_bd iv x, z_bd iv v with
    | some g, some q, some w => if tg g.1 = true ∧ 0 ≤ q.1 ∧ q.1 ≤ q.2 ∧ q.2 < (g.2.1 : Int) ∧ vl g.1 ≤ w.1 ∧ w.2 ≤ vh g.1 ∧ z_fre g iv ov a.2.1 v w q.1.toNat (q.2 - q.1).toNat = true then some [(none, (cu, su, iv, lv, r, ov))] else none
    | _, _, _ => none) else none
  | _ => none
section ZST7B
variable {p : Program} {l : Launch} {e : Env} {R : Room} {s : State} {m : MethodId} {args : Array Value} {below : List Frame} {meth : Method} {c : Code} {Q : State → Prop} {D : va_G} {cl : List vw_C} {A : Nat → Prop} {cA : Nat → ClassId} {G : List zC} {b : Nat → Nat} {sl : Nat} {xs : Nat → Int32} {fl : Bool} {h0 : Heap} {nL : Nat} {cc : ByteArray} {pc : Nat}
variable {tys : List (ClassId × FieldType)} {tyl : List FieldType}
theorem zs_asth {tg : Nat → Bool} {kv : Nat} {vl vh : Nat → Int} {st : zS} {ss : List (Option Nat × zS)} (h : z_asth tg kv vl vh G st = some ss)
    (hr : ∀ (g : zC) (F : Nat → Value → Prop) (a q0 : Nat) (e0 : va_E) (ws : va_W) (j : Int32) (V : Value) (z : Int) (H : Heap) (locs : List Loc) (cells slots : Nat) (ls : Array Slot) (rest : List Value), tg g.1 = true → z_en cA g F e0 → va_P D cl ws H → va_D A ws → va_S A h0 H locs → ws[q0]? = some (a, e0) → vp_in j g.2.1 → (kv = 0 → V = .int (Int32.ofInt z) ∧ -2147483648 ≤ z ∧ z ≤ 2147483647) → (kv = 1 → V = .long (Int64.ofInt z)) → vl g.1 ≤ z → z ≤ vh g.1 →
      (∀ (e1 : va_E) (H1 : Heap) (locs1 : List Loc), (∀ F' : Nat → Value → Prop, F' j.toNatClampNeg V → (∀ i v, i ≠ j.toNatClampNeg → F i v → F' i v) → z_en cA g F' e1) → va_P D cl (ws.set q0 (a, e1)) H1 → va_D A (ws.set q0 (a, e1)) → va_S A h0 H1 locs1 → W p l e R s m args below meth c H1 locs1 cells slots Q (F0 m (pc + 1) ls rest)) → W p l e R s m args below meth c H locs cells slots Q (F0 m pc ls (V :: .int j :: .ref a :: rest))) : zSt p l e R s m args below meth c Q D cl A cA G b sl xs fl h0 nL pc 1 st ss := by
  obtain ⟨cu, su, iv, lv, sk, ov⟩ := st
  unfold z_asth at h
  rcases sk with _ | ⟨v, _ | ⟨x, _ | ⟨a, r⟩⟩⟩
  · cases h
  · cases h
  · cases h
  dsimp only at h
  split at h
  next hk =>
    obtain ⟨hkv1, hkx, hka⟩ := hk
    split at h
    next g q w hg hq hw =>
      split at h
      next hc =>
        obtain ⟨hc1, hc2, hc9, hc3, hc4, hc5, hc6⟩ := hc
        cases h
        intro ρ ad ws H locs ls hgm kk
        have hxo : a.2.1 < ov.length := by
          have := hgm.1.2.2.1 a (List.mem_cons_of_mem _ (List.mem_cons_of_mem _ List.mem_cons_self))
          unfold zok at this; rw [hka] at this; exact this
        have ox := z_ok0 (hgm.1.2.2.1 x (List.mem_cons_of_mem _ List.mem_cons_self)) hkx
        have ov0 := hgm.1.2.2.1 v List.mem_cons_self
        have hb1 := z_bd_ok hq hgm.1.1
        have hb2 := z_bd_ok hw hgm.1.1
        obtain ⟨hvi, hcl⟩ := z_vin (z := z_val ρ x) (n := g.2.1) (by omega) (by omega) ox.2.2
        obtain ⟨e0, hqw, he⟩ := z_wd_at hgm.2.2.1 hxo hg
        have hrr : ∀ w ∈ r, zok ov.length iv ρ w := fun w hw => hgm.1.2.2.1 w (List.mem_cons_of_mem _ (List.mem_cons_of_mem _ (List.mem_cons_of_mem _ hw)))
        show W p l e R s m args below meth c H locs cu su Q (F0 m pc ls (zcv ad b ρ v :: zcv ad b ρ x :: zcv ad b ρ a :: r.map (zcv ad b ρ)))
        rw [z_cv0 hkx, z_cv2 hka]
        refine hr g _ (ad a.2.1) a.2.1 e0 ws _ _ (z_val ρ v) H locs cu su ls _ hc1 he hgm.2.2.2.1 hgm.2.2.2.2.1 hgm.2.2.2.2.2.1 hqw hvi (fun e => ?_) (fun e => ?_) (by omega) (by omega) (fun e1 H1 locs1 hen hP1 hD1 hS1 => ?_)
        · rw [e] at hkv1
          exact ⟨z_cv0 hkv1 ad b ρ, (z_ok0 ov0 hkv1).2⟩
        · rw [e] at hkv1
          exact z_cv1 hkv1 ad b ρ
        rw [hcl] at hen
        obtain ⟨f1, f2⟩ := z_fre_ok _ hc6 (z_val ρ x).toNat (by omega) (by omega)
        refine kk _ (List.mem_singleton.mpr rfl) ρ ad _ H1 locs1 ls ⟨fun _ _ => rfl, fun _ _ => rfl, Nat.le_refl _, Nat.le_refl _⟩ (hgm.ov hgm.1.1 rfl rfl hgm.1.2.2.2 hrr ?_ hP1 hD1 hS1)
        refine z_wd_upd hgm.2.2.1 hqw hg rfl (fun _ _ _ => rfl) (hen _ ?_ (fun i v' _ hv' => hv'))
        show z_wv g ov ad b ρ a.2.1 (z_val ρ x).toNat (zcv ad b ρ v)
        unfold z_wv
        rw [f1]
        exact ⟨z_spw_ok hgm.1.1 ov0 hw f2, True.intro⟩
      next => cases h
    next => cases h
  next => cases h
theorem zs_iast2 (hx : p.tables.exec = Jvm.exec) (hb : c.code = cc) (hK : va_K D cl tys s) (hT : zTyOk cA tyl tys) {st : zS} {ss : List (Option Nat × zS)} (hd : decode cc pc = .ok (.iastore, 1)) (h : z_asth z_t1 0 z_vl z_vh G st = some ss) : zSt p l e R s m args below meth c Q D cl A cA G b sl xs fl h0 nL pc 1 st ss := by
  refine zs_asth h (fun g F a q0 e0 ws j V z H locs cells slots ls rest ht he hP hD hS hq hin hV _ _ _ k => ?_)
  have hg1 : g.1 = 1 := Nat.eq_of_beq_eq_true ht
  obtain ⟨f, rfl, hf⟩ := z_en1 hg1 he
  obtain ⟨rfl, -⟩ := hV rfl
  refine va_iast hx hb hK hP hD hS q0 0 hq (hT.2.2.2.2.2 0 _ hT.1) hin hd (fun H1 locs1 hP1 hD1 hS1 => k _ H1 locs1 (fun F' h1 h2 => ?_) hP1 hD1 hS1)
  unfold z_en; rw [hg1]
  exact ⟨_, rfl, z_upd hf h1 h2⟩
theorem zs_last2 (hx : p.tables.exec = Jvm.exec) (hb : c.code = cc) (hK : va_K D cl tys s) (hT : zTyOk cA tyl tys) {st : zS} {ss : List (Option Nat × zS)} (hd : decode cc pc = .ok (.lastore, 1)) (h : z_asth z_t2 1 z_vlL z_vhL G st = some ss) : zSt p l e R s m args below meth c Q D cl A cA G b sl xs fl h0 nL pc 1 st ss := by
  refine zs_asth h (fun g F a q0 e0 ws j V z H locs cells slots ls rest ht he hP hD hS hq hin _ hV _ _ k => ?_)
  have hg1 : g.1 = 2 := Nat.eq_of_beq_eq_true ht
  obtain ⟨f, rfl, hf⟩ := z_en2 hg1 he
  have hV := hV rfl
  subst hV
  refine va_last hx hb hK hP hD hS q0 1 hq (hT.2.2.2.2.2 1 _ hT.2.1) hin hd (fun H1 locs1 hP1 hD1 hS1 => k _ H1 locs1 (fun F' h1 h2 => ?_) hP1 hD1 hS1)
  unfold z_en; rw [hg1]
  exact ⟨_, rfl, z_updL hf h1 h2⟩
end ZST7B
