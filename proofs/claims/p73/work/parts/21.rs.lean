/-! ===== contracts: how a caller goes on behind one ===== -/
/-- an end: intervals, what is given back, what is known, where its symbols come from, symbols of the beginning that it narrows -/
abbrev zOt : Type := zI × Option zV × List zKn × List zSr × List Nat
/-- kept places; intervals; values; what is known; where the symbols come from; ends; frames; locals' words; how many cells there are -/
abbrev zCn : Type := List (Nat × Nat) × zI × List zV × List zKn × List zSr × List zOt × Nat × Nat × Nat
def z_sgo (k n : Nat) (sg : Nat → zV) (i : Nat) : zV := bif Nat.blt i k then sg i else (0, n + (i - k), 0)
def z_riv (iv : zI) (k : Nat) (sg : Nat → zV) (o : zI) : zI := Prod.mk (iv.length + (o.length - k)) (Prod.mk (fun i => bif Nat.blt i iv.length then Prod.fst (Prod.snd iv) i else Prod.fst (Prod.snd o) (k + (i - iv.length))) (iv.fs.1, o.fs.2.1.map (z_sbf (z_sgo k iv.length sg)) ++ iv.fs.2.1, iv.fs.2.2.1, o.fs.2.2.2.map (z_sbd (z_sgo k iv.length sg)) ++ iv.fs.2.2.2))
def z_rρ (n k : Nat) (ρ ρo : Nat → Int) : Nat → Int := fun i => if i < n then ρ i else ρo (k + (i - n))
theorem z_riv_at {iv : zI} {k : Nat} {sg : Nat → zV} {o : zI} {i : Nat} {q : Int × Int} (hk : k ≤ o.length) (h : (z_riv iv k sg o).at i = some q) : (i < iv.length ∧ iv.at i = some q) ∨ (iv.length ≤ i ∧ k + (i - iv.length) < o.length ∧ o.at (k + (i - iv.length)) = some q) := by
  have hl : i < iv.length + (o.length - k) := zI.at_lt h
  unfold zI.at at h
  rw [show Nat.blt i (Prod.fst (z_riv iv k sg o)) = true from Nat.ble_eq_true_of_le hl] at h
  have h2 : (bif Nat.blt i iv.length then Prod.fst (Prod.snd iv) i else Prod.fst (Prod.snd o) (k + (i - iv.length))) = q := Option.some.inj h
  by_cases hb : i < iv.length
  · refine Or.inl ⟨hb, ?_⟩
    rw [show Nat.blt i iv.length = true from Nat.ble_eq_true_of_le hb] at h2
    unfold zI.at
    rw [show Nat.blt i (Prod.fst iv) = true from Nat.ble_eq_true_of_le hb]
    exact congrArg some h2
  · refine Or.inr ⟨by omega, by omega, ?_⟩
    rw [show Nat.blt i iv.length = false from Bool.eq_false_iff.mpr (fun q9 => hb (Nat.le_of_ble_eq_true q9))] at h2
    unfold zI.at
    rw [show Nat.blt (k + (i - iv.length)) (Prod.fst o) = true from Nat.ble_eq_true_of_le (by show k + (i - iv.length) < o.length; omega)]
    exact congrArg some h2
theorem z_sgo_ok {iv : zI} {k : Nat} {sg : Nat → zV} {o : zI} {ρ ρo : Nat → Int} (hk : k ≤ o.length) (hsg : ∀ i, i < k → (sg i).2.1 < iv.length ∧ ρo i = z_val ρ (sg i)) : zSg o.length (z_sgo k iv.length sg) (z_rρ iv.length k ρ ρo) ρo ∧ ∀ i, i < o.length → (z_sgo k iv.length sg i).2.1 < (z_riv iv k sg o).length := by
  constructor
  · intro i hi
    unfold z_sgo
    by_cases hb : i < k
    · rw [show Nat.blt i k = true from Nat.ble_eq_true_of_le hb]
      obtain ⟨h1, h2⟩ := hsg i hb
      rw [h2]
      show ρ (sg i).2.1 + (sg i).2.2 = (if (sg i).2.1 < iv.length then ρ (sg i).2.1 else _) + (sg i).2.2
      rw [if_pos h1]
    · rw [show Nat.blt i k = false from Bool.eq_false_iff.mpr (fun q9 => hb (Nat.le_of_ble_eq_true q9))]
      show ρo i = (if iv.length + (i - k) < iv.length then _ else ρo (k + (iv.length + (i - k) - iv.length))) + 0
      rw [if_neg (by omega), show k + (iv.length + (i - k) - iv.length) = i by omega]
      omega
  · intro i hi
    unfold z_sgo
    by_cases hb : i < k
    · rw [show Nat.blt i k = true from Nat.ble_eq_true_of_le hb]
      show (sg i).2.1 < iv.length + (o.length - k)
      have := (hsg i hb).1
      omega
    · rw [show Nat.blt i k = false from Bool.eq_false_iff.mpr (fun q9 => hb (Nat.le_of_ble_eq_true q9))]
      show iv.length + (i - k) < iv.length + (o.length - k)
      omega
theorem z_ff_mem' {c : Int} {n : Nat} {sg : Nat → zV} {l : List (Nat × Int)} (h : ∀ q ∈ l, (sg q.1).2.1 < n) : ∀ q ∈ (z_ff c (l.map (fun q => (q.2, sg q.1)))).2, q.1 < n := z_ff_mem _ (fun q hq => by
  obtain ⟨w, hw, rfl⟩ := List.mem_map.mp hq
  exact h w hw)
theorem z_riv_ok {iv : zI} {k : Nat} {sg : Nat → zV} {o : zI} {ρ ρo : Nat → Int} (hi : ziv iv ρ) (ho : ziv o ρo) (hk : k ≤ o.length) (hsg : ∀ i, i < k → (sg i).2.1 < iv.length ∧ ρo i = z_val ρ (sg i)) : ziv (z_riv iv k sg o) (z_rρ iv.length k ρ ρo) := by
  obtain ⟨hs, hb⟩ := z_sgo_ok (o := o) hk hsg
  have e0 : ∀ i, i < iv.length → z_rρ iv.length k ρ ρo i = ρ i := fun i h => if_pos h
  have h00 : z_rρ iv.length k ρ ρo 0 = 0 := by rw [e0 0 hi.2.1]; exact hi.1
  have hle : iv.length ≤ (z_riv iv k sg o).length := Nat.le_add_right _ _
  have t := hi.2.2.2.ext e0 hle
  refine ⟨h00, Nat.lt_of_lt_of_le hi.2.1 hle, fun i q hq => ?_, fun f hf => ?_, t.2.1, fun d hd => ?_⟩
  · rcases z_riv_at hk hq with ⟨h1, h2⟩ | ⟨h1, h2, h3⟩
    · rw [e0 i h1]; exact hi.2.2.1 i q h2
    · have : z_rρ iv.length k ρ ρo i = ρo (k + (i - iv.length)) := if_neg (by omega)
      rw [this]
      exact ho.2.2.1 _ q h3
  · rcases List.mem_append.mp hf with h1 | h1
    · obtain ⟨g, hg, rfl⟩ := List.mem_map.mp h1
      obtain ⟨g1, g2⟩ := ho.2.2.2.1 g hg
      refine ⟨?_, ?_⟩
      · rw [z_sbf_ok hs h00 g2]; exact g1
      · exact z_ff_mem' (fun q hq => hb _ (g2 q hq))
    · exact t.1 f h1
  · rcases List.mem_append.mp hd with h1 | h1
    · obtain ⟨g, hg, rfl⟩ := List.mem_map.mp h1
      obtain ⟨⟨g1, g2⟩, g3⟩ := ho.2.2.2.2.2 g hg
      exact ⟨⟨hb _ g1, hb _ g2⟩, (z_sbd_ok hs g1 g2).mpr g3⟩
    · exact t.2.2 d h1
theorem z_sb_cv {m : Nat} {o τ : zI} {sg : Nat → zV} {ρ ρo : Nat → Int} {v : zV} (hs : zSg o.length sg ρ ρo) (hb : ∀ i, i < o.length → (sg i).2.1 < τ.length) (hv : zok m o ρo v) (ad : Nat → Nat) (b : Nat → Nat) : zok m τ ρ (z_sb sg v) ∧ zcv ad b ρ (z_sb sg v) = zcv ad b ρo v := by
  obtain ⟨k, i, c⟩ := v
  match k, hv with
  | 0, hv =>
    obtain ⟨h1, h2, h3⟩ := hv
    have e := z_sb_val (v := (0, i, c)) hs (Nat.zero_le _) h1
    refine ⟨⟨hb i h1, ?_, ?_⟩, ?_⟩
    · rw [e] at h2; exact h2
    · rw [e] at h3; exact h3
    · show Value.int (Int32.ofInt (z_val ρ (z_sb sg (0, i, c)))) = Value.int (Int32.ofInt (z_val ρo (0, i, c)))
      rw [e]
  | 1, hv =>
    obtain ⟨h1, h2, h3⟩ := hv
    have e := z_sb_val (v := (1, i, c)) hs (Nat.le_refl _) h1
    refine ⟨⟨hb i h1, ?_, ?_⟩, ?_⟩
    · rw [e] at h2; exact h2
    · rw [e] at h3; exact h3
    · show Value.long (Int64.ofInt (z_val ρ (z_sb sg (1, i, c)))) = Value.long (Int64.ofInt (z_val ρo (1, i, c)))
      rw [e]
  | 2, hv => exact ⟨hv, rfl⟩
  | 3, _ => exact ⟨True.intro, rfl⟩
  | 4, _ => exact ⟨True.intro, rfl⟩
  | k + 5, _ => exact ⟨True.intro, rfl⟩
/-- what is known behind a contract -/
def z_rov (K : List (Nat × Nat)) (sg : Nat → zV) (ov o : zO) : zO := Prod.mk ov.length (Prod.mk (fun _ => false) (Prod.mk (fun p i => bif z_ink K p then z_lk ov p i else (match z_lk o p i with
  | some v => some (z_sb sg v)
  | none => none)) ((z_mm ov).filter (fun m => z_ink K m.1))))
theorem z_rov_lk {K : List (Nat × Nat)} {sg : Nat → zV} {ov o : zO} {p i : Nat} {v : zV} (h : z_lk (z_rov K sg ov o) p i = some v) : (z_ink K p = true ∧ z_lk ov p i = some v) ∨ (z_ink K p = false ∧ ∃ w, z_lk o p i = some w ∧ v = z_sb sg w) := by
  have e : z_lk (z_rov K sg ov o) p i = (bif Nat.blt p ov.length then (bif z_ink K p then z_lk ov p i else (match z_lk o p i with
    | some v => some (z_sb sg v)
    | none => none)) else none) := rfl
  rw [e] at h
  cases hb : Nat.blt p ov.length with
  | false => rw [hb] at h; cases h
  | true =>
    rw [hb] at h
    cases hk : z_ink K p with
    | true => rw [hk] at h; exact Or.inl ⟨rfl, h⟩
    | false =>
      rw [hk] at h
      dsimp only [cond_true, cond_false] at h
      split at h
      next w hw => cases h; exact Or.inr ⟨rfl, w, hw, rfl⟩
      next => cases h
theorem z_rov_ok {G : List zC} {cA : Nat → ClassId} {iv : zI} {k : Nat} {sg : Nat → zV} {o : zI} {ρ ρo : Nat → Int} {K : List (Nat × Nat)} {ov oo : zO} {ad ad' : Nat → Nat} {b : Nat → Nat} {ws ws' : va_W} (hk : k ≤ o.length) (hsg : ∀ i, i < k → (sg i).2.1 < iv.length ∧ ρo i = z_val ρ (sg i))
    (hok : ∀ (p9 i9 : Nat) (v : zV), z_lk ov p9 i9 = some v → zok ov.length iv ρ v) (hw : z_wd G cA ov ad b ρ ws) (hok' : ∀ (p9 i9 : Nat) (v : zV), z_lk oo p9 i9 = some v → zok ov.length o ρo v) (hw' : z_wd G cA oo ad' b ρo ws') (hl : oo.length = ov.length) (ha : ∀ q, q < ov.length → ad' q = ad q) (hkp : zKp (K, ws) ws') :
    (∀ (p9 i9 : Nat) (v : zV), z_lk (z_rov K (z_sgo k iv.length sg) ov oo) p9 i9 = some v → zok ov.length (z_riv iv k sg o) (z_rρ iv.length k ρ ρo) v) ∧ z_wd G cA (z_rov K (z_sgo k iv.length sg) ov oo) ad' b (z_rρ iv.length k ρ ρo) ws' := by
  obtain ⟨hs, hb⟩ := z_sgo_ok (o := o) hk hsg
  have e0 : ∀ i, i < iv.length → z_rρ iv.length k ρ ρo i = ρ i := fun i h => if_pos h
  have hle : iv.length ≤ (z_riv iv k sg o).length := Nat.le_add_right _ _
  refine ⟨fun p9 i9 v hv => ?_, hw'.1.trans hl, fun p q hq => ?_⟩
  · rcases z_rov_lk hv with ⟨-, h1⟩ | ⟨-, w, h1, rfl⟩
    · exact zok_ext (hok p9 i9 v h1) e0 hle (Nat.le_refl _)
    · exact (z_sb_cv hs hb (hok' p9 i9 w h1) ad b).1
  · obtain ⟨h1, g, hg, he⟩ := hw'.2 p q hq
    refine ⟨h1, g, hg, ?_⟩
    cases hkk : z_ink K p with
    | true =>
      obtain ⟨h2, h3⟩ := hkp p hkk
      have h3' : ws'[p]? = ws[p]? := h3
      rw [hq] at h3'
      obtain ⟨-, g', hg', he'⟩ := hw.2 p q h3'.symm
      cases hg.symm.trans hg'
      refine z_en_mono (fun i V hV => ?_) he'
      unfold z_wv at hV ⊢
      refine ⟨z_spv_ext hV.1 ha (Nat.le_refl _), ?_⟩
      split
      next a hh =>
        rcases z_rov_lk hh with ⟨-, h4⟩ | ⟨h4, -⟩
        · have hV2 := hV.2
          rw [h4] at hV2
          dsimp only at hV2
          rw [hV2]
          exact (zcv_ext (hok p i a h4) e0 ha).symm
        · rw [hkk] at h4; cases h4
      next => exact True.intro
    | false =>
      refine z_en_mono (fun i V hV => ?_) he
      unfold z_wv at hV ⊢
      refine ⟨by rw [hl] at hV; exact hV.1, ?_⟩
      split
      next a hh =>
        rcases z_rov_lk hh with ⟨h4, -⟩ | ⟨-, w, h4, rfl⟩
        · rw [hkk] at h4; cases h4
        · have hV2 := hV.2
          rw [h4] at hV2
          dsimp only at hV2
          rw [hV2]
          exact (z_sb_cv hs hb (hok' p i w h4) ad' b).2.symm
      next => exact True.intro
/-- the ends' intervals of the beginning's symbols -/
def z_nar (sg : Nat → zV) (o : zI) (iv : zI) : List Nat → Option zI
  | [] => some iv
  | i :: r => match o.at i, iv.at (sg i).2.1 with
    | some t, some q => bif Nat.beq (sg i).2.1 0 then (if t.1 ≤ (sg i).2.2 ∧ (sg i).2.2 ≤ t.2 then z_nar sg o iv r else none) else (match z_tgs iv (sg i).2.1 (max q.1 (t.1 - (sg i).2.2)) (min q.2 (t.2 - (sg i).2.2)) with
      | some iv' => z_nar sg o iv' r
      | none => none)
    | _, _ => z_nar sg o iv r
theorem z_nar_ok {sg : Nat → zV} {o : zI} {ρ : Nat → Int} : ∀ (l : List Nat) (iv : zI), ziv iv ρ → (∀ i ∈ l, ∀ t, o.at i = some t → t.1 ≤ z_val ρ (sg i) ∧ z_val ρ (sg i) ≤ t.2) → zTg iv ρ (z_nar sg o iv l)
  | [], iv, h, _ => ⟨iv, rfl, h, rfl⟩
  | i :: r, iv, h, hl => by
    unfold z_nar
    have hr : ∀ i ∈ r, ∀ t, o.at i = some t → t.1 ≤ z_val ρ (sg i) ∧ z_val ρ (sg i) ≤ t.2 := fun j hj => hl j (List.mem_cons_of_mem _ hj)
    split
    next t q ht hq =>
      have h1 := hl i List.mem_cons_self t ht
      have h2 := h.2.2.1 _ _ hq
      unfold z_val at h1
      cases hb : Nat.beq (sg i).2.1 0 with
      | true =>
        have e := Nat.eq_of_beq_eq_true hb
        rw [e, h.1] at h1
        dsimp only [cond_true]
        rw [if_pos (by omega)]
        exact z_nar_ok r iv h hr
      | false =>
        dsimp only [cond_false]
        obtain ⟨iv', e1, e2, e3⟩ := z_tgs_ok (k := (sg i).2.1) (lo := max q.1 (t.1 - (sg i).2.2)) (hi := min q.2 (t.2 - (sg i).2.2)) h (by omega) (by omega)
        rw [e1]
        obtain ⟨iv2, e4, e5, e6⟩ := z_nar_ok r iv' e2 hr
        exact ⟨iv2, e4, e5, e6.trans e3⟩
    next => exact z_nar_ok r iv h hr
def z_ksb (K K' : List (Nat × Nat)) : Bool := K.all (fun r => K'.any (fun q => Nat.ble q.1 r.1 && Nat.ble r.2 q.2))
theorem z_ksb_ok {K' : List (Nat × Nat)} {p : Nat} : ∀ K : List (Nat × Nat), z_ksb K K' = true → z_ink K p = true → z_ink K' p = true
  | [], _, h => by cases h
  | r :: t, hs, h => by
    unfold z_ksb at hs
    rw [List.all_cons, Bool.and_eq_true] at hs
    unfold z_ink at h
    rcases Bool.or_eq_true _ _ ▸ h with c | c
    · rw [Bool.and_eq_true] at c
      have c1 := Nat.le_of_ble_eq_true c.1
      have c2 : p < r.2 := Nat.le_of_ble_eq_true c.2
      obtain ⟨q, hq, h2⟩ := List.any_eq_true.mp hs.1
      rw [Bool.and_eq_true] at h2
      have d1 := Nat.le_of_ble_eq_true h2.1
      have d2 := Nat.le_of_ble_eq_true h2.2
      clear hs h
      induction K' with
      | nil => cases hq
      | cons a l ih =>
        unfold z_ink
        rcases List.mem_cons.mp hq with e | e
        · subst e
          rw [show Nat.ble q.1 p = true from Nat.ble_eq_true_of_le (by omega), show Nat.blt p q.2 = true from Nat.ble_eq_true_of_le (by show p < q.2; omega)]
          rfl
        · rw [ih e, Bool.or_true]
    · exact z_ksb_ok t hs.2 c
