/-! ===== some cells known, others not ===== -/
def z_kls (ov : zO) (G0 : List zC) (kl : List zKn) : Bool := kl.all (fun k => Nat.beq k.2.2.1 1 && (Nat.beq k.2.2.2.1 0 && (Nat.beq k.2.2.2.2.1 0 && (decide (-2147483648 ≤ k.2.2.2.2.2 ∧ k.2.2.2.2.2 ≤ 2147483647) && (match G0[k.1]? with
  | some g0 => decide (z_kb ov k.1 k.2.1 g0 0 = some (k.2.2.2.2.2, k.2.2.2.2.2))
  | none => false)))))
theorem z_kls_at {ov : zO} {G0 : List zC} : ∀ (kl : List zKn), z_kls ov G0 kl = true → ∀ (p i : Nat) (v : zV), z_kf kl p i = some v → ∃ (c : Int) (g0 : zC), v = (0, 0, c) ∧ (-2147483648 ≤ c ∧ c ≤ 2147483647) ∧ G0[p]? = some g0 ∧ z_kb ov p i g0 0 = some (c, c)
  | [], _, p, i, v, hv => by cases hv
  | k :: r, h, p, i, v, hv => by
    unfold z_kls at h
    rw [List.all_cons, Bool.and_eq_true] at h
    unfold z_kf at hv
    cases hb : Nat.beq p k.1 && (Nat.ble k.2.1 i && Nat.blt i (k.2.1 + k.2.2.1)) with
    | false => rw [hb] at hv; exact z_kls_at r h.2 p i v hv
    | true =>
      rw [hb] at hv
      cases hv
      rw [Bool.and_eq_true, Bool.and_eq_true] at hb
      have h1 := h.1
      rw [Bool.and_eq_true, Bool.and_eq_true, Bool.and_eq_true, Bool.and_eq_true] at h1
      obtain ⟨c1, c2, c3, c4, c5⟩ := h1
      have c1 := Nat.eq_of_beq_eq_true c1
      have c2 := Nat.eq_of_beq_eq_true c2
      have c3 := Nat.eq_of_beq_eq_true c3
      have e1 := Nat.eq_of_beq_eq_true hb.1
      have e2 := Nat.le_of_ble_eq_true hb.2.1
      have e3 : i < k.2.1 + k.2.2.1 := Nat.le_of_ble_eq_true hb.2.2
      have e4 : i = k.2.1 := by omega
      subst e1 e4
      split at c5
      next g0 hg0 => exact ⟨k.2.2.2.2.2, g0, by rw [c2, c3, Nat.sub_self], of_decide_eq_true c4, hg0, of_decide_eq_true c5⟩
      next => cases c5
theorem z_cvt2 {D : va_G} {cl : List vw_C} {A : Nat → Prop} {cA : Nat → ClassId} {G0 G1 : List zC} {b : Nat → Nat} {sl : Nat} {xs : Nat → Int32} {fl : zFl} {h0 : Heap} {nL n : Nat} {kl : List zKn} {iv : zI} {lv : zL} {sk : List zV} {ov : zO} {ρ : Nat → Int} {ad : Nat → Nat} {ws : va_W} {H : Heap} {locs : List Loc} {ls : Array Slot} (h : z_cvk ov 0 G0 G1 = true) (hk : z_kls ov G0 kl = true) (hn : ov.length = n) (hg : z_gm D cl A cA G0 b sl xs fl h0 nL iv lv sk ov ρ ad ws H locs ls) : z_gm D cl A cA G1 b sl xs fl h0 nL iv lv sk (z_ko n kl) ρ ad ws H locs ls := by
  have hc := z_cvt h hg
  subst hn
  obtain ⟨⟨p1, p2, p3, p4⟩, a2, a3, a4, a5, a6, a7, a8, a9, a10⟩ := hg
  have hz : ∀ (p9 i9 : Nat) (v : zV), z_lk (z_ko ov.length kl) p9 i9 = some v → zok ov.length iv ρ v := fun p9 i9 v hv => by
    obtain ⟨c, g0, rfl, hr, -, -⟩ := z_kls_at kl hk p9 i9 v (z_ko_lk hv)
    exact z_okc p1 hr.1 hr.2
  refine ⟨⟨p1, p2, p3, hz⟩, a2, ⟨a3.1, fun p q hq => ?_⟩, a4, a5, a6, a7, a8, zMm.nil rfl, a10⟩
  obtain ⟨b1, g1, hg1, he1⟩ := hc.2.2.1.2 p q hq
  obtain ⟨-, g0, hg0, he0⟩ := a3.2 p q hq
  obtain ⟨g1', hg1', hcg⟩ := z_cvk_at G0 G1 0 h p g0 hg0
  cases hg1.symm.trans hg1'
  rw [Nat.zero_add] at hcg
  unfold z_cg at hcg
  rw [Bool.and_eq_true, Bool.and_eq_true] at hcg
  have c1 := Nat.eq_of_beq_eq_true hcg.1
  have c2 := Nat.eq_of_beq_eq_true hcg.2.1
  refine ⟨b1, g1, hg1, ?_⟩
  have key : ∀ (i : Nat) (v : Value), z_wv g1 ov ad b ρ p i v → z_wv g0 ov ad b ρ p i v → z_wv g1 (z_ko ov.length kl) ad b ρ p i v := fun i v h1 h2 => by
    refine ⟨h1.1, ?_⟩
    cases hl : z_lk (z_ko ov.length kl) p i with
    | none => exact True.intro
    | some w =>
      obtain ⟨c, g9, rfl, hr, hg9, hkb⟩ := z_kls_at kl hk p i w (z_ko_lk hl)
      cases hg0.symm.trans hg9
      obtain ⟨x, e1, e2, e3⟩ := z_kb_ok0 hkb p1 (fun w hw => p4 p i w hw) h2
      show v = zcv ad b ρ (0, 0, c)
      rw [e1, z_cvc p1.1]
      congr 1
      apply Int32.toInt_inj.mp
      rw [z_i32 hr.1 hr.2]
      dsimp only at e2 e3
      omega
  unfold z_en at he1 he0 ⊢
  rw [c1, c2] at he0
  split at he1
  · rename_i ht
    rw [ht] at he0
    obtain ⟨fs, f1, f2, f3⟩ := he1
    obtain ⟨fs', f1', f2', f3'⟩ := he0
    rw [f1] at f1'
    cases f1'
    exact ⟨fs, f1, f2, fun i v hv => key i v (f3 i v hv) (f3' i v hv)⟩
  · rename_i ht
    rw [ht] at he0
    obtain ⟨f, f1, f2⟩ := he1
    obtain ⟨f', f1', f2'⟩ := he0
    rw [f1] at f1'
    cases f1'
    exact ⟨f, f1, fun j hj => key j _ (f2 j hj) (f2' j hj)⟩
  · rename_i ht
    rw [ht] at he0
    obtain ⟨f, f1, f2⟩ := he1
    obtain ⟨f', f1', f2'⟩ := he0
    rw [f1] at f1'
    cases f1'
    exact ⟨f, f1, fun j hj => key j _ (f2 j hj) (f2' j hj)⟩
  · rename_i ht
    rw [ht] at he0
    obtain ⟨f, f1, f2⟩ := he1
    obtain ⟨f', f1', f2'⟩ := he0
    rw [f1] at f1'
    cases f1'
    exact ⟨f, f1, fun j hj => key j _ (f2 j hj) (f2' j hj)⟩
  · rename_i ht
    rw [ht] at he0
    obtain ⟨f, f1, f2⟩ := he1
    obtain ⟨f', f1', f2'⟩ := he0
    rw [f1] at f1'
    cases f1'
    exact ⟨f, f1, fun j hj => key j _ (f2 j hj) (f2' j hj)⟩
  next k0 k1 k2 k3 k4 =>
    obtain ⟨f, f1, f2⟩ := he1
    split at he0
    · rename_i ht; exact absurd ht k0
    · rename_i ht; exact absurd ht k1
    · rename_i ht; exact absurd ht k2
    · rename_i ht; exact absurd ht k3
    · rename_i ht; exact absurd ht k4
    · obtain ⟨f', f1', f2'⟩ := he0
      rw [f1] at f1'
      cases f1'
      exact ⟨f, f1, fun j hj => key j _ (f2 j hj) (f2' j hj)⟩
def zkl0 : List zKn := [(156, 3, 1, (0, 0, 0)), (156, 7, 1, (0, 0, 0)), (157, 3, 1, (0, 0, 0)), (157, 7, 1, (0, 0, 0)), (157, 103, 1, (0, 0, 0)), (157, 107, 1, (0, 0, 0)), (157, 203, 1, (0, 0, 0)), (157, 207, 1, (0, 0, 0)), (112, 0, 1, (0, 0, 0)), (158, 0, 1, (0, 0, 0)), (112, 1, 1, (0, 0, 0)), (158, 1, 1, (0, 0, 0)), (112, 2, 1, (0, 0, 0)), (158, 2, 1, (0, 0, 0)), (69, 0, 1, (0, 0, (-1))), (172, 0, 1, (0, 0, (-1))), (69, 1, 1, (0, 0, (-1))), (172, 1, 1, (0, 0, (-1))), (69, 2, 1, (0, 0, (-1))), (172, 2, 1, (0, 0, (-1))), (69, 3, 1, (0, 0, (-1))), (172, 3, 1, (0, 0, (-1))), (68, 0, 1, (0, 0, 0)), (173, 0, 1, (0, 0, 0)), (68, 1, 1, (0, 0, 0)), (173, 1, 1, (0, 0, 0)), (68, 2, 1, (0, 0, 0)), (173, 2, 1, (0, 0, 0)), (68, 3, 1, (0, 0, 0)), (173, 3, 1, (0, 0, 0))]
/-! ===== the two objects made ===== -/
def zivS : zI := z_li [(0, 0), (0, 3072), (-2147483648, 2147483647), (-2147483648, 2147483647), (-2147483648, 2147483647), (-2147483648, 2147483647), (-2147483648, 2147483647), (-2147483648, 2147483647), (0, 0), (0, 0)] (true, [], [], [])
def zst0 : zS := (0, 0, zivS, [(0, (4, 0, 0))], [], z_o0)
def z_sta (f : Nat) : Bool := match zx zT0 (fun _ => []) (false, [], []) f [18] 15 560 zmL 0 zpL zst0 with
  | some (outs, arrs) => outs.isEmpty && arrs.all (fun a => Nat.beq a.2.1 176 && (Nat.beq a.2.2.1 6108 && (decide (z_fd a.2.2.2.2.1 3 = some (0, 0, 0)) && (z_cvk a.2.2.2.2.2.2 0 zG0 zG1 && (z_kls a.2.2.2.2.2.2 zG0 zkl0 && (Nat.beq a.2.2.2.2.2.2.length 176 && z_nmt zG1 2 176 none (a.1, 0, 0, a.2.2.2.1, a.2.2.2.2.1, a.2.2.2.2.2.1, z_ko 176 zkl0) znA))))))
  | none => false
set_option maxRecDepth 100000 in
theorem zsta : z_sta 20000 = true := by decide +kernel
