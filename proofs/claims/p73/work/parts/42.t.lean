/-! ===== the texts of the constants, as the launch has them ===== -/
theorem z_eqr {args : Array Value} {s : State} {t1 t2 : Term} {a : Nat} (h : (Jvm.Cond.eq t1 t2).before args s = true) (h2 : t2.eval args s none [] s = some (.ref a)) : t1.eval args s none [] s = some (.ref a) := by
  cases hv : t1.eval args s none [] s with
  | none => simp [Cond.before, Cond.holds, Cond.value, hv] at h
  | some w =>
    simp only [Cond.before, Cond.holds, Cond.value, hv, h2] at h
    cases w <;> simp_all
def z_tws (tm : Term) (bs : List Int) : List Jvm.Cond := .exactly tm "java/lang/String" :: .eq (.field tm "java/lang/String" "coder" "B") (.int 0) :: .arrayOf (.field tm "java/lang/String" "value" "[B") .byte :: .eq (.length (.field tm "java/lang/String" "value" "[B")) (.int (Int32.ofNat bs.length)) :: (List.range bs.length).map (fun j => .eq (.elem (.field tm "java/lang/String" "value" "[B") (.int (Int32.ofNat j))) (.int (Int32.ofInt (bs.getD j 0))))
theorem z_txt {args : Array Value} {s : State} {tm : Term} {bs : List Int} {A : Nat → Prop} (hN : bs.length < 2 ^ 31) (h : ∀ w ∈ z_tws tm bs, w.before args s = true) (hA : ∀ a : Nat, a < s.heap.size → ¬ A a) : ∃ a t : Nat, tm.eval args s none [] s = some (.ref a) ∧ va_O "java/lang/String" a A s s.heap ∧ va_OF "java/lang/String" "coder" "B" (.int 0) a A s s.heap ∧ va_OF "java/lang/String" "value" "[B" (.ref t) a A s s.heap ∧ va_T .byte t bs.length (fun j => .int (Int32.ofInt (bs.getD j 0))) A s s.heap := by
  have m1 := h _ List.mem_cons_self
  have m2 := h _ (List.mem_cons_of_mem _ List.mem_cons_self)
  have m3 := h _ (List.mem_cons_of_mem _ (List.mem_cons_of_mem _ List.mem_cons_self))
  have m4 := h _ (List.mem_cons_of_mem _ (List.mem_cons_of_mem _ (List.mem_cons_of_mem _ List.mem_cons_self)))
  have m5 : ∀ j : Nat, j < bs.length → (Jvm.Cond.eq (.elem (.field tm "java/lang/String" "value" "[B") (.int (Int32.ofNat j))) (.int (Int32.ofInt (bs.getD j 0)))).before args s = true := fun j hj => h _ (List.mem_cons_of_mem _ (List.mem_cons_of_mem _ (List.mem_cons_of_mem _ (List.mem_cons_of_mem _ (List.mem_map.mpr ⟨j, List.mem_range.mpr hj, rfl⟩)))))
  obtain ⟨a, c, cA, kA, q1, q2, q3, q4, q5, q6, -⟩ := Cond.exactly_spec (args := args) (first := s) (o := none) (s := s) (idx := []) (t := tm) (cls := "java/lang/String") m1
  obtain ⟨t, ht, hT⟩ := va_Tof (f := fun j => .int (Int32.ofInt (bs.getD j 0))) (A := A) hN m3 (va_eqt m4) (fun j hj => va_eqt (m5 j hj)) hA
  exact ⟨a, t, q1, ⟨cA, q3, q5, by rw [q6]; exact q2, hA a (Array.getElem?_eq_some_iff.mp q3).1⟩, vk_OFof q1 (va_eqt m2) hA, vk_OFof q1 ht hA, hT⟩
/-- a constant's own place, the one whose rows are given, its word, its text, its bytes -/
abbrev zTe : Type := (String × Nat) × (String × Nat) × (Nat × Nat) × String × List Int
def z_tix (F : List Jvm.Cond) : List Nat → List Jvm.Cond → Bool
  | [], [] => true
  | k :: r, w :: t => decide (F[k]? = some w) && z_tix F r t
  | _, _ => false
theorem z_tix_ok {F : List Jvm.Cond} : ∀ (l : List Nat) (ws : List Jvm.Cond), z_tix F l ws = true → ∀ w ∈ ws, w ∈ F
  | [], [], _, w, hw => absurd hw List.not_mem_nil
  | [], _ :: _, h, _, _ => by unfold z_tix at h; cases h
  | _ :: _, [], h, _, _ => by unfold z_tix at h; cases h
  | k :: r, x :: t, h, w, hw => by
    unfold z_tix at h
    rw [Bool.and_eq_true] at h
    rcases List.mem_cons.mp hw with e | e
    · rw [e]; exact List.mem_of_getElem? (of_decide_eq_true h.1)
    · exact z_tix_ok r t h.2 w e
def z_tca (F : List Jvm.Cond) (e : zTe) (ix : List Nat × Nat) : Bool := z_tix F ix.1 (z_tws (.string e.2.1.1 e.2.1.2) e.2.2.2.2) && ((decide (e.1 = e.2.1) || decide (F[ix.2]? = some (Jvm.Cond.eq (.string e.1.1 e.1.2) (.string e.2.1.1 e.2.1.2)))) && (decide ((zwl e.2.2.1.1)[e.2.2.1.2]? = some (.stringRef e.1.1 e.1.2 e.2.2.2.1)) && Nat.ble e.2.2.2.2.length 1000))
theorem z_tca_ok {args : Array Value} {s : State} {F : List Jvm.Cond} {e : zTe} {ix : List Nat × Nat} {A : Nat → Prop} (h : z_tca F e ix = true) (hF : ∀ w ∈ F, w.before args s = true) (hts : ∀ w ∈ lw_tbl, w.before args s = true) (hA : ∀ a : Nat, a < s.heap.size → ¬ A a) : ∃ q : Nat × Nat, (va_O "java/lang/String" q.1 A s s.heap ∧ va_OF "java/lang/String" "coder" "B" (.int 0) q.1 A s s.heap ∧ va_OF "java/lang/String" "value" "[B" (.ref q.2) q.1 A s s.heap ∧ va_T .byte q.2 e.2.2.2.2.length (fun j => .int (Int32.ofInt (e.2.2.2.2.getD j 0))) A s s.heap) ∧ vk_R e.1.1 e.1.2 e.2.2.2.1 q.1 s := by
  unfold z_tca at h
  rw [Bool.and_eq_true, Bool.and_eq_true, Bool.and_eq_true] at h
  obtain ⟨h1, h2, h3, h4⟩ := h
  have h4 := Nat.le_of_ble_eq_true h4
  obtain ⟨a, t, g1, g2⟩ := z_txt (A := A) (by omega) (fun w hw => hF w (z_tix_ok _ _ h1 w hw)) hA
  refine ⟨(a, t), g2, vk_R.of (hts _ (zwl_in (List.mem_of_getElem? (of_decide_eq_true h3)))) ?_⟩
  rcases Bool.or_eq_true _ _ ▸ h2 with q | q
  · have q := of_decide_eq_true q
    rw [q]; exact g1
  · exact z_eqr (hF _ (List.mem_of_getElem? (of_decide_eq_true q))) g1
def zTX : List zTe := [(("WindSigned$Teller", 49), ("WindSigned$Teller", 49), (3, 145), "house", [104, 111, 117, 115, 101]), (("WindSigned$Teller", 58), ("WindSigned$Teller", 58), (3, 156), "shelter", [115, 104, 101, 108, 116, 101, 114]), (("WindSigned$Teller", 63), ("WindSigned$Teller", 63), (3, 161), "thing", [116, 104, 105, 110, 103]), (("WindSigned$Teller", 68), ("WindSigned$Teller", 68), (3, 169), "wind", [119, 105, 110, 100]), (("WindSigned$Teller", 83), ("WindSigned$Teller", 83), (3, 74), "plain", [112, 108, 97, 105, 110]), (("WindSigned$Teller", 89), ("WindSigned$Teller", 89), (3, 135), "days", [100, 97, 121, 115]), (("WindSigned$Teller", 97), ("WindSigned$Teller", 97), (3, 141), "law", [108, 97, 119]), (("WindSigned$Teller", 102), ("WindSigned$Teller", 102), (3, 142), "odds", [111, 100, 100, 115]), (("WindSigned$Teller", 106), ("WindSigned$Teller", 106), (3, 143), "wide", [119, 105, 100, 101]), (("WindSigned$Teller", 110), ("WindSigned$Teller", 110), (3, 144), "high", [104, 105, 103, 104]), (("WindSigned$Teller", 134), ("WindSigned$Teller", 134), (3, 166), "weighs", [119, 101, 105, 103, 104, 115]), (("WindSigned$Teller", 139), ("WindSigned$Teller", 139), (3, 167), "at", [97, 116]), (("WindSigned$Teller", 144), ("WindSigned$Teller", 144), (3, 168), "for", [102, 111, 114]), (("WindSignedModel", 175), ("WindSignedModel", 175), (7, 105), "plain", [112, 108, 97, 105, 110]), (("WindSignedModel", 177), ("WindSignedModel", 177), (7, 124), "days", [100, 97, 121, 115]), (("WindSignedModel", 182), ("WindSignedModel", 182), (7, 133), "law", [108, 97, 119]), (("WindSignedModel", 184), ("WindSignedModel", 184), (7, 134), "odds", [111, 100, 100, 115]), (("WindSignedModel", 186), ("WindSignedModel", 186), (7, 135), "wide", [119, 105, 100, 101]), (("WindSignedModel", 188), ("WindSignedModel", 188), (7, 136), "high", [104, 105, 103, 104]), (("WindSignedModel", 194), ("WindSignedModel", 194), (7, 161), "weighs", [119, 101, 105, 103, 104, 115]), (("WindSignedModel", 196), ("WindSignedModel", 196), (7, 162), "at", [97, 116]), (("WindSignedModel", 200), ("WindSignedModel", 200), (7, 163), "for", [102, 111, 114]), (("WindSignedModel", 202), ("WindSignedModel", 202), (7, 141), "house", [104, 111, 117, 115, 101]), (("WindSignedModel", 204), ("WindSignedModel", 204), (7, 142), "shelter", [115, 104, 101, 108, 116, 101, 114]), (("WindSignedModel", 206), ("WindSignedModel", 206), (7, 143), "thing", [116, 104, 105, 110, 103]), (("WindSignedModel", 208), ("WindSignedModel", 208), (7, 144), "wind", [119, 105, 110, 100])]
def zFlat : List Jvm.Cond := flatC (Jvm.Cond.and given_1 narrow_1)
theorem zTX_0 : z_tca zFlat (("WindSigned$Teller", 49), ("WindSigned$Teller", 49), (3, 145), "house", [104, 111, 117, 115, 101]) ([83, 84, 85, 86, 87, 88, 89, 90, 91], 0) = true := by decide +kernel
theorem zTX_1 : z_tca zFlat (("WindSigned$Teller", 58), ("WindSigned$Teller", 58), (3, 156), "shelter", [115, 104, 101, 108, 116, 101, 114]) ([92, 93, 94, 95, 96, 97, 98, 99, 100, 101, 102], 0) = true := by decide +kernel
theorem zTX_2 : z_tca zFlat (("WindSigned$Teller", 63), ("WindSigned$Teller", 63), (3, 161), "thing", [116, 104, 105, 110, 103]) ([103, 104, 105, 106, 107, 108, 109, 110, 111], 0) = true := by decide +kernel
theorem zTX_3 : z_tca zFlat (("WindSigned$Teller", 68), ("WindSigned$Teller", 68), (3, 169), "wind", [119, 105, 110, 100]) ([135, 136, 137, 138, 139, 140, 141, 142], 0) = true := by decide +kernel
theorem zTX_4 : z_tca zFlat (("WindSigned$Teller", 83), ("WindSigned$Teller", 83), (3, 74), "plain", [112, 108, 97, 105, 110]) ([35, 36, 37, 38, 39, 40, 41, 42, 43], 0) = true := by decide +kernel
theorem zTX_5 : z_tca zFlat (("WindSigned$Teller", 89), ("WindSigned$Teller", 89), (3, 135), "days", [100, 97, 121, 115]) ([44, 45, 46, 47, 48, 49, 50, 51], 0) = true := by decide +kernel
theorem zTX_6 : z_tca zFlat (("WindSigned$Teller", 97), ("WindSigned$Teller", 97), (3, 141), "law", [108, 97, 119]) ([52, 53, 54, 55, 56, 57, 58], 0) = true := by decide +kernel
theorem zTX_7 : z_tca zFlat (("WindSigned$Teller", 102), ("WindSigned$Teller", 102), (3, 142), "odds", [111, 100, 100, 115]) ([59, 60, 61, 62, 63, 64, 65, 66], 0) = true := by decide +kernel
theorem zTX_8 : z_tca zFlat (("WindSigned$Teller", 106), ("WindSigned$Teller", 106), (3, 143), "wide", [119, 105, 100, 101]) ([67, 68, 69, 70, 71, 72, 73, 74], 0) = true := by decide +kernel
theorem zTX_9 : z_tca zFlat (("WindSigned$Teller", 110), ("WindSigned$Teller", 110), (3, 144), "high", [104, 105, 103, 104]) ([75, 76, 77, 78, 79, 80, 81, 82], 0) = true := by decide +kernel
theorem zTX_10 : z_tca zFlat (("WindSigned$Teller", 134), ("WindSigned$Teller", 134), (3, 166), "weighs", [119, 101, 105, 103, 104, 115]) ([112, 113, 114, 115, 116, 117, 118, 119, 120, 121], 0) = true := by decide +kernel
theorem zTX_11 : z_tca zFlat (("WindSigned$Teller", 139), ("WindSigned$Teller", 139), (3, 167), "at", [97, 116]) ([122, 123, 124, 125, 126, 127], 0) = true := by decide +kernel
theorem zTX_12 : z_tca zFlat (("WindSigned$Teller", 144), ("WindSigned$Teller", 144), (3, 168), "for", [102, 111, 114]) ([128, 129, 130, 131, 132, 133, 134], 0) = true := by decide +kernel
theorem zTX_13 : z_tca zFlat (("WindSignedModel", 175), ("WindSignedModel", 175), (7, 105), "plain", [112, 108, 97, 105, 110]) ([143, 144, 145, 146, 147, 148, 149, 150, 151], 0) = true := by decide +kernel
theorem zTX_14 : z_tca zFlat (("WindSignedModel", 177), ("WindSignedModel", 177), (7, 124), "days", [100, 97, 121, 115]) ([153, 154, 155, 156, 157, 158, 159, 160], 0) = true := by decide +kernel
theorem zTX_15 : z_tca zFlat (("WindSignedModel", 182), ("WindSignedModel", 182), (7, 133), "law", [108, 97, 119]) ([162, 163, 164, 165, 166, 167, 168], 0) = true := by decide +kernel
theorem zTX_16 : z_tca zFlat (("WindSignedModel", 184), ("WindSignedModel", 184), (7, 134), "odds", [111, 100, 100, 115]) ([170, 171, 172, 173, 174, 175, 176, 177], 0) = true := by decide +kernel
theorem zTX_17 : z_tca zFlat (("WindSignedModel", 186), ("WindSignedModel", 186), (7, 135), "wide", [119, 105, 100, 101]) ([179, 180, 181, 182, 183, 184, 185, 186], 0) = true := by decide +kernel
theorem zTX_18 : z_tca zFlat (("WindSignedModel", 188), ("WindSignedModel", 188), (7, 136), "high", [104, 105, 103, 104]) ([188, 189, 190, 191, 192, 193, 194, 195], 0) = true := by decide +kernel
theorem zTX_19 : z_tca zFlat (("WindSignedModel", 194), ("WindSignedModel", 194), (7, 161), "weighs", [119, 101, 105, 103, 104, 115]) ([238, 239, 240, 241, 242, 243, 244, 245, 246, 247], 0) = true := by decide +kernel
theorem zTX_20 : z_tca zFlat (("WindSignedModel", 196), ("WindSignedModel", 196), (7, 162), "at", [97, 116]) ([249, 250, 251, 252, 253, 254], 0) = true := by decide +kernel
theorem zTX_21 : z_tca zFlat (("WindSignedModel", 200), ("WindSignedModel", 200), (7, 163), "for", [102, 111, 114]) ([256, 257, 258, 259, 260, 261, 262], 0) = true := by decide +kernel
theorem zTX_22 : z_tca zFlat (("WindSignedModel", 202), ("WindSignedModel", 202), (7, 141), "house", [104, 111, 117, 115, 101]) ([197, 198, 199, 200, 201, 202, 203, 204, 205], 0) = true := by decide +kernel
theorem zTX_23 : z_tca zFlat (("WindSignedModel", 204), ("WindSignedModel", 204), (7, 142), "shelter", [115, 104, 101, 108, 116, 101, 114]) ([207, 208, 209, 210, 211, 212, 213, 214, 215, 216, 217], 0) = true := by decide +kernel
theorem zTX_24 : z_tca zFlat (("WindSignedModel", 206), ("WindSignedModel", 206), (7, 143), "thing", [116, 104, 105, 110, 103]) ([219, 220, 221, 222, 223, 224, 225, 226, 227], 0) = true := by decide +kernel
theorem zTX_25 : z_tca zFlat (("WindSignedModel", 208), ("WindSignedModel", 208), (7, 144), "wind", [119, 105, 110, 100]) ([229, 230, 231, 232, 233, 234, 235, 236], 0) = true := by decide +kernel
theorem zTX_ok : ∀ e ∈ zTX, ∃ ix, z_tca zFlat e ix = true := List.forall_mem_cons.mpr ⟨⟨_, zTX_0⟩, List.forall_mem_cons.mpr ⟨⟨_, zTX_1⟩, List.forall_mem_cons.mpr ⟨⟨_, zTX_2⟩, List.forall_mem_cons.mpr ⟨⟨_, zTX_3⟩, List.forall_mem_cons.mpr ⟨⟨_, zTX_4⟩, List.forall_mem_cons.mpr ⟨⟨_, zTX_5⟩, List.forall_mem_cons.mpr ⟨⟨_, zTX_6⟩, List.forall_mem_cons.mpr ⟨⟨_, zTX_7⟩, List.forall_mem_cons.mpr ⟨⟨_, zTX_8⟩, List.forall_mem_cons.mpr ⟨⟨_, zTX_9⟩, List.forall_mem_cons.mpr ⟨⟨_, zTX_10⟩, List.forall_mem_cons.mpr ⟨⟨_, zTX_11⟩, List.forall_mem_cons.mpr ⟨⟨_, zTX_12⟩, List.forall_mem_cons.mpr ⟨⟨_, zTX_13⟩, List.forall_mem_cons.mpr ⟨⟨_, zTX_14⟩, List.forall_mem_cons.mpr ⟨⟨_, zTX_15⟩, List.forall_mem_cons.mpr ⟨⟨_, zTX_16⟩, List.forall_mem_cons.mpr ⟨⟨_, zTX_17⟩, List.forall_mem_cons.mpr ⟨⟨_, zTX_18⟩, List.forall_mem_cons.mpr ⟨⟨_, zTX_19⟩, List.forall_mem_cons.mpr ⟨⟨_, zTX_20⟩, List.forall_mem_cons.mpr ⟨⟨_, zTX_21⟩, List.forall_mem_cons.mpr ⟨⟨_, zTX_22⟩, List.forall_mem_cons.mpr ⟨⟨_, zTX_23⟩, List.forall_mem_cons.mpr ⟨⟨_, zTX_24⟩, List.forall_mem_cons.mpr ⟨⟨_, zTX_25⟩, fun _ h => absurd h List.not_mem_nil⟩⟩⟩⟩⟩⟩⟩⟩⟩⟩⟩⟩⟩⟩⟩⟩⟩⟩⟩⟩⟩⟩⟩⟩⟩⟩
def z_kck (KS : List (List (Nat × Nat))) (N : List String) (TX : List zTe) (ST : List (List Int)) : Bool := (List.range KS.length).all (fun cn => match KS[cn]? with
  | some row => row.all (fun e => match N[cn]?, TX[e.2]?, ST[e.2]? with
    | some own, some x, some bs => decide (x.1 = (own, e.1)) && decide (bs = x.2.2.2.2)
    | _, _, _ => false)
  | none => true)
theorem zKS_ck : z_kck zKS zN zTX zST = true := by decide +kernel
theorem zST_eq : zST = zTX.map (fun e => e.2.2.2.2) := by decide +kernel
theorem zF_cs : Jvm.Cond.eq (.static "java/lang/String" "COMPACT_STRINGS" "Z") (.int 1) ∈ zFlat := List.mem_of_getElem? (i := 4) (by decide +kernel)
theorem zF_fm : Jvm.Cond.isRef (.static "jdk/internal/util/Preconditions" "SIOOBE_FORMATTER" "Ljava/util/function/BiFunction;") ∈ zFlat := List.mem_of_getElem? (i := 5) (by decide +kernel)
theorem zl_cs : Jvm.Cond.laysStatic "java/lang/String" "COMPACT_STRINGS" "Z" ∈ lw_tbl := zwl_in (k := 3) (List.mem_of_getElem? (i := 92) (by decide +kernel))
theorem zl_fm : Jvm.Cond.laysStatic "jdk/internal/util/Preconditions" "SIOOBE_FORMATTER" "Ljava/util/function/BiFunction;" ∈ lw_tbl := zwl_in (k := 3) (List.mem_of_getElem? (i := 108) (by decide +kernel))
theorem zl_is : Jvm.Cond.initialized "java/lang/String" ∈ lw_tbl := zwl_in (k := 1) (List.mem_of_getElem? (i := 16) (by decide +kernel))
theorem zl_ip : Jvm.Cond.initialized "jdk/internal/util/Preconditions" ∈ lw_tbl := zwl_in (k := 1) (List.mem_of_getElem? (i := 18) (by decide +kernel))
theorem zNL_in : ∀ q ∈ zNL, Jvm.Cond.methodLinkNest q.1 q.2.1 q.2.2.1 q.2.2.2 ∈ lw_tbl := List.forall_mem_cons.mpr ⟨zwl_in (k := 4) (List.mem_of_getElem? (i := 12) (by decide +kernel)), List.forall_mem_cons.mpr ⟨zwl_in (k := 4) (List.mem_of_getElem? (i := 139) (by decide +kernel)), List.forall_mem_cons.mpr ⟨zwl_in (k := 5) (List.mem_of_getElem? (i := 43) (by decide +kernel)), fun _ h => absurd h List.not_mem_nil⟩⟩⟩
theorem z_texts {args : Array Value} {s : State} {A : Nat → Prop} (b : Nat) (hF : ∀ w ∈ zFlat, w.before args s = true) (hts : ∀ w ∈ lw_tbl, w.before args s = true) (hA : ∀ a : Nat, a < s.heap.size → ¬ A a) : ∃ B : Nat → Nat, B 0 = b ∧ zStr (zST, zKS, zSF, zGS) zN A B s s.heap := by
  have h0 : ∀ i : Nat, ∃ q : Nat × Nat, ∀ e : zTe, zTX[i]? = some e → (va_O "java/lang/String" q.1 A s s.heap ∧ va_OF "java/lang/String" "coder" "B" (.int 0) q.1 A s s.heap ∧ va_OF "java/lang/String" "value" "[B" (.ref q.2) q.1 A s s.heap ∧ va_T .byte q.2 e.2.2.2.2.length (fun j => .int (Int32.ofInt (e.2.2.2.2.getD j 0))) A s s.heap) ∧ vk_R e.1.1 e.1.2 e.2.2.2.1 q.1 s := by
    intro i
    cases hi : zTX[i]? with
    | none => exact ⟨(0, 0), fun e he => by cases he⟩
    | some e =>
      obtain ⟨q, hq⟩ := z_tca_ok (A := A) (zTX_ok e (List.mem_of_getElem? hi)).choose_spec hF hts hA
      exact ⟨q, fun e' he => by cases he; exact hq⟩
  obtain ⟨ad, had⟩ := Classical.axiomOfChoice h0
  have hZ1 : va_Z "java/lang/String" "COMPACT_STRINGS" "Z" (.int 1) A s s.heap := va_Zof (hts _ zl_cs) (hts _ zl_is) (va_eqi (hF _ zF_cs)) hA
  have hZ2 : va_Zq "jdk/internal/util/Preconditions" "SIOOBE_FORMATTER" "Ljava/util/function/BiFunction;" A s s.heap := va_Zqof (hts _ zl_fm) (hts _ zl_ip) (hF _ zF_fm) hA
  obtain ⟨z, hz⟩ : ∃ z : Nat, va_Z "jdk/internal/util/Preconditions" "SIOOBE_FORMATTER" "Ljava/util/function/BiFunction;" (z_rn z) A s s.heap := by
    rcases hZ2 with h | ⟨t, h⟩
    · exact ⟨0, h⟩
    · exact ⟨t + 1, h⟩
  have hlen : zST.length = 26 := by decide +kernel
  refine ⟨fun k => if k = 0 then b else if k = 2 * 26 + 1 then z else if k % 2 = 1 then (ad ((k - 1) / 2)).1 else (ad ((k - 2) / 2)).2, if_pos rfl, ⟨fun i hi => ?_, hZ1, ?_⟩, fun cn idx i own hk hn => ?_, fun q hq => va_Nw.of rfl (hts _ (zNL_in q hq))⟩
  · rw [hlen] at hi
    have e1 : (fun k => if k = 0 then b else if k = 2 * 26 + 1 then z else if k % 2 = 1 then (ad ((k - 1) / 2)).1 else (ad ((k - 2) / 2)).2) (1 + 2 * i) = (ad i).1 := by
      show (if 1 + 2 * i = 0 then b else if 1 + 2 * i = 2 * 26 + 1 then z else if (1 + 2 * i) % 2 = 1 then (ad ((1 + 2 * i - 1) / 2)).1 else (ad ((1 + 2 * i - 2) / 2)).2) = (ad i).1
      rw [if_neg (by omega), if_neg (by omega), if_pos (by omega), show (1 + 2 * i - 1) / 2 = i by omega]
    have e2 : (fun k => if k = 0 then b else if k = 2 * 26 + 1 then z else if k % 2 = 1 then (ad ((k - 1) / 2)).1 else (ad ((k - 2) / 2)).2) (2 + 2 * i) = (ad i).2 := by
      show (if 2 + 2 * i = 0 then b else if 2 + 2 * i = 2 * 26 + 1 then z else if (2 + 2 * i) % 2 = 1 then (ad ((2 + 2 * i - 1) / 2)).1 else (ad ((2 + 2 * i - 2) / 2)).2) = (ad i).2
      rw [if_neg (by omega), if_neg (by omega), if_neg (by omega), show (2 + 2 * i - 2) / 2 = i by omega]
    have hl : zTX.length = 26 := by decide +kernel
    obtain ⟨e, he⟩ : ∃ e, zTX[i]? = some e := ⟨_, List.getElem?_eq_getElem (by rw [hl]; exact hi)⟩
    have e3 : (zST, zKS, zSF, zGS).1.getD i [] = e.2.2.2.2 := by
      show zST.getD i [] = _
      rw [zST_eq, List.getD_eq_getElem?_getD, List.getElem?_map, he]
      rfl
    rw [e1, e2, e3]
    exact (had i e he).1
  · have e1 : (fun k => if k = 0 then b else if k = 2 * 26 + 1 then z else if k % 2 = 1 then (ad ((k - 1) / 2)).1 else (ad ((k - 2) / 2)).2) (2 * zST.length + 1) = z := by
      rw [hlen]
      show (if 2 * 26 + 1 = 0 then b else if 2 * 26 + 1 = 2 * 26 + 1 then z else _) = z
      rw [if_neg (by omega), if_pos rfl]
    show va_Z "jdk/internal/util/Preconditions" "SIOOBE_FORMATTER" "Ljava/util/function/BiFunction;" (z_rn ((fun k => if k = 0 then b else if k = 2 * 26 + 1 then z else if k % 2 = 1 then (ad ((k - 1) / 2)).1 else (ad ((k - 2) / 2)).2) (2 * zST.length + 1))) A s s.heap
    rw [e1]
    exact hz
  · obtain ⟨q, hq, hm⟩ := z_k2_mem hk
    have hcn : cn < zKS.length := (List.getElem?_eq_some_iff.mp hq).1
    have h1 := List.all_eq_true.mp zKS_ck cn (List.mem_range.mpr hcn)
    change (match zKS[cn]? with
      | some row => row.all (fun e => match zN[cn]?, zTX[e.2]?, zST[e.2]? with
        | some own, some x, some bs => decide (x.1 = (own, e.1)) && decide (bs = x.2.2.2.2)
        | _, _, _ => false)
      | none => true) = true at h1
    rw [show zKS[cn]? = some q from hq] at h1
    have h2 := List.all_eq_true.mp h1 _ hm
    dsimp only at h2
    rw [hn] at h2
    cases hx : zTX[i]? with
    | none => rw [hx] at h2; cases h2
    | some x =>
      cases hs : zST[i]? with
      | none => rw [hx, hs] at h2; cases h2
      | some bs =>
        rw [hx, hs] at h2
        dsimp only at h2
        rw [Bool.and_eq_true] at h2
        have e1 := of_decide_eq_true h2.1
        have hi : i < zST.length := (List.getElem?_eq_some_iff.mp hs).1
        refine ⟨hi, x.2.2.2.1, ?_⟩
        rw [hlen] at hi
        have e2 : (fun k => if k = 0 then b else if k = 2 * 26 + 1 then z else if k % 2 = 1 then (ad ((k - 1) / 2)).1 else (ad ((k - 2) / 2)).2) (1 + 2 * i) = (ad i).1 := by
          show (if 1 + 2 * i = 0 then b else if 1 + 2 * i = 2 * 26 + 1 then z else if (1 + 2 * i) % 2 = 1 then (ad ((1 + 2 * i - 1) / 2)).1 else (ad ((1 + 2 * i - 2) / 2)).2) = (ad i).1
          rw [if_neg (by omega), if_neg (by omega), if_pos (by omega), show (1 + 2 * i - 1) / 2 = i by omega]
        rw [e2]
        have h3 := (had i x hx).2
        rw [e1] at h3
        exact h3
