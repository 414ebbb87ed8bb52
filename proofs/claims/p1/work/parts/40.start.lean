theorem whole_start {p : Program} {e : Env} {s : State} {m : MethodId} {below : List Frame} {meth : Method} {c : Code} (l : Launch) (hflags : l.flags = flags0) {b L : Nat} {xs : Nat → Int32} (hL : L ≤ 6) (C0 : lw_At p s m meth c b L xs) : W p l e room_1 s m #[Value.ref b] below meth c s.heap [] 0 0 (lw_Z below #[Value.ref b] s) (entryFrame m ([Value.ref b] : List Value).toArray 4) := by
  rcases Nat.lt_or_ge L 6 with h | h
  · exact z_start (ρ := zrho L xs) l hL C0 zrun5 (z_iv5 (by omega)) ⟨rfl, fun h => by cases h⟩ (by decide)
  · have e6 : L = 6 := by omega
    subst e6
    obtain ⟨lo, hi, f, h1, h2⟩ := zall6 (xs 0 &&& 127).toInt (z_a127 _).1 (z_a127 _).2
    exact z_start (ρ := zrho 6 xs) l hL C0 h2 (z_iv6 h1) z_sc6 (Nat.lt_succ_self 9)
