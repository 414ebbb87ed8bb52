theorem zall6 (x : Int) (h0 : -2147483648 ≤ x) (h9 : x ≤ 2147483647) : ∃ (lo hi : Int) (f : Nat), (lo ≤ x ∧ x ≤ hi) ∧ zOnes (zx zTT true f 15 562 zmL 0 zpL (0, 0, zivr lo hi, [(0, (4, 0, 0))], [], z_o0)) = true := by
  exact ⟨(-2147483648), 2147483647, 2390, ⟨h0, h9⟩, zrn0⟩
