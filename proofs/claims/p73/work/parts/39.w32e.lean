theorem zok_m22 : zMTi22.all (zckm zN) = true := by decide +kernel
theorem zok_m23 : zMTi23.all (zckm zN) = true := by decide +kernel
theorem zok_m24 : zMTi24.all (zckm zN) = true := by decide +kernel
theorem zok_m25 : zMTi25.all (zckm zN) = true := by decide +kernel
theorem zok_m26 : zMTi26.all (zckm zN) = true := by decide +kernel
theorem zok_m27 : zMTi27.all (zckm zN) = true := by decide +kernel
theorem zok_m28 : zMTi28.all (zckm zN) = true := by decide +kernel
theorem zok_m29 : zMTi29.all (zckm zN) = true := by decide +kernel
theorem zok_m30 : zMTi30.all (zckm zN) = true := by decide +kernel
theorem zok_mi : (zMTi0 ++ (zMTi1 ++ (zMTi2 ++ (zMTi3 ++ (zMTi4 ++ (zMTi5 ++ (zMTi6 ++ (zMTi7 ++ (zMTi8 ++ (zMTi9 ++ (zMTi10 ++ (zMTi11 ++ (zMTi12 ++ (zMTi13 ++ (zMTi14 ++ (zMTi15 ++ (zMTi16 ++ (zMTi17 ++ (zMTi18 ++ (zMTi19 ++ (zMTi20 ++ (zMTi21 ++ (zMTi22 ++ (zMTi23 ++ (zMTi24 ++ (zMTi25 ++ (zMTi26 ++ (zMTi27 ++ (zMTi28 ++ (zMTi29 ++ (zMTi30))))))))))))))))))))))))))))))).all (zckm zN) = true := by
  rw [List.all_append, List.all_append, List.all_append, List.all_append, List.all_append, List.all_append, List.all_append, List.all_append, List.all_append, List.all_append, List.all_append, List.all_append, List.all_append, List.all_append, List.all_append, List.all_append, List.all_append, List.all_append, List.all_append, List.all_append, List.all_append, List.all_append, List.all_append, List.all_append, List.all_append, List.all_append, List.all_append, List.all_append, List.all_append, List.all_append]
  rw [zok_m0, zok_m1, zok_m2, zok_m3, zok_m4, zok_m5, zok_m6, zok_m7, zok_m8, zok_m9, zok_m10, zok_m11, zok_m12, zok_m13, zok_m14, zok_m15, zok_m16, zok_m17, zok_m18, zok_m19, zok_m20, zok_m21, zok_m22, zok_m23, zok_m24, zok_m25, zok_m26, zok_m27, zok_m28, zok_m29, zok_m30]
  rfl
