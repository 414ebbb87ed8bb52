theorem zok_cls : zClsOk zcl zN zTs := zCls_ok (LY := zLY) (by decide +kernel)
theorem zok_g : zGOk zcl zGG := zG_ok (by decide +kernel)
theorem zck_FL : zckt (zwFL zcl) zN zFL zFLi = true := by decide +kernel
theorem zck_NW : zckt (zwNW zcl) zN zNW zNWi = true := by decide +kernel
theorem zck_AN : zckt (zwAN ztyl) zN zAN zANi = true := by decide +kernel
theorem zck_MN : zckt (zwMN ztyl) zN zMN zMNi = true := by decide +kernel
theorem zck_KI : zckt zwKI zN zKI zKIi = true := by decide +kernel
theorem zck_KL : zckt zwKL zN zKL zKLi = true := by decide +kernel
theorem zck_CT : zckt (zwCT zMT) zN zCT zCTi = true := by decide +kernel
theorem zok_ar : zArOk zTs := by
  intro t ht
  cases t
  case boolean => exact zck_ok (q := (2, 92)) (by decide +kernel)
  case char => exact absurd ht (by decide)
  case float => exact absurd ht (by decide)
  case double => exact absurd ht (by decide)
  case byte => exact zck_ok (q := (1, 46)) (by decide +kernel)
  case short => exact absurd ht (by decide)
  case int => exact zck_ok (q := (1, 119)) (by decide +kernel)
  case long => exact zck_ok (q := (2, 163)) (by decide +kernel)
theorem zok_m0 : zMTi0.all (zckm zN) = true := by decide +kernel
theorem zok_m1 : zMTi1.all (zckm zN) = true := by decide +kernel
theorem zok_m2 : zMTi2.all (zckm zN) = true := by decide +kernel
theorem zok_m3 : zMTi3.all (zckm zN) = true := by decide +kernel
theorem zok_m4 : zMTi4.all (zckm zN) = true := by decide +kernel
theorem zok_m5 : zMTi5.all (zckm zN) = true := by decide +kernel
theorem zok_mi : (zMTi0 ++ (zMTi1 ++ (zMTi2 ++ (zMTi3 ++ (zMTi4 ++ (zMTi5)))))).all (zckm zN) = true := by
  rw [List.all_append, List.all_append, List.all_append, List.all_append, List.all_append]
  rw [zok_m0, zok_m1, zok_m2, zok_m3, zok_m4, zok_m5]
  rfl
