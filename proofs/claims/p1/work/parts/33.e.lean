def zbq : List zP → List zP → Bool
  | [], [] => true
  | a :: x, b :: y => decide (a = b) && zbq x y
  | _, _ => false
theorem zbq_ok : ∀ {x y : List zP}, zbq x y = true → x = y
  | [], [], _ => rfl
  | a :: x, b :: y, h => by
    unfold zbq at h
    rw [Bool.and_eq_true] at h
    rw [of_decide_eq_true h.1, zbq_ok h.2]
  | [], _ :: _, h => by cases h
  | _ :: _, [], h => by cases h
theorem zpL_eq : zpL = zpL0 ++ (zpL1 ++ (zpL2 ++ (zpL3 ++ (zpL4 ++ (zpL5 ++ (zpL6 ++ (zpL7 ++ (zpL8 ++ (zpL9 ++ (zpL10 ++ (zpL11 ++ (zpL12 ++ (zpL13 ++ (zpL14 ++ (zpL15 ++ (zpL16 ++ (zpL17 ++ (zpL18 ++ (zpL19 ++ (zpL20 ++ (zpL21 ++ (zpL22 ++ (zpL23 ++ (zpL24 ++ (zpL25 ++ (zpL26 ++ (zpL27 ++ (zpL28 ++ (zpL29 ++ (zpL30 ++ (zpL31 ++ (zpL32 ++ (zpL33 ++ (zpL34 ++ (zpL35 ++ (zpL36 ++ (zpL37 ++ (zpL38 ++ (zpL39))))))))))))))))))))))))))))))))))))))) := zbq_ok (by decide +kernel)
theorem zd_law : zckd code zpL = true := by rw [zpL_eq]; exact zckd_app zdL0 (zckd_app zdL1 (zckd_app zdL2 (zckd_app zdL3 (zckd_app zdL4 (zckd_app zdL5 (zckd_app zdL6 (zckd_app zdL7 (zckd_app zdL8 (zckd_app zdL9 (zckd_app zdL10 (zckd_app zdL11 (zckd_app zdL12 (zckd_app zdL13 (zckd_app zdL14 (zckd_app zdL15 (zckd_app zdL16 (zckd_app zdL17 (zckd_app zdL18 (zckd_app zdL19 (zckd_app zdL20 (zckd_app zdL21 (zckd_app zdL22 (zckd_app zdL23 (zckd_app zdL24 (zckd_app zdL25 (zckd_app zdL26 (zckd_app zdL27 (zckd_app zdL28 (zckd_app zdL29 (zckd_app zdL30 (zckd_app zdL31 (zckd_app zdL32 (zckd_app zdL33 (zckd_app zdL34 (zckd_app zdL35 (zckd_app zdL36 (zckd_app zdL37 (zckd_app zdL38 (zdL39)))))))))))))))))))))))))))))))))))))))
theorem zok_mt : zMTOk zN zTs zMT := zMT_ok zok_mi zok_d
theorem zok_law : zMOk zN zTs zmL := ⟨by decide +kernel, zckd_ok zd_law, fun h => by cases h⟩
