theorem zck_CT : zckt (zwCT zMT) zN zCT zCTi = true := by decide +kernel
