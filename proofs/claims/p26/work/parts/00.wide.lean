/-! Names of the library's rest that later parts use: so the round reads over the whole library at once. -/
theorem zz_w1 : True := by have _h := @FP.Core.ddiv_out; trivial
theorem zz_w2 : True := by have _h := @FP.Core.dcmp_key; trivial
theorem zz_w3 : True := by have _h := @FP.Core.compare_ite; trivial
theorem zz_w4 : True := by have _h := @FP.Core.mag_le; trivial
theorem zz_w5 : True := by have _h := @FP.Core.mag_ge; trivial
theorem zz_w6 : True := by have _h := @FP.Core.val64_ddiv; trivial
theorem zz_w7 : True := by have _h := @FP.Core.roundRatio_congr; trivial
theorem zz_w8 : True := by have _h := @FP.Core.val64_inj; trivial
