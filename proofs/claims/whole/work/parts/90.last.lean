theorem zz_1 : goodWord (Cond.initialized "a") = true := rfl
theorem zz_2 : (vx_atS RX5 65 "java/lang/IllegalArgumentException" ["java/lang/RuntimeException", "java/lang/Exception"]).filter (fun w => !goodWord w) = [] := by decide +kernel
