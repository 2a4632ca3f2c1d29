/-! the words of the four throws are in the tables -/
abbrev nmR : List String := ["java/lang/RuntimeException", "java/lang/Exception"]
theorem at_Io : (vx_atS RCl 179 "java/lang/IndexOutOfBoundsException" nmR).all (fun w => decide (w ∈ lw_tbl) && (goodWord w || cdW w)) = true := by decide +kernel
theorem at_Is : (vx_atS RCl 200 "java/lang/IllegalStateException" nmR).all (fun w => decide (w ∈ lw_tbl) && (goodWord w || cdW w)) = true := by decide +kernel
theorem at_Ia : (vx_atS RCl 195 "java/lang/IllegalArgumentException" nmR).all (fun w => decide (w ∈ lw_tbl) && (goodWord w || cdW w)) = true := by decide +kernel
theorem at_Ns : ((nsAtoms RCl 205 "java/util/NoSuchElementException" "java/lang/RuntimeException" ["java/lang/Exception"] 13 prog_18_method_4_code).filter vx_no).all (fun w => decide (w ∈ lw_tbl) && (goodWord w || cdW w)) = true := by decide +kernel
