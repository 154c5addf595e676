set_option maxRecDepth 100000 in
theorem zE_IA_in : ∀ w ∈ (vx_atS RX0 63 "java/lang/IllegalArgumentException" ["java/lang/RuntimeException", "java/lang/Exception"]).filter goodWord, w ∈ lw_tbl := by decide +kernel
