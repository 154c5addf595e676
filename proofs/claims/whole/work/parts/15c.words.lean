set_option maxRecDepth 100000 in
theorem zE_IS_in : ∀ w ∈ (vx_atS RX0 68 "java/lang/IllegalStateException" ["java/lang/RuntimeException", "java/lang/Exception"]).filter goodWord, w ∈ lw_tbl := by decide +kernel
