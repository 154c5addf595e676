set_option maxRecDepth 100000 in
theorem zE_IO_in : ∀ w ∈ (vx_atS RX0 50 "java/lang/IndexOutOfBoundsException" ["java/lang/RuntimeException", "java/lang/Exception"]).filter goodWord, w ∈ lw_tbl := by decide +kernel
