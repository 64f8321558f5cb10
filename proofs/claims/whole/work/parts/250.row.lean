def ax_nse : List Cond := vx_at0 RX9 255 "java/util/NoSuchElementException" ["java/lang/RuntimeException", "java/lang/Exception"]
theorem at_mem : ∀ w ∈ ax_nse, w ∈ lw_tbl := by decide +kernel
theorem at_good : ∀ w ∈ ax_nse, goodWord w = true ∨ ax_nw w = true := by decide +kernel
theorem at_ot : ∀ w ∈ Cond.classLink RX9 253 "java/util/NoSuchElementException" :: Cond.initialized "java/util/NoSuchElementException" :: ax_nse, vx_ot w = true := by decide +kernel
