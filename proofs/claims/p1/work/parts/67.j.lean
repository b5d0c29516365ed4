set_option maxRecDepth 20000
theorem wl_x0 : ∀ w ∈ (vx_atM "java/lang/ArrayIndexOutOfBoundsException" ["java/lang/IndexOutOfBoundsException", "java/lang/RuntimeException", "java/lang/Exception"]).filter goodWord, w ∉ LF → w ∈ lw_tbl := by decide +kernel
theorem wl_x1 : ∀ w ∈ (vx_atS RX11 61 "java/lang/IllegalArgumentException" ["java/lang/RuntimeException", "java/lang/Exception"]).filter goodWord, w ∉ LF → w ∈ lw_tbl := by decide +kernel
theorem wl_x2 : ∀ w ∈ (vx_atS RX11 208 "java/lang/IllegalStateException" ["java/lang/RuntimeException", "java/lang/Exception"]).filter goodWord, w ∉ LF → w ∈ lw_tbl := by decide +kernel
theorem wl_x3 : ∀ w ∈ (vx_atS RX11 474 "java/lang/IndexOutOfBoundsException" ["java/lang/RuntimeException", "java/lang/Exception"]).filter goodWord, w ∉ LF → w ∈ lw_tbl := by decide +kernel
theorem wl_x4 : ∀ w ∈ (vx_atS RX11 125 "java/lang/UnsupportedOperationException" ["java/lang/RuntimeException", "java/lang/Exception"]).filter goodWord, w ∉ LF → w ∈ lw_tbl := by decide +kernel
theorem wl_x5 : ∀ w ∈ (vx_atS RX11 187 "java/util/NoSuchElementException" ["java/lang/RuntimeException", "java/lang/Exception"]).filter goodWord, w ∉ LF → w ∈ lw_tbl := by decide +kernel
theorem wl_x6 : ∀ w ∈ (vx_atM "java/lang/ArithmeticException" ["java/lang/RuntimeException", "java/lang/Exception"]).filter goodWord, w ∉ LF → w ∈ lw_tbl := by decide +kernel
theorem wl_x7 : ∀ w ∈ (vx_atS RX11 425 "java/lang/ArithmeticException" ["java/lang/RuntimeException", "java/lang/Exception"]).filter goodWord, w ∉ LF → w ∈ lw_tbl := by decide +kernel
theorem wl_any : ∀ w ∈ wsL_law, w ∉ LF → w ∈ lw_tbl := (List.forall_mem_append.mpr ⟨(List.forall_mem_append.mpr ⟨(List.forall_mem_append.mpr ⟨(List.forall_mem_append.mpr ⟨(List.forall_mem_append.mpr ⟨(List.forall_mem_append.mpr ⟨(List.forall_mem_append.mpr ⟨(List.forall_mem_append.mpr ⟨(fun w h _ => wl_in0 w h), wl_x0⟩), wl_x1⟩), wl_x2⟩), wl_x3⟩), wl_x4⟩), wl_x5⟩), wl_x6⟩), wl_x7⟩)
theorem wl_in : ∀ w ∈ wnL_law, w ∈ lw_tbl := fun w h => have q := List.mem_filter.mp h; wl_any w q.1 (of_decide_eq_true q.2)
set_option maxRecDepth 512
