/-! ===== the law's words are the tables' ===== -/
set_option maxRecDepth 100000 in
theorem wi_X5 : ∀ w ∈ wsX50, w ∈ lw_tbl := mem_r wsX50 [125, 127, 129, 131, 133, 135, 137] (by decide +kernel)
set_option maxRecDepth 100000 in
theorem wi_X6 : ∀ w ∈ wsX60, w ∈ lw_tbl := mem_r wsX60 [495, 497, 499, 501, 503, 505, 507, 509, 511, 513] (by decide +kernel)
set_option maxRecDepth 100000 in
theorem wi_X4 : ∀ w ∈ wsX40, w ∈ lw_tbl := mem_r wsX40 [56, 58] (by decide +kernel)
set_option maxRecDepth 100000 in
theorem wi_X1 : ∀ w ∈ wsX10, w ∈ lw_tbl := mem_r wsX10 [71, 73] (by decide +kernel)
set_option maxRecDepth 100000 in
theorem wi_X2 : ∀ w ∈ wsX20, w ∈ lw_tbl := mem_r wsX20 [87, 89] (by decide +kernel)
set_option maxRecDepth 100000 in
theorem wi_Jx4a65c : ∀ w ∈ wsJx4a65c0, w ∈ lw_tbl := mem_r wsJx4a65c0 [115, 111, 113] (by decide +kernel)
set_option maxRecDepth 100000 in
theorem wi_X3 : ∀ w ∈ wsX30, w ∈ lw_tbl := mem_r wsX30 [669, 671, 673, 675] (by decide +kernel)
set_option maxRecDepth 100000 in
theorem wi_X0 : ∀ w ∈ wsX00, w ∈ lw_tbl := mem_r wsX00 [584, 586, 588, 590, 592] (by decide +kernel)
set_option maxRecDepth 100000 in
theorem wx_0 : ∀ w ∈ (vx_atS RX5 44 "java/lang/IllegalArgumentException" ["java/lang/RuntimeException", "java/lang/Exception"]).filter goodWord, w ∈ lw_tbl := by decide +kernel
set_option maxRecDepth 100000 in
theorem wx_1 : ∀ w ∈ (vx_atS RX5 118 "java/lang/IndexOutOfBoundsException" ["java/lang/RuntimeException", "java/lang/Exception"]).filter goodWord, w ∈ lw_tbl := by decide +kernel
set_option maxRecDepth 100000 in
theorem wx_2 : ∀ w ∈ (vx_atS RX5 172 "java/lang/IllegalStateException" ["java/lang/RuntimeException", "java/lang/Exception"]).filter goodWord, w ∈ lw_tbl := by decide +kernel
