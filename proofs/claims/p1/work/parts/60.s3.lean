theorem ps8 : ∀ x ∈ ps_strs, ∀ y ∈ ps_strs, x.1 = y.1 → x = y := by decide +kernel
set_option maxRecDepth 100000 in
theorem px1 : ∀ x ∈ px_strs, Cond.exactly (.string RX12 x.1) "java/lang/String" ∈ lc_flat := by decide +kernel
set_option maxRecDepth 100000 in
theorem px2 : ∀ x ∈ px_strs, Cond.stringRef RX12 x.1 x.2 ∈ lw_tbl := by decide +kernel
theorem px8 : ∀ x ∈ px_strs, ∀ y ∈ px_strs, x.1 = y.1 → x = y := by decide +kernel
