/-! ===== the table held against decode, written by wip/gen/p1/tab.py ===== -/
theorem sytw_11 : ∀ i, i < 60 → sytc 902 (660 + i) = true := by decide +kernel
theorem sytw_12 : ∀ i, i < 60 → sytc 902 (720 + i) = true := by decide +kernel
theorem sytw_13 : ∀ i, i < 60 → sytc 902 (780 + i) = true := by decide +kernel
theorem sytw_14 : ∀ i, i < 60 → sytc 902 (840 + i) = true := by decide +kernel
