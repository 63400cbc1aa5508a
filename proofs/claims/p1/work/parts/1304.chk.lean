/-! ===== the table held against decode, written by wip/gen/p1/tab.py ===== -/
theorem sytw_15 : ∀ i, i < 60 → sytc 902 (900 + i) = true := by decide +kernel
theorem sytw_16 : ∀ i, i < 60 → sytc 902 (960 + i) = true := by decide +kernel
theorem sytw_17 : ∀ i, i < 60 → sytc 902 (1020 + i) = true := by decide +kernel
theorem sytw_18 : ∀ i, i < 60 → sytc 902 (1080 + i) = true := by decide +kernel
