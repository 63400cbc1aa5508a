/-! ===== the table held against decode, written by wip/gen/p1/tab.py ===== -/
theorem sytw_0 : ∀ i, i < 60 → sytc 902 (0 + i) = true := by decide +kernel
theorem sytw_1 : ∀ i, i < 60 → sytc 902 (60 + i) = true := by decide +kernel
theorem sytw_2 : ∀ i, i < 60 → sytc 902 (120 + i) = true := by decide +kernel
theorem sytw_3 : ∀ i, i < 60 → sytc 902 (180 + i) = true := by decide +kernel
theorem sytw_4 : ∀ i, i < 60 → sytc 902 (240 + i) = true := by decide +kernel
theorem sytw_5 : ∀ i, i < 60 → sytc 902 (300 + i) = true := by decide +kernel
