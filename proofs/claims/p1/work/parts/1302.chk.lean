/-! ===== the table held against decode, written by wip/gen/p1/tab.py ===== -/
theorem sytw_6 : ∀ i, i < 60 → sytc 902 (360 + i) = true := by decide +kernel
theorem sytw_7 : ∀ i, i < 60 → sytc 902 (420 + i) = true := by decide +kernel
theorem sytw_8 : ∀ i, i < 60 → sytc 902 (480 + i) = true := by decide +kernel
theorem sytw_9 : ∀ i, i < 60 → sytc 902 (540 + i) = true := by decide +kernel
theorem sytw_10 : ∀ i, i < 60 → sytc 902 (600 + i) = true := by decide +kernel
