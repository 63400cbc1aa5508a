/-! ===== the table held against decode, written by wip/gen/p1/tab.py ===== -/
theorem sytv_0 : ∀ i, i < 40 → ∀ pc, pc < sysz (0 + i) → sytc (0 + i) pc = true := by decide +kernel
theorem sytv_1 : ∀ i, i < 50 → ∀ pc, pc < sysz (40 + i) → sytc (40 + i) pc = true := by decide +kernel
theorem sytv_2 : ∀ i, i < 39 → ∀ pc, pc < sysz (90 + i) → sytc (90 + i) pc = true := by decide +kernel
theorem sytv_3 : ∀ i, i < 21 → ∀ pc, pc < sysz (129 + i) → sytc (129 + i) pc = true := by decide +kernel
