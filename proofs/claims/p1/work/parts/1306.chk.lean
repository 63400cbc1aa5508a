/-! ===== the table held against decode, written by wip/gen/p1/tab.py ===== -/
theorem sytv_4 : ∀ i, i < 30 → ∀ pc, pc < sysz (150 + i) → sytc (150 + i) pc = true := by decide +kernel
theorem sytv_5 : ∀ i, i < 20 → ∀ pc, pc < sysz (180 + i) → sytc (180 + i) pc = true := by decide +kernel
theorem sytv_6 : ∀ i, i < 16 → ∀ pc, pc < sysz (200 + i) → sytc (200 + i) pc = true := by decide +kernel
