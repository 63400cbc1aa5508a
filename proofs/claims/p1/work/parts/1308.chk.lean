/-! ===== the table held against decode, written by wip/gen/p1/tab.py ===== -/
theorem sykv_3 : ∀ i, i < 21 → ∀ pc, pc < sysz (129 + i) → sykb (129 + i) pc (sykt (129 + i) pc) = true := by decide +kernel
theorem sykv_4 : ∀ i, i < 30 → ∀ pc, pc < sysz (150 + i) → sykb (150 + i) pc (sykt (150 + i) pc) = true := by decide +kernel
theorem sykv_5 : ∀ i, i < 20 → ∀ pc, pc < sysz (180 + i) → sykb (180 + i) pc (sykt (180 + i) pc) = true := by decide +kernel
theorem sykv_6 : ∀ i, i < 16 → ∀ pc, pc < sysz (200 + i) → sykb (200 + i) pc (sykt (200 + i) pc) = true := by decide +kernel
