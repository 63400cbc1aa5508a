/-! ===== the table held against decode, written by wip/gen/p1/tab.py ===== -/
theorem sykv_0 : ∀ i, i < 40 → ∀ pc, pc < sysz (0 + i) → sykb (0 + i) pc (sykt (0 + i) pc) = true := by decide +kernel
theorem sykv_1 : ∀ i, i < 50 → ∀ pc, pc < sysz (40 + i) → sykb (40 + i) pc (sykt (40 + i) pc) = true := by decide +kernel
theorem sykv_2 : ∀ i, i < 39 → ∀ pc, pc < sysz (90 + i) → sykb (90 + i) pc (sykt (90 + i) pc) = true := by decide +kernel
