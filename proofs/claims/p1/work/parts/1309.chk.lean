/-! ===== the table held against decode, written by wip/gen/p1/tab.py ===== -/
theorem sykv_l : ∀ pc, pc < sysz 902 → sykb 902 pc (sykt 902 pc) = true := by decide +kernel
