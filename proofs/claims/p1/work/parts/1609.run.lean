/-! ===== runs, written by wip/gen/p1/runs.py ===== -/
theorem syr_13_14 : syrun (systep (syu1 7)) (syfin sytab syfin1) 20000 (syc1 [(7, 13, 13), (2, 31, 31)]) = true := by decide +kernel
theorem syr_13_15 : syrun (systep (syu1 7)) (syfin sytab syfin1) 20000 (syc1 [(7, 13, 13), (2, 32, 32)]) = true := by decide +kernel
