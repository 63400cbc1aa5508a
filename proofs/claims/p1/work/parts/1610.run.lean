/-! ===== runs, written by wip/gen/p1/runs.py ===== -/
theorem syr_13_17 : syrun (systep (syu1 7)) (syfin sytab syfin1) 20000 (syc1 [(7, 13, 13), (2, 40, 40)]) = true := by decide +kernel
theorem syr_13_18 : syrun (systep (syu1 7)) (syfin sytab syfin1) 20000 (syc1 [(7, 13, 13), (2, 41, 41)]) = true := by decide +kernel
