/-! ===== runs, written by wip/gen/p1/runs.py ===== -/
theorem syr_13_1 : syrun (systep (syu1 7)) (syfin sytab syfin1) 20000 (syc1 [(7, 13, 13), (2, 0, 5)]) = true := by decide +kernel
theorem syr_13_2 : syrun (systep (syu1 7)) (syfin sytab syfin1) 20000 (syc1 [(7, 13, 13), (2, 6, 6)]) = true := by decide +kernel
