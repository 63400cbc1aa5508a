/-! ===== runs, written by wip/gen/p1/runs.py ===== -/
theorem syr_13_11 : syrun (systep (syu1 7)) (syfin sytab syfin1) 20000 (syc1 [(7, 13, 13), (2, 22, 22)]) = true := by decide +kernel
theorem syr_13_13 : syrun (systep (syu1 7)) (syfin sytab syfin1) 20000 (syc1 [(7, 13, 13), (2, 30, 30)]) = true := by decide +kernel
