/-! ===== runs, written by wip/gen/p1/runs.py ===== -/
theorem syr_13_3 : syrun (systep (syu1 7)) (syfin sytab syfin1) 20000 (syc1 [(7, 13, 13), (2, 7, 7)]) = true := by decide +kernel
theorem syr_13_5 : syrun (systep (syu1 7)) (syfin sytab syfin1) 20000 (syc1 [(7, 13, 13), (2, 10, 10)]) = true := by decide +kernel
