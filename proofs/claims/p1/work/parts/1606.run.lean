/-! ===== runs, written by wip/gen/p1/runs.py ===== -/
theorem syr_13_6 : syrun (systep (syu1 7)) (syfin sytab syfin1) 20000 (syc1 [(7, 13, 13), (2, 11, 11)]) = true := by decide +kernel
theorem syr_13_7 : syrun (systep (syu1 7)) (syfin sytab syfin1) 20000 (syc1 [(7, 13, 13), (2, 12, 12)]) = true := by decide +kernel
