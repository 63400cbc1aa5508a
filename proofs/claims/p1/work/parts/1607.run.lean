/-! ===== runs, written by wip/gen/p1/runs.py ===== -/
theorem syr_13_9 : syrun (systep (syu1 7)) (syfin sytab syfin1) 20000 (syc1 [(7, 13, 13), (2, 20, 20)]) = true := by decide +kernel
theorem syr_13_10 : syrun (systep (syu1 7)) (syfin sytab syfin1) 20000 (syc1 [(7, 13, 13), (2, 21, 21)]) = true := by decide +kernel
