/-! ===== runs, written by wip/gen/p1/runs.py ===== -/
theorem syr_20_1_4 : syrun (systep (syu1 7)) (syfin sytab syfin1) 20000 (syc1 [(7, 20, 20), (1, 1, 1), (3, 11, 13)]) = true := by decide +kernel
theorem syr_20_1_5 : syrun (systep (syu1 7)) (syfin sytab syfin1) 20000 (syc1 [(7, 20, 20), (1, 1, 1), (3, 14, 16)]) = true := by decide +kernel
