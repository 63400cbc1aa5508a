/-! ===== runs, written by wip/gen/p1/runs.py ===== -/
theorem syr_20_1_2 : syrun (systep (syu1 7)) (syfin sytab syfin1) 20000 (syc1 [(7, 20, 20), (1, 1, 1), (3, 4, 7)]) = true := by decide +kernel
theorem syr_20_1_3 : syrun (systep (syu1 7)) (syfin sytab syfin1) 20000 (syc1 [(7, 20, 20), (1, 1, 1), (3, 8, 10)]) = true := by decide +kernel
