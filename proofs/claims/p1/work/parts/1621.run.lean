/-! ===== runs, written by wip/gen/p1/runs.py ===== -/
theorem syr_20_2_3 : syrun (systep (syu1 7)) (syfin sytab syfin1) 20000 (syc1 [(7, 20, 20), (1, 2, 2), (3, 8, 10)]) = true := by decide +kernel
theorem syr_20_2_4 : syrun (systep (syu1 7)) (syfin sytab syfin1) 20000 (syc1 [(7, 20, 20), (1, 2, 2), (3, 11, 13)]) = true := by decide +kernel
