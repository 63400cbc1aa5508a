/-! ===== runs, written by wip/gen/p1/runs.py ===== -/
theorem syr_20_1_6 : syrun (systep (syu1 7)) (syfin sytab syfin1) 20000 (syc1 [(7, 20, 20), (1, 1, 1), (3, 17, 18)]) = true := by decide +kernel
theorem syr_20_1_7 : syrun (systep (syu1 7)) (syfin sytab syfin1) 20000 (syc1 [(7, 20, 20), (1, 1, 1), (3, 19, 20)]) = true := by decide +kernel
