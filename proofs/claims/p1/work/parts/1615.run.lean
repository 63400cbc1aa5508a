/-! ===== runs, written by wip/gen/p1/runs.py ===== -/
theorem syr_20_0_5 : syrun (systep (syu1 7)) (syfin sytab syfin1) 20000 (syc1 [(7, 20, 20), (1, 0, 0), (3, 14, 16)]) = true := by decide +kernel
theorem syr_20_0_6 : syrun (systep (syu1 7)) (syfin sytab syfin1) 20000 (syc1 [(7, 20, 20), (1, 0, 0), (3, 17, 18)]) = true := by decide +kernel
