/-! ===== runs, written by wip/gen/p1/runs.py ===== -/
theorem syr_14 : syrun (systep (syu1 7)) (syfin sytab syfin1) 20000 (syc1 [(7, 14, 14)]) = true := by decide +kernel
theorem syr_22 : syrun (systep (syu1 7)) (syfin sytab syfin1) 20000 (syc1 [(7, 22, 22)]) = true := by decide +kernel
