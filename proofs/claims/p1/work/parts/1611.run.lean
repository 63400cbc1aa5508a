/-! ===== runs, written by wip/gen/p1/runs.py ===== -/
theorem syr_13_19 : syrun (systep (syu1 7)) (syfin sytab syfin1) 20000 (syc1 [(7, 13, 13), (2, 42, 42)]) = true := by decide +kernel
