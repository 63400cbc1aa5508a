/-! ===== runs, written by wip/gen/p1/runs.py ===== -/
theorem syr_19 : syrun (systep (syu1 7)) (syfin sytab syfin1) 20000 (syc1 [(7, 19, 19)]) = true := by decide +kernel
