/-! ===== runs, written by wip/gen/p1/runs.py ===== -/
theorem syr_15_7 : syrun (systepS (syu1 7)) (syfin sytab syfin1) 20000 (syc1 [(7, 15, 15), (2, 12, 12)]) = true := by decide +kernel
theorem syr_15_9 : syrun (systepS (syu1 7)) (syfin sytab syfin1) 20000 (syc1 [(7, 15, 15), (2, 20, 20)]) = true := by decide +kernel
theorem syr_15_10 : syrun (systepS (syu1 7)) (syfin sytab syfin1) 20000 (syc1 [(7, 15, 15), (2, 21, 21)]) = true := by decide +kernel
theorem syr_15_11 : syrun (systepS (syu1 7)) (syfin sytab syfin1) 20000 (syc1 [(7, 15, 15), (2, 22, 22)]) = true := by decide +kernel
theorem syr_15_13 : syrun (systepS (syu1 7)) (syfin sytab syfin1) 20000 (syc1 [(7, 15, 15), (2, 30, 30)]) = true := by decide +kernel
