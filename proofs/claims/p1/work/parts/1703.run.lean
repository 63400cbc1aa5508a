/-! ===== runs, written by wip/gen/p1/runs.py ===== -/
theorem syr_15_14 : syrun (systepS (syu1 7)) (syfin sytab syfin1) 20000 (syc1 [(7, 15, 15), (2, 31, 31)]) = true := by decide +kernel
theorem syr_15_15 : syrun (systepS (syu1 7)) (syfin sytab syfin1) 20000 (syc1 [(7, 15, 15), (2, 32, 32)]) = true := by decide +kernel
theorem syr_15_17 : syrun (systepS (syu1 7)) (syfin sytab syfin1) 20000 (syc1 [(7, 15, 15), (2, 40, 40)]) = true := by decide +kernel
theorem syr_15_18 : syrun (systepS (syu1 7)) (syfin sytab syfin1) 20000 (syc1 [(7, 15, 15), (2, 41, 41)]) = true := by decide +kernel
theorem syr_15_19 : syrun (systepS (syu1 7)) (syfin sytab syfin1) 20000 (syc1 [(7, 15, 15), (2, 42, 42)]) = true := by decide +kernel
