/-! ===== runs, written by wip/gen/p1/runs.py ===== -/
theorem syr_15_1 : syrun (systepS (syu1 7)) (syfin sytab syfin1) 20000 (syc1 [(7, 15, 15), (2, 0, 5)]) = true := by decide +kernel
theorem syr_15_2 : syrun (systepS (syu1 7)) (syfin sytab syfin1) 20000 (syc1 [(7, 15, 15), (2, 6, 6)]) = true := by decide +kernel
theorem syr_15_3 : syrun (systepS (syu1 7)) (syfin sytab syfin1) 20000 (syc1 [(7, 15, 15), (2, 7, 7)]) = true := by decide +kernel
theorem syr_15_5 : syrun (systepS (syu1 7)) (syfin sytab syfin1) 20000 (syc1 [(7, 15, 15), (2, 10, 10)]) = true := by decide +kernel
theorem syr_15_6 : syrun (systepS (syu1 7)) (syfin sytab syfin1) 20000 (syc1 [(7, 15, 15), (2, 11, 11)]) = true := by decide +kernel
