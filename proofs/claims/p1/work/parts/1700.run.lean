/-! ===== runs, written by wip/gen/p1/runs.py ===== -/
theorem syr_15_0 : syrun (systepS (syu1 7)) (syfin sytab syfin1) 20000 (syc1 [(7, 15, 15), (2, (-2147483648), (-1))]) = true := by decide +kernel
theorem syr_15_4 : syrun (systepS (syu1 7)) (syfin sytab syfin1) 20000 (syc1 [(7, 15, 15), (2, 8, 9)]) = true := by decide +kernel
theorem syr_15_8 : syrun (systepS (syu1 7)) (syfin sytab syfin1) 20000 (syc1 [(7, 15, 15), (2, 13, 19)]) = true := by decide +kernel
theorem syr_15_12 : syrun (systepS (syu1 7)) (syfin sytab syfin1) 20000 (syc1 [(7, 15, 15), (2, 23, 29)]) = true := by decide +kernel
theorem syr_15_16 : syrun (systepS (syu1 7)) (syfin sytab syfin1) 20000 (syc1 [(7, 15, 15), (2, 33, 39)]) = true := by decide +kernel
theorem syr_15_20 : syrun (systepS (syu1 7)) (syfin sytab syfin1) 20000 (syc1 [(7, 15, 15), (2, 43, 2147483647)]) = true := by decide +kernel
