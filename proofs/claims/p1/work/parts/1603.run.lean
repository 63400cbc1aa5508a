/-! ===== runs, written by wip/gen/p1/runs.py ===== -/
theorem syr_13_0 : syrun (systep (syu1 7)) (syfin sytab syfin1) 20000 (syc1 [(7, 13, 13), (2, (-2147483648), (-1))]) = true := by decide +kernel
theorem syr_13_4 : syrun (systep (syu1 7)) (syfin sytab syfin1) 20000 (syc1 [(7, 13, 13), (2, 8, 9)]) = true := by decide +kernel
theorem syr_13_8 : syrun (systep (syu1 7)) (syfin sytab syfin1) 20000 (syc1 [(7, 13, 13), (2, 13, 19)]) = true := by decide +kernel
theorem syr_13_12 : syrun (systep (syu1 7)) (syfin sytab syfin1) 20000 (syc1 [(7, 13, 13), (2, 23, 29)]) = true := by decide +kernel
theorem syr_13_16 : syrun (systep (syu1 7)) (syfin sytab syfin1) 20000 (syc1 [(7, 13, 13), (2, 33, 39)]) = true := by decide +kernel
theorem syr_13_20 : syrun (systep (syu1 7)) (syfin sytab syfin1) 20000 (syc1 [(7, 13, 13), (2, 43, 2147483647)]) = true := by decide +kernel
