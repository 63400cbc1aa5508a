/-! ===== runs, written by wip/gen/p1/runs.py ===== -/
theorem syr_20_lo : syrun (systep (syu1 7)) (syfin sytab syfin1) 20000 (syc1 [(7, 20, 20), (1, (-2147483648), (-1))]) = true := by decide +kernel
theorem syr_20_hi : syrun (systep (syu1 7)) (syfin sytab syfin1) 20000 (syc1 [(7, 20, 20), (1, 4, 2147483647)]) = true := by decide +kernel
theorem syr_20_0_0 : syrun (systep (syu1 7)) (syfin sytab syfin1) 20000 (syc1 [(7, 20, 20), (1, 0, 0), (3, (-2147483648), (-1))]) = true := by decide +kernel
theorem syr_20_0_8 : syrun (systep (syu1 7)) (syfin sytab syfin1) 20000 (syc1 [(7, 20, 20), (1, 0, 0), (3, 21, 2147483647)]) = true := by decide +kernel
theorem syr_20_1_0 : syrun (systep (syu1 7)) (syfin sytab syfin1) 20000 (syc1 [(7, 20, 20), (1, 1, 1), (3, (-2147483648), (-1))]) = true := by decide +kernel
theorem syr_20_1_8 : syrun (systep (syu1 7)) (syfin sytab syfin1) 20000 (syc1 [(7, 20, 20), (1, 1, 1), (3, 21, 2147483647)]) = true := by decide +kernel
theorem syr_20_2_0 : syrun (systep (syu1 7)) (syfin sytab syfin1) 20000 (syc1 [(7, 20, 20), (1, 2, 2), (3, (-2147483648), (-1))]) = true := by decide +kernel
theorem syr_20_2_8 : syrun (systep (syu1 7)) (syfin sytab syfin1) 20000 (syc1 [(7, 20, 20), (1, 2, 2), (3, 21, 2147483647)]) = true := by decide +kernel
theorem syr_20_3_0 : syrun (systep (syu1 7)) (syfin sytab syfin1) 20000 (syc1 [(7, 20, 20), (1, 3, 3), (3, (-2147483648), (-1))]) = true := by decide +kernel
theorem syr_20_3_8 : syrun (systep (syu1 7)) (syfin sytab syfin1) 20000 (syc1 [(7, 20, 20), (1, 3, 3), (3, 21, 2147483647)]) = true := by decide +kernel
