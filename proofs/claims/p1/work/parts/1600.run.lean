/-! ===== runs, written by wip/gen/p1/runs.py ===== -/
theorem syr_0 : syrun (systep (syu1 7)) (syfin sytab syfin1) 20000 (syc1 [(7, 0, 0)]) = true := by decide +kernel
theorem syr_1 : syrun (systep (syu1 7)) (syfin sytab syfin1) 20000 (syc1 [(7, 1, 1)]) = true := by decide +kernel
theorem syr_2 : syrun (systep (syu1 7)) (syfin sytab syfin1) 20000 (syc1 [(7, 2, 2)]) = true := by decide +kernel
theorem syr_3 : syrun (systep (syu1 7)) (syfin sytab syfin1) 20000 (syc1 [(7, 3, 3)]) = true := by decide +kernel
theorem syr_4 : syrun (systep (syu1 7)) (syfin sytab syfin1) 20000 (syc1 [(7, 4, 4)]) = true := by decide +kernel
theorem syr_5 : syrun (systep (syu1 7)) (syfin sytab syfin1) 20000 (syc1 [(7, 5, 5)]) = true := by decide +kernel
theorem syr_6 : syrun (systep (syu1 7)) (syfin sytab syfin1) 20000 (syc1 [(7, 6, 6)]) = true := by decide +kernel
theorem syr_7 : syrun (systep (syu1 7)) (syfin sytab syfin1) 20000 (syc1 [(7, 7, 7)]) = true := by decide +kernel
theorem syr_8 : syrun (systep (syu1 7)) (syfin sytab syfin1) 20000 (syc1 [(7, 8, 8)]) = true := by decide +kernel
theorem syr_9 : syrun (systep (syu1 7)) (syfin sytab syfin1) 20000 (syc1 [(7, 9, 9)]) = true := by decide +kernel
theorem syr_10 : syrun (systep (syu1 7)) (syfin sytab syfin1) 20000 (syc1 [(7, 10, 10)]) = true := by decide +kernel
theorem syr_11 : syrun (systep (syu1 7)) (syfin sytab syfin1) 20000 (syc1 [(7, 11, 11)]) = true := by decide +kernel
theorem syr_12 : syrun (systep (syu1 7)) (syfin sytab syfin1) 20000 (syc1 [(7, 12, 12)]) = true := by decide +kernel
theorem syr_16 : syrun (systep (syu1 7)) (syfin sytab syfin1) 20000 (syc1 [(7, 16, 16)]) = true := by decide +kernel
theorem syr_17 : syrun (systep (syu1 7)) (syfin sytab syfin1) 20000 (syc1 [(7, 17, 17)]) = true := by decide +kernel
theorem syr_18 : syrun (systep (syu1 7)) (syfin sytab syfin1) 20000 (syc1 [(7, 18, 18)]) = true := by decide +kernel
theorem syr_21 : syrun (systep (syu1 7)) (syfin sytab syfin1) 20000 (syc1 [(7, 21, 21)]) = true := by decide +kernel
theorem syr_23 : syrun (systep (syu1 7)) (syfin sytab syfin1) 20000 (syc1 [(7, 23, 23)]) = true := by decide +kernel
theorem syr_24 : syrun (systep (syu1 7)) (syfin sytab syfin1) 20000 (syc1 [(7, 24, 24)]) = true := by decide +kernel
theorem syr_25 : syrun (systep (syu1 7)) (syfin sytab syfin1) 20000 (syc1 [(7, 25, 31)]) = true := by decide +kernel
theorem syr_L : ∀ L, L < 7 → syrun (systep (syu1 L)) (syfin sytab syfin1) 200 (syc1 []) = true := by decide +kernel
