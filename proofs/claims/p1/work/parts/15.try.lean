def syc1 (k : Int) : syC := (40, [(7, k, k)], (902, 18, syk902_18, sysL, []), [], ([], [], [], 327, 13301))
def syfin1 (v : Option syV) (M : syM) : Bool := match v with
  | some (.inl z) => decide (z = 1) && Nat.ble M.2.2.2.1 600016 && Nat.ble M.2.2.2.2 7302249
  | _ => false
theorem sytry : syrun (systep (syu1 7)) (syfin sytab syfin1) 30000 (syc1 14) = true := by decide +kernel
