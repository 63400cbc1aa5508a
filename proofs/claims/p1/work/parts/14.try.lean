def syc0 (k : Int) : syC := (40, [(7, k, k)], (902, 0, [(0, syrf 0)], []), [], ([], [], [], 16, 0))
def syfin1 (v : Option syV) (M : syM) : Bool := match v with
  | some (.inl z) => decide (z = 1) && Nat.ble M.2.2.2.1 600016 && Nat.ble M.2.2.2.2 7302249
  | _ => false
theorem sytry0 : syrun (systep sytab 7) (syfin sytab syfin1) 3000 (syc0 25) = true := by decide +kernel
