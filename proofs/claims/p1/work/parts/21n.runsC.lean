/-! ===== runs ===== -/
theorem xop_18 : xchk5 (xA5) (fun sc => xgood sc (xS 18)) = true := by decide +kernel
