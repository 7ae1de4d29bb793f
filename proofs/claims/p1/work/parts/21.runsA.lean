/-! ===== runs ===== -/
theorem xop_12 : xchk5 (xA5) (fun sc => xgood sc (xS 12)) = true := by decide +kernel
theorem xop_39 : xchk5 (xA5) (fun sc => xgood sc (xS 39)) = true := by decide +kernel
theorem xop_11 : xchk5 (xiv 0 63 xA4 xA4) (fun sc => xgood sc (xS 11)) = true := by decide +kernel
theorem xop_9 : xchk5 (xiv 0 63 xA4 (xrg 0 5 xA3 xA3)) (fun sc => xgood sc (xS 9)) = true := by decide +kernel
theorem xop_45 : xchk5 (xrg 1 5 xA4 xA4) (fun sc => xgood sc (xS 45)) = true := by decide +kernel
