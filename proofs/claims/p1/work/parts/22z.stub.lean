/-! ===== what is wanting still ===== -/
theorem xop_23 : xchk5 xA5 (fun sc => xgood sc (xS 23)) = true := sorry
theorem xop_24 : xchk5 xA5 (fun sc => xgood sc (xS 24)) = true := sorry
theorem xop_36 : xchk5 xA5 (fun sc => xgood sc (xS 36)) = true := sorry
