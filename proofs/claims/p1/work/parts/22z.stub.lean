/-! ===== what is wanting still ===== -/
theorem xop_0 : xchk5 (xrg 0 6 (xcut 41 xA3 xA3) (xrg 0 41 xA3 xA3)) (fun sc => xgood sc (xS 0)) = true := sorry
theorem xop_5 : xchk5 (xrg 0 4 (xcut 41 xA3 xA3) (xrg 0 41 xA3 xA3)) (fun sc => xgood sc (xS 5)) = true := sorry
theorem xop_23 : xchk5 xA5 (fun sc => xgood sc (xS 23)) = true := sorry
theorem xop_24 : xchk5 xA5 (fun sc => xgood sc (xS 24)) = true := sorry
theorem xop_36 : xchk5 xA5 (fun sc => xgood sc (xS 36)) = true := sorry
