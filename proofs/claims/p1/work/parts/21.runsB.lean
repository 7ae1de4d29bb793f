/-! ===== runs ===== -/
theorem xop_1 : xchk5 (xrg 0 6 xA4 xA4) (fun sc => xgood sc (xS 1)) = true := by decide +kernel
theorem xop_2 : xchk5 (xrg 0 6 xA4 xA4) (fun sc => xgood sc (xS 2)) = true := by decide +kernel
theorem xop_3 : xchk5 (xrg 0 6 (xtp (xrg 0 6 xA2 xA2)) (xtp (xrg 0 6 xA2 (xtp (xcut 0 () ()))))) (fun sc => xgood sc (xS 3)) = true := by decide +kernel
theorem xop_4 : xchk5 (xrg 0 6 xA4 xA4) (fun sc => xgood sc (xS 4)) = true := by decide +kernel
theorem xop_6 : xchk5 (xrg 0 4 xA4 xA4) (fun sc => xgood sc (xS 6)) = true := by decide +kernel
theorem xop_7 : xchk5 ([((-2147483648, -1), xrg 0 1 xA3 xA3), ((0, 0), xrg 0 1 xA3 xA3), ((1, 63), xrg 0 1 xA3 xA3), ((64, 2147483647), xrg 0 1 xA3 xA3)]) (fun sc => xgood sc (xS 7)) = true := by decide +kernel
theorem xop_8 : xchk5 (xiv 0 63 xA4 (xiv 0 4 xA3 (xrg 1 4 xA2 (xiv 0 9 xA1 xA1)))) (fun sc => xgood sc (xS 8)) = true := by decide +kernel
theorem xop_10 : xchk5 (xiv 0 63 xA4 [((-2147483648, -10), xA3), ((-9, -9), xA3), ((-8, -1), xA3), ((0, 9), xA3), ((10, 2147483647), xA3)]) (fun sc => xgood sc (xS 10)) = true := by decide +kernel
theorem xop_13 : xchk5 (xrg 0 6 xA4 (xiv 0 3 xA3 (xiv 0 63 xA2 (xiv 0 1000 xA1 xA1)))) (fun sc => xgood sc (xS 13)) = true := by decide +kernel
theorem xop_14 : xchk5 (xrg 0 6 xA4 (xrg 0 6 xA3 xA3)) (fun sc => xgood sc (xS 14)) = true := by decide +kernel
theorem xop_15 : xchk5 (xrg 0 6 xA4 (xrg 1 6 xA3 xA3)) (fun sc => xgood sc (xS 15)) = true := by decide +kernel
theorem xop_16 : xchk5 (xrg 0 6 xA4 xA4) (fun sc => xgood sc (xS 16)) = true := by decide +kernel
theorem xop_17 : xchk5 (xrg 0 6 xA4 (xiv 0 4 xA3 xA3)) (fun sc => xgood sc (xS 17)) = true := by decide +kernel
theorem xop_19 : xchk5 (xrg 0 6 xA4 xA4) (fun sc => xgood sc (xS 19)) = true := by decide +kernel
theorem xop_20 : xchk5 (xcut 0 xA4 xA4) (fun sc => xgood sc (xS 20)) = true := by decide +kernel
theorem xop_21 : xchk5 (xrg 0 6 xA4 xA4) (fun sc => xgood sc (xS 21)) = true := by decide +kernel
theorem xop_22 : xchk5 (xrg 0 6 xA4 xA4) (fun sc => xgood sc (xS 22)) = true := by decide +kernel
theorem xop_25 : xchk5 (xcut 0 xA4 xA4) (fun sc => xgood sc (xS 25)) = true := by decide +kernel
theorem xop_26 : xchk5 (xcut 0 xA4 xA4) (fun sc => xgood sc (xS 26)) = true := by decide +kernel
theorem xop_27 : xchk5 (xcut 0 xA4 xA4) (fun sc => xgood sc (xS 27)) = true := by decide +kernel
theorem xop_28 : xchk5 (xcut 0 xA4 xA4) (fun sc => xgood sc (xS 28)) = true := by decide +kernel
theorem xop_29 : xchk5 (xcut 0 xA4 xA4) (fun sc => xgood sc (xS 29)) = true := by decide +kernel
theorem xop_30 : xchk5 (xrg 0 4 xA4 xA4) (fun sc => xgood sc (xS 30)) = true := by decide +kernel
theorem xop_31 : xchk5 (xrg 0 6 (xrg 0 4 xA3 xA3) (xrg 0 4 xA3 xA3)) (fun sc => xgood sc (xS 31)) = true := by decide +kernel
theorem xop_32 : xchk5 (xrg 0 6 xA4 (xrg 0 4 xA3 xA3)) (fun sc => xgood sc (xS 32)) = true := by decide +kernel
theorem xop_33 : xchk5 (xrg 0 6 xA4 xA4) (fun sc => xgood sc (xS 33)) = true := by decide +kernel
theorem xop_34 : xchk5 (xrg 0 6 (xrg 0 6 xA3 xA3) (xrg 0 6 xA3 (xiv 1 16 xA2 xA2))) (fun sc => xgood sc (xS 34)) = true := by decide +kernel
theorem xop_35 : xchk5 (xiv 0 63 xA4 xA4) (fun sc => xgood sc (xS 35)) = true := by decide +kernel
theorem xop_37 : xchk5 (xiv 0 63 (xrg 0 6 xA3 xA3) (xrg 0 6 xA3 xA3)) (fun sc => xgood sc (xS 37)) = true := by decide +kernel
theorem xop_38 : xchk5 (xiv 0 63 (xrg 0 6 (xrg 0 6 xA2 xA2) (xrg 0 6 xA2 xA2)) (xrg 0 6 (xrg 0 6 xA2 xA2) (xrg 0 6 xA2 xA2))) (fun sc => xgood sc (xS 38)) = true := by decide +kernel
theorem xop_40 : xchk5 (xA5) (fun sc => xgood sc (xS 40)) = true := by decide +kernel
theorem xop_41 : xchk5 (xA5) (fun sc => xgood sc (xS 41)) = true := by decide +kernel
theorem xop_42 : xchk5 (xA5) (fun sc => xgood sc (xS 42)) = true := by decide +kernel
theorem xop_43 : xchk5 (xrg 0 8 xA4 xA4) (fun sc => xgood sc (xS 43)) = true := by decide +kernel
theorem xop_44 : xchk5 (xA5) (fun sc => xgood sc (xS 44)) = true := by decide +kernel
