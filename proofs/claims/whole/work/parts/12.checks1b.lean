/-! The decoding of the law, in pieces. -/
theorem iv_L3 : iv_q3.all (iv_dc code) = true := by decide +kernel
theorem iv_L4 : iv_q4.all (iv_dc code) = true := by decide +kernel
theorem iv_L5 : iv_q5.all (iv_dc code) = true := by decide +kernel
