/-! The decoding of the law, in pieces. -/
theorem iv_L6 : iv_q6.all (iv_dc code) = true := by decide +kernel
theorem iv_L7 : iv_q7.all (iv_dc code) = true := by decide +kernel
theorem iv_L8 : iv_q8.all (iv_dc code) = true := by decide +kernel
