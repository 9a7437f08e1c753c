/-! The decoding of the law, in pieces. -/
theorem iv_L9 : iv_q9.all (iv_dc code) = true := by decide +kernel
theorem iv_L10 : iv_q10.all (iv_dc code) = true := by decide +kernel
theorem iv_L11 : iv_q11.all (iv_dc code) = true := by decide +kernel
