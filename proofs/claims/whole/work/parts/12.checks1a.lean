/-! The decoding of the law, in pieces. -/
theorem iv_L0 : iv_q0.all (iv_dc code) = true := by decide +kernel
theorem iv_L1 : iv_q1.all (iv_dc code) = true := by decide +kernel
theorem iv_L2 : iv_q2.all (iv_dc code) = true := by decide +kernel
