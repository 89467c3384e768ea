theorem vok_166 : vrow 166 = true := by decide +kernel
theorem vok_167 : vrow 167 = true := by decide +kernel
theorem vok_168 : vrow 168 = true := by decide +kernel
theorem vok_169 : vrow 169 = true := by decide +kernel
theorem vok_170 : vrow 170 = true := by decide +kernel
theorem vok_171 : vrow 171 = true := by decide +kernel
theorem vok_172 : vrow 172 = true := by decide +kernel
