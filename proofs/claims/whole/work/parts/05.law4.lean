theorem vokL_6 : vC_173_6.all (vche vrL) = true := by decide +kernel
theorem vokL_7 : vC_173_7.all (vche vrL) = true := by decide +kernel
