theorem vokL_4 : vC_173_4.all (vche vrL) = true := by decide +kernel
theorem vokL_5 : vC_173_5.all (vche vrL) = true := by decide +kernel
