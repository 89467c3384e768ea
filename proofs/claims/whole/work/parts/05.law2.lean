theorem vokL_2 : vC_173_2.all (vche vrL) = true := by decide +kernel
theorem vokL_3 : vC_173_3.all (vche vrL) = true := by decide +kernel
