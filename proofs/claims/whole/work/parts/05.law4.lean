theorem vokL_6 : vC_171_6.all (vche vrL) = true := by decide +kernel
theorem vokL_7 : vC_171_7.all (vche vrL) = true := by decide +kernel
