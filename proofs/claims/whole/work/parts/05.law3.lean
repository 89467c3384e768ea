theorem vokL_4 : vC_171_4.all (vche vrL) = true := by decide +kernel
theorem vokL_5 : vC_171_5.all (vche vrL) = true := by decide +kernel
