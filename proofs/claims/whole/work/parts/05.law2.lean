theorem vokL_2 : vC_171_2.all (vche vrL) = true := by decide +kernel
theorem vokL_3 : vC_171_3.all (vche vrL) = true := by decide +kernel
