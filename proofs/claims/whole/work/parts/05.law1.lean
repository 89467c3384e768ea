abbrev vrL : vNr := (yL_law, cL_law, 4, (some .boolean), 99, 1, true, 9999, 9999, 9999, 48)
theorem vokL_0 : vC_171_0.all (vche vrL) = true := by decide +kernel
theorem vokL_1 : vC_171_1.all (vche vrL) = true := by decide +kernel
