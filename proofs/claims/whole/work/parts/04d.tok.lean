/-! that the tables keep what is asked of them, by the kernel: printed -/
theorem pm_chkL0 : ((pm_k192.drop 0).take 60).all (pm_chk 192) = true := by decide +kernel
theorem pm_chkL1 : ((pm_k192.drop 60).take 60).all (pm_chk 192) = true := by decide +kernel
theorem pm_chkL2 : ((pm_k192.drop 120).take 60).all (pm_chk 192) = true := by decide +kernel
theorem pm_chkL3 : ((pm_k192.drop 180).take 60).all (pm_chk 192) = true := by decide +kernel
theorem pm_chkL4 : ((pm_k192.drop 240).take 60).all (pm_chk 192) = true := by decide +kernel
theorem pm_chkL5 : ((pm_k192.drop 300).take 60).all (pm_chk 192) = true := by decide +kernel
theorem pm_chkL6 : ((pm_k192.drop 360).take 60).all (pm_chk 192) = true := by decide +kernel
theorem pm_chkL7 : ((pm_k192.drop 420).take 60).all (pm_chk 192) = true := by decide +kernel
