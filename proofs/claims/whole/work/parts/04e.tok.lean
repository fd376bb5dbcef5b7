/-! that the tables keep what is asked of them, by the kernel: printed -/
theorem pm_chkL8 : ((pm_k192.drop 480).take 60).all (pm_chk 192) = true := by decide +kernel
theorem pm_chkL9 : ((pm_k192.drop 540).take 60).all (pm_chk 192) = true := by decide +kernel
theorem pm_chkL10 : ((pm_k192.drop 600).take 60).all (pm_chk 192) = true := by decide +kernel
theorem pm_chkL11 : ((pm_k192.drop 660).take 60).all (pm_chk 192) = true := by decide +kernel
theorem pm_chkL12 : ((pm_k192.drop 720).take 60).all (pm_chk 192) = true := by decide +kernel
theorem pm_chkL13 : ((pm_k192.drop 780).take 60).all (pm_chk 192) = true := by decide +kernel
theorem pm_chkL14 : ((pm_k192.drop 840).take 60).all (pm_chk 192) = true := by decide +kernel
theorem pm_chkL15 : ((pm_k192.drop 900).take 60).all (pm_chk 192) = true := by decide +kernel
