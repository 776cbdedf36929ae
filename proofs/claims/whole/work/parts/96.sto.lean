theorem stLT : stB LTL 0 10 (cX8_init.data.toList.drop 10) = some 1725 := by decide +kernel
theorem stSG : stB SG 0 1741 (cX8_init.data.toList.drop 1741) = some 1982 := by decide +kernel
theorem stPL : stB PL 0 1990 (cX8_init.data.toList.drop 1990) = some 2056 := by decide +kernel
