theorem g_law_5 : ([h_law_730, h_law_763, h_law_796].all fun H => ckH 6000 gT s_law cells0 sp_law (cLaw pLaw) h_law H) = true := by decide +kernel
theorem g_law_6 : ([h_law_829, h_law_908, h_law_941].all fun H => ckH 6000 gT s_law cells0 sp_law (cLaw pLaw) h_law H) = true := by decide +kernel
theorem g_law_7 : ([h_law_984, h_law_1027, h_law_1060].all fun H => ckH 6000 gT s_law cells0 sp_law (cLaw pLaw) h_law H) = true := by decide +kernel
theorem g_law_8 : ([h_law_1103, h_law_1136, h_law_1169].all fun H => ckH 6000 gT s_law cells0 sp_law (cLaw pLaw) h_law H) = true := by decide +kernel
theorem g_law_9 : ([h_law_1212, h_law_1235, h_law_1268].all fun H => ckH 6000 gT s_law cells0 sp_law (cLaw pLaw) h_law H) = true := by decide +kernel
