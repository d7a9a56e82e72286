theorem g_law_0 : ([h_law_18, h_law_240, h_law_263].all fun H => ckH 6000 gT s_law cells0 sp_law (cLaw pLaw) h_law H) = true := by decide +kernel
theorem g_law_1 : ([h_law_316, h_law_365, h_law_408].all fun H => ckH 6000 gT s_law cells0 sp_law (cLaw pLaw) h_law H) = true := by decide +kernel
theorem g_law_2 : ([h_law_457, h_law_480, h_law_503].all fun H => ckH 6000 gT s_law cells0 sp_law (cLaw pLaw) h_law H) = true := by decide +kernel
theorem g_law_3 : ([h_law_536, h_law_559, h_law_582].all fun H => ckH 6000 gT s_law cells0 sp_law (cLaw pLaw) h_law H) = true := by decide +kernel
theorem g_law_4 : ([h_law_615, h_law_654, h_law_717].all fun H => ckH 6000 gT s_law cells0 sp_law (cLaw pLaw) h_law H) = true := by decide +kernel
