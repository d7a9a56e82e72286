theorem g_law_10 : ([h_law_1311, h_law_1334, h_law_1367].all fun H => ckH 6000 gT s_law cells0 sp_law (cLaw pLaw) h_law H) = true := by decide +kernel
theorem g_law_11 : ([h_law_1400, h_law_1433, h_law_1492].all fun H => ckH 6000 gT s_law cells0 sp_law (cLaw pLaw) h_law H) = true := by decide +kernel
theorem g_law_12 : ([h_law_1551, h_law_1584, h_law_1627].all fun H => ckH 6000 gT s_law cells0 sp_law (cLaw pLaw) h_law H) = true := by decide +kernel
theorem g_law_13 : ([h_law_1670, h_law_1713, h_law_1756].all fun H => ckH 6000 gT s_law cells0 sp_law (cLaw pLaw) h_law H) = true := by decide +kernel
theorem g_law_14 : ([h_law_1799, h_law_1842, h_law_1875].all fun H => ckH 6000 gT s_law cells0 sp_law (cLaw pLaw) h_law H) = true := by decide +kernel
