theorem g_law_10 : ([lwH 1212, lwH 1235, lwH 1268].all fun H => lwB 6000 gT s_law cells0 sp_law lwR lwr h_law H) = true := by decide +kernel
theorem g_law_11 : ([lwH 1311, lwH 1334, lwH 1367].all fun H => lwB 6000 gT s_law cells0 sp_law lwR lwr h_law H) = true := by decide +kernel
theorem g_law_12 : ([lwH 1400, lwH 1433, lwH 1492].all fun H => lwB 6000 gT s_law cells0 sp_law lwR lwr h_law H) = true := by decide +kernel
theorem g_law_13 : ([lwH 1551, lwH 1584, lwH 1627].all fun H => lwB 6000 gT s_law cells0 sp_law lwR lwr h_law H) = true := by decide +kernel
theorem g_law_14 : ([lwH 1670, lwH 1713, lwH 1756].all fun H => lwB 6000 gT s_law cells0 sp_law lwR lwr h_law H) = true := by decide +kernel
