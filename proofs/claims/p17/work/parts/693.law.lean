theorem g_law_10 : ([lwH 1060, lwH 1103, lwH 1136].all fun H => lwB 6000 gT s_law cells0 sp_law lwR lwr h_law H) = true := by decide +kernel
theorem g_law_11 : ([lwH 1169, lwH 1212, lwH 1235].all fun H => lwB 6000 gT s_law cells0 sp_law lwR lwr h_law H) = true := by decide +kernel
theorem g_law_12 : ([lwH 1268, lwH 1311, lwH 1334].all fun H => lwB 6000 gT s_law cells0 sp_law lwR lwr h_law H) = true := by decide +kernel
theorem g_law_13 : ([lwH 1367, lwH 1400, lwH 1433].all fun H => lwB 6000 gT s_law cells0 sp_law lwR lwr h_law H) = true := by decide +kernel
theorem g_law_14 : ([lwH 1492, lwH 1551, lwH 1584].all fun H => lwB 6000 gT s_law cells0 sp_law lwR lwr h_law H) = true := by decide +kernel
