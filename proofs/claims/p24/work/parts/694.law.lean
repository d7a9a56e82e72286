theorem g_law_15 : ([lwH 1799, lwH 1842, lwH 1875].all fun H => lwB 6000 gT s_law cells0 sp_law lwR lwr h_law H) = true := by decide +kernel
theorem g_law_16 : ([lwH 1918, lwH 1941].all fun H => lwB 6000 gT s_law cells0 sp_law lwR lwr h_law H) = true := by decide +kernel
theorem g_law_17 : ([lwH 1964].all fun H => lwB 6000 gT s_law cells0 sp_law lwR lwr h_law H) = true := by decide +kernel
theorem g_law_18 : ([lwH 1977].all fun H => lwB 6000 gT s_law cells0 sp_law lwR lwr h_law H) = true := by decide +kernel
theorem g_law_19 : ([lwJ_0].all fun H => lwB 6000 gT s_law cells0 sp_law lwR lwr h_law H) = true := by decide +kernel
