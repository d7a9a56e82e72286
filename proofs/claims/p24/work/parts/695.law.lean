theorem g_law_20 : ([lwJ_1].all fun H => lwB 6000 gT s_law cells0 sp_law lwR lwr h_law H) = true := by decide +kernel
theorem g_law_21 : ([lwJ_2].all fun H => lwB 6000 gT s_law cells0 sp_law lwR lwr h_law H) = true := by decide +kernel
theorem g_law_22 : ([lwJ_3].all fun H => lwB 6000 gT s_law cells0 sp_law lwR lwr h_law H) = true := by decide +kernel
theorem g_law_23 : ([lwJ_4].all fun H => lwB 6000 gT s_law cells0 sp_law lwR lwr h_law H) = true := by decide +kernel
theorem g_law_24 : ([lwJ_5].all fun H => lwB 6000 gT s_law cells0 sp_law lwR lwr h_law H) = true := by decide +kernel
