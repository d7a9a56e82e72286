theorem g_law_5 : ([lwH 730, lwH 763, lwH 796].all fun H => lwB 6000 gT s_law cells0 sp_law lwR lwr h_law H) = true := by decide +kernel
theorem g_law_6 : ([lwH 829, lwH 908, lwH 941].all fun H => lwB 6000 gT s_law cells0 sp_law lwR lwr h_law H) = true := by decide +kernel
theorem g_law_7 : ([lwH 984, lwH 1027].all fun H => lwB 6000 gT s_law cells0 sp_law lwR lwr h_law H) = true := by decide +kernel
theorem g_law_8 : ([lwH 1060].all fun H => lwB 6000 gT s_law cells0 sp_law lwR lwr h_law H) = true := by decide +kernel
theorem g_law_9 : ([lwH 1103, lwH 1136, lwH 1169].all fun H => lwB 6000 gT s_law cells0 sp_law lwR lwr h_law H) = true := by decide +kernel
