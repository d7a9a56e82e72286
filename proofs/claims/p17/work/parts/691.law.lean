theorem g_law_0 : ([(18, lwS (fid 1) (lwD 3072 lwR lwr), fcon 3)].all fun H => lwB 6000 gT s_law cells0 sp_law lwR lwr h_law H) = true := by decide +kernel
theorem g_law_1 : ([lwH 240].all fun H => lwB 6000 gT s_law cells0 sp_law lwR lwr h_law H) = true := by decide +kernel
theorem g_law_2 : ([lwH 263, lwH 316, lwH 365].all fun H => lwB 6000 gT s_law cells0 sp_law lwR lwr h_law H) = true := by decide +kernel
theorem g_law_3 : ([lwH 408, lwH 457, lwH 480].all fun H => lwB 6000 gT s_law cells0 sp_law lwR lwr h_law H) = true := by decide +kernel
theorem g_law_4 : ([lwH 503, lwH 536, lwH 559].all fun H => lwB 6000 gT s_law cells0 sp_law lwR lwr h_law H) = true := by decide +kernel
