theorem g_law_0 : ([(18, lwS (fid 1) (lwD 3072 lwR lwr), fcon 3), lwH 240, lwH 263].all fun H => lwB 6000 gT s_law cells0 sp_law lwR lwr h_law H) = true := by decide +kernel
theorem g_law_1 : ([lwH 316, lwH 365, lwH 408].all fun H => lwB 6000 gT s_law cells0 sp_law lwR lwr h_law H) = true := by decide +kernel
theorem g_law_2 : ([lwH 457, lwH 480, lwH 503].all fun H => lwB 6000 gT s_law cells0 sp_law lwR lwr h_law H) = true := by decide +kernel
theorem g_law_3 : ([lwH 536, lwH 559, lwH 582].all fun H => lwB 6000 gT s_law cells0 sp_law lwR lwr h_law H) = true := by decide +kernel
theorem g_law_4 : ([lwH 615, lwH 654, lwH 717].all fun H => lwB 6000 gT s_law cells0 sp_law lwR lwr h_law H) = true := by decide +kernel
