theorem e_law1 : wkB 6000 gT none s_law cells0 sp_law 8 [] [(18, lwT0, fcon 0)] 1 8 lwT8 = true := by decide +kernel
