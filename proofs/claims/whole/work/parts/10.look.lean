theorem look_1 : decode cX6_wipe 0 = .ok (.aload_n 0, 1) := dX6_wipe_0
