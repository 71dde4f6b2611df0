-- decode rows of feed
theorem dX9_putBytes_0 : decode cX9_putBytes 0 = .ok (.bipush 24, 2) := by decide +kernel
theorem dX9_putBytes_2 : decode cX9_putBytes 2 = .ok (.istore_n 2, 1) := by decide +kernel
theorem dX9_putBytes_3 : decode cX9_putBytes 3 = .ok (.iload_n 2, 1) := by decide +kernel
theorem dX9_putBytes_4 : decode cX9_putBytes 4 = .ok (.ifCond .lt 44, 3) := by decide +kernel
theorem dX9_putBytes_7 : decode cX9_putBytes 7 = .ok (.aload_n 0, 1) := by decide +kernel
theorem dX9_putBytes_8 : decode cX9_putBytes 8 = .ok (.getfield 13, 3) := by decide +kernel
theorem dX9_putBytes_11 : decode cX9_putBytes 11 = .ok (.aload_n 0, 1) := by decide +kernel
theorem dX9_putBytes_12 : decode cX9_putBytes 12 = .ok (.getfield 9, 3) := by decide +kernel
theorem dX9_putBytes_15 : decode cX9_putBytes 15 = .ok (.arraylength, 1) := by decide +kernel
theorem dX9_putBytes_16 : decode cX9_putBytes 16 = .ok (.if_icmp .ge 32, 3) := by decide +kernel
theorem dX9_putBytes_19 : decode cX9_putBytes 19 = .ok (.aload_n 0, 1) := by decide +kernel
theorem dX9_putBytes_20 : decode cX9_putBytes 20 = .ok (.getfield 9, 3) := by decide +kernel
theorem dX9_putBytes_23 : decode cX9_putBytes 23 = .ok (.aload_n 0, 1) := by decide +kernel
theorem dX9_putBytes_24 : decode cX9_putBytes 24 = .ok (.getfield 13, 3) := by decide +kernel
theorem dX9_putBytes_27 : decode cX9_putBytes 27 = .ok (.iload_n 1, 1) := by decide +kernel
theorem dX9_putBytes_28 : decode cX9_putBytes 28 = .ok (.iload_n 2, 1) := by decide +kernel
theorem dX9_putBytes_29 : decode cX9_putBytes 29 = .ok (.iushr, 1) := by decide +kernel
theorem dX9_putBytes_30 : decode cX9_putBytes 30 = .ok (.i2b, 1) := by decide +kernel
theorem dX9_putBytes_31 : decode cX9_putBytes 31 = .ok (.bastore, 1) := by decide +kernel
theorem dX9_putBytes_32 : decode cX9_putBytes 32 = .ok (.aload_n 0, 1) := by decide +kernel
theorem dX9_putBytes_33 : decode cX9_putBytes 33 = .ok (.dup, 1) := by decide +kernel
theorem dX9_putBytes_34 : decode cX9_putBytes 34 = .ok (.getfield 13, 3) := by decide +kernel
theorem dX9_putBytes_37 : decode cX9_putBytes 37 = .ok (.iconst 1, 1) := by decide +kernel
theorem dX9_putBytes_38 : decode cX9_putBytes 38 = .ok (.iadd, 1) := by decide +kernel
theorem dX9_putBytes_39 : decode cX9_putBytes 39 = .ok (.putfield 13, 3) := by decide +kernel
theorem dX9_putBytes_42 : decode cX9_putBytes 42 = .ok (.iinc 2 (-8), 3) := by decide +kernel
theorem dX9_putBytes_45 : decode cX9_putBytes 45 = .ok (.goto (-42), 3) := by decide +kernel
theorem dX9_putBytes_48 : decode cX9_putBytes 48 = .ok (.return_, 1) := by decide +kernel
