-- decode rows of the law
theorem dL_law_34 : decode cL_law 34 = .ok (.iload 4, 2) := by decide +kernel
theorem dL_law_36 : decode cL_law 36 = .ok (.iaload, 1) := by decide +kernel
theorem dL_law_37 : decode cL_law 37 = .ok (.bipush 63, 2) := by decide +kernel
theorem dL_law_39 : decode cL_law 39 = .ok (.iand, 1) := by decide +kernel
theorem dL_law_40 : decode cL_law 40 = .ok (.tableswitch 1896 0 32 #[148, 221, 277, 290, 346, 414, 482, 562, 642, 667, 716, 741, 766, 791, 804, 884, 952, 1008, 1076, 1132, 1188, 1256, 1336, 1404, 1484, 1540, 1589, 1645, 1701, 1712, 1792, 1872, 1883], 148) := by decide +kernel
