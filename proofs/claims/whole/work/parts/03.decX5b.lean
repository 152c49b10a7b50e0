theorem dX5_pileUp_78 : decode cX5_pileUp 78 = .ok (.aload_n 0, 1) := by decide +kernel
theorem dX5_pileUp_79 : decode cX5_pileUp 79 = .ok (.dup, 1) := by decide +kernel
theorem dX5_pileUp_80 : decode cX5_pileUp 80 = .ok (.getfield 85, 3) := by decide +kernel
theorem dX5_pileUp_83 : decode cX5_pileUp 83 = .ok (.iconst 1, 1) := by decide +kernel
theorem dX5_pileUp_84 : decode cX5_pileUp 84 = .ok (.iadd, 1) := by decide +kernel
theorem dX5_pileUp_85 : decode cX5_pileUp 85 = .ok (.putfield 85, 3) := by decide +kernel
theorem dX5_pileUp_88 : decode cX5_pileUp 88 = .ok (.iinc 2 1, 3) := by decide +kernel
theorem dX5_pileUp_91 : decode cX5_pileUp 91 = .ok (.goto (-89), 3) := by decide +kernel
theorem dX5_pileUp_94 : decode cX5_pileUp 94 = .ok (.return_, 1) := by decide +kernel
