theorem dX8_isSizeOf_82 : decode cX8_isSizeOf 82 = .ok (.ireturn, 1) := by decide +kernel
