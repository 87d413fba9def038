theorem dX6_init_0 : decode cX6_init 0 = .ok (.aload_n 0, 1) := by decide +kernel
theorem dX6_init_1 : decode cX6_init 1 = .ok (.invokespecial 1, 3) := by decide +kernel
theorem dX6_init_4 : decode cX6_init 4 = .ok (.return_, 1) := by decide +kernel
theorem dX6_strengthLeft_0 : decode cX6_strengthLeft 0 = .ok (.aload_n 0, 1) := by decide +kernel
theorem dX6_strengthLeft_1 : decode cX6_strengthLeft 1 = .ok (.getfield 7, 3) := by decide +kernel
theorem dX6_strengthLeft_4 : decode cX6_strengthLeft 4 = .ok (.aload_n 0, 1) := by decide +kernel
theorem dX6_strengthLeft_5 : decode cX6_strengthLeft 5 = .ok (.getfield 13, 3) := by decide +kernel
theorem dX6_strengthLeft_8 : decode cX6_strengthLeft 8 = .ok (.isub, 1) := by decide +kernel
theorem dX6_strengthLeft_9 : decode cX6_strengthLeft 9 = .ok (.ireturn, 1) := by decide +kernel
theorem dX6_copyFrom_0 : decode cX6_copyFrom 0 = .ok (.aload_n 0, 1) := by decide +kernel
theorem dX6_copyFrom_1 : decode cX6_copyFrom 1 = .ok (.aload_n 1, 1) := by decide +kernel
theorem dX6_copyFrom_2 : decode cX6_copyFrom 2 = .ok (.getfield 7, 3) := by decide +kernel
theorem dX6_copyFrom_5 : decode cX6_copyFrom 5 = .ok (.putfield 7, 3) := by decide +kernel
theorem dX6_copyFrom_8 : decode cX6_copyFrom 8 = .ok (.aload_n 0, 1) := by decide +kernel
theorem dX6_copyFrom_9 : decode cX6_copyFrom 9 = .ok (.aload_n 1, 1) := by decide +kernel
theorem dX6_copyFrom_10 : decode cX6_copyFrom 10 = .ok (.getfield 13, 3) := by decide +kernel
theorem dX6_copyFrom_13 : decode cX6_copyFrom 13 = .ok (.putfield 13, 3) := by decide +kernel
theorem dX6_copyFrom_16 : decode cX6_copyFrom 16 = .ok (.return_, 1) := by decide +kernel
