theorem dX4_sendReports_128 : decode cX4_sendReports 128 = .ok (.aload_n 0, 1) := by decide +kernel
theorem dX4_sendReports_129 : decode cX4_sendReports 129 = .ok (.aload 8, 2) := by decide +kernel
theorem dX4_sendReports_131 : decode cX4_sendReports 131 = .ok (.aload 10, 2) := by decide +kernel
theorem dX4_sendReports_133 : decode cX4_sendReports 133 = .ok (.iload_n 1, 1) := by decide +kernel
theorem dX4_sendReports_134 : decode cX4_sendReports 134 = .ok (.invokevirtual 99, 3) := by decide +kernel
theorem dX4_sendCorrections_0 : decode cX4_sendCorrections 0 = .ok (.aload_n 0, 1) := by decide +kernel
theorem dX4_sendCorrections_1 : decode cX4_sendCorrections 1 = .ok (.getfield 122, 3) := by decide +kernel
theorem dX4_sendCorrections_4 : decode cX4_sendCorrections 4 = .ok (.aload_n 0, 1) := by decide +kernel
theorem dX4_sendCorrections_5 : decode cX4_sendCorrections 5 = .ok (.invokevirtual 86, 3) := by decide +kernel
theorem dX4_sendCorrections_8 : decode cX4_sendCorrections 8 = .ok (.iadd, 1) := by decide +kernel
theorem dX4_sendCorrections_9 : decode cX4_sendCorrections 9 = .ok (.istore_n 1, 1) := by decide +kernel
theorem dX4_sendCorrections_10 : decode cX4_sendCorrections 10 = .ok (.aload_n 0, 1) := by decide +kernel
theorem dX4_sendCorrections_11 : decode cX4_sendCorrections 11 = .ok (.getfield 122, 3) := by decide +kernel
theorem dX4_sendCorrections_14 : decode cX4_sendCorrections 14 = .ok (.istore_n 2, 1) := by decide +kernel
theorem dX4_sendCorrections_15 : decode cX4_sendCorrections 15 = .ok (.iload_n 2, 1) := by decide +kernel
theorem dX4_sendCorrections_16 : decode cX4_sendCorrections 16 = .ok (.iload_n 1, 1) := by decide +kernel
theorem dX4_sendCorrections_17 : decode cX4_sendCorrections 17 = .ok (.if_icmp .ge 55, 3) := by decide +kernel
theorem dX4_sendCorrections_20 : decode cX4_sendCorrections 20 = .ok (.iload_n 2, 1) := by decide +kernel
theorem dX4_sendCorrections_21 : decode cX4_sendCorrections 21 = .ok (.aload_n 0, 1) := by decide +kernel
theorem dX4_sendCorrections_22 : decode cX4_sendCorrections 22 = .ok (.getfield 21, 3) := by decide +kernel
theorem dX4_sendCorrections_25 : decode cX4_sendCorrections 25 = .ok (.invokevirtual 28, 3) := by decide +kernel
theorem dX4_sendCorrections_28 : decode cX4_sendCorrections 28 = .ok (.if_icmp .ge 44, 3) := by decide +kernel
theorem dX4_sendCorrections_31 : decode cX4_sendCorrections 31 = .ok (.aload_n 0, 1) := by decide +kernel
theorem dX4_sendCorrections_32 : decode cX4_sendCorrections 32 = .ok (.getfield 21, 3) := by decide +kernel
theorem dX4_sendCorrections_35 : decode cX4_sendCorrections 35 = .ok (.iload_n 2, 1) := by decide +kernel
theorem dX4_sendCorrections_36 : decode cX4_sendCorrections 36 = .ok (.invokevirtual 36, 3) := by decide +kernel
theorem dX4_sendCorrections_39 : decode cX4_sendCorrections 39 = .ok (.checkcast 40, 3) := by decide +kernel
theorem dX4_sendCorrections_42 : decode cX4_sendCorrections 42 = .ok (.getfield 71, 3) := by decide +kernel
theorem dX4_sendCorrections_45 : decode cX4_sendCorrections 45 = .ok (.astore_n 3, 1) := by decide +kernel
theorem dX4_sendCorrections_46 : decode cX4_sendCorrections 46 = .ok (.aload_n 3, 1) := by decide +kernel
theorem dX4_sendCorrections_47 : decode cX4_sendCorrections 47 = .ok (.ifnull 19, 3) := by decide +kernel
theorem dX4_sendCorrections_50 : decode cX4_sendCorrections 50 = .ok (.aload_n 3, 1) := by decide +kernel
theorem dX4_sendCorrections_51 : decode cX4_sendCorrections 51 = .ok (.iconst 2, 1) := by decide +kernel
theorem dX4_sendCorrections_52 : decode cX4_sendCorrections 52 = .ok (.putfield 131, 3) := by decide +kernel
theorem dX4_sendCorrections_55 : decode cX4_sendCorrections 55 = .ok (.aload_n 0, 1) := by decide +kernel
theorem dX4_sendCorrections_56 : decode cX4_sendCorrections 56 = .ok (.dup, 1) := by decide +kernel
theorem dX4_sendCorrections_57 : decode cX4_sendCorrections 57 = .ok (.getfield 24, 3) := by decide +kernel
theorem dX4_sendCorrections_60 : decode cX4_sendCorrections 60 = .ok (.bipush 10, 2) := by decide +kernel
theorem dX4_sendCorrections_62 : decode cX4_sendCorrections 62 = .ok (.isub, 1) := by decide +kernel
theorem dX4_sendCorrections_63 : decode cX4_sendCorrections 63 = .ok (.putfield 24, 3) := by decide +kernel
theorem dX4_sendCorrections_66 : decode cX4_sendCorrections 66 = .ok (.iinc 2 1, 3) := by decide +kernel
theorem dX4_sendCorrections_69 : decode cX4_sendCorrections 69 = .ok (.goto (-54), 3) := by decide +kernel
theorem dX4_sendCorrections_72 : decode cX4_sendCorrections 72 = .ok (.aload_n 0, 1) := by decide +kernel
theorem dX4_sendCorrections_73 : decode cX4_sendCorrections 73 = .ok (.iload_n 1, 1) := by decide +kernel
theorem dX4_sendCorrections_74 : decode cX4_sendCorrections 74 = .ok (.putfield 122, 3) := by decide +kernel
theorem dX4_sendCorrections_77 : decode cX4_sendCorrections 77 = .ok (.return_, 1) := by decide +kernel
theorem dX4_runWire_0 : decode cX4_runWire 0 = .ok (.aload_n 0, 1) := by decide +kernel
theorem dX4_runWire_1 : decode cX4_runWire 1 = .ok (.invokevirtual 79, 3) := by decide +kernel
theorem dX4_runWire_4 : decode cX4_runWire 4 = .ok (.aload_n 0, 1) := by decide +kernel
theorem dX4_runWire_5 : decode cX4_runWire 5 = .ok (.iload_n 1, 1) := by decide +kernel
theorem dX4_runWire_6 : decode cX4_runWire 6 = .ok (.aload_n 0, 1) := by decide +kernel
theorem dX4_runWire_7 : decode cX4_runWire 7 = .ok (.getfield 24, 3) := by decide +kernel
theorem dX4_runWire_10 : decode cX4_runWire 10 = .ok (.iconst 1, 1) := by decide +kernel
theorem dX4_runWire_11 : decode cX4_runWire 11 = .ok (.invokevirtual 82, 3) := by decide +kernel
theorem dX4_runWire_14 : decode cX4_runWire 14 = .ok (.pop, 1) := by decide +kernel
theorem dX4_runWire_15 : decode cX4_runWire 15 = .ok (.return_, 1) := by decide +kernel
