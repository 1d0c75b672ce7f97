theorem d_Ca_init_0 : decode b_Ca_init 0 = .ok (.aload_n 0, 1) := by decide +kernel
theorem d_Ca_init_1 : decode b_Ca_init 1 = .ok (.invokespecial 3, 3) := by decide +kernel
theorem d_Ca_init_4 : decode b_Ca_init 4 = .ok (.aload_n 0, 1) := by decide +kernel
theorem d_Ca_init_5 : decode b_Ca_init 5 = .ok (.bipush 28, 2) := by decide +kernel
theorem d_Ca_init_7 : decode b_Ca_init 7 = .ok (.newarray .int, 2) := by decide +kernel
theorem d_Ca_init_9 : decode b_Ca_init 9 = .ok (.putfield 9, 3) := by decide +kernel
theorem d_Ca_init_12 : decode b_Ca_init 12 = .ok (.aload_n 0, 1) := by decide +kernel
theorem d_Ca_init_13 : decode b_Ca_init 13 = .ok (.bipush 28, 2) := by decide +kernel
theorem d_Ca_init_15 : decode b_Ca_init 15 = .ok (.newarray .int, 2) := by decide +kernel
theorem d_Ca_init_17 : decode b_Ca_init 17 = .ok (.putfield 15, 3) := by decide +kernel
theorem d_Ca_init_20 : decode b_Ca_init 20 = .ok (.aload_n 0, 1) := by decide +kernel
theorem d_Ca_init_21 : decode b_Ca_init 21 = .ok (.sipush 695, 3) := by decide +kernel
theorem d_Ca_init_24 : decode b_Ca_init 24 = .ok (.newarray .boolean, 2) := by decide +kernel
theorem d_Ca_init_26 : decode b_Ca_init 26 = .ok (.putfield 18, 3) := by decide +kernel
theorem d_Ca_init_29 : decode b_Ca_init 29 = .ok (.aload_n 0, 1) := by decide +kernel
theorem d_Ca_init_30 : decode b_Ca_init 30 = .ok (.iconst 0, 1) := by decide +kernel
theorem d_Ca_init_31 : decode b_Ca_init 31 = .ok (.putfield 22, 3) := by decide +kernel
theorem d_Ca_init_34 : decode b_Ca_init 34 = .ok (.return_, 1) := by decide +kernel
theorem d_Ca_setHours_0 : decode b_Ca_setHours 0 = .ok (.iload_n 1, 1) := by decide +kernel
theorem d_Ca_setHours_1 : decode b_Ca_setHours 1 = .ok (.bipush 7, 2) := by decide +kernel
theorem d_Ca_setHours_3 : decode b_Ca_setHours 3 = .ok (.imul, 1) := by decide +kernel
theorem d_Ca_setHours_4 : decode b_Ca_setHours 4 = .ok (.iload_n 2, 1) := by decide +kernel
theorem d_Ca_setHours_5 : decode b_Ca_setHours 5 = .ok (.iadd, 1) := by decide +kernel
theorem d_Ca_setHours_6 : decode b_Ca_setHours 6 = .ok (.istore 5, 2) := by decide +kernel
theorem d_Ca_setHours_8 : decode b_Ca_setHours 8 = .ok (.aload_n 0, 1) := by decide +kernel
theorem d_Ca_setHours_9 : decode b_Ca_setHours 9 = .ok (.getfield 9, 3) := by decide +kernel
theorem d_Ca_setHours_12 : decode b_Ca_setHours 12 = .ok (.iload 5, 2) := by decide +kernel
theorem d_Ca_setHours_14 : decode b_Ca_setHours 14 = .ok (.iload_n 3, 1) := by decide +kernel
theorem d_Ca_setHours_15 : decode b_Ca_setHours 15 = .ok (.iastore, 1) := by decide +kernel
theorem d_Ca_setHours_16 : decode b_Ca_setHours 16 = .ok (.aload_n 0, 1) := by decide +kernel
theorem d_Ca_setHours_17 : decode b_Ca_setHours 17 = .ok (.getfield 15, 3) := by decide +kernel
theorem d_Ca_setHours_20 : decode b_Ca_setHours 20 = .ok (.iload 5, 2) := by decide +kernel
theorem d_Ca_setHours_22 : decode b_Ca_setHours 22 = .ok (.iload 4, 2) := by decide +kernel
theorem d_Ca_setHours_24 : decode b_Ca_setHours 24 = .ok (.iastore, 1) := by decide +kernel
theorem d_Ca_setHours_25 : decode b_Ca_setHours 25 = .ok (.return_, 1) := by decide +kernel
theorem d_Ca_isHoliday_0 : decode b_Ca_isHoliday 0 = .ok (.aload_n 0, 1) := by decide +kernel
theorem d_Ca_isHoliday_1 : decode b_Ca_isHoliday 1 = .ok (.getfield 18, 3) := by decide +kernel
theorem d_Ca_isHoliday_4 : decode b_Ca_isHoliday 4 = .ok (.iload_n 1, 1) := by decide +kernel
theorem d_Ca_isHoliday_5 : decode b_Ca_isHoliday 5 = .ok (.baload, 1) := by decide +kernel
theorem d_Ca_isHoliday_6 : decode b_Ca_isHoliday 6 = .ok (.ireturn, 1) := by decide +kernel
theorem d_Ca_isFull_0 : decode b_Ca_isFull 0 = .ok (.aload_n 0, 1) := by decide +kernel
theorem d_Ca_isFull_1 : decode b_Ca_isFull 1 = .ok (.getfield 22, 3) := by decide +kernel
theorem d_Ca_isFull_4 : decode b_Ca_isFull 4 = .ok (.bipush 40, 2) := by decide +kernel
theorem d_Ca_isFull_6 : decode b_Ca_isFull 6 = .ok (.if_icmp .lt 7, 3) := by decide +kernel
theorem d_Ca_isFull_9 : decode b_Ca_isFull 9 = .ok (.iconst 1, 1) := by decide +kernel
theorem d_Ca_isFull_10 : decode b_Ca_isFull 10 = .ok (.goto 4, 3) := by decide +kernel
theorem d_Ca_isFull_13 : decode b_Ca_isFull 13 = .ok (.iconst 0, 1) := by decide +kernel
theorem d_Ca_isFull_14 : decode b_Ca_isFull 14 = .ok (.ireturn, 1) := by decide +kernel
theorem d_Ca_addHoliday_0 : decode b_Ca_addHoliday 0 = .ok (.aload_n 0, 1) := by decide +kernel
theorem d_Ca_addHoliday_1 : decode b_Ca_addHoliday 1 = .ok (.getfield 18, 3) := by decide +kernel
theorem d_Ca_addHoliday_4 : decode b_Ca_addHoliday 4 = .ok (.iload_n 1, 1) := by decide +kernel
theorem d_Ca_addHoliday_5 : decode b_Ca_addHoliday 5 = .ok (.iconst 1, 1) := by decide +kernel
theorem d_Ca_addHoliday_6 : decode b_Ca_addHoliday 6 = .ok (.bastore, 1) := by decide +kernel
theorem d_Ca_addHoliday_7 : decode b_Ca_addHoliday 7 = .ok (.aload_n 0, 1) := by decide +kernel
theorem d_Ca_addHoliday_8 : decode b_Ca_addHoliday 8 = .ok (.dup, 1) := by decide +kernel
theorem d_Ca_addHoliday_9 : decode b_Ca_addHoliday 9 = .ok (.getfield 22, 3) := by decide +kernel
theorem d_Ca_addHoliday_12 : decode b_Ca_addHoliday 12 = .ok (.iconst 1, 1) := by decide +kernel
theorem d_Ca_addHoliday_13 : decode b_Ca_addHoliday 13 = .ok (.iadd, 1) := by decide +kernel
theorem d_Ca_addHoliday_14 : decode b_Ca_addHoliday 14 = .ok (.putfield 22, 3) := by decide +kernel
theorem d_Ca_addHoliday_17 : decode b_Ca_addHoliday 17 = .ok (.aload_n 0, 1) := by decide +kernel
theorem d_Ca_addHoliday_18 : decode b_Ca_addHoliday 18 = .ok (.getfield 22, 3) := by decide +kernel
theorem d_Ca_addHoliday_21 : decode b_Ca_addHoliday 21 = .ok (.ireturn, 1) := by decide +kernel
theorem d_Ca_isOpen_0 : decode b_Ca_isOpen 0 = .ok (.iload_n 2, 1) := by decide +kernel
theorem d_Ca_isOpen_1 : decode b_Ca_isOpen 1 = .ok (.sipush 1440, 3) := by decide +kernel
theorem d_Ca_isOpen_4 : decode b_Ca_isOpen 4 = .ok (.idiv, 1) := by decide +kernel
theorem d_Ca_isOpen_5 : decode b_Ca_isOpen 5 = .ok (.istore 4, 2) := by decide +kernel
theorem d_Ca_isOpen_7 : decode b_Ca_isOpen 7 = .ok (.iload 4, 2) := by decide +kernel
theorem d_Ca_isOpen_9 : decode b_Ca_isOpen 9 = .ok (.sipush 1440, 3) := by decide +kernel
theorem d_Ca_isOpen_12 : decode b_Ca_isOpen 12 = .ok (.imul, 1) := by decide +kernel
theorem d_Ca_isOpen_13 : decode b_Ca_isOpen 13 = .ok (.istore 5, 2) := by decide +kernel
theorem d_Ca_isOpen_15 : decode b_Ca_isOpen 15 = .ok (.iload_n 1, 1) := by decide +kernel
theorem d_Ca_isOpen_16 : decode b_Ca_isOpen 16 = .ok (.bipush 7, 2) := by decide +kernel
theorem d_Ca_isOpen_18 : decode b_Ca_isOpen 18 = .ok (.imul, 1) := by decide +kernel
theorem d_Ca_isOpen_19 : decode b_Ca_isOpen 19 = .ok (.iload 4, 2) := by decide +kernel
theorem d_Ca_isOpen_21 : decode b_Ca_isOpen 21 = .ok (.bipush 7, 2) := by decide +kernel
theorem d_Ca_isOpen_23 : decode b_Ca_isOpen 23 = .ok (.irem, 1) := by decide +kernel
theorem d_Ca_isOpen_24 : decode b_Ca_isOpen 24 = .ok (.iadd, 1) := by decide +kernel
theorem d_Ca_isOpen_25 : decode b_Ca_isOpen 25 = .ok (.istore 6, 2) := by decide +kernel
theorem d_Ca_isOpen_27 : decode b_Ca_isOpen 27 = .ok (.aload_n 0, 1) := by decide +kernel
theorem d_Ca_isOpen_28 : decode b_Ca_isOpen 28 = .ok (.getfield 18, 3) := by decide +kernel
theorem d_Ca_isOpen_31 : decode b_Ca_isOpen 31 = .ok (.iload 4, 2) := by decide +kernel
theorem d_Ca_isOpen_33 : decode b_Ca_isOpen 33 = .ok (.baload, 1) := by decide +kernel
theorem d_Ca_isOpen_34 : decode b_Ca_isOpen 34 = .ok (.ifCond .ne 35, 3) := by decide +kernel
theorem d_Ca_isOpen_37 : decode b_Ca_isOpen 37 = .ok (.iload_n 2, 1) := by decide +kernel
theorem d_Ca_isOpen_38 : decode b_Ca_isOpen 38 = .ok (.iload 5, 2) := by decide +kernel
theorem d_Ca_isOpen_40 : decode b_Ca_isOpen 40 = .ok (.isub, 1) := by decide +kernel
theorem d_Ca_isOpen_41 : decode b_Ca_isOpen 41 = .ok (.aload_n 0, 1) := by decide +kernel
theorem d_Ca_isOpen_42 : decode b_Ca_isOpen 42 = .ok (.getfield 9, 3) := by decide +kernel
theorem d_Ca_isOpen_45 : decode b_Ca_isOpen 45 = .ok (.iload 6, 2) := by decide +kernel
theorem d_Ca_isOpen_47 : decode b_Ca_isOpen 47 = .ok (.iaload, 1) := by decide +kernel
theorem d_Ca_isOpen_48 : decode b_Ca_isOpen 48 = .ok (.if_icmp .lt 21, 3) := by decide +kernel
theorem d_Ca_isOpen_51 : decode b_Ca_isOpen 51 = .ok (.iload_n 3, 1) := by decide +kernel
theorem d_Ca_isOpen_52 : decode b_Ca_isOpen 52 = .ok (.iload 5, 2) := by decide +kernel
theorem d_Ca_isOpen_54 : decode b_Ca_isOpen 54 = .ok (.isub, 1) := by decide +kernel
theorem d_Ca_isOpen_55 : decode b_Ca_isOpen 55 = .ok (.aload_n 0, 1) := by decide +kernel
theorem d_Ca_isOpen_56 : decode b_Ca_isOpen 56 = .ok (.getfield 15, 3) := by decide +kernel
theorem d_Ca_isOpen_59 : decode b_Ca_isOpen 59 = .ok (.iload 6, 2) := by decide +kernel
theorem d_Ca_isOpen_61 : decode b_Ca_isOpen 61 = .ok (.iaload, 1) := by decide +kernel
theorem d_Ca_isOpen_62 : decode b_Ca_isOpen 62 = .ok (.if_icmp .gt 7, 3) := by decide +kernel
theorem d_Ca_isOpen_65 : decode b_Ca_isOpen 65 = .ok (.iconst 1, 1) := by decide +kernel
theorem d_Ca_isOpen_66 : decode b_Ca_isOpen 66 = .ok (.goto 4, 3) := by decide +kernel
theorem d_Ca_isOpen_69 : decode b_Ca_isOpen 69 = .ok (.iconst 0, 1) := by decide +kernel
theorem d_Ca_isOpen_70 : decode b_Ca_isOpen 70 = .ok (.ireturn, 1) := by decide +kernel
