theorem dX0_init_0 : decode cX0_init 0 = .ok (.aload_n 0, 1) := by decide +kernel
theorem dX0_init_1 : decode cX0_init 1 = .ok (.invokespecial 3, 3) := by decide +kernel
theorem dX0_init_4 : decode cX0_init 4 = .ok (.aload_n 0, 1) := by decide +kernel
theorem dX0_init_5 : decode cX0_init 5 = .ok (.sipush 256, 3) := by decide +kernel
theorem dX0_init_8 : decode cX0_init 8 = .ok (.newarray .long, 2) := by decide +kernel
theorem dX0_init_10 : decode cX0_init 10 = .ok (.putfield 9, 3) := by decide +kernel
theorem dX0_init_13 : decode cX0_init 13 = .ok (.aload_n 0, 1) := by decide +kernel
theorem dX0_init_14 : decode cX0_init 14 = .ok (.sipush 256, 3) := by decide +kernel
theorem dX0_init_17 : decode cX0_init 17 = .ok (.newarray .int, 2) := by decide +kernel
theorem dX0_init_19 : decode cX0_init 19 = .ok (.putfield 15, 3) := by decide +kernel
theorem dX0_init_22 : decode cX0_init 22 = .ok (.aload_n 0, 1) := by decide +kernel
theorem dX0_init_23 : decode cX0_init 23 = .ok (.sipush 200, 3) := by decide +kernel
theorem dX0_init_26 : decode cX0_init 26 = .ok (.newarray .int, 2) := by decide +kernel
theorem dX0_init_28 : decode cX0_init 28 = .ok (.putfield 19, 3) := by decide +kernel
theorem dX0_init_31 : decode cX0_init 31 = .ok (.aload_n 0, 1) := by decide +kernel
theorem dX0_init_32 : decode cX0_init 32 = .ok (.sipush 200, 3) := by decide +kernel
theorem dX0_init_35 : decode cX0_init 35 = .ok (.newarray .long, 2) := by decide +kernel
theorem dX0_init_37 : decode cX0_init 37 = .ok (.putfield 22, 3) := by decide +kernel
theorem dX0_init_40 : decode cX0_init 40 = .ok (.aload_n 0, 1) := by decide +kernel
theorem dX0_init_41 : decode cX0_init 41 = .ok (.iconst 0, 1) := by decide +kernel
theorem dX0_init_42 : decode cX0_init 42 = .ok (.putfield 25, 3) := by decide +kernel
theorem dX0_init_45 : decode cX0_init 45 = .ok (.aload_n 0, 1) := by decide +kernel
theorem dX0_init_46 : decode cX0_init 46 = .ok (.iconst 0, 1) := by decide +kernel
theorem dX0_init_47 : decode cX0_init 47 = .ok (.putfield 29, 3) := by decide +kernel
theorem dX0_init_50 : decode cX0_init 50 = .ok (.aload_n 0, 1) := by decide +kernel
theorem dX0_init_51 : decode cX0_init 51 = .ok (.bipush 15, 2) := by decide +kernel
theorem dX0_init_53 : decode cX0_init 53 = .ok (.putfield 32, 3) := by decide +kernel
theorem dX0_init_56 : decode cX0_init 56 = .ok (.aload_n 0, 1) := by decide +kernel
theorem dX0_init_57 : decode cX0_init 57 = .ok (.bipush 15, 2) := by decide +kernel
theorem dX0_init_59 : decode cX0_init 59 = .ok (.putfield 35, 3) := by decide +kernel
theorem dX0_init_62 : decode cX0_init 62 = .ok (.return_, 1) := by decide +kernel
theorem dX0_startWith_0 : decode cX0_startWith 0 = .ok (.aload_n 0, 1) := by decide +kernel
theorem dX0_startWith_1 : decode cX0_startWith 1 = .ok (.iconst 0, 1) := by decide +kernel
theorem dX0_startWith_2 : decode cX0_startWith 2 = .ok (.putfield 38, 3) := by decide +kernel
theorem dX0_startWith_5 : decode cX0_startWith 5 = .ok (.aload_n 0, 1) := by decide +kernel
theorem dX0_startWith_6 : decode cX0_startWith 6 = .ok (.iconst 0, 1) := by decide +kernel
theorem dX0_startWith_7 : decode cX0_startWith 7 = .ok (.iconst 0, 1) := by decide +kernel
theorem dX0_startWith_8 : decode cX0_startWith 8 = .ok (.bipush 15, 2) := by decide +kernel
theorem dX0_startWith_10 : decode cX0_startWith 10 = .ok (.bipush 15, 2) := by decide +kernel
theorem dX0_startWith_12 : decode cX0_startWith 12 = .ok (.invokevirtual 41, 3) := by decide +kernel
theorem dX0_startWith_15 : decode cX0_startWith 15 = .ok (.aload_n 0, 1) := by decide +kernel
theorem dX0_startWith_16 : decode cX0_startWith 16 = .ok (.getfield 9, 3) := by decide +kernel
theorem dX0_startWith_19 : decode cX0_startWith 19 = .ok (.lconst 0, 1) := by decide +kernel
theorem dX0_startWith_20 : decode cX0_startWith 20 = .ok (.invokestatic 45, 3) := by decide +kernel
theorem dX0_startWith_23 : decode cX0_startWith 23 = .ok (.iconst 0, 1) := by decide +kernel
theorem dX0_startWith_24 : decode cX0_startWith 24 = .ok (.istore_n 2, 1) := by decide +kernel
theorem dX0_startWith_25 : decode cX0_startWith 25 = .ok (.iload_n 2, 1) := by decide +kernel
theorem dX0_startWith_26 : decode cX0_startWith 26 = .ok (.sipush 256, 3) := by decide +kernel
theorem dX0_startWith_29 : decode cX0_startWith 29 = .ok (.if_icmp .ge 27, 3) := by decide +kernel
theorem dX0_startWith_32 : decode cX0_startWith 32 = .ok (.aload_n 0, 1) := by decide +kernel
theorem dX0_startWith_33 : decode cX0_startWith 33 = .ok (.getfield 15, 3) := by decide +kernel
theorem dX0_startWith_36 : decode cX0_startWith 36 = .ok (.iload_n 2, 1) := by decide +kernel
theorem dX0_startWith_37 : decode cX0_startWith 37 = .ok (.aload_n 1, 1) := by decide +kernel
theorem dX0_startWith_38 : decode cX0_startWith 38 = .ok (.iload_n 2, 1) := by decide +kernel
theorem dX0_startWith_39 : decode cX0_startWith 39 = .ok (.bipush 16, 2) := by decide +kernel
theorem dX0_startWith_41 : decode cX0_startWith 41 = .ok (.irem, 1) := by decide +kernel
theorem dX0_startWith_42 : decode cX0_startWith 42 = .ok (.iload_n 2, 1) := by decide +kernel
theorem dX0_startWith_43 : decode cX0_startWith 43 = .ok (.bipush 16, 2) := by decide +kernel
theorem dX0_startWith_45 : decode cX0_startWith 45 = .ok (.idiv, 1) := by decide +kernel
theorem dX0_startWith_46 : decode cX0_startWith 46 = .ok (.invokevirtual 51, 3) := by decide +kernel
theorem dX0_startWith_49 : decode cX0_startWith 49 = .ok (.iastore, 1) := by decide +kernel
theorem dX0_startWith_50 : decode cX0_startWith 50 = .ok (.iinc 2 1, 3) := by decide +kernel
theorem dX0_startWith_53 : decode cX0_startWith 53 = .ok (.goto (-28), 3) := by decide +kernel
theorem dX0_startWith_56 : decode cX0_startWith 56 = .ok (.return_, 1) := by decide +kernel
theorem dX0_sumProducts_0 : decode cX0_sumProducts 0 = .ok (.iconst 0, 1) := by decide +kernel
theorem dX0_sumProducts_1 : decode cX0_sumProducts 1 = .ok (.istore_n 2, 1) := by decide +kernel
theorem dX0_sumProducts_2 : decode cX0_sumProducts 2 = .ok (.iload_n 2, 1) := by decide +kernel
theorem dX0_sumProducts_3 : decode cX0_sumProducts 3 = .ok (.sipush 256, 3) := by decide +kernel
theorem dX0_sumProducts_6 : decode cX0_sumProducts 6 = .ok (.if_icmp .ge 27, 3) := by decide +kernel
theorem dX0_sumProducts_9 : decode cX0_sumProducts 9 = .ok (.aload_n 0, 1) := by decide +kernel
theorem dX0_sumProducts_10 : decode cX0_sumProducts 10 = .ok (.getfield 9, 3) := by decide +kernel
theorem dX0_sumProducts_13 : decode cX0_sumProducts 13 = .ok (.iload_n 2, 1) := by decide +kernel
theorem dX0_sumProducts_14 : decode cX0_sumProducts 14 = .ok (.aload_n 1, 1) := by decide +kernel
theorem dX0_sumProducts_15 : decode cX0_sumProducts 15 = .ok (.iload_n 2, 1) := by decide +kernel
theorem dX0_sumProducts_16 : decode cX0_sumProducts 16 = .ok (.bipush 16, 2) := by decide +kernel
theorem dX0_sumProducts_18 : decode cX0_sumProducts 18 = .ok (.irem, 1) := by decide +kernel
theorem dX0_sumProducts_19 : decode cX0_sumProducts 19 = .ok (.iload_n 2, 1) := by decide +kernel
theorem dX0_sumProducts_20 : decode cX0_sumProducts 20 = .ok (.bipush 16, 2) := by decide +kernel
theorem dX0_sumProducts_22 : decode cX0_sumProducts 22 = .ok (.idiv, 1) := by decide +kernel
theorem dX0_sumProducts_23 : decode cX0_sumProducts 23 = .ok (.invokevirtual 57, 3) := by decide +kernel
theorem dX0_sumProducts_26 : decode cX0_sumProducts 26 = .ok (.lastore, 1) := by decide +kernel
theorem dX0_sumProducts_27 : decode cX0_sumProducts 27 = .ok (.iinc 2 1, 3) := by decide +kernel
theorem dX0_sumProducts_30 : decode cX0_sumProducts 30 = .ok (.goto (-28), 3) := by decide +kernel
theorem dX0_sumProducts_33 : decode cX0_sumProducts 33 = .ok (.return_, 1) := by decide +kernel
theorem dX0_sumPoints_0 : decode cX0_sumPoints 0 = .ok (.iconst 0, 1) := by decide +kernel
theorem dX0_sumPoints_1 : decode cX0_sumPoints 1 = .ok (.istore_n 2, 1) := by decide +kernel
theorem dX0_sumPoints_2 : decode cX0_sumPoints 2 = .ok (.iload_n 2, 1) := by decide +kernel
theorem dX0_sumPoints_3 : decode cX0_sumPoints 3 = .ok (.aload_n 1, 1) := by decide +kernel
theorem dX0_sumPoints_4 : decode cX0_sumPoints 4 = .ok (.getfield 61, 3) := by decide +kernel
theorem dX0_sumPoints_7 : decode cX0_sumPoints 7 = .ok (.if_icmp .ge 32, 3) := by decide +kernel
theorem dX0_sumPoints_10 : decode cX0_sumPoints 10 = .ok (.aload_n 0, 1) := by decide +kernel
theorem dX0_sumPoints_11 : decode cX0_sumPoints 11 = .ok (.aload_n 1, 1) := by decide +kernel
theorem dX0_sumPoints_12 : decode cX0_sumPoints 12 = .ok (.getfield 66, 3) := by decide +kernel
theorem dX0_sumPoints_15 : decode cX0_sumPoints 15 = .ok (.iload_n 2, 1) := by decide +kernel
theorem dX0_sumPoints_16 : decode cX0_sumPoints 16 = .ok (.iaload, 1) := by decide +kernel
theorem dX0_sumPoints_17 : decode cX0_sumPoints 17 = .ok (.aload_n 1, 1) := by decide +kernel
theorem dX0_sumPoints_18 : decode cX0_sumPoints 18 = .ok (.getfield 69, 3) := by decide +kernel
theorem dX0_sumPoints_21 : decode cX0_sumPoints 21 = .ok (.iload_n 2, 1) := by decide +kernel
theorem dX0_sumPoints_22 : decode cX0_sumPoints 22 = .ok (.iaload, 1) := by decide +kernel
theorem dX0_sumPoints_23 : decode cX0_sumPoints 23 = .ok (.aload_n 1, 1) := by decide +kernel
theorem dX0_sumPoints_24 : decode cX0_sumPoints 24 = .ok (.getfield 72, 3) := by decide +kernel
theorem dX0_sumPoints_27 : decode cX0_sumPoints 27 = .ok (.iload_n 2, 1) := by decide +kernel
theorem dX0_sumPoints_28 : decode cX0_sumPoints 28 = .ok (.iaload, 1) := by decide +kernel
theorem dX0_sumPoints_29 : decode cX0_sumPoints 29 = .ok (.i2l, 1) := by decide +kernel
theorem dX0_sumPoints_30 : decode cX0_sumPoints 30 = .ok (.invokevirtual 75, 3) := by decide +kernel
theorem dX0_sumPoints_33 : decode cX0_sumPoints 33 = .ok (.iinc 2 1, 3) := by decide +kernel
theorem dX0_sumPoints_36 : decode cX0_sumPoints 36 = .ok (.goto (-34), 3) := by decide +kernel
theorem dX0_sumPoints_39 : decode cX0_sumPoints 39 = .ok (.return_, 1) := by decide +kernel
theorem dX0_keptAt_0 : decode cX0_keptAt 0 = .ok (.aload_n 0, 1) := by decide +kernel
theorem dX0_keptAt_1 : decode cX0_keptAt 1 = .ok (.getfield 15, 3) := by decide +kernel
theorem dX0_keptAt_4 : decode cX0_keptAt 4 = .ok (.bipush 16, 2) := by decide +kernel
theorem dX0_keptAt_6 : decode cX0_keptAt 6 = .ok (.iload_n 2, 1) := by decide +kernel
theorem dX0_keptAt_7 : decode cX0_keptAt 7 = .ok (.bipush 15, 2) := by decide +kernel
theorem dX0_keptAt_9 : decode cX0_keptAt 9 = .ok (.iand, 1) := by decide +kernel
theorem dX0_keptAt_10 : decode cX0_keptAt 10 = .ok (.imul, 1) := by decide +kernel
theorem dX0_keptAt_11 : decode cX0_keptAt 11 = .ok (.iload_n 1, 1) := by decide +kernel
theorem dX0_keptAt_12 : decode cX0_keptAt 12 = .ok (.bipush 15, 2) := by decide +kernel
theorem dX0_keptAt_14 : decode cX0_keptAt 14 = .ok (.iand, 1) := by decide +kernel
theorem dX0_keptAt_15 : decode cX0_keptAt 15 = .ok (.iadd, 1) := by decide +kernel
theorem dX0_keptAt_16 : decode cX0_keptAt 16 = .ok (.iaload, 1) := by decide +kernel
theorem dX0_keptAt_17 : decode cX0_keptAt 17 = .ok (.ireturn, 1) := by decide +kernel
theorem dX0_addBeam_0 : decode cX0_addBeam 0 = .ok (.iconst 0, 1) := by decide +kernel
theorem dX0_addBeam_1 : decode cX0_addBeam 1 = .ok (.istore 5, 2) := by decide +kernel
theorem dX0_addBeam_3 : decode cX0_addBeam 3 = .ok (.iload 5, 2) := by decide +kernel
theorem dX0_addBeam_5 : decode cX0_addBeam 5 = .ok (.sipush 256, 3) := by decide +kernel
theorem dX0_addBeam_8 : decode cX0_addBeam 8 = .ok (.if_icmp .ge 40, 3) := by decide +kernel
theorem dX0_addBeam_11 : decode cX0_addBeam 11 = .ok (.aload_n 0, 1) := by decide +kernel
theorem dX0_addBeam_12 : decode cX0_addBeam 12 = .ok (.getfield 9, 3) := by decide +kernel
theorem dX0_addBeam_15 : decode cX0_addBeam 15 = .ok (.iload 5, 2) := by decide +kernel
theorem dX0_addBeam_17 : decode cX0_addBeam 17 = .ok (.dup2, 1) := by decide +kernel
theorem dX0_addBeam_18 : decode cX0_addBeam 18 = .ok (.laload, 1) := by decide +kernel
theorem dX0_addBeam_19 : decode cX0_addBeam 19 = .ok (.lload_n 3, 1) := by decide +kernel
theorem dX0_addBeam_20 : decode cX0_addBeam 20 = .ok (.aload_n 0, 1) := by decide +kernel
theorem dX0_addBeam_21 : decode cX0_addBeam 21 = .ok (.iload 5, 2) := by decide +kernel
theorem dX0_addBeam_23 : decode cX0_addBeam 23 = .ok (.bipush 16, 2) := by decide +kernel
theorem dX0_addBeam_25 : decode cX0_addBeam 25 = .ok (.irem, 1) := by decide +kernel
theorem dX0_addBeam_26 : decode cX0_addBeam 26 = .ok (.iload_n 1, 1) := by decide +kernel
theorem dX0_addBeam_27 : decode cX0_addBeam 27 = .ok (.isub, 1) := by decide +kernel
theorem dX0_addBeam_28 : decode cX0_addBeam 28 = .ok (.iload 5, 2) := by decide +kernel
theorem dX0_addBeam_30 : decode cX0_addBeam 30 = .ok (.bipush 16, 2) := by decide +kernel
theorem dX0_addBeam_32 : decode cX0_addBeam 32 = .ok (.idiv, 1) := by decide +kernel
theorem dX0_addBeam_33 : decode cX0_addBeam 33 = .ok (.iload_n 2, 1) := by decide +kernel
theorem dX0_addBeam_34 : decode cX0_addBeam 34 = .ok (.isub, 1) := by decide +kernel
theorem dX0_addBeam_35 : decode cX0_addBeam 35 = .ok (.invokevirtual 79, 3) := by decide +kernel
theorem dX0_addBeam_38 : decode cX0_addBeam 38 = .ok (.i2l, 1) := by decide +kernel
theorem dX0_addBeam_39 : decode cX0_addBeam 39 = .ok (.lmul, 1) := by decide +kernel
theorem dX0_addBeam_40 : decode cX0_addBeam 40 = .ok (.ladd, 1) := by decide +kernel
theorem dX0_addBeam_41 : decode cX0_addBeam 41 = .ok (.lastore, 1) := by decide +kernel
theorem dX0_addBeam_42 : decode cX0_addBeam 42 = .ok (.iinc 5 1, 3) := by decide +kernel
theorem dX0_addBeam_45 : decode cX0_addBeam 45 = .ok (.goto (-42), 3) := by decide +kernel
theorem dX0_addBeam_48 : decode cX0_addBeam 48 = .ok (.return_, 1) := by decide +kernel
theorem dX0_look_0 : decode cX0_look 0 = .ok (.aload_n 0, 1) := by decide +kernel
theorem dX0_look_1 : decode cX0_look 1 = .ok (.iload_n 1, 1) := by decide +kernel
theorem dX0_look_2 : decode cX0_look 2 = .ok (.putfield 25, 3) := by decide +kernel
theorem dX0_look_5 : decode cX0_look 5 = .ok (.aload_n 0, 1) := by decide +kernel
theorem dX0_look_6 : decode cX0_look 6 = .ok (.iload_n 2, 1) := by decide +kernel
theorem dX0_look_7 : decode cX0_look 7 = .ok (.putfield 29, 3) := by decide +kernel
theorem dX0_look_10 : decode cX0_look 10 = .ok (.aload_n 0, 1) := by decide +kernel
theorem dX0_look_11 : decode cX0_look 11 = .ok (.iload_n 3, 1) := by decide +kernel
theorem dX0_look_12 : decode cX0_look 12 = .ok (.putfield 32, 3) := by decide +kernel
theorem dX0_look_15 : decode cX0_look 15 = .ok (.aload_n 0, 1) := by decide +kernel
theorem dX0_look_16 : decode cX0_look 16 = .ok (.iload 4, 2) := by decide +kernel
theorem dX0_look_18 : decode cX0_look 18 = .ok (.putfield 35, 3) := by decide +kernel
theorem dX0_look_21 : decode cX0_look 21 = .ok (.return_, 1) := by decide +kernel
theorem dX0_windowCells_0 : decode cX0_windowCells 0 = .ok (.aload_n 0, 1) := by decide +kernel
theorem dX0_windowCells_1 : decode cX0_windowCells 1 = .ok (.getfield 32, 3) := by decide +kernel
theorem dX0_windowCells_4 : decode cX0_windowCells 4 = .ok (.aload_n 0, 1) := by decide +kernel
theorem dX0_windowCells_5 : decode cX0_windowCells 5 = .ok (.getfield 25, 3) := by decide +kernel
theorem dX0_windowCells_8 : decode cX0_windowCells 8 = .ok (.isub, 1) := by decide +kernel
theorem dX0_windowCells_9 : decode cX0_windowCells 9 = .ok (.iconst 1, 1) := by decide +kernel
theorem dX0_windowCells_10 : decode cX0_windowCells 10 = .ok (.iadd, 1) := by decide +kernel
theorem dX0_windowCells_11 : decode cX0_windowCells 11 = .ok (.aload_n 0, 1) := by decide +kernel
theorem dX0_windowCells_12 : decode cX0_windowCells 12 = .ok (.getfield 35, 3) := by decide +kernel
theorem dX0_windowCells_15 : decode cX0_windowCells 15 = .ok (.aload_n 0, 1) := by decide +kernel
theorem dX0_windowCells_16 : decode cX0_windowCells 16 = .ok (.getfield 29, 3) := by decide +kernel
theorem dX0_windowCells_19 : decode cX0_windowCells 19 = .ok (.isub, 1) := by decide +kernel
theorem dX0_windowCells_20 : decode cX0_windowCells 20 = .ok (.iconst 1, 1) := by decide +kernel
theorem dX0_windowCells_21 : decode cX0_windowCells 21 = .ok (.iadd, 1) := by decide +kernel
theorem dX0_windowCells_22 : decode cX0_windowCells 22 = .ok (.imul, 1) := by decide +kernel
theorem dX0_windowCells_23 : decode cX0_windowCells 23 = .ok (.ireturn, 1) := by decide +kernel
theorem dX0_greatestCell_0 : decode cX0_greatestCell 0 = .ok (.bipush 16, 2) := by decide +kernel
theorem dX0_greatestCell_2 : decode cX0_greatestCell 2 = .ok (.aload_n 0, 1) := by decide +kernel
theorem dX0_greatestCell_3 : decode cX0_greatestCell 3 = .ok (.getfield 29, 3) := by decide +kernel
theorem dX0_greatestCell_6 : decode cX0_greatestCell 6 = .ok (.imul, 1) := by decide +kernel
theorem dX0_greatestCell_7 : decode cX0_greatestCell 7 = .ok (.aload_n 0, 1) := by decide +kernel
theorem dX0_greatestCell_8 : decode cX0_greatestCell 8 = .ok (.getfield 25, 3) := by decide +kernel
theorem dX0_greatestCell_11 : decode cX0_greatestCell 11 = .ok (.iadd, 1) := by decide +kernel
theorem dX0_greatestCell_12 : decode cX0_greatestCell 12 = .ok (.istore_n 1, 1) := by decide +kernel
theorem dX0_greatestCell_13 : decode cX0_greatestCell 13 = .ok (.aload_n 0, 1) := by decide +kernel
theorem dX0_greatestCell_14 : decode cX0_greatestCell 14 = .ok (.getfield 29, 3) := by decide +kernel
theorem dX0_greatestCell_17 : decode cX0_greatestCell 17 = .ok (.istore_n 2, 1) := by decide +kernel
theorem dX0_greatestCell_18 : decode cX0_greatestCell 18 = .ok (.iload_n 2, 1) := by decide +kernel
theorem dX0_greatestCell_19 : decode cX0_greatestCell 19 = .ok (.aload_n 0, 1) := by decide +kernel
theorem dX0_greatestCell_20 : decode cX0_greatestCell 20 = .ok (.getfield 35, 3) := by decide +kernel
theorem dX0_greatestCell_23 : decode cX0_greatestCell 23 = .ok (.if_icmp .gt 54, 3) := by decide +kernel
theorem dX0_greatestCell_26 : decode cX0_greatestCell 26 = .ok (.aload_n 0, 1) := by decide +kernel
theorem dX0_greatestCell_27 : decode cX0_greatestCell 27 = .ok (.getfield 25, 3) := by decide +kernel
theorem dX0_greatestCell_30 : decode cX0_greatestCell 30 = .ok (.istore_n 3, 1) := by decide +kernel
theorem dX0_greatestCell_31 : decode cX0_greatestCell 31 = .ok (.iload_n 3, 1) := by decide +kernel
theorem dX0_greatestCell_32 : decode cX0_greatestCell 32 = .ok (.aload_n 0, 1) := by decide +kernel
theorem dX0_greatestCell_33 : decode cX0_greatestCell 33 = .ok (.getfield 32, 3) := by decide +kernel
theorem dX0_greatestCell_36 : decode cX0_greatestCell 36 = .ok (.if_icmp .gt 35, 3) := by decide +kernel
theorem dX0_greatestCell_39 : decode cX0_greatestCell 39 = .ok (.bipush 16, 2) := by decide +kernel
theorem dX0_greatestCell_41 : decode cX0_greatestCell 41 = .ok (.iload_n 2, 1) := by decide +kernel
theorem dX0_greatestCell_42 : decode cX0_greatestCell 42 = .ok (.imul, 1) := by decide +kernel
theorem dX0_greatestCell_43 : decode cX0_greatestCell 43 = .ok (.iload_n 3, 1) := by decide +kernel
theorem dX0_greatestCell_44 : decode cX0_greatestCell 44 = .ok (.iadd, 1) := by decide +kernel
theorem dX0_greatestCell_45 : decode cX0_greatestCell 45 = .ok (.istore 4, 2) := by decide +kernel
theorem dX0_greatestCell_47 : decode cX0_greatestCell 47 = .ok (.aload_n 0, 1) := by decide +kernel
theorem dX0_greatestCell_48 : decode cX0_greatestCell 48 = .ok (.iload 4, 2) := by decide +kernel
theorem dX0_greatestCell_50 : decode cX0_greatestCell 50 = .ok (.invokevirtual 82, 3) := by decide +kernel
theorem dX0_greatestCell_53 : decode cX0_greatestCell 53 = .ok (.aload_n 0, 1) := by decide +kernel
theorem dX0_greatestCell_54 : decode cX0_greatestCell 54 = .ok (.iload_n 1, 1) := by decide +kernel
theorem dX0_greatestCell_55 : decode cX0_greatestCell 55 = .ok (.invokevirtual 82, 3) := by decide +kernel
theorem dX0_greatestCell_58 : decode cX0_greatestCell 58 = .ok (.lcmp, 1) := by decide +kernel
theorem dX0_greatestCell_59 : decode cX0_greatestCell 59 = .ok (.ifCond .le 6, 3) := by decide +kernel
theorem dX0_greatestCell_62 : decode cX0_greatestCell 62 = .ok (.iload 4, 2) := by decide +kernel
theorem dX0_greatestCell_64 : decode cX0_greatestCell 64 = .ok (.istore_n 1, 1) := by decide +kernel
theorem dX0_greatestCell_65 : decode cX0_greatestCell 65 = .ok (.iinc 3 1, 3) := by decide +kernel
theorem dX0_greatestCell_68 : decode cX0_greatestCell 68 = .ok (.goto (-37), 3) := by decide +kernel
theorem dX0_greatestCell_71 : decode cX0_greatestCell 71 = .ok (.iinc 2 1, 3) := by decide +kernel
theorem dX0_greatestCell_74 : decode cX0_greatestCell 74 = .ok (.goto (-56), 3) := by decide +kernel
theorem dX0_greatestCell_77 : decode cX0_greatestCell 77 = .ok (.iload_n 1, 1) := by decide +kernel
theorem dX0_greatestCell_78 : decode cX0_greatestCell 78 = .ok (.ireturn, 1) := by decide +kernel
theorem dX0_amountAt_0 : decode cX0_amountAt 0 = .ok (.aload_n 0, 1) := by decide +kernel
theorem dX0_amountAt_1 : decode cX0_amountAt 1 = .ok (.getfield 9, 3) := by decide +kernel
theorem dX0_amountAt_4 : decode cX0_amountAt 4 = .ok (.iload_n 1, 1) := by decide +kernel
theorem dX0_amountAt_5 : decode cX0_amountAt 5 = .ok (.laload, 1) := by decide +kernel
theorem dX0_amountAt_6 : decode cX0_amountAt 6 = .ok (.invokestatic 86, 3) := by decide +kernel
theorem dX0_amountAt_9 : decode cX0_amountAt 9 = .ok (.lreturn, 1) := by decide +kernel
theorem dX0_takeOff_0 : decode cX0_takeOff 0 = .ok (.ldc2_w 92, 3) := by decide +kernel
theorem dX0_takeOff_3 : decode cX0_takeOff 3 = .ok (.aload_n 0, 1) := by decide +kernel
theorem dX0_takeOff_4 : decode cX0_takeOff 4 = .ok (.iconst 0, 1) := by decide +kernel
theorem dX0_takeOff_5 : decode cX0_takeOff 5 = .ok (.iconst 0, 1) := by decide +kernel
theorem dX0_takeOff_6 : decode cX0_takeOff 6 = .ok (.invokevirtual 79, 3) := by decide +kernel
theorem dX0_takeOff_9 : decode cX0_takeOff 9 = .ok (.i2l, 1) := by decide +kernel
theorem dX0_takeOff_10 : decode cX0_takeOff 10 = .ok (.lmul, 1) := by decide +kernel
theorem dX0_takeOff_11 : decode cX0_takeOff 11 = .ok (.lstore_n 3, 1) := by decide +kernel
theorem dX0_takeOff_12 : decode cX0_takeOff 12 = .ok (.lload_n 3, 1) := by decide +kernel
theorem dX0_takeOff_13 : decode cX0_takeOff 13 = .ok (.lconst 0, 1) := by decide +kernel
theorem dX0_takeOff_14 : decode cX0_takeOff 14 = .ok (.lcmp, 1) := by decide +kernel
theorem dX0_takeOff_15 : decode cX0_takeOff 15 = .ok (.ifCond .ne 4, 3) := by decide +kernel
theorem dX0_takeOff_18 : decode cX0_takeOff 18 = .ok (.return_, 1) := by decide +kernel
theorem dX0_takeOff_19 : decode cX0_takeOff 19 = .ok (.iconst 0, 1) := by decide +kernel
theorem dX0_takeOff_20 : decode cX0_takeOff 20 = .ok (.istore 5, 2) := by decide +kernel
theorem dX0_takeOff_22 : decode cX0_takeOff 22 = .ok (.iload 5, 2) := by decide +kernel
theorem dX0_takeOff_24 : decode cX0_takeOff 24 = .ok (.iload_n 2, 1) := by decide +kernel
theorem dX0_takeOff_25 : decode cX0_takeOff 25 = .ok (.if_icmp .ge 96, 3) := by decide +kernel
theorem dX0_takeOff_28 : decode cX0_takeOff 28 = .ok (.aload_n 0, 1) := by decide +kernel
theorem dX0_takeOff_29 : decode cX0_takeOff 29 = .ok (.getfield 38, 3) := by decide +kernel
theorem dX0_takeOff_32 : decode cX0_takeOff 32 = .ok (.sipush 200, 3) := by decide +kernel
theorem dX0_takeOff_35 : decode cX0_takeOff 35 = .ok (.if_icmp .ge 86, 3) := by decide +kernel
theorem dX0_takeOff_38 : decode cX0_takeOff 38 = .ok (.aload_n 0, 1) := by decide +kernel
theorem dX0_takeOff_39 : decode cX0_takeOff 39 = .ok (.invokevirtual 94, 3) := by decide +kernel
theorem dX0_takeOff_42 : decode cX0_takeOff 42 = .ok (.istore 6, 2) := by decide +kernel
theorem dX0_takeOff_44 : decode cX0_takeOff 44 = .ok (.aload_n 0, 1) := by decide +kernel
theorem dX0_takeOff_45 : decode cX0_takeOff 45 = .ok (.getfield 9, 3) := by decide +kernel
theorem dX0_takeOff_48 : decode cX0_takeOff 48 = .ok (.iload 6, 2) := by decide +kernel
theorem dX0_takeOff_50 : decode cX0_takeOff 50 = .ok (.laload, 1) := by decide +kernel
theorem dX0_takeOff_51 : decode cX0_takeOff 51 = .ok (.iload_n 1, 1) := by decide +kernel
theorem dX0_takeOff_52 : decode cX0_takeOff 52 = .ok (.i2l, 1) := by decide +kernel
theorem dX0_takeOff_53 : decode cX0_takeOff 53 = .ok (.lmul, 1) := by decide +kernel
theorem dX0_takeOff_54 : decode cX0_takeOff 54 = .ok (.lload_n 3, 1) := by decide +kernel
theorem dX0_takeOff_55 : decode cX0_takeOff 55 = .ok (.ldiv, 1) := by decide +kernel
theorem dX0_takeOff_56 : decode cX0_takeOff 56 = .ok (.lstore 7, 2) := by decide +kernel
theorem dX0_takeOff_58 : decode cX0_takeOff 58 = .ok (.lload 7, 2) := by decide +kernel
theorem dX0_takeOff_60 : decode cX0_takeOff 60 = .ok (.lconst 0, 1) := by decide +kernel
theorem dX0_takeOff_61 : decode cX0_takeOff 61 = .ok (.lcmp, 1) := by decide +kernel
theorem dX0_takeOff_62 : decode cX0_takeOff 62 = .ok (.ifCond .ne 4, 3) := by decide +kernel
theorem dX0_takeOff_65 : decode cX0_takeOff 65 = .ok (.return_, 1) := by decide +kernel
theorem dX0_takeOff_66 : decode cX0_takeOff 66 = .ok (.aload_n 0, 1) := by decide +kernel
theorem dX0_takeOff_67 : decode cX0_takeOff 67 = .ok (.iload 6, 2) := by decide +kernel
theorem dX0_takeOff_69 : decode cX0_takeOff 69 = .ok (.bipush 16, 2) := by decide +kernel
theorem dX0_takeOff_71 : decode cX0_takeOff 71 = .ok (.irem, 1) := by decide +kernel
theorem dX0_takeOff_72 : decode cX0_takeOff 72 = .ok (.iload 6, 2) := by decide +kernel
theorem dX0_takeOff_74 : decode cX0_takeOff 74 = .ok (.bipush 16, 2) := by decide +kernel
theorem dX0_takeOff_76 : decode cX0_takeOff 76 = .ok (.idiv, 1) := by decide +kernel
theorem dX0_takeOff_77 : decode cX0_takeOff 77 = .ok (.lload 7, 2) := by decide +kernel
theorem dX0_takeOff_79 : decode cX0_takeOff 79 = .ok (.lneg, 1) := by decide +kernel
theorem dX0_takeOff_80 : decode cX0_takeOff 80 = .ok (.invokevirtual 75, 3) := by decide +kernel
theorem dX0_takeOff_83 : decode cX0_takeOff 83 = .ok (.aload_n 0, 1) := by decide +kernel
theorem dX0_takeOff_84 : decode cX0_takeOff 84 = .ok (.getfield 19, 3) := by decide +kernel
theorem dX0_takeOff_87 : decode cX0_takeOff 87 = .ok (.aload_n 0, 1) := by decide +kernel
theorem dX0_takeOff_88 : decode cX0_takeOff 88 = .ok (.getfield 38, 3) := by decide +kernel
theorem dX0_takeOff_91 : decode cX0_takeOff 91 = .ok (.iload 6, 2) := by decide +kernel
theorem dX0_takeOff_93 : decode cX0_takeOff 93 = .ok (.iastore, 1) := by decide +kernel
theorem dX0_takeOff_94 : decode cX0_takeOff 94 = .ok (.aload_n 0, 1) := by decide +kernel
theorem dX0_takeOff_95 : decode cX0_takeOff 95 = .ok (.getfield 22, 3) := by decide +kernel
theorem dX0_takeOff_98 : decode cX0_takeOff 98 = .ok (.aload_n 0, 1) := by decide +kernel
theorem dX0_takeOff_99 : decode cX0_takeOff 99 = .ok (.getfield 38, 3) := by decide +kernel
theorem dX0_takeOff_102 : decode cX0_takeOff 102 = .ok (.lload 7, 2) := by decide +kernel
theorem dX0_takeOff_104 : decode cX0_takeOff 104 = .ok (.lastore, 1) := by decide +kernel
theorem dX0_takeOff_105 : decode cX0_takeOff 105 = .ok (.aload_n 0, 1) := by decide +kernel
theorem dX0_takeOff_106 : decode cX0_takeOff 106 = .ok (.dup, 1) := by decide +kernel
theorem dX0_takeOff_107 : decode cX0_takeOff 107 = .ok (.getfield 38, 3) := by decide +kernel
theorem dX0_takeOff_110 : decode cX0_takeOff 110 = .ok (.iconst 1, 1) := by decide +kernel
theorem dX0_takeOff_111 : decode cX0_takeOff 111 = .ok (.iadd, 1) := by decide +kernel
theorem dX0_takeOff_112 : decode cX0_takeOff 112 = .ok (.putfield 38, 3) := by decide +kernel
theorem dX0_takeOff_115 : decode cX0_takeOff 115 = .ok (.iinc 5 1, 3) := by decide +kernel
theorem dX0_takeOff_118 : decode cX0_takeOff 118 = .ok (.goto (-96), 3) := by decide +kernel
theorem dX0_takeOff_121 : decode cX0_takeOff 121 = .ok (.return_, 1) := by decide +kernel
theorem dX0_putBack_0 : decode cX0_putBack 0 = .ok (.aload_n 0, 1) := by decide +kernel
theorem dX0_putBack_1 : decode cX0_putBack 1 = .ok (.getfield 38, 3) := by decide +kernel
theorem dX0_putBack_4 : decode cX0_putBack 4 = .ok (.ifCond .gt 4, 3) := by decide +kernel
theorem dX0_putBack_7 : decode cX0_putBack 7 = .ok (.return_, 1) := by decide +kernel
theorem dX0_putBack_8 : decode cX0_putBack 8 = .ok (.aload_n 0, 1) := by decide +kernel
theorem dX0_putBack_9 : decode cX0_putBack 9 = .ok (.dup, 1) := by decide +kernel
theorem dX0_putBack_10 : decode cX0_putBack 10 = .ok (.getfield 38, 3) := by decide +kernel
theorem dX0_putBack_13 : decode cX0_putBack 13 = .ok (.iconst 1, 1) := by decide +kernel
theorem dX0_putBack_14 : decode cX0_putBack 14 = .ok (.isub, 1) := by decide +kernel
theorem dX0_putBack_15 : decode cX0_putBack 15 = .ok (.putfield 38, 3) := by decide +kernel
theorem dX0_putBack_18 : decode cX0_putBack 18 = .ok (.aload_n 0, 1) := by decide +kernel
theorem dX0_putBack_19 : decode cX0_putBack 19 = .ok (.getfield 19, 3) := by decide +kernel
theorem dX0_putBack_22 : decode cX0_putBack 22 = .ok (.aload_n 0, 1) := by decide +kernel
theorem dX0_putBack_23 : decode cX0_putBack 23 = .ok (.getfield 38, 3) := by decide +kernel
theorem dX0_putBack_26 : decode cX0_putBack 26 = .ok (.iaload, 1) := by decide +kernel
theorem dX0_putBack_27 : decode cX0_putBack 27 = .ok (.istore_n 1, 1) := by decide +kernel
theorem dX0_putBack_28 : decode cX0_putBack 28 = .ok (.aload_n 0, 1) := by decide +kernel
theorem dX0_putBack_29 : decode cX0_putBack 29 = .ok (.iload_n 1, 1) := by decide +kernel
theorem dX0_putBack_30 : decode cX0_putBack 30 = .ok (.bipush 16, 2) := by decide +kernel
theorem dX0_putBack_32 : decode cX0_putBack 32 = .ok (.irem, 1) := by decide +kernel
theorem dX0_putBack_33 : decode cX0_putBack 33 = .ok (.iload_n 1, 1) := by decide +kernel
theorem dX0_putBack_34 : decode cX0_putBack 34 = .ok (.bipush 16, 2) := by decide +kernel
theorem dX0_putBack_36 : decode cX0_putBack 36 = .ok (.idiv, 1) := by decide +kernel
theorem dX0_putBack_37 : decode cX0_putBack 37 = .ok (.aload_n 0, 1) := by decide +kernel
theorem dX0_putBack_38 : decode cX0_putBack 38 = .ok (.getfield 22, 3) := by decide +kernel
theorem dX0_putBack_41 : decode cX0_putBack 41 = .ok (.aload_n 0, 1) := by decide +kernel
theorem dX0_putBack_42 : decode cX0_putBack 42 = .ok (.getfield 38, 3) := by decide +kernel
theorem dX0_putBack_45 : decode cX0_putBack 45 = .ok (.laload, 1) := by decide +kernel
theorem dX0_putBack_46 : decode cX0_putBack 46 = .ok (.invokevirtual 75, 3) := by decide +kernel
theorem dX0_putBack_49 : decode cX0_putBack 49 = .ok (.return_, 1) := by decide +kernel
theorem dX1_init_0 : decode cX1_init 0 = .ok (.aload_n 0, 1) := by decide +kernel
theorem dX1_init_1 : decode cX1_init 1 = .ok (.invokespecial 3, 3) := by decide +kernel
theorem dX1_init_4 : decode cX1_init 4 = .ok (.aload_n 0, 1) := by decide +kernel
theorem dX1_init_5 : decode cX1_init 5 = .ok (.iconst 0, 1) := by decide +kernel
theorem dX1_init_6 : decode cX1_init 6 = .ok (.putfield 9, 3) := by decide +kernel
theorem dX1_init_9 : decode cX1_init 9 = .ok (.aload_n 0, 1) := by decide +kernel
theorem dX1_init_10 : decode cX1_init 10 = .ok (.iconst 1, 1) := by decide +kernel
theorem dX1_init_11 : decode cX1_init 11 = .ok (.putfield 15, 3) := by decide +kernel
theorem dX1_init_14 : decode cX1_init 14 = .ok (.aload_n 0, 1) := by decide +kernel
theorem dX1_init_15 : decode cX1_init 15 = .ok (.iconst 0, 1) := by decide +kernel
theorem dX1_init_16 : decode cX1_init 16 = .ok (.putfield 18, 3) := by decide +kernel
theorem dX1_init_19 : decode cX1_init 19 = .ok (.aload_n 0, 1) := by decide +kernel
theorem dX1_init_20 : decode cX1_init 20 = .ok (.iconst (-1), 1) := by decide +kernel
theorem dX1_init_21 : decode cX1_init 21 = .ok (.putfield 21, 3) := by decide +kernel
theorem dX1_init_24 : decode cX1_init 24 = .ok (.aload_n 0, 1) := by decide +kernel
theorem dX1_init_25 : decode cX1_init 25 = .ok (.bipush 100, 2) := by decide +kernel
theorem dX1_init_27 : decode cX1_init 27 = .ok (.newarray .int, 2) := by decide +kernel
theorem dX1_init_29 : decode cX1_init 29 = .ok (.putfield 24, 3) := by decide +kernel
theorem dX1_init_32 : decode cX1_init 32 = .ok (.aload_n 0, 1) := by decide +kernel
theorem dX1_init_33 : decode cX1_init 33 = .ok (.bipush 100, 2) := by decide +kernel
theorem dX1_init_35 : decode cX1_init 35 = .ok (.newarray .int, 2) := by decide +kernel
theorem dX1_init_37 : decode cX1_init 37 = .ok (.putfield 28, 3) := by decide +kernel
theorem dX1_init_40 : decode cX1_init 40 = .ok (.aload_n 0, 1) := by decide +kernel
theorem dX1_init_41 : decode cX1_init 41 = .ok (.iload_n 1, 1) := by decide +kernel
theorem dX1_init_42 : decode cX1_init 42 = .ok (.putfield 31, 3) := by decide +kernel
theorem dX1_init_45 : decode cX1_init 45 = .ok (.aload_n 0, 1) := by decide +kernel
theorem dX1_init_46 : decode cX1_init 46 = .ok (.iload_n 2, 1) := by decide +kernel
theorem dX1_init_47 : decode cX1_init 47 = .ok (.putfield 34, 3) := by decide +kernel
theorem dX1_init_50 : decode cX1_init 50 = .ok (.return_, 1) := by decide +kernel
theorem dX1_isLost_0 : decode cX1_isLost 0 = .ok (.aload_n 0, 1) := by decide +kernel
theorem dX1_isLost_1 : decode cX1_isLost 1 = .ok (.getfield 21, 3) := by decide +kernel
theorem dX1_isLost_4 : decode cX1_isLost 4 = .ok (.iconst (-1), 1) := by decide +kernel
theorem dX1_isLost_5 : decode cX1_isLost 5 = .ok (.if_icmp .ne 7, 3) := by decide +kernel
theorem dX1_isLost_8 : decode cX1_isLost 8 = .ok (.iconst 1, 1) := by decide +kernel
theorem dX1_isLost_9 : decode cX1_isLost 9 = .ok (.goto 4, 3) := by decide +kernel
theorem dX1_isLost_12 : decode cX1_isLost 12 = .ok (.iconst 0, 1) := by decide +kernel
theorem dX1_isLost_13 : decode cX1_isLost 13 = .ok (.ireturn, 1) := by decide +kernel
theorem dX1_renew_0 : decode cX1_renew 0 = .ok (.aload_n 0, 1) := by decide +kernel
theorem dX1_renew_1 : decode cX1_renew 1 = .ok (.iload_n 1, 1) := by decide +kernel
theorem dX1_renew_2 : decode cX1_renew 2 = .ok (.putfield 18, 3) := by decide +kernel
theorem dX1_renew_5 : decode cX1_renew 5 = .ok (.aload_n 0, 1) := by decide +kernel
theorem dX1_renew_6 : decode cX1_renew 6 = .ok (.iload_n 2, 1) := by decide +kernel
theorem dX1_renew_7 : decode cX1_renew 7 = .ok (.putfield 21, 3) := by decide +kernel
theorem dX1_renew_10 : decode cX1_renew 10 = .ok (.aload_n 0, 1) := by decide +kernel
theorem dX1_renew_11 : decode cX1_renew 11 = .ok (.getfield 24, 3) := by decide +kernel
theorem dX1_renew_14 : decode cX1_renew 14 = .ok (.iconst 0, 1) := by decide +kernel
theorem dX1_renew_15 : decode cX1_renew 15 = .ok (.invokestatic 37, 3) := by decide +kernel
theorem dX1_renew_18 : decode cX1_renew 18 = .ok (.return_, 1) := by decide +kernel
theorem dX1_hasItem_0 : decode cX1_hasItem 0 = .ok (.iload_n 1, 1) := by decide +kernel
theorem dX1_hasItem_1 : decode cX1_hasItem 1 = .ok (.ifCond .lt 15, 3) := by decide +kernel
theorem dX1_hasItem_4 : decode cX1_hasItem 4 = .ok (.iload_n 1, 1) := by decide +kernel
theorem dX1_hasItem_5 : decode cX1_hasItem 5 = .ok (.aload_n 0, 1) := by decide +kernel
theorem dX1_hasItem_6 : decode cX1_hasItem 6 = .ok (.getfield 21, 3) := by decide +kernel
theorem dX1_hasItem_9 : decode cX1_hasItem 9 = .ok (.if_icmp .ge 7, 3) := by decide +kernel
theorem dX1_hasItem_12 : decode cX1_hasItem 12 = .ok (.iconst 1, 1) := by decide +kernel
theorem dX1_hasItem_13 : decode cX1_hasItem 13 = .ok (.goto 4, 3) := by decide +kernel
theorem dX1_hasItem_16 : decode cX1_hasItem 16 = .ok (.iconst 0, 1) := by decide +kernel
theorem dX1_hasItem_17 : decode cX1_hasItem 17 = .ok (.ireturn, 1) := by decide +kernel
theorem dX1_hasSpan_0 : decode cX1_hasSpan 0 = .ok (.iload_n 1, 1) := by decide +kernel
theorem dX1_hasSpan_1 : decode cX1_hasSpan 1 = .ok (.ifCond .lt 25, 3) := by decide +kernel
theorem dX1_hasSpan_4 : decode cX1_hasSpan 4 = .ok (.iload_n 2, 1) := by decide +kernel
theorem dX1_hasSpan_5 : decode cX1_hasSpan 5 = .ok (.ifCond .lt 21, 3) := by decide +kernel
theorem dX1_hasSpan_8 : decode cX1_hasSpan 8 = .ok (.iload_n 1, 1) := by decide +kernel
theorem dX1_hasSpan_9 : decode cX1_hasSpan 9 = .ok (.i2l, 1) := by decide +kernel
theorem dX1_hasSpan_10 : decode cX1_hasSpan 10 = .ok (.iload_n 2, 1) := by decide +kernel
theorem dX1_hasSpan_11 : decode cX1_hasSpan 11 = .ok (.i2l, 1) := by decide +kernel
theorem dX1_hasSpan_12 : decode cX1_hasSpan 12 = .ok (.ladd, 1) := by decide +kernel
theorem dX1_hasSpan_13 : decode cX1_hasSpan 13 = .ok (.aload_n 0, 1) := by decide +kernel
theorem dX1_hasSpan_14 : decode cX1_hasSpan 14 = .ok (.getfield 21, 3) := by decide +kernel
theorem dX1_hasSpan_17 : decode cX1_hasSpan 17 = .ok (.i2l, 1) := by decide +kernel
theorem dX1_hasSpan_18 : decode cX1_hasSpan 18 = .ok (.lcmp, 1) := by decide +kernel
theorem dX1_hasSpan_19 : decode cX1_hasSpan 19 = .ok (.ifCond .gt 7, 3) := by decide +kernel
theorem dX1_hasSpan_22 : decode cX1_hasSpan 22 = .ok (.iconst 1, 1) := by decide +kernel
theorem dX1_hasSpan_23 : decode cX1_hasSpan 23 = .ok (.goto 4, 3) := by decide +kernel
theorem dX1_hasSpan_26 : decode cX1_hasSpan 26 = .ok (.iconst 0, 1) := by decide +kernel
theorem dX1_hasSpan_27 : decode cX1_hasSpan 27 = .ok (.ireturn, 1) := by decide +kernel
theorem dX1_faultOf_0 : decode cX1_faultOf 0 = .ok (.aload_n 0, 1) := by decide +kernel
theorem dX1_faultOf_1 : decode cX1_faultOf 1 = .ok (.invokevirtual 43, 3) := by decide +kernel
theorem dX1_faultOf_4 : decode cX1_faultOf 4 = .ok (.ifCond .eq 5, 3) := by decide +kernel
theorem dX1_faultOf_7 : decode cX1_faultOf 7 = .ok (.iconst 1, 1) := by decide +kernel
theorem dX1_faultOf_8 : decode cX1_faultOf 8 = .ok (.ireturn, 1) := by decide +kernel
theorem dX1_faultOf_9 : decode cX1_faultOf 9 = .ok (.iload_n 1, 1) := by decide +kernel
theorem dX1_faultOf_10 : decode cX1_faultOf 10 = .ok (.aload_n 0, 1) := by decide +kernel
theorem dX1_faultOf_11 : decode cX1_faultOf 11 = .ok (.getfield 18, 3) := by decide +kernel
theorem dX1_faultOf_14 : decode cX1_faultOf 14 = .ok (.if_icmp .eq 5, 3) := by decide +kernel
theorem dX1_faultOf_17 : decode cX1_faultOf 17 = .ok (.iconst 3, 1) := by decide +kernel
theorem dX1_faultOf_18 : decode cX1_faultOf 18 = .ok (.ireturn, 1) := by decide +kernel
theorem dX1_faultOf_19 : decode cX1_faultOf 19 = .ok (.aload_n 0, 1) := by decide +kernel
theorem dX1_faultOf_20 : decode cX1_faultOf 20 = .ok (.iload_n 2, 1) := by decide +kernel
theorem dX1_faultOf_21 : decode cX1_faultOf 21 = .ok (.invokevirtual 47, 3) := by decide +kernel
theorem dX1_faultOf_24 : decode cX1_faultOf 24 = .ok (.ifCond .eq 7, 3) := by decide +kernel
theorem dX1_faultOf_27 : decode cX1_faultOf 27 = .ok (.iconst 0, 1) := by decide +kernel
theorem dX1_faultOf_28 : decode cX1_faultOf 28 = .ok (.goto 4, 3) := by decide +kernel
theorem dX1_faultOf_31 : decode cX1_faultOf 31 = .ok (.iconst 2, 1) := by decide +kernel
theorem dX1_faultOf_32 : decode cX1_faultOf 32 = .ok (.ireturn, 1) := by decide +kernel
theorem dX1_store_0 : decode cX1_store 0 = .ok (.aload_n 0, 1) := by decide +kernel
theorem dX1_store_1 : decode cX1_store 1 = .ok (.iload_n 1, 1) := by decide +kernel
theorem dX1_store_2 : decode cX1_store 2 = .ok (.invokevirtual 47, 3) := by decide +kernel
theorem dX1_store_5 : decode cX1_store 5 = .ok (.ifCond .ne 4, 3) := by decide +kernel
theorem dX1_store_8 : decode cX1_store 8 = .ok (.return_, 1) := by decide +kernel
theorem dX1_store_9 : decode cX1_store 9 = .ok (.aload_n 0, 1) := by decide +kernel
theorem dX1_store_10 : decode cX1_store 10 = .ok (.getfield 18, 3) := by decide +kernel
theorem dX1_store_13 : decode cX1_store 13 = .ok (.ifCond .ne 14, 3) := by decide +kernel
theorem dX1_store_16 : decode cX1_store 16 = .ok (.aload_n 0, 1) := by decide +kernel
theorem dX1_store_17 : decode cX1_store 17 = .ok (.getfield 24, 3) := by decide +kernel
theorem dX1_store_20 : decode cX1_store 20 = .ok (.iload_n 1, 1) := by decide +kernel
theorem dX1_store_21 : decode cX1_store 21 = .ok (.iload_n 2, 1) := by decide +kernel
theorem dX1_store_22 : decode cX1_store 22 = .ok (.i2b, 1) := by decide +kernel
theorem dX1_store_23 : decode cX1_store 23 = .ok (.iastore, 1) := by decide +kernel
theorem dX1_store_24 : decode cX1_store 24 = .ok (.goto 29, 3) := by decide +kernel
theorem dX1_store_27 : decode cX1_store 27 = .ok (.aload_n 0, 1) := by decide +kernel
theorem dX1_store_28 : decode cX1_store 28 = .ok (.getfield 18, 3) := by decide +kernel
theorem dX1_store_31 : decode cX1_store 31 = .ok (.iconst 1, 1) := by decide +kernel
theorem dX1_store_32 : decode cX1_store 32 = .ok (.if_icmp .ne 14, 3) := by decide +kernel
theorem dX1_store_35 : decode cX1_store 35 = .ok (.aload_n 0, 1) := by decide +kernel
theorem dX1_store_36 : decode cX1_store 36 = .ok (.getfield 24, 3) := by decide +kernel
theorem dX1_store_39 : decode cX1_store 39 = .ok (.iload_n 1, 1) := by decide +kernel
theorem dX1_store_40 : decode cX1_store 40 = .ok (.iload_n 2, 1) := by decide +kernel
theorem dX1_store_41 : decode cX1_store 41 = .ok (.i2s, 1) := by decide +kernel
theorem dX1_store_42 : decode cX1_store 42 = .ok (.iastore, 1) := by decide +kernel
theorem dX1_store_43 : decode cX1_store 43 = .ok (.goto 10, 3) := by decide +kernel
theorem dX1_store_46 : decode cX1_store 46 = .ok (.aload_n 0, 1) := by decide +kernel
theorem dX1_store_47 : decode cX1_store 47 = .ok (.getfield 24, 3) := by decide +kernel
theorem dX1_store_50 : decode cX1_store 50 = .ok (.iload_n 1, 1) := by decide +kernel
theorem dX1_store_51 : decode cX1_store 51 = .ok (.iload_n 2, 1) := by decide +kernel
theorem dX1_store_52 : decode cX1_store 52 = .ok (.iastore, 1) := by decide +kernel
theorem dX1_store_53 : decode cX1_store 53 = .ok (.return_, 1) := by decide +kernel
theorem dX1_load_0 : decode cX1_load 0 = .ok (.aload_n 0, 1) := by decide +kernel
theorem dX1_load_1 : decode cX1_load 1 = .ok (.iload_n 1, 1) := by decide +kernel
theorem dX1_load_2 : decode cX1_load 2 = .ok (.invokevirtual 47, 3) := by decide +kernel
theorem dX1_load_5 : decode cX1_load 5 = .ok (.ifCond .eq 12, 3) := by decide +kernel
theorem dX1_load_8 : decode cX1_load 8 = .ok (.aload_n 0, 1) := by decide +kernel
theorem dX1_load_9 : decode cX1_load 9 = .ok (.getfield 24, 3) := by decide +kernel
theorem dX1_load_12 : decode cX1_load 12 = .ok (.iload_n 1, 1) := by decide +kernel
theorem dX1_load_13 : decode cX1_load 13 = .ok (.iaload, 1) := by decide +kernel
theorem dX1_load_14 : decode cX1_load 14 = .ok (.goto 4, 3) := by decide +kernel
theorem dX1_load_17 : decode cX1_load 17 = .ok (.iconst 0, 1) := by decide +kernel
theorem dX1_load_18 : decode cX1_load 18 = .ok (.ireturn, 1) := by decide +kernel
theorem dX1_addFlags_0 : decode cX1_addFlags 0 = .ok (.iload_n 1, 1) := by decide +kernel
theorem dX1_addFlags_1 : decode cX1_addFlags 1 = .ok (.iconst 0, 1) := by decide +kernel
theorem dX1_addFlags_2 : decode cX1_addFlags 2 = .ok (.invokestatic 51, 3) := by decide +kernel
theorem dX1_addFlags_5 : decode cX1_addFlags 5 = .ok (.istore 4, 2) := by decide +kernel
theorem dX1_addFlags_7 : decode cX1_addFlags 7 = .ok (.iload 4, 2) := by decide +kernel
theorem dX1_addFlags_9 : decode cX1_addFlags 9 = .ok (.iload_n 2, 1) := by decide +kernel
theorem dX1_addFlags_10 : decode cX1_addFlags 10 = .ok (.if_icmp .gt 27, 3) := by decide +kernel
theorem dX1_addFlags_13 : decode cX1_addFlags 13 = .ok (.iload 4, 2) := by decide +kernel
theorem dX1_addFlags_15 : decode cX1_addFlags 15 = .ok (.bipush 100, 2) := by decide +kernel
theorem dX1_addFlags_17 : decode cX1_addFlags 17 = .ok (.if_icmp .ge 20, 3) := by decide +kernel
theorem dX1_addFlags_20 : decode cX1_addFlags 20 = .ok (.aload_n 0, 1) := by decide +kernel
theorem dX1_addFlags_21 : decode cX1_addFlags 21 = .ok (.getfield 28, 3) := by decide +kernel
theorem dX1_addFlags_24 : decode cX1_addFlags 24 = .ok (.iload 4, 2) := by decide +kernel
theorem dX1_addFlags_26 : decode cX1_addFlags 26 = .ok (.dup2, 1) := by decide +kernel
theorem dX1_addFlags_27 : decode cX1_addFlags 27 = .ok (.iaload, 1) := by decide +kernel
theorem dX1_addFlags_28 : decode cX1_addFlags 28 = .ok (.iload_n 3, 1) := by decide +kernel
theorem dX1_addFlags_29 : decode cX1_addFlags 29 = .ok (.iadd, 1) := by decide +kernel
theorem dX1_addFlags_30 : decode cX1_addFlags 30 = .ok (.iastore, 1) := by decide +kernel
theorem dX1_addFlags_31 : decode cX1_addFlags 31 = .ok (.iinc 4 1, 3) := by decide +kernel
theorem dX1_addFlags_34 : decode cX1_addFlags 34 = .ok (.goto (-27), 3) := by decide +kernel
theorem dX1_addFlags_37 : decode cX1_addFlags 37 = .ok (.return_, 1) := by decide +kernel
theorem dX1_hasUsable_0 : decode cX1_hasUsable 0 = .ok (.aload_n 0, 1) := by decide +kernel
theorem dX1_hasUsable_1 : decode cX1_hasUsable 1 = .ok (.iload_n 1, 1) := by decide +kernel
theorem dX1_hasUsable_2 : decode cX1_hasUsable 2 = .ok (.invokevirtual 47, 3) := by decide +kernel
theorem dX1_hasUsable_5 : decode cX1_hasUsable 5 = .ok (.ifCond .eq 16, 3) := by decide +kernel
theorem dX1_hasUsable_8 : decode cX1_hasUsable 8 = .ok (.aload_n 0, 1) := by decide +kernel
theorem dX1_hasUsable_9 : decode cX1_hasUsable 9 = .ok (.getfield 28, 3) := by decide +kernel
theorem dX1_hasUsable_12 : decode cX1_hasUsable 12 = .ok (.iload_n 1, 1) := by decide +kernel
theorem dX1_hasUsable_13 : decode cX1_hasUsable 13 = .ok (.iaload, 1) := by decide +kernel
theorem dX1_hasUsable_14 : decode cX1_hasUsable 14 = .ok (.ifCond .ne 7, 3) := by decide +kernel
theorem dX1_hasUsable_17 : decode cX1_hasUsable 17 = .ok (.iconst 1, 1) := by decide +kernel
theorem dX1_hasUsable_18 : decode cX1_hasUsable 18 = .ok (.goto 4, 3) := by decide +kernel
theorem dX1_hasUsable_21 : decode cX1_hasUsable 21 = .ok (.iconst 0, 1) := by decide +kernel
theorem dX1_hasUsable_22 : decode cX1_hasUsable 22 = .ok (.ireturn, 1) := by decide +kernel
theorem dX1_sampleAt_0 : decode cX1_sampleAt 0 = .ok (.sipush (-500), 3) := by decide +kernel
theorem dX1_sampleAt_3 : decode cX1_sampleAt 3 = .ok (.sipush 500, 3) := by decide +kernel
theorem dX1_sampleAt_6 : decode cX1_sampleAt 6 = .ok (.aload_n 0, 1) := by decide +kernel
theorem dX1_sampleAt_7 : decode cX1_sampleAt 7 = .ok (.iload_n 1, 1) := by decide +kernel
theorem dX1_sampleAt_8 : decode cX1_sampleAt 8 = .ok (.invokevirtual 57, 3) := by decide +kernel
theorem dX1_sampleAt_11 : decode cX1_sampleAt 11 = .ok (.invokestatic 61, 3) := by decide +kernel
theorem dX1_sampleAt_14 : decode cX1_sampleAt 14 = .ok (.invokestatic 51, 3) := by decide +kernel
theorem dX1_sampleAt_17 : decode cX1_sampleAt 17 = .ok (.ireturn, 1) := by decide +kernel
theorem dX1_ticksWith_0 : decode cX1_ticksWith 0 = .ok (.iconst 0, 1) := by decide +kernel
theorem dX1_ticksWith_1 : decode cX1_ticksWith 1 = .ok (.istore_n 2, 1) := by decide +kernel
theorem dX1_ticksWith_2 : decode cX1_ticksWith 2 = .ok (.iconst 0, 1) := by decide +kernel
theorem dX1_ticksWith_3 : decode cX1_ticksWith 3 = .ok (.istore_n 3, 1) := by decide +kernel
theorem dX1_ticksWith_4 : decode cX1_ticksWith 4 = .ok (.iload_n 3, 1) := by decide +kernel
theorem dX1_ticksWith_5 : decode cX1_ticksWith 5 = .ok (.bipush 100, 2) := by decide +kernel
theorem dX1_ticksWith_7 : decode cX1_ticksWith 7 = .ok (.if_icmp .ge 38, 3) := by decide +kernel
theorem dX1_ticksWith_10 : decode cX1_ticksWith 10 = .ok (.aload_n 0, 1) := by decide +kernel
theorem dX1_ticksWith_11 : decode cX1_ticksWith 11 = .ok (.iload_n 3, 1) := by decide +kernel
theorem dX1_ticksWith_12 : decode cX1_ticksWith 12 = .ok (.aload_n 0, 1) := by decide +kernel
theorem dX1_ticksWith_13 : decode cX1_ticksWith 13 = .ok (.getfield 9, 3) := by decide +kernel
theorem dX1_ticksWith_16 : decode cX1_ticksWith 16 = .ok (.iadd, 1) := by decide +kernel
theorem dX1_ticksWith_17 : decode cX1_ticksWith 17 = .ok (.invokevirtual 64, 3) := by decide +kernel
theorem dX1_ticksWith_20 : decode cX1_ticksWith 20 = .ok (.ifCond .eq 19, 3) := by decide +kernel
theorem dX1_ticksWith_23 : decode cX1_ticksWith 23 = .ok (.aload_n 1, 1) := by decide +kernel
theorem dX1_ticksWith_24 : decode cX1_ticksWith 24 = .ok (.iload_n 3, 1) := by decide +kernel
theorem dX1_ticksWith_25 : decode cX1_ticksWith 25 = .ok (.aload_n 1, 1) := by decide +kernel
theorem dX1_ticksWith_26 : decode cX1_ticksWith 26 = .ok (.getfield 9, 3) := by decide +kernel
theorem dX1_ticksWith_29 : decode cX1_ticksWith 29 = .ok (.iadd, 1) := by decide +kernel
theorem dX1_ticksWith_30 : decode cX1_ticksWith 30 = .ok (.invokevirtual 64, 3) := by decide +kernel
theorem dX1_ticksWith_33 : decode cX1_ticksWith 33 = .ok (.ifCond .eq 6, 3) := by decide +kernel
theorem dX1_ticksWith_36 : decode cX1_ticksWith 36 = .ok (.iinc 2 1, 3) := by decide +kernel
theorem dX1_ticksWith_39 : decode cX1_ticksWith 39 = .ok (.iinc 3 1, 3) := by decide +kernel
theorem dX1_ticksWith_42 : decode cX1_ticksWith 42 = .ok (.goto (-38), 3) := by decide +kernel
theorem dX1_ticksWith_45 : decode cX1_ticksWith 45 = .ok (.iload_n 2, 1) := by decide +kernel
theorem dX1_ticksWith_46 : decode cX1_ticksWith 46 = .ok (.ireturn, 1) := by decide +kernel
theorem dX1_productWith_0 : decode cX1_productWith 0 = .ok (.lconst 0, 1) := by decide +kernel
theorem dX1_productWith_1 : decode cX1_productWith 1 = .ok (.lstore_n 3, 1) := by decide +kernel
theorem dX1_productWith_2 : decode cX1_productWith 2 = .ok (.iconst 0, 1) := by decide +kernel
theorem dX1_productWith_3 : decode cX1_productWith 3 = .ok (.istore 5, 2) := by decide +kernel
theorem dX1_productWith_5 : decode cX1_productWith 5 = .ok (.iload 5, 2) := by decide +kernel
theorem dX1_productWith_7 : decode cX1_productWith 7 = .ok (.bipush 100, 2) := by decide +kernel
theorem dX1_productWith_9 : decode cX1_productWith 9 = .ok (.if_icmp .ge 60, 3) := by decide +kernel
theorem dX1_productWith_12 : decode cX1_productWith 12 = .ok (.iload 5, 2) := by decide +kernel
theorem dX1_productWith_14 : decode cX1_productWith 14 = .ok (.aload_n 0, 1) := by decide +kernel
theorem dX1_productWith_15 : decode cX1_productWith 15 = .ok (.getfield 9, 3) := by decide +kernel
theorem dX1_productWith_18 : decode cX1_productWith 18 = .ok (.iadd, 1) := by decide +kernel
theorem dX1_productWith_19 : decode cX1_productWith 19 = .ok (.istore 6, 2) := by decide +kernel
theorem dX1_productWith_21 : decode cX1_productWith 21 = .ok (.iload 5, 2) := by decide +kernel
theorem dX1_productWith_23 : decode cX1_productWith 23 = .ok (.iload_n 2, 1) := by decide +kernel
theorem dX1_productWith_24 : decode cX1_productWith 24 = .ok (.iadd, 1) := by decide +kernel
theorem dX1_productWith_25 : decode cX1_productWith 25 = .ok (.istore 7, 2) := by decide +kernel
theorem dX1_productWith_27 : decode cX1_productWith 27 = .ok (.aload_n 0, 1) := by decide +kernel
theorem dX1_productWith_28 : decode cX1_productWith 28 = .ok (.iload 6, 2) := by decide +kernel
theorem dX1_productWith_30 : decode cX1_productWith 30 = .ok (.invokevirtual 64, 3) := by decide +kernel
theorem dX1_productWith_33 : decode cX1_productWith 33 = .ok (.ifCond .eq 30, 3) := by decide +kernel
theorem dX1_productWith_36 : decode cX1_productWith 36 = .ok (.aload_n 1, 1) := by decide +kernel
theorem dX1_productWith_37 : decode cX1_productWith 37 = .ok (.iload 7, 2) := by decide +kernel
theorem dX1_productWith_39 : decode cX1_productWith 39 = .ok (.invokevirtual 64, 3) := by decide +kernel
theorem dX1_productWith_42 : decode cX1_productWith 42 = .ok (.ifCond .eq 21, 3) := by decide +kernel
theorem dX1_productWith_45 : decode cX1_productWith 45 = .ok (.lload_n 3, 1) := by decide +kernel
theorem dX1_productWith_46 : decode cX1_productWith 46 = .ok (.aload_n 0, 1) := by decide +kernel
theorem dX1_productWith_47 : decode cX1_productWith 47 = .ok (.iload 6, 2) := by decide +kernel
theorem dX1_productWith_49 : decode cX1_productWith 49 = .ok (.invokevirtual 67, 3) := by decide +kernel
theorem dX1_productWith_52 : decode cX1_productWith 52 = .ok (.i2l, 1) := by decide +kernel
theorem dX1_productWith_53 : decode cX1_productWith 53 = .ok (.aload_n 1, 1) := by decide +kernel
theorem dX1_productWith_54 : decode cX1_productWith 54 = .ok (.iload 7, 2) := by decide +kernel
theorem dX1_productWith_56 : decode cX1_productWith 56 = .ok (.invokevirtual 67, 3) := by decide +kernel
theorem dX1_productWith_59 : decode cX1_productWith 59 = .ok (.i2l, 1) := by decide +kernel
theorem dX1_productWith_60 : decode cX1_productWith 60 = .ok (.lmul, 1) := by decide +kernel
theorem dX1_productWith_61 : decode cX1_productWith 61 = .ok (.ladd, 1) := by decide +kernel
theorem dX1_productWith_62 : decode cX1_productWith 62 = .ok (.lstore_n 3, 1) := by decide +kernel
theorem dX1_productWith_63 : decode cX1_productWith 63 = .ok (.iinc 5 1, 3) := by decide +kernel
theorem dX1_productWith_66 : decode cX1_productWith 66 = .ok (.goto (-61), 3) := by decide +kernel
theorem dX1_productWith_69 : decode cX1_productWith 69 = .ok (.lload_n 3, 1) := by decide +kernel
theorem dX1_productWith_70 : decode cX1_productWith 70 = .ok (.aload_n 0, 1) := by decide +kernel
theorem dX1_productWith_71 : decode cX1_productWith 71 = .ok (.getfield 15, 3) := by decide +kernel
theorem dX1_productWith_74 : decode cX1_productWith 74 = .ok (.i2l, 1) := by decide +kernel
theorem dX1_productWith_75 : decode cX1_productWith 75 = .ok (.lmul, 1) := by decide +kernel
theorem dX1_productWith_76 : decode cX1_productWith 76 = .ok (.aload_n 1, 1) := by decide +kernel
theorem dX1_productWith_77 : decode cX1_productWith 77 = .ok (.getfield 15, 3) := by decide +kernel
theorem dX1_productWith_80 : decode cX1_productWith 80 = .ok (.i2l, 1) := by decide +kernel
theorem dX1_productWith_81 : decode cX1_productWith 81 = .ok (.lmul, 1) := by decide +kernel
theorem dX1_productWith_82 : decode cX1_productWith 82 = .ok (.lreturn, 1) := by decide +kernel
theorem dX1_bestDelayOf_0 : decode cX1_bestDelayOf 0 = .ok (.iconst 0, 1) := by decide +kernel
theorem dX1_bestDelayOf_1 : decode cX1_bestDelayOf 1 = .ok (.istore_n 2, 1) := by decide +kernel
theorem dX1_bestDelayOf_2 : decode cX1_bestDelayOf 2 = .ok (.aload_n 0, 1) := by decide +kernel
theorem dX1_bestDelayOf_3 : decode cX1_bestDelayOf 3 = .ok (.aload_n 1, 1) := by decide +kernel
theorem dX1_bestDelayOf_4 : decode cX1_bestDelayOf 4 = .ok (.iconst 0, 1) := by decide +kernel
theorem dX1_bestDelayOf_5 : decode cX1_bestDelayOf 5 = .ok (.invokevirtual 70, 3) := by decide +kernel
theorem dX1_bestDelayOf_8 : decode cX1_bestDelayOf 8 = .ok (.lstore_n 3, 1) := by decide +kernel
theorem dX1_bestDelayOf_9 : decode cX1_bestDelayOf 9 = .ok (.iconst 1, 1) := by decide +kernel
theorem dX1_bestDelayOf_10 : decode cX1_bestDelayOf 10 = .ok (.istore 5, 2) := by decide +kernel
theorem dX1_bestDelayOf_12 : decode cX1_bestDelayOf 12 = .ok (.iload 5, 2) := by decide +kernel
theorem dX1_bestDelayOf_14 : decode cX1_bestDelayOf 14 = .ok (.bipush 30, 2) := by decide +kernel
theorem dX1_bestDelayOf_16 : decode cX1_bestDelayOf 16 = .ok (.if_icmp .gt 31, 3) := by decide +kernel
theorem dX1_bestDelayOf_19 : decode cX1_bestDelayOf 19 = .ok (.aload_n 0, 1) := by decide +kernel
theorem dX1_bestDelayOf_20 : decode cX1_bestDelayOf 20 = .ok (.aload_n 1, 1) := by decide +kernel
theorem dX1_bestDelayOf_21 : decode cX1_bestDelayOf 21 = .ok (.iload 5, 2) := by decide +kernel
theorem dX1_bestDelayOf_23 : decode cX1_bestDelayOf 23 = .ok (.invokevirtual 70, 3) := by decide +kernel
theorem dX1_bestDelayOf_26 : decode cX1_bestDelayOf 26 = .ok (.lstore 6, 2) := by decide +kernel
theorem dX1_bestDelayOf_28 : decode cX1_bestDelayOf 28 = .ok (.lload 6, 2) := by decide +kernel
theorem dX1_bestDelayOf_30 : decode cX1_bestDelayOf 30 = .ok (.lload_n 3, 1) := by decide +kernel
theorem dX1_bestDelayOf_31 : decode cX1_bestDelayOf 31 = .ok (.lcmp, 1) := by decide +kernel
theorem dX1_bestDelayOf_32 : decode cX1_bestDelayOf 32 = .ok (.ifCond .le 9, 3) := by decide +kernel
theorem dX1_bestDelayOf_35 : decode cX1_bestDelayOf 35 = .ok (.lload 6, 2) := by decide +kernel
theorem dX1_bestDelayOf_37 : decode cX1_bestDelayOf 37 = .ok (.lstore_n 3, 1) := by decide +kernel
theorem dX1_bestDelayOf_38 : decode cX1_bestDelayOf 38 = .ok (.iload 5, 2) := by decide +kernel
theorem dX1_bestDelayOf_40 : decode cX1_bestDelayOf 40 = .ok (.istore_n 2, 1) := by decide +kernel
theorem dX1_bestDelayOf_41 : decode cX1_bestDelayOf 41 = .ok (.iinc 5 1, 3) := by decide +kernel
theorem dX1_bestDelayOf_44 : decode cX1_bestDelayOf 44 = .ok (.goto (-32), 3) := by decide +kernel
theorem dX1_bestDelayOf_47 : decode cX1_bestDelayOf 47 = .ok (.iload_n 2, 1) := by decide +kernel
theorem dX1_bestDelayOf_48 : decode cX1_bestDelayOf 48 = .ok (.ireturn, 1) := by decide +kernel
theorem dX2_init_0 : decode cX2_init 0 = .ok (.aload_n 0, 1) := by decide +kernel
theorem dX2_init_1 : decode cX2_init 1 = .ok (.invokespecial 3, 3) := by decide +kernel
theorem dX2_init_4 : decode cX2_init 4 = .ok (.aload_n 0, 1) := by decide +kernel
theorem dX2_init_5 : decode cX2_init 5 = .ok (.bipush 10, 2) := by decide +kernel
theorem dX2_init_7 : decode cX2_init 7 = .ok (.newarray .int, 2) := by decide +kernel
theorem dX2_init_9 : decode cX2_init 9 = .ok (.putfield 11, 3) := by decide +kernel
theorem dX2_init_12 : decode cX2_init 12 = .ok (.aload_n 0, 1) := by decide +kernel
theorem dX2_init_13 : decode cX2_init 13 = .ok (.bipush 10, 2) := by decide +kernel
theorem dX2_init_15 : decode cX2_init 15 = .ok (.newarray .int, 2) := by decide +kernel
theorem dX2_init_17 : decode cX2_init 17 = .ok (.putfield 15, 3) := by decide +kernel
theorem dX2_init_20 : decode cX2_init 20 = .ok (.aload_n 0, 1) := by decide +kernel
theorem dX2_init_21 : decode cX2_init 21 = .ok (.bipush 10, 2) := by decide +kernel
theorem dX2_init_23 : decode cX2_init 23 = .ok (.newarray .int, 2) := by decide +kernel
theorem dX2_init_25 : decode cX2_init 25 = .ok (.putfield 18, 3) := by decide +kernel
theorem dX2_init_28 : decode cX2_init 28 = .ok (.return_, 1) := by decide +kernel
theorem dX2_add_0 : decode cX2_add 0 = .ok (.aload_n 0, 1) := by decide +kernel
theorem dX2_add_1 : decode cX2_add 1 = .ok (.getfield 21, 3) := by decide +kernel
theorem dX2_add_4 : decode cX2_add 4 = .ok (.bipush 10, 2) := by decide +kernel
theorem dX2_add_6 : decode cX2_add 6 = .ok (.if_icmp .lt 6, 3) := by decide +kernel
theorem dX2_add_9 : decode cX2_add 9 = .ok (.bipush (-3), 2) := by decide +kernel
theorem dX2_add_11 : decode cX2_add 11 = .ok (.ireturn, 1) := by decide +kernel
theorem dX2_add_12 : decode cX2_add 12 = .ok (.aload_n 0, 1) := by decide +kernel
theorem dX2_add_13 : decode cX2_add 13 = .ok (.getfield 11, 3) := by decide +kernel
theorem dX2_add_16 : decode cX2_add 16 = .ok (.aload_n 0, 1) := by decide +kernel
theorem dX2_add_17 : decode cX2_add 17 = .ok (.getfield 21, 3) := by decide +kernel
theorem dX2_add_20 : decode cX2_add 20 = .ok (.iload_n 1, 1) := by decide +kernel
theorem dX2_add_21 : decode cX2_add 21 = .ok (.iastore, 1) := by decide +kernel
theorem dX2_add_22 : decode cX2_add 22 = .ok (.aload_n 0, 1) := by decide +kernel
theorem dX2_add_23 : decode cX2_add 23 = .ok (.getfield 15, 3) := by decide +kernel
theorem dX2_add_26 : decode cX2_add 26 = .ok (.aload_n 0, 1) := by decide +kernel
theorem dX2_add_27 : decode cX2_add 27 = .ok (.getfield 21, 3) := by decide +kernel
theorem dX2_add_30 : decode cX2_add 30 = .ok (.iload_n 2, 1) := by decide +kernel
theorem dX2_add_31 : decode cX2_add 31 = .ok (.iastore, 1) := by decide +kernel
theorem dX2_add_32 : decode cX2_add 32 = .ok (.aload_n 0, 1) := by decide +kernel
theorem dX2_add_33 : decode cX2_add 33 = .ok (.getfield 18, 3) := by decide +kernel
theorem dX2_add_36 : decode cX2_add 36 = .ok (.aload_n 0, 1) := by decide +kernel
theorem dX2_add_37 : decode cX2_add 37 = .ok (.getfield 21, 3) := by decide +kernel
theorem dX2_add_40 : decode cX2_add 40 = .ok (.iload_n 3, 1) := by decide +kernel
theorem dX2_add_41 : decode cX2_add 41 = .ok (.iastore, 1) := by decide +kernel
theorem dX2_add_42 : decode cX2_add 42 = .ok (.aload_n 0, 1) := by decide +kernel
theorem dX2_add_43 : decode cX2_add 43 = .ok (.dup, 1) := by decide +kernel
theorem dX2_add_44 : decode cX2_add 44 = .ok (.getfield 21, 3) := by decide +kernel
theorem dX2_add_47 : decode cX2_add 47 = .ok (.iconst 1, 1) := by decide +kernel
theorem dX2_add_48 : decode cX2_add 48 = .ok (.iadd, 1) := by decide +kernel
theorem dX2_add_49 : decode cX2_add 49 = .ok (.putfield 21, 3) := by decide +kernel
theorem dX2_add_52 : decode cX2_add 52 = .ok (.aload_n 0, 1) := by decide +kernel
theorem dX2_add_53 : decode cX2_add 53 = .ok (.getfield 21, 3) := by decide +kernel
theorem dX2_add_56 : decode cX2_add 56 = .ok (.ireturn, 1) := by decide +kernel
theorem dX3_init_0 : decode cX3_init 0 = .ok (.aload_n 0, 1) := by decide +kernel
theorem dX3_init_1 : decode cX3_init 1 = .ok (.invokespecial 3, 3) := by decide +kernel
theorem dX3_init_4 : decode cX3_init 4 = .ok (.aload_n 0, 1) := by decide +kernel
theorem dX3_init_5 : decode cX3_init 5 = .ok (.bipush 60, 2) := by decide +kernel
theorem dX3_init_7 : decode cX3_init 7 = .ok (.newarray .int, 2) := by decide +kernel
theorem dX3_init_9 : decode cX3_init 9 = .ok (.putfield 11, 3) := by decide +kernel
theorem dX3_init_12 : decode cX3_init 12 = .ok (.aload_n 0, 1) := by decide +kernel
theorem dX3_init_13 : decode cX3_init 13 = .ok (.bipush 60, 2) := by decide +kernel
theorem dX3_init_15 : decode cX3_init 15 = .ok (.newarray .int, 2) := by decide +kernel
theorem dX3_init_17 : decode cX3_init 17 = .ok (.putfield 15, 3) := by decide +kernel
theorem dX3_init_20 : decode cX3_init 20 = .ok (.aload_n 0, 1) := by decide +kernel
theorem dX3_init_21 : decode cX3_init 21 = .ok (.bipush 60, 2) := by decide +kernel
theorem dX3_init_23 : decode cX3_init 23 = .ok (.newarray .int, 2) := by decide +kernel
theorem dX3_init_25 : decode cX3_init 25 = .ok (.putfield 18, 3) := by decide +kernel
theorem dX3_init_28 : decode cX3_init 28 = .ok (.aload_n 0, 1) := by decide +kernel
theorem dX3_init_29 : decode cX3_init 29 = .ok (.bipush 8, 2) := by decide +kernel
theorem dX3_init_31 : decode cX3_init 31 = .ok (.newarray .int, 2) := by decide +kernel
theorem dX3_init_33 : decode cX3_init 33 = .ok (.putfield 21, 3) := by decide +kernel
theorem dX3_init_36 : decode cX3_init 36 = .ok (.aload_n 0, 1) := by decide +kernel
theorem dX3_init_37 : decode cX3_init 37 = .ok (.bipush 8, 2) := by decide +kernel
theorem dX3_init_39 : decode cX3_init 39 = .ok (.newarray .int, 2) := by decide +kernel
theorem dX3_init_41 : decode cX3_init 41 = .ok (.putfield 24, 3) := by decide +kernel
theorem dX3_init_44 : decode cX3_init 44 = .ok (.aload_n 0, 1) := by decide +kernel
theorem dX3_init_45 : decode cX3_init 45 = .ok (.getfield 24, 3) := by decide +kernel
theorem dX3_init_48 : decode cX3_init 48 = .ok (.sipush 1440, 3) := by decide +kernel
theorem dX3_init_51 : decode cX3_init 51 = .ok (.invokestatic 27, 3) := by decide +kernel
theorem dX3_init_54 : decode cX3_init 54 = .ok (.return_, 1) := by decide +kernel
theorem dX3_fits_0 : decode cX3_fits 0 = .ok (.iload_n 1, 1) := by decide +kernel
theorem dX3_fits_1 : decode cX3_fits 1 = .ok (.tableswitch 173 0 5 #[39, 60, 81, 108, 138, 159], 39) := by decide +kernel
theorem dX3_fits_40 : decode cX3_fits 40 = .ok (.iload_n 2, 1) := by decide +kernel
theorem dX3_fits_41 : decode cX3_fits 41 = .ok (.iconst 0, 1) := by decide +kernel
theorem dX3_fits_42 : decode cX3_fits 42 = .ok (.sipush 600, 3) := by decide +kernel
theorem dX3_fits_45 : decode cX3_fits 45 = .ok (.invokestatic 33, 3) := by decide +kernel
theorem dX3_fits_48 : decode cX3_fits 48 = .ok (.ifCond .eq 11, 3) := by decide +kernel
theorem dX3_fits_51 : decode cX3_fits 51 = .ok (.iload_n 3, 1) := by decide +kernel
theorem dX3_fits_52 : decode cX3_fits 52 = .ok (.ifCond .ne 7, 3) := by decide +kernel
theorem dX3_fits_55 : decode cX3_fits 55 = .ok (.iconst 1, 1) := by decide +kernel
theorem dX3_fits_56 : decode cX3_fits 56 = .ok (.goto 4, 3) := by decide +kernel
theorem dX3_fits_59 : decode cX3_fits 59 = .ok (.iconst 0, 1) := by decide +kernel
theorem dX3_fits_60 : decode cX3_fits 60 = .ok (.ireturn, 1) := by decide +kernel
theorem dX3_fits_61 : decode cX3_fits 61 = .ok (.iload_n 2, 1) := by decide +kernel
theorem dX3_fits_62 : decode cX3_fits 62 = .ok (.iconst 0, 1) := by decide +kernel
theorem dX3_fits_63 : decode cX3_fits 63 = .ok (.sipush 359, 3) := by decide +kernel
theorem dX3_fits_66 : decode cX3_fits 66 = .ok (.invokestatic 33, 3) := by decide +kernel
theorem dX3_fits_69 : decode cX3_fits 69 = .ok (.ifCond .eq 11, 3) := by decide +kernel
theorem dX3_fits_72 : decode cX3_fits 72 = .ok (.iload_n 3, 1) := by decide +kernel
theorem dX3_fits_73 : decode cX3_fits 73 = .ok (.ifCond .ne 7, 3) := by decide +kernel
theorem dX3_fits_76 : decode cX3_fits 76 = .ok (.iconst 1, 1) := by decide +kernel
theorem dX3_fits_77 : decode cX3_fits 77 = .ok (.goto 4, 3) := by decide +kernel
theorem dX3_fits_80 : decode cX3_fits 80 = .ok (.iconst 0, 1) := by decide +kernel
theorem dX3_fits_81 : decode cX3_fits 81 = .ok (.ireturn, 1) := by decide +kernel
theorem dX3_fits_82 : decode cX3_fits 82 = .ok (.iload_n 2, 1) := by decide +kernel
theorem dX3_fits_83 : decode cX3_fits 83 = .ok (.iconst 1, 1) := by decide +kernel
theorem dX3_fits_84 : decode cX3_fits 84 = .ok (.sipush 600, 3) := by decide +kernel
theorem dX3_fits_87 : decode cX3_fits 87 = .ok (.invokestatic 33, 3) := by decide +kernel
theorem dX3_fits_90 : decode cX3_fits 90 = .ok (.ifCond .eq 17, 3) := by decide +kernel
theorem dX3_fits_93 : decode cX3_fits 93 = .ok (.iload_n 3, 1) := by decide +kernel
theorem dX3_fits_94 : decode cX3_fits 94 = .ok (.iconst 0, 1) := by decide +kernel
theorem dX3_fits_95 : decode cX3_fits 95 = .ok (.bipush 7, 2) := by decide +kernel
theorem dX3_fits_97 : decode cX3_fits 97 = .ok (.invokestatic 33, 3) := by decide +kernel
theorem dX3_fits_100 : decode cX3_fits 100 = .ok (.ifCond .eq 7, 3) := by decide +kernel
theorem dX3_fits_103 : decode cX3_fits 103 = .ok (.iconst 1, 1) := by decide +kernel
theorem dX3_fits_104 : decode cX3_fits 104 = .ok (.goto 4, 3) := by decide +kernel
theorem dX3_fits_107 : decode cX3_fits 107 = .ok (.iconst 0, 1) := by decide +kernel
theorem dX3_fits_108 : decode cX3_fits 108 = .ok (.ireturn, 1) := by decide +kernel
theorem dX3_fits_109 : decode cX3_fits 109 = .ok (.iload_n 2, 1) := by decide +kernel
theorem dX3_fits_110 : decode cX3_fits 110 = .ok (.iconst 0, 1) := by decide +kernel
theorem dX3_fits_111 : decode cX3_fits 111 = .ok (.aload_n 0, 1) := by decide +kernel
theorem dX3_fits_112 : decode cX3_fits 112 = .ok (.getfield 37, 3) := by decide +kernel
theorem dX3_fits_115 : decode cX3_fits 115 = .ok (.iconst 1, 1) := by decide +kernel
theorem dX3_fits_116 : decode cX3_fits 116 = .ok (.isub, 1) := by decide +kernel
theorem dX3_fits_117 : decode cX3_fits 117 = .ok (.invokestatic 33, 3) := by decide +kernel
theorem dX3_fits_120 : decode cX3_fits 120 = .ok (.ifCond .eq 17, 3) := by decide +kernel
theorem dX3_fits_123 : decode cX3_fits 123 = .ok (.iload_n 3, 1) := by decide +kernel
theorem dX3_fits_124 : decode cX3_fits 124 = .ok (.iconst 1, 1) := by decide +kernel
theorem dX3_fits_125 : decode cX3_fits 125 = .ok (.bipush 50, 2) := by decide +kernel
theorem dX3_fits_127 : decode cX3_fits 127 = .ok (.invokestatic 33, 3) := by decide +kernel
theorem dX3_fits_130 : decode cX3_fits 130 = .ok (.ifCond .eq 7, 3) := by decide +kernel
theorem dX3_fits_133 : decode cX3_fits 133 = .ok (.iconst 1, 1) := by decide +kernel
theorem dX3_fits_134 : decode cX3_fits 134 = .ok (.goto 4, 3) := by decide +kernel
theorem dX3_fits_137 : decode cX3_fits 137 = .ok (.iconst 0, 1) := by decide +kernel
theorem dX3_fits_138 : decode cX3_fits 138 = .ok (.ireturn, 1) := by decide +kernel
theorem dX3_fits_139 : decode cX3_fits 139 = .ok (.iload_n 2, 1) := by decide +kernel
theorem dX3_fits_140 : decode cX3_fits 140 = .ok (.iconst 1, 1) := by decide +kernel
theorem dX3_fits_141 : decode cX3_fits 141 = .ok (.sipush 600, 3) := by decide +kernel
theorem dX3_fits_144 : decode cX3_fits 144 = .ok (.invokestatic 33, 3) := by decide +kernel
theorem dX3_fits_147 : decode cX3_fits 147 = .ok (.ifCond .eq 11, 3) := by decide +kernel
theorem dX3_fits_150 : decode cX3_fits 150 = .ok (.iload_n 3, 1) := by decide +kernel
theorem dX3_fits_151 : decode cX3_fits 151 = .ok (.ifCond .ne 7, 3) := by decide +kernel
theorem dX3_fits_154 : decode cX3_fits 154 = .ok (.iconst 1, 1) := by decide +kernel
theorem dX3_fits_155 : decode cX3_fits 155 = .ok (.goto 4, 3) := by decide +kernel
theorem dX3_fits_158 : decode cX3_fits 158 = .ok (.iconst 0, 1) := by decide +kernel
theorem dX3_fits_159 : decode cX3_fits 159 = .ok (.ireturn, 1) := by decide +kernel
theorem dX3_fits_160 : decode cX3_fits 160 = .ok (.iload_n 2, 1) := by decide +kernel
theorem dX3_fits_161 : decode cX3_fits 161 = .ok (.ifCond .ne 11, 3) := by decide +kernel
theorem dX3_fits_164 : decode cX3_fits 164 = .ok (.iload_n 3, 1) := by decide +kernel
theorem dX3_fits_165 : decode cX3_fits 165 = .ok (.ifCond .ne 7, 3) := by decide +kernel
theorem dX3_fits_168 : decode cX3_fits 168 = .ok (.iconst 1, 1) := by decide +kernel
theorem dX3_fits_169 : decode cX3_fits 169 = .ok (.goto 4, 3) := by decide +kernel
theorem dX3_fits_172 : decode cX3_fits 172 = .ok (.iconst 0, 1) := by decide +kernel
theorem dX3_fits_173 : decode cX3_fits 173 = .ok (.ireturn, 1) := by decide +kernel
theorem dX3_fits_174 : decode cX3_fits 174 = .ok (.iconst 0, 1) := by decide +kernel
theorem dX3_fits_175 : decode cX3_fits 175 = .ok (.ireturn, 1) := by decide +kernel
theorem dX3_add_0 : decode cX3_add 0 = .ok (.aload_n 0, 1) := by decide +kernel
theorem dX3_add_1 : decode cX3_add 1 = .ok (.getfield 37, 3) := by decide +kernel
theorem dX3_add_4 : decode cX3_add 4 = .ok (.bipush 60, 2) := by decide +kernel
theorem dX3_add_6 : decode cX3_add 6 = .ok (.if_icmp .lt 6, 3) := by decide +kernel
theorem dX3_add_9 : decode cX3_add 9 = .ok (.bipush (-3), 2) := by decide +kernel
theorem dX3_add_11 : decode cX3_add 11 = .ok (.ireturn, 1) := by decide +kernel
theorem dX3_add_12 : decode cX3_add 12 = .ok (.aload_n 0, 1) := by decide +kernel
theorem dX3_add_13 : decode cX3_add 13 = .ok (.getfield 11, 3) := by decide +kernel
theorem dX3_add_16 : decode cX3_add 16 = .ok (.aload_n 0, 1) := by decide +kernel
theorem dX3_add_17 : decode cX3_add 17 = .ok (.getfield 37, 3) := by decide +kernel
theorem dX3_add_20 : decode cX3_add 20 = .ok (.iload_n 1, 1) := by decide +kernel
theorem dX3_add_21 : decode cX3_add 21 = .ok (.iastore, 1) := by decide +kernel
theorem dX3_add_22 : decode cX3_add 22 = .ok (.aload_n 0, 1) := by decide +kernel
theorem dX3_add_23 : decode cX3_add 23 = .ok (.getfield 15, 3) := by decide +kernel
theorem dX3_add_26 : decode cX3_add 26 = .ok (.aload_n 0, 1) := by decide +kernel
theorem dX3_add_27 : decode cX3_add 27 = .ok (.getfield 37, 3) := by decide +kernel
theorem dX3_add_30 : decode cX3_add 30 = .ok (.iload_n 2, 1) := by decide +kernel
theorem dX3_add_31 : decode cX3_add 31 = .ok (.iastore, 1) := by decide +kernel
theorem dX3_add_32 : decode cX3_add 32 = .ok (.aload_n 0, 1) := by decide +kernel
theorem dX3_add_33 : decode cX3_add 33 = .ok (.getfield 18, 3) := by decide +kernel
theorem dX3_add_36 : decode cX3_add 36 = .ok (.aload_n 0, 1) := by decide +kernel
theorem dX3_add_37 : decode cX3_add 37 = .ok (.getfield 37, 3) := by decide +kernel
theorem dX3_add_40 : decode cX3_add 40 = .ok (.iload_n 3, 1) := by decide +kernel
theorem dX3_add_41 : decode cX3_add 41 = .ok (.iastore, 1) := by decide +kernel
theorem dX3_add_42 : decode cX3_add 42 = .ok (.aload_n 0, 1) := by decide +kernel
theorem dX3_add_43 : decode cX3_add 43 = .ok (.dup, 1) := by decide +kernel
theorem dX3_add_44 : decode cX3_add 44 = .ok (.getfield 37, 3) := by decide +kernel
theorem dX3_add_47 : decode cX3_add 47 = .ok (.iconst 1, 1) := by decide +kernel
theorem dX3_add_48 : decode cX3_add 48 = .ok (.iadd, 1) := by decide +kernel
theorem dX3_add_49 : decode cX3_add 49 = .ok (.putfield 37, 3) := by decide +kernel
theorem dX3_add_52 : decode cX3_add 52 = .ok (.aload_n 0, 1) := by decide +kernel
theorem dX3_add_53 : decode cX3_add 53 = .ok (.getfield 37, 3) := by decide +kernel
theorem dX3_add_56 : decode cX3_add 56 = .ok (.iconst 1, 1) := by decide +kernel
theorem dX3_add_57 : decode cX3_add 57 = .ok (.isub, 1) := by decide +kernel
theorem dX3_add_58 : decode cX3_add 58 = .ok (.ireturn, 1) := by decide +kernel
theorem dX3_isUp_0 : decode cX3_isUp 0 = .ok (.iload_n 1, 1) := by decide +kernel
theorem dX3_isUp_1 : decode cX3_isUp 1 = .ok (.ifCond .lt 9, 3) := by decide +kernel
theorem dX3_isUp_4 : decode cX3_isUp 4 = .ok (.iload_n 1, 1) := by decide +kernel
theorem dX3_isUp_5 : decode cX3_isUp 5 = .ok (.bipush 8, 2) := by decide +kernel
theorem dX3_isUp_7 : decode cX3_isUp 7 = .ok (.if_icmp .lt 5, 3) := by decide +kernel
theorem dX3_isUp_10 : decode cX3_isUp 10 = .ok (.iconst 0, 1) := by decide +kernel
theorem dX3_isUp_11 : decode cX3_isUp 11 = .ok (.ireturn, 1) := by decide +kernel
theorem dX3_isUp_12 : decode cX3_isUp 12 = .ok (.aload_n 0, 1) := by decide +kernel
theorem dX3_isUp_13 : decode cX3_isUp 13 = .ok (.getfield 21, 3) := by decide +kernel
theorem dX3_isUp_16 : decode cX3_isUp 16 = .ok (.iload_n 1, 1) := by decide +kernel
theorem dX3_isUp_17 : decode cX3_isUp 17 = .ok (.iaload, 1) := by decide +kernel
theorem dX3_isUp_18 : decode cX3_isUp 18 = .ok (.ifCond .ne 17, 3) := by decide +kernel
theorem dX3_isUp_21 : decode cX3_isUp 21 = .ok (.aload_n 0, 1) := by decide +kernel
theorem dX3_isUp_22 : decode cX3_isUp 22 = .ok (.getfield 24, 3) := by decide +kernel
theorem dX3_isUp_25 : decode cX3_isUp 25 = .ok (.iload_n 1, 1) := by decide +kernel
theorem dX3_isUp_26 : decode cX3_isUp 26 = .ok (.iaload, 1) := by decide +kernel
theorem dX3_isUp_27 : decode cX3_isUp 27 = .ok (.sipush 1440, 3) := by decide +kernel
theorem dX3_isUp_30 : decode cX3_isUp 30 = .ok (.if_icmp .ne 5, 3) := by decide +kernel
theorem dX3_isUp_33 : decode cX3_isUp 33 = .ok (.iconst 1, 1) := by decide +kernel
theorem dX3_isUp_34 : decode cX3_isUp 34 = .ok (.ireturn, 1) := by decide +kernel
theorem dX3_isUp_35 : decode cX3_isUp 35 = .ok (.iload_n 2, 1) := by decide +kernel
theorem dX3_isUp_36 : decode cX3_isUp 36 = .ok (.sipush 1440, 3) := by decide +kernel
theorem dX3_isUp_39 : decode cX3_isUp 39 = .ok (.irem, 1) := by decide +kernel
theorem dX3_isUp_40 : decode cX3_isUp 40 = .ok (.istore 4, 2) := by decide +kernel
theorem dX3_isUp_42 : decode cX3_isUp 42 = .ok (.iload 4, 2) := by decide +kernel
theorem dX3_isUp_44 : decode cX3_isUp 44 = .ok (.aload_n 0, 1) := by decide +kernel
theorem dX3_isUp_45 : decode cX3_isUp 45 = .ok (.getfield 21, 3) := by decide +kernel
theorem dX3_isUp_48 : decode cX3_isUp 48 = .ok (.iload_n 1, 1) := by decide +kernel
theorem dX3_isUp_49 : decode cX3_isUp 49 = .ok (.iaload, 1) := by decide +kernel
theorem dX3_isUp_50 : decode cX3_isUp 50 = .ok (.if_icmp .lt 20, 3) := by decide +kernel
theorem dX3_isUp_53 : decode cX3_isUp 53 = .ok (.iload 4, 2) := by decide +kernel
theorem dX3_isUp_55 : decode cX3_isUp 55 = .ok (.iload_n 3, 1) := by decide +kernel
theorem dX3_isUp_56 : decode cX3_isUp 56 = .ok (.iadd, 1) := by decide +kernel
theorem dX3_isUp_57 : decode cX3_isUp 57 = .ok (.aload_n 0, 1) := by decide +kernel
theorem dX3_isUp_58 : decode cX3_isUp 58 = .ok (.getfield 24, 3) := by decide +kernel
theorem dX3_isUp_61 : decode cX3_isUp 61 = .ok (.iload_n 1, 1) := by decide +kernel
theorem dX3_isUp_62 : decode cX3_isUp 62 = .ok (.iaload, 1) := by decide +kernel
theorem dX3_isUp_63 : decode cX3_isUp 63 = .ok (.if_icmp .gt 7, 3) := by decide +kernel
theorem dX3_isUp_66 : decode cX3_isUp 66 = .ok (.iconst 1, 1) := by decide +kernel
theorem dX3_isUp_67 : decode cX3_isUp 67 = .ok (.goto 4, 3) := by decide +kernel
theorem dX3_isUp_70 : decode cX3_isUp 70 = .ok (.iconst 0, 1) := by decide +kernel
theorem dX3_isUp_71 : decode cX3_isUp 71 = .ok (.ireturn, 1) := by decide +kernel
theorem dX4_init_0 : decode cX4_init 0 = .ok (.aload_n 0, 1) := by decide +kernel
theorem dX4_init_1 : decode cX4_init 1 = .ok (.invokespecial 3, 3) := by decide +kernel
theorem dX4_init_4 : decode cX4_init 4 = .ok (.aload_n 0, 1) := by decide +kernel
theorem dX4_init_5 : decode cX4_init 5 = .ok (.bipush 6, 2) := by decide +kernel
theorem dX4_init_7 : decode cX4_init 7 = .ok (.anewarray 11, 3) := by decide +kernel
theorem dX4_init_10 : decode cX4_init 10 = .ok (.putfield 13, 3) := by decide +kernel
theorem dX4_init_13 : decode cX4_init 13 = .ok (.aload_n 0, 1) := by decide +kernel
theorem dX4_init_14 : decode cX4_init 14 = .ok (.bipush 40, 2) := by decide +kernel
theorem dX4_init_16 : decode cX4_init 16 = .ok (.anewarray 11, 3) := by decide +kernel
theorem dX4_init_19 : decode cX4_init 19 = .ok (.putfield 17, 3) := by decide +kernel
theorem dX4_init_22 : decode cX4_init 22 = .ok (.aload_n 0, 1) := by decide +kernel
theorem dX4_init_23 : decode cX4_init 23 = .ok (.bipush 40, 2) := by decide +kernel
theorem dX4_init_25 : decode cX4_init 25 = .ok (.newarray .int, 2) := by decide +kernel
theorem dX4_init_27 : decode cX4_init 27 = .ok (.putfield 20, 3) := by decide +kernel
theorem dX4_init_30 : decode cX4_init 30 = .ok (.aload_n 0, 1) := by decide +kernel
theorem dX4_init_31 : decode cX4_init 31 = .ok (.bipush 40, 2) := by decide +kernel
theorem dX4_init_33 : decode cX4_init 33 = .ok (.newarray .int, 2) := by decide +kernel
theorem dX4_init_35 : decode cX4_init 35 = .ok (.putfield 24, 3) := by decide +kernel
theorem dX4_init_38 : decode cX4_init 38 = .ok (.return_, 1) := by decide +kernel
theorem dX4_find_0 : decode cX4_find 0 = .ok (.iload_n 1, 1) := by decide +kernel
theorem dX4_find_1 : decode cX4_find 1 = .ok (.ifCond .lt 20, 3) := by decide +kernel
theorem dX4_find_4 : decode cX4_find 4 = .ok (.iload_n 1, 1) := by decide +kernel
theorem dX4_find_5 : decode cX4_find 5 = .ok (.aload_n 0, 1) := by decide +kernel
theorem dX4_find_6 : decode cX4_find 6 = .ok (.getfield 27, 3) := by decide +kernel
theorem dX4_find_9 : decode cX4_find 9 = .ok (.if_icmp .ge 12, 3) := by decide +kernel
theorem dX4_find_12 : decode cX4_find 12 = .ok (.aload_n 0, 1) := by decide +kernel
theorem dX4_find_13 : decode cX4_find 13 = .ok (.getfield 13, 3) := by decide +kernel
theorem dX4_find_16 : decode cX4_find 16 = .ok (.iload_n 1, 1) := by decide +kernel
theorem dX4_find_17 : decode cX4_find 17 = .ok (.aaload, 1) := by decide +kernel
theorem dX4_find_18 : decode cX4_find 18 = .ok (.goto 4, 3) := by decide +kernel
theorem dX4_find_21 : decode cX4_find 21 = .ok (.aconst_null, 1) := by decide +kernel
theorem dX4_find_22 : decode cX4_find 22 = .ok (.areturn, 1) := by decide +kernel
theorem dX4_addDish_0 : decode cX4_addDish 0 = .ok (.aload_n 0, 1) := by decide +kernel
theorem dX4_addDish_1 : decode cX4_addDish 1 = .ok (.getfield 27, 3) := by decide +kernel
theorem dX4_addDish_4 : decode cX4_addDish 4 = .ok (.bipush 6, 2) := by decide +kernel
theorem dX4_addDish_6 : decode cX4_addDish 6 = .ok (.if_icmp .lt 6, 3) := by decide +kernel
theorem dX4_addDish_9 : decode cX4_addDish 9 = .ok (.bipush (-3), 2) := by decide +kernel
theorem dX4_addDish_11 : decode cX4_addDish 11 = .ok (.ireturn, 1) := by decide +kernel
theorem dX4_addDish_12 : decode cX4_addDish 12 = .ok (.aload_n 0, 1) := by decide +kernel
theorem dX4_addDish_13 : decode cX4_addDish 13 = .ok (.getfield 13, 3) := by decide +kernel
theorem dX4_addDish_16 : decode cX4_addDish 16 = .ok (.aload_n 0, 1) := by decide +kernel
theorem dX4_addDish_17 : decode cX4_addDish 17 = .ok (.getfield 27, 3) := by decide +kernel
theorem dX4_addDish_20 : decode cX4_addDish 20 = .ok (.new 11, 3) := by decide +kernel
theorem dX4_addDish_23 : decode cX4_addDish 23 = .ok (.dup, 1) := by decide +kernel
theorem dX4_addDish_24 : decode cX4_addDish 24 = .ok (.iload_n 1, 1) := by decide +kernel
theorem dX4_addDish_25 : decode cX4_addDish 25 = .ok (.iload_n 2, 1) := by decide +kernel
theorem dX4_addDish_26 : decode cX4_addDish 26 = .ok (.invokespecial 31, 3) := by decide +kernel
theorem dX4_addDish_29 : decode cX4_addDish 29 = .ok (.aastore, 1) := by decide +kernel
theorem dX4_addDish_30 : decode cX4_addDish 30 = .ok (.aload_n 0, 1) := by decide +kernel
theorem dX4_addDish_31 : decode cX4_addDish 31 = .ok (.dup, 1) := by decide +kernel
theorem dX4_addDish_32 : decode cX4_addDish 32 = .ok (.getfield 27, 3) := by decide +kernel
theorem dX4_addDish_35 : decode cX4_addDish 35 = .ok (.iconst 1, 1) := by decide +kernel
theorem dX4_addDish_36 : decode cX4_addDish 36 = .ok (.iadd, 1) := by decide +kernel
theorem dX4_addDish_37 : decode cX4_addDish 37 = .ok (.putfield 27, 3) := by decide +kernel
theorem dX4_addDish_40 : decode cX4_addDish 40 = .ok (.aload_n 0, 1) := by decide +kernel
theorem dX4_addDish_41 : decode cX4_addDish 41 = .ok (.getfield 27, 3) := by decide +kernel
theorem dX4_addDish_44 : decode cX4_addDish 44 = .ok (.iconst 1, 1) := by decide +kernel
theorem dX4_addDish_45 : decode cX4_addDish 45 = .ok (.isub, 1) := by decide +kernel
theorem dX4_addDish_46 : decode cX4_addDish 46 = .ok (.ireturn, 1) := by decide +kernel
theorem dX4_addFlag_0 : decode cX4_addFlag 0 = .ok (.aload_n 0, 1) := by decide +kernel
theorem dX4_addFlag_1 : decode cX4_addFlag 1 = .ok (.getfield 34, 3) := by decide +kernel
theorem dX4_addFlag_4 : decode cX4_addFlag 4 = .ok (.bipush 40, 2) := by decide +kernel
theorem dX4_addFlag_6 : decode cX4_addFlag 6 = .ok (.if_icmp .lt 6, 3) := by decide +kernel
theorem dX4_addFlag_9 : decode cX4_addFlag 9 = .ok (.bipush (-3), 2) := by decide +kernel
theorem dX4_addFlag_11 : decode cX4_addFlag 11 = .ok (.ireturn, 1) := by decide +kernel
theorem dX4_addFlag_12 : decode cX4_addFlag 12 = .ok (.aload_n 0, 1) := by decide +kernel
theorem dX4_addFlag_13 : decode cX4_addFlag 13 = .ok (.getfield 17, 3) := by decide +kernel
theorem dX4_addFlag_16 : decode cX4_addFlag 16 = .ok (.aload_n 0, 1) := by decide +kernel
theorem dX4_addFlag_17 : decode cX4_addFlag 17 = .ok (.getfield 34, 3) := by decide +kernel
theorem dX4_addFlag_20 : decode cX4_addFlag 20 = .ok (.aload_n 1, 1) := by decide +kernel
theorem dX4_addFlag_21 : decode cX4_addFlag 21 = .ok (.aastore, 1) := by decide +kernel
theorem dX4_addFlag_22 : decode cX4_addFlag 22 = .ok (.aload_n 0, 1) := by decide +kernel
theorem dX4_addFlag_23 : decode cX4_addFlag 23 = .ok (.getfield 20, 3) := by decide +kernel
theorem dX4_addFlag_26 : decode cX4_addFlag 26 = .ok (.aload_n 0, 1) := by decide +kernel
theorem dX4_addFlag_27 : decode cX4_addFlag 27 = .ok (.getfield 34, 3) := by decide +kernel
theorem dX4_addFlag_30 : decode cX4_addFlag 30 = .ok (.iload_n 2, 1) := by decide +kernel
theorem dX4_addFlag_31 : decode cX4_addFlag 31 = .ok (.iastore, 1) := by decide +kernel
theorem dX4_addFlag_32 : decode cX4_addFlag 32 = .ok (.aload_n 0, 1) := by decide +kernel
theorem dX4_addFlag_33 : decode cX4_addFlag 33 = .ok (.getfield 24, 3) := by decide +kernel
theorem dX4_addFlag_36 : decode cX4_addFlag 36 = .ok (.aload_n 0, 1) := by decide +kernel
theorem dX4_addFlag_37 : decode cX4_addFlag 37 = .ok (.getfield 34, 3) := by decide +kernel
theorem dX4_addFlag_40 : decode cX4_addFlag 40 = .ok (.iload_n 3, 1) := by decide +kernel
theorem dX4_addFlag_41 : decode cX4_addFlag 41 = .ok (.iastore, 1) := by decide +kernel
theorem dX4_addFlag_42 : decode cX4_addFlag 42 = .ok (.aload_n 0, 1) := by decide +kernel
theorem dX4_addFlag_43 : decode cX4_addFlag 43 = .ok (.dup, 1) := by decide +kernel
theorem dX4_addFlag_44 : decode cX4_addFlag 44 = .ok (.getfield 34, 3) := by decide +kernel
theorem dX4_addFlag_47 : decode cX4_addFlag 47 = .ok (.iconst 1, 1) := by decide +kernel
theorem dX4_addFlag_48 : decode cX4_addFlag 48 = .ok (.iadd, 1) := by decide +kernel
theorem dX4_addFlag_49 : decode cX4_addFlag 49 = .ok (.putfield 34, 3) := by decide +kernel
theorem dX4_addFlag_52 : decode cX4_addFlag 52 = .ok (.aload_n 1, 1) := by decide +kernel
theorem dX4_addFlag_53 : decode cX4_addFlag 53 = .ok (.iload_n 2, 1) := by decide +kernel
theorem dX4_addFlag_54 : decode cX4_addFlag 54 = .ok (.iload_n 3, 1) := by decide +kernel
theorem dX4_addFlag_55 : decode cX4_addFlag 55 = .ok (.iconst 1, 1) := by decide +kernel
theorem dX4_addFlag_56 : decode cX4_addFlag 56 = .ok (.invokevirtual 37, 3) := by decide +kernel
theorem dX4_addFlag_59 : decode cX4_addFlag 59 = .ok (.aload_n 0, 1) := by decide +kernel
theorem dX4_addFlag_60 : decode cX4_addFlag 60 = .ok (.getfield 34, 3) := by decide +kernel
theorem dX4_addFlag_63 : decode cX4_addFlag 63 = .ok (.ireturn, 1) := by decide +kernel
theorem dX4_removeFlag_0 : decode cX4_removeFlag 0 = .ok (.aload_n 0, 1) := by decide +kernel
theorem dX4_removeFlag_1 : decode cX4_removeFlag 1 = .ok (.getfield 34, 3) := by decide +kernel
theorem dX4_removeFlag_4 : decode cX4_removeFlag 4 = .ok (.ifCond .gt 6, 3) := by decide +kernel
theorem dX4_removeFlag_7 : decode cX4_removeFlag 7 = .ok (.bipush (-4), 2) := by decide +kernel
theorem dX4_removeFlag_9 : decode cX4_removeFlag 9 = .ok (.ireturn, 1) := by decide +kernel
theorem dX4_removeFlag_10 : decode cX4_removeFlag 10 = .ok (.aload_n 0, 1) := by decide +kernel
theorem dX4_removeFlag_11 : decode cX4_removeFlag 11 = .ok (.dup, 1) := by decide +kernel
theorem dX4_removeFlag_12 : decode cX4_removeFlag 12 = .ok (.getfield 34, 3) := by decide +kernel
theorem dX4_removeFlag_15 : decode cX4_removeFlag 15 = .ok (.iconst 1, 1) := by decide +kernel
theorem dX4_removeFlag_16 : decode cX4_removeFlag 16 = .ok (.isub, 1) := by decide +kernel
theorem dX4_removeFlag_17 : decode cX4_removeFlag 17 = .ok (.putfield 34, 3) := by decide +kernel
theorem dX4_removeFlag_20 : decode cX4_removeFlag 20 = .ok (.aload_n 0, 1) := by decide +kernel
theorem dX4_removeFlag_21 : decode cX4_removeFlag 21 = .ok (.getfield 17, 3) := by decide +kernel
theorem dX4_removeFlag_24 : decode cX4_removeFlag 24 = .ok (.aload_n 0, 1) := by decide +kernel
theorem dX4_removeFlag_25 : decode cX4_removeFlag 25 = .ok (.getfield 34, 3) := by decide +kernel
theorem dX4_removeFlag_28 : decode cX4_removeFlag 28 = .ok (.aaload, 1) := by decide +kernel
theorem dX4_removeFlag_29 : decode cX4_removeFlag 29 = .ok (.astore_n 1, 1) := by decide +kernel
theorem dX4_removeFlag_30 : decode cX4_removeFlag 30 = .ok (.aload_n 1, 1) := by decide +kernel
theorem dX4_removeFlag_31 : decode cX4_removeFlag 31 = .ok (.ifnull 26, 3) := by decide +kernel
theorem dX4_removeFlag_34 : decode cX4_removeFlag 34 = .ok (.aload_n 1, 1) := by decide +kernel
theorem dX4_removeFlag_35 : decode cX4_removeFlag 35 = .ok (.aload_n 0, 1) := by decide +kernel
theorem dX4_removeFlag_36 : decode cX4_removeFlag 36 = .ok (.getfield 20, 3) := by decide +kernel
theorem dX4_removeFlag_39 : decode cX4_removeFlag 39 = .ok (.aload_n 0, 1) := by decide +kernel
theorem dX4_removeFlag_40 : decode cX4_removeFlag 40 = .ok (.getfield 34, 3) := by decide +kernel
theorem dX4_removeFlag_43 : decode cX4_removeFlag 43 = .ok (.iaload, 1) := by decide +kernel
theorem dX4_removeFlag_44 : decode cX4_removeFlag 44 = .ok (.aload_n 0, 1) := by decide +kernel
theorem dX4_removeFlag_45 : decode cX4_removeFlag 45 = .ok (.getfield 24, 3) := by decide +kernel
theorem dX4_removeFlag_48 : decode cX4_removeFlag 48 = .ok (.aload_n 0, 1) := by decide +kernel
theorem dX4_removeFlag_49 : decode cX4_removeFlag 49 = .ok (.getfield 34, 3) := by decide +kernel
theorem dX4_removeFlag_52 : decode cX4_removeFlag 52 = .ok (.iaload, 1) := by decide +kernel
theorem dX4_removeFlag_53 : decode cX4_removeFlag 53 = .ok (.iconst (-1), 1) := by decide +kernel
theorem dX4_removeFlag_54 : decode cX4_removeFlag 54 = .ok (.invokevirtual 37, 3) := by decide +kernel
theorem dX4_removeFlag_57 : decode cX4_removeFlag 57 = .ok (.aload_n 0, 1) := by decide +kernel
theorem dX4_removeFlag_58 : decode cX4_removeFlag 58 = .ok (.getfield 34, 3) := by decide +kernel
theorem dX4_removeFlag_61 : decode cX4_removeFlag 61 = .ok (.ireturn, 1) := by decide +kernel
theorem dX5_init_0 : decode cX5_init 0 = .ok (.aload_n 0, 1) := by decide +kernel
theorem dX5_init_1 : decode cX5_init 1 = .ok (.invokespecial 3, 3) := by decide +kernel
theorem dX5_init_4 : decode cX5_init 4 = .ok (.aload_n 0, 1) := by decide +kernel
theorem dX5_init_5 : decode cX5_init 5 = .ok (.bipush 60, 2) := by decide +kernel
theorem dX5_init_7 : decode cX5_init 7 = .ok (.newarray .int, 2) := by decide +kernel
theorem dX5_init_9 : decode cX5_init 9 = .ok (.putfield 11, 3) := by decide +kernel
theorem dX5_init_12 : decode cX5_init 12 = .ok (.aload_n 0, 1) := by decide +kernel
theorem dX5_init_13 : decode cX5_init 13 = .ok (.bipush 8, 2) := by decide +kernel
theorem dX5_init_15 : decode cX5_init 15 = .ok (.newarray .int, 2) := by decide +kernel
theorem dX5_init_17 : decode cX5_init 17 = .ok (.putfield 17, 3) := by decide +kernel
theorem dX5_init_20 : decode cX5_init 20 = .ok (.aload_n 0, 1) := by decide +kernel
theorem dX5_init_21 : decode cX5_init 21 = .ok (.iconst (-1), 1) := by decide +kernel
theorem dX5_init_22 : decode cX5_init 22 = .ok (.putfield 20, 3) := by decide +kernel
theorem dX5_init_25 : decode cX5_init 25 = .ok (.return_, 1) := by decide +kernel
theorem dX5_follow_0 : decode cX5_follow 0 = .ok (.aload_n 0, 1) := by decide +kernel
theorem dX5_follow_1 : decode cX5_follow 1 = .ok (.aload_n 1, 1) := by decide +kernel
theorem dX5_follow_2 : decode cX5_follow 2 = .ok (.invokevirtual 24, 3) := by decide +kernel
theorem dX5_follow_5 : decode cX5_follow 5 = .ok (.iconst 0, 1) := by decide +kernel
theorem dX5_follow_6 : decode cX5_follow 6 = .ok (.istore_n 3, 1) := by decide +kernel
theorem dX5_follow_7 : decode cX5_follow 7 = .ok (.iconst 0, 1) := by decide +kernel
theorem dX5_follow_8 : decode cX5_follow 8 = .ok (.istore 4, 2) := by decide +kernel
theorem dX5_follow_10 : decode cX5_follow 10 = .ok (.iload 4, 2) := by decide +kernel
theorem dX5_follow_12 : decode cX5_follow 12 = .ok (.sipush 2000, 3) := by decide +kernel
theorem dX5_follow_15 : decode cX5_follow 15 = .ok (.if_icmp .gt 56, 3) := by decide +kernel
theorem dX5_follow_18 : decode cX5_follow 18 = .ok (.iload_n 3, 1) := by decide +kernel
theorem dX5_follow_19 : decode cX5_follow 19 = .ok (.aload_n 1, 1) := by decide +kernel
theorem dX5_follow_20 : decode cX5_follow 20 = .ok (.getfield 28, 3) := by decide +kernel
theorem dX5_follow_23 : decode cX5_follow 23 = .ok (.if_icmp .ge 48, 3) := by decide +kernel
theorem dX5_follow_26 : decode cX5_follow 26 = .ok (.aload_n 0, 1) := by decide +kernel
theorem dX5_follow_27 : decode cX5_follow 27 = .ok (.aload_n 1, 1) := by decide +kernel
theorem dX5_follow_28 : decode cX5_follow 28 = .ok (.iload_n 3, 1) := by decide +kernel
theorem dX5_follow_29 : decode cX5_follow 29 = .ok (.iload_n 2, 1) := by decide +kernel
theorem dX5_follow_30 : decode cX5_follow 30 = .ok (.invokevirtual 31, 3) := by decide +kernel
theorem dX5_follow_33 : decode cX5_follow 33 = .ok (.istore 5, 2) := by decide +kernel
theorem dX5_follow_35 : decode cX5_follow 35 = .ok (.iload 5, 2) := by decide +kernel
theorem dX5_follow_37 : decode cX5_follow 37 = .ok (.ifCond .eq 11, 3) := by decide +kernel
theorem dX5_follow_40 : decode cX5_follow 40 = .ok (.aload_n 0, 1) := by decide +kernel
theorem dX5_follow_41 : decode cX5_follow 41 = .ok (.iload_n 3, 1) := by decide +kernel
theorem dX5_follow_42 : decode cX5_follow 42 = .ok (.putfield 20, 3) := by decide +kernel
theorem dX5_follow_45 : decode cX5_follow 45 = .ok (.iload 5, 2) := by decide +kernel
theorem dX5_follow_47 : decode cX5_follow 47 = .ok (.ireturn, 1) := by decide +kernel
theorem dX5_follow_48 : decode cX5_follow 48 = .ok (.aload_n 0, 1) := by decide +kernel
theorem dX5_follow_49 : decode cX5_follow 49 = .ok (.aload_n 1, 1) := by decide +kernel
theorem dX5_follow_50 : decode cX5_follow 50 = .ok (.iload_n 3, 1) := by decide +kernel
theorem dX5_follow_51 : decode cX5_follow 51 = .ok (.invokevirtual 35, 3) := by decide +kernel
theorem dX5_follow_54 : decode cX5_follow 54 = .ok (.istore_n 3, 1) := by decide +kernel
theorem dX5_follow_55 : decode cX5_follow 55 = .ok (.aload_n 0, 1) := by decide +kernel
theorem dX5_follow_56 : decode cX5_follow 56 = .ok (.dup, 1) := by decide +kernel
theorem dX5_follow_57 : decode cX5_follow 57 = .ok (.getfield 39, 3) := by decide +kernel
theorem dX5_follow_60 : decode cX5_follow 60 = .ok (.iconst 1, 1) := by decide +kernel
theorem dX5_follow_61 : decode cX5_follow 61 = .ok (.iadd, 1) := by decide +kernel
theorem dX5_follow_62 : decode cX5_follow 62 = .ok (.putfield 39, 3) := by decide +kernel
theorem dX5_follow_65 : decode cX5_follow 65 = .ok (.iinc 4 1, 3) := by decide +kernel
theorem dX5_follow_68 : decode cX5_follow 68 = .ok (.goto (-58), 3) := by decide +kernel
theorem dX5_follow_71 : decode cX5_follow 71 = .ok (.iconst 0, 1) := by decide +kernel
theorem dX5_follow_72 : decode cX5_follow 72 = .ok (.ireturn, 1) := by decide +kernel
theorem dX5_startOver_0 : decode cX5_startOver 0 = .ok (.aload_n 0, 1) := by decide +kernel
theorem dX5_startOver_1 : decode cX5_startOver 1 = .ok (.iconst 0, 1) := by decide +kernel
theorem dX5_startOver_2 : decode cX5_startOver 2 = .ok (.putfield 42, 3) := by decide +kernel
theorem dX5_startOver_5 : decode cX5_startOver 5 = .ok (.aload_n 0, 1) := by decide +kernel
theorem dX5_startOver_6 : decode cX5_startOver 6 = .ok (.iconst 0, 1) := by decide +kernel
theorem dX5_startOver_7 : decode cX5_startOver 7 = .ok (.putfield 45, 3) := by decide +kernel
theorem dX5_startOver_10 : decode cX5_startOver 10 = .ok (.aload_n 0, 1) := by decide +kernel
theorem dX5_startOver_11 : decode cX5_startOver 11 = .ok (.iconst 0, 1) := by decide +kernel
theorem dX5_startOver_12 : decode cX5_startOver 12 = .ok (.putfield 48, 3) := by decide +kernel
theorem dX5_startOver_15 : decode cX5_startOver 15 = .ok (.aload_n 0, 1) := by decide +kernel
theorem dX5_startOver_16 : decode cX5_startOver 16 = .ok (.iconst 0, 1) := by decide +kernel
theorem dX5_startOver_17 : decode cX5_startOver 17 = .ok (.putfield 39, 3) := by decide +kernel
theorem dX5_startOver_20 : decode cX5_startOver 20 = .ok (.aload_n 0, 1) := by decide +kernel
theorem dX5_startOver_21 : decode cX5_startOver 21 = .ok (.iconst (-1), 1) := by decide +kernel
theorem dX5_startOver_22 : decode cX5_startOver 22 = .ok (.putfield 20, 3) := by decide +kernel
theorem dX5_startOver_25 : decode cX5_startOver 25 = .ok (.aload_n 0, 1) := by decide +kernel
theorem dX5_startOver_26 : decode cX5_startOver 26 = .ok (.iconst 0, 1) := by decide +kernel
theorem dX5_startOver_27 : decode cX5_startOver 27 = .ok (.putfield 51, 3) := by decide +kernel
theorem dX5_startOver_30 : decode cX5_startOver 30 = .ok (.aload_n 0, 1) := by decide +kernel
theorem dX5_startOver_31 : decode cX5_startOver 31 = .ok (.iconst 0, 1) := by decide +kernel
theorem dX5_startOver_32 : decode cX5_startOver 32 = .ok (.putfield 54, 3) := by decide +kernel
theorem dX5_startOver_35 : decode cX5_startOver 35 = .ok (.aload_n 0, 1) := by decide +kernel
theorem dX5_startOver_36 : decode cX5_startOver 36 = .ok (.getfield 17, 3) := by decide +kernel
theorem dX5_startOver_39 : decode cX5_startOver 39 = .ok (.iconst 0, 1) := by decide +kernel
theorem dX5_startOver_40 : decode cX5_startOver 40 = .ok (.invokestatic 57, 3) := by decide +kernel
theorem dX5_startOver_43 : decode cX5_startOver 43 = .ok (.iconst 0, 1) := by decide +kernel
theorem dX5_startOver_44 : decode cX5_startOver 44 = .ok (.istore_n 2, 1) := by decide +kernel
theorem dX5_startOver_45 : decode cX5_startOver 45 = .ok (.iload_n 2, 1) := by decide +kernel
theorem dX5_startOver_46 : decode cX5_startOver 46 = .ok (.aload_n 1, 1) := by decide +kernel
theorem dX5_startOver_47 : decode cX5_startOver 47 = .ok (.getfield 28, 3) := by decide +kernel
theorem dX5_startOver_50 : decode cX5_startOver 50 = .ok (.if_icmp .ge 21, 3) := by decide +kernel
theorem dX5_startOver_53 : decode cX5_startOver 53 = .ok (.aload_n 0, 1) := by decide +kernel
theorem dX5_startOver_54 : decode cX5_startOver 54 = .ok (.getfield 11, 3) := by decide +kernel
theorem dX5_startOver_57 : decode cX5_startOver 57 = .ok (.iload_n 2, 1) := by decide +kernel
theorem dX5_startOver_58 : decode cX5_startOver 58 = .ok (.aload_n 1, 1) := by decide +kernel
theorem dX5_startOver_59 : decode cX5_startOver 59 = .ok (.getfield 63, 3) := by decide +kernel
theorem dX5_startOver_62 : decode cX5_startOver 62 = .ok (.iload_n 2, 1) := by decide +kernel
theorem dX5_startOver_63 : decode cX5_startOver 63 = .ok (.iaload, 1) := by decide +kernel
theorem dX5_startOver_64 : decode cX5_startOver 64 = .ok (.iastore, 1) := by decide +kernel
theorem dX5_startOver_65 : decode cX5_startOver 65 = .ok (.iinc 2 1, 3) := by decide +kernel
theorem dX5_startOver_68 : decode cX5_startOver 68 = .ok (.goto (-23), 3) := by decide +kernel
theorem dX5_startOver_71 : decode cX5_startOver 71 = .ok (.return_, 1) := by decide +kernel
theorem dX5_whyNot_0 : decode cX5_whyNot 0 = .ok (.aload_n 0, 1) := by decide +kernel
theorem dX5_whyNot_1 : decode cX5_whyNot 1 = .ok (.getfield 39, 3) := by decide +kernel
theorem dX5_whyNot_4 : decode cX5_whyNot 4 = .ok (.sipush 2000, 3) := by decide +kernel
theorem dX5_whyNot_7 : decode cX5_whyNot 7 = .ok (.if_icmp .lt 5, 3) := by decide +kernel
theorem dX5_whyNot_10 : decode cX5_whyNot 10 = .ok (.iconst 3, 1) := by decide +kernel
theorem dX5_whyNot_11 : decode cX5_whyNot 11 = .ok (.ireturn, 1) := by decide +kernel
theorem dX5_whyNot_12 : decode cX5_whyNot 12 = .ok (.aload_n 0, 1) := by decide +kernel
theorem dX5_whyNot_13 : decode cX5_whyNot 13 = .ok (.aload_n 1, 1) := by decide +kernel
theorem dX5_whyNot_14 : decode cX5_whyNot 14 = .ok (.iload_n 2, 1) := by decide +kernel
theorem dX5_whyNot_15 : decode cX5_whyNot 15 = .ok (.invokevirtual 66, 3) := by decide +kernel
theorem dX5_whyNot_18 : decode cX5_whyNot 18 = .ok (.istore 4, 2) := by decide +kernel
theorem dX5_whyNot_20 : decode cX5_whyNot 20 = .ok (.aload_n 0, 1) := by decide +kernel
theorem dX5_whyNot_21 : decode cX5_whyNot 21 = .ok (.getfield 42, 3) := by decide +kernel
theorem dX5_whyNot_24 : decode cX5_whyNot 24 = .ok (.iload 4, 2) := by decide +kernel
theorem dX5_whyNot_26 : decode cX5_whyNot 26 = .ok (.iadd, 1) := by decide +kernel
theorem dX5_whyNot_27 : decode cX5_whyNot 27 = .ok (.iload_n 3, 1) := by decide +kernel
theorem dX5_whyNot_28 : decode cX5_whyNot 28 = .ok (.if_icmp .le 5, 3) := by decide +kernel
theorem dX5_whyNot_31 : decode cX5_whyNot 31 = .ok (.iconst 2, 1) := by decide +kernel
theorem dX5_whyNot_32 : decode cX5_whyNot 32 = .ok (.ireturn, 1) := by decide +kernel
theorem dX5_whyNot_33 : decode cX5_whyNot 33 = .ok (.aload_n 1, 1) := by decide +kernel
theorem dX5_whyNot_34 : decode cX5_whyNot 34 = .ok (.getfield 69, 3) := by decide +kernel
theorem dX5_whyNot_37 : decode cX5_whyNot 37 = .ok (.iload_n 2, 1) := by decide +kernel
theorem dX5_whyNot_38 : decode cX5_whyNot 38 = .ok (.iaload, 1) := by decide +kernel
theorem dX5_whyNot_39 : decode cX5_whyNot 39 = .ok (.iconst 2, 1) := by decide +kernel
theorem dX5_whyNot_40 : decode cX5_whyNot 40 = .ok (.if_icmp .eq 5, 3) := by decide +kernel
theorem dX5_whyNot_43 : decode cX5_whyNot 43 = .ok (.iconst 0, 1) := by decide +kernel
theorem dX5_whyNot_44 : decode cX5_whyNot 44 = .ok (.ireturn, 1) := by decide +kernel
theorem dX5_whyNot_45 : decode cX5_whyNot 45 = .ok (.aload_n 1, 1) := by decide +kernel
theorem dX5_whyNot_46 : decode cX5_whyNot 46 = .ok (.aload_n 1, 1) := by decide +kernel
theorem dX5_whyNot_47 : decode cX5_whyNot 47 = .ok (.getfield 63, 3) := by decide +kernel
theorem dX5_whyNot_50 : decode cX5_whyNot 50 = .ok (.iload_n 2, 1) := by decide +kernel
theorem dX5_whyNot_51 : decode cX5_whyNot 51 = .ok (.iaload, 1) := by decide +kernel
theorem dX5_whyNot_52 : decode cX5_whyNot 52 = .ok (.aload_n 0, 1) := by decide +kernel
theorem dX5_whyNot_53 : decode cX5_whyNot 53 = .ok (.getfield 42, 3) := by decide +kernel
theorem dX5_whyNot_56 : decode cX5_whyNot 56 = .ok (.iload 4, 2) := by decide +kernel
theorem dX5_whyNot_58 : decode cX5_whyNot 58 = .ok (.invokevirtual 72, 3) := by decide +kernel
theorem dX5_whyNot_61 : decode cX5_whyNot 61 = .ok (.ifCond .eq 7, 3) := by decide +kernel
theorem dX5_whyNot_64 : decode cX5_whyNot 64 = .ok (.iconst 0, 1) := by decide +kernel
theorem dX5_whyNot_65 : decode cX5_whyNot 65 = .ok (.goto 4, 3) := by decide +kernel
theorem dX5_whyNot_68 : decode cX5_whyNot 68 = .ok (.iconst 1, 1) := by decide +kernel
theorem dX5_whyNot_69 : decode cX5_whyNot 69 = .ok (.ireturn, 1) := by decide +kernel
theorem dX5_minutesOf_0 : decode cX5_minutesOf 0 = .ok (.aload_n 1, 1) := by decide +kernel
theorem dX5_minutesOf_1 : decode cX5_minutesOf 1 = .ok (.getfield 69, 3) := by decide +kernel
theorem dX5_minutesOf_4 : decode cX5_minutesOf 4 = .ok (.iload_n 2, 1) := by decide +kernel
theorem dX5_minutesOf_5 : decode cX5_minutesOf 5 = .ok (.iaload, 1) := by decide +kernel
theorem dX5_minutesOf_6 : decode cX5_minutesOf 6 = .ok (.tableswitch 56 0 5 #[38, 45, 38, 56, 56, 45], 38) := by decide +kernel
theorem dX5_minutesOf_44 : decode cX5_minutesOf 44 = .ok (.aload_n 1, 1) := by decide +kernel
theorem dX5_minutesOf_45 : decode cX5_minutesOf 45 = .ok (.getfield 76, 3) := by decide +kernel
theorem dX5_minutesOf_48 : decode cX5_minutesOf 48 = .ok (.iload_n 2, 1) := by decide +kernel
theorem dX5_minutesOf_49 : decode cX5_minutesOf 49 = .ok (.iaload, 1) := by decide +kernel
theorem dX5_minutesOf_50 : decode cX5_minutesOf 50 = .ok (.ireturn, 1) := by decide +kernel
theorem dX5_minutesOf_51 : decode cX5_minutesOf 51 = .ok (.aload_n 0, 1) := by decide +kernel
theorem dX5_minutesOf_52 : decode cX5_minutesOf 52 = .ok (.aload_n 1, 1) := by decide +kernel
theorem dX5_minutesOf_53 : decode cX5_minutesOf 53 = .ok (.getfield 76, 3) := by decide +kernel
theorem dX5_minutesOf_56 : decode cX5_minutesOf 56 = .ok (.iload_n 2, 1) := by decide +kernel
theorem dX5_minutesOf_57 : decode cX5_minutesOf 57 = .ok (.iaload, 1) := by decide +kernel
theorem dX5_minutesOf_58 : decode cX5_minutesOf 58 = .ok (.invokevirtual 79, 3) := by decide +kernel
theorem dX5_minutesOf_61 : decode cX5_minutesOf 61 = .ok (.ireturn, 1) := by decide +kernel
theorem dX5_minutesOf_62 : decode cX5_minutesOf 62 = .ok (.iconst 0, 1) := by decide +kernel
theorem dX5_minutesOf_63 : decode cX5_minutesOf 63 = .ok (.ireturn, 1) := by decide +kernel
theorem dX5_turnTo_0 : decode cX5_turnTo 0 = .ok (.iload_n 1, 1) := by decide +kernel
theorem dX5_turnTo_1 : decode cX5_turnTo 1 = .ok (.aload_n 0, 1) := by decide +kernel
theorem dX5_turnTo_2 : decode cX5_turnTo 2 = .ok (.getfield 45, 3) := by decide +kernel
theorem dX5_turnTo_5 : decode cX5_turnTo 5 = .ok (.isub, 1) := by decide +kernel
theorem dX5_turnTo_6 : decode cX5_turnTo 6 = .ok (.invokestatic 83, 3) := by decide +kernel
theorem dX5_turnTo_9 : decode cX5_turnTo 9 = .ok (.istore_n 2, 1) := by decide +kernel
theorem dX5_turnTo_10 : decode cX5_turnTo 10 = .ok (.iload_n 2, 1) := by decide +kernel
theorem dX5_turnTo_11 : decode cX5_turnTo 11 = .ok (.sipush 360, 3) := by decide +kernel
theorem dX5_turnTo_14 : decode cX5_turnTo 14 = .ok (.iload_n 2, 1) := by decide +kernel
theorem dX5_turnTo_15 : decode cX5_turnTo 15 = .ok (.isub, 1) := by decide +kernel
theorem dX5_turnTo_16 : decode cX5_turnTo 16 = .ok (.invokestatic 88, 3) := by decide +kernel
theorem dX5_turnTo_19 : decode cX5_turnTo 19 = .ok (.istore_n 3, 1) := by decide +kernel
theorem dX5_turnTo_20 : decode cX5_turnTo 20 = .ok (.iload_n 3, 1) := by decide +kernel
theorem dX5_turnTo_21 : decode cX5_turnTo 21 = .ok (.iconst 5, 1) := by decide +kernel
theorem dX5_turnTo_22 : decode cX5_turnTo 22 = .ok (.iadd, 1) := by decide +kernel
theorem dX5_turnTo_23 : decode cX5_turnTo 23 = .ok (.bipush 6, 2) := by decide +kernel
theorem dX5_turnTo_25 : decode cX5_turnTo 25 = .ok (.idiv, 1) := by decide +kernel
theorem dX5_turnTo_26 : decode cX5_turnTo 26 = .ok (.ireturn, 1) := by decide +kernel
theorem dX5_perform_0 : decode cX5_perform 0 = .ok (.aload_n 0, 1) := by decide +kernel
theorem dX5_perform_1 : decode cX5_perform 1 = .ok (.aload_n 1, 1) := by decide +kernel
theorem dX5_perform_2 : decode cX5_perform 2 = .ok (.iload_n 2, 1) := by decide +kernel
theorem dX5_perform_3 : decode cX5_perform 3 = .ok (.invokevirtual 66, 3) := by decide +kernel
theorem dX5_perform_6 : decode cX5_perform 6 = .ok (.istore_n 3, 1) := by decide +kernel
theorem dX5_perform_7 : decode cX5_perform 7 = .ok (.aload_n 1, 1) := by decide +kernel
theorem dX5_perform_8 : decode cX5_perform 8 = .ok (.getfield 69, 3) := by decide +kernel
theorem dX5_perform_11 : decode cX5_perform 11 = .ok (.iload_n 2, 1) := by decide +kernel
theorem dX5_perform_12 : decode cX5_perform 12 = .ok (.iaload, 1) := by decide +kernel
theorem dX5_perform_13 : decode cX5_perform 13 = .ok (.tableswitch 104 1 5 #[35, 58, 72, 79, 35], 35) := by decide +kernel
theorem dX5_perform_48 : decode cX5_perform 48 = .ok (.aload_n 0, 1) := by decide +kernel
theorem dX5_perform_49 : decode cX5_perform 49 = .ok (.dup, 1) := by decide +kernel
theorem dX5_perform_50 : decode cX5_perform 50 = .ok (.getfield 51, 3) := by decide +kernel
theorem dX5_perform_53 : decode cX5_perform 53 = .ok (.iload_n 3, 1) := by decide +kernel
theorem dX5_perform_54 : decode cX5_perform 54 = .ok (.iadd, 1) := by decide +kernel
theorem dX5_perform_55 : decode cX5_perform 55 = .ok (.putfield 51, 3) := by decide +kernel
theorem dX5_perform_58 : decode cX5_perform 58 = .ok (.aload_n 0, 1) := by decide +kernel
theorem dX5_perform_59 : decode cX5_perform 59 = .ok (.aload_n 1, 1) := by decide +kernel
theorem dX5_perform_60 : decode cX5_perform 60 = .ok (.getfield 76, 3) := by decide +kernel
theorem dX5_perform_63 : decode cX5_perform 63 = .ok (.iload_n 2, 1) := by decide +kernel
theorem dX5_perform_64 : decode cX5_perform 64 = .ok (.iaload, 1) := by decide +kernel
theorem dX5_perform_65 : decode cX5_perform 65 = .ok (.putfield 45, 3) := by decide +kernel
theorem dX5_perform_68 : decode cX5_perform 68 = .ok (.goto 49, 3) := by decide +kernel
theorem dX5_perform_71 : decode cX5_perform 71 = .ok (.aload_n 0, 1) := by decide +kernel
theorem dX5_perform_72 : decode cX5_perform 72 = .ok (.aload_n 1, 1) := by decide +kernel
theorem dX5_perform_73 : decode cX5_perform 73 = .ok (.getfield 63, 3) := by decide +kernel
theorem dX5_perform_76 : decode cX5_perform 76 = .ok (.iload_n 2, 1) := by decide +kernel
theorem dX5_perform_77 : decode cX5_perform 77 = .ok (.iaload, 1) := by decide +kernel
theorem dX5_perform_78 : decode cX5_perform 78 = .ok (.iload_n 3, 1) := by decide +kernel
theorem dX5_perform_79 : decode cX5_perform 79 = .ok (.invokevirtual 92, 3) := by decide +kernel
theorem dX5_perform_82 : decode cX5_perform 82 = .ok (.goto 35, 3) := by decide +kernel
theorem dX5_perform_85 : decode cX5_perform 85 = .ok (.aload_n 0, 1) := by decide +kernel
theorem dX5_perform_86 : decode cX5_perform 86 = .ok (.aload_n 1, 1) := by decide +kernel
theorem dX5_perform_87 : decode cX5_perform 87 = .ok (.iload_n 2, 1) := by decide +kernel
theorem dX5_perform_88 : decode cX5_perform 88 = .ok (.invokevirtual 96, 3) := by decide +kernel
theorem dX5_perform_91 : decode cX5_perform 91 = .ok (.ireturn, 1) := by decide +kernel
theorem dX5_perform_92 : decode cX5_perform 92 = .ok (.aload_n 0, 1) := by decide +kernel
theorem dX5_perform_93 : decode cX5_perform 93 = .ok (.aload_n 0, 1) := by decide +kernel
theorem dX5_perform_94 : decode cX5_perform 94 = .ok (.getfield 54, 3) := by decide +kernel
theorem dX5_perform_97 : decode cX5_perform 97 = .ok (.aload_n 0, 1) := by decide +kernel
theorem dX5_perform_98 : decode cX5_perform 98 = .ok (.getfield 42, 3) := by decide +kernel
theorem dX5_perform_101 : decode cX5_perform 101 = .ok (.aload_n 1, 1) := by decide +kernel
theorem dX5_perform_102 : decode cX5_perform 102 = .ok (.getfield 76, 3) := by decide +kernel
theorem dX5_perform_105 : decode cX5_perform 105 = .ok (.iload_n 2, 1) := by decide +kernel
theorem dX5_perform_106 : decode cX5_perform 106 = .ok (.iaload, 1) := by decide +kernel
theorem dX5_perform_107 : decode cX5_perform 107 = .ok (.iadd, 1) := by decide +kernel
theorem dX5_perform_108 : decode cX5_perform 108 = .ok (.invokestatic 99, 3) := by decide +kernel
theorem dX5_perform_111 : decode cX5_perform 111 = .ok (.putfield 54, 3) := by decide +kernel
theorem dX5_perform_114 : decode cX5_perform 114 = .ok (.goto 3, 3) := by decide +kernel
theorem dX5_perform_117 : decode cX5_perform 117 = .ok (.aload_n 0, 1) := by decide +kernel
theorem dX5_perform_118 : decode cX5_perform 118 = .ok (.dup, 1) := by decide +kernel
theorem dX5_perform_119 : decode cX5_perform 119 = .ok (.getfield 42, 3) := by decide +kernel
theorem dX5_perform_122 : decode cX5_perform 122 = .ok (.iload_n 3, 1) := by decide +kernel
theorem dX5_perform_123 : decode cX5_perform 123 = .ok (.iadd, 1) := by decide +kernel
theorem dX5_perform_124 : decode cX5_perform 124 = .ok (.putfield 42, 3) := by decide +kernel
theorem dX5_perform_127 : decode cX5_perform 127 = .ok (.iload_n 2, 1) := by decide +kernel
theorem dX5_perform_128 : decode cX5_perform 128 = .ok (.iconst 1, 1) := by decide +kernel
theorem dX5_perform_129 : decode cX5_perform 129 = .ok (.iadd, 1) := by decide +kernel
theorem dX5_perform_130 : decode cX5_perform 130 = .ok (.ireturn, 1) := by decide +kernel
theorem dX5_watch_0 : decode cX5_watch 0 = .ok (.iload_n 1, 1) := by decide +kernel
theorem dX5_watch_1 : decode cX5_watch 1 = .ok (.ifCond .lt 9, 3) := by decide +kernel
theorem dX5_watch_4 : decode cX5_watch 4 = .ok (.iload_n 1, 1) := by decide +kernel
theorem dX5_watch_5 : decode cX5_watch 5 = .ok (.bipush 8, 2) := by decide +kernel
theorem dX5_watch_7 : decode cX5_watch 7 = .ok (.if_icmp .lt 4, 3) := by decide +kernel
theorem dX5_watch_10 : decode cX5_watch 10 = .ok (.return_, 1) := by decide +kernel
theorem dX5_watch_11 : decode cX5_watch 11 = .ok (.iconst 0, 1) := by decide +kernel
theorem dX5_watch_12 : decode cX5_watch 12 = .ok (.aload_n 0, 1) := by decide +kernel
theorem dX5_watch_13 : decode cX5_watch 13 = .ok (.getfield 54, 3) := by decide +kernel
theorem dX5_watch_16 : decode cX5_watch 16 = .ok (.aload_n 0, 1) := by decide +kernel
theorem dX5_watch_17 : decode cX5_watch 17 = .ok (.getfield 42, 3) := by decide +kernel
theorem dX5_watch_20 : decode cX5_watch 20 = .ok (.isub, 1) := by decide +kernel
theorem dX5_watch_21 : decode cX5_watch 21 = .ok (.iload_n 2, 1) := by decide +kernel
theorem dX5_watch_22 : decode cX5_watch 22 = .ok (.invokestatic 88, 3) := by decide +kernel
theorem dX5_watch_25 : decode cX5_watch 25 = .ok (.invokestatic 99, 3) := by decide +kernel
theorem dX5_watch_28 : decode cX5_watch 28 = .ok (.istore_n 3, 1) := by decide +kernel
theorem dX5_watch_29 : decode cX5_watch 29 = .ok (.aload_n 0, 1) := by decide +kernel
theorem dX5_watch_30 : decode cX5_watch 30 = .ok (.dup, 1) := by decide +kernel
theorem dX5_watch_31 : decode cX5_watch 31 = .ok (.getfield 48, 3) := by decide +kernel
theorem dX5_watch_34 : decode cX5_watch 34 = .ok (.iload_n 2, 1) := by decide +kernel
theorem dX5_watch_35 : decode cX5_watch 35 = .ok (.iload_n 3, 1) := by decide +kernel
theorem dX5_watch_36 : decode cX5_watch 36 = .ok (.isub, 1) := by decide +kernel
theorem dX5_watch_37 : decode cX5_watch 37 = .ok (.iadd, 1) := by decide +kernel
theorem dX5_watch_38 : decode cX5_watch 38 = .ok (.putfield 48, 3) := by decide +kernel
theorem dX5_watch_41 : decode cX5_watch 41 = .ok (.aload_n 0, 1) := by decide +kernel
theorem dX5_watch_42 : decode cX5_watch 42 = .ok (.getfield 17, 3) := by decide +kernel
theorem dX5_watch_45 : decode cX5_watch 45 = .ok (.iload_n 1, 1) := by decide +kernel
theorem dX5_watch_46 : decode cX5_watch 46 = .ok (.dup2, 1) := by decide +kernel
theorem dX5_watch_47 : decode cX5_watch 47 = .ok (.iaload, 1) := by decide +kernel
theorem dX5_watch_48 : decode cX5_watch 48 = .ok (.iload_n 2, 1) := by decide +kernel
theorem dX5_watch_49 : decode cX5_watch 49 = .ok (.iload_n 3, 1) := by decide +kernel
theorem dX5_watch_50 : decode cX5_watch 50 = .ok (.isub, 1) := by decide +kernel
theorem dX5_watch_51 : decode cX5_watch 51 = .ok (.iadd, 1) := by decide +kernel
theorem dX5_watch_52 : decode cX5_watch 52 = .ok (.iastore, 1) := by decide +kernel
theorem dX5_watch_53 : decode cX5_watch 53 = .ok (.return_, 1) := by decide +kernel
theorem dX5_repeat_0 : decode cX5_repeat 0 = .ok (.aload_n 0, 1) := by decide +kernel
theorem dX5_repeat_1 : decode cX5_repeat 1 = .ok (.getfield 11, 3) := by decide +kernel
theorem dX5_repeat_4 : decode cX5_repeat 4 = .ok (.iload_n 2, 1) := by decide +kernel
theorem dX5_repeat_5 : decode cX5_repeat 5 = .ok (.iaload, 1) := by decide +kernel
theorem dX5_repeat_6 : decode cX5_repeat 6 = .ok (.ifCond .le 20, 3) := by decide +kernel
theorem dX5_repeat_9 : decode cX5_repeat 9 = .ok (.aload_n 0, 1) := by decide +kernel
theorem dX5_repeat_10 : decode cX5_repeat 10 = .ok (.getfield 11, 3) := by decide +kernel
theorem dX5_repeat_13 : decode cX5_repeat 13 = .ok (.iload_n 2, 1) := by decide +kernel
theorem dX5_repeat_14 : decode cX5_repeat 14 = .ok (.dup2, 1) := by decide +kernel
theorem dX5_repeat_15 : decode cX5_repeat 15 = .ok (.iaload, 1) := by decide +kernel
theorem dX5_repeat_16 : decode cX5_repeat 16 = .ok (.iconst 1, 1) := by decide +kernel
theorem dX5_repeat_17 : decode cX5_repeat 17 = .ok (.isub, 1) := by decide +kernel
theorem dX5_repeat_18 : decode cX5_repeat 18 = .ok (.iastore, 1) := by decide +kernel
theorem dX5_repeat_19 : decode cX5_repeat 19 = .ok (.aload_n 1, 1) := by decide +kernel
theorem dX5_repeat_20 : decode cX5_repeat 20 = .ok (.getfield 76, 3) := by decide +kernel
theorem dX5_repeat_23 : decode cX5_repeat 23 = .ok (.iload_n 2, 1) := by decide +kernel
theorem dX5_repeat_24 : decode cX5_repeat 24 = .ok (.iaload, 1) := by decide +kernel
theorem dX5_repeat_25 : decode cX5_repeat 25 = .ok (.ireturn, 1) := by decide +kernel
theorem dX5_repeat_26 : decode cX5_repeat 26 = .ok (.aload_n 0, 1) := by decide +kernel
theorem dX5_repeat_27 : decode cX5_repeat 27 = .ok (.getfield 11, 3) := by decide +kernel
theorem dX5_repeat_30 : decode cX5_repeat 30 = .ok (.iload_n 2, 1) := by decide +kernel
theorem dX5_repeat_31 : decode cX5_repeat 31 = .ok (.aload_n 1, 1) := by decide +kernel
theorem dX5_repeat_32 : decode cX5_repeat 32 = .ok (.getfield 63, 3) := by decide +kernel
theorem dX5_repeat_35 : decode cX5_repeat 35 = .ok (.iload_n 2, 1) := by decide +kernel
theorem dX5_repeat_36 : decode cX5_repeat 36 = .ok (.iaload, 1) := by decide +kernel
theorem dX5_repeat_37 : decode cX5_repeat 37 = .ok (.iastore, 1) := by decide +kernel
theorem dX5_repeat_38 : decode cX5_repeat 38 = .ok (.iload_n 2, 1) := by decide +kernel
theorem dX5_repeat_39 : decode cX5_repeat 39 = .ok (.iconst 1, 1) := by decide +kernel
theorem dX5_repeat_40 : decode cX5_repeat 40 = .ok (.iadd, 1) := by decide +kernel
theorem dX5_repeat_41 : decode cX5_repeat 41 = .ok (.ireturn, 1) := by decide +kernel
theorem dX6_init_0 : decode cX6_init 0 = .ok (.aload_n 0, 1) := by decide +kernel
theorem dX6_init_1 : decode cX6_init 1 = .ok (.invokespecial 1, 3) := by decide +kernel
theorem dX6_init_4 : decode cX6_init 4 = .ok (.aload_n 0, 1) := by decide +kernel
theorem dX6_init_5 : decode cX6_init 5 = .ok (.bipush 15, 2) := by decide +kernel
theorem dX6_init_7 : decode cX6_init 7 = .ok (.newarray .int, 2) := by decide +kernel
theorem dX6_init_9 : decode cX6_init 9 = .ok (.putfield 9, 3) := by decide +kernel
theorem dX6_init_12 : decode cX6_init 12 = .ok (.aload_n 0, 1) := by decide +kernel
theorem dX6_init_13 : decode cX6_init 13 = .ok (.bipush 15, 2) := by decide +kernel
theorem dX6_init_15 : decode cX6_init 15 = .ok (.newarray .int, 2) := by decide +kernel
theorem dX6_init_17 : decode cX6_init 17 = .ok (.putfield 13, 3) := by decide +kernel
theorem dX6_init_20 : decode cX6_init 20 = .ok (.aload_n 0, 1) := by decide +kernel
theorem dX6_init_21 : decode cX6_init 21 = .ok (.bipush 15, 2) := by decide +kernel
theorem dX6_init_23 : decode cX6_init 23 = .ok (.newarray .long, 2) := by decide +kernel
theorem dX6_init_25 : decode cX6_init 25 = .ok (.putfield 16, 3) := by decide +kernel
theorem dX6_init_28 : decode cX6_init 28 = .ok (.return_, 1) := by decide +kernel
theorem dX6_gather_0 : decode cX6_gather 0 = .ok (.aload_n 0, 1) := by decide +kernel
theorem dX6_gather_1 : decode cX6_gather 1 = .ok (.iconst 0, 1) := by decide +kernel
theorem dX6_gather_2 : decode cX6_gather 2 = .ok (.putfield 20, 3) := by decide +kernel
theorem dX6_gather_5 : decode cX6_gather 5 = .ok (.iconst 0, 1) := by decide +kernel
theorem dX6_gather_6 : decode cX6_gather 6 = .ok (.istore_n 2, 1) := by decide +kernel
theorem dX6_gather_7 : decode cX6_gather 7 = .ok (.iload_n 2, 1) := by decide +kernel
theorem dX6_gather_8 : decode cX6_gather 8 = .ok (.aload_n 1, 1) := by decide +kernel
theorem dX6_gather_9 : decode cX6_gather 9 = .ok (.getfield 24, 3) := by decide +kernel
theorem dX6_gather_12 : decode cX6_gather 12 = .ok (.if_icmp .ge 41, 3) := by decide +kernel
theorem dX6_gather_15 : decode cX6_gather 15 = .ok (.iload_n 2, 1) := by decide +kernel
theorem dX6_gather_16 : decode cX6_gather 16 = .ok (.iconst 1, 1) := by decide +kernel
theorem dX6_gather_17 : decode cX6_gather 17 = .ok (.iadd, 1) := by decide +kernel
theorem dX6_gather_18 : decode cX6_gather 18 = .ok (.istore_n 3, 1) := by decide +kernel
theorem dX6_gather_19 : decode cX6_gather 19 = .ok (.iload_n 3, 1) := by decide +kernel
theorem dX6_gather_20 : decode cX6_gather 20 = .ok (.aload_n 1, 1) := by decide +kernel
theorem dX6_gather_21 : decode cX6_gather 21 = .ok (.getfield 24, 3) := by decide +kernel
theorem dX6_gather_24 : decode cX6_gather 24 = .ok (.if_icmp .ge 23, 3) := by decide +kernel
theorem dX6_gather_27 : decode cX6_gather 27 = .ok (.aload_n 0, 1) := by decide +kernel
theorem dX6_gather_28 : decode cX6_gather 28 = .ok (.aload_n 1, 1) := by decide +kernel
theorem dX6_gather_29 : decode cX6_gather 29 = .ok (.iload_n 2, 1) := by decide +kernel
theorem dX6_gather_30 : decode cX6_gather 30 = .ok (.invokevirtual 27, 3) := by decide +kernel
theorem dX6_gather_33 : decode cX6_gather 33 = .ok (.aload_n 1, 1) := by decide +kernel
theorem dX6_gather_34 : decode cX6_gather 34 = .ok (.iload_n 3, 1) := by decide +kernel
theorem dX6_gather_35 : decode cX6_gather 35 = .ok (.invokevirtual 27, 3) := by decide +kernel
theorem dX6_gather_38 : decode cX6_gather 38 = .ok (.invokevirtual 31, 3) := by decide +kernel
theorem dX6_gather_41 : decode cX6_gather 41 = .ok (.iinc 3 1, 3) := by decide +kernel
theorem dX6_gather_44 : decode cX6_gather 44 = .ok (.goto (-25), 3) := by decide +kernel
theorem dX6_gather_47 : decode cX6_gather 47 = .ok (.iinc 2 1, 3) := by decide +kernel
theorem dX6_gather_50 : decode cX6_gather 50 = .ok (.goto (-43), 3) := by decide +kernel
theorem dX6_gather_53 : decode cX6_gather 53 = .ok (.return_, 1) := by decide +kernel
theorem dX6_addPair_0 : decode cX6_addPair 0 = .ok (.aload_n 1, 1) := by decide +kernel
theorem dX6_addPair_1 : decode cX6_addPair 1 = .ok (.ifnull 16, 3) := by decide +kernel
theorem dX6_addPair_4 : decode cX6_addPair 4 = .ok (.aload_n 2, 1) := by decide +kernel
theorem dX6_addPair_5 : decode cX6_addPair 5 = .ok (.ifnull 12, 3) := by decide +kernel
theorem dX6_addPair_8 : decode cX6_addPair 8 = .ok (.aload_n 0, 1) := by decide +kernel
theorem dX6_addPair_9 : decode cX6_addPair 9 = .ok (.getfield 20, 3) := by decide +kernel
theorem dX6_addPair_12 : decode cX6_addPair 12 = .ok (.bipush 15, 2) := by decide +kernel
theorem dX6_addPair_14 : decode cX6_addPair 14 = .ok (.if_icmp .lt 4, 3) := by decide +kernel
theorem dX6_addPair_17 : decode cX6_addPair 17 = .ok (.return_, 1) := by decide +kernel
theorem dX6_addPair_18 : decode cX6_addPair 18 = .ok (.aload_n 1, 1) := by decide +kernel
theorem dX6_addPair_19 : decode cX6_addPair 19 = .ok (.aload_n 2, 1) := by decide +kernel
theorem dX6_addPair_20 : decode cX6_addPair 20 = .ok (.invokevirtual 35, 3) := by decide +kernel
theorem dX6_addPair_23 : decode cX6_addPair 23 = .ok (.ifCond .ne 4, 3) := by decide +kernel
theorem dX6_addPair_26 : decode cX6_addPair 26 = .ok (.return_, 1) := by decide +kernel
theorem dX6_addPair_27 : decode cX6_addPair 27 = .ok (.aload_n 0, 1) := by decide +kernel
theorem dX6_addPair_28 : decode cX6_addPair 28 = .ok (.getfield 9, 3) := by decide +kernel
theorem dX6_addPair_31 : decode cX6_addPair 31 = .ok (.aload_n 0, 1) := by decide +kernel
theorem dX6_addPair_32 : decode cX6_addPair 32 = .ok (.getfield 20, 3) := by decide +kernel
theorem dX6_addPair_35 : decode cX6_addPair 35 = .ok (.aload_n 2, 1) := by decide +kernel
theorem dX6_addPair_36 : decode cX6_addPair 36 = .ok (.getfield 41, 3) := by decide +kernel
theorem dX6_addPair_39 : decode cX6_addPair 39 = .ok (.aload_n 1, 1) := by decide +kernel
theorem dX6_addPair_40 : decode cX6_addPair 40 = .ok (.getfield 41, 3) := by decide +kernel
theorem dX6_addPair_43 : decode cX6_addPair 43 = .ok (.isub, 1) := by decide +kernel
theorem dX6_addPair_44 : decode cX6_addPair 44 = .ok (.iastore, 1) := by decide +kernel
theorem dX6_addPair_45 : decode cX6_addPair 45 = .ok (.aload_n 0, 1) := by decide +kernel
theorem dX6_addPair_46 : decode cX6_addPair 46 = .ok (.getfield 13, 3) := by decide +kernel
theorem dX6_addPair_49 : decode cX6_addPair 49 = .ok (.aload_n 0, 1) := by decide +kernel
theorem dX6_addPair_50 : decode cX6_addPair 50 = .ok (.getfield 20, 3) := by decide +kernel
theorem dX6_addPair_53 : decode cX6_addPair 53 = .ok (.aload_n 2, 1) := by decide +kernel
theorem dX6_addPair_54 : decode cX6_addPair 54 = .ok (.getfield 44, 3) := by decide +kernel
theorem dX6_addPair_57 : decode cX6_addPair 57 = .ok (.aload_n 1, 1) := by decide +kernel
theorem dX6_addPair_58 : decode cX6_addPair 58 = .ok (.getfield 44, 3) := by decide +kernel
theorem dX6_addPair_61 : decode cX6_addPair 61 = .ok (.isub, 1) := by decide +kernel
theorem dX6_addPair_62 : decode cX6_addPair 62 = .ok (.iastore, 1) := by decide +kernel
theorem dX6_addPair_63 : decode cX6_addPair 63 = .ok (.aload_n 0, 1) := by decide +kernel
theorem dX6_addPair_64 : decode cX6_addPair 64 = .ok (.getfield 16, 3) := by decide +kernel
theorem dX6_addPair_67 : decode cX6_addPair 67 = .ok (.aload_n 0, 1) := by decide +kernel
theorem dX6_addPair_68 : decode cX6_addPair 68 = .ok (.getfield 20, 3) := by decide +kernel
theorem dX6_addPair_71 : decode cX6_addPair 71 = .ok (.aload_n 1, 1) := by decide +kernel
theorem dX6_addPair_72 : decode cX6_addPair 72 = .ok (.aload_n 2, 1) := by decide +kernel
theorem dX6_addPair_73 : decode cX6_addPair 73 = .ok (.aload_n 2, 1) := by decide +kernel
theorem dX6_addPair_74 : decode cX6_addPair 74 = .ok (.getfield 47, 3) := by decide +kernel
theorem dX6_addPair_77 : decode cX6_addPair 77 = .ok (.invokevirtual 50, 3) := by decide +kernel
theorem dX6_addPair_80 : decode cX6_addPair 80 = .ok (.lastore, 1) := by decide +kernel
theorem dX6_addPair_81 : decode cX6_addPair 81 = .ok (.aload_n 0, 1) := by decide +kernel
theorem dX6_addPair_82 : decode cX6_addPair 82 = .ok (.dup, 1) := by decide +kernel
theorem dX6_addPair_83 : decode cX6_addPair 83 = .ok (.getfield 20, 3) := by decide +kernel
theorem dX6_addPair_86 : decode cX6_addPair 86 = .ok (.iconst 1, 1) := by decide +kernel
theorem dX6_addPair_87 : decode cX6_addPair 87 = .ok (.iadd, 1) := by decide +kernel
theorem dX6_addPair_88 : decode cX6_addPair 88 = .ok (.putfield 20, 3) := by decide +kernel
theorem dX6_addPair_91 : decode cX6_addPair 91 = .ok (.return_, 1) := by decide +kernel
theorem dX6_waveOf_0 : decode cX6_waveOf 0 = .ok (.getstatic 54, 3) := by decide +kernel
theorem dX6_waveOf_3 : decode cX6_waveOf 3 = .ok (.aload_n 0, 1) := by decide +kernel
theorem dX6_waveOf_4 : decode cX6_waveOf 4 = .ok (.getfield 9, 3) := by decide +kernel
theorem dX6_waveOf_7 : decode cX6_waveOf 7 = .ok (.iload_n 1, 1) := by decide +kernel
theorem dX6_waveOf_8 : decode cX6_waveOf 8 = .ok (.iaload, 1) := by decide +kernel
theorem dX6_waveOf_9 : decode cX6_waveOf 9 = .ok (.iload_n 2, 1) := by decide +kernel
theorem dX6_waveOf_10 : decode cX6_waveOf 10 = .ok (.imul, 1) := by decide +kernel
theorem dX6_waveOf_11 : decode cX6_waveOf 11 = .ok (.aload_n 0, 1) := by decide +kernel
theorem dX6_waveOf_12 : decode cX6_waveOf 12 = .ok (.getfield 13, 3) := by decide +kernel
theorem dX6_waveOf_15 : decode cX6_waveOf 15 = .ok (.iload_n 1, 1) := by decide +kernel
theorem dX6_waveOf_16 : decode cX6_waveOf 16 = .ok (.iaload, 1) := by decide +kernel
theorem dX6_waveOf_17 : decode cX6_waveOf 17 = .ok (.iload_n 3, 1) := by decide +kernel
theorem dX6_waveOf_18 : decode cX6_waveOf 18 = .ok (.imul, 1) := by decide +kernel
theorem dX6_waveOf_19 : decode cX6_waveOf 19 = .ok (.iadd, 1) := by decide +kernel
theorem dX6_waveOf_20 : decode cX6_waveOf 20 = .ok (.bipush 15, 2) := by decide +kernel
theorem dX6_waveOf_22 : decode cX6_waveOf 22 = .ok (.iand, 1) := by decide +kernel
theorem dX6_waveOf_23 : decode cX6_waveOf 23 = .ok (.iaload, 1) := by decide +kernel
theorem dX6_waveOf_24 : decode cX6_waveOf 24 = .ok (.ireturn, 1) := by decide +kernel
theorem dX6_beamAt_0 : decode cX6_beamAt 0 = .ok (.iconst 0, 1) := by decide +kernel
theorem dX6_beamAt_1 : decode cX6_beamAt 1 = .ok (.istore_n 3, 1) := by decide +kernel
theorem dX6_beamAt_2 : decode cX6_beamAt 2 = .ok (.iconst 0, 1) := by decide +kernel
theorem dX6_beamAt_3 : decode cX6_beamAt 3 = .ok (.istore 4, 2) := by decide +kernel
theorem dX6_beamAt_5 : decode cX6_beamAt 5 = .ok (.iload 4, 2) := by decide +kernel
theorem dX6_beamAt_7 : decode cX6_beamAt 7 = .ok (.aload_n 0, 1) := by decide +kernel
theorem dX6_beamAt_8 : decode cX6_beamAt 8 = .ok (.getfield 20, 3) := by decide +kernel
theorem dX6_beamAt_11 : decode cX6_beamAt 11 = .ok (.if_icmp .ge 20, 3) := by decide +kernel
theorem dX6_beamAt_14 : decode cX6_beamAt 14 = .ok (.iload_n 3, 1) := by decide +kernel
theorem dX6_beamAt_15 : decode cX6_beamAt 15 = .ok (.aload_n 0, 1) := by decide +kernel
theorem dX6_beamAt_16 : decode cX6_beamAt 16 = .ok (.iload 4, 2) := by decide +kernel
theorem dX6_beamAt_18 : decode cX6_beamAt 18 = .ok (.iload_n 1, 1) := by decide +kernel
theorem dX6_beamAt_19 : decode cX6_beamAt 19 = .ok (.iload_n 2, 1) := by decide +kernel
theorem dX6_beamAt_20 : decode cX6_beamAt 20 = .ok (.invokevirtual 57, 3) := by decide +kernel
theorem dX6_beamAt_23 : decode cX6_beamAt 23 = .ok (.iadd, 1) := by decide +kernel
theorem dX6_beamAt_24 : decode cX6_beamAt 24 = .ok (.istore_n 3, 1) := by decide +kernel
theorem dX6_beamAt_25 : decode cX6_beamAt 25 = .ok (.iinc 4 1, 3) := by decide +kernel
theorem dX6_beamAt_28 : decode cX6_beamAt 28 = .ok (.goto (-23), 3) := by decide +kernel
theorem dX6_beamAt_31 : decode cX6_beamAt 31 = .ok (.iload_n 3, 1) := by decide +kernel
theorem dX6_beamAt_32 : decode cX6_beamAt 32 = .ok (.ireturn, 1) := by decide +kernel
theorem dX6_productsAt_0 : decode cX6_productsAt 0 = .ok (.lconst 0, 1) := by decide +kernel
theorem dX6_productsAt_1 : decode cX6_productsAt 1 = .ok (.lstore_n 3, 1) := by decide +kernel
theorem dX6_productsAt_2 : decode cX6_productsAt 2 = .ok (.iconst 0, 1) := by decide +kernel
theorem dX6_productsAt_3 : decode cX6_productsAt 3 = .ok (.istore 5, 2) := by decide +kernel
theorem dX6_productsAt_5 : decode cX6_productsAt 5 = .ok (.iload 5, 2) := by decide +kernel
theorem dX6_productsAt_7 : decode cX6_productsAt 7 = .ok (.aload_n 0, 1) := by decide +kernel
theorem dX6_productsAt_8 : decode cX6_productsAt 8 = .ok (.getfield 20, 3) := by decide +kernel
theorem dX6_productsAt_11 : decode cX6_productsAt 11 = .ok (.if_icmp .ge 29, 3) := by decide +kernel
theorem dX6_productsAt_14 : decode cX6_productsAt 14 = .ok (.lload_n 3, 1) := by decide +kernel
theorem dX6_productsAt_15 : decode cX6_productsAt 15 = .ok (.aload_n 0, 1) := by decide +kernel
theorem dX6_productsAt_16 : decode cX6_productsAt 16 = .ok (.getfield 16, 3) := by decide +kernel
theorem dX6_productsAt_19 : decode cX6_productsAt 19 = .ok (.iload 5, 2) := by decide +kernel
theorem dX6_productsAt_21 : decode cX6_productsAt 21 = .ok (.laload, 1) := by decide +kernel
theorem dX6_productsAt_22 : decode cX6_productsAt 22 = .ok (.aload_n 0, 1) := by decide +kernel
theorem dX6_productsAt_23 : decode cX6_productsAt 23 = .ok (.iload 5, 2) := by decide +kernel
theorem dX6_productsAt_25 : decode cX6_productsAt 25 = .ok (.iload_n 1, 1) := by decide +kernel
theorem dX6_productsAt_26 : decode cX6_productsAt 26 = .ok (.iload_n 2, 1) := by decide +kernel
theorem dX6_productsAt_27 : decode cX6_productsAt 27 = .ok (.invokevirtual 57, 3) := by decide +kernel
theorem dX6_productsAt_30 : decode cX6_productsAt 30 = .ok (.i2l, 1) := by decide +kernel
theorem dX6_productsAt_31 : decode cX6_productsAt 31 = .ok (.lmul, 1) := by decide +kernel
theorem dX6_productsAt_32 : decode cX6_productsAt 32 = .ok (.ladd, 1) := by decide +kernel
theorem dX6_productsAt_33 : decode cX6_productsAt 33 = .ok (.lstore_n 3, 1) := by decide +kernel
theorem dX6_productsAt_34 : decode cX6_productsAt 34 = .ok (.iinc 5 1, 3) := by decide +kernel
theorem dX6_productsAt_37 : decode cX6_productsAt 37 = .ok (.goto (-32), 3) := by decide +kernel
theorem dX6_productsAt_40 : decode cX6_productsAt 40 = .ok (.lload_n 3, 1) := by decide +kernel
theorem dX6_productsAt_41 : decode cX6_productsAt 41 = .ok (.lreturn, 1) := by decide +kernel
theorem dX7_init_0 : decode cX7_init 0 = .ok (.aload_n 0, 1) := by decide +kernel
theorem dX7_init_1 : decode cX7_init 1 = .ok (.invokespecial 3, 3) := by decide +kernel
theorem dX7_init_4 : decode cX7_init 4 = .ok (.aload_n 0, 1) := by decide +kernel
theorem dX7_init_5 : decode cX7_init 5 = .ok (.new 9, 3) := by decide +kernel
theorem dX7_init_8 : decode cX7_init 8 = .ok (.dup, 1) := by decide +kernel
theorem dX7_init_9 : decode cX7_init 9 = .ok (.invokespecial 11, 3) := by decide +kernel
theorem dX7_init_12 : decode cX7_init 12 = .ok (.putfield 12, 3) := by decide +kernel
theorem dX7_init_15 : decode cX7_init 15 = .ok (.aload_n 0, 1) := by decide +kernel
theorem dX7_init_16 : decode cX7_init 16 = .ok (.new 16, 3) := by decide +kernel
theorem dX7_init_19 : decode cX7_init 19 = .ok (.dup, 1) := by decide +kernel
theorem dX7_init_20 : decode cX7_init 20 = .ok (.invokespecial 18, 3) := by decide +kernel
theorem dX7_init_23 : decode cX7_init 23 = .ok (.putfield 19, 3) := by decide +kernel
theorem dX7_init_26 : decode cX7_init 26 = .ok (.aload_n 0, 1) := by decide +kernel
theorem dX7_init_27 : decode cX7_init 27 = .ok (.new 23, 3) := by decide +kernel
theorem dX7_init_30 : decode cX7_init 30 = .ok (.dup, 1) := by decide +kernel
theorem dX7_init_31 : decode cX7_init 31 = .ok (.invokespecial 25, 3) := by decide +kernel
theorem dX7_init_34 : decode cX7_init 34 = .ok (.putfield 26, 3) := by decide +kernel
theorem dX7_init_37 : decode cX7_init 37 = .ok (.aload_n 0, 1) := by decide +kernel
theorem dX7_init_38 : decode cX7_init 38 = .ok (.new 30, 3) := by decide +kernel
theorem dX7_init_41 : decode cX7_init 41 = .ok (.dup, 1) := by decide +kernel
theorem dX7_init_42 : decode cX7_init 42 = .ok (.invokespecial 32, 3) := by decide +kernel
theorem dX7_init_45 : decode cX7_init 45 = .ok (.putfield 33, 3) := by decide +kernel
theorem dX7_init_48 : decode cX7_init 48 = .ok (.aload_n 0, 1) := by decide +kernel
theorem dX7_init_49 : decode cX7_init 49 = .ok (.new 37, 3) := by decide +kernel
theorem dX7_init_52 : decode cX7_init 52 = .ok (.dup, 1) := by decide +kernel
theorem dX7_init_53 : decode cX7_init 53 = .ok (.invokespecial 39, 3) := by decide +kernel
theorem dX7_init_56 : decode cX7_init 56 = .ok (.putfield 40, 3) := by decide +kernel
theorem dX7_init_59 : decode cX7_init 59 = .ok (.aload_n 0, 1) := by decide +kernel
theorem dX7_init_60 : decode cX7_init 60 = .ok (.new 44, 3) := by decide +kernel
theorem dX7_init_63 : decode cX7_init 63 = .ok (.dup, 1) := by decide +kernel
theorem dX7_init_64 : decode cX7_init 64 = .ok (.invokespecial 46, 3) := by decide +kernel
theorem dX7_init_67 : decode cX7_init 67 = .ok (.putfield 47, 3) := by decide +kernel
theorem dX7_init_70 : decode cX7_init 70 = .ok (.return_, 1) := by decide +kernel
theorem dX7_dish_0 : decode cX7_dish 0 = .ok (.iload_n 1, 1) := by decide +kernel
theorem dX7_dish_1 : decode cX7_dish 1 = .ok (.bipush (-100), 2) := by decide +kernel
theorem dX7_dish_3 : decode cX7_dish 3 = .ok (.bipush 100, 2) := by decide +kernel
theorem dX7_dish_5 : decode cX7_dish 5 = .ok (.invokestatic 51, 3) := by decide +kernel
theorem dX7_dish_8 : decode cX7_dish 8 = .ok (.ifCond .eq 14, 3) := by decide +kernel
theorem dX7_dish_11 : decode cX7_dish 11 = .ok (.iload_n 2, 1) := by decide +kernel
theorem dX7_dish_12 : decode cX7_dish 12 = .ok (.bipush (-100), 2) := by decide +kernel
theorem dX7_dish_14 : decode cX7_dish 14 = .ok (.bipush 100, 2) := by decide +kernel
theorem dX7_dish_16 : decode cX7_dish 16 = .ok (.invokestatic 51, 3) := by decide +kernel
theorem dX7_dish_19 : decode cX7_dish 19 = .ok (.ifCond .ne 6, 3) := by decide +kernel
theorem dX7_dish_22 : decode cX7_dish 22 = .ok (.bipush (-2), 2) := by decide +kernel
theorem dX7_dish_24 : decode cX7_dish 24 = .ok (.ireturn, 1) := by decide +kernel
theorem dX7_dish_25 : decode cX7_dish 25 = .ok (.aload_n 0, 1) := by decide +kernel
theorem dX7_dish_26 : decode cX7_dish 26 = .ok (.getfield 12, 3) := by decide +kernel
theorem dX7_dish_29 : decode cX7_dish 29 = .ok (.iload_n 1, 1) := by decide +kernel
theorem dX7_dish_30 : decode cX7_dish 30 = .ok (.iload_n 2, 1) := by decide +kernel
theorem dX7_dish_31 : decode cX7_dish 31 = .ok (.invokevirtual 55, 3) := by decide +kernel
theorem dX7_dish_34 : decode cX7_dish 34 = .ok (.ireturn, 1) := by decide +kernel
theorem dX7_tune_0 : decode cX7_tune 0 = .ok (.aload_n 0, 1) := by decide +kernel
theorem dX7_tune_1 : decode cX7_tune 1 = .ok (.getfield 12, 3) := by decide +kernel
theorem dX7_tune_4 : decode cX7_tune 4 = .ok (.iload_n 1, 1) := by decide +kernel
theorem dX7_tune_5 : decode cX7_tune 5 = .ok (.invokevirtual 59, 3) := by decide +kernel
theorem dX7_tune_8 : decode cX7_tune 8 = .ok (.astore 4, 2) := by decide +kernel
theorem dX7_tune_10 : decode cX7_tune 10 = .ok (.aload 4, 2) := by decide +kernel
theorem dX7_tune_12 : decode cX7_tune 12 = .ok (.ifnull 13, 3) := by decide +kernel
theorem dX7_tune_15 : decode cX7_tune 15 = .ok (.iload_n 2, 1) := by decide +kernel
theorem dX7_tune_16 : decode cX7_tune 16 = .ok (.iconst 0, 1) := by decide +kernel
theorem dX7_tune_17 : decode cX7_tune 17 = .ok (.bipush 30, 2) := by decide +kernel
theorem dX7_tune_19 : decode cX7_tune 19 = .ok (.invokestatic 51, 3) := by decide +kernel
theorem dX7_tune_22 : decode cX7_tune 22 = .ok (.ifCond .ne 6, 3) := by decide +kernel
theorem dX7_tune_25 : decode cX7_tune 25 = .ok (.bipush (-2), 2) := by decide +kernel
theorem dX7_tune_27 : decode cX7_tune 27 = .ok (.ireturn, 1) := by decide +kernel
theorem dX7_tune_28 : decode cX7_tune 28 = .ok (.iload_n 3, 1) := by decide +kernel
theorem dX7_tune_29 : decode cX7_tune 29 = .ok (.ifCond .eq 14, 3) := by decide +kernel
theorem dX7_tune_32 : decode cX7_tune 32 = .ok (.iload_n 3, 1) := by decide +kernel
theorem dX7_tune_33 : decode cX7_tune 33 = .ok (.bipush (-9), 2) := by decide +kernel
theorem dX7_tune_35 : decode cX7_tune 35 = .ok (.bipush 9, 2) := by decide +kernel
theorem dX7_tune_37 : decode cX7_tune 37 = .ok (.invokestatic 51, 3) := by decide +kernel
theorem dX7_tune_40 : decode cX7_tune 40 = .ok (.ifCond .ne 6, 3) := by decide +kernel
theorem dX7_tune_43 : decode cX7_tune 43 = .ok (.bipush (-2), 2) := by decide +kernel
theorem dX7_tune_45 : decode cX7_tune 45 = .ok (.ireturn, 1) := by decide +kernel
theorem dX7_tune_46 : decode cX7_tune 46 = .ok (.aload 4, 2) := by decide +kernel
theorem dX7_tune_48 : decode cX7_tune 48 = .ok (.iload_n 2, 1) := by decide +kernel
theorem dX7_tune_49 : decode cX7_tune 49 = .ok (.putfield 63, 3) := by decide +kernel
theorem dX7_tune_52 : decode cX7_tune 52 = .ok (.aload 4, 2) := by decide +kernel
theorem dX7_tune_54 : decode cX7_tune 54 = .ok (.iload_n 3, 1) := by decide +kernel
theorem dX7_tune_55 : decode cX7_tune 55 = .ok (.putfield 69, 3) := by decide +kernel
theorem dX7_tune_58 : decode cX7_tune 58 = .ok (.iconst 1, 1) := by decide +kernel
theorem dX7_tune_59 : decode cX7_tune 59 = .ok (.ireturn, 1) := by decide +kernel
theorem dX7_reel_0 : decode cX7_reel 0 = .ok (.aload_n 0, 1) := by decide +kernel
theorem dX7_reel_1 : decode cX7_reel 1 = .ok (.getfield 12, 3) := by decide +kernel
theorem dX7_reel_4 : decode cX7_reel 4 = .ok (.iload_n 1, 1) := by decide +kernel
theorem dX7_reel_5 : decode cX7_reel 5 = .ok (.invokevirtual 59, 3) := by decide +kernel
theorem dX7_reel_8 : decode cX7_reel 8 = .ok (.astore 4, 2) := by decide +kernel
theorem dX7_reel_10 : decode cX7_reel 10 = .ok (.aload 4, 2) := by decide +kernel
theorem dX7_reel_12 : decode cX7_reel 12 = .ok (.ifnull 16, 3) := by decide +kernel
theorem dX7_reel_15 : decode cX7_reel 15 = .ok (.iload_n 2, 1) := by decide +kernel
theorem dX7_reel_16 : decode cX7_reel 16 = .ok (.invokestatic 72, 3) := by decide +kernel
theorem dX7_reel_19 : decode cX7_reel 19 = .ok (.ifCond .eq 9, 3) := by decide +kernel
theorem dX7_reel_22 : decode cX7_reel 22 = .ok (.iload_n 3, 1) := by decide +kernel
theorem dX7_reel_23 : decode cX7_reel 23 = .ok (.bipush 100, 2) := by decide +kernel
theorem dX7_reel_25 : decode cX7_reel 25 = .ok (.if_icmp .le 6, 3) := by decide +kernel
theorem dX7_reel_28 : decode cX7_reel 28 = .ok (.bipush (-2), 2) := by decide +kernel
theorem dX7_reel_30 : decode cX7_reel 30 = .ok (.ireturn, 1) := by decide +kernel
theorem dX7_reel_31 : decode cX7_reel 31 = .ok (.iload_n 3, 1) := by decide +kernel
theorem dX7_reel_32 : decode cX7_reel 32 = .ok (.ifCond .ge 9, 3) := by decide +kernel
theorem dX7_reel_35 : decode cX7_reel 35 = .ok (.aload_n 0, 1) := by decide +kernel
theorem dX7_reel_36 : decode cX7_reel 36 = .ok (.iconst 5, 1) := by decide +kernel
theorem dX7_reel_37 : decode cX7_reel 37 = .ok (.invokevirtual 76, 3) := by decide +kernel
theorem dX7_reel_40 : decode cX7_reel 40 = .ok (.ireturn, 1) := by decide +kernel
theorem dX7_reel_41 : decode cX7_reel 41 = .ok (.aload 4, 2) := by decide +kernel
theorem dX7_reel_43 : decode cX7_reel 43 = .ok (.iload_n 2, 1) := by decide +kernel
theorem dX7_reel_44 : decode cX7_reel 44 = .ok (.iload_n 3, 1) := by decide +kernel
theorem dX7_reel_45 : decode cX7_reel 45 = .ok (.invokevirtual 80, 3) := by decide +kernel
theorem dX7_reel_48 : decode cX7_reel 48 = .ok (.iload_n 3, 1) := by decide +kernel
theorem dX7_reel_49 : decode cX7_reel 49 = .ok (.ireturn, 1) := by decide +kernel
theorem dX7_lose_0 : decode cX7_lose 0 = .ok (.aload_n 0, 1) := by decide +kernel
theorem dX7_lose_1 : decode cX7_lose 1 = .ok (.getfield 12, 3) := by decide +kernel
theorem dX7_lose_4 : decode cX7_lose 4 = .ok (.iload_n 1, 1) := by decide +kernel
theorem dX7_lose_5 : decode cX7_lose 5 = .ok (.invokevirtual 59, 3) := by decide +kernel
theorem dX7_lose_8 : decode cX7_lose 8 = .ok (.astore_n 2, 1) := by decide +kernel
theorem dX7_lose_9 : decode cX7_lose 9 = .ok (.aload_n 2, 1) := by decide +kernel
theorem dX7_lose_10 : decode cX7_lose 10 = .ok (.ifnonnull 6, 3) := by decide +kernel
theorem dX7_lose_13 : decode cX7_lose 13 = .ok (.bipush (-2), 2) := by decide +kernel
theorem dX7_lose_15 : decode cX7_lose 15 = .ok (.ireturn, 1) := by decide +kernel
theorem dX7_lose_16 : decode cX7_lose 16 = .ok (.aload_n 2, 1) := by decide +kernel
theorem dX7_lose_17 : decode cX7_lose 17 = .ok (.invokevirtual 84, 3) := by decide +kernel
theorem dX7_lose_20 : decode cX7_lose 20 = .ok (.ifCond .eq 9, 3) := by decide +kernel
theorem dX7_lose_23 : decode cX7_lose 23 = .ok (.aload_n 0, 1) := by decide +kernel
theorem dX7_lose_24 : decode cX7_lose 24 = .ok (.iconst 1, 1) := by decide +kernel
theorem dX7_lose_25 : decode cX7_lose 25 = .ok (.invokevirtual 76, 3) := by decide +kernel
theorem dX7_lose_28 : decode cX7_lose 28 = .ok (.ireturn, 1) := by decide +kernel
theorem dX7_lose_29 : decode cX7_lose 29 = .ok (.aload_n 2, 1) := by decide +kernel
theorem dX7_lose_30 : decode cX7_lose 30 = .ok (.getfield 88, 3) := by decide +kernel
theorem dX7_lose_33 : decode cX7_lose 33 = .ok (.istore_n 3, 1) := by decide +kernel
theorem dX7_lose_34 : decode cX7_lose 34 = .ok (.aload_n 2, 1) := by decide +kernel
theorem dX7_lose_35 : decode cX7_lose 35 = .ok (.iconst (-1), 1) := by decide +kernel
theorem dX7_lose_36 : decode cX7_lose 36 = .ok (.putfield 88, 3) := by decide +kernel
theorem dX7_lose_39 : decode cX7_lose 39 = .ok (.iload_n 3, 1) := by decide +kernel
theorem dX7_lose_40 : decode cX7_lose 40 = .ok (.ireturn, 1) := by decide +kernel
theorem dX7_put_0 : decode cX7_put 0 = .ok (.aload_n 0, 1) := by decide +kernel
theorem dX7_put_1 : decode cX7_put 1 = .ok (.getfield 12, 3) := by decide +kernel
theorem dX7_put_4 : decode cX7_put 4 = .ok (.iload_n 1, 1) := by decide +kernel
theorem dX7_put_5 : decode cX7_put 5 = .ok (.invokevirtual 59, 3) := by decide +kernel
theorem dX7_put_8 : decode cX7_put 8 = .ok (.astore 5, 2) := by decide +kernel
theorem dX7_put_10 : decode cX7_put 10 = .ok (.aload 5, 2) := by decide +kernel
theorem dX7_put_12 : decode cX7_put 12 = .ok (.ifnull 10, 3) := by decide +kernel
theorem dX7_put_15 : decode cX7_put 15 = .ok (.iload_n 2, 1) := by decide +kernel
theorem dX7_put_16 : decode cX7_put 16 = .ok (.invokestatic 72, 3) := by decide +kernel
theorem dX7_put_19 : decode cX7_put 19 = .ok (.ifCond .ne 6, 3) := by decide +kernel
theorem dX7_put_22 : decode cX7_put 22 = .ok (.bipush (-2), 2) := by decide +kernel
theorem dX7_put_24 : decode cX7_put 24 = .ok (.ireturn, 1) := by decide +kernel
theorem dX7_put_25 : decode cX7_put 25 = .ok (.aload 5, 2) := by decide +kernel
theorem dX7_put_27 : decode cX7_put 27 = .ok (.iload_n 2, 1) := by decide +kernel
theorem dX7_put_28 : decode cX7_put 28 = .ok (.iload_n 3, 1) := by decide +kernel
theorem dX7_put_29 : decode cX7_put 29 = .ok (.invokevirtual 91, 3) := by decide +kernel
theorem dX7_put_32 : decode cX7_put 32 = .ok (.istore 6, 2) := by decide +kernel
theorem dX7_put_34 : decode cX7_put 34 = .ok (.iload 6, 2) := by decide +kernel
theorem dX7_put_36 : decode cX7_put 36 = .ok (.ifCond .eq 10, 3) := by decide +kernel
theorem dX7_put_39 : decode cX7_put 39 = .ok (.aload_n 0, 1) := by decide +kernel
theorem dX7_put_40 : decode cX7_put 40 = .ok (.iload 6, 2) := by decide +kernel
theorem dX7_put_42 : decode cX7_put 42 = .ok (.invokevirtual 76, 3) := by decide +kernel
theorem dX7_put_45 : decode cX7_put 45 = .ok (.ireturn, 1) := by decide +kernel
theorem dX7_put_46 : decode cX7_put 46 = .ok (.aload 5, 2) := by decide +kernel
theorem dX7_put_48 : decode cX7_put 48 = .ok (.iload_n 3, 1) := by decide +kernel
theorem dX7_put_49 : decode cX7_put 49 = .ok (.iload 4, 2) := by decide +kernel
theorem dX7_put_51 : decode cX7_put 51 = .ok (.invokevirtual 94, 3) := by decide +kernel
theorem dX7_put_54 : decode cX7_put 54 = .ok (.iconst 1, 1) := by decide +kernel
theorem dX7_put_55 : decode cX7_put 55 = .ok (.ireturn, 1) := by decide +kernel
theorem dX7_get_0 : decode cX7_get 0 = .ok (.aload_n 0, 1) := by decide +kernel
theorem dX7_get_1 : decode cX7_get 1 = .ok (.getfield 12, 3) := by decide +kernel
theorem dX7_get_4 : decode cX7_get 4 = .ok (.iload_n 1, 1) := by decide +kernel
theorem dX7_get_5 : decode cX7_get 5 = .ok (.invokevirtual 59, 3) := by decide +kernel
theorem dX7_get_8 : decode cX7_get 8 = .ok (.astore 4, 2) := by decide +kernel
theorem dX7_get_10 : decode cX7_get 10 = .ok (.aload 4, 2) := by decide +kernel
theorem dX7_get_12 : decode cX7_get 12 = .ok (.ifnull 10, 3) := by decide +kernel
theorem dX7_get_15 : decode cX7_get 15 = .ok (.iload_n 2, 1) := by decide +kernel
theorem dX7_get_16 : decode cX7_get 16 = .ok (.invokestatic 72, 3) := by decide +kernel
theorem dX7_get_19 : decode cX7_get 19 = .ok (.ifCond .ne 6, 3) := by decide +kernel
theorem dX7_get_22 : decode cX7_get 22 = .ok (.ldc 97, 2) := by decide +kernel
theorem dX7_get_24 : decode cX7_get 24 = .ok (.ireturn, 1) := by decide +kernel
theorem dX7_get_25 : decode cX7_get 25 = .ok (.aload 4, 2) := by decide +kernel
theorem dX7_get_27 : decode cX7_get 27 = .ok (.iload_n 2, 1) := by decide +kernel
theorem dX7_get_28 : decode cX7_get 28 = .ok (.iload_n 3, 1) := by decide +kernel
theorem dX7_get_29 : decode cX7_get 29 = .ok (.invokevirtual 91, 3) := by decide +kernel
theorem dX7_get_32 : decode cX7_get 32 = .ok (.istore 5, 2) := by decide +kernel
theorem dX7_get_34 : decode cX7_get 34 = .ok (.iload 5, 2) := by decide +kernel
theorem dX7_get_36 : decode cX7_get 36 = .ok (.ifCond .eq 13, 3) := by decide +kernel
theorem dX7_get_39 : decode cX7_get 39 = .ok (.aload_n 0, 1) := by decide +kernel
theorem dX7_get_40 : decode cX7_get 40 = .ok (.iload 5, 2) := by decide +kernel
theorem dX7_get_42 : decode cX7_get 42 = .ok (.invokevirtual 76, 3) := by decide +kernel
theorem dX7_get_45 : decode cX7_get 45 = .ok (.pop, 1) := by decide +kernel
theorem dX7_get_46 : decode cX7_get 46 = .ok (.ldc 97, 2) := by decide +kernel
theorem dX7_get_48 : decode cX7_get 48 = .ok (.ireturn, 1) := by decide +kernel
theorem dX7_get_49 : decode cX7_get 49 = .ok (.aload 4, 2) := by decide +kernel
theorem dX7_get_51 : decode cX7_get 51 = .ok (.iload_n 3, 1) := by decide +kernel
theorem dX7_get_52 : decode cX7_get 52 = .ok (.invokevirtual 98, 3) := by decide +kernel
theorem dX7_get_55 : decode cX7_get 55 = .ok (.ireturn, 1) := by decide +kernel
theorem dX7_copy_0 : decode cX7_copy 0 = .ok (.aload_n 0, 1) := by decide +kernel
theorem dX7_copy_1 : decode cX7_copy 1 = .ok (.getfield 12, 3) := by decide +kernel
theorem dX7_copy_4 : decode cX7_copy 4 = .ok (.iload_n 1, 1) := by decide +kernel
theorem dX7_copy_5 : decode cX7_copy 5 = .ok (.invokevirtual 59, 3) := by decide +kernel
theorem dX7_copy_8 : decode cX7_copy 8 = .ok (.astore 6, 2) := by decide +kernel
theorem dX7_copy_10 : decode cX7_copy 10 = .ok (.aload_n 0, 1) := by decide +kernel
theorem dX7_copy_11 : decode cX7_copy 11 = .ok (.getfield 12, 3) := by decide +kernel
theorem dX7_copy_14 : decode cX7_copy 14 = .ok (.iload_n 3, 1) := by decide +kernel
theorem dX7_copy_15 : decode cX7_copy 15 = .ok (.invokevirtual 59, 3) := by decide +kernel
theorem dX7_copy_18 : decode cX7_copy 18 = .ok (.astore 7, 2) := by decide +kernel
theorem dX7_copy_20 : decode cX7_copy 20 = .ok (.aload 6, 2) := by decide +kernel
theorem dX7_copy_22 : decode cX7_copy 22 = .ok (.ifnull 8, 3) := by decide +kernel
theorem dX7_copy_25 : decode cX7_copy 25 = .ok (.aload 7, 2) := by decide +kernel
theorem dX7_copy_27 : decode cX7_copy 27 = .ok (.ifnonnull 6, 3) := by decide +kernel
theorem dX7_copy_30 : decode cX7_copy 30 = .ok (.bipush (-2), 2) := by decide +kernel
theorem dX7_copy_32 : decode cX7_copy 32 = .ok (.ireturn, 1) := by decide +kernel
theorem dX7_copy_33 : decode cX7_copy 33 = .ok (.aload 6, 2) := by decide +kernel
theorem dX7_copy_35 : decode cX7_copy 35 = .ok (.invokevirtual 84, 3) := by decide +kernel
theorem dX7_copy_38 : decode cX7_copy 38 = .ok (.ifCond .ne 11, 3) := by decide +kernel
theorem dX7_copy_41 : decode cX7_copy 41 = .ok (.aload 7, 2) := by decide +kernel
theorem dX7_copy_43 : decode cX7_copy 43 = .ok (.invokevirtual 84, 3) := by decide +kernel
theorem dX7_copy_46 : decode cX7_copy 46 = .ok (.ifCond .eq 9, 3) := by decide +kernel
theorem dX7_copy_49 : decode cX7_copy 49 = .ok (.aload_n 0, 1) := by decide +kernel
theorem dX7_copy_50 : decode cX7_copy 50 = .ok (.iconst 1, 1) := by decide +kernel
theorem dX7_copy_51 : decode cX7_copy 51 = .ok (.invokevirtual 76, 3) := by decide +kernel
theorem dX7_copy_54 : decode cX7_copy 54 = .ok (.ireturn, 1) := by decide +kernel
theorem dX7_copy_55 : decode cX7_copy 55 = .ok (.aload 6, 2) := by decide +kernel
theorem dX7_copy_57 : decode cX7_copy 57 = .ok (.getfield 101, 3) := by decide +kernel
theorem dX7_copy_60 : decode cX7_copy 60 = .ok (.aload 7, 2) := by decide +kernel
theorem dX7_copy_62 : decode cX7_copy 62 = .ok (.getfield 101, 3) := by decide +kernel
theorem dX7_copy_65 : decode cX7_copy 65 = .ok (.if_icmp .eq 9, 3) := by decide +kernel
theorem dX7_copy_68 : decode cX7_copy 68 = .ok (.aload_n 0, 1) := by decide +kernel
theorem dX7_copy_69 : decode cX7_copy 69 = .ok (.iconst 4, 1) := by decide +kernel
theorem dX7_copy_70 : decode cX7_copy 70 = .ok (.invokevirtual 76, 3) := by decide +kernel
theorem dX7_copy_73 : decode cX7_copy 73 = .ok (.ireturn, 1) := by decide +kernel
theorem dX7_copy_74 : decode cX7_copy 74 = .ok (.aload 6, 2) := by decide +kernel
theorem dX7_copy_76 : decode cX7_copy 76 = .ok (.iload_n 2, 1) := by decide +kernel
theorem dX7_copy_77 : decode cX7_copy 77 = .ok (.iload 5, 2) := by decide +kernel
theorem dX7_copy_79 : decode cX7_copy 79 = .ok (.invokevirtual 104, 3) := by decide +kernel
theorem dX7_copy_82 : decode cX7_copy 82 = .ok (.ifCond .eq 15, 3) := by decide +kernel
theorem dX7_copy_85 : decode cX7_copy 85 = .ok (.aload 7, 2) := by decide +kernel
theorem dX7_copy_87 : decode cX7_copy 87 = .ok (.iload 4, 2) := by decide +kernel
theorem dX7_copy_89 : decode cX7_copy 89 = .ok (.iload 5, 2) := by decide +kernel
theorem dX7_copy_91 : decode cX7_copy 91 = .ok (.invokevirtual 104, 3) := by decide +kernel
theorem dX7_copy_94 : decode cX7_copy 94 = .ok (.ifCond .ne 9, 3) := by decide +kernel
theorem dX7_copy_97 : decode cX7_copy 97 = .ok (.aload_n 0, 1) := by decide +kernel
theorem dX7_copy_98 : decode cX7_copy 98 = .ok (.iconst 2, 1) := by decide +kernel
theorem dX7_copy_99 : decode cX7_copy 99 = .ok (.invokevirtual 76, 3) := by decide +kernel
theorem dX7_copy_102 : decode cX7_copy 102 = .ok (.ireturn, 1) := by decide +kernel
theorem dX7_copy_103 : decode cX7_copy 103 = .ok (.aload 6, 2) := by decide +kernel
theorem dX7_copy_105 : decode cX7_copy 105 = .ok (.getfield 108, 3) := by decide +kernel
theorem dX7_copy_108 : decode cX7_copy 108 = .ok (.iload_n 2, 1) := by decide +kernel
theorem dX7_copy_109 : decode cX7_copy 109 = .ok (.aload 7, 2) := by decide +kernel
theorem dX7_copy_111 : decode cX7_copy 111 = .ok (.getfield 108, 3) := by decide +kernel
theorem dX7_copy_114 : decode cX7_copy 114 = .ok (.iload 4, 2) := by decide +kernel
theorem dX7_copy_116 : decode cX7_copy 116 = .ok (.iload 5, 2) := by decide +kernel
theorem dX7_copy_118 : decode cX7_copy 118 = .ok (.invokestatic 112, 3) := by decide +kernel
theorem dX7_copy_121 : decode cX7_copy 121 = .ok (.iconst 1, 1) := by decide +kernel
theorem dX7_copy_122 : decode cX7_copy 122 = .ok (.ireturn, 1) := by decide +kernel
theorem dX7_flag_0 : decode cX7_flag 0 = .ok (.aload_n 0, 1) := by decide +kernel
theorem dX7_flag_1 : decode cX7_flag 1 = .ok (.getfield 12, 3) := by decide +kernel
theorem dX7_flag_4 : decode cX7_flag 4 = .ok (.iload_n 1, 1) := by decide +kernel
theorem dX7_flag_5 : decode cX7_flag 5 = .ok (.invokevirtual 59, 3) := by decide +kernel
theorem dX7_flag_8 : decode cX7_flag 8 = .ok (.astore 4, 2) := by decide +kernel
theorem dX7_flag_10 : decode cX7_flag 10 = .ok (.aload 4, 2) := by decide +kernel
theorem dX7_flag_12 : decode cX7_flag 12 = .ok (.ifnull 22, 3) := by decide +kernel
theorem dX7_flag_15 : decode cX7_flag 15 = .ok (.iload_n 3, 1) := by decide +kernel
theorem dX7_flag_16 : decode cX7_flag 16 = .ok (.iconst 0, 1) := by decide +kernel
theorem dX7_flag_17 : decode cX7_flag 17 = .ok (.bipush 99, 2) := by decide +kernel
theorem dX7_flag_19 : decode cX7_flag 19 = .ok (.invokestatic 51, 3) := by decide +kernel
theorem dX7_flag_22 : decode cX7_flag 22 = .ok (.ifCond .eq 12, 3) := by decide +kernel
theorem dX7_flag_25 : decode cX7_flag 25 = .ok (.iload_n 2, 1) := by decide +kernel
theorem dX7_flag_26 : decode cX7_flag 26 = .ok (.iconst 0, 1) := by decide +kernel
theorem dX7_flag_27 : decode cX7_flag 27 = .ok (.iload_n 3, 1) := by decide +kernel
theorem dX7_flag_28 : decode cX7_flag 28 = .ok (.invokestatic 51, 3) := by decide +kernel
theorem dX7_flag_31 : decode cX7_flag 31 = .ok (.ifCond .ne 6, 3) := by decide +kernel
theorem dX7_flag_34 : decode cX7_flag 34 = .ok (.bipush (-2), 2) := by decide +kernel
theorem dX7_flag_36 : decode cX7_flag 36 = .ok (.ireturn, 1) := by decide +kernel
theorem dX7_flag_37 : decode cX7_flag 37 = .ok (.aload_n 0, 1) := by decide +kernel
theorem dX7_flag_38 : decode cX7_flag 38 = .ok (.getfield 12, 3) := by decide +kernel
theorem dX7_flag_41 : decode cX7_flag 41 = .ok (.aload 4, 2) := by decide +kernel
theorem dX7_flag_43 : decode cX7_flag 43 = .ok (.iload_n 2, 1) := by decide +kernel
theorem dX7_flag_44 : decode cX7_flag 44 = .ok (.iload_n 3, 1) := by decide +kernel
theorem dX7_flag_45 : decode cX7_flag 45 = .ok (.invokevirtual 118, 3) := by decide +kernel
theorem dX7_flag_48 : decode cX7_flag 48 = .ok (.ireturn, 1) := by decide +kernel
theorem dX7_unflag_0 : decode cX7_unflag 0 = .ok (.aload_n 0, 1) := by decide +kernel
theorem dX7_unflag_1 : decode cX7_unflag 1 = .ok (.getfield 12, 3) := by decide +kernel
theorem dX7_unflag_4 : decode cX7_unflag 4 = .ok (.invokevirtual 122, 3) := by decide +kernel
theorem dX7_unflag_7 : decode cX7_unflag 7 = .ok (.ireturn, 1) := by decide +kernel
theorem dX7_ticks_0 : decode cX7_ticks 0 = .ok (.aload_n 0, 1) := by decide +kernel
theorem dX7_ticks_1 : decode cX7_ticks 1 = .ok (.getfield 12, 3) := by decide +kernel
theorem dX7_ticks_4 : decode cX7_ticks 4 = .ok (.iload_n 1, 1) := by decide +kernel
theorem dX7_ticks_5 : decode cX7_ticks 5 = .ok (.invokevirtual 59, 3) := by decide +kernel
theorem dX7_ticks_8 : decode cX7_ticks 8 = .ok (.astore_n 3, 1) := by decide +kernel
theorem dX7_ticks_9 : decode cX7_ticks 9 = .ok (.aload_n 0, 1) := by decide +kernel
theorem dX7_ticks_10 : decode cX7_ticks 10 = .ok (.getfield 12, 3) := by decide +kernel
theorem dX7_ticks_13 : decode cX7_ticks 13 = .ok (.iload_n 2, 1) := by decide +kernel
theorem dX7_ticks_14 : decode cX7_ticks 14 = .ok (.invokevirtual 59, 3) := by decide +kernel
theorem dX7_ticks_17 : decode cX7_ticks 17 = .ok (.astore 4, 2) := by decide +kernel
theorem dX7_ticks_19 : decode cX7_ticks 19 = .ok (.aload_n 3, 1) := by decide +kernel
theorem dX7_ticks_20 : decode cX7_ticks 20 = .ok (.ifnull 8, 3) := by decide +kernel
theorem dX7_ticks_23 : decode cX7_ticks 23 = .ok (.aload 4, 2) := by decide +kernel
theorem dX7_ticks_25 : decode cX7_ticks 25 = .ok (.ifnonnull 6, 3) := by decide +kernel
theorem dX7_ticks_28 : decode cX7_ticks 28 = .ok (.bipush (-2), 2) := by decide +kernel
theorem dX7_ticks_30 : decode cX7_ticks 30 = .ok (.ireturn, 1) := by decide +kernel
theorem dX7_ticks_31 : decode cX7_ticks 31 = .ok (.aload_n 3, 1) := by decide +kernel
theorem dX7_ticks_32 : decode cX7_ticks 32 = .ok (.aload 4, 2) := by decide +kernel
theorem dX7_ticks_34 : decode cX7_ticks 34 = .ok (.invokevirtual 126, 3) := by decide +kernel
theorem dX7_ticks_37 : decode cX7_ticks 37 = .ok (.ireturn, 1) := by decide +kernel
theorem dX7_product_0 : decode cX7_product 0 = .ok (.aload_n 0, 1) := by decide +kernel
theorem dX7_product_1 : decode cX7_product 1 = .ok (.getfield 12, 3) := by decide +kernel
theorem dX7_product_4 : decode cX7_product 4 = .ok (.iload_n 1, 1) := by decide +kernel
theorem dX7_product_5 : decode cX7_product 5 = .ok (.invokevirtual 59, 3) := by decide +kernel
theorem dX7_product_8 : decode cX7_product 8 = .ok (.astore_n 3, 1) := by decide +kernel
theorem dX7_product_9 : decode cX7_product 9 = .ok (.aload_n 0, 1) := by decide +kernel
theorem dX7_product_10 : decode cX7_product 10 = .ok (.getfield 12, 3) := by decide +kernel
theorem dX7_product_13 : decode cX7_product 13 = .ok (.iload_n 2, 1) := by decide +kernel
theorem dX7_product_14 : decode cX7_product 14 = .ok (.invokevirtual 59, 3) := by decide +kernel
theorem dX7_product_17 : decode cX7_product 17 = .ok (.astore 4, 2) := by decide +kernel
theorem dX7_product_19 : decode cX7_product 19 = .ok (.aload_n 3, 1) := by decide +kernel
theorem dX7_product_20 : decode cX7_product 20 = .ok (.ifnull 8, 3) := by decide +kernel
theorem dX7_product_23 : decode cX7_product 23 = .ok (.aload 4, 2) := by decide +kernel
theorem dX7_product_25 : decode cX7_product 25 = .ok (.ifnonnull 7, 3) := by decide +kernel
theorem dX7_product_28 : decode cX7_product 28 = .ok (.ldc2_w 130, 3) := by decide +kernel
theorem dX7_product_31 : decode cX7_product 31 = .ok (.lreturn, 1) := by decide +kernel
theorem dX7_product_32 : decode cX7_product 32 = .ok (.aload_n 3, 1) := by decide +kernel
theorem dX7_product_33 : decode cX7_product 33 = .ok (.aload 4, 2) := by decide +kernel
theorem dX7_product_35 : decode cX7_product 35 = .ok (.aload 4, 2) := by decide +kernel
theorem dX7_product_37 : decode cX7_product 37 = .ok (.getfield 63, 3) := by decide +kernel
theorem dX7_product_40 : decode cX7_product 40 = .ok (.invokevirtual 132, 3) := by decide +kernel
theorem dX7_product_43 : decode cX7_product 43 = .ok (.lreturn, 1) := by decide +kernel
theorem dX7_delay_0 : decode cX7_delay 0 = .ok (.aload_n 0, 1) := by decide +kernel
theorem dX7_delay_1 : decode cX7_delay 1 = .ok (.getfield 12, 3) := by decide +kernel
theorem dX7_delay_4 : decode cX7_delay 4 = .ok (.iload_n 1, 1) := by decide +kernel
theorem dX7_delay_5 : decode cX7_delay 5 = .ok (.invokevirtual 59, 3) := by decide +kernel
theorem dX7_delay_8 : decode cX7_delay 8 = .ok (.astore_n 3, 1) := by decide +kernel
theorem dX7_delay_9 : decode cX7_delay 9 = .ok (.aload_n 0, 1) := by decide +kernel
theorem dX7_delay_10 : decode cX7_delay 10 = .ok (.getfield 12, 3) := by decide +kernel
theorem dX7_delay_13 : decode cX7_delay 13 = .ok (.iload_n 2, 1) := by decide +kernel
theorem dX7_delay_14 : decode cX7_delay 14 = .ok (.invokevirtual 59, 3) := by decide +kernel
theorem dX7_delay_17 : decode cX7_delay 17 = .ok (.astore 4, 2) := by decide +kernel
theorem dX7_delay_19 : decode cX7_delay 19 = .ok (.aload_n 3, 1) := by decide +kernel
theorem dX7_delay_20 : decode cX7_delay 20 = .ok (.ifnull 8, 3) := by decide +kernel
theorem dX7_delay_23 : decode cX7_delay 23 = .ok (.aload 4, 2) := by decide +kernel
theorem dX7_delay_25 : decode cX7_delay 25 = .ok (.ifnonnull 6, 3) := by decide +kernel
theorem dX7_delay_28 : decode cX7_delay 28 = .ok (.bipush (-2), 2) := by decide +kernel
theorem dX7_delay_30 : decode cX7_delay 30 = .ok (.ireturn, 1) := by decide +kernel
theorem dX7_delay_31 : decode cX7_delay 31 = .ok (.aload_n 3, 1) := by decide +kernel
theorem dX7_delay_32 : decode cX7_delay 32 = .ok (.aload 4, 2) := by decide +kernel
theorem dX7_delay_34 : decode cX7_delay 34 = .ok (.invokevirtual 136, 3) := by decide +kernel
theorem dX7_delay_37 : decode cX7_delay 37 = .ok (.ireturn, 1) := by decide +kernel
theorem dX7_three_0 : decode cX7_three 0 = .ok (.aload_n 0, 1) := by decide +kernel
theorem dX7_three_1 : decode cX7_three 1 = .ok (.getfield 12, 3) := by decide +kernel
theorem dX7_three_4 : decode cX7_three 4 = .ok (.iload_n 1, 1) := by decide +kernel
theorem dX7_three_5 : decode cX7_three 5 = .ok (.invokevirtual 59, 3) := by decide +kernel
theorem dX7_three_8 : decode cX7_three 8 = .ok (.astore 4, 2) := by decide +kernel
theorem dX7_three_10 : decode cX7_three 10 = .ok (.aload_n 0, 1) := by decide +kernel
theorem dX7_three_11 : decode cX7_three 11 = .ok (.getfield 12, 3) := by decide +kernel
theorem dX7_three_14 : decode cX7_three 14 = .ok (.iload_n 2, 1) := by decide +kernel
theorem dX7_three_15 : decode cX7_three 15 = .ok (.invokevirtual 59, 3) := by decide +kernel
theorem dX7_three_18 : decode cX7_three 18 = .ok (.astore 5, 2) := by decide +kernel
theorem dX7_three_20 : decode cX7_three 20 = .ok (.aload_n 0, 1) := by decide +kernel
theorem dX7_three_21 : decode cX7_three 21 = .ok (.getfield 12, 3) := by decide +kernel
theorem dX7_three_24 : decode cX7_three 24 = .ok (.iload_n 3, 1) := by decide +kernel
theorem dX7_three_25 : decode cX7_three 25 = .ok (.invokevirtual 59, 3) := by decide +kernel
theorem dX7_three_28 : decode cX7_three 28 = .ok (.astore 6, 2) := by decide +kernel
theorem dX7_three_30 : decode cX7_three 30 = .ok (.aload 4, 2) := by decide +kernel
theorem dX7_three_32 : decode cX7_three 32 = .ok (.ifnull 13, 3) := by decide +kernel
theorem dX7_three_35 : decode cX7_three 35 = .ok (.aload 5, 2) := by decide +kernel
theorem dX7_three_37 : decode cX7_three 37 = .ok (.ifnull 8, 3) := by decide +kernel
theorem dX7_three_40 : decode cX7_three 40 = .ok (.aload 6, 2) := by decide +kernel
theorem dX7_three_42 : decode cX7_three 42 = .ok (.ifnonnull 6, 3) := by decide +kernel
theorem dX7_three_45 : decode cX7_three 45 = .ok (.bipush (-2), 2) := by decide +kernel
theorem dX7_three_47 : decode cX7_three 47 = .ok (.ireturn, 1) := by decide +kernel
theorem dX7_three_48 : decode cX7_three 48 = .ok (.iload_n 1, 1) := by decide +kernel
theorem dX7_three_49 : decode cX7_three 49 = .ok (.iload_n 2, 1) := by decide +kernel
theorem dX7_three_50 : decode cX7_three 50 = .ok (.if_icmp .eq 13, 3) := by decide +kernel
theorem dX7_three_53 : decode cX7_three 53 = .ok (.iload_n 2, 1) := by decide +kernel
theorem dX7_three_54 : decode cX7_three 54 = .ok (.iload_n 3, 1) := by decide +kernel
theorem dX7_three_55 : decode cX7_three 55 = .ok (.if_icmp .eq 8, 3) := by decide +kernel
theorem dX7_three_58 : decode cX7_three 58 = .ok (.iload_n 1, 1) := by decide +kernel
theorem dX7_three_59 : decode cX7_three 59 = .ok (.iload_n 3, 1) := by decide +kernel
theorem dX7_three_60 : decode cX7_three 60 = .ok (.if_icmp .ne 6, 3) := by decide +kernel
theorem dX7_three_63 : decode cX7_three 63 = .ok (.bipush (-2), 2) := by decide +kernel
theorem dX7_three_65 : decode cX7_three 65 = .ok (.ireturn, 1) := by decide +kernel
theorem dX7_three_66 : decode cX7_three 66 = .ok (.aload 4, 2) := by decide +kernel
theorem dX7_three_68 : decode cX7_three 68 = .ok (.aload 5, 2) := by decide +kernel
theorem dX7_three_70 : decode cX7_three 70 = .ok (.invokestatic 139, 3) := by decide +kernel
theorem dX7_three_73 : decode cX7_three 73 = .ok (.aload 5, 2) := by decide +kernel
theorem dX7_three_75 : decode cX7_three 75 = .ok (.aload 6, 2) := by decide +kernel
theorem dX7_three_77 : decode cX7_three 77 = .ok (.invokestatic 139, 3) := by decide +kernel
theorem dX7_three_80 : decode cX7_three 80 = .ok (.imul, 1) := by decide +kernel
theorem dX7_three_81 : decode cX7_three 81 = .ok (.aload 4, 2) := by decide +kernel
theorem dX7_three_83 : decode cX7_three 83 = .ok (.aload 6, 2) := by decide +kernel
theorem dX7_three_85 : decode cX7_three 85 = .ok (.invokestatic 139, 3) := by decide +kernel
theorem dX7_three_88 : decode cX7_three 88 = .ok (.imul, 1) := by decide +kernel
theorem dX7_three_89 : decode cX7_three 89 = .ok (.ireturn, 1) := by decide +kernel
theorem dX7_four_0 : decode cX7_four 0 = .ok (.aload_n 0, 1) := by decide +kernel
theorem dX7_four_1 : decode cX7_four 1 = .ok (.getfield 12, 3) := by decide +kernel
theorem dX7_four_4 : decode cX7_four 4 = .ok (.iload_n 1, 1) := by decide +kernel
theorem dX7_four_5 : decode cX7_four 5 = .ok (.invokevirtual 59, 3) := by decide +kernel
theorem dX7_four_8 : decode cX7_four 8 = .ok (.astore 5, 2) := by decide +kernel
theorem dX7_four_10 : decode cX7_four 10 = .ok (.aload_n 0, 1) := by decide +kernel
theorem dX7_four_11 : decode cX7_four 11 = .ok (.getfield 12, 3) := by decide +kernel
theorem dX7_four_14 : decode cX7_four 14 = .ok (.iload_n 2, 1) := by decide +kernel
theorem dX7_four_15 : decode cX7_four 15 = .ok (.invokevirtual 59, 3) := by decide +kernel
theorem dX7_four_18 : decode cX7_four 18 = .ok (.astore 6, 2) := by decide +kernel
theorem dX7_four_20 : decode cX7_four 20 = .ok (.aload_n 0, 1) := by decide +kernel
theorem dX7_four_21 : decode cX7_four 21 = .ok (.getfield 12, 3) := by decide +kernel
theorem dX7_four_24 : decode cX7_four 24 = .ok (.iload_n 3, 1) := by decide +kernel
theorem dX7_four_25 : decode cX7_four 25 = .ok (.invokevirtual 59, 3) := by decide +kernel
theorem dX7_four_28 : decode cX7_four 28 = .ok (.astore 7, 2) := by decide +kernel
theorem dX7_four_30 : decode cX7_four 30 = .ok (.aload_n 0, 1) := by decide +kernel
theorem dX7_four_31 : decode cX7_four 31 = .ok (.getfield 12, 3) := by decide +kernel
theorem dX7_four_34 : decode cX7_four 34 = .ok (.iload 4, 2) := by decide +kernel
theorem dX7_four_36 : decode cX7_four 36 = .ok (.invokevirtual 59, 3) := by decide +kernel
theorem dX7_four_39 : decode cX7_four 39 = .ok (.astore 8, 2) := by decide +kernel
theorem dX7_four_41 : decode cX7_four 41 = .ok (.aload 5, 2) := by decide +kernel
theorem dX7_four_43 : decode cX7_four 43 = .ok (.ifnull 18, 3) := by decide +kernel
theorem dX7_four_46 : decode cX7_four 46 = .ok (.aload 6, 2) := by decide +kernel
theorem dX7_four_48 : decode cX7_four 48 = .ok (.ifnull 13, 3) := by decide +kernel
theorem dX7_four_51 : decode cX7_four 51 = .ok (.aload 7, 2) := by decide +kernel
theorem dX7_four_53 : decode cX7_four 53 = .ok (.ifnull 8, 3) := by decide +kernel
theorem dX7_four_56 : decode cX7_four 56 = .ok (.aload 8, 2) := by decide +kernel
theorem dX7_four_58 : decode cX7_four 58 = .ok (.ifnonnull 6, 3) := by decide +kernel
theorem dX7_four_61 : decode cX7_four 61 = .ok (.bipush (-2), 2) := by decide +kernel
theorem dX7_four_63 : decode cX7_four 63 = .ok (.ireturn, 1) := by decide +kernel
theorem dX7_four_64 : decode cX7_four 64 = .ok (.iload_n 1, 1) := by decide +kernel
theorem dX7_four_65 : decode cX7_four 65 = .ok (.iload_n 2, 1) := by decide +kernel
theorem dX7_four_66 : decode cX7_four 66 = .ok (.if_icmp .eq 31, 3) := by decide +kernel
theorem dX7_four_69 : decode cX7_four 69 = .ok (.iload_n 1, 1) := by decide +kernel
theorem dX7_four_70 : decode cX7_four 70 = .ok (.iload_n 3, 1) := by decide +kernel
theorem dX7_four_71 : decode cX7_four 71 = .ok (.if_icmp .eq 26, 3) := by decide +kernel
theorem dX7_four_74 : decode cX7_four 74 = .ok (.iload_n 1, 1) := by decide +kernel
theorem dX7_four_75 : decode cX7_four 75 = .ok (.iload 4, 2) := by decide +kernel
theorem dX7_four_77 : decode cX7_four 77 = .ok (.if_icmp .eq 20, 3) := by decide +kernel
theorem dX7_four_80 : decode cX7_four 80 = .ok (.iload_n 2, 1) := by decide +kernel
theorem dX7_four_81 : decode cX7_four 81 = .ok (.iload_n 3, 1) := by decide +kernel
theorem dX7_four_82 : decode cX7_four 82 = .ok (.if_icmp .eq 15, 3) := by decide +kernel
theorem dX7_four_85 : decode cX7_four 85 = .ok (.iload_n 2, 1) := by decide +kernel
theorem dX7_four_86 : decode cX7_four 86 = .ok (.iload 4, 2) := by decide +kernel
theorem dX7_four_88 : decode cX7_four 88 = .ok (.if_icmp .eq 9, 3) := by decide +kernel
theorem dX7_four_91 : decode cX7_four 91 = .ok (.iload_n 3, 1) := by decide +kernel
theorem dX7_four_92 : decode cX7_four 92 = .ok (.iload 4, 2) := by decide +kernel
theorem dX7_four_94 : decode cX7_four 94 = .ok (.if_icmp .ne 6, 3) := by decide +kernel
theorem dX7_four_97 : decode cX7_four 97 = .ok (.bipush (-2), 2) := by decide +kernel
theorem dX7_four_99 : decode cX7_four 99 = .ok (.ireturn, 1) := by decide +kernel
theorem dX7_four_100 : decode cX7_four 100 = .ok (.aload 5, 2) := by decide +kernel
theorem dX7_four_102 : decode cX7_four 102 = .ok (.aload 6, 2) := by decide +kernel
theorem dX7_four_104 : decode cX7_four 104 = .ok (.aload 6, 2) := by decide +kernel
theorem dX7_four_106 : decode cX7_four 106 = .ok (.getfield 63, 3) := by decide +kernel
theorem dX7_four_109 : decode cX7_four 109 = .ok (.invokevirtual 132, 3) := by decide +kernel
theorem dX7_four_112 : decode cX7_four 112 = .ok (.aload 7, 2) := by decide +kernel
theorem dX7_four_114 : decode cX7_four 114 = .ok (.aload 8, 2) := by decide +kernel
theorem dX7_four_116 : decode cX7_four 116 = .ok (.aload 8, 2) := by decide +kernel
theorem dX7_four_118 : decode cX7_four 118 = .ok (.getfield 63, 3) := by decide +kernel
theorem dX7_four_121 : decode cX7_four 121 = .ok (.invokevirtual 132, 3) := by decide +kernel
theorem dX7_four_124 : decode cX7_four 124 = .ok (.lmul, 1) := by decide +kernel
theorem dX7_four_125 : decode cX7_four 125 = .ok (.lstore 9, 2) := by decide +kernel
theorem dX7_four_127 : decode cX7_four 127 = .ok (.aload 5, 2) := by decide +kernel
theorem dX7_four_129 : decode cX7_four 129 = .ok (.aload 7, 2) := by decide +kernel
theorem dX7_four_131 : decode cX7_four 131 = .ok (.aload 7, 2) := by decide +kernel
theorem dX7_four_133 : decode cX7_four 133 = .ok (.getfield 63, 3) := by decide +kernel
theorem dX7_four_136 : decode cX7_four 136 = .ok (.invokevirtual 132, 3) := by decide +kernel
theorem dX7_four_139 : decode cX7_four 139 = .ok (.aload 6, 2) := by decide +kernel
theorem dX7_four_141 : decode cX7_four 141 = .ok (.aload 8, 2) := by decide +kernel
theorem dX7_four_143 : decode cX7_four 143 = .ok (.aload 8, 2) := by decide +kernel
theorem dX7_four_145 : decode cX7_four 145 = .ok (.getfield 63, 3) := by decide +kernel
theorem dX7_four_148 : decode cX7_four 148 = .ok (.invokevirtual 132, 3) := by decide +kernel
theorem dX7_four_151 : decode cX7_four 151 = .ok (.lmul, 1) := by decide +kernel
theorem dX7_four_152 : decode cX7_four 152 = .ok (.lstore 11, 2) := by decide +kernel
theorem dX7_four_154 : decode cX7_four 154 = .ok (.lload 9, 2) := by decide +kernel
theorem dX7_four_156 : decode cX7_four 156 = .ok (.lload 11, 2) := by decide +kernel
theorem dX7_four_158 : decode cX7_four 158 = .ok (.invokestatic 143, 3) := by decide +kernel
theorem dX7_four_161 : decode cX7_four 161 = .ok (.ireturn, 1) := by decide +kernel
theorem dX7_beam_0 : decode cX7_beam 0 = .ok (.iload_n 1, 1) := by decide +kernel
theorem dX7_beam_1 : decode cX7_beam 1 = .ok (.sipush (-1000), 3) := by decide +kernel
theorem dX7_beam_4 : decode cX7_beam 4 = .ok (.sipush 1000, 3) := by decide +kernel
theorem dX7_beam_7 : decode cX7_beam 7 = .ok (.invokestatic 51, 3) := by decide +kernel
theorem dX7_beam_10 : decode cX7_beam 10 = .ok (.ifCond .eq 16, 3) := by decide +kernel
theorem dX7_beam_13 : decode cX7_beam 13 = .ok (.iload_n 2, 1) := by decide +kernel
theorem dX7_beam_14 : decode cX7_beam 14 = .ok (.sipush (-1000), 3) := by decide +kernel
theorem dX7_beam_17 : decode cX7_beam 17 = .ok (.sipush 1000, 3) := by decide +kernel
theorem dX7_beam_20 : decode cX7_beam 20 = .ok (.invokestatic 51, 3) := by decide +kernel
theorem dX7_beam_23 : decode cX7_beam 23 = .ok (.ifCond .ne 6, 3) := by decide +kernel
theorem dX7_beam_26 : decode cX7_beam 26 = .ok (.ldc 97, 2) := by decide +kernel
theorem dX7_beam_28 : decode cX7_beam 28 = .ok (.ireturn, 1) := by decide +kernel
theorem dX7_beam_29 : decode cX7_beam 29 = .ok (.aload_n 0, 1) := by decide +kernel
theorem dX7_beam_30 : decode cX7_beam 30 = .ok (.getfield 19, 3) := by decide +kernel
theorem dX7_beam_33 : decode cX7_beam 33 = .ok (.aload_n 0, 1) := by decide +kernel
theorem dX7_beam_34 : decode cX7_beam 34 = .ok (.getfield 12, 3) := by decide +kernel
theorem dX7_beam_37 : decode cX7_beam 37 = .ok (.invokevirtual 149, 3) := by decide +kernel
theorem dX7_beam_40 : decode cX7_beam 40 = .ok (.aload_n 0, 1) := by decide +kernel
theorem dX7_beam_41 : decode cX7_beam 41 = .ok (.getfield 19, 3) := by decide +kernel
theorem dX7_beam_44 : decode cX7_beam 44 = .ok (.iload_n 1, 1) := by decide +kernel
theorem dX7_beam_45 : decode cX7_beam 45 = .ok (.iload_n 2, 1) := by decide +kernel
theorem dX7_beam_46 : decode cX7_beam 46 = .ok (.invokevirtual 153, 3) := by decide +kernel
theorem dX7_beam_49 : decode cX7_beam 49 = .ok (.ireturn, 1) := by decide +kernel
theorem dX7_point_0 : decode cX7_point 0 = .ok (.iload_n 1, 1) := by decide +kernel
theorem dX7_point_1 : decode cX7_point 1 = .ok (.iload_n 2, 1) := by decide +kernel
theorem dX7_point_2 : decode cX7_point 2 = .ok (.invokestatic 156, 3) := by decide +kernel
theorem dX7_point_5 : decode cX7_point 5 = .ok (.ifCond .eq 16, 3) := by decide +kernel
theorem dX7_point_8 : decode cX7_point 8 = .ok (.iload_n 3, 1) := by decide +kernel
theorem dX7_point_9 : decode cX7_point 9 = .ok (.sipush (-1000), 3) := by decide +kernel
theorem dX7_point_12 : decode cX7_point 12 = .ok (.sipush 1000, 3) := by decide +kernel
theorem dX7_point_15 : decode cX7_point 15 = .ok (.invokestatic 51, 3) := by decide +kernel
theorem dX7_point_18 : decode cX7_point 18 = .ok (.ifCond .ne 6, 3) := by decide +kernel
theorem dX7_point_21 : decode cX7_point 21 = .ok (.bipush (-2), 2) := by decide +kernel
theorem dX7_point_23 : decode cX7_point 23 = .ok (.ireturn, 1) := by decide +kernel
theorem dX7_point_24 : decode cX7_point 24 = .ok (.aload_n 0, 1) := by decide +kernel
theorem dX7_point_25 : decode cX7_point 25 = .ok (.getfield 26, 3) := by decide +kernel
theorem dX7_point_28 : decode cX7_point 28 = .ok (.iload_n 1, 1) := by decide +kernel
theorem dX7_point_29 : decode cX7_point 29 = .ok (.iload_n 2, 1) := by decide +kernel
theorem dX7_point_30 : decode cX7_point 30 = .ok (.iload_n 3, 1) := by decide +kernel
theorem dX7_point_31 : decode cX7_point 31 = .ok (.invokevirtual 159, 3) := by decide +kernel
theorem dX7_point_34 : decode cX7_point 34 = .ok (.ireturn, 1) := by decide +kernel
theorem dX7_dark_0 : decode cX7_dark 0 = .ok (.aload_n 0, 1) := by decide +kernel
theorem dX7_dark_1 : decode cX7_dark 1 = .ok (.getfield 26, 3) := by decide +kernel
theorem dX7_dark_4 : decode cX7_dark 4 = .ok (.getfield 163, 3) := by decide +kernel
theorem dX7_dark_7 : decode cX7_dark 7 = .ok (.istore_n 1, 1) := by decide +kernel
theorem dX7_dark_8 : decode cX7_dark 8 = .ok (.aload_n 0, 1) := by decide +kernel
theorem dX7_dark_9 : decode cX7_dark 9 = .ok (.getfield 26, 3) := by decide +kernel
theorem dX7_dark_12 : decode cX7_dark 12 = .ok (.iconst 0, 1) := by decide +kernel
theorem dX7_dark_13 : decode cX7_dark 13 = .ok (.putfield 163, 3) := by decide +kernel
theorem dX7_dark_16 : decode cX7_dark 16 = .ok (.iload_n 1, 1) := by decide +kernel
theorem dX7_dark_17 : decode cX7_dark 17 = .ok (.ireturn, 1) := by decide +kernel
theorem dX7_board_0 : decode cX7_board 0 = .ok (.iload_n 1, 1) := by decide +kernel
theorem dX7_board_1 : decode cX7_board 1 = .ok (.iconst 0, 1) := by decide +kernel
theorem dX7_board_2 : decode cX7_board 2 = .ok (.iconst 1, 1) := by decide +kernel
theorem dX7_board_3 : decode cX7_board 3 = .ok (.invokestatic 51, 3) := by decide +kernel
theorem dX7_board_6 : decode cX7_board 6 = .ok (.ifCond .ne 6, 3) := by decide +kernel
theorem dX7_board_9 : decode cX7_board 9 = .ok (.bipush (-2), 2) := by decide +kernel
theorem dX7_board_11 : decode cX7_board 11 = .ok (.ireturn, 1) := by decide +kernel
theorem dX7_board_12 : decode cX7_board 12 = .ok (.aload_n 0, 1) := by decide +kernel
theorem dX7_board_13 : decode cX7_board 13 = .ok (.getfield 19, 3) := by decide +kernel
theorem dX7_board_16 : decode cX7_board 16 = .ok (.aload_n 0, 1) := by decide +kernel
theorem dX7_board_17 : decode cX7_board 17 = .ok (.getfield 12, 3) := by decide +kernel
theorem dX7_board_20 : decode cX7_board 20 = .ok (.invokevirtual 149, 3) := by decide +kernel
theorem dX7_board_23 : decode cX7_board 23 = .ok (.aload_n 0, 1) := by decide +kernel
theorem dX7_board_24 : decode cX7_board 24 = .ok (.getfield 33, 3) := by decide +kernel
theorem dX7_board_27 : decode cX7_board 27 = .ok (.aload_n 0, 1) := by decide +kernel
theorem dX7_board_28 : decode cX7_board 28 = .ok (.getfield 19, 3) := by decide +kernel
theorem dX7_board_31 : decode cX7_board 31 = .ok (.invokevirtual 166, 3) := by decide +kernel
theorem dX7_board_34 : decode cX7_board 34 = .ok (.iload_n 1, 1) := by decide +kernel
theorem dX7_board_35 : decode cX7_board 35 = .ok (.ifCond .ne 17, 3) := by decide +kernel
theorem dX7_board_38 : decode cX7_board 38 = .ok (.aload_n 0, 1) := by decide +kernel
theorem dX7_board_39 : decode cX7_board 39 = .ok (.getfield 33, 3) := by decide +kernel
theorem dX7_board_42 : decode cX7_board 42 = .ok (.aload_n 0, 1) := by decide +kernel
theorem dX7_board_43 : decode cX7_board 43 = .ok (.getfield 19, 3) := by decide +kernel
theorem dX7_board_46 : decode cX7_board 46 = .ok (.invokevirtual 170, 3) := by decide +kernel
theorem dX7_board_49 : decode cX7_board 49 = .ok (.goto 14, 3) := by decide +kernel
theorem dX7_board_52 : decode cX7_board 52 = .ok (.aload_n 0, 1) := by decide +kernel
theorem dX7_board_53 : decode cX7_board 53 = .ok (.getfield 33, 3) := by decide +kernel
theorem dX7_board_56 : decode cX7_board 56 = .ok (.aload_n 0, 1) := by decide +kernel
theorem dX7_board_57 : decode cX7_board 57 = .ok (.getfield 26, 3) := by decide +kernel
theorem dX7_board_60 : decode cX7_board 60 = .ok (.invokevirtual 173, 3) := by decide +kernel
theorem dX7_board_63 : decode cX7_board 63 = .ok (.aload_n 0, 1) := by decide +kernel
theorem dX7_board_64 : decode cX7_board 64 = .ok (.getfield 19, 3) := by decide +kernel
theorem dX7_board_67 : decode cX7_board 67 = .ok (.getfield 177, 3) := by decide +kernel
theorem dX7_board_70 : decode cX7_board 70 = .ok (.ireturn, 1) := by decide +kernel
theorem dX7_at_0 : decode cX7_at 0 = .ok (.iload_n 1, 1) := by decide +kernel
theorem dX7_at_1 : decode cX7_at 1 = .ok (.iload_n 2, 1) := by decide +kernel
theorem dX7_at_2 : decode cX7_at 2 = .ok (.invokestatic 156, 3) := by decide +kernel
theorem dX7_at_5 : decode cX7_at 5 = .ok (.ifCond .ne 7, 3) := by decide +kernel
theorem dX7_at_8 : decode cX7_at 8 = .ok (.ldc2_w 130, 3) := by decide +kernel
theorem dX7_at_11 : decode cX7_at 11 = .ok (.lreturn, 1) := by decide +kernel
theorem dX7_at_12 : decode cX7_at 12 = .ok (.aload_n 0, 1) := by decide +kernel
theorem dX7_at_13 : decode cX7_at 13 = .ok (.getfield 33, 3) := by decide +kernel
theorem dX7_at_16 : decode cX7_at 16 = .ok (.getfield 178, 3) := by decide +kernel
theorem dX7_at_19 : decode cX7_at 19 = .ok (.bipush 16, 2) := by decide +kernel
theorem dX7_at_21 : decode cX7_at 21 = .ok (.iload_n 2, 1) := by decide +kernel
theorem dX7_at_22 : decode cX7_at 22 = .ok (.imul, 1) := by decide +kernel
theorem dX7_at_23 : decode cX7_at 23 = .ok (.iload_n 1, 1) := by decide +kernel
theorem dX7_at_24 : decode cX7_at 24 = .ok (.iadd, 1) := by decide +kernel
theorem dX7_at_25 : decode cX7_at 25 = .ok (.laload, 1) := by decide +kernel
theorem dX7_at_26 : decode cX7_at 26 = .ok (.lreturn, 1) := by decide +kernel
theorem dX7_window_0 : decode cX7_window 0 = .ok (.iload_n 1, 1) := by decide +kernel
theorem dX7_window_1 : decode cX7_window 1 = .ok (.iload_n 2, 1) := by decide +kernel
theorem dX7_window_2 : decode cX7_window 2 = .ok (.invokestatic 156, 3) := by decide +kernel
theorem dX7_window_5 : decode cX7_window 5 = .ok (.ifCond .eq 12, 3) := by decide +kernel
theorem dX7_window_8 : decode cX7_window 8 = .ok (.iload_n 3, 1) := by decide +kernel
theorem dX7_window_9 : decode cX7_window 9 = .ok (.iload 4, 2) := by decide +kernel
theorem dX7_window_11 : decode cX7_window 11 = .ok (.invokestatic 156, 3) := by decide +kernel
theorem dX7_window_14 : decode cX7_window 14 = .ok (.ifCond .ne 6, 3) := by decide +kernel
theorem dX7_window_17 : decode cX7_window 17 = .ok (.bipush (-2), 2) := by decide +kernel
theorem dX7_window_19 : decode cX7_window 19 = .ok (.ireturn, 1) := by decide +kernel
theorem dX7_window_20 : decode cX7_window 20 = .ok (.iload_n 1, 1) := by decide +kernel
theorem dX7_window_21 : decode cX7_window 21 = .ok (.iload_n 3, 1) := by decide +kernel
theorem dX7_window_22 : decode cX7_window 22 = .ok (.if_icmp .gt 9, 3) := by decide +kernel
theorem dX7_window_25 : decode cX7_window 25 = .ok (.iload_n 2, 1) := by decide +kernel
theorem dX7_window_26 : decode cX7_window 26 = .ok (.iload 4, 2) := by decide +kernel
theorem dX7_window_28 : decode cX7_window 28 = .ok (.if_icmp .le 6, 3) := by decide +kernel
theorem dX7_window_31 : decode cX7_window 31 = .ok (.bipush (-2), 2) := by decide +kernel
theorem dX7_window_33 : decode cX7_window 33 = .ok (.ireturn, 1) := by decide +kernel
theorem dX7_window_34 : decode cX7_window 34 = .ok (.aload_n 0, 1) := by decide +kernel
theorem dX7_window_35 : decode cX7_window 35 = .ok (.getfield 33, 3) := by decide +kernel
theorem dX7_window_38 : decode cX7_window 38 = .ok (.iload_n 1, 1) := by decide +kernel
theorem dX7_window_39 : decode cX7_window 39 = .ok (.iload_n 2, 1) := by decide +kernel
theorem dX7_window_40 : decode cX7_window 40 = .ok (.iload_n 3, 1) := by decide +kernel
theorem dX7_window_41 : decode cX7_window 41 = .ok (.iload 4, 2) := by decide +kernel
theorem dX7_window_43 : decode cX7_window 43 = .ok (.invokevirtual 182, 3) := by decide +kernel
theorem dX7_window_46 : decode cX7_window 46 = .ok (.aload_n 0, 1) := by decide +kernel
theorem dX7_window_47 : decode cX7_window 47 = .ok (.getfield 33, 3) := by decide +kernel
theorem dX7_window_50 : decode cX7_window 50 = .ok (.invokevirtual 186, 3) := by decide +kernel
theorem dX7_window_53 : decode cX7_window 53 = .ok (.ireturn, 1) := by decide +kernel
theorem dX7_peak_0 : decode cX7_peak 0 = .ok (.aload_n 0, 1) := by decide +kernel
theorem dX7_peak_1 : decode cX7_peak 1 = .ok (.getfield 33, 3) := by decide +kernel
theorem dX7_peak_4 : decode cX7_peak 4 = .ok (.invokevirtual 189, 3) := by decide +kernel
theorem dX7_peak_7 : decode cX7_peak 7 = .ok (.ireturn, 1) := by decide +kernel
theorem dX7_take_0 : decode cX7_take 0 = .ok (.iload_n 1, 1) := by decide +kernel
theorem dX7_take_1 : decode cX7_take 1 = .ok (.iconst 1, 1) := by decide +kernel
theorem dX7_take_2 : decode cX7_take 2 = .ok (.bipush 100, 2) := by decide +kernel
theorem dX7_take_4 : decode cX7_take 4 = .ok (.invokestatic 51, 3) := by decide +kernel
theorem dX7_take_7 : decode cX7_take 7 = .ok (.ifCond .eq 13, 3) := by decide +kernel
theorem dX7_take_10 : decode cX7_take 10 = .ok (.iload_n 2, 1) := by decide +kernel
theorem dX7_take_11 : decode cX7_take 11 = .ok (.iconst 1, 1) := by decide +kernel
theorem dX7_take_12 : decode cX7_take 12 = .ok (.bipush 50, 2) := by decide +kernel
theorem dX7_take_14 : decode cX7_take 14 = .ok (.invokestatic 51, 3) := by decide +kernel
theorem dX7_take_17 : decode cX7_take 17 = .ok (.ifCond .ne 6, 3) := by decide +kernel
theorem dX7_take_20 : decode cX7_take 20 = .ok (.bipush (-2), 2) := by decide +kernel
theorem dX7_take_22 : decode cX7_take 22 = .ok (.ireturn, 1) := by decide +kernel
theorem dX7_take_23 : decode cX7_take 23 = .ok (.aload_n 0, 1) := by decide +kernel
theorem dX7_take_24 : decode cX7_take 24 = .ok (.getfield 33, 3) := by decide +kernel
theorem dX7_take_27 : decode cX7_take 27 = .ok (.getfield 192, 3) := by decide +kernel
theorem dX7_take_30 : decode cX7_take 30 = .ok (.sipush 200, 3) := by decide +kernel
theorem dX7_take_33 : decode cX7_take 33 = .ok (.if_icmp .lt 6, 3) := by decide +kernel
theorem dX7_take_36 : decode cX7_take 36 = .ok (.bipush (-3), 2) := by decide +kernel
theorem dX7_take_38 : decode cX7_take 38 = .ok (.ireturn, 1) := by decide +kernel
theorem dX7_take_39 : decode cX7_take 39 = .ok (.aload_n 0, 1) := by decide +kernel
theorem dX7_take_40 : decode cX7_take 40 = .ok (.getfield 33, 3) := by decide +kernel
theorem dX7_take_43 : decode cX7_take 43 = .ok (.iload_n 1, 1) := by decide +kernel
theorem dX7_take_44 : decode cX7_take 44 = .ok (.iload_n 2, 1) := by decide +kernel
theorem dX7_take_45 : decode cX7_take 45 = .ok (.invokevirtual 195, 3) := by decide +kernel
theorem dX7_take_48 : decode cX7_take 48 = .ok (.aload_n 0, 1) := by decide +kernel
theorem dX7_take_49 : decode cX7_take 49 = .ok (.getfield 33, 3) := by decide +kernel
theorem dX7_take_52 : decode cX7_take 52 = .ok (.getfield 192, 3) := by decide +kernel
theorem dX7_take_55 : decode cX7_take 55 = .ok (.ireturn, 1) := by decide +kernel
theorem dX7_part_0 : decode cX7_part 0 = .ok (.iload_n 1, 1) := by decide +kernel
theorem dX7_part_1 : decode cX7_part 1 = .ok (.iconst 0, 1) := by decide +kernel
theorem dX7_part_2 : decode cX7_part 2 = .ok (.aload_n 0, 1) := by decide +kernel
theorem dX7_part_3 : decode cX7_part 3 = .ok (.getfield 33, 3) := by decide +kernel
theorem dX7_part_6 : decode cX7_part 6 = .ok (.getfield 192, 3) := by decide +kernel
theorem dX7_part_9 : decode cX7_part 9 = .ok (.iconst 1, 1) := by decide +kernel
theorem dX7_part_10 : decode cX7_part 10 = .ok (.isub, 1) := by decide +kernel
theorem dX7_part_11 : decode cX7_part 11 = .ok (.invokestatic 51, 3) := by decide +kernel
theorem dX7_part_14 : decode cX7_part 14 = .ok (.ifCond .eq 12, 3) := by decide +kernel
theorem dX7_part_17 : decode cX7_part 17 = .ok (.iload_n 2, 1) := by decide +kernel
theorem dX7_part_18 : decode cX7_part 18 = .ok (.iconst 0, 1) := by decide +kernel
theorem dX7_part_19 : decode cX7_part 19 = .ok (.iconst 1, 1) := by decide +kernel
theorem dX7_part_20 : decode cX7_part 20 = .ok (.invokestatic 51, 3) := by decide +kernel
theorem dX7_part_23 : decode cX7_part 23 = .ok (.ifCond .ne 7, 3) := by decide +kernel
theorem dX7_part_26 : decode cX7_part 26 = .ok (.ldc2_w 130, 3) := by decide +kernel
theorem dX7_part_29 : decode cX7_part 29 = .ok (.lreturn, 1) := by decide +kernel
theorem dX7_part_30 : decode cX7_part 30 = .ok (.iload_n 2, 1) := by decide +kernel
theorem dX7_part_31 : decode cX7_part 31 = .ok (.ifCond .ne 16, 3) := by decide +kernel
theorem dX7_part_34 : decode cX7_part 34 = .ok (.aload_n 0, 1) := by decide +kernel
theorem dX7_part_35 : decode cX7_part 35 = .ok (.getfield 33, 3) := by decide +kernel
theorem dX7_part_38 : decode cX7_part 38 = .ok (.getfield 198, 3) := by decide +kernel
theorem dX7_part_41 : decode cX7_part 41 = .ok (.iload_n 1, 1) := by decide +kernel
theorem dX7_part_42 : decode cX7_part 42 = .ok (.iaload, 1) := by decide +kernel
theorem dX7_part_43 : decode cX7_part 43 = .ok (.i2l, 1) := by decide +kernel
theorem dX7_part_44 : decode cX7_part 44 = .ok (.goto 12, 3) := by decide +kernel
theorem dX7_part_47 : decode cX7_part 47 = .ok (.aload_n 0, 1) := by decide +kernel
theorem dX7_part_48 : decode cX7_part 48 = .ok (.getfield 33, 3) := by decide +kernel
theorem dX7_part_51 : decode cX7_part 51 = .ok (.getfield 201, 3) := by decide +kernel
theorem dX7_part_54 : decode cX7_part 54 = .ok (.iload_n 1, 1) := by decide +kernel
theorem dX7_part_55 : decode cX7_part 55 = .ok (.laload, 1) := by decide +kernel
theorem dX7_part_56 : decode cX7_part 56 = .ok (.lreturn, 1) := by decide +kernel
theorem dX7_back_0 : decode cX7_back 0 = .ok (.aload_n 0, 1) := by decide +kernel
theorem dX7_back_1 : decode cX7_back 1 = .ok (.getfield 33, 3) := by decide +kernel
theorem dX7_back_4 : decode cX7_back 4 = .ok (.getfield 192, 3) := by decide +kernel
theorem dX7_back_7 : decode cX7_back 7 = .ok (.ifCond .gt 6, 3) := by decide +kernel
theorem dX7_back_10 : decode cX7_back 10 = .ok (.bipush (-4), 2) := by decide +kernel
theorem dX7_back_12 : decode cX7_back 12 = .ok (.ireturn, 1) := by decide +kernel
theorem dX7_back_13 : decode cX7_back 13 = .ok (.aload_n 0, 1) := by decide +kernel
theorem dX7_back_14 : decode cX7_back 14 = .ok (.getfield 33, 3) := by decide +kernel
theorem dX7_back_17 : decode cX7_back 17 = .ok (.invokevirtual 204, 3) := by decide +kernel
theorem dX7_back_20 : decode cX7_back 20 = .ok (.aload_n 0, 1) := by decide +kernel
theorem dX7_back_21 : decode cX7_back 21 = .ok (.getfield 33, 3) := by decide +kernel
theorem dX7_back_24 : decode cX7_back 24 = .ok (.getfield 192, 3) := by decide +kernel
theorem dX7_back_27 : decode cX7_back 27 = .ok (.ireturn, 1) := by decide +kernel
theorem dX7_source_0 : decode cX7_source 0 = .ok (.iload_n 1, 1) := by decide +kernel
theorem dX7_source_1 : decode cX7_source 1 = .ok (.iconst 0, 1) := by decide +kernel
theorem dX7_source_2 : decode cX7_source 2 = .ok (.bipush 7, 2) := by decide +kernel
theorem dX7_source_4 : decode cX7_source 4 = .ok (.invokestatic 51, 3) := by decide +kernel
theorem dX7_source_7 : decode cX7_source 7 = .ok (.ifCond .ne 6, 3) := by decide +kernel
theorem dX7_source_10 : decode cX7_source 10 = .ok (.bipush (-2), 2) := by decide +kernel
theorem dX7_source_12 : decode cX7_source 12 = .ok (.ireturn, 1) := by decide +kernel
theorem dX7_source_13 : decode cX7_source 13 = .ok (.iload_n 2, 1) := by decide +kernel
theorem dX7_source_14 : decode cX7_source 14 = .ok (.ifCond .lt 15, 3) := by decide +kernel
theorem dX7_source_17 : decode cX7_source 17 = .ok (.iload_n 3, 1) := by decide +kernel
theorem dX7_source_18 : decode cX7_source 18 = .ok (.sipush 1440, 3) := by decide +kernel
theorem dX7_source_21 : decode cX7_source 21 = .ok (.if_icmp .gt 8, 3) := by decide +kernel
theorem dX7_source_24 : decode cX7_source 24 = .ok (.iload_n 2, 1) := by decide +kernel
theorem dX7_source_25 : decode cX7_source 25 = .ok (.iload_n 3, 1) := by decide +kernel
theorem dX7_source_26 : decode cX7_source 26 = .ok (.if_icmp .lt 6, 3) := by decide +kernel
theorem dX7_source_29 : decode cX7_source 29 = .ok (.bipush (-2), 2) := by decide +kernel
theorem dX7_source_31 : decode cX7_source 31 = .ok (.ireturn, 1) := by decide +kernel
theorem dX7_source_32 : decode cX7_source 32 = .ok (.aload_n 0, 1) := by decide +kernel
theorem dX7_source_33 : decode cX7_source 33 = .ok (.getfield 40, 3) := by decide +kernel
theorem dX7_source_36 : decode cX7_source 36 = .ok (.getfield 207, 3) := by decide +kernel
theorem dX7_source_39 : decode cX7_source 39 = .ok (.iload_n 1, 1) := by decide +kernel
theorem dX7_source_40 : decode cX7_source 40 = .ok (.iload_n 2, 1) := by decide +kernel
theorem dX7_source_41 : decode cX7_source 41 = .ok (.iastore, 1) := by decide +kernel
theorem dX7_source_42 : decode cX7_source 42 = .ok (.aload_n 0, 1) := by decide +kernel
theorem dX7_source_43 : decode cX7_source 43 = .ok (.getfield 40, 3) := by decide +kernel
theorem dX7_source_46 : decode cX7_source 46 = .ok (.getfield 210, 3) := by decide +kernel
theorem dX7_source_49 : decode cX7_source 49 = .ok (.iload_n 1, 1) := by decide +kernel
theorem dX7_source_50 : decode cX7_source 50 = .ok (.iload_n 3, 1) := by decide +kernel
theorem dX7_source_51 : decode cX7_source 51 = .ok (.iastore, 1) := by decide +kernel
theorem dX7_source_52 : decode cX7_source 52 = .ok (.iconst 1, 1) := by decide +kernel
theorem dX7_source_53 : decode cX7_source 53 = .ok (.ireturn, 1) := by decide +kernel
theorem dX7_order_0 : decode cX7_order 0 = .ok (.aload_n 0, 1) := by decide +kernel
theorem dX7_order_1 : decode cX7_order 1 = .ok (.getfield 40, 3) := by decide +kernel
theorem dX7_order_4 : decode cX7_order 4 = .ok (.iload_n 1, 1) := by decide +kernel
theorem dX7_order_5 : decode cX7_order 5 = .ok (.iload_n 2, 1) := by decide +kernel
theorem dX7_order_6 : decode cX7_order 6 = .ok (.iload_n 3, 1) := by decide +kernel
theorem dX7_order_7 : decode cX7_order 7 = .ok (.invokevirtual 213, 3) := by decide +kernel
theorem dX7_order_10 : decode cX7_order 10 = .ok (.ifCond .ne 6, 3) := by decide +kernel
theorem dX7_order_13 : decode cX7_order 13 = .ok (.bipush (-2), 2) := by decide +kernel
theorem dX7_order_15 : decode cX7_order 15 = .ok (.ireturn, 1) := by decide +kernel
theorem dX7_order_16 : decode cX7_order 16 = .ok (.aload_n 0, 1) := by decide +kernel
theorem dX7_order_17 : decode cX7_order 17 = .ok (.getfield 40, 3) := by decide +kernel
theorem dX7_order_20 : decode cX7_order 20 = .ok (.iload_n 1, 1) := by decide +kernel
theorem dX7_order_21 : decode cX7_order 21 = .ok (.iload_n 2, 1) := by decide +kernel
theorem dX7_order_22 : decode cX7_order 22 = .ok (.iload_n 3, 1) := by decide +kernel
theorem dX7_order_23 : decode cX7_order 23 = .ok (.invokevirtual 216, 3) := by decide +kernel
theorem dX7_order_26 : decode cX7_order 26 = .ok (.ireturn, 1) := by decide +kernel
theorem dX7_wipe_0 : decode cX7_wipe 0 = .ok (.aload_n 0, 1) := by decide +kernel
theorem dX7_wipe_1 : decode cX7_wipe 1 = .ok (.getfield 40, 3) := by decide +kernel
theorem dX7_wipe_4 : decode cX7_wipe 4 = .ok (.getfield 217, 3) := by decide +kernel
theorem dX7_wipe_7 : decode cX7_wipe 7 = .ok (.istore_n 1, 1) := by decide +kernel
theorem dX7_wipe_8 : decode cX7_wipe 8 = .ok (.aload_n 0, 1) := by decide +kernel
theorem dX7_wipe_9 : decode cX7_wipe 9 = .ok (.getfield 40, 3) := by decide +kernel
theorem dX7_wipe_12 : decode cX7_wipe 12 = .ok (.iconst 0, 1) := by decide +kernel
theorem dX7_wipe_13 : decode cX7_wipe 13 = .ok (.putfield 217, 3) := by decide +kernel
theorem dX7_wipe_16 : decode cX7_wipe 16 = .ok (.iload_n 1, 1) := by decide +kernel
theorem dX7_wipe_17 : decode cX7_wipe 17 = .ok (.ireturn, 1) := by decide +kernel
theorem dX7_night_0 : decode cX7_night 0 = .ok (.iload_n 1, 1) := by decide +kernel
theorem dX7_night_1 : decode cX7_night 1 = .ok (.iconst 0, 1) := by decide +kernel
theorem dX7_night_2 : decode cX7_night 2 = .ok (.ldc 218, 2) := by decide +kernel
theorem dX7_night_4 : decode cX7_night 4 = .ok (.invokestatic 51, 3) := by decide +kernel
theorem dX7_night_7 : decode cX7_night 7 = .ok (.ifCond .ne 6, 3) := by decide +kernel
theorem dX7_night_10 : decode cX7_night 10 = .ok (.bipush (-2), 2) := by decide +kernel
theorem dX7_night_12 : decode cX7_night 12 = .ok (.ireturn, 1) := by decide +kernel
theorem dX7_night_13 : decode cX7_night 13 = .ok (.aload_n 0, 1) := by decide +kernel
theorem dX7_night_14 : decode cX7_night 14 = .ok (.getfield 47, 3) := by decide +kernel
theorem dX7_night_17 : decode cX7_night 17 = .ok (.aload_n 0, 1) := by decide +kernel
theorem dX7_night_18 : decode cX7_night 18 = .ok (.getfield 40, 3) := by decide +kernel
theorem dX7_night_21 : decode cX7_night 21 = .ok (.iload_n 1, 1) := by decide +kernel
theorem dX7_night_22 : decode cX7_night 22 = .ok (.invokevirtual 219, 3) := by decide +kernel
theorem dX7_night_25 : decode cX7_night 25 = .ok (.ireturn, 1) := by decide +kernel
theorem dX7_told_0 : decode cX7_told 0 = .ok (.iload_n 1, 1) := by decide +kernel
theorem dX7_told_1 : decode cX7_told 1 = .ok (.bipush 10, 2) := by decide +kernel
theorem dX7_told_3 : decode cX7_told 3 = .ok (.isub, 1) := by decide +kernel
theorem dX7_told_4 : decode cX7_told 4 = .ok (.istore_n 2, 1) := by decide +kernel
theorem dX7_told_5 : decode cX7_told 5 = .ok (.iload_n 2, 1) := by decide +kernel
theorem dX7_told_6 : decode cX7_told 6 = .ok (.ifCond .lt 19, 3) := by decide +kernel
theorem dX7_told_9 : decode cX7_told 9 = .ok (.iload_n 2, 1) := by decide +kernel
theorem dX7_told_10 : decode cX7_told 10 = .ok (.bipush 8, 2) := by decide +kernel
theorem dX7_told_12 : decode cX7_told 12 = .ok (.if_icmp .ge 13, 3) := by decide +kernel
theorem dX7_told_15 : decode cX7_told 15 = .ok (.aload_n 0, 1) := by decide +kernel
theorem dX7_told_16 : decode cX7_told 16 = .ok (.getfield 47, 3) := by decide +kernel
theorem dX7_told_19 : decode cX7_told 19 = .ok (.getfield 223, 3) := by decide +kernel
theorem dX7_told_22 : decode cX7_told 22 = .ok (.iload_n 2, 1) := by decide +kernel
theorem dX7_told_23 : decode cX7_told 23 = .ok (.iaload, 1) := by decide +kernel
theorem dX7_told_24 : decode cX7_told 24 = .ok (.ireturn, 1) := by decide +kernel
theorem dX7_told_25 : decode cX7_told 25 = .ok (.iload_n 1, 1) := by decide +kernel
theorem dX7_told_26 : decode cX7_told 26 = .ok (.tableswitch 86 0 5 #[38, 46, 54, 62, 70, 78], 38) := by decide +kernel
theorem dX7_told_64 : decode cX7_told 64 = .ok (.aload_n 0, 1) := by decide +kernel
theorem dX7_told_65 : decode cX7_told 65 = .ok (.getfield 47, 3) := by decide +kernel
theorem dX7_told_68 : decode cX7_told 68 = .ok (.getfield 226, 3) := by decide +kernel
theorem dX7_told_71 : decode cX7_told 71 = .ok (.ireturn, 1) := by decide +kernel
theorem dX7_told_72 : decode cX7_told 72 = .ok (.aload_n 0, 1) := by decide +kernel
theorem dX7_told_73 : decode cX7_told 73 = .ok (.getfield 47, 3) := by decide +kernel
theorem dX7_told_76 : decode cX7_told 76 = .ok (.getfield 229, 3) := by decide +kernel
theorem dX7_told_79 : decode cX7_told 79 = .ok (.ireturn, 1) := by decide +kernel
theorem dX7_told_80 : decode cX7_told 80 = .ok (.aload_n 0, 1) := by decide +kernel
theorem dX7_told_81 : decode cX7_told 81 = .ok (.getfield 47, 3) := by decide +kernel
theorem dX7_told_84 : decode cX7_told 84 = .ok (.getfield 232, 3) := by decide +kernel
theorem dX7_told_87 : decode cX7_told 87 = .ok (.ireturn, 1) := by decide +kernel
theorem dX7_told_88 : decode cX7_told 88 = .ok (.aload_n 0, 1) := by decide +kernel
theorem dX7_told_89 : decode cX7_told 89 = .ok (.getfield 47, 3) := by decide +kernel
theorem dX7_told_92 : decode cX7_told 92 = .ok (.getfield 235, 3) := by decide +kernel
theorem dX7_told_95 : decode cX7_told 95 = .ok (.ireturn, 1) := by decide +kernel
theorem dX7_told_96 : decode cX7_told 96 = .ok (.aload_n 0, 1) := by decide +kernel
theorem dX7_told_97 : decode cX7_told 97 = .ok (.getfield 47, 3) := by decide +kernel
theorem dX7_told_100 : decode cX7_told 100 = .ok (.getfield 238, 3) := by decide +kernel
theorem dX7_told_103 : decode cX7_told 103 = .ok (.ireturn, 1) := by decide +kernel
theorem dX7_told_104 : decode cX7_told 104 = .ok (.aload_n 0, 1) := by decide +kernel
theorem dX7_told_105 : decode cX7_told 105 = .ok (.getfield 47, 3) := by decide +kernel
theorem dX7_told_108 : decode cX7_told 108 = .ok (.getfield 241, 3) := by decide +kernel
theorem dX7_told_111 : decode cX7_told 111 = .ok (.ireturn, 1) := by decide +kernel
theorem dX7_told_112 : decode cX7_told 112 = .ok (.bipush (-2), 2) := by decide +kernel
theorem dX7_told_114 : decode cX7_told 114 = .ok (.ireturn, 1) := by decide +kernel
theorem dX7_count_0 : decode cX7_count 0 = .ok (.iload_n 1, 1) := by decide +kernel
theorem dX7_count_1 : decode cX7_count 1 = .ok (.tableswitch 96 0 6 #[43, 51, 59, 67, 75, 83, 91], 43) := by decide +kernel
theorem dX7_count_44 : decode cX7_count 44 = .ok (.aload_n 0, 1) := by decide +kernel
theorem dX7_count_45 : decode cX7_count 45 = .ok (.getfield 12, 3) := by decide +kernel
theorem dX7_count_48 : decode cX7_count 48 = .ok (.getfield 244, 3) := by decide +kernel
theorem dX7_count_51 : decode cX7_count 51 = .ok (.ireturn, 1) := by decide +kernel
theorem dX7_count_52 : decode cX7_count 52 = .ok (.aload_n 0, 1) := by decide +kernel
theorem dX7_count_53 : decode cX7_count 53 = .ok (.getfield 12, 3) := by decide +kernel
theorem dX7_count_56 : decode cX7_count 56 = .ok (.getfield 245, 3) := by decide +kernel
theorem dX7_count_59 : decode cX7_count 59 = .ok (.ireturn, 1) := by decide +kernel
theorem dX7_count_60 : decode cX7_count 60 = .ok (.aload_n 0, 1) := by decide +kernel
theorem dX7_count_61 : decode cX7_count 61 = .ok (.getfield 26, 3) := by decide +kernel
theorem dX7_count_64 : decode cX7_count 64 = .ok (.getfield 163, 3) := by decide +kernel
theorem dX7_count_67 : decode cX7_count 67 = .ok (.ireturn, 1) := by decide +kernel
theorem dX7_count_68 : decode cX7_count 68 = .ok (.aload_n 0, 1) := by decide +kernel
theorem dX7_count_69 : decode cX7_count 69 = .ok (.getfield 33, 3) := by decide +kernel
theorem dX7_count_72 : decode cX7_count 72 = .ok (.getfield 192, 3) := by decide +kernel
theorem dX7_count_75 : decode cX7_count 75 = .ok (.ireturn, 1) := by decide +kernel
theorem dX7_count_76 : decode cX7_count 76 = .ok (.aload_n 0, 1) := by decide +kernel
theorem dX7_count_77 : decode cX7_count 77 = .ok (.getfield 40, 3) := by decide +kernel
theorem dX7_count_80 : decode cX7_count 80 = .ok (.getfield 217, 3) := by decide +kernel
theorem dX7_count_83 : decode cX7_count 83 = .ok (.ireturn, 1) := by decide +kernel
theorem dX7_count_84 : decode cX7_count 84 = .ok (.aload_n 0, 1) := by decide +kernel
theorem dX7_count_85 : decode cX7_count 85 = .ok (.getfield 33, 3) := by decide +kernel
theorem dX7_count_88 : decode cX7_count 88 = .ok (.invokevirtual 186, 3) := by decide +kernel
theorem dX7_count_91 : decode cX7_count 91 = .ok (.ireturn, 1) := by decide +kernel
theorem dX7_count_92 : decode cX7_count 92 = .ok (.aload_n 0, 1) := by decide +kernel
theorem dX7_count_93 : decode cX7_count 93 = .ok (.getfield 248, 3) := by decide +kernel
theorem dX7_count_96 : decode cX7_count 96 = .ok (.ireturn, 1) := by decide +kernel
theorem dX7_count_97 : decode cX7_count 97 = .ok (.bipush (-2), 2) := by decide +kernel
theorem dX7_count_99 : decode cX7_count 99 = .ok (.ireturn, 1) := by decide +kernel
theorem dX7_digest_0 : decode cX7_digest 0 = .ok (.ldc2_w 251, 3) := by decide +kernel
theorem dX7_digest_3 : decode cX7_digest 3 = .ok (.lstore_n 1, 1) := by decide +kernel
theorem dX7_digest_4 : decode cX7_digest 4 = .ok (.iconst 0, 1) := by decide +kernel
theorem dX7_digest_5 : decode cX7_digest 5 = .ok (.istore_n 3, 1) := by decide +kernel
theorem dX7_digest_6 : decode cX7_digest 6 = .ok (.iload_n 3, 1) := by decide +kernel
theorem dX7_digest_7 : decode cX7_digest 7 = .ok (.iconst 5, 1) := by decide +kernel
theorem dX7_digest_8 : decode cX7_digest 8 = .ok (.if_icmp .gt 22, 3) := by decide +kernel
theorem dX7_digest_11 : decode cX7_digest 11 = .ok (.ldc2_w 253, 3) := by decide +kernel
theorem dX7_digest_14 : decode cX7_digest 14 = .ok (.lload_n 1, 1) := by decide +kernel
theorem dX7_digest_15 : decode cX7_digest 15 = .ok (.lmul, 1) := by decide +kernel
theorem dX7_digest_16 : decode cX7_digest 16 = .ok (.aload_n 0, 1) := by decide +kernel
theorem dX7_digest_17 : decode cX7_digest 17 = .ok (.iload_n 3, 1) := by decide +kernel
theorem dX7_digest_18 : decode cX7_digest 18 = .ok (.invokevirtual 255, 3) := by decide +kernel
theorem dX7_digest_21 : decode cX7_digest 21 = .ok (.i2l, 1) := by decide +kernel
theorem dX7_digest_22 : decode cX7_digest 22 = .ok (.ladd, 1) := by decide +kernel
theorem dX7_digest_23 : decode cX7_digest 23 = .ok (.lstore_n 1, 1) := by decide +kernel
theorem dX7_digest_24 : decode cX7_digest 24 = .ok (.iinc 3 1, 3) := by decide +kernel
theorem dX7_digest_27 : decode cX7_digest 27 = .ok (.goto (-21), 3) := by decide +kernel
theorem dX7_digest_30 : decode cX7_digest 30 = .ok (.iconst 0, 1) := by decide +kernel
theorem dX7_digest_31 : decode cX7_digest 31 = .ok (.istore_n 3, 1) := by decide +kernel
theorem dX7_digest_32 : decode cX7_digest 32 = .ok (.iload_n 3, 1) := by decide +kernel
theorem dX7_digest_33 : decode cX7_digest 33 = .ok (.aload_n 0, 1) := by decide +kernel
theorem dX7_digest_34 : decode cX7_digest 34 = .ok (.getfield 12, 3) := by decide +kernel
theorem dX7_digest_37 : decode cX7_digest 37 = .ok (.getfield 244, 3) := by decide +kernel
theorem dX7_digest_40 : decode cX7_digest 40 = .ok (.if_icmp .ge 61, 3) := by decide +kernel
theorem dX7_digest_43 : decode cX7_digest 43 = .ok (.iload_n 3, 1) := by decide +kernel
theorem dX7_digest_44 : decode cX7_digest 44 = .ok (.iconst 1, 1) := by decide +kernel
theorem dX7_digest_45 : decode cX7_digest 45 = .ok (.iadd, 1) := by decide +kernel
theorem dX7_digest_46 : decode cX7_digest 46 = .ok (.istore 4, 2) := by decide +kernel
theorem dX7_digest_48 : decode cX7_digest 48 = .ok (.iload 4, 2) := by decide +kernel
theorem dX7_digest_50 : decode cX7_digest 50 = .ok (.aload_n 0, 1) := by decide +kernel
theorem dX7_digest_51 : decode cX7_digest 51 = .ok (.getfield 12, 3) := by decide +kernel
theorem dX7_digest_54 : decode cX7_digest 54 = .ok (.getfield 244, 3) := by decide +kernel
theorem dX7_digest_57 : decode cX7_digest 57 = .ok (.if_icmp .ge 38, 3) := by decide +kernel
theorem dX7_digest_60 : decode cX7_digest 60 = .ok (.ldc2_w 253, 3) := by decide +kernel
theorem dX7_digest_63 : decode cX7_digest 63 = .ok (.lload_n 1, 1) := by decide +kernel
theorem dX7_digest_64 : decode cX7_digest 64 = .ok (.lmul, 1) := by decide +kernel
theorem dX7_digest_65 : decode cX7_digest 65 = .ok (.aload_n 0, 1) := by decide +kernel
theorem dX7_digest_66 : decode cX7_digest 66 = .ok (.iload_n 3, 1) := by decide +kernel
theorem dX7_digest_67 : decode cX7_digest 67 = .ok (.iload 4, 2) := by decide +kernel
theorem dX7_digest_69 : decode cX7_digest 69 = .ok (.invokevirtual 258, 3) := by decide +kernel
theorem dX7_digest_72 : decode cX7_digest 72 = .ok (.i2l, 1) := by decide +kernel
theorem dX7_digest_73 : decode cX7_digest 73 = .ok (.ladd, 1) := by decide +kernel
theorem dX7_digest_74 : decode cX7_digest 74 = .ok (.lstore_n 1, 1) := by decide +kernel
theorem dX7_digest_75 : decode cX7_digest 75 = .ok (.ldc2_w 253, 3) := by decide +kernel
theorem dX7_digest_78 : decode cX7_digest 78 = .ok (.lload_n 1, 1) := by decide +kernel
theorem dX7_digest_79 : decode cX7_digest 79 = .ok (.lmul, 1) := by decide +kernel
theorem dX7_digest_80 : decode cX7_digest 80 = .ok (.aload_n 0, 1) := by decide +kernel
theorem dX7_digest_81 : decode cX7_digest 81 = .ok (.iload_n 3, 1) := by decide +kernel
theorem dX7_digest_82 : decode cX7_digest 82 = .ok (.iload 4, 2) := by decide +kernel
theorem dX7_digest_84 : decode cX7_digest 84 = .ok (.invokevirtual 261, 3) := by decide +kernel
theorem dX7_digest_87 : decode cX7_digest 87 = .ok (.ladd, 1) := by decide +kernel
theorem dX7_digest_88 : decode cX7_digest 88 = .ok (.lstore_n 1, 1) := by decide +kernel
theorem dX7_digest_89 : decode cX7_digest 89 = .ok (.iinc 4 1, 3) := by decide +kernel
theorem dX7_digest_92 : decode cX7_digest 92 = .ok (.goto (-44), 3) := by decide +kernel
theorem dX7_digest_95 : decode cX7_digest 95 = .ok (.iinc 3 1, 3) := by decide +kernel
theorem dX7_digest_98 : decode cX7_digest 98 = .ok (.goto (-66), 3) := by decide +kernel
theorem dX7_digest_101 : decode cX7_digest 101 = .ok (.iconst 0, 1) := by decide +kernel
theorem dX7_digest_102 : decode cX7_digest 102 = .ok (.istore_n 3, 1) := by decide +kernel
theorem dX7_digest_103 : decode cX7_digest 103 = .ok (.iload_n 3, 1) := by decide +kernel
theorem dX7_digest_104 : decode cX7_digest 104 = .ok (.sipush 256, 3) := by decide +kernel
theorem dX7_digest_107 : decode cX7_digest 107 = .ok (.if_icmp .ge 25, 3) := by decide +kernel
theorem dX7_digest_110 : decode cX7_digest 110 = .ok (.ldc2_w 253, 3) := by decide +kernel
theorem dX7_digest_113 : decode cX7_digest 113 = .ok (.lload_n 1, 1) := by decide +kernel
theorem dX7_digest_114 : decode cX7_digest 114 = .ok (.lmul, 1) := by decide +kernel
theorem dX7_digest_115 : decode cX7_digest 115 = .ok (.aload_n 0, 1) := by decide +kernel
theorem dX7_digest_116 : decode cX7_digest 116 = .ok (.getfield 33, 3) := by decide +kernel
theorem dX7_digest_119 : decode cX7_digest 119 = .ok (.getfield 178, 3) := by decide +kernel
theorem dX7_digest_122 : decode cX7_digest 122 = .ok (.iload_n 3, 1) := by decide +kernel
theorem dX7_digest_123 : decode cX7_digest 123 = .ok (.laload, 1) := by decide +kernel
theorem dX7_digest_124 : decode cX7_digest 124 = .ok (.ladd, 1) := by decide +kernel
theorem dX7_digest_125 : decode cX7_digest 125 = .ok (.lstore_n 1, 1) := by decide +kernel
theorem dX7_digest_126 : decode cX7_digest 126 = .ok (.iinc 3 1, 3) := by decide +kernel
theorem dX7_digest_129 : decode cX7_digest 129 = .ok (.goto (-26), 3) := by decide +kernel
theorem dX7_digest_132 : decode cX7_digest 132 = .ok (.lload_n 1, 1) := by decide +kernel
theorem dX7_digest_133 : decode cX7_digest 133 = .ok (.lreturn, 1) := by decide +kernel
theorem dX7_foundOut_0 : decode cX7_foundOut 0 = .ok (.aload_n 0, 1) := by decide +kernel
theorem dX7_foundOut_1 : decode cX7_foundOut 1 = .ok (.iload_n 1, 1) := by decide +kernel
theorem dX7_foundOut_2 : decode cX7_foundOut 2 = .ok (.putfield 248, 3) := by decide +kernel
theorem dX7_foundOut_5 : decode cX7_foundOut 5 = .ok (.bipush (-10), 2) := by decide +kernel
theorem dX7_foundOut_7 : decode cX7_foundOut 7 = .ok (.iload_n 1, 1) := by decide +kernel
theorem dX7_foundOut_8 : decode cX7_foundOut 8 = .ok (.isub, 1) := by decide +kernel
theorem dX7_foundOut_9 : decode cX7_foundOut 9 = .ok (.ireturn, 1) := by decide +kernel
theorem dX7_isWithin_0 : decode cX7_isWithin 0 = .ok (.iload_n 0, 1) := by decide +kernel
theorem dX7_isWithin_1 : decode cX7_isWithin 1 = .ok (.iload_n 1, 1) := by decide +kernel
theorem dX7_isWithin_2 : decode cX7_isWithin 2 = .ok (.if_icmp .lt 12, 3) := by decide +kernel
theorem dX7_isWithin_5 : decode cX7_isWithin 5 = .ok (.iload_n 0, 1) := by decide +kernel
theorem dX7_isWithin_6 : decode cX7_isWithin 6 = .ok (.iload_n 2, 1) := by decide +kernel
theorem dX7_isWithin_7 : decode cX7_isWithin 7 = .ok (.if_icmp .gt 7, 3) := by decide +kernel
theorem dX7_isWithin_10 : decode cX7_isWithin 10 = .ok (.iconst 1, 1) := by decide +kernel
theorem dX7_isWithin_11 : decode cX7_isWithin 11 = .ok (.goto 4, 3) := by decide +kernel
theorem dX7_isWithin_14 : decode cX7_isWithin 14 = .ok (.iconst 0, 1) := by decide +kernel
theorem dX7_isWithin_15 : decode cX7_isWithin 15 = .ok (.ireturn, 1) := by decide +kernel
theorem dX7_isForm_0 : decode cX7_isForm 0 = .ok (.iload_n 0, 1) := by decide +kernel
theorem dX7_isForm_1 : decode cX7_isForm 1 = .ok (.ifCond .lt 12, 3) := by decide +kernel
theorem dX7_isForm_4 : decode cX7_isForm 4 = .ok (.iload_n 0, 1) := by decide +kernel
theorem dX7_isForm_5 : decode cX7_isForm 5 = .ok (.iconst 2, 1) := by decide +kernel
theorem dX7_isForm_6 : decode cX7_isForm 6 = .ok (.if_icmp .gt 7, 3) := by decide +kernel
theorem dX7_isForm_9 : decode cX7_isForm 9 = .ok (.iconst 1, 1) := by decide +kernel
theorem dX7_isForm_10 : decode cX7_isForm 10 = .ok (.goto 4, 3) := by decide +kernel
theorem dX7_isForm_13 : decode cX7_isForm 13 = .ok (.iconst 0, 1) := by decide +kernel
theorem dX7_isForm_14 : decode cX7_isForm 14 = .ok (.ireturn, 1) := by decide +kernel
theorem dX7_isCell_0 : decode cX7_isCell 0 = .ok (.iload_n 0, 1) := by decide +kernel
theorem dX7_isCell_1 : decode cX7_isCell 1 = .ok (.ifCond .lt 23, 3) := by decide +kernel
theorem dX7_isCell_4 : decode cX7_isCell 4 = .ok (.iload_n 0, 1) := by decide +kernel
theorem dX7_isCell_5 : decode cX7_isCell 5 = .ok (.bipush 16, 2) := by decide +kernel
theorem dX7_isCell_7 : decode cX7_isCell 7 = .ok (.if_icmp .ge 17, 3) := by decide +kernel
theorem dX7_isCell_10 : decode cX7_isCell 10 = .ok (.iload_n 1, 1) := by decide +kernel
theorem dX7_isCell_11 : decode cX7_isCell 11 = .ok (.ifCond .lt 13, 3) := by decide +kernel
theorem dX7_isCell_14 : decode cX7_isCell 14 = .ok (.iload_n 1, 1) := by decide +kernel
theorem dX7_isCell_15 : decode cX7_isCell 15 = .ok (.bipush 16, 2) := by decide +kernel
theorem dX7_isCell_17 : decode cX7_isCell 17 = .ok (.if_icmp .ge 7, 3) := by decide +kernel
theorem dX7_isCell_20 : decode cX7_isCell 20 = .ok (.iconst 1, 1) := by decide +kernel
theorem dX7_isCell_21 : decode cX7_isCell 21 = .ok (.goto 4, 3) := by decide +kernel
theorem dX7_isCell_24 : decode cX7_isCell 24 = .ok (.iconst 0, 1) := by decide +kernel
theorem dX7_isCell_25 : decode cX7_isCell 25 = .ok (.ireturn, 1) := by decide +kernel
theorem dX7_signOf_0 : decode cX7_signOf 0 = .ok (.aload_n 0, 1) := by decide +kernel
theorem dX7_signOf_1 : decode cX7_signOf 1 = .ok (.aload_n 1, 1) := by decide +kernel
theorem dX7_signOf_2 : decode cX7_signOf 2 = .ok (.aload_n 1, 1) := by decide +kernel
theorem dX7_signOf_3 : decode cX7_signOf 3 = .ok (.getfield 63, 3) := by decide +kernel
theorem dX7_signOf_6 : decode cX7_signOf 6 = .ok (.invokevirtual 132, 3) := by decide +kernel
theorem dX7_signOf_9 : decode cX7_signOf 9 = .ok (.lconst 0, 1) := by decide +kernel
theorem dX7_signOf_10 : decode cX7_signOf 10 = .ok (.invokestatic 143, 3) := by decide +kernel
theorem dX7_signOf_13 : decode cX7_signOf 13 = .ok (.ireturn, 1) := by decide +kernel
theorem dJ13_compare_74951_0 : decode cJ13_compare_74951 0 = .ok (.lload_n 0, 1) := by decide +kernel
theorem dJ13_compare_74951_1 : decode cJ13_compare_74951 1 = .ok (.lload_n 2, 1) := by decide +kernel
theorem dJ13_compare_74951_2 : decode cJ13_compare_74951 2 = .ok (.lcmp, 1) := by decide +kernel
theorem dJ13_compare_74951_3 : decode cJ13_compare_74951 3 = .ok (.ifCond .ge 7, 3) := by decide +kernel
theorem dJ13_compare_74951_6 : decode cJ13_compare_74951 6 = .ok (.iconst (-1), 1) := by decide +kernel
theorem dJ13_compare_74951_7 : decode cJ13_compare_74951 7 = .ok (.goto 14, 3) := by decide +kernel
theorem dJ13_compare_74951_10 : decode cJ13_compare_74951 10 = .ok (.lload_n 0, 1) := by decide +kernel
theorem dJ13_compare_74951_11 : decode cJ13_compare_74951 11 = .ok (.lload_n 2, 1) := by decide +kernel
theorem dJ13_compare_74951_12 : decode cJ13_compare_74951 12 = .ok (.lcmp, 1) := by decide +kernel
theorem dJ13_compare_74951_13 : decode cJ13_compare_74951 13 = .ok (.ifCond .ne 7, 3) := by decide +kernel
theorem dJ13_compare_74951_16 : decode cJ13_compare_74951 16 = .ok (.iconst 0, 1) := by decide +kernel
theorem dJ13_compare_74951_17 : decode cJ13_compare_74951 17 = .ok (.goto 4, 3) := by decide +kernel
theorem dJ13_compare_74951_20 : decode cJ13_compare_74951 20 = .ok (.iconst 1, 1) := by decide +kernel
theorem dJ13_compare_74951_21 : decode cJ13_compare_74951 21 = .ok (.ireturn, 1) := by decide +kernel
theorem dJ9_abs_0f7a4_0 : decode cJ9_abs_0f7a4 0 = .ok (.iload_n 0, 1) := by decide +kernel
theorem dJ9_abs_0f7a4_1 : decode cJ9_abs_0f7a4 1 = .ok (.ifCond .ge 8, 3) := by decide +kernel
theorem dJ9_abs_0f7a4_4 : decode cJ9_abs_0f7a4 4 = .ok (.iload_n 0, 1) := by decide +kernel
theorem dJ9_abs_0f7a4_5 : decode cJ9_abs_0f7a4 5 = .ok (.ineg, 1) := by decide +kernel
theorem dJ9_abs_0f7a4_6 : decode cJ9_abs_0f7a4 6 = .ok (.goto 4, 3) := by decide +kernel
theorem dJ9_abs_0f7a4_9 : decode cJ9_abs_0f7a4 9 = .ok (.iload_n 0, 1) := by decide +kernel
theorem dJ9_abs_0f7a4_10 : decode cJ9_abs_0f7a4 10 = .ok (.ireturn, 1) := by decide +kernel
theorem dJ9_abs_067f4_0 : decode cJ9_abs_067f4 0 = .ok (.lload_n 0, 1) := by decide +kernel
theorem dJ9_abs_067f4_1 : decode cJ9_abs_067f4 1 = .ok (.lconst 0, 1) := by decide +kernel
theorem dJ9_abs_067f4_2 : decode cJ9_abs_067f4 2 = .ok (.lcmp, 1) := by decide +kernel
theorem dJ9_abs_067f4_3 : decode cJ9_abs_067f4 3 = .ok (.ifCond .ge 8, 3) := by decide +kernel
theorem dJ9_abs_067f4_6 : decode cJ9_abs_067f4 6 = .ok (.lload_n 0, 1) := by decide +kernel
theorem dJ9_abs_067f4_7 : decode cJ9_abs_067f4 7 = .ok (.lneg, 1) := by decide +kernel
theorem dJ9_abs_067f4_8 : decode cJ9_abs_067f4 8 = .ok (.goto 4, 3) := by decide +kernel
theorem dJ9_abs_067f4_11 : decode cJ9_abs_067f4 11 = .ok (.lload_n 0, 1) := by decide +kernel
theorem dJ9_abs_067f4_12 : decode cJ9_abs_067f4 12 = .ok (.lreturn, 1) := by decide +kernel
theorem dJ9_max_7cf53_0 : decode cJ9_max_7cf53 0 = .ok (.iload_n 0, 1) := by decide +kernel
theorem dJ9_max_7cf53_1 : decode cJ9_max_7cf53 1 = .ok (.iload_n 1, 1) := by decide +kernel
theorem dJ9_max_7cf53_2 : decode cJ9_max_7cf53 2 = .ok (.if_icmp .lt 7, 3) := by decide +kernel
theorem dJ9_max_7cf53_5 : decode cJ9_max_7cf53 5 = .ok (.iload_n 0, 1) := by decide +kernel
theorem dJ9_max_7cf53_6 : decode cJ9_max_7cf53 6 = .ok (.goto 4, 3) := by decide +kernel
theorem dJ9_max_7cf53_9 : decode cJ9_max_7cf53 9 = .ok (.iload_n 1, 1) := by decide +kernel
theorem dJ9_max_7cf53_10 : decode cJ9_max_7cf53 10 = .ok (.ireturn, 1) := by decide +kernel
theorem dJ9_min_7cf53_0 : decode cJ9_min_7cf53 0 = .ok (.iload_n 0, 1) := by decide +kernel
theorem dJ9_min_7cf53_1 : decode cJ9_min_7cf53 1 = .ok (.iload_n 1, 1) := by decide +kernel
theorem dJ9_min_7cf53_2 : decode cJ9_min_7cf53 2 = .ok (.if_icmp .gt 7, 3) := by decide +kernel
theorem dJ9_min_7cf53_5 : decode cJ9_min_7cf53 5 = .ok (.iload_n 0, 1) := by decide +kernel
theorem dJ9_min_7cf53_6 : decode cJ9_min_7cf53 6 = .ok (.goto 4, 3) := by decide +kernel
theorem dJ9_min_7cf53_9 : decode cJ9_min_7cf53 9 = .ok (.iload_n 1, 1) := by decide +kernel
theorem dJ9_min_7cf53_10 : decode cJ9_min_7cf53 10 = .ok (.ireturn, 1) := by decide +kernel
theorem dJ7_fill_d0a16_0 : decode cJ7_fill_d0a16 0 = .ok (.iconst 0, 1) := by decide +kernel
theorem dJ7_fill_d0a16_1 : decode cJ7_fill_d0a16 1 = .ok (.istore_n 3, 1) := by decide +kernel
theorem dJ7_fill_d0a16_2 : decode cJ7_fill_d0a16 2 = .ok (.aload_n 0, 1) := by decide +kernel
theorem dJ7_fill_d0a16_3 : decode cJ7_fill_d0a16 3 = .ok (.arraylength, 1) := by decide +kernel
theorem dJ7_fill_d0a16_4 : decode cJ7_fill_d0a16 4 = .ok (.istore 4, 2) := by decide +kernel
theorem dJ7_fill_d0a16_6 : decode cJ7_fill_d0a16 6 = .ok (.iload_n 3, 1) := by decide +kernel
theorem dJ7_fill_d0a16_7 : decode cJ7_fill_d0a16 7 = .ok (.iload 4, 2) := by decide +kernel
theorem dJ7_fill_d0a16_9 : decode cJ7_fill_d0a16 9 = .ok (.if_icmp .ge 13, 3) := by decide +kernel
theorem dJ7_fill_d0a16_12 : decode cJ7_fill_d0a16 12 = .ok (.aload_n 0, 1) := by decide +kernel
theorem dJ7_fill_d0a16_13 : decode cJ7_fill_d0a16 13 = .ok (.iload_n 3, 1) := by decide +kernel
theorem dJ7_fill_d0a16_14 : decode cJ7_fill_d0a16 14 = .ok (.lload_n 1, 1) := by decide +kernel
theorem dJ7_fill_d0a16_15 : decode cJ7_fill_d0a16 15 = .ok (.lastore, 1) := by decide +kernel
theorem dJ7_fill_d0a16_16 : decode cJ7_fill_d0a16 16 = .ok (.iinc 3 1, 3) := by decide +kernel
theorem dJ7_fill_d0a16_19 : decode cJ7_fill_d0a16 19 = .ok (.goto (-13), 3) := by decide +kernel
theorem dJ7_fill_d0a16_22 : decode cJ7_fill_d0a16 22 = .ok (.return_, 1) := by decide +kernel
theorem dJ7_fill_53178_0 : decode cJ7_fill_53178 0 = .ok (.iconst 0, 1) := by decide +kernel
theorem dJ7_fill_53178_1 : decode cJ7_fill_53178 1 = .ok (.istore_n 2, 1) := by decide +kernel
theorem dJ7_fill_53178_2 : decode cJ7_fill_53178 2 = .ok (.aload_n 0, 1) := by decide +kernel
theorem dJ7_fill_53178_3 : decode cJ7_fill_53178 3 = .ok (.arraylength, 1) := by decide +kernel
theorem dJ7_fill_53178_4 : decode cJ7_fill_53178 4 = .ok (.istore_n 3, 1) := by decide +kernel
theorem dJ7_fill_53178_5 : decode cJ7_fill_53178 5 = .ok (.iload_n 2, 1) := by decide +kernel
theorem dJ7_fill_53178_6 : decode cJ7_fill_53178 6 = .ok (.iload_n 3, 1) := by decide +kernel
theorem dJ7_fill_53178_7 : decode cJ7_fill_53178 7 = .ok (.if_icmp .ge 13, 3) := by decide +kernel
theorem dJ7_fill_53178_10 : decode cJ7_fill_53178 10 = .ok (.aload_n 0, 1) := by decide +kernel
theorem dJ7_fill_53178_11 : decode cJ7_fill_53178 11 = .ok (.iload_n 2, 1) := by decide +kernel
theorem dJ7_fill_53178_12 : decode cJ7_fill_53178 12 = .ok (.iload_n 1, 1) := by decide +kernel
theorem dJ7_fill_53178_13 : decode cJ7_fill_53178 13 = .ok (.iastore, 1) := by decide +kernel
theorem dJ7_fill_53178_14 : decode cJ7_fill_53178 14 = .ok (.iinc 2 1, 3) := by decide +kernel
theorem dJ7_fill_53178_17 : decode cJ7_fill_53178 17 = .ok (.goto (-12), 3) := by decide +kernel
theorem dJ7_fill_53178_20 : decode cJ7_fill_53178 20 = .ok (.return_, 1) := by decide +kernel
