/-! ===== the reference: keepFire, bringFire, tryAims ===== -/
theorem dX13_keepFire_0 : decode cX13_keepFire 0 = .ok (.iconst 0, 1) := by decide +kernel
theorem dX13_keepFire_1 : decode cX13_keepFire 1 = .ok (.istore_n 2, 1) := by decide +kernel
theorem dX13_keepFire_2 : decode cX13_keepFire 2 = .ok (.iload_n 2, 1) := by decide +kernel
theorem dX13_keepFire_3 : decode cX13_keepFire 3 = .ok (.aload_n 0, 1) := by decide +kernel
theorem dX13_keepFire_4 : decode cX13_keepFire 4 = .ok (.invokevirtual 426, 3) := by decide +kernel
theorem dX13_keepFire_7 : decode cX13_keepFire 7 = .ok (.if_icmp .ge 73, 3) := by decide +kernel
theorem dX13_keepFire_10 : decode cX13_keepFire 10 = .ok (.aload_n 0, 1) := by decide +kernel
theorem dX13_keepFire_11 : decode cX13_keepFire 11 = .ok (.getfield 130, 3) := by decide +kernel
theorem dX13_keepFire_14 : decode cX13_keepFire 14 = .ok (.sipush 192, 3) := by decide +kernel
theorem dX13_keepFire_17 : decode cX13_keepFire 17 = .ok (.iload_n 1, 1) := by decide +kernel
theorem dX13_keepFire_18 : decode cX13_keepFire 18 = .ok (.imul, 1) := by decide +kernel
theorem dX13_keepFire_19 : decode cX13_keepFire 19 = .ok (.iconst 3, 1) := by decide +kernel
theorem dX13_keepFire_20 : decode cX13_keepFire 20 = .ok (.iload_n 2, 1) := by decide +kernel
theorem dX13_keepFire_21 : decode cX13_keepFire 21 = .ok (.imul, 1) := by decide +kernel
theorem dX13_keepFire_22 : decode cX13_keepFire 22 = .ok (.iadd, 1) := by decide +kernel
theorem dX13_keepFire_23 : decode cX13_keepFire 23 = .ok (.aload_n 0, 1) := by decide +kernel
theorem dX13_keepFire_24 : decode cX13_keepFire 24 = .ok (.getfield 105, 3) := by decide +kernel
theorem dX13_keepFire_27 : decode cX13_keepFire 27 = .ok (.iload_n 2, 1) := by decide +kernel
theorem dX13_keepFire_28 : decode cX13_keepFire 28 = .ok (.iaload, 1) := by decide +kernel
theorem dX13_keepFire_29 : decode cX13_keepFire 29 = .ok (.iastore, 1) := by decide +kernel
theorem dX13_keepFire_30 : decode cX13_keepFire 30 = .ok (.aload_n 0, 1) := by decide +kernel
theorem dX13_keepFire_31 : decode cX13_keepFire 31 = .ok (.getfield 130, 3) := by decide +kernel
theorem dX13_keepFire_34 : decode cX13_keepFire 34 = .ok (.sipush 192, 3) := by decide +kernel
theorem dX13_keepFire_37 : decode cX13_keepFire 37 = .ok (.iload_n 1, 1) := by decide +kernel
theorem dX13_keepFire_38 : decode cX13_keepFire 38 = .ok (.imul, 1) := by decide +kernel
theorem dX13_keepFire_39 : decode cX13_keepFire 39 = .ok (.iconst 3, 1) := by decide +kernel
theorem dX13_keepFire_40 : decode cX13_keepFire 40 = .ok (.iload_n 2, 1) := by decide +kernel
theorem dX13_keepFire_41 : decode cX13_keepFire 41 = .ok (.imul, 1) := by decide +kernel
theorem dX13_keepFire_42 : decode cX13_keepFire 42 = .ok (.iadd, 1) := by decide +kernel
theorem dX13_keepFire_43 : decode cX13_keepFire 43 = .ok (.iconst 1, 1) := by decide +kernel
theorem dX13_keepFire_44 : decode cX13_keepFire 44 = .ok (.iadd, 1) := by decide +kernel
theorem dX13_keepFire_45 : decode cX13_keepFire 45 = .ok (.aload_n 0, 1) := by decide +kernel
theorem dX13_keepFire_46 : decode cX13_keepFire 46 = .ok (.getfield 108, 3) := by decide +kernel
theorem dX13_keepFire_49 : decode cX13_keepFire 49 = .ok (.iload_n 2, 1) := by decide +kernel
theorem dX13_keepFire_50 : decode cX13_keepFire 50 = .ok (.iaload, 1) := by decide +kernel
theorem dX13_keepFire_51 : decode cX13_keepFire 51 = .ok (.iastore, 1) := by decide +kernel
theorem dX13_keepFire_52 : decode cX13_keepFire 52 = .ok (.aload_n 0, 1) := by decide +kernel
theorem dX13_keepFire_53 : decode cX13_keepFire 53 = .ok (.getfield 130, 3) := by decide +kernel
theorem dX13_keepFire_56 : decode cX13_keepFire 56 = .ok (.sipush 192, 3) := by decide +kernel
theorem dX13_keepFire_59 : decode cX13_keepFire 59 = .ok (.iload_n 1, 1) := by decide +kernel
theorem dX13_keepFire_60 : decode cX13_keepFire 60 = .ok (.imul, 1) := by decide +kernel
theorem dX13_keepFire_61 : decode cX13_keepFire 61 = .ok (.iconst 3, 1) := by decide +kernel
theorem dX13_keepFire_62 : decode cX13_keepFire 62 = .ok (.iload_n 2, 1) := by decide +kernel
theorem dX13_keepFire_63 : decode cX13_keepFire 63 = .ok (.imul, 1) := by decide +kernel
theorem dX13_keepFire_64 : decode cX13_keepFire 64 = .ok (.iadd, 1) := by decide +kernel
theorem dX13_keepFire_65 : decode cX13_keepFire 65 = .ok (.iconst 2, 1) := by decide +kernel
theorem dX13_keepFire_66 : decode cX13_keepFire 66 = .ok (.iadd, 1) := by decide +kernel
theorem dX13_keepFire_67 : decode cX13_keepFire 67 = .ok (.aload_n 0, 1) := by decide +kernel
theorem dX13_keepFire_68 : decode cX13_keepFire 68 = .ok (.getfield 111, 3) := by decide +kernel
theorem dX13_keepFire_71 : decode cX13_keepFire 71 = .ok (.iload_n 2, 1) := by decide +kernel
theorem dX13_keepFire_72 : decode cX13_keepFire 72 = .ok (.iaload, 1) := by decide +kernel
theorem dX13_keepFire_73 : decode cX13_keepFire 73 = .ok (.iastore, 1) := by decide +kernel
theorem dX13_keepFire_74 : decode cX13_keepFire 74 = .ok (.iinc 2 1, 3) := by decide +kernel
theorem dX13_keepFire_77 : decode cX13_keepFire 77 = .ok (.goto (-75), 3) := by decide +kernel
theorem dX13_keepFire_80 : decode cX13_keepFire 80 = .ok (.return_, 1) := by decide +kernel
theorem dX13_bringFire_0 : decode cX13_bringFire 0 = .ok (.iconst 0, 1) := by decide +kernel
theorem dX13_bringFire_1 : decode cX13_bringFire 1 = .ok (.istore_n 2, 1) := by decide +kernel
theorem dX13_bringFire_2 : decode cX13_bringFire 2 = .ok (.iload_n 2, 1) := by decide +kernel
theorem dX13_bringFire_3 : decode cX13_bringFire 3 = .ok (.aload_n 0, 1) := by decide +kernel
theorem dX13_bringFire_4 : decode cX13_bringFire 4 = .ok (.invokevirtual 426, 3) := by decide +kernel
theorem dX13_bringFire_7 : decode cX13_bringFire 7 = .ok (.if_icmp .ge 73, 3) := by decide +kernel
theorem dX13_bringFire_10 : decode cX13_bringFire 10 = .ok (.aload_n 0, 1) := by decide +kernel
theorem dX13_bringFire_11 : decode cX13_bringFire 11 = .ok (.getfield 105, 3) := by decide +kernel
theorem dX13_bringFire_14 : decode cX13_bringFire 14 = .ok (.iload_n 2, 1) := by decide +kernel
theorem dX13_bringFire_15 : decode cX13_bringFire 15 = .ok (.aload_n 0, 1) := by decide +kernel
theorem dX13_bringFire_16 : decode cX13_bringFire 16 = .ok (.getfield 130, 3) := by decide +kernel
theorem dX13_bringFire_19 : decode cX13_bringFire 19 = .ok (.sipush 192, 3) := by decide +kernel
theorem dX13_bringFire_22 : decode cX13_bringFire 22 = .ok (.iload_n 1, 1) := by decide +kernel
theorem dX13_bringFire_23 : decode cX13_bringFire 23 = .ok (.imul, 1) := by decide +kernel
theorem dX13_bringFire_24 : decode cX13_bringFire 24 = .ok (.iconst 3, 1) := by decide +kernel
theorem dX13_bringFire_25 : decode cX13_bringFire 25 = .ok (.iload_n 2, 1) := by decide +kernel
theorem dX13_bringFire_26 : decode cX13_bringFire 26 = .ok (.imul, 1) := by decide +kernel
theorem dX13_bringFire_27 : decode cX13_bringFire 27 = .ok (.iadd, 1) := by decide +kernel
theorem dX13_bringFire_28 : decode cX13_bringFire 28 = .ok (.iaload, 1) := by decide +kernel
theorem dX13_bringFire_29 : decode cX13_bringFire 29 = .ok (.iastore, 1) := by decide +kernel
theorem dX13_bringFire_30 : decode cX13_bringFire 30 = .ok (.aload_n 0, 1) := by decide +kernel
theorem dX13_bringFire_31 : decode cX13_bringFire 31 = .ok (.getfield 108, 3) := by decide +kernel
theorem dX13_bringFire_34 : decode cX13_bringFire 34 = .ok (.iload_n 2, 1) := by decide +kernel
theorem dX13_bringFire_35 : decode cX13_bringFire 35 = .ok (.aload_n 0, 1) := by decide +kernel
theorem dX13_bringFire_36 : decode cX13_bringFire 36 = .ok (.getfield 130, 3) := by decide +kernel
theorem dX13_bringFire_39 : decode cX13_bringFire 39 = .ok (.sipush 192, 3) := by decide +kernel
theorem dX13_bringFire_42 : decode cX13_bringFire 42 = .ok (.iload_n 1, 1) := by decide +kernel
theorem dX13_bringFire_43 : decode cX13_bringFire 43 = .ok (.imul, 1) := by decide +kernel
theorem dX13_bringFire_44 : decode cX13_bringFire 44 = .ok (.iconst 3, 1) := by decide +kernel
theorem dX13_bringFire_45 : decode cX13_bringFire 45 = .ok (.iload_n 2, 1) := by decide +kernel
theorem dX13_bringFire_46 : decode cX13_bringFire 46 = .ok (.imul, 1) := by decide +kernel
theorem dX13_bringFire_47 : decode cX13_bringFire 47 = .ok (.iadd, 1) := by decide +kernel
theorem dX13_bringFire_48 : decode cX13_bringFire 48 = .ok (.iconst 1, 1) := by decide +kernel
theorem dX13_bringFire_49 : decode cX13_bringFire 49 = .ok (.iadd, 1) := by decide +kernel
theorem dX13_bringFire_50 : decode cX13_bringFire 50 = .ok (.iaload, 1) := by decide +kernel
theorem dX13_bringFire_51 : decode cX13_bringFire 51 = .ok (.iastore, 1) := by decide +kernel
theorem dX13_bringFire_52 : decode cX13_bringFire 52 = .ok (.aload_n 0, 1) := by decide +kernel
theorem dX13_bringFire_53 : decode cX13_bringFire 53 = .ok (.getfield 111, 3) := by decide +kernel
theorem dX13_bringFire_56 : decode cX13_bringFire 56 = .ok (.iload_n 2, 1) := by decide +kernel
theorem dX13_bringFire_57 : decode cX13_bringFire 57 = .ok (.aload_n 0, 1) := by decide +kernel
theorem dX13_bringFire_58 : decode cX13_bringFire 58 = .ok (.getfield 130, 3) := by decide +kernel
theorem dX13_bringFire_61 : decode cX13_bringFire 61 = .ok (.sipush 192, 3) := by decide +kernel
theorem dX13_bringFire_64 : decode cX13_bringFire 64 = .ok (.iload_n 1, 1) := by decide +kernel
theorem dX13_bringFire_65 : decode cX13_bringFire 65 = .ok (.imul, 1) := by decide +kernel
theorem dX13_bringFire_66 : decode cX13_bringFire 66 = .ok (.iconst 3, 1) := by decide +kernel
theorem dX13_bringFire_67 : decode cX13_bringFire 67 = .ok (.iload_n 2, 1) := by decide +kernel
theorem dX13_bringFire_68 : decode cX13_bringFire 68 = .ok (.imul, 1) := by decide +kernel
theorem dX13_bringFire_69 : decode cX13_bringFire 69 = .ok (.iadd, 1) := by decide +kernel
theorem dX13_bringFire_70 : decode cX13_bringFire 70 = .ok (.iconst 2, 1) := by decide +kernel
theorem dX13_bringFire_71 : decode cX13_bringFire 71 = .ok (.iadd, 1) := by decide +kernel
theorem dX13_bringFire_72 : decode cX13_bringFire 72 = .ok (.iaload, 1) := by decide +kernel
theorem dX13_bringFire_73 : decode cX13_bringFire 73 = .ok (.iastore, 1) := by decide +kernel
theorem dX13_bringFire_74 : decode cX13_bringFire 74 = .ok (.iinc 2 1, 3) := by decide +kernel
theorem dX13_bringFire_77 : decode cX13_bringFire 77 = .ok (.goto (-75), 3) := by decide +kernel
theorem dX13_bringFire_80 : decode cX13_bringFire 80 = .ok (.return_, 1) := by decide +kernel
theorem dX13_tryAims_0 : decode cX13_tryAims 0 = .ok (.iload_n 1, 1) := by decide +kernel
theorem dX13_tryAims_1 : decode cX13_tryAims 1 = .ok (.aload_n 0, 1) := by decide +kernel
theorem dX13_tryAims_2 : decode cX13_tryAims 2 = .ok (.getfield 467, 3) := by decide +kernel
theorem dX13_tryAims_5 : decode cX13_tryAims 5 = .ok (.if_icmp .ne 77, 3) := by decide +kernel
theorem dX13_tryAims_8 : decode cX13_tryAims 8 = .ok (.iload_n 1, 1) := by decide +kernel
theorem dX13_tryAims_9 : decode cX13_tryAims 9 = .ok (.istore_n 3, 1) := by decide +kernel
theorem dX13_tryAims_10 : decode cX13_tryAims 10 = .ok (.iload_n 3, 1) := by decide +kernel
theorem dX13_tryAims_11 : decode cX13_tryAims 11 = .ok (.bipush 20, 2) := by decide +kernel
theorem dX13_tryAims_13 : decode cX13_tryAims 13 = .ok (.if_icmp .ge 15, 3) := by decide +kernel
theorem dX13_tryAims_16 : decode cX13_tryAims 16 = .ok (.aload_n 0, 1) := by decide +kernel
theorem dX13_tryAims_17 : decode cX13_tryAims 17 = .ok (.iconst (-1), 1) := by decide +kernel
theorem dX13_tryAims_18 : decode cX13_tryAims 18 = .ok (.iconst 0, 1) := by decide +kernel
theorem dX13_tryAims_19 : decode cX13_tryAims 19 = .ok (.invokevirtual 445, 3) := by decide +kernel
theorem dX13_tryAims_22 : decode cX13_tryAims 22 = .ok (.iinc 3 1, 3) := by decide +kernel
theorem dX13_tryAims_25 : decode cX13_tryAims 25 = .ok (.goto (-15), 3) := by decide +kernel
theorem dX13_tryAims_28 : decode cX13_tryAims 28 = .ok (.aload_n 0, 1) := by decide +kernel
theorem dX13_tryAims_29 : decode cX13_tryAims 29 = .ok (.getfield 470, 3) := by decide +kernel
theorem dX13_tryAims_32 : decode cX13_tryAims 32 = .ok (.iconst (-1), 1) := by decide +kernel
theorem dX13_tryAims_33 : decode cX13_tryAims 33 = .ok (.if_icmp .eq 15, 3) := by decide +kernel
theorem dX13_tryAims_36 : decode cX13_tryAims 36 = .ok (.aload_n 0, 1) := by decide +kernel
theorem dX13_tryAims_37 : decode cX13_tryAims 37 = .ok (.getfield 423, 3) := by decide +kernel
theorem dX13_tryAims_40 : decode cX13_tryAims 40 = .ok (.aload_n 0, 1) := by decide +kernel
theorem dX13_tryAims_41 : decode cX13_tryAims 41 = .ok (.getfield 470, 3) := by decide +kernel
theorem dX13_tryAims_44 : decode cX13_tryAims 44 = .ok (.if_icmp .lt 4, 3) := by decide +kernel
theorem dX13_tryAims_47 : decode cX13_tryAims 47 = .ok (.return_, 1) := by decide +kernel
theorem dX13_tryAims_48 : decode cX13_tryAims 48 = .ok (.aload_n 0, 1) := by decide +kernel
theorem dX13_tryAims_49 : decode cX13_tryAims 49 = .ok (.aload_n 0, 1) := by decide +kernel
theorem dX13_tryAims_50 : decode cX13_tryAims 50 = .ok (.getfield 423, 3) := by decide +kernel
theorem dX13_tryAims_53 : decode cX13_tryAims 53 = .ok (.putfield 470, 3) := by decide +kernel
theorem dX13_tryAims_56 : decode cX13_tryAims 56 = .ok (.iconst 0, 1) := by decide +kernel
theorem dX13_tryAims_57 : decode cX13_tryAims 57 = .ok (.istore_n 3, 1) := by decide +kernel
theorem dX13_tryAims_58 : decode cX13_tryAims 58 = .ok (.iload_n 3, 1) := by decide +kernel
theorem dX13_tryAims_59 : decode cX13_tryAims 59 = .ok (.iload_n 1, 1) := by decide +kernel
theorem dX13_tryAims_60 : decode cX13_tryAims 60 = .ok (.if_icmp .ge 21, 3) := by decide +kernel
theorem dX13_tryAims_63 : decode cX13_tryAims 63 = .ok (.aload_n 0, 1) := by decide +kernel
theorem dX13_tryAims_64 : decode cX13_tryAims 64 = .ok (.getfield 136, 3) := by decide +kernel
theorem dX13_tryAims_67 : decode cX13_tryAims 67 = .ok (.iload_n 3, 1) := by decide +kernel
theorem dX13_tryAims_68 : decode cX13_tryAims 68 = .ok (.aload_n 0, 1) := by decide +kernel
theorem dX13_tryAims_69 : decode cX13_tryAims 69 = .ok (.getfield 133, 3) := by decide +kernel
theorem dX13_tryAims_72 : decode cX13_tryAims 72 = .ok (.iload_n 3, 1) := by decide +kernel
theorem dX13_tryAims_73 : decode cX13_tryAims 73 = .ok (.iaload, 1) := by decide +kernel
theorem dX13_tryAims_74 : decode cX13_tryAims 74 = .ok (.iastore, 1) := by decide +kernel
theorem dX13_tryAims_75 : decode cX13_tryAims 75 = .ok (.iinc 3 1, 3) := by decide +kernel
theorem dX13_tryAims_78 : decode cX13_tryAims 78 = .ok (.goto (-20), 3) := by decide +kernel
theorem dX13_tryAims_81 : decode cX13_tryAims 81 = .ok (.return_, 1) := by decide +kernel
theorem dX13_tryAims_82 : decode cX13_tryAims 82 = .ok (.aload_n 0, 1) := by decide +kernel
theorem dX13_tryAims_83 : decode cX13_tryAims 83 = .ok (.iload_n 1, 1) := by decide +kernel
theorem dX13_tryAims_84 : decode cX13_tryAims 84 = .ok (.invokevirtual 473, 3) := by decide +kernel
theorem dX13_tryAims_87 : decode cX13_tryAims 87 = .ok (.aload_n 0, 1) := by decide +kernel
theorem dX13_tryAims_88 : decode cX13_tryAims 88 = .ok (.getfield 423, 3) := by decide +kernel
theorem dX13_tryAims_91 : decode cX13_tryAims 91 = .ok (.istore_n 3, 1) := by decide +kernel
theorem dX13_tryAims_92 : decode cX13_tryAims 92 = .ok (.iconst 0, 1) := by decide +kernel
theorem dX13_tryAims_93 : decode cX13_tryAims 93 = .ok (.istore 4, 2) := by decide +kernel
theorem dX13_tryAims_95 : decode cX13_tryAims 95 = .ok (.iconst 0, 1) := by decide +kernel
theorem dX13_tryAims_96 : decode cX13_tryAims 96 = .ok (.istore 5, 2) := by decide +kernel
theorem dX13_tryAims_98 : decode cX13_tryAims 98 = .ok (.iload 5, 2) := by decide +kernel
theorem dX13_tryAims_100 : decode cX13_tryAims 100 = .ok (.aload_n 0, 1) := by decide +kernel
theorem dX13_tryAims_101 : decode cX13_tryAims 101 = .ok (.invokevirtual 426, 3) := by decide +kernel
theorem dX13_tryAims_104 : decode cX13_tryAims 104 = .ok (.if_icmp .ge 94, 3) := by decide +kernel
theorem dX13_tryAims_107 : decode cX13_tryAims 107 = .ok (.iload 4, 2) := by decide +kernel
theorem dX13_tryAims_109 : decode cX13_tryAims 109 = .ok (.bipush 8, 2) := by decide +kernel
theorem dX13_tryAims_111 : decode cX13_tryAims 111 = .ok (.if_icmp .ge 87, 3) := by decide +kernel
theorem dX13_tryAims_114 : decode cX13_tryAims 114 = .ok (.aload_n 0, 1) := by decide +kernel
theorem dX13_tryAims_115 : decode cX13_tryAims 115 = .ok (.getfield 130, 3) := by decide +kernel
theorem dX13_tryAims_118 : decode cX13_tryAims 118 = .ok (.sipush 192, 3) := by decide +kernel
theorem dX13_tryAims_121 : decode cX13_tryAims 121 = .ok (.iload_n 1, 1) := by decide +kernel
theorem dX13_tryAims_122 : decode cX13_tryAims 122 = .ok (.imul, 1) := by decide +kernel
theorem dX13_tryAims_123 : decode cX13_tryAims 123 = .ok (.iconst 3, 1) := by decide +kernel
theorem dX13_tryAims_124 : decode cX13_tryAims 124 = .ok (.iload 5, 2) := by decide +kernel
theorem dX13_tryAims_126 : decode cX13_tryAims 126 = .ok (.imul, 1) := by decide +kernel
theorem dX13_tryAims_127 : decode cX13_tryAims 127 = .ok (.iadd, 1) := by decide +kernel
theorem dX13_tryAims_128 : decode cX13_tryAims 128 = .ok (.iconst 1, 1) := by decide +kernel
theorem dX13_tryAims_129 : decode cX13_tryAims 129 = .ok (.iadd, 1) := by decide +kernel
theorem dX13_tryAims_130 : decode cX13_tryAims 130 = .ok (.iaload, 1) := by decide +kernel
theorem dX13_tryAims_131 : decode cX13_tryAims 131 = .ok (.ifCond .ne 6, 3) := by decide +kernel
theorem dX13_tryAims_134 : decode cX13_tryAims 134 = .ok (.goto 58, 3) := by decide +kernel
theorem dX13_tryAims_137 : decode cX13_tryAims 137 = .ok (.iinc 4 1, 3) := by decide +kernel
theorem dX13_tryAims_140 : decode cX13_tryAims 140 = .ok (.aload_n 0, 1) := by decide +kernel
theorem dX13_tryAims_141 : decode cX13_tryAims 141 = .ok (.getfield 133, 3) := by decide +kernel
theorem dX13_tryAims_144 : decode cX13_tryAims 144 = .ok (.iload_n 1, 1) := by decide +kernel
theorem dX13_tryAims_145 : decode cX13_tryAims 145 = .ok (.bipush 100, 2) := by decide +kernel
theorem dX13_tryAims_147 : decode cX13_tryAims 147 = .ok (.bipush 10, 2) := by decide +kernel
theorem dX13_tryAims_149 : decode cX13_tryAims 149 = .ok (.iload 5, 2) := by decide +kernel
theorem dX13_tryAims_151 : decode cX13_tryAims 151 = .ok (.aload_n 0, 1) := by decide +kernel
theorem dX13_tryAims_152 : decode cX13_tryAims 152 = .ok (.invokevirtual 298, 3) := by decide +kernel
theorem dX13_tryAims_155 : decode cX13_tryAims 155 = .ok (.idiv, 1) := by decide +kernel
theorem dX13_tryAims_156 : decode cX13_tryAims 156 = .ok (.imul, 1) := by decide +kernel
theorem dX13_tryAims_157 : decode cX13_tryAims 157 = .ok (.iadd, 1) := by decide +kernel
theorem dX13_tryAims_158 : decode cX13_tryAims 158 = .ok (.iload 5, 2) := by decide +kernel
theorem dX13_tryAims_160 : decode cX13_tryAims 160 = .ok (.aload_n 0, 1) := by decide +kernel
theorem dX13_tryAims_161 : decode cX13_tryAims 161 = .ok (.invokevirtual 298, 3) := by decide +kernel
theorem dX13_tryAims_164 : decode cX13_tryAims 164 = .ok (.irem, 1) := by decide +kernel
theorem dX13_tryAims_165 : decode cX13_tryAims 165 = .ok (.iadd, 1) := by decide +kernel
theorem dX13_tryAims_166 : decode cX13_tryAims 166 = .ok (.iastore, 1) := by decide +kernel
theorem dX13_tryAims_167 : decode cX13_tryAims 167 = .ok (.aload_n 0, 1) := by decide +kernel
theorem dX13_tryAims_168 : decode cX13_tryAims 168 = .ok (.iload 5, 2) := by decide +kernel
theorem dX13_tryAims_170 : decode cX13_tryAims 170 = .ok (.iload_n 2, 1) := by decide +kernel
theorem dX13_tryAims_171 : decode cX13_tryAims 171 = .ok (.invokevirtual 445, 3) := by decide +kernel
theorem dX13_tryAims_174 : decode cX13_tryAims 174 = .ok (.aload_n 0, 1) := by decide +kernel
theorem dX13_tryAims_175 : decode cX13_tryAims 175 = .ok (.iload_n 1, 1) := by decide +kernel
theorem dX13_tryAims_176 : decode cX13_tryAims 176 = .ok (.iconst 1, 1) := by decide +kernel
theorem dX13_tryAims_177 : decode cX13_tryAims 177 = .ok (.iadd, 1) := by decide +kernel
theorem dX13_tryAims_178 : decode cX13_tryAims 178 = .ok (.iload_n 2, 1) := by decide +kernel
theorem dX13_tryAims_179 : decode cX13_tryAims 179 = .ok (.invokevirtual 476, 3) := by decide +kernel
theorem dX13_tryAims_182 : decode cX13_tryAims 182 = .ok (.aload_n 0, 1) := by decide +kernel
theorem dX13_tryAims_183 : decode cX13_tryAims 183 = .ok (.iload_n 1, 1) := by decide +kernel
theorem dX13_tryAims_184 : decode cX13_tryAims 184 = .ok (.invokevirtual 479, 3) := by decide +kernel
theorem dX13_tryAims_187 : decode cX13_tryAims 187 = .ok (.aload_n 0, 1) := by decide +kernel
theorem dX13_tryAims_188 : decode cX13_tryAims 188 = .ok (.iload_n 3, 1) := by decide +kernel
theorem dX13_tryAims_189 : decode cX13_tryAims 189 = .ok (.putfield 423, 3) := by decide +kernel
theorem dX13_tryAims_192 : decode cX13_tryAims 192 = .ok (.iinc 5 1, 3) := by decide +kernel
theorem dX13_tryAims_195 : decode cX13_tryAims 195 = .ok (.goto (-97), 3) := by decide +kernel
theorem dX13_tryAims_198 : decode cX13_tryAims 198 = .ok (.aload_n 0, 1) := by decide +kernel
theorem dX13_tryAims_199 : decode cX13_tryAims 199 = .ok (.getfield 133, 3) := by decide +kernel
theorem dX13_tryAims_202 : decode cX13_tryAims 202 = .ok (.iload_n 1, 1) := by decide +kernel
theorem dX13_tryAims_203 : decode cX13_tryAims 203 = .ok (.iconst 0, 1) := by decide +kernel
theorem dX13_tryAims_204 : decode cX13_tryAims 204 = .ok (.iastore, 1) := by decide +kernel
theorem dX13_tryAims_205 : decode cX13_tryAims 205 = .ok (.aload_n 0, 1) := by decide +kernel
theorem dX13_tryAims_206 : decode cX13_tryAims 206 = .ok (.iconst (-1), 1) := by decide +kernel
theorem dX13_tryAims_207 : decode cX13_tryAims 207 = .ok (.iconst 0, 1) := by decide +kernel
theorem dX13_tryAims_208 : decode cX13_tryAims 208 = .ok (.invokevirtual 445, 3) := by decide +kernel
theorem dX13_tryAims_211 : decode cX13_tryAims 211 = .ok (.aload_n 0, 1) := by decide +kernel
theorem dX13_tryAims_212 : decode cX13_tryAims 212 = .ok (.iload_n 1, 1) := by decide +kernel
theorem dX13_tryAims_213 : decode cX13_tryAims 213 = .ok (.iconst 1, 1) := by decide +kernel
theorem dX13_tryAims_214 : decode cX13_tryAims 214 = .ok (.iadd, 1) := by decide +kernel
theorem dX13_tryAims_215 : decode cX13_tryAims 215 = .ok (.iload_n 2, 1) := by decide +kernel
theorem dX13_tryAims_216 : decode cX13_tryAims 216 = .ok (.invokevirtual 476, 3) := by decide +kernel
theorem dX13_tryAims_219 : decode cX13_tryAims 219 = .ok (.aload_n 0, 1) := by decide +kernel
theorem dX13_tryAims_220 : decode cX13_tryAims 220 = .ok (.iload_n 1, 1) := by decide +kernel
theorem dX13_tryAims_221 : decode cX13_tryAims 221 = .ok (.invokevirtual 479, 3) := by decide +kernel
theorem dX13_tryAims_224 : decode cX13_tryAims 224 = .ok (.aload_n 0, 1) := by decide +kernel
theorem dX13_tryAims_225 : decode cX13_tryAims 225 = .ok (.iload_n 3, 1) := by decide +kernel
theorem dX13_tryAims_226 : decode cX13_tryAims 226 = .ok (.putfield 423, 3) := by decide +kernel
theorem dX13_tryAims_229 : decode cX13_tryAims 229 = .ok (.return_, 1) := by decide +kernel
theorem sOv_u {b : Nat} {x old : Nat → Int32} {k j : Nat} {v : Int32} (h : x k = v) (hj : j = b + k) : upd (sOv b x old k) j v = sOv b x old (k + 1) := by
  subst hj; rw [← h]; exact sOv_s
theorem fK_ag {m V : Nat} {s t : zFs} (h : zAgF m s t) (ht : fK m V t) : fK m V s := ⟨fun k hk => by
  rw [h.1 k hk, h.2.2 k hk]; exact ht.1 k hk, fun k hk => by rw [h.2.1 k hk]; exact ht.2 k hk⟩
theorem chL_y {bu : Nat → Int32} {fo : Int32 → zSs → zSs} {ss : zSs} {i : Nat} (h8 : ¬ 8 ≤ (chL bu fo ss i).1) (hb : ¬ bu i = 0) : chL bu fo ss (i + 1) = ((chL bu fo ss i).1 + 1, fo (nI i) (chL bu fo ss i).2) := by rw [chL, if_neg h8, if_neg hb]
theorem chL_n {bu : Nat → Int32} {fo : Int32 → zSs → zSs} {ss : zSs} {i : Nat} (hb : bu i = 0) : chL bu fo ss i = chL bu fo ss (i + 1) := by
  rw [chL, if_pos hb]; split <;> rfl
theorem aOf_n {c C : Nat} (hC : 0 < C) (hC2 : C ≤ 64) (hc : c < 64) : nI (100 + 10 * (c / C) + c % C) = aOf (nI c) (nI C) := by
  unfold aOf
  have h1 : c / C ≤ c := Nat.div_le_self c C
  have h2 : c / C * C ≤ c := Nat.div_mul_le_self c C
  have h3 := Nat.div_add_mod' c C
  rw [if_neg (nI_ne1 (by omega)), if_neg (by rw [show (0 : Int32) = nI 0 from rfl, nI_le' (by omega) (by omega)]; omega), nI_div (by omega) (by omega) hC, nI_mul, nI_sub h2, show (10 : Int32) = nI 10 from rfl, nI_mul, show (100 : Int32) = nI 100 from rfl, nI_add, nI_add]
  exact congrArg nI (by omega)
theorem up82 {g : Nat → Int32} {a b c z : Int32} : upd (upd (upd (upd g 70 a) 81 b) 82 c) 70 z = upd (upd (upd g 70 z) 81 b) 82 c := by
  funext j
  simp only [upd]
  by_cases h : j = 70
  · rw [if_pos h, if_neg (by omega), if_neg (by omega), if_pos h]
  · rw [if_neg h, if_neg h, if_neg h]
set_option maxRecDepth 100000 in
theorem lp_mkeep {l : Launch} {dd : Nat} {Po : zPo} {K0 : zK} {h0 : List va_E} {Xo : zK → Prop} {Gc : zG → Prop} (mo : Nat) (e : Nat → Nat) (g : Nat → Int32) (w : Int64) (nw : Nat → Int32) (D : zYd) (S : zFs) (st : Nat → Int32) (i0 : Nat) (hd : 1 ≤ dd) (hR : yR D nw) (hC : D.1 14 ≤ 8) (hRo : D.1 15 ≤ 8) (hi0 : i0 < 3)
    (hk : zS (l, mX13_keepFire, dd, Po, K0, h0, Xo, Gc) 0 0 80 [] [] [(mo, .inr (11, fMo e g w)), ((e 14), .inl (0, 800, .inl nw)), ((e 64), .inl (0, 64, .inl (S.1))), ((e 65), .inl (0, 64, .inl (S.2.2))), ((e 66), .inl (0, 64, .inl (S.2.1))), ((e 77), .inl (0, 576, .inl (sOv (192 * i0) (c3 S) st (3 * (D.1 14 * D.1 15)))))]) :
    ∀ (m i : Nat) , i + m = (D.1 14 * D.1 15) → zS (l, mX13_keepFire, dd, Po, K0, h0, Xo, Gc) 0 0 2 [(0, .ref mo), (1, .int (nI i0)), (2, .int (nI i))] [] [(mo, .inr (11, fMo e g w)), ((e 14), .inl (0, 800, .inl nw)), ((e 64), .inl (0, 64, .inl (S.1))), ((e 65), .inl (0, 64, .inl (S.2.2))), ((e 66), .inl (0, 64, .inl (S.2.1))), ((e 77), .inl (0, 576, .inl (sOv (192 * i0) (c3 S) st (3 * i))))] := by
  intro m
  induction m with
  | zero =>
    intro i hi
    have h64 : D.1 14 * D.1 15 ≤ 64 := Nat.mul_le_mul hC hRo
    refine zs_iload_n dX13_keepFire_2 rfl ?_
    refine zs_aload_n dX13_keepFire_3 rfl rfl ?_
    refine zs_callV (M := mX13_cells) (As := []) (st := [.int (nI i)]) (Kc := [(mo, .inr (11, fMo e g w)), ((e 14), .inl (0, 800, .inl nw))]) (Kr := [((e 64), .inl (0, 64, .inl (S.1))), ((e 65), .inl (0, 64, .inl (S.2.2))), ((e 66), .inl (0, 64, .inl (S.2.1))), ((e 77), .inl (0, 576, .inl (sOv (192 * i0) (c3 S) st (3 * i))))]) [0, 1] [2, 3, 4, 5] 0 dX13_keepFire_4 zl_RX13_426 kX13_cells rfl rfl rfl rfl rfl (by decide) rfl rfl (show dd - 1 + 1 ≤ dd by omega) (Nat.zero_le _) (Nat.zero_le _) (Nat.le_of_ble_eq_true rfl) (s_mCells l (dd - 1) mo e g w nw D hR) (fun r K1 hr => ?_)
    obtain ⟨rfl, rfl⟩ := hr
    refine zs_K (K' := [(mo, .inr (11, fMo e g w)), ((e 14), .inl (0, 800, .inl nw)), ((e 64), .inl (0, 64, .inl (S.1))), ((e 65), .inl (0, 64, .inl (S.2.2))), ((e 66), .inl (0, 64, .inl (S.2.1))), ((e 77), .inl (0, 576, .inl (sOv (192 * i0) (c3 S) st (3 * i))))]) [4, 5, 0, 1, 2, 3] rfl (by decide) ?_
    refine zs_icmp_ge (tgt := 80) dX13_keepFire_7 (by decide) (fun c_1 => ?_) (fun c_1 => (c_1 (by rw [show i = (D.1 14 * D.1 15) by omega]; exact Int32.le_refl _) : False).elim)
    rw [show i = (D.1 14 * D.1 15) by omega]
    refine zs_lv [] rfl ?_
    exact hk
  | succ m ih =>
    intro i hi
    have h64 : D.1 14 * D.1 15 ≤ 64 := Nat.mul_le_mul hC hRo
    refine zs_iload_n dX13_keepFire_2 rfl ?_
    refine zs_aload_n dX13_keepFire_3 rfl rfl ?_
    refine zs_callV (M := mX13_cells) (As := []) (st := [.int (nI i)]) (Kc := [(mo, .inr (11, fMo e g w)), ((e 14), .inl (0, 800, .inl nw))]) (Kr := [((e 64), .inl (0, 64, .inl (S.1))), ((e 65), .inl (0, 64, .inl (S.2.2))), ((e 66), .inl (0, 64, .inl (S.2.1))), ((e 77), .inl (0, 576, .inl (sOv (192 * i0) (c3 S) st (3 * i))))]) [0, 1] [2, 3, 4, 5] 0 dX13_keepFire_4 zl_RX13_426 kX13_cells rfl rfl rfl rfl rfl (by decide) rfl rfl (show dd - 1 + 1 ≤ dd by omega) (Nat.zero_le _) (Nat.zero_le _) (Nat.le_of_ble_eq_true rfl) (s_mCells l (dd - 1) mo e g w nw D hR) (fun r K1 hr => ?_)
    obtain ⟨rfl, rfl⟩ := hr
    refine zs_K (K' := [(mo, .inr (11, fMo e g w)), ((e 14), .inl (0, 800, .inl nw)), ((e 64), .inl (0, 64, .inl (S.1))), ((e 65), .inl (0, 64, .inl (S.2.2))), ((e 66), .inl (0, 64, .inl (S.2.1))), ((e 77), .inl (0, 576, .inl (sOv (192 * i0) (c3 S) st (3 * i))))]) [4, 5, 0, 1, 2, 3] rfl (by decide) ?_
    refine zs_icmp_ge (tgt := 80) dX13_keepFire_7 (by decide) (fun c_1 => (nI_ge (show i < (D.1 14 * D.1 15) by omega) (by omega) c_1 : False).elim) (fun c_1 => ?_)
    refine zs_aload_n dX13_keepFire_10 rfl rfl ?_
    refine zs_get 0 dX13_keepFire_11 zf_RX13_130 rfl (v := .ref (e 77)) rfl ?_
    refine zs_sipush (v := nI 192) dX13_keepFire_14 (by decide) ?_
    refine zs_iload_n dX13_keepFire_17 rfl ?_
    refine zs_imul dX13_keepFire_18 ?_
    refine zs_as (y := nI (192 * i0)) (nI_mul _ _) ?_
    refine zs_iconst (v := nI 3) dX13_keepFire_19 (by decide) ?_
    refine zs_iload_n dX13_keepFire_20 rfl ?_
    refine zs_imul dX13_keepFire_21 ?_
    refine zs_as (y := nI (3 * i)) (nI_mul _ _) ?_
    refine zs_iadd dX13_keepFire_22 ?_
    refine zs_as (y := nI ((192 * i0) + (3 * i))) (nI_add _ _) ?_
    refine zs_aload_n dX13_keepFire_23 rfl rfl ?_
    refine zs_get 0 dX13_keepFire_24 zf_RX13_105 rfl (v := .ref (e 64)) rfl ?_
    refine zs_iload_n dX13_keepFire_27 rfl ?_
    refine zs_iald 2 dX13_keepFire_28 rfl (vp_in_nI (by omega) (by omega)) ?_
    refine zs_as (y := (S.1) i) (by rw [nI_c (n := i) (by omega)]) ?_
    refine zs_iast 5 dX13_keepFire_29 rfl (vp_in_nI (by omega) (by omega)) ?_
    rw [nI_c (n := (192 * i0) + (3 * i)) (by omega)]
    rw [show (upd (sOv (192 * i0) (c3 S) st (3 * i)) ((192 * i0) + (3 * i)) ((S.1) i)) = (sOv (192 * i0) (c3 S) st (3 * i + 1)) from sOv_u c3_0 rfl]
    show zS _ _ _ _ _ _ [(mo, .inr (11, fMo e g w)), ((e 14), .inl (0, 800, .inl nw)), ((e 64), .inl (0, 64, .inl (S.1))), ((e 65), .inl (0, 64, .inl (S.2.2))), ((e 66), .inl (0, 64, .inl (S.2.1))), ((e 77), .inl (0, 576, .inl (sOv (192 * i0) (c3 S) st (3 * i + 1))))]
    refine zs_aload_n dX13_keepFire_30 rfl rfl ?_
    refine zs_get 0 dX13_keepFire_31 zf_RX13_130 rfl (v := .ref (e 77)) rfl ?_
    refine zs_sipush (v := nI 192) dX13_keepFire_34 (by decide) ?_
    refine zs_iload_n dX13_keepFire_37 rfl ?_
    refine zs_imul dX13_keepFire_38 ?_
    refine zs_as (y := nI (192 * i0)) (nI_mul _ _) ?_
    refine zs_iconst (v := nI 3) dX13_keepFire_39 (by decide) ?_
    refine zs_iload_n dX13_keepFire_40 rfl ?_
    refine zs_imul dX13_keepFire_41 ?_
    refine zs_as (y := nI (3 * i)) (nI_mul _ _) ?_
    refine zs_iadd dX13_keepFire_42 ?_
    refine zs_as (y := nI ((192 * i0) + (3 * i))) (nI_add _ _) ?_
    refine zs_iconst (v := nI 1) dX13_keepFire_43 (by decide) ?_
    refine zs_iadd dX13_keepFire_44 ?_
    refine zs_as (y := nI (((192 * i0) + (3 * i)) + 1)) (nI_add _ _) ?_
    refine zs_aload_n dX13_keepFire_45 rfl rfl ?_
    refine zs_get 0 dX13_keepFire_46 zf_RX13_108 rfl (v := .ref (e 65)) rfl ?_
    refine zs_iload_n dX13_keepFire_49 rfl ?_
    refine zs_iald 3 dX13_keepFire_50 rfl (vp_in_nI (by omega) (by omega)) ?_
    refine zs_as (y := (S.2.2) i) (by rw [nI_c (n := i) (by omega)]) ?_
    refine zs_iast 5 dX13_keepFire_51 rfl (vp_in_nI (by omega) (by omega)) ?_
    rw [nI_c (n := ((192 * i0) + (3 * i)) + 1) (by omega)]
    rw [show (upd (sOv (192 * i0) (c3 S) st (3 * i + 1)) (((192 * i0) + (3 * i)) + 1) ((S.2.2) i)) = (sOv (192 * i0) (c3 S) st (3 * i + 2)) from sOv_u c3_1 rfl]
    show zS _ _ _ _ _ _ [(mo, .inr (11, fMo e g w)), ((e 14), .inl (0, 800, .inl nw)), ((e 64), .inl (0, 64, .inl (S.1))), ((e 65), .inl (0, 64, .inl (S.2.2))), ((e 66), .inl (0, 64, .inl (S.2.1))), ((e 77), .inl (0, 576, .inl (sOv (192 * i0) (c3 S) st (3 * i + 2))))]
    refine zs_aload_n dX13_keepFire_52 rfl rfl ?_
    refine zs_get 0 dX13_keepFire_53 zf_RX13_130 rfl (v := .ref (e 77)) rfl ?_
    refine zs_sipush (v := nI 192) dX13_keepFire_56 (by decide) ?_
    refine zs_iload_n dX13_keepFire_59 rfl ?_
    refine zs_imul dX13_keepFire_60 ?_
    refine zs_as (y := nI (192 * i0)) (nI_mul _ _) ?_
    refine zs_iconst (v := nI 3) dX13_keepFire_61 (by decide) ?_
    refine zs_iload_n dX13_keepFire_62 rfl ?_
    refine zs_imul dX13_keepFire_63 ?_
    refine zs_as (y := nI (3 * i)) (nI_mul _ _) ?_
    refine zs_iadd dX13_keepFire_64 ?_
    refine zs_as (y := nI ((192 * i0) + (3 * i))) (nI_add _ _) ?_
    refine zs_iconst (v := nI 2) dX13_keepFire_65 (by decide) ?_
    refine zs_iadd dX13_keepFire_66 ?_
    refine zs_as (y := nI (((192 * i0) + (3 * i)) + 2)) (nI_add _ _) ?_
    refine zs_aload_n dX13_keepFire_67 rfl rfl ?_
    refine zs_get 0 dX13_keepFire_68 zf_RX13_111 rfl (v := .ref (e 66)) rfl ?_
    refine zs_iload_n dX13_keepFire_71 rfl ?_
    refine zs_iald 4 dX13_keepFire_72 rfl (vp_in_nI (by omega) (by omega)) ?_
    refine zs_as (y := (S.2.1) i) (by rw [nI_c (n := i) (by omega)]) ?_
    refine zs_iast 5 dX13_keepFire_73 rfl (vp_in_nI (by omega) (by omega)) ?_
    rw [nI_c (n := ((192 * i0) + (3 * i)) + 2) (by omega)]
    rw [show (upd (sOv (192 * i0) (c3 S) st (3 * i + 2)) (((192 * i0) + (3 * i)) + 2) ((S.2.1) i)) = (sOv (192 * i0) (c3 S) st (3 * (i + 1))) from sOv_u c3_2 rfl]
    show zS _ _ _ _ _ _ [(mo, .inr (11, fMo e g w)), ((e 14), .inl (0, 800, .inl nw)), ((e 64), .inl (0, 64, .inl (S.1))), ((e 65), .inl (0, 64, .inl (S.2.2))), ((e 66), .inl (0, 64, .inl (S.2.1))), ((e 77), .inl (0, 576, .inl (sOv (192 * i0) (c3 S) st (3 * (i + 1)))))]
    refine zs_iinc (v := (nI (i + 1))) (lv' := [(2, .int (nI (i + 1))), (0, .ref mo), (1, .int (nI i0))]) dX13_keepFire_74 rfl (nI_add _ 1) (Nat.le_of_ble_eq_true rfl) rfl ?_
    refine zs_goto (tgt := 2) dX13_keepFire_77 (by decide) ?_
    refine zs_lv [1, 2, 0] rfl ?_
    exact ih (i + 1) (by omega)
set_option maxRecDepth 100000 in
theorem s_mKeep (l : Launch) (dd : Nat) (mo : Nat) (e : Nat → Nat) (g : Nat → Int32) (w : Int64) (nw : Nat → Int32) (D : zYd) (S : zFs) (st : Nat → Int32) (i0 : Nat) (hd : 1 ≤ dd) (hR : yR D nw) (hC : D.1 14 ≤ 8) (hRo : D.1 15 ≤ 8) (hi0 : i0 < 3) : zSp l mX13_keepFire dd 0 0 [.ref mo, .int (nI i0)] [(mo, .inr (11, fMo e g w)), ((e 14), .inl (0, 800, .inl nw)), ((e 64), .inl (0, 64, .inl (S.1))), ((e 65), .inl (0, 64, .inl (S.2.2))), ((e 66), .inl (0, 64, .inl (S.2.1))), ((e 77), .inl (0, 576, .inl st))] (fun r K' => r = none ∧ K' = [(mo, .inr (11, fMo e g w)), ((e 14), .inl (0, 800, .inl nw)), ((e 64), .inl (0, 64, .inl (S.1))), ((e 65), .inl (0, 64, .inl (S.2.2))), ((e 66), .inl (0, 64, .inl (S.2.1))), ((e 77), .inl (0, 576, .inl (sOv (192 * i0) (c3 S) st (3 * (D.1 14 * D.1 15)))))]) := by
  refine zSp.of (by decide) (Nat.le_of_ble_eq_true rfl) (fun h0 => ?_)
  show zS _ 0 0 0 [(0, .ref mo), (1, .int (nI i0))] [] [(mo, .inr (11, fMo e g w)), ((e 14), .inl (0, 800, .inl nw)), ((e 64), .inl (0, 64, .inl (S.1))), ((e 65), .inl (0, 64, .inl (S.2.2))), ((e 66), .inl (0, 64, .inl (S.2.1))), ((e 77), .inl (0, 576, .inl st))]
  refine zs_iconst (v := nI 0) dX13_keepFire_0 (by decide) ?_
  refine zs_istore_n (lv' := [(2, .int (nI 0)), (0, .ref mo), (1, .int (nI i0))]) dX13_keepFire_1 (Nat.le_of_ble_eq_true rfl) rfl ?_
  refine zs_eq (K' := [(mo, .inr (11, fMo e g w)), ((e 14), .inl (0, 800, .inl nw)), ((e 64), .inl (0, 64, .inl (S.1))), ((e 65), .inl (0, 64, .inl (S.2.2))), ((e 66), .inl (0, 64, .inl (S.2.1))), ((e 77), .inl (0, 576, .inl (sOv (192 * i0) (c3 S) st (3 * 0))))]) (by rw [Nat.mul_zero, sOv_0]) ?_
  refine zs_lv [1, 2, 0] rfl ?_
  refine lp_mkeep mo e g w nw D S st i0 hd hR hC hRo hi0 ?_ (D.1 14 * D.1 15) 0 (Nat.zero_add _)
  exact zs_vret dX13_keepFire_80 rfl ⟨rfl, rfl⟩
set_option maxRecDepth 100000 in
theorem lp_mbring {l : Launch} {dd : Nat} {Po : zPo} {K0 : zK} {h0 : List va_E} {Xo : zK → Prop} {Gc : zG → Prop} (mo : Nat) (e : Nat → Nat) (g : Nat → Int32) (w : Int64) (nw : Nat → Int32) (D : zYd) (S : zFs) (fu bu we st : Nat → Int32) (i0 : Nat) (hd : 1 ≤ dd) (hR : yR D nw) (hC : D.1 14 ≤ 8) (hRo : D.1 15 ≤ 8) (hi0 : i0 < 3) (hst : ∀ j, j < 3 * (D.1 14 * D.1 15) → st (192 * i0 + j) = c3 S j)
    (hk : zS (l, mX13_bringFire, dd, Po, K0, h0, Xo, Gc) 0 0 80 [] [] [(mo, .inr (11, fMo e g w)), ((e 14), .inl (0, 800, .inl nw)), ((e 64), .inl (0, 64, .inl (pCl S.1 fu (D.1 14 * D.1 15)))), ((e 65), .inl (0, 64, .inl (pCl S.2.2 bu (D.1 14 * D.1 15)))), ((e 66), .inl (0, 64, .inl (pCl S.2.1 we (D.1 14 * D.1 15)))), ((e 77), .inl (0, 576, .inl st))]) :
    ∀ (m i : Nat) , i + m = (D.1 14 * D.1 15) → zS (l, mX13_bringFire, dd, Po, K0, h0, Xo, Gc) 0 0 2 [(0, .ref mo), (1, .int (nI i0)), (2, .int (nI i))] [] [(mo, .inr (11, fMo e g w)), ((e 14), .inl (0, 800, .inl nw)), ((e 64), .inl (0, 64, .inl (pCl S.1 fu i))), ((e 65), .inl (0, 64, .inl (pCl S.2.2 bu i))), ((e 66), .inl (0, 64, .inl (pCl S.2.1 we i))), ((e 77), .inl (0, 576, .inl st))] := by
  intro m
  induction m with
  | zero =>
    intro i hi
    have h64 : D.1 14 * D.1 15 ≤ 64 := Nat.mul_le_mul hC hRo
    refine zs_iload_n dX13_bringFire_2 rfl ?_
    refine zs_aload_n dX13_bringFire_3 rfl rfl ?_
    refine zs_callV (M := mX13_cells) (As := []) (st := [.int (nI i)]) (Kc := [(mo, .inr (11, fMo e g w)), ((e 14), .inl (0, 800, .inl nw))]) (Kr := [((e 64), .inl (0, 64, .inl (pCl S.1 fu i))), ((e 65), .inl (0, 64, .inl (pCl S.2.2 bu i))), ((e 66), .inl (0, 64, .inl (pCl S.2.1 we i))), ((e 77), .inl (0, 576, .inl st))]) [0, 1] [2, 3, 4, 5] 0 dX13_bringFire_4 zl_RX13_426 kX13_cells rfl rfl rfl rfl rfl (by decide) rfl rfl (show dd - 1 + 1 ≤ dd by omega) (Nat.zero_le _) (Nat.zero_le _) (Nat.le_of_ble_eq_true rfl) (s_mCells l (dd - 1) mo e g w nw D hR) (fun r K1 hr => ?_)
    obtain ⟨rfl, rfl⟩ := hr
    refine zs_K (K' := [(mo, .inr (11, fMo e g w)), ((e 14), .inl (0, 800, .inl nw)), ((e 64), .inl (0, 64, .inl (pCl S.1 fu i))), ((e 65), .inl (0, 64, .inl (pCl S.2.2 bu i))), ((e 66), .inl (0, 64, .inl (pCl S.2.1 we i))), ((e 77), .inl (0, 576, .inl st))]) [4, 5, 0, 1, 2, 3] rfl (by decide) ?_
    refine zs_icmp_ge (tgt := 80) dX13_bringFire_7 (by decide) (fun c_1 => ?_) (fun c_1 => (c_1 (by rw [show i = (D.1 14 * D.1 15) by omega]; exact Int32.le_refl _) : False).elim)
    rw [show i = (D.1 14 * D.1 15) by omega]
    refine zs_lv [] rfl ?_
    exact hk
  | succ m ih =>
    intro i hi
    have h64 : D.1 14 * D.1 15 ≤ 64 := Nat.mul_le_mul hC hRo
    refine zs_iload_n dX13_bringFire_2 rfl ?_
    refine zs_aload_n dX13_bringFire_3 rfl rfl ?_
    refine zs_callV (M := mX13_cells) (As := []) (st := [.int (nI i)]) (Kc := [(mo, .inr (11, fMo e g w)), ((e 14), .inl (0, 800, .inl nw))]) (Kr := [((e 64), .inl (0, 64, .inl (pCl S.1 fu i))), ((e 65), .inl (0, 64, .inl (pCl S.2.2 bu i))), ((e 66), .inl (0, 64, .inl (pCl S.2.1 we i))), ((e 77), .inl (0, 576, .inl st))]) [0, 1] [2, 3, 4, 5] 0 dX13_bringFire_4 zl_RX13_426 kX13_cells rfl rfl rfl rfl rfl (by decide) rfl rfl (show dd - 1 + 1 ≤ dd by omega) (Nat.zero_le _) (Nat.zero_le _) (Nat.le_of_ble_eq_true rfl) (s_mCells l (dd - 1) mo e g w nw D hR) (fun r K1 hr => ?_)
    obtain ⟨rfl, rfl⟩ := hr
    refine zs_K (K' := [(mo, .inr (11, fMo e g w)), ((e 14), .inl (0, 800, .inl nw)), ((e 64), .inl (0, 64, .inl (pCl S.1 fu i))), ((e 65), .inl (0, 64, .inl (pCl S.2.2 bu i))), ((e 66), .inl (0, 64, .inl (pCl S.2.1 we i))), ((e 77), .inl (0, 576, .inl st))]) [4, 5, 0, 1, 2, 3] rfl (by decide) ?_
    refine zs_icmp_ge (tgt := 80) dX13_bringFire_7 (by decide) (fun c_1 => (nI_ge (show i < (D.1 14 * D.1 15) by omega) (by omega) c_1 : False).elim) (fun c_1 => ?_)
    refine zs_aload_n dX13_bringFire_10 rfl rfl ?_
    refine zs_get 0 dX13_bringFire_11 zf_RX13_105 rfl (v := .ref (e 64)) rfl ?_
    refine zs_iload_n dX13_bringFire_14 rfl ?_
    refine zs_aload_n dX13_bringFire_15 rfl rfl ?_
    refine zs_get 0 dX13_bringFire_16 zf_RX13_130 rfl (v := .ref (e 77)) rfl ?_
    refine zs_sipush (v := nI 192) dX13_bringFire_19 (by decide) ?_
    refine zs_iload_n dX13_bringFire_22 rfl ?_
    refine zs_imul dX13_bringFire_23 ?_
    refine zs_as (y := nI (192 * i0)) (nI_mul _ _) ?_
    refine zs_iconst (v := nI 3) dX13_bringFire_24 (by decide) ?_
    refine zs_iload_n dX13_bringFire_25 rfl ?_
    refine zs_imul dX13_bringFire_26 ?_
    refine zs_as (y := nI (3 * i)) (nI_mul _ _) ?_
    refine zs_iadd dX13_bringFire_27 ?_
    refine zs_as (y := nI ((192 * i0) + (3 * i))) (nI_add _ _) ?_
    refine zs_iald 5 dX13_bringFire_28 rfl (vp_in_nI (by omega) (by omega)) ?_
    refine zs_as (y := S.1 i) (by rw [nI_c (n := 192 * i0 + 3 * i) (by omega)]; exact (hst (3 * i) (by omega)).trans c3_0) ?_
    refine zs_iast 2 dX13_bringFire_29 rfl (vp_in_nI (by omega) (by omega)) ?_
    rw [nI_c (n := i) (by omega)]
    rw [show (upd (pCl S.1 fu i) i (S.1 i)) = pCl S.1 fu (i + 1) from pCl_s _ _ _]
    show zS _ _ _ _ _ _ [(mo, .inr (11, fMo e g w)), ((e 14), .inl (0, 800, .inl nw)), ((e 64), .inl (0, 64, .inl (pCl S.1 fu (i + 1)))), ((e 65), .inl (0, 64, .inl (pCl S.2.2 bu i))), ((e 66), .inl (0, 64, .inl (pCl S.2.1 we i))), ((e 77), .inl (0, 576, .inl st))]
    refine zs_aload_n dX13_bringFire_30 rfl rfl ?_
    refine zs_get 0 dX13_bringFire_31 zf_RX13_108 rfl (v := .ref (e 65)) rfl ?_
    refine zs_iload_n dX13_bringFire_34 rfl ?_
    refine zs_aload_n dX13_bringFire_35 rfl rfl ?_
    refine zs_get 0 dX13_bringFire_36 zf_RX13_130 rfl (v := .ref (e 77)) rfl ?_
    refine zs_sipush (v := nI 192) dX13_bringFire_39 (by decide) ?_
    refine zs_iload_n dX13_bringFire_42 rfl ?_
    refine zs_imul dX13_bringFire_43 ?_
    refine zs_as (y := nI (192 * i0)) (nI_mul _ _) ?_
    refine zs_iconst (v := nI 3) dX13_bringFire_44 (by decide) ?_
    refine zs_iload_n dX13_bringFire_45 rfl ?_
    refine zs_imul dX13_bringFire_46 ?_
    refine zs_as (y := nI (3 * i)) (nI_mul _ _) ?_
    refine zs_iadd dX13_bringFire_47 ?_
    refine zs_as (y := nI ((192 * i0) + (3 * i))) (nI_add _ _) ?_
    refine zs_iconst (v := nI 1) dX13_bringFire_48 (by decide) ?_
    refine zs_iadd dX13_bringFire_49 ?_
    refine zs_as (y := nI (((192 * i0) + (3 * i)) + 1)) (nI_add _ _) ?_
    refine zs_iald 5 dX13_bringFire_50 rfl (vp_in_nI (by omega) (by omega)) ?_
    refine zs_as (y := S.2.2 i) (by rw [nI_c (n := 192 * i0 + 3 * i + 1) (by omega)]; exact (hst (3 * i + 1) (by omega)).trans c3_1) ?_
    refine zs_iast 3 dX13_bringFire_51 rfl (vp_in_nI (by omega) (by omega)) ?_
    rw [nI_c (n := i) (by omega)]
    rw [show (upd (pCl S.2.2 bu i) i (S.2.2 i)) = pCl S.2.2 bu (i + 1) from pCl_s _ _ _]
    show zS _ _ _ _ _ _ [(mo, .inr (11, fMo e g w)), ((e 14), .inl (0, 800, .inl nw)), ((e 64), .inl (0, 64, .inl (pCl S.1 fu (i + 1)))), ((e 65), .inl (0, 64, .inl (pCl S.2.2 bu (i + 1)))), ((e 66), .inl (0, 64, .inl (pCl S.2.1 we i))), ((e 77), .inl (0, 576, .inl st))]
    refine zs_aload_n dX13_bringFire_52 rfl rfl ?_
    refine zs_get 0 dX13_bringFire_53 zf_RX13_111 rfl (v := .ref (e 66)) rfl ?_
    refine zs_iload_n dX13_bringFire_56 rfl ?_
    refine zs_aload_n dX13_bringFire_57 rfl rfl ?_
    refine zs_get 0 dX13_bringFire_58 zf_RX13_130 rfl (v := .ref (e 77)) rfl ?_
    refine zs_sipush (v := nI 192) dX13_bringFire_61 (by decide) ?_
    refine zs_iload_n dX13_bringFire_64 rfl ?_
    refine zs_imul dX13_bringFire_65 ?_
    refine zs_as (y := nI (192 * i0)) (nI_mul _ _) ?_
    refine zs_iconst (v := nI 3) dX13_bringFire_66 (by decide) ?_
    refine zs_iload_n dX13_bringFire_67 rfl ?_
    refine zs_imul dX13_bringFire_68 ?_
    refine zs_as (y := nI (3 * i)) (nI_mul _ _) ?_
    refine zs_iadd dX13_bringFire_69 ?_
    refine zs_as (y := nI ((192 * i0) + (3 * i))) (nI_add _ _) ?_
    refine zs_iconst (v := nI 2) dX13_bringFire_70 (by decide) ?_
    refine zs_iadd dX13_bringFire_71 ?_
    refine zs_as (y := nI (((192 * i0) + (3 * i)) + 2)) (nI_add _ _) ?_
    refine zs_iald 5 dX13_bringFire_72 rfl (vp_in_nI (by omega) (by omega)) ?_
    refine zs_as (y := S.2.1 i) (by rw [nI_c (n := 192 * i0 + 3 * i + 2) (by omega)]; exact (hst (3 * i + 2) (by omega)).trans c3_2) ?_
    refine zs_iast 4 dX13_bringFire_73 rfl (vp_in_nI (by omega) (by omega)) ?_
    rw [nI_c (n := i) (by omega)]
    rw [show (upd (pCl S.2.1 we i) i (S.2.1 i)) = pCl S.2.1 we (i + 1) from pCl_s _ _ _]
    show zS _ _ _ _ _ _ [(mo, .inr (11, fMo e g w)), ((e 14), .inl (0, 800, .inl nw)), ((e 64), .inl (0, 64, .inl (pCl S.1 fu (i + 1)))), ((e 65), .inl (0, 64, .inl (pCl S.2.2 bu (i + 1)))), ((e 66), .inl (0, 64, .inl (pCl S.2.1 we (i + 1)))), ((e 77), .inl (0, 576, .inl st))]
    refine zs_iinc (v := (nI (i + 1))) (lv' := [(2, .int (nI (i + 1))), (0, .ref mo), (1, .int (nI i0))]) dX13_bringFire_74 rfl (nI_add _ 1) (Nat.le_of_ble_eq_true rfl) rfl ?_
    refine zs_goto (tgt := 2) dX13_bringFire_77 (by decide) ?_
    refine zs_lv [1, 2, 0] rfl ?_
    exact ih (i + 1) (by omega)
set_option maxRecDepth 100000 in
theorem s_mBring (l : Launch) (dd : Nat) (mo : Nat) (e : Nat → Nat) (g : Nat → Int32) (w : Int64) (nw : Nat → Int32) (D : zYd) (S : zFs) (fu bu we st : Nat → Int32) (i0 : Nat) (hd : 1 ≤ dd) (hR : yR D nw) (hC : D.1 14 ≤ 8) (hRo : D.1 15 ≤ 8) (hi0 : i0 < 3) (hst : ∀ j, j < 3 * (D.1 14 * D.1 15) → st (192 * i0 + j) = c3 S j) : zSp l mX13_bringFire dd 0 0 [.ref mo, .int (nI i0)] [(mo, .inr (11, fMo e g w)), ((e 14), .inl (0, 800, .inl nw)), ((e 64), .inl (0, 64, .inl fu)), ((e 65), .inl (0, 64, .inl bu)), ((e 66), .inl (0, 64, .inl we)), ((e 77), .inl (0, 576, .inl st))] (fun r K' => r = none ∧ K' = [(mo, .inr (11, fMo e g w)), ((e 14), .inl (0, 800, .inl nw)), ((e 64), .inl (0, 64, .inl (pCl S.1 fu (D.1 14 * D.1 15)))), ((e 65), .inl (0, 64, .inl (pCl S.2.2 bu (D.1 14 * D.1 15)))), ((e 66), .inl (0, 64, .inl (pCl S.2.1 we (D.1 14 * D.1 15)))), ((e 77), .inl (0, 576, .inl st))]) := by
  refine zSp.of (by decide) (Nat.le_of_ble_eq_true rfl) (fun h0 => ?_)
  show zS _ 0 0 0 [(0, .ref mo), (1, .int (nI i0))] [] [(mo, .inr (11, fMo e g w)), ((e 14), .inl (0, 800, .inl nw)), ((e 64), .inl (0, 64, .inl fu)), ((e 65), .inl (0, 64, .inl bu)), ((e 66), .inl (0, 64, .inl we)), ((e 77), .inl (0, 576, .inl st))]
  refine zs_iconst (v := nI 0) dX13_bringFire_0 (by decide) ?_
  refine zs_istore_n (lv' := [(2, .int (nI 0)), (0, .ref mo), (1, .int (nI i0))]) dX13_bringFire_1 (Nat.le_of_ble_eq_true rfl) rfl ?_
  refine zs_eq (K' := [(mo, .inr (11, fMo e g w)), ((e 14), .inl (0, 800, .inl nw)), ((e 64), .inl (0, 64, .inl (pCl S.1 fu 0))), ((e 65), .inl (0, 64, .inl (pCl S.2.2 bu 0))), ((e 66), .inl (0, 64, .inl (pCl S.2.1 we 0))), ((e 77), .inl (0, 576, .inl st))]) (by rw [pCl_0, pCl_0, pCl_0]) ?_
  refine zs_lv [1, 2, 0] rfl ?_
  refine lp_mbring mo e g w nw D S fu bu we st i0 hd hR hC hRo hi0 hst ?_ (D.1 14 * D.1 15) 0 (Nat.zero_add _)
  exact zs_vret dX13_bringFire_80 rfl ⟨rfl, rfl⟩
set_option maxRecDepth 100000 in
theorem lp_mtw {l : Launch} {dd : Nat} {Po : zPo} {K0 : zK} {h0 : List va_E} {Xo : zK → Prop} {Gc : zG → Prop} (mo : Nat) (e : Nat → Nat) (g : Nat → Int32) (w : Int64) (nw : Nat → Int32) (D : zYd) (M u V : Nat) (rs : zSs) (st : Nat → Int32) (X : zF1) (hd : 4 ≤ dd) (hR : yR D nw) (hC : D.1 14 ≤ 8) (hRo : D.1 15 ≤ 8) (hV : V < 2147483648)
    (hk : ∀ (he : Nat → Int32), zS (l, mX13_tryAims, dd, Po, K0, h0, Xo, Gc) 0 0 28 [(0, .ref mo), (1, .int (nI M))] [] [(mo, .inr (11, fMo e (upd (upd (upd g 70 (X.2.1)) 81 (rs.1)) 82 (nI M)) w)), ((e 14), .inl (0, 800, .inl nw)), ((e 64), .inl (0, 64, .inl ((X.1).1))), ((e 65), .inl (0, 64, .inl ((X.1).2.2))), ((e 66), .inl (0, 64, .inl ((X.1).2.1))), ((e 67), .inl (0, 64, .inl he)), ((e 77), .inl (0, 576, .inl st)), ((e 78), .inl (0, 3, .inl (rs.2.1))), ((e 79), .inl (0, 3, .inl (rs.2.2)))]) :
    ∀ (m i : Nat) (F : zF1) (he : Nat → Int32), i + m = 20 → fK (D.1 14 * D.1 15) V F.1 → rqI (D.1 14) (D.1 15) D.2.1 m F = X → zS (l, mX13_tryAims, dd, Po, K0, h0, Xo, Gc) 0 0 10 [(0, .ref mo), (1, .int (nI M)), (3, .int (nI i))] [] [(mo, .inr (11, fMo e (upd (upd (upd g 70 (F.2.1)) 81 (rs.1)) 82 (nI M)) w)), ((e 14), .inl (0, 800, .inl nw)), ((e 64), .inl (0, 64, .inl ((F.1).1))), ((e 65), .inl (0, 64, .inl ((F.1).2.2))), ((e 66), .inl (0, 64, .inl ((F.1).2.1))), ((e 67), .inl (0, 64, .inl he)), ((e 77), .inl (0, 576, .inl st)), ((e 78), .inl (0, 3, .inl (rs.2.1))), ((e 79), .inl (0, 3, .inl (rs.2.2)))] := by
  intro m
  induction m with
  | zero =>
    intro i F he hi hF hX
    have h64 : D.1 14 * D.1 15 ≤ 64 := Nat.mul_le_mul hC hRo
    refine zs_iload_n dX13_tryAims_10 rfl ?_
    refine zs_bipush (v := nI 20) dX13_tryAims_11 (by decide) ?_
    refine zs_icmp_ge (tgt := 28) dX13_tryAims_13 (by decide) (fun c_1 => ?_) (fun c_1 => (c_1 (by rw [show i = 20 by omega]; exact Int32.le_refl _) : False).elim)
    rw [show F = X from hX]
    refine zs_lv [0, 1] rfl ?_
    exact hk _
  | succ m ih =>
    intro i F he hi hF hX
    have h64 : D.1 14 * D.1 15 ≤ 64 := Nat.mul_le_mul hC hRo
    refine zs_iload_n dX13_tryAims_10 rfl ?_
    refine zs_bipush (v := nI 20) dX13_tryAims_11 (by decide) ?_
    refine zs_icmp_ge (tgt := 28) dX13_tryAims_13 (by decide) (fun c_1 => (nI_ge (show i < 20 by omega) (by omega) c_1 : False).elim) (fun c_1 => ?_)
    refine zs_aload_n dX13_tryAims_16 rfl rfl ?_
    refine zs_iconst (v := (-1)) dX13_tryAims_17 (by decide) ?_
    refine zs_iconst (v := nI 0) dX13_tryAims_18 (by decide) ?_
    refine zs_callV (M := mX13_minute) (As := [.int (-1), .int (nI 0)]) (st := []) (Kc := [(mo, .inr (11, fMo e (upd (upd (upd g 70 (F.2.1)) 81 (rs.1)) 82 (nI M)) w)), ((e 14), .inl (0, 800, .inl nw)), ((e 64), .inl (0, 64, .inl ((F.1).1))), ((e 65), .inl (0, 64, .inl ((F.1).2.2))), ((e 66), .inl (0, 64, .inl ((F.1).2.1))), ((e 67), .inl (0, 64, .inl he))]) (Kr := [((e 77), .inl (0, 576, .inl st)), ((e 78), .inl (0, 3, .inl (rs.2.1))), ((e 79), .inl (0, 3, .inl (rs.2.2)))]) [0, 1, 2, 3, 4, 5] [6, 7, 8] 0 dX13_tryAims_19 zl_RX13_445 kX13_minute rfl rfl rfl rfl rfl (by decide) rfl rfl (show dd - 1 + 1 ≤ dd by omega) (Nat.zero_le _) (Nat.zero_le _) (Nat.le_of_ble_eq_true rfl) (s_mMinute l (dd - 1) mo e (upd (upd (upd g 70 (F.2.1)) 81 (rs.1)) 82 (nI M)) w nw D (F.1) he V 0 (-1) (by omega) hR hC hRo hF (by omega) (Or.inl rfl)) (fun r K1 hr => ?_)
    obtain ⟨rfl, he2, rfl⟩ := hr
    rw [show upd (upd (upd (upd g 70 (F.2.1)) 81 (rs.1)) 82 (nI M)) 70 ((upd (upd (upd g 70 (F.2.1)) 81 (rs.1)) 82 (nI M)) 70 + mLs (D.1 14) (D.1 15) (F.1) (-1) (nI 0)) = upd (upd (upd g 70 (f1 (D.1 14) (D.1 15) D.2.1 F (-1) 0).2.1) 81 (rs.1)) 82 (nI M) from up82]
    refine zs_K (K' := [(mo, .inr (11, fMo e (upd (upd (upd g 70 ((f1 (D.1 14) (D.1 15) D.2.1 F (-1) 0).2.1)) 81 (rs.1)) 82 (nI M)) w)), ((e 14), .inl (0, 800, .inl nw)), ((e 64), .inl (0, 64, .inl (((f1 (D.1 14) (D.1 15) D.2.1 F (-1) 0).1).1))), ((e 65), .inl (0, 64, .inl (((f1 (D.1 14) (D.1 15) D.2.1 F (-1) 0).1).2.2))), ((e 66), .inl (0, 64, .inl (((f1 (D.1 14) (D.1 15) D.2.1 F (-1) 0).1).2.1))), ((e 67), .inl (0, 64, .inl he2)), ((e 77), .inl (0, 576, .inl st)), ((e 78), .inl (0, 3, .inl (rs.2.1))), ((e 79), .inl (0, 3, .inl (rs.2.2)))]) [3, 4, 5, 6, 7, 8, 0, 1, 2] rfl (by decide) ?_
    refine zs_iinc (v := (nI (i + 1))) (lv' := [(3, .int (nI (i + 1))), (0, .ref mo), (1, .int (nI M))]) dX13_tryAims_22 rfl (nI_add _ 1) (Nat.le_of_ble_eq_true rfl) rfl ?_
    refine zs_goto (tgt := 10) dX13_tryAims_25 (by decide) ?_
    refine zs_lv [1, 2, 0] rfl ?_
    exact ih (i + 1) (f1 (D.1 14) (D.1 15) D.2.1 F (-1) 0) he2 (by omega) (fK_min (u := 0) hF h64 (Or.inl rfl)) hX
set_option maxRecDepth 100000 in
theorem lp_mtc {l : Launch} {dd : Nat} {Po : zPo} {K0 : zK} {h0 : List va_E} {Xo : zK → Prop} {Gc : zG → Prop} (mo : Nat) (e : Nat → Nat) (g : Nat → Int32) (w : Int64) (nw : Nat → Int32) (D : zYd) (M : Nat) (rs : zSs) (he st : Nat → Int32) (X : zF1) (hM : M ≤ 3)
    (hk : zS (l, mX13_tryAims, dd, Po, K0, h0, Xo, Gc) 0 0 81 [] [] [(mo, .inr (11, fMo e (upd (upd (upd g 70 (X.2.1)) 81 (X.2.1)) 82 (nI M)) w)), ((e 14), .inl (0, 800, .inl nw)), ((e 64), .inl (0, 64, .inl ((X.1).1))), ((e 65), .inl (0, 64, .inl ((X.1).2.2))), ((e 66), .inl (0, 64, .inl ((X.1).2.1))), ((e 67), .inl (0, 64, .inl he)), ((e 77), .inl (0, 576, .inl st)), ((e 78), .inl (0, 3, .inl (rs.2.1))), ((e 79), .inl (0, 3, .inl (pCl rs.2.1 rs.2.2 M)))]) :
    ∀ (m i : Nat) , i + m = M → zS (l, mX13_tryAims, dd, Po, K0, h0, Xo, Gc) 0 0 58 [(0, .ref mo), (1, .int (nI M)), (3, .int (nI i))] [] [(mo, .inr (11, fMo e (upd (upd (upd g 70 (X.2.1)) 81 (X.2.1)) 82 (nI M)) w)), ((e 14), .inl (0, 800, .inl nw)), ((e 64), .inl (0, 64, .inl ((X.1).1))), ((e 65), .inl (0, 64, .inl ((X.1).2.2))), ((e 66), .inl (0, 64, .inl ((X.1).2.1))), ((e 67), .inl (0, 64, .inl he)), ((e 77), .inl (0, 576, .inl st)), ((e 78), .inl (0, 3, .inl (rs.2.1))), ((e 79), .inl (0, 3, .inl (pCl rs.2.1 rs.2.2 i)))] := by
  intro m
  induction m with
  | zero =>
    intro i hi
    refine zs_iload_n dX13_tryAims_58 rfl ?_
    refine zs_iload_n dX13_tryAims_59 rfl ?_
    refine zs_icmp_ge (tgt := 81) dX13_tryAims_60 (by decide) (fun c_1 => ?_) (fun c_1 => (c_1 (by rw [show i = M by omega]; exact Int32.le_refl _) : False).elim)
    rw [show i = M by omega]
    refine zs_lv [] rfl ?_
    exact hk
  | succ m ih =>
    intro i hi
    refine zs_iload_n dX13_tryAims_58 rfl ?_
    refine zs_iload_n dX13_tryAims_59 rfl ?_
    refine zs_icmp_ge (tgt := 81) dX13_tryAims_60 (by decide) (fun c_1 => (nI_ge (show i < M by omega) (by omega) c_1 : False).elim) (fun c_1 => ?_)
    refine zs_aload_n dX13_tryAims_63 rfl rfl ?_
    refine zs_get 0 dX13_tryAims_64 zf_RX13_136 rfl (v := .ref (e 79)) rfl ?_
    refine zs_iload_n dX13_tryAims_67 rfl ?_
    refine zs_aload_n dX13_tryAims_68 rfl rfl ?_
    refine zs_get 0 dX13_tryAims_69 zf_RX13_133 rfl (v := .ref (e 78)) rfl ?_
    refine zs_iload_n dX13_tryAims_72 rfl ?_
    refine zs_iald 7 dX13_tryAims_73 rfl (vp_in_nI (by omega) (by omega)) ?_
    refine zs_as (y := (rs.2.1) i) (by rw [nI_c (n := i) (by omega)]) ?_
    refine zs_iast 8 dX13_tryAims_74 rfl (vp_in_nI (by omega) (by omega)) ?_
    rw [nI_c (n := i) (by omega)]
    rw [show (upd (pCl rs.2.1 rs.2.2 i) i ((rs.2.1) i)) = pCl rs.2.1 rs.2.2 (i + 1) from pCl_s _ _ _]
    show zS _ _ _ _ _ _ [(mo, .inr (11, fMo e (upd (upd (upd g 70 (X.2.1)) 81 (X.2.1)) 82 (nI M)) w)), ((e 14), .inl (0, 800, .inl nw)), ((e 64), .inl (0, 64, .inl ((X.1).1))), ((e 65), .inl (0, 64, .inl ((X.1).2.2))), ((e 66), .inl (0, 64, .inl ((X.1).2.1))), ((e 67), .inl (0, 64, .inl he)), ((e 77), .inl (0, 576, .inl st)), ((e 78), .inl (0, 3, .inl (rs.2.1))), ((e 79), .inl (0, 3, .inl (pCl rs.2.1 rs.2.2 (i + 1))))]
    refine zs_iinc (v := (nI (i + 1))) (lv' := [(3, .int (nI (i + 1))), (0, .ref mo), (1, .int (nI M))]) dX13_tryAims_75 rfl (nI_add _ 1) (Nat.le_of_ble_eq_true rfl) rfl ?_
    refine zs_goto (tgt := 58) dX13_tryAims_78 (by decide) ?_
    refine zs_lv [1, 2, 0] rfl ?_
    exact ih (i + 1) (by omega)
set_option maxRecDepth 100000 in
theorem s_mTry0 (l : Launch) (dd : Nat) (mo : Nat) (e : Nat → Nat) (g : Nat → Int32) (w : Int64) (nw : Nat → Int32) (D : zYd) (M u V : Nat) (F : zF1) (rs : zSs) (he st : Nat → Int32) (hd : 4 ≤ dd) (hR : yR D nw) (hC : D.1 14 ≤ 8) (hRo : D.1 15 ≤ 8) (hM : M ≤ 3) (hV : V < 2147483648) (hF : fK (D.1 14 * D.1 15) V F.1) : zSp l mX13_tryAims dd 0 0 [.ref mo, .int (nI M), .int (nI u)] [(mo, .inr (11, fMo e (upd (upd (upd g 70 (F.2.1)) 81 (rs.1)) 82 (nI M)) w)), ((e 14), .inl (0, 800, .inl nw)), ((e 64), .inl (0, 64, .inl ((F.1).1))), ((e 65), .inl (0, 64, .inl ((F.1).2.2))), ((e 66), .inl (0, 64, .inl ((F.1).2.1))), ((e 67), .inl (0, 64, .inl he)), ((e 77), .inl (0, 576, .inl st)), ((e 78), .inl (0, 3, .inl (rs.2.1))), ((e 79), .inl (0, 3, .inl (rs.2.2)))] (fun r K' => r = none ∧ ∃ (S2 : zFs) (x2 : Int32) (he2 st2 : Nat → Int32), (∀ j, j < 192 * M → st2 j = st j) ∧ K' = [(mo, .inr (11, fMo e (upd (upd (upd g 70 x2) 81 ((rqA (D.1 14) (D.1 15) D.2.1 (nI u) M 0 F rs).1)) 82 (nI M)) w)), ((e 14), .inl (0, 800, .inl nw)), ((e 64), .inl (0, 64, .inl (S2.1))), ((e 65), .inl (0, 64, .inl (S2.2.2))), ((e 66), .inl (0, 64, .inl (S2.2.1))), ((e 67), .inl (0, 64, .inl he2)), ((e 77), .inl (0, 576, .inl st2)), ((e 78), .inl (0, 3, .inl ((rqA (D.1 14) (D.1 15) D.2.1 (nI u) M 0 F rs).2.1))), ((e 79), .inl (0, 3, .inl ((rqA (D.1 14) (D.1 15) D.2.1 (nI u) M 0 F rs).2.2)))]) := by
  refine zSp.of (by decide) (Nat.le_of_ble_eq_true rfl) (fun h0 => ?_)
  show zS _ 0 0 0 [(0, .ref mo), (1, .int (nI M)), (2, .int (nI u))] [] [(mo, .inr (11, fMo e (upd (upd (upd g 70 (F.2.1)) 81 (rs.1)) 82 (nI M)) w)), ((e 14), .inl (0, 800, .inl nw)), ((e 64), .inl (0, 64, .inl ((F.1).1))), ((e 65), .inl (0, 64, .inl ((F.1).2.2))), ((e 66), .inl (0, 64, .inl ((F.1).2.1))), ((e 67), .inl (0, 64, .inl he)), ((e 77), .inl (0, 576, .inl st)), ((e 78), .inl (0, 3, .inl (rs.2.1))), ((e 79), .inl (0, 3, .inl (rs.2.2)))]
  refine zs_iload_n dX13_tryAims_0 rfl ?_
  refine zs_aload_n dX13_tryAims_1 rfl rfl ?_
  refine zs_get 0 dX13_tryAims_2 zf_RX13_467 rfl (v := .int (nI M)) rfl ?_
  refine zs_icmp_ne (tgt := 82) dX13_tryAims_5 (by decide) (fun c_1 => (absurd rfl c_1 : False).elim) (fun c_1 => ?_)
  refine zs_iload_n dX13_tryAims_8 rfl ?_
  refine zs_istore_n (lv' := [(3, .int (nI M)), (0, .ref mo), (1, .int (nI M)), (2, .int (nI u))]) dX13_tryAims_9 (Nat.le_of_ble_eq_true rfl) rfl ?_
  refine zs_lv [1, 2, 0] rfl ?_
  refine lp_mtw mo e g w nw D M u V rs st (rqI (D.1 14) (D.1 15) D.2.1 (20 - M) F) (by omega) hR hC hRo (by omega) (fun he2 => ?_) (20 - M) M F he (by omega) hF rfl
  refine zs_aload_n dX13_tryAims_28 rfl rfl ?_
  refine zs_get 0 dX13_tryAims_29 zf_RX13_470 rfl (v := .int (rs.1)) rfl ?_
  refine zs_iconst (v := (-1)) dX13_tryAims_32 (by decide) ?_
  refine zs_icmp_eq (tgt := 48) dX13_tryAims_33 (by decide) (fun c_2 => ?_) (fun c_2 => ?_)
  · have heq := c_2
    refine zs_aload_n dX13_tryAims_48 rfl rfl ?_
    refine zs_aload_n dX13_tryAims_49 rfl rfl ?_
    refine zs_get 0 dX13_tryAims_50 zf_RX13_423 rfl (v := .int ((rqI (D.1 14) (D.1 15) D.2.1 (20 - M) F).2.1)) rfl ?_
    refine zs_put 0 dX13_tryAims_53 zf_RX13_470 rfl (Nat.le_of_ble_eq_true rfl) (zPv_i _) ?_
    show zS _ _ _ _ _ _ [(mo, .inr (11, fMo e (upd (upd (upd g 70 ((rqI (D.1 14) (D.1 15) D.2.1 (20 - M) F).2.1)) 81 ((rqI (D.1 14) (D.1 15) D.2.1 (20 - M) F).2.1)) 82 (nI M)) w)), ((e 14), .inl (0, 800, .inl nw)), ((e 64), .inl (0, 64, .inl (((rqI (D.1 14) (D.1 15) D.2.1 (20 - M) F).1).1))), ((e 65), .inl (0, 64, .inl (((rqI (D.1 14) (D.1 15) D.2.1 (20 - M) F).1).2.2))), ((e 66), .inl (0, 64, .inl (((rqI (D.1 14) (D.1 15) D.2.1 (20 - M) F).1).2.1))), ((e 67), .inl (0, 64, .inl he2)), ((e 77), .inl (0, 576, .inl st)), ((e 78), .inl (0, 3, .inl (rs.2.1))), ((e 79), .inl (0, 3, .inl (rs.2.2)))]
    refine zs_iconst (v := nI 0) dX13_tryAims_56 (by decide) ?_
    refine zs_istore_n (lv' := [(3, .int (nI 0)), (0, .ref mo), (1, .int (nI M))]) dX13_tryAims_57 (Nat.le_of_ble_eq_true rfl) rfl ?_
    refine zs_eq (K' := [(mo, .inr (11, fMo e (upd (upd (upd g 70 ((rqI (D.1 14) (D.1 15) D.2.1 (20 - M) F).2.1)) 81 ((rqI (D.1 14) (D.1 15) D.2.1 (20 - M) F).2.1)) 82 (nI M)) w)), ((e 14), .inl (0, 800, .inl nw)), ((e 64), .inl (0, 64, .inl (((rqI (D.1 14) (D.1 15) D.2.1 (20 - M) F).1).1))), ((e 65), .inl (0, 64, .inl (((rqI (D.1 14) (D.1 15) D.2.1 (20 - M) F).1).2.2))), ((e 66), .inl (0, 64, .inl (((rqI (D.1 14) (D.1 15) D.2.1 (20 - M) F).1).2.1))), ((e 67), .inl (0, 64, .inl he2)), ((e 77), .inl (0, 576, .inl st)), ((e 78), .inl (0, 3, .inl (rs.2.1))), ((e 79), .inl (0, 3, .inl (pCl rs.2.1 rs.2.2 0)))]) (by rw [pCl_0]) ?_
    refine zs_lv [1, 2, 0] rfl ?_
    refine lp_mtc mo e g w nw D M rs he2 st (rqI (D.1 14) (D.1 15) D.2.1 (20 - M) F) hM ?_ M 0 (Nat.zero_add _)
    have hres : ((rqI (D.1 14) (D.1 15) D.2.1 (20 - M) F).2.1, rs.2.1, pCl rs.2.1 rs.2.2 M) = rqA (D.1 14) (D.1 15) D.2.1 (nI u) M 0 F rs := (if_neg (fun z => z.1 heq) : rW (D.1 14) (D.1 15) D.2.1 M F rs = _).symm
    exact zs_vret dX13_tryAims_81 rfl ⟨rfl, (rqI (D.1 14) (D.1 15) D.2.1 (20 - M) F).1, (rqI (D.1 14) (D.1 15) D.2.1 (20 - M) F).2.1, he2, st, fun _ _ => rfl, by rw [← hres]⟩
  · have hne := c_2
    refine zs_aload_n dX13_tryAims_36 rfl rfl ?_
    refine zs_get 0 dX13_tryAims_37 zf_RX13_423 rfl (v := .int ((rqI (D.1 14) (D.1 15) D.2.1 (20 - M) F).2.1)) rfl ?_
    refine zs_aload_n dX13_tryAims_40 rfl rfl ?_
    refine zs_get 0 dX13_tryAims_41 zf_RX13_470 rfl (v := .int (rs.1)) rfl ?_
    refine zs_icmp_lt (tgt := 48) dX13_tryAims_44 (by decide) (fun c_3 => ?_) (fun c_3 => ?_)
    · have hlt := c_3
      refine zs_aload_n dX13_tryAims_48 rfl rfl ?_
      refine zs_aload_n dX13_tryAims_49 rfl rfl ?_
      refine zs_get 0 dX13_tryAims_50 zf_RX13_423 rfl (v := .int ((rqI (D.1 14) (D.1 15) D.2.1 (20 - M) F).2.1)) rfl ?_
      refine zs_put 0 dX13_tryAims_53 zf_RX13_470 rfl (Nat.le_of_ble_eq_true rfl) (zPv_i _) ?_
      show zS _ _ _ _ _ _ [(mo, .inr (11, fMo e (upd (upd (upd g 70 ((rqI (D.1 14) (D.1 15) D.2.1 (20 - M) F).2.1)) 81 ((rqI (D.1 14) (D.1 15) D.2.1 (20 - M) F).2.1)) 82 (nI M)) w)), ((e 14), .inl (0, 800, .inl nw)), ((e 64), .inl (0, 64, .inl (((rqI (D.1 14) (D.1 15) D.2.1 (20 - M) F).1).1))), ((e 65), .inl (0, 64, .inl (((rqI (D.1 14) (D.1 15) D.2.1 (20 - M) F).1).2.2))), ((e 66), .inl (0, 64, .inl (((rqI (D.1 14) (D.1 15) D.2.1 (20 - M) F).1).2.1))), ((e 67), .inl (0, 64, .inl he2)), ((e 77), .inl (0, 576, .inl st)), ((e 78), .inl (0, 3, .inl (rs.2.1))), ((e 79), .inl (0, 3, .inl (rs.2.2)))]
      refine zs_iconst (v := nI 0) dX13_tryAims_56 (by decide) ?_
      refine zs_istore_n (lv' := [(3, .int (nI 0)), (0, .ref mo), (1, .int (nI M))]) dX13_tryAims_57 (Nat.le_of_ble_eq_true rfl) rfl ?_
      refine zs_eq (K' := [(mo, .inr (11, fMo e (upd (upd (upd g 70 ((rqI (D.1 14) (D.1 15) D.2.1 (20 - M) F).2.1)) 81 ((rqI (D.1 14) (D.1 15) D.2.1 (20 - M) F).2.1)) 82 (nI M)) w)), ((e 14), .inl (0, 800, .inl nw)), ((e 64), .inl (0, 64, .inl (((rqI (D.1 14) (D.1 15) D.2.1 (20 - M) F).1).1))), ((e 65), .inl (0, 64, .inl (((rqI (D.1 14) (D.1 15) D.2.1 (20 - M) F).1).2.2))), ((e 66), .inl (0, 64, .inl (((rqI (D.1 14) (D.1 15) D.2.1 (20 - M) F).1).2.1))), ((e 67), .inl (0, 64, .inl he2)), ((e 77), .inl (0, 576, .inl st)), ((e 78), .inl (0, 3, .inl (rs.2.1))), ((e 79), .inl (0, 3, .inl (pCl rs.2.1 rs.2.2 0)))]) (by rw [pCl_0]) ?_
      refine zs_lv [1, 2, 0] rfl ?_
      refine lp_mtc mo e g w nw D M rs he2 st (rqI (D.1 14) (D.1 15) D.2.1 (20 - M) F) hM ?_ M 0 (Nat.zero_add _)
      have hres : ((rqI (D.1 14) (D.1 15) D.2.1 (20 - M) F).2.1, rs.2.1, pCl rs.2.1 rs.2.2 M) = rqA (D.1 14) (D.1 15) D.2.1 (nI u) M 0 F rs := (if_neg (fun z => absurd hlt (Int32.not_lt.mpr z.2)) : rW (D.1 14) (D.1 15) D.2.1 M F rs = _).symm
      exact zs_vret dX13_tryAims_81 rfl ⟨rfl, (rqI (D.1 14) (D.1 15) D.2.1 (20 - M) F).1, (rqI (D.1 14) (D.1 15) D.2.1 (20 - M) F).2.1, he2, st, fun _ _ => rfl, by rw [← hres]⟩
    · have hle := c_3
      have hres : rs = rqA (D.1 14) (D.1 15) D.2.1 (nI u) M 0 F rs := (if_pos ⟨hne, Int32.not_lt.mp hle⟩ : rW (D.1 14) (D.1 15) D.2.1 M F rs = _).symm
      exact zs_vret dX13_tryAims_47 rfl ⟨rfl, (rqI (D.1 14) (D.1 15) D.2.1 (20 - M) F).1, (rqI (D.1 14) (D.1 15) D.2.1 (20 - M) F).2.1, he2, st, fun _ _ => rfl, by rw [← hres]⟩
