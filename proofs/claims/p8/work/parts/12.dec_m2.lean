theorem d_M_step_396 : decode prog_9_method_28_code 396 = .ok (.ifCond .eq 54, 3) := by decide +kernel
theorem d_M_step_399 : decode prog_9_method_28_code 399 = .ok (.aload_n 0, 1) := by decide +kernel
theorem d_M_step_400 : decode prog_9_method_28_code 400 = .ok (.getfield 44, 3) := by decide +kernel
theorem d_M_step_403 : decode prog_9_method_28_code 403 = .ok (.iload 9, 2) := by decide +kernel
theorem d_M_step_405 : decode prog_9_method_28_code 405 = .ok (.iaload, 1) := by decide +kernel
theorem d_M_step_406 : decode prog_9_method_28_code 406 = .ok (.istore 12, 2) := by decide +kernel
theorem d_M_step_408 : decode prog_9_method_28_code 408 = .ok (.aload_n 0, 1) := by decide +kernel
theorem d_M_step_409 : decode prog_9_method_28_code 409 = .ok (.iload_n 3, 1) := by decide +kernel
theorem d_M_step_410 : decode prog_9_method_28_code 410 = .ok (.iload 5, 2) := by decide +kernel
theorem d_M_step_412 : decode prog_9_method_28_code 412 = .ok (.bipush 14, 2) := by decide +kernel
theorem d_M_step_414 : decode prog_9_method_28_code 414 = .ok (.if_icmp .ne 11, 3) := by decide +kernel
theorem d_M_step_417 : decode prog_9_method_28_code 417 = .ok (.iload 12, 2) := by decide +kernel
theorem d_M_step_419 : decode prog_9_method_28_code 419 = .ok (.iload 6, 2) := by decide +kernel
theorem d_M_step_421 : decode prog_9_method_28_code 421 = .ok (.iadd, 1) := by decide +kernel
theorem d_M_step_422 : decode prog_9_method_28_code 422 = .ok (.goto 5, 3) := by decide +kernel
theorem d_M_step_425 : decode prog_9_method_28_code 425 = .ok (.iload 12, 2) := by decide +kernel
theorem d_M_step_427 : decode prog_9_method_28_code 427 = .ok (.invokevirtual 171, 3) := by decide +kernel
theorem d_M_step_430 : decode prog_9_method_28_code 430 = .ok (.iload 8, 2) := by decide +kernel
theorem d_M_step_432 : decode prog_9_method_28_code 432 = .ok (.ifCond .lt 10, 3) := by decide +kernel
theorem d_M_step_435 : decode prog_9_method_28_code 435 = .ok (.aload_n 0, 1) := by decide +kernel
theorem d_M_step_436 : decode prog_9_method_28_code 436 = .ok (.iload_n 1, 1) := by decide +kernel
theorem d_M_step_437 : decode prog_9_method_28_code 437 = .ok (.iload 8, 2) := by decide +kernel
theorem d_M_step_439 : decode prog_9_method_28_code 439 = .ok (.invokevirtual 168, 3) := by decide +kernel
theorem d_M_step_442 : decode prog_9_method_28_code 442 = .ok (.aload_n 0, 1) := by decide +kernel
theorem d_M_step_443 : decode prog_9_method_28_code 443 = .ok (.iconst 2, 1) := by decide +kernel
theorem d_M_step_444 : decode prog_9_method_28_code 444 = .ok (.putfield 151, 3) := by decide +kernel
theorem d_M_step_447 : decode prog_9_method_28_code 447 = .ok (.goto 49, 3) := by decide +kernel
theorem d_M_step_450 : decode prog_9_method_28_code 450 = .ok (.iload 5, 2) := by decide +kernel
theorem d_M_step_452 : decode prog_9_method_28_code 452 = .ok (.bipush 13, 2) := by decide +kernel
theorem d_M_step_454 : decode prog_9_method_28_code 454 = .ok (.if_icmp .ne 37, 3) := by decide +kernel
theorem d_M_step_457 : decode prog_9_method_28_code 457 = .ok (.aload_n 0, 1) := by decide +kernel
theorem d_M_step_458 : decode prog_9_method_28_code 458 = .ok (.getfield 162, 3) := by decide +kernel
theorem d_M_step_461 : decode prog_9_method_28_code 461 = .ok (.aload_n 0, 1) := by decide +kernel
theorem d_M_step_462 : decode prog_9_method_28_code 462 = .ok (.getfield 47, 3) := by decide +kernel
theorem d_M_step_465 : decode prog_9_method_28_code 465 = .ok (.iload_n 3, 1) := by decide +kernel
theorem d_M_step_466 : decode prog_9_method_28_code 466 = .ok (.iaload, 1) := by decide +kernel
theorem d_M_step_467 : decode prog_9_method_28_code 467 = .ok (.if_icmp .lt 24, 3) := by decide +kernel
theorem d_M_step_470 : decode prog_9_method_28_code 470 = .ok (.aload_n 0, 1) := by decide +kernel
theorem d_M_step_471 : decode prog_9_method_28_code 471 = .ok (.iload_n 3, 1) := by decide +kernel
theorem d_M_step_472 : decode prog_9_method_28_code 472 = .ok (.iconst (-1), 1) := by decide +kernel
theorem d_M_step_473 : decode prog_9_method_28_code 473 = .ok (.invokevirtual 171, 3) := by decide +kernel
theorem d_M_step_476 : decode prog_9_method_28_code 476 = .ok (.aload_n 0, 1) := by decide +kernel
theorem d_M_step_477 : decode prog_9_method_28_code 477 = .ok (.iload_n 1, 1) := by decide +kernel
theorem d_M_step_478 : decode prog_9_method_28_code 478 = .ok (.iload 7, 2) := by decide +kernel
theorem d_M_step_480 : decode prog_9_method_28_code 480 = .ok (.invokevirtual 168, 3) := by decide +kernel
theorem d_M_step_483 : decode prog_9_method_28_code 483 = .ok (.aload_n 0, 1) := by decide +kernel
theorem d_M_step_484 : decode prog_9_method_28_code 484 = .ok (.iconst 2, 1) := by decide +kernel
theorem d_M_step_485 : decode prog_9_method_28_code 485 = .ok (.putfield 151, 3) := by decide +kernel
theorem d_M_step_488 : decode prog_9_method_28_code 488 = .ok (.goto 8, 3) := by decide +kernel
theorem d_M_step_491 : decode prog_9_method_28_code 491 = .ok (.aload_n 0, 1) := by decide +kernel
theorem d_M_step_492 : decode prog_9_method_28_code 492 = .ok (.iload_n 3, 1) := by decide +kernel
theorem d_M_step_493 : decode prog_9_method_28_code 493 = .ok (.invokevirtual 174, 3) := by decide +kernel
theorem d_M_step_496 : decode prog_9_method_28_code 496 = .ok (.iconst (-1), 1) := by decide +kernel
theorem d_M_step_497 : decode prog_9_method_28_code 497 = .ok (.ireturn, 1) := by decide +kernel
theorem d_M_reap_0 : decode prog_9_method_29_code 0 = .ok (.iload_n 3, 1) := by decide +kernel
theorem d_M_reap_1 : decode prog_9_method_29_code 1 = .ok (.iconst 0, 1) := by decide +kernel
theorem d_M_reap_2 : decode prog_9_method_29_code 2 = .ok (.aload_n 0, 1) := by decide +kernel
theorem d_M_reap_3 : decode prog_9_method_29_code 3 = .ok (.getfield 112, 3) := by decide +kernel
theorem d_M_reap_6 : decode prog_9_method_29_code 6 = .ok (.iconst 1, 1) := by decide +kernel
theorem d_M_reap_7 : decode prog_9_method_29_code 7 = .ok (.isub, 1) := by decide +kernel
theorem d_M_reap_8 : decode prog_9_method_29_code 8 = .ok (.invokestatic 93, 3) := by decide +kernel
theorem d_M_reap_11 : decode prog_9_method_29_code 11 = .ok (.ifCond .eq 8, 3) := by decide +kernel
theorem d_M_reap_14 : decode prog_9_method_29_code 14 = .ok (.iload_n 3, 1) := by decide +kernel
theorem d_M_reap_15 : decode prog_9_method_29_code 15 = .ok (.iload_n 1, 1) := by decide +kernel
theorem d_M_reap_16 : decode prog_9_method_29_code 16 = .ok (.if_icmp .ne 13, 3) := by decide +kernel
theorem d_M_reap_19 : decode prog_9_method_29_code 19 = .ok (.aload_n 0, 1) := by decide +kernel
theorem d_M_reap_20 : decode prog_9_method_29_code 20 = .ok (.iload_n 2, 1) := by decide +kernel
theorem d_M_reap_21 : decode prog_9_method_29_code 21 = .ok (.bipush 98, 2) := by decide +kernel
theorem d_M_reap_23 : decode prog_9_method_29_code 23 = .ok (.invokevirtual 165, 3) := by decide +kernel
theorem d_M_reap_26 : decode prog_9_method_29_code 26 = .ok (.goto 84, 3) := by decide +kernel
theorem d_M_reap_29 : decode prog_9_method_29_code 29 = .ok (.aload_n 0, 1) := by decide +kernel
theorem d_M_reap_30 : decode prog_9_method_29_code 30 = .ok (.getfield 19, 3) := by decide +kernel
theorem d_M_reap_33 : decode prog_9_method_29_code 33 = .ok (.iload_n 3, 1) := by decide +kernel
theorem d_M_reap_34 : decode prog_9_method_29_code 34 = .ok (.iaload, 1) := by decide +kernel
theorem d_M_reap_35 : decode prog_9_method_29_code 35 = .ok (.iconst 3, 1) := by decide +kernel
theorem d_M_reap_36 : decode prog_9_method_29_code 36 = .ok (.if_icmp .ne 17, 3) := by decide +kernel
theorem d_M_reap_39 : decode prog_9_method_29_code 39 = .ok (.aload_n 0, 1) := by decide +kernel
theorem d_M_reap_40 : decode prog_9_method_29_code 40 = .ok (.iload_n 2, 1) := by decide +kernel
theorem d_M_reap_41 : decode prog_9_method_29_code 41 = .ok (.aload_n 0, 1) := by decide +kernel
theorem d_M_reap_42 : decode prog_9_method_29_code 42 = .ok (.getfield 22, 3) := by decide +kernel
theorem d_M_reap_45 : decode prog_9_method_29_code 45 = .ok (.iload_n 3, 1) := by decide +kernel
theorem d_M_reap_46 : decode prog_9_method_29_code 46 = .ok (.iaload, 1) := by decide +kernel
theorem d_M_reap_47 : decode prog_9_method_29_code 47 = .ok (.invokevirtual 165, 3) := by decide +kernel
theorem d_M_reap_50 : decode prog_9_method_29_code 50 = .ok (.goto 60, 3) := by decide +kernel
theorem d_M_reap_53 : decode prog_9_method_29_code 53 = .ok (.aload_n 0, 1) := by decide +kernel
theorem d_M_reap_54 : decode prog_9_method_29_code 54 = .ok (.getfield 19, 3) := by decide +kernel
theorem d_M_reap_57 : decode prog_9_method_29_code 57 = .ok (.iload_n 3, 1) := by decide +kernel
theorem d_M_reap_58 : decode prog_9_method_29_code 58 = .ok (.iaload, 1) := by decide +kernel
theorem d_M_reap_59 : decode prog_9_method_29_code 59 = .ok (.iconst 4, 1) := by decide +kernel
theorem d_M_reap_60 : decode prog_9_method_29_code 60 = .ok (.if_icmp .ne 13, 3) := by decide +kernel
theorem d_M_reap_63 : decode prog_9_method_29_code 63 = .ok (.aload_n 0, 1) := by decide +kernel
theorem d_M_reap_64 : decode prog_9_method_29_code 64 = .ok (.iload_n 2, 1) := by decide +kernel
theorem d_M_reap_65 : decode prog_9_method_29_code 65 = .ok (.bipush 99, 2) := by decide +kernel
theorem d_M_reap_67 : decode prog_9_method_29_code 67 = .ok (.invokevirtual 165, 3) := by decide +kernel
theorem d_M_reap_70 : decode prog_9_method_29_code 70 = .ok (.goto 40, 3) := by decide +kernel
theorem d_M_reap_73 : decode prog_9_method_29_code 73 = .ok (.aload_n 0, 1) := by decide +kernel
theorem d_M_reap_74 : decode prog_9_method_29_code 74 = .ok (.getfield 19, 3) := by decide +kernel
theorem d_M_reap_77 : decode prog_9_method_29_code 77 = .ok (.iload_n 3, 1) := by decide +kernel
theorem d_M_reap_78 : decode prog_9_method_29_code 78 = .ok (.iaload, 1) := by decide +kernel
theorem d_M_reap_79 : decode prog_9_method_29_code 79 = .ok (.iconst 2, 1) := by decide +kernel
theorem d_M_reap_80 : decode prog_9_method_29_code 80 = .ok (.if_icmp .ne 25, 3) := by decide +kernel
theorem d_M_reap_83 : decode prog_9_method_29_code 83 = .ok (.aload_n 0, 1) := by decide +kernel
theorem d_M_reap_84 : decode prog_9_method_29_code 84 = .ok (.iload_n 1, 1) := by decide +kernel
theorem d_M_reap_85 : decode prog_9_method_29_code 85 = .ok (.invokevirtual 180, 3) := by decide +kernel
theorem d_M_reap_88 : decode prog_9_method_29_code 88 = .ok (.ifCond .eq 17, 3) := by decide +kernel
theorem d_M_reap_91 : decode prog_9_method_29_code 91 = .ok (.aload_n 0, 1) := by decide +kernel
theorem d_M_reap_92 : decode prog_9_method_29_code 92 = .ok (.iload_n 2, 1) := by decide +kernel
theorem d_M_reap_93 : decode prog_9_method_29_code 93 = .ok (.aload_n 0, 1) := by decide +kernel
theorem d_M_reap_94 : decode prog_9_method_29_code 94 = .ok (.getfield 22, 3) := by decide +kernel
theorem d_M_reap_97 : decode prog_9_method_29_code 97 = .ok (.iload_n 3, 1) := by decide +kernel
theorem d_M_reap_98 : decode prog_9_method_29_code 98 = .ok (.iaload, 1) := by decide +kernel
theorem d_M_reap_99 : decode prog_9_method_29_code 99 = .ok (.invokevirtual 171, 3) := by decide +kernel
theorem d_M_reap_102 : decode prog_9_method_29_code 102 = .ok (.goto 8, 3) := by decide +kernel
theorem d_M_reap_105 : decode prog_9_method_29_code 105 = .ok (.aload_n 0, 1) := by decide +kernel
theorem d_M_reap_106 : decode prog_9_method_29_code 106 = .ok (.iload_n 2, 1) := by decide +kernel
theorem d_M_reap_107 : decode prog_9_method_29_code 107 = .ok (.invokevirtual 174, 3) := by decide +kernel
theorem d_M_reap_110 : decode prog_9_method_29_code 110 = .ok (.return_, 1) := by decide +kernel
theorem d_M_leaf_0 : decode prog_9_method_30_code 0 = .ok (.aload_n 0, 1) := by decide +kernel
theorem d_M_leaf_1 : decode prog_9_method_30_code 1 = .ok (.iload_n 1, 1) := by decide +kernel
theorem d_M_leaf_2 : decode prog_9_method_30_code 2 = .ok (.iload_n 2, 1) := by decide +kernel
theorem d_M_leaf_3 : decode prog_9_method_30_code 3 = .ok (.invokevirtual 108, 3) := by decide +kernel
theorem d_M_leaf_6 : decode prog_9_method_30_code 6 = .ok (.istore 4, 2) := by decide +kernel
theorem d_M_leaf_8 : decode prog_9_method_30_code 8 = .ok (.aload_n 0, 1) := by decide +kernel
theorem d_M_leaf_9 : decode prog_9_method_30_code 9 = .ok (.iload_n 1, 1) := by decide +kernel
theorem d_M_leaf_10 : decode prog_9_method_30_code 10 = .ok (.iload_n 2, 1) := by decide +kernel
theorem d_M_leaf_11 : decode prog_9_method_30_code 11 = .ok (.invokevirtual 132, 3) := by decide +kernel
theorem d_M_leaf_14 : decode prog_9_method_30_code 14 = .ok (.istore 5, 2) := by decide +kernel
theorem d_M_leaf_16 : decode prog_9_method_30_code 16 = .ok (.iload 4, 2) := by decide +kernel
theorem d_M_leaf_18 : decode prog_9_method_30_code 18 = .ok (.tableswitch 267 1 9 #[50, 93, 145, 156, 178, 189, 205, 267, 257], 50) := by decide +kernel
theorem d_M_leaf_68 : decode prog_9_method_30_code 68 = .ok (.aload_n 0, 1) := by decide +kernel
theorem d_M_leaf_69 : decode prog_9_method_30_code 69 = .ok (.getfield 47, 3) := by decide +kernel
theorem d_M_leaf_72 : decode prog_9_method_30_code 72 = .ok (.iload_n 3, 1) := by decide +kernel
theorem d_M_leaf_73 : decode prog_9_method_30_code 73 = .ok (.iaload, 1) := by decide +kernel
theorem d_M_leaf_74 : decode prog_9_method_30_code 74 = .ok (.iload 5, 2) := by decide +kernel
theorem d_M_leaf_76 : decode prog_9_method_30_code 76 = .ok (.if_icmp .ne 12, 3) := by decide +kernel
theorem d_M_leaf_79 : decode prog_9_method_30_code 79 = .ok (.aload_n 0, 1) := by decide +kernel
theorem d_M_leaf_80 : decode prog_9_method_30_code 80 = .ok (.iload_n 3, 1) := by decide +kernel
theorem d_M_leaf_81 : decode prog_9_method_30_code 81 = .ok (.iconst 0, 1) := by decide +kernel
theorem d_M_leaf_82 : decode prog_9_method_30_code 82 = .ok (.invokevirtual 171, 3) := by decide +kernel
theorem d_M_leaf_85 : decode prog_9_method_30_code 85 = .ok (.goto 207, 3) := by decide +kernel
theorem d_M_leaf_88 : decode prog_9_method_30_code 88 = .ok (.aload_n 0, 1) := by decide +kernel
theorem d_M_leaf_89 : decode prog_9_method_30_code 89 = .ok (.getfield 47, 3) := by decide +kernel
theorem d_M_leaf_92 : decode prog_9_method_30_code 92 = .ok (.iload_n 3, 1) := by decide +kernel
theorem d_M_leaf_93 : decode prog_9_method_30_code 93 = .ok (.dup2, 1) := by decide +kernel
theorem d_M_leaf_94 : decode prog_9_method_30_code 94 = .ok (.iaload, 1) := by decide +kernel
theorem d_M_leaf_95 : decode prog_9_method_30_code 95 = .ok (.iconst 1, 1) := by decide +kernel
theorem d_M_leaf_96 : decode prog_9_method_30_code 96 = .ok (.iadd, 1) := by decide +kernel
theorem d_M_leaf_97 : decode prog_9_method_30_code 97 = .ok (.iastore, 1) := by decide +kernel
theorem d_M_leaf_98 : decode prog_9_method_30_code 98 = .ok (.aload_n 0, 1) := by decide +kernel
theorem d_M_leaf_99 : decode prog_9_method_30_code 99 = .ok (.iload_n 1, 1) := by decide +kernel
theorem d_M_leaf_100 : decode prog_9_method_30_code 100 = .ok (.invokevirtual 115, 3) := by decide +kernel
theorem d_M_leaf_103 : decode prog_9_method_30_code 103 = .ok (.aload_n 0, 1) := by decide +kernel
theorem d_M_leaf_104 : decode prog_9_method_30_code 104 = .ok (.iload_n 3, 1) := by decide +kernel
theorem d_M_leaf_105 : decode prog_9_method_30_code 105 = .ok (.invokevirtual 174, 3) := by decide +kernel
theorem d_M_leaf_108 : decode prog_9_method_30_code 108 = .ok (.goto 184, 3) := by decide +kernel
theorem d_M_leaf_111 : decode prog_9_method_30_code 111 = .ok (.aload_n 0, 1) := by decide +kernel
theorem d_M_leaf_112 : decode prog_9_method_30_code 112 = .ok (.getfield 41, 3) := by decide +kernel
theorem d_M_leaf_115 : decode prog_9_method_30_code 115 = .ok (.iload_n 3, 1) := by decide +kernel
theorem d_M_leaf_116 : decode prog_9_method_30_code 116 = .ok (.iaload, 1) := by decide +kernel
theorem d_M_leaf_117 : decode prog_9_method_30_code 117 = .ok (.ifCond .ne 16, 3) := by decide +kernel
theorem d_M_leaf_120 : decode prog_9_method_30_code 120 = .ok (.aload_n 0, 1) := by decide +kernel
theorem d_M_leaf_121 : decode prog_9_method_30_code 121 = .ok (.getfield 47, 3) := by decide +kernel
theorem d_M_leaf_124 : decode prog_9_method_30_code 124 = .ok (.iload_n 3, 1) := by decide +kernel
theorem d_M_leaf_125 : decode prog_9_method_30_code 125 = .ok (.aload_n 0, 1) := by decide +kernel
theorem d_M_leaf_126 : decode prog_9_method_30_code 126 = .ok (.getfield 162, 3) := by decide +kernel
theorem d_M_leaf_129 : decode prog_9_method_30_code 129 = .ok (.iload 5, 2) := by decide +kernel
theorem d_M_leaf_131 : decode prog_9_method_30_code 131 = .ok (.iadd, 1) := by decide +kernel
theorem d_M_leaf_132 : decode prog_9_method_30_code 132 = .ok (.iastore, 1) := by decide +kernel
theorem d_M_leaf_133 : decode prog_9_method_30_code 133 = .ok (.aload_n 0, 1) := by decide +kernel
theorem d_M_leaf_134 : decode prog_9_method_30_code 134 = .ok (.getfield 162, 3) := by decide +kernel
theorem d_M_leaf_137 : decode prog_9_method_30_code 137 = .ok (.aload_n 0, 1) := by decide +kernel
theorem d_M_leaf_138 : decode prog_9_method_30_code 138 = .ok (.getfield 47, 3) := by decide +kernel
theorem d_M_leaf_141 : decode prog_9_method_30_code 141 = .ok (.iload_n 3, 1) := by decide +kernel
theorem d_M_leaf_142 : decode prog_9_method_30_code 142 = .ok (.iaload, 1) := by decide +kernel
theorem d_M_leaf_143 : decode prog_9_method_30_code 143 = .ok (.if_icmp .lt 12, 3) := by decide +kernel
theorem d_M_leaf_146 : decode prog_9_method_30_code 146 = .ok (.aload_n 0, 1) := by decide +kernel
theorem d_M_leaf_147 : decode prog_9_method_30_code 147 = .ok (.iload_n 3, 1) := by decide +kernel
theorem d_M_leaf_148 : decode prog_9_method_30_code 148 = .ok (.iconst 0, 1) := by decide +kernel
theorem d_M_leaf_149 : decode prog_9_method_30_code 149 = .ok (.invokevirtual 171, 3) := by decide +kernel
theorem d_M_leaf_152 : decode prog_9_method_30_code 152 = .ok (.goto 140, 3) := by decide +kernel
theorem d_M_leaf_155 : decode prog_9_method_30_code 155 = .ok (.aload_n 0, 1) := by decide +kernel
theorem d_M_leaf_156 : decode prog_9_method_30_code 156 = .ok (.iload_n 3, 1) := by decide +kernel
theorem d_M_leaf_157 : decode prog_9_method_30_code 157 = .ok (.invokevirtual 174, 3) := by decide +kernel
theorem d_M_leaf_160 : decode prog_9_method_30_code 160 = .ok (.goto 132, 3) := by decide +kernel
theorem d_M_leaf_163 : decode prog_9_method_30_code 163 = .ok (.aload_n 0, 1) := by decide +kernel
theorem d_M_leaf_164 : decode prog_9_method_30_code 164 = .ok (.iload_n 1, 1) := by decide +kernel
theorem d_M_leaf_165 : decode prog_9_method_30_code 165 = .ok (.iload_n 3, 1) := by decide +kernel
theorem d_M_leaf_166 : decode prog_9_method_30_code 166 = .ok (.iload 5, 2) := by decide +kernel
theorem d_M_leaf_168 : decode prog_9_method_30_code 168 = .ok (.invokevirtual 183, 3) := by decide +kernel
theorem d_M_leaf_171 : decode prog_9_method_30_code 171 = .ok (.goto 121, 3) := by decide +kernel
theorem d_M_leaf_174 : decode prog_9_method_30_code 174 = .ok (.aload_n 0, 1) := by decide +kernel
theorem d_M_leaf_175 : decode prog_9_method_30_code 175 = .ok (.iload 5, 2) := by decide +kernel
theorem d_M_leaf_177 : decode prog_9_method_30_code 177 = .ok (.iconst 2, 1) := by decide +kernel
theorem d_M_leaf_178 : decode prog_9_method_30_code 178 = .ok (.irem, 1) := by decide +kernel
theorem d_M_leaf_179 : decode prog_9_method_30_code 179 = .ok (.iload 5, 2) := by decide +kernel
theorem d_M_leaf_181 : decode prog_9_method_30_code 181 = .ok (.invokestatic 138, 3) := by decide +kernel
theorem d_M_leaf_184 : decode prog_9_method_30_code 184 = .ok (.invokevirtual 144, 3) := by decide +kernel
theorem d_M_leaf_187 : decode prog_9_method_30_code 187 = .ok (.aload_n 0, 1) := by decide +kernel
theorem d_M_leaf_188 : decode prog_9_method_30_code 188 = .ok (.iload_n 3, 1) := by decide +kernel
theorem d_M_leaf_189 : decode prog_9_method_30_code 189 = .ok (.iconst 0, 1) := by decide +kernel
theorem d_M_leaf_190 : decode prog_9_method_30_code 190 = .ok (.invokevirtual 171, 3) := by decide +kernel
theorem d_M_leaf_193 : decode prog_9_method_30_code 193 = .ok (.goto 99, 3) := by decide +kernel
theorem d_M_leaf_196 : decode prog_9_method_30_code 196 = .ok (.aload_n 0, 1) := by decide +kernel
theorem d_M_leaf_197 : decode prog_9_method_30_code 197 = .ok (.iload_n 1, 1) := by decide +kernel
theorem d_M_leaf_198 : decode prog_9_method_30_code 198 = .ok (.iload_n 3, 1) := by decide +kernel
theorem d_M_leaf_199 : decode prog_9_method_30_code 199 = .ok (.iload 5, 2) := by decide +kernel
theorem d_M_leaf_201 : decode prog_9_method_30_code 201 = .ok (.invokevirtual 186, 3) := by decide +kernel
theorem d_M_leaf_204 : decode prog_9_method_30_code 204 = .ok (.goto 88, 3) := by decide +kernel
theorem d_M_leaf_207 : decode prog_9_method_30_code 207 = .ok (.aload_n 0, 1) := by decide +kernel
theorem d_M_leaf_208 : decode prog_9_method_30_code 208 = .ok (.iload 5, 2) := by decide +kernel
theorem d_M_leaf_210 : decode prog_9_method_30_code 210 = .ok (.invokevirtual 147, 3) := by decide +kernel
theorem d_M_leaf_213 : decode prog_9_method_30_code 213 = .ok (.pop, 1) := by decide +kernel
theorem d_M_leaf_214 : decode prog_9_method_30_code 214 = .ok (.aload_n 0, 1) := by decide +kernel
theorem d_M_leaf_215 : decode prog_9_method_30_code 215 = .ok (.iload_n 3, 1) := by decide +kernel
theorem d_M_leaf_216 : decode prog_9_method_30_code 216 = .ok (.iconst 0, 1) := by decide +kernel
theorem d_M_leaf_217 : decode prog_9_method_30_code 217 = .ok (.invokevirtual 171, 3) := by decide +kernel
theorem d_M_leaf_220 : decode prog_9_method_30_code 220 = .ok (.goto 72, 3) := by decide +kernel
theorem d_M_leaf_223 : decode prog_9_method_30_code 223 = .ok (.iload 5, 2) := by decide +kernel
theorem d_M_leaf_225 : decode prog_9_method_30_code 225 = .ok (.aload_n 0, 1) := by decide +kernel
theorem d_M_leaf_226 : decode prog_9_method_30_code 226 = .ok (.getfield 105, 3) := by decide +kernel
theorem d_M_leaf_229 : decode prog_9_method_30_code 229 = .ok (.if_icmp .ge 16, 3) := by decide +kernel
theorem d_M_leaf_232 : decode prog_9_method_30_code 232 = .ok (.aload_n 0, 1) := by decide +kernel
theorem d_M_leaf_233 : decode prog_9_method_30_code 233 = .ok (.getfield 112, 3) := by decide +kernel
theorem d_M_leaf_236 : decode prog_9_method_30_code 236 = .ok (.bipush 12, 2) := by decide +kernel
theorem d_M_leaf_238 : decode prog_9_method_30_code 238 = .ok (.if_icmp .ge 7, 3) := by decide +kernel
theorem d_M_leaf_241 : decode prog_9_method_30_code 241 = .ok (.iconst 1, 1) := by decide +kernel
theorem d_M_leaf_242 : decode prog_9_method_30_code 242 = .ok (.goto 4, 3) := by decide +kernel
theorem d_M_leaf_245 : decode prog_9_method_30_code 245 = .ok (.iconst 0, 1) := by decide +kernel
theorem d_M_leaf_246 : decode prog_9_method_30_code 246 = .ok (.istore 6, 2) := by decide +kernel
theorem d_M_leaf_248 : decode prog_9_method_30_code 248 = .ok (.iload 6, 2) := by decide +kernel
theorem d_M_leaf_250 : decode prog_9_method_30_code 250 = .ok (.ifCond .eq 12, 3) := by decide +kernel
theorem d_M_leaf_253 : decode prog_9_method_30_code 253 = .ok (.aload_n 0, 1) := by decide +kernel
theorem d_M_leaf_254 : decode prog_9_method_30_code 254 = .ok (.iload 5, 2) := by decide +kernel
theorem d_M_leaf_256 : decode prog_9_method_30_code 256 = .ok (.invokevirtual 189, 3) := by decide +kernel
theorem d_M_leaf_259 : decode prog_9_method_30_code 259 = .ok (.goto 4, 3) := by decide +kernel
theorem d_M_leaf_262 : decode prog_9_method_30_code 262 = .ok (.iconst (-1), 1) := by decide +kernel
theorem d_M_leaf_263 : decode prog_9_method_30_code 263 = .ok (.istore 7, 2) := by decide +kernel
theorem d_M_leaf_265 : decode prog_9_method_30_code 265 = .ok (.aload_n 0, 1) := by decide +kernel
theorem d_M_leaf_266 : decode prog_9_method_30_code 266 = .ok (.iload_n 3, 1) := by decide +kernel
theorem d_M_leaf_267 : decode prog_9_method_30_code 267 = .ok (.iload 7, 2) := by decide +kernel
theorem d_M_leaf_269 : decode prog_9_method_30_code 269 = .ok (.invokevirtual 171, 3) := by decide +kernel
theorem d_M_leaf_272 : decode prog_9_method_30_code 272 = .ok (.goto 20, 3) := by decide +kernel
theorem d_M_leaf_275 : decode prog_9_method_30_code 275 = .ok (.aload_n 0, 1) := by decide +kernel
theorem d_M_leaf_276 : decode prog_9_method_30_code 276 = .ok (.iload_n 3, 1) := by decide +kernel
theorem d_M_leaf_277 : decode prog_9_method_30_code 277 = .ok (.iload 5, 2) := by decide +kernel
theorem d_M_leaf_279 : decode prog_9_method_30_code 279 = .ok (.invokevirtual 165, 3) := by decide +kernel
theorem d_M_leaf_282 : decode prog_9_method_30_code 282 = .ok (.goto 10, 3) := by decide +kernel
theorem d_M_leaf_285 : decode prog_9_method_30_code 285 = .ok (.aload_n 0, 1) := by decide +kernel
theorem d_M_leaf_286 : decode prog_9_method_30_code 286 = .ok (.iload_n 3, 1) := by decide +kernel
theorem d_M_leaf_287 : decode prog_9_method_30_code 287 = .ok (.iload 5, 2) := by decide +kernel
theorem d_M_leaf_289 : decode prog_9_method_30_code 289 = .ok (.invokevirtual 171, 3) := by decide +kernel
theorem d_M_leaf_292 : decode prog_9_method_30_code 292 = .ok (.return_, 1) := by decide +kernel
theorem d_M_take_0 : decode prog_9_method_31_code 0 = .ok (.iload_n 3, 1) := by decide +kernel
theorem d_M_take_1 : decode prog_9_method_31_code 1 = .ok (.iconst 2, 1) := by decide +kernel
theorem d_M_take_2 : decode prog_9_method_31_code 2 = .ok (.irem, 1) := by decide +kernel
theorem d_M_take_3 : decode prog_9_method_31_code 3 = .ok (.istore 4, 2) := by decide +kernel
theorem d_M_take_5 : decode prog_9_method_31_code 5 = .ok (.iload_n 3, 1) := by decide +kernel
theorem d_M_take_6 : decode prog_9_method_31_code 6 = .ok (.invokestatic 138, 3) := by decide +kernel
theorem d_M_take_9 : decode prog_9_method_31_code 9 = .ok (.istore 5, 2) := by decide +kernel
theorem d_M_take_11 : decode prog_9_method_31_code 11 = .ok (.aload_n 0, 1) := by decide +kernel
theorem d_M_take_12 : decode prog_9_method_31_code 12 = .ok (.getfield 41, 3) := by decide +kernel
theorem d_M_take_15 : decode prog_9_method_31_code 15 = .ok (.iload_n 2, 1) := by decide +kernel
theorem d_M_take_16 : decode prog_9_method_31_code 16 = .ok (.iaload, 1) := by decide +kernel
theorem d_M_take_17 : decode prog_9_method_31_code 17 = .ok (.ifCond .ne 29, 3) := by decide +kernel
theorem d_M_take_20 : decode prog_9_method_31_code 20 = .ok (.aload_n 0, 1) := by decide +kernel
theorem d_M_take_21 : decode prog_9_method_31_code 21 = .ok (.getfield 83, 3) := by decide +kernel
theorem d_M_take_24 : decode prog_9_method_31_code 24 = .ok (.iload 4, 2) := by decide +kernel
theorem d_M_take_26 : decode prog_9_method_31_code 26 = .ok (.iaload, 1) := by decide +kernel
theorem d_M_take_27 : decode prog_9_method_31_code 27 = .ok (.iload 5, 2) := by decide +kernel
theorem d_M_take_29 : decode prog_9_method_31_code 29 = .ok (.if_icmp .lt 17, 3) := by decide +kernel
theorem d_M_take_32 : decode prog_9_method_31_code 32 = .ok (.aload_n 0, 1) := by decide +kernel
theorem d_M_take_33 : decode prog_9_method_31_code 33 = .ok (.iconst 3, 1) := by decide +kernel
theorem d_M_take_34 : decode prog_9_method_31_code 34 = .ok (.iload 4, 2) := by decide +kernel
theorem d_M_take_36 : decode prog_9_method_31_code 36 = .ok (.invokevirtual 135, 3) := by decide +kernel
theorem d_M_take_39 : decode prog_9_method_31_code 39 = .ok (.ifCond .ge 7, 3) := by decide +kernel
theorem d_M_take_42 : decode prog_9_method_31_code 42 = .ok (.iconst 1, 1) := by decide +kernel
theorem d_M_take_43 : decode prog_9_method_31_code 43 = .ok (.goto 4, 3) := by decide +kernel
theorem d_M_take_46 : decode prog_9_method_31_code 46 = .ok (.iconst 0, 1) := by decide +kernel
theorem d_M_take_47 : decode prog_9_method_31_code 47 = .ok (.istore 6, 2) := by decide +kernel
theorem d_M_take_49 : decode prog_9_method_31_code 49 = .ok (.iload 6, 2) := by decide +kernel
theorem d_M_take_51 : decode prog_9_method_31_code 51 = .ok (.ifCond .ne 12, 3) := by decide +kernel
theorem d_M_take_54 : decode prog_9_method_31_code 54 = .ok (.aload_n 0, 1) := by decide +kernel
theorem d_M_take_55 : decode prog_9_method_31_code 55 = .ok (.getfield 56, 3) := by decide +kernel
theorem d_M_take_58 : decode prog_9_method_31_code 58 = .ok (.iload_n 2, 1) := by decide +kernel
theorem d_M_take_59 : decode prog_9_method_31_code 59 = .ok (.baload, 1) := by decide +kernel
theorem d_M_take_60 : decode prog_9_method_31_code 60 = .ok (.ifCond .eq 55, 3) := by decide +kernel
theorem d_M_take_63 : decode prog_9_method_31_code 63 = .ok (.aload_n 0, 1) := by decide +kernel
theorem d_M_take_64 : decode prog_9_method_31_code 64 = .ok (.iload_n 1, 1) := by decide +kernel
theorem d_M_take_65 : decode prog_9_method_31_code 65 = .ok (.invokevirtual 180, 3) := by decide +kernel
theorem d_M_take_68 : decode prog_9_method_31_code 68 = .ok (.istore 7, 2) := by decide +kernel
theorem d_M_take_70 : decode prog_9_method_31_code 70 = .ok (.iload 7, 2) := by decide +kernel
theorem d_M_take_72 : decode prog_9_method_31_code 72 = .ok (.ifCond .ne 9, 3) := by decide +kernel
theorem d_M_take_75 : decode prog_9_method_31_code 75 = .ok (.aload_n 0, 1) := by decide +kernel
theorem d_M_take_76 : decode prog_9_method_31_code 76 = .ok (.iconst 1, 1) := by decide +kernel
theorem d_M_take_77 : decode prog_9_method_31_code 77 = .ok (.putfield 151, 3) := by decide +kernel
theorem d_M_take_80 : decode prog_9_method_31_code 80 = .ok (.return_, 1) := by decide +kernel
theorem d_M_take_81 : decode prog_9_method_31_code 81 = .ok (.iload 6, 2) := by decide +kernel
theorem d_M_take_83 : decode prog_9_method_31_code 83 = .ok (.ifCond .eq 15, 3) := by decide +kernel
theorem d_M_take_86 : decode prog_9_method_31_code 86 = .ok (.aload_n 0, 1) := by decide +kernel
theorem d_M_take_87 : decode prog_9_method_31_code 87 = .ok (.getfield 83, 3) := by decide +kernel
theorem d_M_take_90 : decode prog_9_method_31_code 90 = .ok (.iload 4, 2) := by decide +kernel
theorem d_M_take_92 : decode prog_9_method_31_code 92 = .ok (.dup2, 1) := by decide +kernel
theorem d_M_take_93 : decode prog_9_method_31_code 93 = .ok (.iaload, 1) := by decide +kernel
theorem d_M_take_94 : decode prog_9_method_31_code 94 = .ok (.iload 5, 2) := by decide +kernel
theorem d_M_take_96 : decode prog_9_method_31_code 96 = .ok (.isub, 1) := by decide +kernel
theorem d_M_take_97 : decode prog_9_method_31_code 97 = .ok (.iastore, 1) := by decide +kernel
theorem d_M_take_98 : decode prog_9_method_31_code 98 = .ok (.aload_n 0, 1) := by decide +kernel
theorem d_M_take_99 : decode prog_9_method_31_code 99 = .ok (.getfield 56, 3) := by decide +kernel
theorem d_M_take_102 : decode prog_9_method_31_code 102 = .ok (.iload_n 2, 1) := by decide +kernel
theorem d_M_take_103 : decode prog_9_method_31_code 103 = .ok (.iconst 0, 1) := by decide +kernel
theorem d_M_take_104 : decode prog_9_method_31_code 104 = .ok (.bastore, 1) := by decide +kernel
theorem d_M_take_105 : decode prog_9_method_31_code 105 = .ok (.aload_n 0, 1) := by decide +kernel
theorem d_M_take_106 : decode prog_9_method_31_code 106 = .ok (.iload_n 2, 1) := by decide +kernel
theorem d_M_take_107 : decode prog_9_method_31_code 107 = .ok (.iload 5, 2) := by decide +kernel
theorem d_M_take_109 : decode prog_9_method_31_code 109 = .ok (.invokevirtual 171, 3) := by decide +kernel
theorem d_M_take_112 : decode prog_9_method_31_code 112 = .ok (.goto 62, 3) := by decide +kernel
theorem d_M_take_115 : decode prog_9_method_31_code 115 = .ok (.aload_n 0, 1) := by decide +kernel
theorem d_M_take_116 : decode prog_9_method_31_code 116 = .ok (.getfield 41, 3) := by decide +kernel
theorem d_M_take_119 : decode prog_9_method_31_code 119 = .ok (.iload_n 2, 1) := by decide +kernel
theorem d_M_take_120 : decode prog_9_method_31_code 120 = .ok (.iaload, 1) := by decide +kernel
theorem d_M_take_121 : decode prog_9_method_31_code 121 = .ok (.ifCond .ne 48, 3) := by decide +kernel
theorem d_M_take_124 : decode prog_9_method_31_code 124 = .ok (.aload_n 0, 1) := by decide +kernel
theorem d_M_take_125 : decode prog_9_method_31_code 125 = .ok (.getfield 47, 3) := by decide +kernel
theorem d_M_take_128 : decode prog_9_method_31_code 128 = .ok (.iload_n 2, 1) := by decide +kernel
theorem d_M_take_129 : decode prog_9_method_31_code 129 = .ok (.aload_n 0, 1) := by decide +kernel
theorem d_M_take_130 : decode prog_9_method_31_code 130 = .ok (.getfield 83, 3) := by decide +kernel
theorem d_M_take_133 : decode prog_9_method_31_code 133 = .ok (.iload 4, 2) := by decide +kernel
theorem d_M_take_135 : decode prog_9_method_31_code 135 = .ok (.iaload, 1) := by decide +kernel
theorem d_M_take_136 : decode prog_9_method_31_code 136 = .ok (.iastore, 1) := by decide +kernel
theorem d_M_take_137 : decode prog_9_method_31_code 137 = .ok (.aload_n 0, 1) := by decide +kernel
theorem d_M_take_138 : decode prog_9_method_31_code 138 = .ok (.getfield 83, 3) := by decide +kernel
theorem d_M_take_141 : decode prog_9_method_31_code 141 = .ok (.iload 4, 2) := by decide +kernel
theorem d_M_take_143 : decode prog_9_method_31_code 143 = .ok (.iconst 0, 1) := by decide +kernel
theorem d_M_take_144 : decode prog_9_method_31_code 144 = .ok (.iastore, 1) := by decide +kernel
theorem d_M_take_145 : decode prog_9_method_31_code 145 = .ok (.aload_n 0, 1) := by decide +kernel
theorem d_M_take_146 : decode prog_9_method_31_code 146 = .ok (.getfield 53, 3) := by decide +kernel
theorem d_M_take_149 : decode prog_9_method_31_code 149 = .ok (.iload_n 2, 1) := by decide +kernel
theorem d_M_take_150 : decode prog_9_method_31_code 150 = .ok (.iconst 1, 1) := by decide +kernel
theorem d_M_take_151 : decode prog_9_method_31_code 151 = .ok (.bastore, 1) := by decide +kernel
theorem d_M_take_152 : decode prog_9_method_31_code 152 = .ok (.aload_n 0, 1) := by decide +kernel
theorem d_M_take_153 : decode prog_9_method_31_code 153 = .ok (.getfield 50, 3) := by decide +kernel
theorem d_M_take_156 : decode prog_9_method_31_code 156 = .ok (.iload_n 2, 1) := by decide +kernel
theorem d_M_take_157 : decode prog_9_method_31_code 157 = .ok (.aload_n 0, 1) := by decide +kernel
theorem d_M_take_158 : decode prog_9_method_31_code 158 = .ok (.dup, 1) := by decide +kernel
theorem d_M_take_159 : decode prog_9_method_31_code 159 = .ok (.getfield 192, 3) := by decide +kernel
theorem d_M_take_162 : decode prog_9_method_31_code 162 = .ok (.dup_x1, 1) := by decide +kernel
theorem d_M_take_163 : decode prog_9_method_31_code 163 = .ok (.iconst 1, 1) := by decide +kernel
theorem d_M_take_164 : decode prog_9_method_31_code 164 = .ok (.iadd, 1) := by decide +kernel
theorem d_M_take_165 : decode prog_9_method_31_code 165 = .ok (.putfield 192, 3) := by decide +kernel
theorem d_M_take_168 : decode prog_9_method_31_code 168 = .ok (.iastore, 1) := by decide +kernel
theorem d_M_take_169 : decode prog_9_method_31_code 169 = .ok (.aload_n 0, 1) := by decide +kernel
theorem d_M_take_170 : decode prog_9_method_31_code 170 = .ok (.iload_n 2, 1) := by decide +kernel
theorem d_M_take_171 : decode prog_9_method_31_code 171 = .ok (.invokevirtual 174, 3) := by decide +kernel
theorem d_M_take_174 : decode prog_9_method_31_code 174 = .ok (.return_, 1) := by decide +kernel
theorem d_M_await_0 : decode prog_9_method_32_code 0 = .ok (.aload_n 0, 1) := by decide +kernel
theorem d_M_await_1 : decode prog_9_method_32_code 1 = .ok (.getfield 41, 3) := by decide +kernel
theorem d_M_await_4 : decode prog_9_method_32_code 4 = .ok (.iload_n 2, 1) := by decide +kernel
theorem d_M_await_5 : decode prog_9_method_32_code 5 = .ok (.iaload, 1) := by decide +kernel
theorem d_M_await_6 : decode prog_9_method_32_code 6 = .ok (.ifCond .ne 16, 3) := by decide +kernel
theorem d_M_await_9 : decode prog_9_method_32_code 9 = .ok (.aload_n 0, 1) := by decide +kernel
theorem d_M_await_10 : decode prog_9_method_32_code 10 = .ok (.getfield 86, 3) := by decide +kernel
theorem d_M_await_13 : decode prog_9_method_32_code 13 = .ok (.iload_n 3, 1) := by decide +kernel
theorem d_M_await_14 : decode prog_9_method_32_code 14 = .ok (.baload, 1) := by decide +kernel
theorem d_M_await_15 : decode prog_9_method_32_code 15 = .ok (.ifCond .eq 7, 3) := by decide +kernel
theorem d_M_await_18 : decode prog_9_method_32_code 18 = .ok (.iconst 1, 1) := by decide +kernel
theorem d_M_await_19 : decode prog_9_method_32_code 19 = .ok (.goto 4, 3) := by decide +kernel
theorem d_M_await_22 : decode prog_9_method_32_code 22 = .ok (.iconst 0, 1) := by decide +kernel
theorem d_M_await_23 : decode prog_9_method_32_code 23 = .ok (.istore 4, 2) := by decide +kernel
theorem d_M_await_25 : decode prog_9_method_32_code 25 = .ok (.iload 4, 2) := by decide +kernel
theorem d_M_await_27 : decode prog_9_method_32_code 27 = .ok (.ifCond .ne 12, 3) := by decide +kernel
theorem d_M_await_30 : decode prog_9_method_32_code 30 = .ok (.aload_n 0, 1) := by decide +kernel
theorem d_M_await_31 : decode prog_9_method_32_code 31 = .ok (.getfield 56, 3) := by decide +kernel
theorem d_M_await_34 : decode prog_9_method_32_code 34 = .ok (.iload_n 2, 1) := by decide +kernel
theorem d_M_await_35 : decode prog_9_method_32_code 35 = .ok (.baload, 1) := by decide +kernel
theorem d_M_await_36 : decode prog_9_method_32_code 36 = .ok (.ifCond .eq 49, 3) := by decide +kernel
theorem d_M_await_39 : decode prog_9_method_32_code 39 = .ok (.aload_n 0, 1) := by decide +kernel
theorem d_M_await_40 : decode prog_9_method_32_code 40 = .ok (.iload_n 1, 1) := by decide +kernel
theorem d_M_await_41 : decode prog_9_method_32_code 41 = .ok (.invokevirtual 180, 3) := by decide +kernel
theorem d_M_await_44 : decode prog_9_method_32_code 44 = .ok (.istore 5, 2) := by decide +kernel
theorem d_M_await_46 : decode prog_9_method_32_code 46 = .ok (.iload 5, 2) := by decide +kernel
theorem d_M_await_48 : decode prog_9_method_32_code 48 = .ok (.ifCond .ne 9, 3) := by decide +kernel
theorem d_M_await_51 : decode prog_9_method_32_code 51 = .ok (.aload_n 0, 1) := by decide +kernel
theorem d_M_await_52 : decode prog_9_method_32_code 52 = .ok (.iconst 1, 1) := by decide +kernel
theorem d_M_await_53 : decode prog_9_method_32_code 53 = .ok (.putfield 151, 3) := by decide +kernel
theorem d_M_await_56 : decode prog_9_method_32_code 56 = .ok (.return_, 1) := by decide +kernel
theorem d_M_await_57 : decode prog_9_method_32_code 57 = .ok (.iload 4, 2) := by decide +kernel
theorem d_M_await_59 : decode prog_9_method_32_code 59 = .ok (.ifCond .eq 10, 3) := by decide +kernel
theorem d_M_await_62 : decode prog_9_method_32_code 62 = .ok (.aload_n 0, 1) := by decide +kernel
theorem d_M_await_63 : decode prog_9_method_32_code 63 = .ok (.getfield 86, 3) := by decide +kernel
theorem d_M_await_66 : decode prog_9_method_32_code 66 = .ok (.iload_n 3, 1) := by decide +kernel
theorem d_M_await_67 : decode prog_9_method_32_code 67 = .ok (.iconst 0, 1) := by decide +kernel
theorem d_M_await_68 : decode prog_9_method_32_code 68 = .ok (.bastore, 1) := by decide +kernel
theorem d_M_await_69 : decode prog_9_method_32_code 69 = .ok (.aload_n 0, 1) := by decide +kernel
theorem d_M_await_70 : decode prog_9_method_32_code 70 = .ok (.getfield 56, 3) := by decide +kernel
theorem d_M_await_73 : decode prog_9_method_32_code 73 = .ok (.iload_n 2, 1) := by decide +kernel
theorem d_M_await_74 : decode prog_9_method_32_code 74 = .ok (.iconst 0, 1) := by decide +kernel
theorem d_M_await_75 : decode prog_9_method_32_code 75 = .ok (.bastore, 1) := by decide +kernel
theorem d_M_await_76 : decode prog_9_method_32_code 76 = .ok (.aload_n 0, 1) := by decide +kernel
theorem d_M_await_77 : decode prog_9_method_32_code 77 = .ok (.iload_n 2, 1) := by decide +kernel
theorem d_M_await_78 : decode prog_9_method_32_code 78 = .ok (.iconst 1, 1) := by decide +kernel
theorem d_M_await_79 : decode prog_9_method_32_code 79 = .ok (.invokevirtual 171, 3) := by decide +kernel
theorem d_M_await_82 : decode prog_9_method_32_code 82 = .ok (.goto 41, 3) := by decide +kernel
theorem d_M_await_85 : decode prog_9_method_32_code 85 = .ok (.aload_n 0, 1) := by decide +kernel
theorem d_M_await_86 : decode prog_9_method_32_code 86 = .ok (.getfield 41, 3) := by decide +kernel
theorem d_M_await_89 : decode prog_9_method_32_code 89 = .ok (.iload_n 2, 1) := by decide +kernel
theorem d_M_await_90 : decode prog_9_method_32_code 90 = .ok (.iaload, 1) := by decide +kernel
theorem d_M_await_91 : decode prog_9_method_32_code 91 = .ok (.ifCond .ne 27, 3) := by decide +kernel
theorem d_M_await_94 : decode prog_9_method_32_code 94 = .ok (.aload_n 0, 1) := by decide +kernel
theorem d_M_await_95 : decode prog_9_method_32_code 95 = .ok (.getfield 53, 3) := by decide +kernel
theorem d_M_await_98 : decode prog_9_method_32_code 98 = .ok (.iload_n 2, 1) := by decide +kernel
theorem d_M_await_99 : decode prog_9_method_32_code 99 = .ok (.iconst 1, 1) := by decide +kernel
theorem d_M_await_100 : decode prog_9_method_32_code 100 = .ok (.bastore, 1) := by decide +kernel
theorem d_M_await_101 : decode prog_9_method_32_code 101 = .ok (.aload_n 0, 1) := by decide +kernel
theorem d_M_await_102 : decode prog_9_method_32_code 102 = .ok (.getfield 50, 3) := by decide +kernel
theorem d_M_await_105 : decode prog_9_method_32_code 105 = .ok (.iload_n 2, 1) := by decide +kernel
theorem d_M_await_106 : decode prog_9_method_32_code 106 = .ok (.aload_n 0, 1) := by decide +kernel
theorem d_M_await_107 : decode prog_9_method_32_code 107 = .ok (.dup, 1) := by decide +kernel
theorem d_M_await_108 : decode prog_9_method_32_code 108 = .ok (.getfield 192, 3) := by decide +kernel
theorem d_M_await_111 : decode prog_9_method_32_code 111 = .ok (.dup_x1, 1) := by decide +kernel
theorem d_M_await_112 : decode prog_9_method_32_code 112 = .ok (.iconst 1, 1) := by decide +kernel
theorem d_M_await_113 : decode prog_9_method_32_code 113 = .ok (.iadd, 1) := by decide +kernel
theorem d_M_await_114 : decode prog_9_method_32_code 114 = .ok (.putfield 192, 3) := by decide +kernel
theorem d_M_await_117 : decode prog_9_method_32_code 117 = .ok (.iastore, 1) := by decide +kernel
theorem d_M_await_118 : decode prog_9_method_32_code 118 = .ok (.aload_n 0, 1) := by decide +kernel
theorem d_M_await_119 : decode prog_9_method_32_code 119 = .ok (.iload_n 2, 1) := by decide +kernel
theorem d_M_await_120 : decode prog_9_method_32_code 120 = .ok (.invokevirtual 174, 3) := by decide +kernel
theorem d_M_await_123 : decode prog_9_method_32_code 123 = .ok (.return_, 1) := by decide +kernel
theorem d_M_ends_0 : decode prog_9_method_33_code 0 = .ok (.aload_n 0, 1) := by decide +kernel
theorem d_M_ends_1 : decode prog_9_method_33_code 1 = .ok (.getfield 19, 3) := by decide +kernel
theorem d_M_ends_4 : decode prog_9_method_33_code 4 = .ok (.iload_n 1, 1) := by decide +kernel
theorem d_M_ends_5 : decode prog_9_method_33_code 5 = .ok (.iload_n 2, 1) := by decide +kernel
theorem d_M_ends_6 : decode prog_9_method_33_code 6 = .ok (.iastore, 1) := by decide +kernel
theorem d_M_ends_7 : decode prog_9_method_33_code 7 = .ok (.aload_n 0, 1) := by decide +kernel
theorem d_M_ends_8 : decode prog_9_method_33_code 8 = .ok (.getfield 22, 3) := by decide +kernel
theorem d_M_ends_11 : decode prog_9_method_33_code 11 = .ok (.iload_n 1, 1) := by decide +kernel
theorem d_M_ends_12 : decode prog_9_method_33_code 12 = .ok (.iload_n 3, 1) := by decide +kernel
theorem d_M_ends_13 : decode prog_9_method_33_code 13 = .ok (.iastore, 1) := by decide +kernel
theorem d_M_ends_14 : decode prog_9_method_33_code 14 = .ok (.return_, 1) := by decide +kernel
theorem d_M_tellReapers_0 : decode prog_9_method_34_code 0 = .ok (.iconst 0, 1) := by decide +kernel
theorem d_M_tellReapers_1 : decode prog_9_method_34_code 1 = .ok (.istore_n 2, 1) := by decide +kernel
theorem d_M_tellReapers_2 : decode prog_9_method_34_code 2 = .ok (.iload_n 2, 1) := by decide +kernel
theorem d_M_tellReapers_3 : decode prog_9_method_34_code 3 = .ok (.aload_n 0, 1) := by decide +kernel
theorem d_M_tellReapers_4 : decode prog_9_method_34_code 4 = .ok (.getfield 112, 3) := by decide +kernel
theorem d_M_tellReapers_7 : decode prog_9_method_34_code 7 = .ok (.if_icmp .ge 111, 3) := by decide +kernel
theorem d_M_tellReapers_10 : decode prog_9_method_34_code 10 = .ok (.iconst 0, 1) := by decide +kernel
theorem d_M_tellReapers_11 : decode prog_9_method_34_code 11 = .ok (.istore_n 3, 1) := by decide +kernel
theorem d_M_tellReapers_12 : decode prog_9_method_34_code 12 = .ok (.iconst 0, 1) := by decide +kernel
theorem d_M_tellReapers_13 : decode prog_9_method_34_code 13 = .ok (.istore 4, 2) := by decide +kernel
theorem d_M_tellReapers_15 : decode prog_9_method_34_code 15 = .ok (.iload 4, 2) := by decide +kernel
theorem d_M_tellReapers_17 : decode prog_9_method_34_code 17 = .ok (.aload_n 0, 1) := by decide +kernel
theorem d_M_tellReapers_18 : decode prog_9_method_34_code 18 = .ok (.getfield 16, 3) := by decide +kernel
theorem d_M_tellReapers_21 : decode prog_9_method_34_code 21 = .ok (.aload_n 0, 1) := by decide +kernel
theorem d_M_tellReapers_22 : decode prog_9_method_34_code 22 = .ok (.getfield 28, 3) := by decide +kernel
theorem d_M_tellReapers_25 : decode prog_9_method_34_code 25 = .ok (.iload_n 2, 1) := by decide +kernel
theorem d_M_tellReapers_26 : decode prog_9_method_34_code 26 = .ok (.iaload, 1) := by decide +kernel
theorem d_M_tellReapers_27 : decode prog_9_method_34_code 27 = .ok (.iaload, 1) := by decide +kernel
theorem d_M_tellReapers_28 : decode prog_9_method_34_code 28 = .ok (.if_icmp .ge 75, 3) := by decide +kernel
theorem d_M_tellReapers_31 : decode prog_9_method_34_code 31 = .ok (.bipush 12, 2) := by decide +kernel
theorem d_M_tellReapers_33 : decode prog_9_method_34_code 33 = .ok (.iload_n 2, 1) := by decide +kernel
theorem d_M_tellReapers_34 : decode prog_9_method_34_code 34 = .ok (.imul, 1) := by decide +kernel
theorem d_M_tellReapers_35 : decode prog_9_method_34_code 35 = .ok (.iload 4, 2) := by decide +kernel
theorem d_M_tellReapers_37 : decode prog_9_method_34_code 37 = .ok (.iadd, 1) := by decide +kernel
theorem d_M_tellReapers_38 : decode prog_9_method_34_code 38 = .ok (.istore 5, 2) := by decide +kernel
theorem d_M_tellReapers_40 : decode prog_9_method_34_code 40 = .ok (.iload_n 3, 1) := by decide +kernel
theorem d_M_tellReapers_41 : decode prog_9_method_34_code 41 = .ok (.aload_n 0, 1) := by decide +kernel
theorem d_M_tellReapers_42 : decode prog_9_method_34_code 42 = .ok (.iload_n 2, 1) := by decide +kernel
theorem d_M_tellReapers_43 : decode prog_9_method_34_code 43 = .ok (.iload 4, 2) := by decide +kernel
theorem d_M_tellReapers_45 : decode prog_9_method_34_code 45 = .ok (.invokevirtual 108, 3) := by decide +kernel
theorem d_M_tellReapers_48 : decode prog_9_method_34_code 48 = .ok (.bipush 8, 2) := by decide +kernel
theorem d_M_tellReapers_50 : decode prog_9_method_34_code 50 = .ok (.if_icmp .ne 44, 3) := by decide +kernel
theorem d_M_tellReapers_53 : decode prog_9_method_34_code 53 = .ok (.aload_n 0, 1) := by decide +kernel
theorem d_M_tellReapers_54 : decode prog_9_method_34_code 54 = .ok (.getfield 41, 3) := by decide +kernel
theorem d_M_tellReapers_57 : decode prog_9_method_34_code 57 = .ok (.iload 5, 2) := by decide +kernel
theorem d_M_tellReapers_59 : decode prog_9_method_34_code 59 = .ok (.iaload, 1) := by decide +kernel
theorem d_M_tellReapers_60 : decode prog_9_method_34_code 60 = .ok (.iconst 1, 1) := by decide +kernel
theorem d_M_tellReapers_61 : decode prog_9_method_34_code 61 = .ok (.if_icmp .ne 33, 3) := by decide +kernel
theorem d_M_tellReapers_64 : decode prog_9_method_34_code 64 = .ok (.aload_n 0, 1) := by decide +kernel
theorem d_M_tellReapers_65 : decode prog_9_method_34_code 65 = .ok (.getfield 41, 3) := by decide +kernel
theorem d_M_tellReapers_68 : decode prog_9_method_34_code 68 = .ok (.iload 5, 2) := by decide +kernel
theorem d_M_tellReapers_70 : decode prog_9_method_34_code 70 = .ok (.iconst 1, 1) := by decide +kernel
theorem d_M_tellReapers_71 : decode prog_9_method_34_code 71 = .ok (.iadd, 1) := by decide +kernel
theorem d_M_tellReapers_72 : decode prog_9_method_34_code 72 = .ok (.iaload, 1) := by decide +kernel
theorem d_M_tellReapers_73 : decode prog_9_method_34_code 73 = .ok (.iconst 2, 1) := by decide +kernel
theorem d_M_tellReapers_74 : decode prog_9_method_34_code 74 = .ok (.if_icmp .ne 20, 3) := by decide +kernel
theorem d_M_tellReapers_77 : decode prog_9_method_34_code 77 = .ok (.aload_n 0, 1) := by decide +kernel
theorem d_M_tellReapers_78 : decode prog_9_method_34_code 78 = .ok (.getfield 44, 3) := by decide +kernel
theorem d_M_tellReapers_81 : decode prog_9_method_34_code 81 = .ok (.iload 5, 2) := by decide +kernel
theorem d_M_tellReapers_83 : decode prog_9_method_34_code 83 = .ok (.iconst 1, 1) := by decide +kernel
theorem d_M_tellReapers_84 : decode prog_9_method_34_code 84 = .ok (.iadd, 1) := by decide +kernel
theorem d_M_tellReapers_85 : decode prog_9_method_34_code 85 = .ok (.iaload, 1) := by decide +kernel
theorem d_M_tellReapers_86 : decode prog_9_method_34_code 86 = .ok (.iload_n 1, 1) := by decide +kernel
theorem d_M_tellReapers_87 : decode prog_9_method_34_code 87 = .ok (.if_icmp .ne 7, 3) := by decide +kernel
theorem d_M_tellReapers_90 : decode prog_9_method_34_code 90 = .ok (.iconst 1, 1) := by decide +kernel
theorem d_M_tellReapers_91 : decode prog_9_method_34_code 91 = .ok (.goto 4, 3) := by decide +kernel
theorem d_M_tellReapers_94 : decode prog_9_method_34_code 94 = .ok (.iconst 0, 1) := by decide +kernel
theorem d_M_tellReapers_95 : decode prog_9_method_34_code 95 = .ok (.ior, 1) := by decide +kernel
theorem d_M_tellReapers_96 : decode prog_9_method_34_code 96 = .ok (.istore_n 3, 1) := by decide +kernel
theorem d_M_tellReapers_97 : decode prog_9_method_34_code 97 = .ok (.iinc 4 1, 3) := by decide +kernel
theorem d_M_tellReapers_100 : decode prog_9_method_34_code 100 = .ok (.goto (-85), 3) := by decide +kernel
theorem d_M_tellReapers_103 : decode prog_9_method_34_code 103 = .ok (.iload_n 3, 1) := by decide +kernel
theorem d_M_tellReapers_104 : decode prog_9_method_34_code 104 = .ok (.ifCond .eq 8, 3) := by decide +kernel
theorem d_M_tellReapers_107 : decode prog_9_method_34_code 107 = .ok (.aload_n 0, 1) := by decide +kernel
theorem d_M_tellReapers_108 : decode prog_9_method_34_code 108 = .ok (.iload_n 2, 1) := by decide +kernel
theorem d_M_tellReapers_109 : decode prog_9_method_34_code 109 = .ok (.invokevirtual 115, 3) := by decide +kernel
theorem d_M_tellReapers_112 : decode prog_9_method_34_code 112 = .ok (.iinc 2 1, 3) := by decide +kernel
theorem d_M_tellReapers_115 : decode prog_9_method_34_code 115 = .ok (.goto (-113), 3) := by decide +kernel
theorem d_M_tellReapers_118 : decode prog_9_method_34_code 118 = .ok (.return_, 1) := by decide +kernel
theorem d_M_work_0 : decode prog_9_method_35_code 0 = .ok (.aload_n 0, 1) := by decide +kernel
theorem d_M_work_1 : decode prog_9_method_35_code 1 = .ok (.getfield 19, 3) := by decide +kernel
theorem d_M_work_4 : decode prog_9_method_35_code 4 = .ok (.iload_n 1, 1) := by decide +kernel
theorem d_M_work_5 : decode prog_9_method_35_code 5 = .ok (.iconst 5, 1) := by decide +kernel
theorem d_M_work_6 : decode prog_9_method_35_code 6 = .ok (.iastore, 1) := by decide +kernel
theorem d_M_work_7 : decode prog_9_method_35_code 7 = .ok (.aload_n 0, 1) := by decide +kernel
theorem d_M_work_8 : decode prog_9_method_35_code 8 = .ok (.getfield 34, 3) := by decide +kernel
theorem d_M_work_11 : decode prog_9_method_35_code 11 = .ok (.iload_n 1, 1) := by decide +kernel
theorem d_M_work_12 : decode prog_9_method_35_code 12 = .ok (.iconst 0, 1) := by decide +kernel
theorem d_M_work_13 : decode prog_9_method_35_code 13 = .ok (.iastore, 1) := by decide +kernel
theorem d_M_work_14 : decode prog_9_method_35_code 14 = .ok (.aload_n 0, 1) := by decide +kernel
theorem d_M_work_15 : decode prog_9_method_35_code 15 = .ok (.getfield 37, 3) := by decide +kernel
theorem d_M_work_18 : decode prog_9_method_35_code 18 = .ok (.iload_n 1, 1) := by decide +kernel
theorem d_M_work_19 : decode prog_9_method_35_code 19 = .ok (.iconst 0, 1) := by decide +kernel
theorem d_M_work_20 : decode prog_9_method_35_code 20 = .ok (.bastore, 1) := by decide +kernel
theorem d_M_work_21 : decode prog_9_method_35_code 21 = .ok (.aload_n 0, 1) := by decide +kernel
theorem d_M_work_22 : decode prog_9_method_35_code 22 = .ok (.getfield 31, 3) := by decide +kernel
theorem d_M_work_25 : decode prog_9_method_35_code 25 = .ok (.iload_n 1, 1) := by decide +kernel
theorem d_M_work_26 : decode prog_9_method_35_code 26 = .ok (.iconst 4, 1) := by decide +kernel
theorem d_M_work_27 : decode prog_9_method_35_code 27 = .ok (.iastore, 1) := by decide +kernel
theorem d_M_work_28 : decode prog_9_method_35_code 28 = .ok (.aload_n 0, 1) := by decide +kernel
theorem d_M_work_29 : decode prog_9_method_35_code 29 = .ok (.getfield 25, 3) := by decide +kernel
theorem d_M_work_32 : decode prog_9_method_35_code 32 = .ok (.iload_n 1, 1) := by decide +kernel
theorem d_M_work_33 : decode prog_9_method_35_code 33 = .ok (.dup2, 1) := by decide +kernel
theorem d_M_work_34 : decode prog_9_method_35_code 34 = .ok (.iaload, 1) := by decide +kernel
theorem d_M_work_35 : decode prog_9_method_35_code 35 = .ok (.iconst 1, 1) := by decide +kernel
theorem d_M_work_36 : decode prog_9_method_35_code 36 = .ok (.iadd, 1) := by decide +kernel
theorem d_M_work_37 : decode prog_9_method_35_code 37 = .ok (.iastore, 1) := by decide +kernel
theorem d_M_work_38 : decode prog_9_method_35_code 38 = .ok (.aload_n 0, 1) := by decide +kernel
theorem d_M_work_39 : decode prog_9_method_35_code 39 = .ok (.dup, 1) := by decide +kernel
theorem d_M_work_40 : decode prog_9_method_35_code 40 = .ok (.getfield 195, 3) := by decide +kernel
theorem d_M_work_43 : decode prog_9_method_35_code 43 = .ok (.iconst 1, 1) := by decide +kernel
theorem d_M_work_44 : decode prog_9_method_35_code 44 = .ok (.iadd, 1) := by decide +kernel
theorem d_M_work_45 : decode prog_9_method_35_code 45 = .ok (.putfield 195, 3) := by decide +kernel
theorem d_M_work_48 : decode prog_9_method_35_code 48 = .ok (.aload_n 0, 1) := by decide +kernel
theorem d_M_work_49 : decode prog_9_method_35_code 49 = .ok (.iload_n 1, 1) := by decide +kernel
theorem d_M_work_50 : decode prog_9_method_35_code 50 = .ok (.invokevirtual 198, 3) := by decide +kernel
theorem d_M_work_53 : decode prog_9_method_35_code 53 = .ok (.bipush 12, 2) := by decide +kernel
theorem d_M_work_55 : decode prog_9_method_35_code 55 = .ok (.iload_n 1, 1) := by decide +kernel
theorem d_M_work_56 : decode prog_9_method_35_code 56 = .ok (.imul, 1) := by decide +kernel
theorem d_M_work_57 : decode prog_9_method_35_code 57 = .ok (.istore_n 3, 1) := by decide +kernel
theorem d_M_work_58 : decode prog_9_method_35_code 58 = .ok (.aload_n 0, 1) := by decide +kernel
theorem d_M_work_59 : decode prog_9_method_35_code 59 = .ok (.getfield 151, 3) := by decide +kernel
theorem d_M_work_62 : decode prog_9_method_35_code 62 = .ok (.iconst 1, 1) := by decide +kernel
theorem d_M_work_63 : decode prog_9_method_35_code 63 = .ok (.if_icmp .ne 41, 3) := by decide +kernel
theorem d_M_work_66 : decode prog_9_method_35_code 66 = .ok (.aload_n 0, 1) := by decide +kernel
theorem d_M_work_67 : decode prog_9_method_35_code 67 = .ok (.getfield 19, 3) := by decide +kernel
theorem d_M_work_70 : decode prog_9_method_35_code 70 = .ok (.iload_n 1, 1) := by decide +kernel
theorem d_M_work_71 : decode prog_9_method_35_code 71 = .ok (.aload_n 0, 1) := by decide +kernel
theorem d_M_work_72 : decode prog_9_method_35_code 72 = .ok (.getfield 37, 3) := by decide +kernel
theorem d_M_work_75 : decode prog_9_method_35_code 75 = .ok (.iload_n 1, 1) := by decide +kernel
theorem d_M_work_76 : decode prog_9_method_35_code 76 = .ok (.baload, 1) := by decide +kernel
theorem d_M_work_77 : decode prog_9_method_35_code 77 = .ok (.ifCond .eq 7, 3) := by decide +kernel
theorem d_M_work_80 : decode prog_9_method_35_code 80 = .ok (.iconst 1, 1) := by decide +kernel
theorem d_M_work_81 : decode prog_9_method_35_code 81 = .ok (.goto 4, 3) := by decide +kernel
theorem d_M_work_84 : decode prog_9_method_35_code 84 = .ok (.iconst 0, 1) := by decide +kernel
theorem d_M_work_85 : decode prog_9_method_35_code 85 = .ok (.iastore, 1) := by decide +kernel
theorem d_M_work_86 : decode prog_9_method_35_code 86 = .ok (.aload_n 0, 1) := by decide +kernel
theorem d_M_work_87 : decode prog_9_method_35_code 87 = .ok (.getfield 37, 3) := by decide +kernel
theorem d_M_work_90 : decode prog_9_method_35_code 90 = .ok (.iload_n 1, 1) := by decide +kernel
theorem d_M_work_91 : decode prog_9_method_35_code 91 = .ok (.baload, 1) := by decide +kernel
theorem d_M_work_92 : decode prog_9_method_35_code 92 = .ok (.ifCond .eq 41, 3) := by decide +kernel
theorem d_M_work_95 : decode prog_9_method_35_code 95 = .ok (.aload_n 0, 1) := by decide +kernel
theorem d_M_work_96 : decode prog_9_method_35_code 96 = .ok (.iload_n 1, 1) := by decide +kernel
theorem d_M_work_97 : decode prog_9_method_35_code 97 = .ok (.iload_n 2, 1) := by decide +kernel
theorem d_M_work_98 : decode prog_9_method_35_code 98 = .ok (.invokevirtual 128, 3) := by decide +kernel
theorem d_M_work_101 : decode prog_9_method_35_code 101 = .ok (.goto 32, 3) := by decide +kernel
theorem d_M_work_104 : decode prog_9_method_35_code 104 = .ok (.aload_n 0, 1) := by decide +kernel
theorem d_M_work_105 : decode prog_9_method_35_code 105 = .ok (.iload_n 1, 1) := by decide +kernel
theorem d_M_work_106 : decode prog_9_method_35_code 106 = .ok (.aload_n 0, 1) := by decide +kernel
theorem d_M_work_107 : decode prog_9_method_35_code 107 = .ok (.getfield 151, 3) := by decide +kernel
theorem d_M_work_110 : decode prog_9_method_35_code 110 = .ok (.iconst 2, 1) := by decide +kernel
theorem d_M_work_111 : decode prog_9_method_35_code 111 = .ok (.if_icmp .ne 7, 3) := by decide +kernel
theorem d_M_work_114 : decode prog_9_method_35_code 114 = .ok (.iconst 2, 1) := by decide +kernel
theorem d_M_work_115 : decode prog_9_method_35_code 115 = .ok (.goto 4, 3) := by decide +kernel
theorem d_M_work_118 : decode prog_9_method_35_code 118 = .ok (.iconst 3, 1) := by decide +kernel
theorem d_M_work_119 : decode prog_9_method_35_code 119 = .ok (.aload_n 0, 1) := by decide +kernel
theorem d_M_work_120 : decode prog_9_method_35_code 120 = .ok (.getfield 44, 3) := by decide +kernel
theorem d_M_work_123 : decode prog_9_method_35_code 123 = .ok (.iload_n 3, 1) := by decide +kernel
theorem d_M_work_124 : decode prog_9_method_35_code 124 = .ok (.iaload, 1) := by decide +kernel
theorem d_M_work_125 : decode prog_9_method_35_code 125 = .ok (.invokevirtual 201, 3) := by decide +kernel
theorem d_M_work_128 : decode prog_9_method_35_code 128 = .ok (.aload_n 0, 1) := by decide +kernel
theorem d_M_work_129 : decode prog_9_method_35_code 129 = .ok (.iload_n 1, 1) := by decide +kernel
theorem d_M_work_130 : decode prog_9_method_35_code 130 = .ok (.invokevirtual 204, 3) := by decide +kernel
theorem d_M_work_133 : decode prog_9_method_35_code 133 = .ok (.return_, 1) := by decide +kernel
theorem d_M_choose_0 : decode prog_9_method_36_code 0 = .ok (.aload_n 0, 1) := by decide +kernel
theorem d_M_choose_1 : decode prog_9_method_36_code 1 = .ok (.getfield 71, 3) := by decide +kernel
theorem d_M_choose_4 : decode prog_9_method_36_code 4 = .ok (.iload_n 1, 1) := by decide +kernel
theorem d_M_choose_5 : decode prog_9_method_36_code 5 = .ok (.iaload, 1) := by decide +kernel
theorem d_M_choose_6 : decode prog_9_method_36_code 6 = .ok (.istore_n 2, 1) := by decide +kernel
theorem d_M_choose_7 : decode prog_9_method_36_code 7 = .ok (.aload_n 0, 1) := by decide +kernel
theorem d_M_choose_8 : decode prog_9_method_36_code 8 = .ok (.getfield 71, 3) := by decide +kernel
theorem d_M_choose_11 : decode prog_9_method_36_code 11 = .ok (.iload_n 1, 1) := by decide +kernel
theorem d_M_choose_12 : decode prog_9_method_36_code 12 = .ok (.iconst 0, 1) := by decide +kernel
theorem d_M_choose_13 : decode prog_9_method_36_code 13 = .ok (.iastore, 1) := by decide +kernel
theorem d_M_choose_14 : decode prog_9_method_36_code 14 = .ok (.aload_n 0, 1) := by decide +kernel
theorem d_M_choose_15 : decode prog_9_method_36_code 15 = .ok (.getfield 68, 3) := by decide +kernel
theorem d_M_choose_18 : decode prog_9_method_36_code 18 = .ok (.iload_n 1, 1) := by decide +kernel
theorem d_M_choose_19 : decode prog_9_method_36_code 19 = .ok (.iaload, 1) := by decide +kernel
theorem d_M_choose_20 : decode prog_9_method_36_code 20 = .ok (.iconst 5, 1) := by decide +kernel
theorem d_M_choose_21 : decode prog_9_method_36_code 21 = .ok (.irem, 1) := by decide +kernel
theorem d_M_choose_22 : decode prog_9_method_36_code 22 = .ok (.ifCond .ne 15, 3) := by decide +kernel
theorem d_M_choose_25 : decode prog_9_method_36_code 25 = .ok (.aload_n 0, 1) := by decide +kernel
theorem d_M_choose_26 : decode prog_9_method_36_code 26 = .ok (.getfield 119, 3) := by decide +kernel
theorem d_M_choose_29 : decode prog_9_method_36_code 29 = .ok (.ifCond .le 8, 3) := by decide +kernel
theorem d_M_choose_32 : decode prog_9_method_36_code 32 = .ok (.aload_n 0, 1) := by decide +kernel
theorem d_M_choose_33 : decode prog_9_method_36_code 33 = .ok (.invokevirtual 207, 3) := by decide +kernel
theorem d_M_choose_36 : decode prog_9_method_36_code 36 = .ok (.ireturn, 1) := by decide +kernel
theorem d_M_choose_37 : decode prog_9_method_36_code 37 = .ok (.aload_n 0, 1) := by decide +kernel
theorem d_M_choose_38 : decode prog_9_method_36_code 38 = .ok (.getfield 77, 3) := by decide +kernel
theorem d_M_choose_41 : decode prog_9_method_36_code 41 = .ok (.iload_n 1, 1) := by decide +kernel
theorem d_M_choose_42 : decode prog_9_method_36_code 42 = .ok (.iaload, 1) := by decide +kernel
theorem d_M_choose_43 : decode prog_9_method_36_code 43 = .ok (.ifCond .gt 10, 3) := by decide +kernel
theorem d_M_choose_46 : decode prog_9_method_36_code 46 = .ok (.aload_n 0, 1) := by decide +kernel
theorem d_M_choose_47 : decode prog_9_method_36_code 47 = .ok (.getfield 119, 3) := by decide +kernel
theorem d_M_choose_50 : decode prog_9_method_36_code 50 = .ok (.ifCond .le 7, 3) := by decide +kernel
theorem d_M_choose_53 : decode prog_9_method_36_code 53 = .ok (.iconst 1, 1) := by decide +kernel
theorem d_M_choose_54 : decode prog_9_method_36_code 54 = .ok (.goto 4, 3) := by decide +kernel
theorem d_M_choose_57 : decode prog_9_method_36_code 57 = .ok (.iconst 0, 1) := by decide +kernel
theorem d_M_choose_58 : decode prog_9_method_36_code 58 = .ok (.istore_n 3, 1) := by decide +kernel
theorem d_M_choose_59 : decode prog_9_method_36_code 59 = .ok (.aload_n 0, 1) := by decide +kernel
theorem d_M_choose_60 : decode prog_9_method_36_code 60 = .ok (.getfield 65, 3) := by decide +kernel
theorem d_M_choose_63 : decode prog_9_method_36_code 63 = .ok (.iload_n 1, 1) := by decide +kernel
theorem d_M_choose_64 : decode prog_9_method_36_code 64 = .ok (.iaload, 1) := by decide +kernel
theorem d_M_choose_65 : decode prog_9_method_36_code 65 = .ok (.ifCond .lt 39, 3) := by decide +kernel
theorem d_M_choose_68 : decode prog_9_method_36_code 68 = .ok (.iload_n 2, 1) := by decide +kernel
theorem d_M_choose_69 : decode prog_9_method_36_code 69 = .ok (.iconst 2, 1) := by decide +kernel
theorem d_M_choose_70 : decode prog_9_method_36_code 70 = .ok (.if_icmp .lt 7, 3) := by decide +kernel
theorem d_M_choose_73 : decode prog_9_method_36_code 73 = .ok (.iload_n 3, 1) := by decide +kernel
theorem d_M_choose_74 : decode prog_9_method_36_code 74 = .ok (.ifCond .ne 30, 3) := by decide +kernel
theorem d_M_choose_77 : decode prog_9_method_36_code 77 = .ok (.aload_n 0, 1) := by decide +kernel
theorem d_M_choose_78 : decode prog_9_method_36_code 78 = .ok (.getfield 65, 3) := by decide +kernel
theorem d_M_choose_81 : decode prog_9_method_36_code 81 = .ok (.iload_n 1, 1) := by decide +kernel
theorem d_M_choose_82 : decode prog_9_method_36_code 82 = .ok (.iaload, 1) := by decide +kernel
theorem d_M_choose_83 : decode prog_9_method_36_code 83 = .ok (.istore 4, 2) := by decide +kernel
theorem d_M_choose_85 : decode prog_9_method_36_code 85 = .ok (.aload_n 0, 1) := by decide +kernel
theorem d_M_choose_86 : decode prog_9_method_36_code 86 = .ok (.getfield 65, 3) := by decide +kernel
theorem d_M_choose_89 : decode prog_9_method_36_code 89 = .ok (.iload_n 1, 1) := by decide +kernel
theorem d_M_choose_90 : decode prog_9_method_36_code 90 = .ok (.iconst (-1), 1) := by decide +kernel
theorem d_M_choose_91 : decode prog_9_method_36_code 91 = .ok (.iastore, 1) := by decide +kernel
theorem d_M_choose_92 : decode prog_9_method_36_code 92 = .ok (.aload_n 0, 1) := by decide +kernel
theorem d_M_choose_93 : decode prog_9_method_36_code 93 = .ok (.getfield 71, 3) := by decide +kernel
theorem d_M_choose_96 : decode prog_9_method_36_code 96 = .ok (.iload_n 1, 1) := by decide +kernel
theorem d_M_choose_97 : decode prog_9_method_36_code 97 = .ok (.iload_n 2, 1) := by decide +kernel
theorem d_M_choose_98 : decode prog_9_method_36_code 98 = .ok (.iconst 1, 1) := by decide +kernel
theorem d_M_choose_99 : decode prog_9_method_36_code 99 = .ok (.iadd, 1) := by decide +kernel
theorem d_M_choose_100 : decode prog_9_method_36_code 100 = .ok (.iastore, 1) := by decide +kernel
theorem d_M_choose_101 : decode prog_9_method_36_code 101 = .ok (.iload 4, 2) := by decide +kernel
theorem d_M_choose_103 : decode prog_9_method_36_code 103 = .ok (.ireturn, 1) := by decide +kernel
theorem d_M_choose_104 : decode prog_9_method_36_code 104 = .ok (.aload_n 0, 1) := by decide +kernel
theorem d_M_choose_105 : decode prog_9_method_36_code 105 = .ok (.getfield 77, 3) := by decide +kernel
theorem d_M_choose_108 : decode prog_9_method_36_code 108 = .ok (.iload_n 1, 1) := by decide +kernel
theorem d_M_choose_109 : decode prog_9_method_36_code 109 = .ok (.iaload, 1) := by decide +kernel
theorem d_M_choose_110 : decode prog_9_method_36_code 110 = .ok (.ifCond .le 9, 3) := by decide +kernel
theorem d_M_choose_113 : decode prog_9_method_36_code 113 = .ok (.aload_n 0, 1) := by decide +kernel
theorem d_M_choose_114 : decode prog_9_method_36_code 114 = .ok (.iload_n 1, 1) := by decide +kernel
theorem d_M_choose_115 : decode prog_9_method_36_code 115 = .ok (.invokevirtual 122, 3) := by decide +kernel
theorem d_M_choose_118 : decode prog_9_method_36_code 118 = .ok (.ireturn, 1) := by decide +kernel
theorem d_M_choose_119 : decode prog_9_method_36_code 119 = .ok (.aload_n 0, 1) := by decide +kernel
theorem d_M_choose_120 : decode prog_9_method_36_code 120 = .ok (.getfield 119, 3) := by decide +kernel
theorem d_M_choose_123 : decode prog_9_method_36_code 123 = .ok (.ifCond .le 8, 3) := by decide +kernel
theorem d_M_choose_126 : decode prog_9_method_36_code 126 = .ok (.aload_n 0, 1) := by decide +kernel
theorem d_M_choose_127 : decode prog_9_method_36_code 127 = .ok (.invokevirtual 207, 3) := by decide +kernel
theorem d_M_choose_130 : decode prog_9_method_36_code 130 = .ok (.ireturn, 1) := by decide +kernel
theorem d_M_choose_131 : decode prog_9_method_36_code 131 = .ok (.iconst 1, 1) := by decide +kernel
theorem d_M_choose_132 : decode prog_9_method_36_code 132 = .ok (.istore 4, 2) := by decide +kernel
theorem d_M_choose_134 : decode prog_9_method_36_code 134 = .ok (.iload 4, 2) := by decide +kernel
theorem d_M_choose_136 : decode prog_9_method_36_code 136 = .ok (.iconst 3, 1) := by decide +kernel
theorem d_M_choose_137 : decode prog_9_method_36_code 137 = .ok (.if_icmp .ge 90, 3) := by decide +kernel
theorem d_M_choose_140 : decode prog_9_method_36_code 140 = .ok (.iload_n 1, 1) := by decide +kernel
theorem d_M_choose_141 : decode prog_9_method_36_code 141 = .ok (.iload 4, 2) := by decide +kernel
theorem d_M_choose_143 : decode prog_9_method_36_code 143 = .ok (.iadd, 1) := by decide +kernel
theorem d_M_choose_144 : decode prog_9_method_36_code 144 = .ok (.iconst 3, 1) := by decide +kernel
theorem d_M_choose_145 : decode prog_9_method_36_code 145 = .ok (.irem, 1) := by decide +kernel
theorem d_M_choose_146 : decode prog_9_method_36_code 146 = .ok (.istore 5, 2) := by decide +kernel
theorem d_M_choose_148 : decode prog_9_method_36_code 148 = .ok (.aload_n 0, 1) := by decide +kernel
theorem d_M_choose_149 : decode prog_9_method_36_code 149 = .ok (.getfield 77, 3) := by decide +kernel
theorem d_M_choose_152 : decode prog_9_method_36_code 152 = .ok (.iload 5, 2) := by decide +kernel
theorem d_M_choose_154 : decode prog_9_method_36_code 154 = .ok (.iaload, 1) := by decide +kernel
theorem d_M_choose_155 : decode prog_9_method_36_code 155 = .ok (.iconst 1, 1) := by decide +kernel
theorem d_M_choose_156 : decode prog_9_method_36_code 156 = .ok (.iadd, 1) := by decide +kernel
theorem d_M_choose_157 : decode prog_9_method_36_code 157 = .ok (.iconst 2, 1) := by decide +kernel
theorem d_M_choose_158 : decode prog_9_method_36_code 158 = .ok (.idiv, 1) := by decide +kernel
theorem d_M_choose_159 : decode prog_9_method_36_code 159 = .ok (.istore 6, 2) := by decide +kernel
theorem d_M_choose_161 : decode prog_9_method_36_code 161 = .ok (.iload 6, 2) := by decide +kernel
theorem d_M_choose_163 : decode prog_9_method_36_code 163 = .ok (.ifCond .ne 6, 3) := by decide +kernel
theorem d_M_choose_166 : decode prog_9_method_36_code 166 = .ok (.goto 55, 3) := by decide +kernel
theorem d_M_choose_169 : decode prog_9_method_36_code 169 = .ok (.aload_n 0, 1) := by decide +kernel
theorem d_M_choose_170 : decode prog_9_method_36_code 170 = .ok (.dup, 1) := by decide +kernel
theorem d_M_choose_171 : decode prog_9_method_36_code 171 = .ok (.getfield 211, 3) := by decide +kernel
theorem d_M_choose_174 : decode prog_9_method_36_code 174 = .ok (.iconst 1, 1) := by decide +kernel
theorem d_M_choose_175 : decode prog_9_method_36_code 175 = .ok (.iadd, 1) := by decide +kernel
theorem d_M_choose_176 : decode prog_9_method_36_code 176 = .ok (.putfield 211, 3) := by decide +kernel
theorem d_M_choose_179 : decode prog_9_method_36_code 179 = .ok (.aload_n 0, 1) := by decide +kernel
theorem d_M_choose_180 : decode prog_9_method_36_code 180 = .ok (.iload 5, 2) := by decide +kernel
theorem d_M_choose_182 : decode prog_9_method_36_code 182 = .ok (.invokevirtual 122, 3) := by decide +kernel
theorem d_M_choose_185 : decode prog_9_method_36_code 185 = .ok (.istore 7, 2) := by decide +kernel
theorem d_M_choose_187 : decode prog_9_method_36_code 187 = .ok (.iconst 1, 1) := by decide +kernel
theorem d_M_choose_188 : decode prog_9_method_36_code 188 = .ok (.istore 8, 2) := by decide +kernel
theorem d_M_choose_190 : decode prog_9_method_36_code 190 = .ok (.iload 8, 2) := by decide +kernel
theorem d_M_choose_192 : decode prog_9_method_36_code 192 = .ok (.iload 6, 2) := by decide +kernel
theorem d_M_choose_194 : decode prog_9_method_36_code 194 = .ok (.if_icmp .ge 24, 3) := by decide +kernel
theorem d_M_choose_197 : decode prog_9_method_36_code 197 = .ok (.aload_n 0, 1) := by decide +kernel
theorem d_M_choose_198 : decode prog_9_method_36_code 198 = .ok (.iload 5, 2) := by decide +kernel
theorem d_M_choose_200 : decode prog_9_method_36_code 200 = .ok (.invokevirtual 122, 3) := by decide +kernel
theorem d_M_choose_203 : decode prog_9_method_36_code 203 = .ok (.istore 9, 2) := by decide +kernel
theorem d_M_choose_205 : decode prog_9_method_36_code 205 = .ok (.aload_n 0, 1) := by decide +kernel
theorem d_M_choose_206 : decode prog_9_method_36_code 206 = .ok (.iload 9, 2) := by decide +kernel
theorem d_M_choose_208 : decode prog_9_method_36_code 208 = .ok (.iload_n 1, 1) := by decide +kernel
theorem d_M_choose_209 : decode prog_9_method_36_code 209 = .ok (.invokevirtual 128, 3) := by decide +kernel
theorem d_M_choose_212 : decode prog_9_method_36_code 212 = .ok (.iinc 8 1, 3) := by decide +kernel
theorem d_M_choose_215 : decode prog_9_method_36_code 215 = .ok (.goto (-25), 3) := by decide +kernel
theorem d_M_choose_218 : decode prog_9_method_36_code 218 = .ok (.iload 7, 2) := by decide +kernel
theorem d_M_choose_220 : decode prog_9_method_36_code 220 = .ok (.ireturn, 1) := by decide +kernel
theorem d_M_choose_221 : decode prog_9_method_36_code 221 = .ok (.iinc 4 1, 3) := by decide +kernel
theorem d_M_choose_224 : decode prog_9_method_36_code 224 = .ok (.goto (-90), 3) := by decide +kernel
theorem d_M_choose_227 : decode prog_9_method_36_code 227 = .ok (.bipush (-2), 2) := by decide +kernel
theorem d_M_choose_229 : decode prog_9_method_36_code 229 = .ok (.ireturn, 1) := by decide +kernel
theorem d_M_turn_0 : decode prog_9_method_37_code 0 = .ok (.iload_n 1, 1) := by decide +kernel
theorem d_M_turn_1 : decode prog_9_method_37_code 1 = .ok (.iconst 0, 1) := by decide +kernel
theorem d_M_turn_2 : decode prog_9_method_37_code 2 = .ok (.iconst 2, 1) := by decide +kernel
theorem d_M_turn_3 : decode prog_9_method_37_code 3 = .ok (.invokestatic 93, 3) := by decide +kernel
theorem d_M_turn_6 : decode prog_9_method_37_code 6 = .ok (.ifCond .ne 5, 3) := by decide +kernel
theorem d_M_turn_9 : decode prog_9_method_37_code 9 = .ok (.iconst (-1), 1) := by decide +kernel
theorem d_M_turn_10 : decode prog_9_method_37_code 10 = .ok (.ireturn, 1) := by decide +kernel
theorem d_M_turn_11 : decode prog_9_method_37_code 11 = .ok (.aload_n 0, 1) := by decide +kernel
theorem d_M_turn_12 : decode prog_9_method_37_code 12 = .ok (.getfield 68, 3) := by decide +kernel
theorem d_M_turn_15 : decode prog_9_method_37_code 15 = .ok (.iload_n 1, 1) := by decide +kernel
theorem d_M_turn_16 : decode prog_9_method_37_code 16 = .ok (.dup2, 1) := by decide +kernel
theorem d_M_turn_17 : decode prog_9_method_37_code 17 = .ok (.iaload, 1) := by decide +kernel
theorem d_M_turn_18 : decode prog_9_method_37_code 18 = .ok (.iconst 1, 1) := by decide +kernel
theorem d_M_turn_19 : decode prog_9_method_37_code 19 = .ok (.iadd, 1) := by decide +kernel
theorem d_M_turn_20 : decode prog_9_method_37_code 20 = .ok (.iastore, 1) := by decide +kernel
theorem d_M_turn_21 : decode prog_9_method_37_code 21 = .ok (.aload_n 0, 1) := by decide +kernel
theorem d_M_turn_22 : decode prog_9_method_37_code 22 = .ok (.iload_n 1, 1) := by decide +kernel
theorem d_M_turn_23 : decode prog_9_method_37_code 23 = .ok (.invokevirtual 214, 3) := by decide +kernel
theorem d_M_turn_26 : decode prog_9_method_37_code 26 = .ok (.istore_n 2, 1) := by decide +kernel
theorem d_M_turn_27 : decode prog_9_method_37_code 27 = .ok (.iload_n 2, 1) := by decide +kernel
theorem d_M_turn_28 : decode prog_9_method_37_code 28 = .ok (.ifCond .ge 6, 3) := by decide +kernel
theorem d_M_turn_31 : decode prog_9_method_37_code 31 = .ok (.bipush (-2), 2) := by decide +kernel
theorem d_M_turn_33 : decode prog_9_method_37_code 33 = .ok (.ireturn, 1) := by decide +kernel
theorem d_M_turn_34 : decode prog_9_method_37_code 34 = .ok (.aload_n 0, 1) := by decide +kernel
theorem d_M_turn_35 : decode prog_9_method_37_code 35 = .ok (.iload_n 1, 1) := by decide +kernel
theorem d_M_turn_36 : decode prog_9_method_37_code 36 = .ok (.putfield 89, 3) := by decide +kernel
theorem d_M_turn_39 : decode prog_9_method_37_code 39 = .ok (.aload_n 0, 1) := by decide +kernel
theorem d_M_turn_40 : decode prog_9_method_37_code 40 = .ok (.iload_n 2, 1) := by decide +kernel
theorem d_M_turn_41 : decode prog_9_method_37_code 41 = .ok (.iload_n 1, 1) := by decide +kernel
theorem d_M_turn_42 : decode prog_9_method_37_code 42 = .ok (.invokevirtual 217, 3) := by decide +kernel
theorem d_M_turn_45 : decode prog_9_method_37_code 45 = .ok (.aload_n 0, 1) := by decide +kernel
theorem d_M_turn_46 : decode prog_9_method_37_code 46 = .ok (.iconst (-1), 1) := by decide +kernel
theorem d_M_turn_47 : decode prog_9_method_37_code 47 = .ok (.putfield 89, 3) := by decide +kernel
theorem d_M_turn_50 : decode prog_9_method_37_code 50 = .ok (.iload_n 2, 1) := by decide +kernel
theorem d_M_turn_51 : decode prog_9_method_37_code 51 = .ok (.ireturn, 1) := by decide +kernel
theorem d_M_run_0 : decode prog_9_method_38_code 0 = .ok (.iload_n 1, 1) := by decide +kernel
theorem d_M_run_1 : decode prog_9_method_38_code 1 = .ok (.iconst 1, 1) := by decide +kernel
theorem d_M_run_2 : decode prog_9_method_38_code 2 = .ok (.bipush 30, 2) := by decide +kernel
theorem d_M_run_4 : decode prog_9_method_38_code 4 = .ok (.invokestatic 93, 3) := by decide +kernel
theorem d_M_run_7 : decode prog_9_method_38_code 7 = .ok (.ifCond .ne 5, 3) := by decide +kernel
theorem d_M_run_10 : decode prog_9_method_38_code 10 = .ok (.iconst (-1), 1) := by decide +kernel
theorem d_M_run_11 : decode prog_9_method_38_code 11 = .ok (.ireturn, 1) := by decide +kernel
theorem d_M_run_12 : decode prog_9_method_38_code 12 = .ok (.iconst 0, 1) := by decide +kernel
theorem d_M_run_13 : decode prog_9_method_38_code 13 = .ok (.istore_n 2, 1) := by decide +kernel
theorem d_M_run_14 : decode prog_9_method_38_code 14 = .ok (.iconst 0, 1) := by decide +kernel
theorem d_M_run_15 : decode prog_9_method_38_code 15 = .ok (.istore_n 3, 1) := by decide +kernel
theorem d_M_run_16 : decode prog_9_method_38_code 16 = .ok (.iload_n 3, 1) := by decide +kernel
theorem d_M_run_17 : decode prog_9_method_38_code 17 = .ok (.iload_n 1, 1) := by decide +kernel
theorem d_M_run_18 : decode prog_9_method_38_code 18 = .ok (.if_icmp .ge 39, 3) := by decide +kernel
theorem d_M_run_21 : decode prog_9_method_38_code 21 = .ok (.aload_n 0, 1) := by decide +kernel
theorem d_M_run_22 : decode prog_9_method_38_code 22 = .ok (.aload_n 0, 1) := by decide +kernel
theorem d_M_run_23 : decode prog_9_method_38_code 23 = .ok (.getfield 220, 3) := by decide +kernel
theorem d_M_run_26 : decode prog_9_method_38_code 26 = .ok (.invokevirtual 223, 3) := by decide +kernel
theorem d_M_run_29 : decode prog_9_method_38_code 29 = .ok (.istore 4, 2) := by decide +kernel
theorem d_M_run_31 : decode prog_9_method_38_code 31 = .ok (.iload 4, 2) := by decide +kernel
theorem d_M_run_33 : decode prog_9_method_38_code 33 = .ok (.ifCond .lt 6, 3) := by decide +kernel
theorem d_M_run_36 : decode prog_9_method_38_code 36 = .ok (.iinc 2 1, 3) := by decide +kernel
theorem d_M_run_39 : decode prog_9_method_38_code 39 = .ok (.aload_n 0, 1) := by decide +kernel
theorem d_M_run_40 : decode prog_9_method_38_code 40 = .ok (.aload_n 0, 1) := by decide +kernel
theorem d_M_run_41 : decode prog_9_method_38_code 41 = .ok (.getfield 220, 3) := by decide +kernel
theorem d_M_run_44 : decode prog_9_method_38_code 44 = .ok (.iconst 1, 1) := by decide +kernel
theorem d_M_run_45 : decode prog_9_method_38_code 45 = .ok (.iadd, 1) := by decide +kernel
theorem d_M_run_46 : decode prog_9_method_38_code 46 = .ok (.iconst 3, 1) := by decide +kernel
theorem d_M_run_47 : decode prog_9_method_38_code 47 = .ok (.irem, 1) := by decide +kernel
theorem d_M_run_48 : decode prog_9_method_38_code 48 = .ok (.putfield 220, 3) := by decide +kernel
theorem d_M_run_51 : decode prog_9_method_38_code 51 = .ok (.iinc 3 1, 3) := by decide +kernel
theorem d_M_run_54 : decode prog_9_method_38_code 54 = .ok (.goto (-38), 3) := by decide +kernel
theorem d_M_run_57 : decode prog_9_method_38_code 57 = .ok (.iload_n 2, 1) := by decide +kernel
theorem d_M_run_58 : decode prog_9_method_38_code 58 = .ok (.ireturn, 1) := by decide +kernel
theorem d_M_spawn_0 : decode prog_9_method_39_code 0 = .ok (.iload_n 1, 1) := by decide +kernel
theorem d_M_spawn_1 : decode prog_9_method_39_code 1 = .ok (.iconst 0, 1) := by decide +kernel
theorem d_M_spawn_2 : decode prog_9_method_39_code 2 = .ok (.aload_n 0, 1) := by decide +kernel
theorem d_M_spawn_3 : decode prog_9_method_39_code 3 = .ok (.getfield 105, 3) := by decide +kernel
theorem d_M_spawn_6 : decode prog_9_method_39_code 6 = .ok (.iconst 1, 1) := by decide +kernel
theorem d_M_spawn_7 : decode prog_9_method_39_code 7 = .ok (.isub, 1) := by decide +kernel
theorem d_M_spawn_8 : decode prog_9_method_39_code 8 = .ok (.invokestatic 93, 3) := by decide +kernel
theorem d_M_spawn_11 : decode prog_9_method_39_code 11 = .ok (.ifCond .ne 5, 3) := by decide +kernel
theorem d_M_spawn_14 : decode prog_9_method_39_code 14 = .ok (.iconst (-1), 1) := by decide +kernel
theorem d_M_spawn_15 : decode prog_9_method_39_code 15 = .ok (.ireturn, 1) := by decide +kernel
theorem d_M_spawn_16 : decode prog_9_method_39_code 16 = .ok (.aload_n 0, 1) := by decide +kernel
theorem d_M_spawn_17 : decode prog_9_method_39_code 17 = .ok (.getfield 112, 3) := by decide +kernel
theorem d_M_spawn_20 : decode prog_9_method_39_code 20 = .ok (.bipush 12, 2) := by decide +kernel
theorem d_M_spawn_22 : decode prog_9_method_39_code 22 = .ok (.if_icmp .ne 8, 3) := by decide +kernel
theorem d_M_spawn_25 : decode prog_9_method_39_code 25 = .ok (.bipush (-2), 2) := by decide +kernel
theorem d_M_spawn_27 : decode prog_9_method_39_code 27 = .ok (.goto 8, 3) := by decide +kernel
theorem d_M_spawn_30 : decode prog_9_method_39_code 30 = .ok (.aload_n 0, 1) := by decide +kernel
theorem d_M_spawn_31 : decode prog_9_method_39_code 31 = .ok (.iload_n 1, 1) := by decide +kernel
theorem d_M_spawn_32 : decode prog_9_method_39_code 32 = .ok (.invokevirtual 189, 3) := by decide +kernel
theorem d_M_spawn_35 : decode prog_9_method_39_code 35 = .ok (.ireturn, 1) := by decide +kernel
theorem d_M_tick_0 : decode prog_9_method_40_code 0 = .ok (.iload_n 1, 1) := by decide +kernel
theorem d_M_tick_1 : decode prog_9_method_40_code 1 = .ok (.iconst 1, 1) := by decide +kernel
theorem d_M_tick_2 : decode prog_9_method_40_code 2 = .ok (.bipush 20, 2) := by decide +kernel
theorem d_M_tick_4 : decode prog_9_method_40_code 4 = .ok (.invokestatic 93, 3) := by decide +kernel
theorem d_M_tick_7 : decode prog_9_method_40_code 7 = .ok (.ifCond .ne 5, 3) := by decide +kernel
theorem d_M_tick_10 : decode prog_9_method_40_code 10 = .ok (.iconst (-1), 1) := by decide +kernel
theorem d_M_tick_11 : decode prog_9_method_40_code 11 = .ok (.ireturn, 1) := by decide +kernel
theorem d_M_tick_12 : decode prog_9_method_40_code 12 = .ok (.iconst 0, 1) := by decide +kernel
theorem d_M_tick_13 : decode prog_9_method_40_code 13 = .ok (.istore_n 2, 1) := by decide +kernel
theorem d_M_tick_14 : decode prog_9_method_40_code 14 = .ok (.iload_n 2, 1) := by decide +kernel
theorem d_M_tick_15 : decode prog_9_method_40_code 15 = .ok (.iload_n 1, 1) := by decide +kernel
theorem d_M_tick_16 : decode prog_9_method_40_code 16 = .ok (.if_icmp .ge 141, 3) := by decide +kernel
theorem d_M_tick_19 : decode prog_9_method_40_code 19 = .ok (.aload_n 0, 1) := by decide +kernel
theorem d_M_tick_20 : decode prog_9_method_40_code 20 = .ok (.dup, 1) := by decide +kernel
theorem d_M_tick_21 : decode prog_9_method_40_code 21 = .ok (.getfield 162, 3) := by decide +kernel
theorem d_M_tick_24 : decode prog_9_method_40_code 24 = .ok (.iconst 1, 1) := by decide +kernel
theorem d_M_tick_25 : decode prog_9_method_40_code 25 = .ok (.iadd, 1) := by decide +kernel
theorem d_M_tick_26 : decode prog_9_method_40_code 26 = .ok (.putfield 162, 3) := by decide +kernel
theorem d_M_tick_29 : decode prog_9_method_40_code 29 = .ok (.iconst 0, 1) := by decide +kernel
theorem d_M_tick_30 : decode prog_9_method_40_code 30 = .ok (.istore_n 3, 1) := by decide +kernel
theorem d_M_tick_31 : decode prog_9_method_40_code 31 = .ok (.iload_n 3, 1) := by decide +kernel
theorem d_M_tick_32 : decode prog_9_method_40_code 32 = .ok (.aload_n 0, 1) := by decide +kernel
theorem d_M_tick_33 : decode prog_9_method_40_code 33 = .ok (.getfield 112, 3) := by decide +kernel
theorem d_M_tick_36 : decode prog_9_method_40_code 36 = .ok (.if_icmp .ge 115, 3) := by decide +kernel
theorem d_M_tick_39 : decode prog_9_method_40_code 39 = .ok (.iconst 0, 1) := by decide +kernel
theorem d_M_tick_40 : decode prog_9_method_40_code 40 = .ok (.istore 4, 2) := by decide +kernel
theorem d_M_tick_42 : decode prog_9_method_40_code 42 = .ok (.iconst 0, 1) := by decide +kernel
theorem d_M_tick_43 : decode prog_9_method_40_code 43 = .ok (.istore 5, 2) := by decide +kernel
theorem d_M_tick_45 : decode prog_9_method_40_code 45 = .ok (.iload 5, 2) := by decide +kernel
theorem d_M_tick_47 : decode prog_9_method_40_code 47 = .ok (.aload_n 0, 1) := by decide +kernel
theorem d_M_tick_48 : decode prog_9_method_40_code 48 = .ok (.getfield 16, 3) := by decide +kernel
theorem d_M_tick_51 : decode prog_9_method_40_code 51 = .ok (.aload_n 0, 1) := by decide +kernel
theorem d_M_tick_52 : decode prog_9_method_40_code 52 = .ok (.getfield 28, 3) := by decide +kernel
theorem d_M_tick_55 : decode prog_9_method_40_code 55 = .ok (.iload_n 3, 1) := by decide +kernel
theorem d_M_tick_56 : decode prog_9_method_40_code 56 = .ok (.iaload, 1) := by decide +kernel
theorem d_M_tick_57 : decode prog_9_method_40_code 57 = .ok (.iaload, 1) := by decide +kernel
theorem d_M_tick_58 : decode prog_9_method_40_code 58 = .ok (.if_icmp .ge 77, 3) := by decide +kernel
theorem d_M_tick_61 : decode prog_9_method_40_code 61 = .ok (.iload 4, 2) := by decide +kernel
theorem d_M_tick_63 : decode prog_9_method_40_code 63 = .ok (.aload_n 0, 1) := by decide +kernel
theorem d_M_tick_64 : decode prog_9_method_40_code 64 = .ok (.iload_n 3, 1) := by decide +kernel
theorem d_M_tick_65 : decode prog_9_method_40_code 65 = .ok (.iload 5, 2) := by decide +kernel
theorem d_M_tick_67 : decode prog_9_method_40_code 67 = .ok (.invokevirtual 108, 3) := by decide +kernel
theorem d_M_tick_70 : decode prog_9_method_40_code 70 = .ok (.iconst 2, 1) := by decide +kernel
theorem d_M_tick_71 : decode prog_9_method_40_code 71 = .ok (.if_icmp .eq 15, 3) := by decide +kernel
theorem d_M_tick_74 : decode prog_9_method_40_code 74 = .ok (.aload_n 0, 1) := by decide +kernel
theorem d_M_tick_75 : decode prog_9_method_40_code 75 = .ok (.iload_n 3, 1) := by decide +kernel
theorem d_M_tick_76 : decode prog_9_method_40_code 76 = .ok (.iload 5, 2) := by decide +kernel
theorem d_M_tick_78 : decode prog_9_method_40_code 78 = .ok (.invokevirtual 108, 3) := by decide +kernel
theorem d_M_tick_81 : decode prog_9_method_40_code 81 = .ok (.bipush 13, 2) := by decide +kernel
theorem d_M_tick_83 : decode prog_9_method_40_code 83 = .ok (.if_icmp .ne 42, 3) := by decide +kernel
theorem d_M_tick_86 : decode prog_9_method_40_code 86 = .ok (.aload_n 0, 1) := by decide +kernel
theorem d_M_tick_87 : decode prog_9_method_40_code 87 = .ok (.getfield 41, 3) := by decide +kernel
theorem d_M_tick_90 : decode prog_9_method_40_code 90 = .ok (.bipush 12, 2) := by decide +kernel
theorem d_M_tick_92 : decode prog_9_method_40_code 92 = .ok (.iload_n 3, 1) := by decide +kernel
theorem d_M_tick_93 : decode prog_9_method_40_code 93 = .ok (.imul, 1) := by decide +kernel
theorem d_M_tick_94 : decode prog_9_method_40_code 94 = .ok (.iload 5, 2) := by decide +kernel
theorem d_M_tick_96 : decode prog_9_method_40_code 96 = .ok (.iadd, 1) := by decide +kernel
theorem d_M_tick_97 : decode prog_9_method_40_code 97 = .ok (.iaload, 1) := by decide +kernel
theorem d_M_tick_98 : decode prog_9_method_40_code 98 = .ok (.iconst 1, 1) := by decide +kernel
theorem d_M_tick_99 : decode prog_9_method_40_code 99 = .ok (.if_icmp .ne 26, 3) := by decide +kernel
theorem d_M_tick_102 : decode prog_9_method_40_code 102 = .ok (.aload_n 0, 1) := by decide +kernel
theorem d_M_tick_103 : decode prog_9_method_40_code 103 = .ok (.getfield 47, 3) := by decide +kernel
theorem d_M_tick_106 : decode prog_9_method_40_code 106 = .ok (.bipush 12, 2) := by decide +kernel
theorem d_M_tick_108 : decode prog_9_method_40_code 108 = .ok (.iload_n 3, 1) := by decide +kernel
theorem d_M_tick_109 : decode prog_9_method_40_code 109 = .ok (.imul, 1) := by decide +kernel
theorem d_M_tick_110 : decode prog_9_method_40_code 110 = .ok (.iload 5, 2) := by decide +kernel
theorem d_M_tick_112 : decode prog_9_method_40_code 112 = .ok (.iadd, 1) := by decide +kernel
theorem d_M_tick_113 : decode prog_9_method_40_code 113 = .ok (.iaload, 1) := by decide +kernel
theorem d_M_tick_114 : decode prog_9_method_40_code 114 = .ok (.aload_n 0, 1) := by decide +kernel
theorem d_M_tick_115 : decode prog_9_method_40_code 115 = .ok (.getfield 162, 3) := by decide +kernel
theorem d_M_tick_118 : decode prog_9_method_40_code 118 = .ok (.if_icmp .ne 7, 3) := by decide +kernel
theorem d_M_tick_121 : decode prog_9_method_40_code 121 = .ok (.iconst 1, 1) := by decide +kernel
theorem d_M_tick_122 : decode prog_9_method_40_code 122 = .ok (.goto 4, 3) := by decide +kernel
theorem d_M_tick_125 : decode prog_9_method_40_code 125 = .ok (.iconst 0, 1) := by decide +kernel
theorem d_M_tick_126 : decode prog_9_method_40_code 126 = .ok (.ior, 1) := by decide +kernel
theorem d_M_tick_127 : decode prog_9_method_40_code 127 = .ok (.istore 4, 2) := by decide +kernel
theorem d_M_tick_129 : decode prog_9_method_40_code 129 = .ok (.iinc 5 1, 3) := by decide +kernel
theorem d_M_tick_132 : decode prog_9_method_40_code 132 = .ok (.goto (-87), 3) := by decide +kernel
theorem d_M_tick_135 : decode prog_9_method_40_code 135 = .ok (.iload 4, 2) := by decide +kernel
theorem d_M_tick_137 : decode prog_9_method_40_code 137 = .ok (.ifCond .eq 8, 3) := by decide +kernel
theorem d_M_tick_140 : decode prog_9_method_40_code 140 = .ok (.aload_n 0, 1) := by decide +kernel
theorem d_M_tick_141 : decode prog_9_method_40_code 141 = .ok (.iload_n 3, 1) := by decide +kernel
theorem d_M_tick_142 : decode prog_9_method_40_code 142 = .ok (.invokevirtual 115, 3) := by decide +kernel
theorem d_M_tick_145 : decode prog_9_method_40_code 145 = .ok (.iinc 3 1, 3) := by decide +kernel
theorem d_M_tick_148 : decode prog_9_method_40_code 148 = .ok (.goto (-117), 3) := by decide +kernel
theorem d_M_tick_151 : decode prog_9_method_40_code 151 = .ok (.iinc 2 1, 3) := by decide +kernel
theorem d_M_tick_154 : decode prog_9_method_40_code 154 = .ok (.goto (-140), 3) := by decide +kernel
theorem d_M_tick_157 : decode prog_9_method_40_code 157 = .ok (.aload_n 0, 1) := by decide +kernel
theorem d_M_tick_158 : decode prog_9_method_40_code 158 = .ok (.getfield 162, 3) := by decide +kernel
theorem d_M_tick_161 : decode prog_9_method_40_code 161 = .ok (.ireturn, 1) := by decide +kernel
theorem d_M_unqueue_0 : decode prog_9_method_41_code 0 = .ok (.aload_n 0, 1) := by decide +kernel
theorem d_M_unqueue_1 : decode prog_9_method_41_code 1 = .ok (.getfield 34, 3) := by decide +kernel
theorem d_M_unqueue_4 : decode prog_9_method_41_code 4 = .ok (.iload_n 1, 1) := by decide +kernel
theorem d_M_unqueue_5 : decode prog_9_method_41_code 5 = .ok (.iaload, 1) := by decide +kernel
theorem d_M_unqueue_6 : decode prog_9_method_41_code 6 = .ok (.istore_n 2, 1) := by decide +kernel
theorem d_M_unqueue_7 : decode prog_9_method_41_code 7 = .ok (.aload_n 0, 1) := by decide +kernel
theorem d_M_unqueue_8 : decode prog_9_method_41_code 8 = .ok (.getfield 34, 3) := by decide +kernel
theorem d_M_unqueue_11 : decode prog_9_method_41_code 11 = .ok (.iload_n 1, 1) := by decide +kernel
theorem d_M_unqueue_12 : decode prog_9_method_41_code 12 = .ok (.iconst 0, 1) := by decide +kernel
theorem d_M_unqueue_13 : decode prog_9_method_41_code 13 = .ok (.iastore, 1) := by decide +kernel
theorem d_M_unqueue_14 : decode prog_9_method_41_code 14 = .ok (.iload_n 2, 1) := by decide +kernel
theorem d_M_unqueue_15 : decode prog_9_method_41_code 15 = .ok (.iconst 1, 1) := by decide +kernel
theorem d_M_unqueue_16 : decode prog_9_method_41_code 16 = .ok (.if_icmp .ne 62, 3) := by decide +kernel
theorem d_M_unqueue_19 : decode prog_9_method_41_code 19 = .ok (.iconst 0, 1) := by decide +kernel
theorem d_M_unqueue_20 : decode prog_9_method_41_code 20 = .ok (.istore_n 3, 1) := by decide +kernel
theorem d_M_unqueue_21 : decode prog_9_method_41_code 21 = .ok (.aload_n 0, 1) := by decide +kernel
theorem d_M_unqueue_22 : decode prog_9_method_41_code 22 = .ok (.getfield 80, 3) := by decide +kernel
theorem d_M_unqueue_25 : decode prog_9_method_41_code 25 = .ok (.iload_n 3, 1) := by decide +kernel
theorem d_M_unqueue_26 : decode prog_9_method_41_code 26 = .ok (.iaload, 1) := by decide +kernel
theorem d_M_unqueue_27 : decode prog_9_method_41_code 27 = .ok (.iload_n 1, 1) := by decide +kernel
theorem d_M_unqueue_28 : decode prog_9_method_41_code 28 = .ok (.if_icmp .eq 9, 3) := by decide +kernel
theorem d_M_unqueue_31 : decode prog_9_method_41_code 31 = .ok (.iinc 3 1, 3) := by decide +kernel
theorem d_M_unqueue_34 : decode prog_9_method_41_code 34 = .ok (.goto (-13), 3) := by decide +kernel
theorem d_M_unqueue_37 : decode prog_9_method_41_code 37 = .ok (.aload_n 0, 1) := by decide +kernel
theorem d_M_unqueue_38 : decode prog_9_method_41_code 38 = .ok (.dup, 1) := by decide +kernel
theorem d_M_unqueue_39 : decode prog_9_method_41_code 39 = .ok (.getfield 119, 3) := by decide +kernel
theorem d_M_unqueue_42 : decode prog_9_method_41_code 42 = .ok (.iconst 1, 1) := by decide +kernel
theorem d_M_unqueue_43 : decode prog_9_method_41_code 43 = .ok (.isub, 1) := by decide +kernel
theorem d_M_unqueue_44 : decode prog_9_method_41_code 44 = .ok (.putfield 119, 3) := by decide +kernel
theorem d_M_unqueue_47 : decode prog_9_method_41_code 47 = .ok (.iload_n 3, 1) := by decide +kernel
theorem d_M_unqueue_48 : decode prog_9_method_41_code 48 = .ok (.aload_n 0, 1) := by decide +kernel
theorem d_M_unqueue_49 : decode prog_9_method_41_code 49 = .ok (.getfield 119, 3) := by decide +kernel
theorem d_M_unqueue_52 : decode prog_9_method_41_code 52 = .ok (.if_icmp .ge 23, 3) := by decide +kernel
theorem d_M_unqueue_55 : decode prog_9_method_41_code 55 = .ok (.aload_n 0, 1) := by decide +kernel
theorem d_M_unqueue_56 : decode prog_9_method_41_code 56 = .ok (.getfield 80, 3) := by decide +kernel
theorem d_M_unqueue_59 : decode prog_9_method_41_code 59 = .ok (.iload_n 3, 1) := by decide +kernel
theorem d_M_unqueue_60 : decode prog_9_method_41_code 60 = .ok (.aload_n 0, 1) := by decide +kernel
theorem d_M_unqueue_61 : decode prog_9_method_41_code 61 = .ok (.getfield 80, 3) := by decide +kernel
theorem d_M_unqueue_64 : decode prog_9_method_41_code 64 = .ok (.iload_n 3, 1) := by decide +kernel
theorem d_M_unqueue_65 : decode prog_9_method_41_code 65 = .ok (.iconst 1, 1) := by decide +kernel
theorem d_M_unqueue_66 : decode prog_9_method_41_code 66 = .ok (.iadd, 1) := by decide +kernel
theorem d_M_unqueue_67 : decode prog_9_method_41_code 67 = .ok (.iaload, 1) := by decide +kernel
theorem d_M_unqueue_68 : decode prog_9_method_41_code 68 = .ok (.iastore, 1) := by decide +kernel
theorem d_M_unqueue_69 : decode prog_9_method_41_code 69 = .ok (.iinc 3 1, 3) := by decide +kernel
theorem d_M_unqueue_72 : decode prog_9_method_41_code 72 = .ok (.goto (-25), 3) := by decide +kernel
theorem d_M_unqueue_75 : decode prog_9_method_41_code 75 = .ok (.goto 108, 3) := by decide +kernel
theorem d_M_unqueue_78 : decode prog_9_method_41_code 78 = .ok (.iload_n 2, 1) := by decide +kernel
theorem d_M_unqueue_79 : decode prog_9_method_41_code 79 = .ok (.iconst 2, 1) := by decide +kernel
theorem d_M_unqueue_80 : decode prog_9_method_41_code 80 = .ok (.iconst 4, 1) := by decide +kernel
theorem d_M_unqueue_81 : decode prog_9_method_41_code 81 = .ok (.invokestatic 93, 3) := by decide +kernel
theorem d_M_unqueue_84 : decode prog_9_method_41_code 84 = .ok (.ifCond .eq 15, 3) := by decide +kernel
theorem d_M_unqueue_87 : decode prog_9_method_41_code 87 = .ok (.aload_n 0, 1) := by decide +kernel
theorem d_M_unqueue_88 : decode prog_9_method_41_code 88 = .ok (.getfield 65, 3) := by decide +kernel
theorem d_M_unqueue_91 : decode prog_9_method_41_code 91 = .ok (.iload_n 2, 1) := by decide +kernel
theorem d_M_unqueue_92 : decode prog_9_method_41_code 92 = .ok (.iconst 2, 1) := by decide +kernel
theorem d_M_unqueue_93 : decode prog_9_method_41_code 93 = .ok (.isub, 1) := by decide +kernel
theorem d_M_unqueue_94 : decode prog_9_method_41_code 94 = .ok (.iconst (-1), 1) := by decide +kernel
theorem d_M_unqueue_95 : decode prog_9_method_41_code 95 = .ok (.iastore, 1) := by decide +kernel
theorem d_M_unqueue_96 : decode prog_9_method_41_code 96 = .ok (.goto 87, 3) := by decide +kernel
theorem d_M_unqueue_99 : decode prog_9_method_41_code 99 = .ok (.iload_n 2, 1) := by decide +kernel
theorem d_M_unqueue_100 : decode prog_9_method_41_code 100 = .ok (.iconst 4, 1) := by decide +kernel
theorem d_M_unqueue_101 : decode prog_9_method_41_code 101 = .ok (.if_icmp .le 82, 3) := by decide +kernel
theorem d_M_unqueue_104 : decode prog_9_method_41_code 104 = .ok (.iload_n 2, 1) := by decide +kernel
theorem d_M_unqueue_105 : decode prog_9_method_41_code 105 = .ok (.iconst 5, 1) := by decide +kernel
theorem d_M_unqueue_106 : decode prog_9_method_41_code 106 = .ok (.isub, 1) := by decide +kernel
theorem d_M_unqueue_107 : decode prog_9_method_41_code 107 = .ok (.istore_n 3, 1) := by decide +kernel
theorem d_M_unqueue_108 : decode prog_9_method_41_code 108 = .ok (.iconst 0, 1) := by decide +kernel
theorem d_M_unqueue_109 : decode prog_9_method_41_code 109 = .ok (.istore 4, 2) := by decide +kernel
theorem d_M_unqueue_111 : decode prog_9_method_41_code 111 = .ok (.aload_n 0, 1) := by decide +kernel
theorem d_M_unqueue_112 : decode prog_9_method_41_code 112 = .ok (.getfield 74, 3) := by decide +kernel
theorem d_M_unqueue_115 : decode prog_9_method_41_code 115 = .ok (.iconst 4, 1) := by decide +kernel
theorem d_M_unqueue_116 : decode prog_9_method_41_code 116 = .ok (.iload_n 3, 1) := by decide +kernel
theorem d_M_unqueue_117 : decode prog_9_method_41_code 117 = .ok (.imul, 1) := by decide +kernel
theorem d_M_unqueue_118 : decode prog_9_method_41_code 118 = .ok (.iload 4, 2) := by decide +kernel
theorem d_M_unqueue_120 : decode prog_9_method_41_code 120 = .ok (.iadd, 1) := by decide +kernel
theorem d_M_unqueue_121 : decode prog_9_method_41_code 121 = .ok (.iaload, 1) := by decide +kernel
theorem d_M_unqueue_122 : decode prog_9_method_41_code 122 = .ok (.iload_n 1, 1) := by decide +kernel
theorem d_M_unqueue_123 : decode prog_9_method_41_code 123 = .ok (.if_icmp .eq 9, 3) := by decide +kernel
theorem d_M_unqueue_126 : decode prog_9_method_41_code 126 = .ok (.iinc 4 1, 3) := by decide +kernel
theorem d_M_unqueue_129 : decode prog_9_method_41_code 129 = .ok (.goto (-18), 3) := by decide +kernel
theorem d_M_unqueue_132 : decode prog_9_method_41_code 132 = .ok (.aload_n 0, 1) := by decide +kernel
theorem d_M_unqueue_133 : decode prog_9_method_41_code 133 = .ok (.getfield 77, 3) := by decide +kernel
theorem d_M_unqueue_136 : decode prog_9_method_41_code 136 = .ok (.iload_n 3, 1) := by decide +kernel
theorem d_M_unqueue_137 : decode prog_9_method_41_code 137 = .ok (.dup2, 1) := by decide +kernel
theorem d_M_unqueue_138 : decode prog_9_method_41_code 138 = .ok (.iaload, 1) := by decide +kernel
theorem d_M_unqueue_139 : decode prog_9_method_41_code 139 = .ok (.iconst 1, 1) := by decide +kernel
theorem d_M_unqueue_140 : decode prog_9_method_41_code 140 = .ok (.isub, 1) := by decide +kernel
theorem d_M_unqueue_141 : decode prog_9_method_41_code 141 = .ok (.iastore, 1) := by decide +kernel
theorem d_M_unqueue_142 : decode prog_9_method_41_code 142 = .ok (.iload 4, 2) := by decide +kernel
theorem d_M_unqueue_144 : decode prog_9_method_41_code 144 = .ok (.aload_n 0, 1) := by decide +kernel
theorem d_M_unqueue_145 : decode prog_9_method_41_code 145 = .ok (.getfield 77, 3) := by decide +kernel
theorem d_M_unqueue_148 : decode prog_9_method_41_code 148 = .ok (.iload_n 3, 1) := by decide +kernel
theorem d_M_unqueue_149 : decode prog_9_method_41_code 149 = .ok (.iaload, 1) := by decide +kernel
theorem d_M_unqueue_150 : decode prog_9_method_41_code 150 = .ok (.if_icmp .ge 33, 3) := by decide +kernel
theorem d_M_unqueue_153 : decode prog_9_method_41_code 153 = .ok (.aload_n 0, 1) := by decide +kernel
theorem d_M_unqueue_154 : decode prog_9_method_41_code 154 = .ok (.getfield 74, 3) := by decide +kernel
theorem d_M_unqueue_157 : decode prog_9_method_41_code 157 = .ok (.iconst 4, 1) := by decide +kernel
theorem d_M_unqueue_158 : decode prog_9_method_41_code 158 = .ok (.iload_n 3, 1) := by decide +kernel
theorem d_M_unqueue_159 : decode prog_9_method_41_code 159 = .ok (.imul, 1) := by decide +kernel
theorem d_M_unqueue_160 : decode prog_9_method_41_code 160 = .ok (.iload 4, 2) := by decide +kernel
theorem d_M_unqueue_162 : decode prog_9_method_41_code 162 = .ok (.iadd, 1) := by decide +kernel
theorem d_M_unqueue_163 : decode prog_9_method_41_code 163 = .ok (.aload_n 0, 1) := by decide +kernel
theorem d_M_unqueue_164 : decode prog_9_method_41_code 164 = .ok (.getfield 74, 3) := by decide +kernel
theorem d_M_unqueue_167 : decode prog_9_method_41_code 167 = .ok (.iconst 4, 1) := by decide +kernel
theorem d_M_unqueue_168 : decode prog_9_method_41_code 168 = .ok (.iload_n 3, 1) := by decide +kernel
theorem d_M_unqueue_169 : decode prog_9_method_41_code 169 = .ok (.imul, 1) := by decide +kernel
theorem d_M_unqueue_170 : decode prog_9_method_41_code 170 = .ok (.iload 4, 2) := by decide +kernel
theorem d_M_unqueue_172 : decode prog_9_method_41_code 172 = .ok (.iadd, 1) := by decide +kernel
theorem d_M_unqueue_173 : decode prog_9_method_41_code 173 = .ok (.iconst 1, 1) := by decide +kernel
theorem d_M_unqueue_174 : decode prog_9_method_41_code 174 = .ok (.iadd, 1) := by decide +kernel
theorem d_M_unqueue_175 : decode prog_9_method_41_code 175 = .ok (.iaload, 1) := by decide +kernel
theorem d_M_unqueue_176 : decode prog_9_method_41_code 176 = .ok (.iastore, 1) := by decide +kernel
theorem d_M_unqueue_177 : decode prog_9_method_41_code 177 = .ok (.iinc 4 1, 3) := by decide +kernel
theorem d_M_unqueue_180 : decode prog_9_method_41_code 180 = .ok (.goto (-38), 3) := by decide +kernel
theorem d_M_unqueue_183 : decode prog_9_method_41_code 183 = .ok (.return_, 1) := by decide +kernel
theorem d_M_abort_0 : decode prog_9_method_42_code 0 = .ok (.iload_n 1, 1) := by decide +kernel
theorem d_M_abort_1 : decode prog_9_method_42_code 1 = .ok (.iconst 0, 1) := by decide +kernel
theorem d_M_abort_2 : decode prog_9_method_42_code 2 = .ok (.aload_n 0, 1) := by decide +kernel
theorem d_M_abort_3 : decode prog_9_method_42_code 3 = .ok (.getfield 112, 3) := by decide +kernel
theorem d_M_abort_6 : decode prog_9_method_42_code 6 = .ok (.iconst 1, 1) := by decide +kernel
theorem d_M_abort_7 : decode prog_9_method_42_code 7 = .ok (.isub, 1) := by decide +kernel
theorem d_M_abort_8 : decode prog_9_method_42_code 8 = .ok (.invokestatic 93, 3) := by decide +kernel
theorem d_M_abort_11 : decode prog_9_method_42_code 11 = .ok (.ifCond .eq 17, 3) := by decide +kernel
theorem d_M_abort_14 : decode prog_9_method_42_code 14 = .ok (.aload_n 0, 1) := by decide +kernel
theorem d_M_abort_15 : decode prog_9_method_42_code 15 = .ok (.getfield 19, 3) := by decide +kernel
theorem d_M_abort_18 : decode prog_9_method_42_code 18 = .ok (.iload_n 1, 1) := by decide +kernel
theorem d_M_abort_19 : decode prog_9_method_42_code 19 = .ok (.iaload, 1) := by decide +kernel
theorem d_M_abort_20 : decode prog_9_method_42_code 20 = .ok (.iconst 2, 1) := by decide +kernel
theorem d_M_abort_21 : decode prog_9_method_42_code 21 = .ok (.iconst 4, 1) := by decide +kernel
theorem d_M_abort_22 : decode prog_9_method_42_code 22 = .ok (.invokestatic 93, 3) := by decide +kernel
theorem d_M_abort_25 : decode prog_9_method_42_code 25 = .ok (.ifCond .eq 5, 3) := by decide +kernel
theorem d_M_abort_28 : decode prog_9_method_42_code 28 = .ok (.iconst 0, 1) := by decide +kernel
theorem d_M_abort_29 : decode prog_9_method_42_code 29 = .ok (.ireturn, 1) := by decide +kernel
theorem d_M_abort_30 : decode prog_9_method_42_code 30 = .ok (.aload_n 0, 1) := by decide +kernel
theorem d_M_abort_31 : decode prog_9_method_42_code 31 = .ok (.iload_n 1, 1) := by decide +kernel
theorem d_M_abort_32 : decode prog_9_method_42_code 32 = .ok (.iconst 4, 1) := by decide +kernel
theorem d_M_abort_33 : decode prog_9_method_42_code 33 = .ok (.iconst 0, 1) := by decide +kernel
theorem d_M_abort_34 : decode prog_9_method_42_code 34 = .ok (.invokevirtual 201, 3) := by decide +kernel
theorem d_M_abort_37 : decode prog_9_method_42_code 37 = .ok (.aload_n 0, 1) := by decide +kernel
theorem d_M_abort_38 : decode prog_9_method_42_code 38 = .ok (.iload_n 1, 1) := by decide +kernel
theorem d_M_abort_39 : decode prog_9_method_42_code 39 = .ok (.invokevirtual 226, 3) := by decide +kernel
theorem d_M_abort_42 : decode prog_9_method_42_code 42 = .ok (.aload_n 0, 1) := by decide +kernel
theorem d_M_abort_43 : decode prog_9_method_42_code 43 = .ok (.iload_n 1, 1) := by decide +kernel
theorem d_M_abort_44 : decode prog_9_method_42_code 44 = .ok (.iconst 0, 1) := by decide +kernel
theorem d_M_abort_45 : decode prog_9_method_42_code 45 = .ok (.invokevirtual 168, 3) := by decide +kernel
theorem d_M_abort_48 : decode prog_9_method_42_code 48 = .ok (.aload_n 0, 1) := by decide +kernel
theorem d_M_abort_49 : decode prog_9_method_42_code 49 = .ok (.iload_n 1, 1) := by decide +kernel
theorem d_M_abort_50 : decode prog_9_method_42_code 50 = .ok (.invokevirtual 204, 3) := by decide +kernel
theorem d_M_abort_53 : decode prog_9_method_42_code 53 = .ok (.iconst 1, 1) := by decide +kernel
theorem d_M_abort_54 : decode prog_9_method_42_code 54 = .ok (.ireturn, 1) := by decide +kernel
theorem d_M_put_0 : decode prog_9_method_43_code 0 = .ok (.iload_n 1, 1) := by decide +kernel
theorem d_M_put_1 : decode prog_9_method_43_code 1 = .ok (.iconst 0, 1) := by decide +kernel
theorem d_M_put_2 : decode prog_9_method_43_code 2 = .ok (.iconst 1, 1) := by decide +kernel
theorem d_M_put_3 : decode prog_9_method_43_code 3 = .ok (.invokestatic 93, 3) := by decide +kernel
theorem d_M_put_6 : decode prog_9_method_43_code 6 = .ok (.ifCond .eq 13, 3) := by decide +kernel
theorem d_M_put_9 : decode prog_9_method_43_code 9 = .ok (.iload_n 2, 1) := by decide +kernel
theorem d_M_put_10 : decode prog_9_method_43_code 10 = .ok (.iconst 1, 1) := by decide +kernel
theorem d_M_put_11 : decode prog_9_method_43_code 11 = .ok (.bipush 9, 2) := by decide +kernel
theorem d_M_put_13 : decode prog_9_method_43_code 13 = .ok (.invokestatic 93, 3) := by decide +kernel
theorem d_M_put_16 : decode prog_9_method_43_code 16 = .ok (.ifCond .ne 5, 3) := by decide +kernel
theorem d_M_put_19 : decode prog_9_method_43_code 19 = .ok (.iconst (-1), 1) := by decide +kernel
theorem d_M_put_20 : decode prog_9_method_43_code 20 = .ok (.ireturn, 1) := by decide +kernel
theorem d_M_put_21 : decode prog_9_method_43_code 21 = .ok (.aload_n 0, 1) := by decide +kernel
theorem d_M_put_22 : decode prog_9_method_43_code 22 = .ok (.iload_n 1, 1) := by decide +kernel
theorem d_M_put_23 : decode prog_9_method_43_code 23 = .ok (.iload_n 2, 1) := by decide +kernel
theorem d_M_put_24 : decode prog_9_method_43_code 24 = .ok (.invokevirtual 144, 3) := by decide +kernel
theorem d_M_put_27 : decode prog_9_method_43_code 27 = .ok (.aload_n 0, 1) := by decide +kernel
theorem d_M_put_28 : decode prog_9_method_43_code 28 = .ok (.getfield 83, 3) := by decide +kernel
theorem d_M_put_31 : decode prog_9_method_43_code 31 = .ok (.iload_n 1, 1) := by decide +kernel
theorem d_M_put_32 : decode prog_9_method_43_code 32 = .ok (.iaload, 1) := by decide +kernel
theorem d_M_put_33 : decode prog_9_method_43_code 33 = .ok (.ireturn, 1) := by decide +kernel
theorem d_M_wake_0 : decode prog_9_method_44_code 0 = .ok (.iload_n 1, 1) := by decide +kernel
theorem d_M_wake_1 : decode prog_9_method_44_code 1 = .ok (.iconst 0, 1) := by decide +kernel
theorem d_M_wake_2 : decode prog_9_method_44_code 2 = .ok (.iconst 1, 1) := by decide +kernel
theorem d_M_wake_3 : decode prog_9_method_44_code 3 = .ok (.invokestatic 93, 3) := by decide +kernel
theorem d_M_wake_6 : decode prog_9_method_44_code 6 = .ok (.ifCond .ne 5, 3) := by decide +kernel
theorem d_M_wake_9 : decode prog_9_method_44_code 9 = .ok (.iconst (-1), 1) := by decide +kernel
theorem d_M_wake_10 : decode prog_9_method_44_code 10 = .ok (.ireturn, 1) := by decide +kernel
theorem d_M_wake_11 : decode prog_9_method_44_code 11 = .ok (.aload_n 0, 1) := by decide +kernel
theorem d_M_wake_12 : decode prog_9_method_44_code 12 = .ok (.iload_n 1, 1) := by decide +kernel
theorem d_M_wake_13 : decode prog_9_method_44_code 13 = .ok (.invokevirtual 147, 3) := by decide +kernel
theorem d_M_wake_16 : decode prog_9_method_44_code 16 = .ok (.istore_n 2, 1) := by decide +kernel
theorem d_M_wake_17 : decode prog_9_method_44_code 17 = .ok (.iload_n 2, 1) := by decide +kernel
theorem d_M_wake_18 : decode prog_9_method_44_code 18 = .ok (.ifCond .eq 7, 3) := by decide +kernel
theorem d_M_wake_21 : decode prog_9_method_44_code 21 = .ok (.iconst 1, 1) := by decide +kernel
theorem d_M_wake_22 : decode prog_9_method_44_code 22 = .ok (.goto 4, 3) := by decide +kernel
theorem d_M_wake_25 : decode prog_9_method_44_code 25 = .ok (.iconst 0, 1) := by decide +kernel
theorem d_M_wake_26 : decode prog_9_method_44_code 26 = .ok (.ireturn, 1) := by decide +kernel
theorem d_M_task_0 : decode prog_9_method_45_code 0 = .ok (.iload_n 1, 1) := by decide +kernel
theorem d_M_task_1 : decode prog_9_method_45_code 1 = .ok (.iconst 0, 1) := by decide +kernel
theorem d_M_task_2 : decode prog_9_method_45_code 2 = .ok (.aload_n 0, 1) := by decide +kernel
theorem d_M_task_3 : decode prog_9_method_45_code 3 = .ok (.getfield 112, 3) := by decide +kernel
theorem d_M_task_6 : decode prog_9_method_45_code 6 = .ok (.iconst 1, 1) := by decide +kernel
theorem d_M_task_7 : decode prog_9_method_45_code 7 = .ok (.isub, 1) := by decide +kernel
theorem d_M_task_8 : decode prog_9_method_45_code 8 = .ok (.invokestatic 93, 3) := by decide +kernel
theorem d_M_task_11 : decode prog_9_method_45_code 11 = .ok (.ifCond .ne 5, 3) := by decide +kernel
theorem d_M_task_14 : decode prog_9_method_45_code 14 = .ok (.iconst (-1), 1) := by decide +kernel
theorem d_M_task_15 : decode prog_9_method_45_code 15 = .ok (.ireturn, 1) := by decide +kernel
theorem d_M_task_16 : decode prog_9_method_45_code 16 = .ok (.iload_n 2, 1) := by decide +kernel
theorem d_M_task_17 : decode prog_9_method_45_code 17 = .ok (.tableswitch 105 0 5 #[39, 46, 77, 84, 91, 98], 39) := by decide +kernel
theorem d_M_task_56 : decode prog_9_method_45_code 56 = .ok (.aload_n 0, 1) := by decide +kernel
theorem d_M_task_57 : decode prog_9_method_45_code 57 = .ok (.getfield 19, 3) := by decide +kernel
theorem d_M_task_60 : decode prog_9_method_45_code 60 = .ok (.iload_n 1, 1) := by decide +kernel
theorem d_M_task_61 : decode prog_9_method_45_code 61 = .ok (.iaload, 1) := by decide +kernel
theorem d_M_task_62 : decode prog_9_method_45_code 62 = .ok (.ireturn, 1) := by decide +kernel
theorem d_M_task_63 : decode prog_9_method_45_code 63 = .ok (.aload_n 0, 1) := by decide +kernel
theorem d_M_task_64 : decode prog_9_method_45_code 64 = .ok (.getfield 19, 3) := by decide +kernel
theorem d_M_task_67 : decode prog_9_method_45_code 67 = .ok (.iload_n 1, 1) := by decide +kernel
theorem d_M_task_68 : decode prog_9_method_45_code 68 = .ok (.iaload, 1) := by decide +kernel
theorem d_M_task_69 : decode prog_9_method_45_code 69 = .ok (.iconst 2, 1) := by decide +kernel
theorem d_M_task_70 : decode prog_9_method_45_code 70 = .ok (.if_icmp .eq 13, 3) := by decide +kernel
theorem d_M_task_73 : decode prog_9_method_45_code 73 = .ok (.aload_n 0, 1) := by decide +kernel
theorem d_M_task_74 : decode prog_9_method_45_code 74 = .ok (.getfield 19, 3) := by decide +kernel
theorem d_M_task_77 : decode prog_9_method_45_code 77 = .ok (.iload_n 1, 1) := by decide +kernel
theorem d_M_task_78 : decode prog_9_method_45_code 78 = .ok (.iaload, 1) := by decide +kernel
theorem d_M_task_79 : decode prog_9_method_45_code 79 = .ok (.iconst 3, 1) := by decide +kernel
theorem d_M_task_80 : decode prog_9_method_45_code 80 = .ok (.if_icmp .ne 12, 3) := by decide +kernel
theorem d_M_task_83 : decode prog_9_method_45_code 83 = .ok (.aload_n 0, 1) := by decide +kernel
theorem d_M_task_84 : decode prog_9_method_45_code 84 = .ok (.getfield 22, 3) := by decide +kernel
theorem d_M_task_87 : decode prog_9_method_45_code 87 = .ok (.iload_n 1, 1) := by decide +kernel
theorem d_M_task_88 : decode prog_9_method_45_code 88 = .ok (.iaload, 1) := by decide +kernel
theorem d_M_task_89 : decode prog_9_method_45_code 89 = .ok (.goto 4, 3) := by decide +kernel
theorem d_M_task_92 : decode prog_9_method_45_code 92 = .ok (.iconst 0, 1) := by decide +kernel
theorem d_M_task_93 : decode prog_9_method_45_code 93 = .ok (.ireturn, 1) := by decide +kernel
theorem d_M_task_94 : decode prog_9_method_45_code 94 = .ok (.aload_n 0, 1) := by decide +kernel
theorem d_M_task_95 : decode prog_9_method_45_code 95 = .ok (.getfield 25, 3) := by decide +kernel
theorem d_M_task_98 : decode prog_9_method_45_code 98 = .ok (.iload_n 1, 1) := by decide +kernel
theorem d_M_task_99 : decode prog_9_method_45_code 99 = .ok (.iaload, 1) := by decide +kernel
theorem d_M_task_100 : decode prog_9_method_45_code 100 = .ok (.ireturn, 1) := by decide +kernel
theorem d_M_task_101 : decode prog_9_method_45_code 101 = .ok (.aload_n 0, 1) := by decide +kernel
theorem d_M_task_102 : decode prog_9_method_45_code 102 = .ok (.getfield 28, 3) := by decide +kernel
theorem d_M_task_105 : decode prog_9_method_45_code 105 = .ok (.iload_n 1, 1) := by decide +kernel
theorem d_M_task_106 : decode prog_9_method_45_code 106 = .ok (.iaload, 1) := by decide +kernel
theorem d_M_task_107 : decode prog_9_method_45_code 107 = .ok (.ireturn, 1) := by decide +kernel
theorem d_M_task_108 : decode prog_9_method_45_code 108 = .ok (.aload_n 0, 1) := by decide +kernel
theorem d_M_task_109 : decode prog_9_method_45_code 109 = .ok (.getfield 31, 3) := by decide +kernel
theorem d_M_task_112 : decode prog_9_method_45_code 112 = .ok (.iload_n 1, 1) := by decide +kernel
theorem d_M_task_113 : decode prog_9_method_45_code 113 = .ok (.iaload, 1) := by decide +kernel
theorem d_M_task_114 : decode prog_9_method_45_code 114 = .ok (.ireturn, 1) := by decide +kernel
theorem d_M_task_115 : decode prog_9_method_45_code 115 = .ok (.aload_n 0, 1) := by decide +kernel
theorem d_M_task_116 : decode prog_9_method_45_code 116 = .ok (.getfield 34, 3) := by decide +kernel
theorem d_M_task_119 : decode prog_9_method_45_code 119 = .ok (.iload_n 1, 1) := by decide +kernel
theorem d_M_task_120 : decode prog_9_method_45_code 120 = .ok (.iaload, 1) := by decide +kernel
theorem d_M_task_121 : decode prog_9_method_45_code 121 = .ok (.ireturn, 1) := by decide +kernel
theorem d_M_task_122 : decode prog_9_method_45_code 122 = .ok (.iconst (-1), 1) := by decide +kernel
theorem d_M_task_123 : decode prog_9_method_45_code 123 = .ok (.ireturn, 1) := by decide +kernel
theorem d_M_worker_0 : decode prog_9_method_46_code 0 = .ok (.iload_n 1, 1) := by decide +kernel
theorem d_M_worker_1 : decode prog_9_method_46_code 1 = .ok (.iconst 0, 1) := by decide +kernel
theorem d_M_worker_2 : decode prog_9_method_46_code 2 = .ok (.iconst 2, 1) := by decide +kernel
theorem d_M_worker_3 : decode prog_9_method_46_code 3 = .ok (.invokestatic 93, 3) := by decide +kernel
theorem d_M_worker_6 : decode prog_9_method_46_code 6 = .ok (.ifCond .eq 13, 3) := by decide +kernel
theorem d_M_worker_9 : decode prog_9_method_46_code 9 = .ok (.iload_n 2, 1) := by decide +kernel
theorem d_M_worker_10 : decode prog_9_method_46_code 10 = .ok (.iconst 0, 1) := by decide +kernel
theorem d_M_worker_11 : decode prog_9_method_46_code 11 = .ok (.bipush 7, 2) := by decide +kernel
theorem d_M_worker_13 : decode prog_9_method_46_code 13 = .ok (.invokestatic 93, 3) := by decide +kernel
theorem d_M_worker_16 : decode prog_9_method_46_code 16 = .ok (.ifCond .ne 5, 3) := by decide +kernel
theorem d_M_worker_19 : decode prog_9_method_46_code 19 = .ok (.iconst (-1), 1) := by decide +kernel
theorem d_M_worker_20 : decode prog_9_method_46_code 20 = .ok (.ireturn, 1) := by decide +kernel
theorem d_M_worker_21 : decode prog_9_method_46_code 21 = .ok (.iload_n 2, 1) := by decide +kernel
theorem d_M_worker_22 : decode prog_9_method_46_code 22 = .ok (.tableswitch 74 0 7 #[46, 53, 60, 74, 74, 74, 74, 67], 46) := by decide +kernel
theorem d_M_worker_68 : decode prog_9_method_46_code 68 = .ok (.aload_n 0, 1) := by decide +kernel
theorem d_M_worker_69 : decode prog_9_method_46_code 69 = .ok (.getfield 65, 3) := by decide +kernel
theorem d_M_worker_72 : decode prog_9_method_46_code 72 = .ok (.iload_n 1, 1) := by decide +kernel
theorem d_M_worker_73 : decode prog_9_method_46_code 73 = .ok (.iaload, 1) := by decide +kernel
theorem d_M_worker_74 : decode prog_9_method_46_code 74 = .ok (.ireturn, 1) := by decide +kernel
theorem d_M_worker_75 : decode prog_9_method_46_code 75 = .ok (.aload_n 0, 1) := by decide +kernel
theorem d_M_worker_76 : decode prog_9_method_46_code 76 = .ok (.getfield 68, 3) := by decide +kernel
theorem d_M_worker_79 : decode prog_9_method_46_code 79 = .ok (.iload_n 1, 1) := by decide +kernel
theorem d_M_worker_80 : decode prog_9_method_46_code 80 = .ok (.iaload, 1) := by decide +kernel
theorem d_M_worker_81 : decode prog_9_method_46_code 81 = .ok (.ireturn, 1) := by decide +kernel
theorem d_M_worker_82 : decode prog_9_method_46_code 82 = .ok (.aload_n 0, 1) := by decide +kernel
theorem d_M_worker_83 : decode prog_9_method_46_code 83 = .ok (.getfield 77, 3) := by decide +kernel
theorem d_M_worker_86 : decode prog_9_method_46_code 86 = .ok (.iload_n 1, 1) := by decide +kernel
theorem d_M_worker_87 : decode prog_9_method_46_code 87 = .ok (.iaload, 1) := by decide +kernel
theorem d_M_worker_88 : decode prog_9_method_46_code 88 = .ok (.ireturn, 1) := by decide +kernel
theorem d_M_worker_89 : decode prog_9_method_46_code 89 = .ok (.aload_n 0, 1) := by decide +kernel
theorem d_M_worker_90 : decode prog_9_method_46_code 90 = .ok (.getfield 71, 3) := by decide +kernel
theorem d_M_worker_93 : decode prog_9_method_46_code 93 = .ok (.iload_n 1, 1) := by decide +kernel
theorem d_M_worker_94 : decode prog_9_method_46_code 94 = .ok (.iaload, 1) := by decide +kernel
theorem d_M_worker_95 : decode prog_9_method_46_code 95 = .ok (.ireturn, 1) := by decide +kernel
theorem d_M_worker_96 : decode prog_9_method_46_code 96 = .ok (.iload_n 2, 1) := by decide +kernel
theorem d_M_worker_97 : decode prog_9_method_46_code 97 = .ok (.iconst 3, 1) := by decide +kernel
theorem d_M_worker_98 : decode prog_9_method_46_code 98 = .ok (.isub, 1) := by decide +kernel
theorem d_M_worker_99 : decode prog_9_method_46_code 99 = .ok (.aload_n 0, 1) := by decide +kernel
theorem d_M_worker_100 : decode prog_9_method_46_code 100 = .ok (.getfield 77, 3) := by decide +kernel
theorem d_M_worker_103 : decode prog_9_method_46_code 103 = .ok (.iload_n 1, 1) := by decide +kernel
theorem d_M_worker_104 : decode prog_9_method_46_code 104 = .ok (.iaload, 1) := by decide +kernel
theorem d_M_worker_105 : decode prog_9_method_46_code 105 = .ok (.if_icmp .ge 18, 3) := by decide +kernel
theorem d_M_worker_108 : decode prog_9_method_46_code 108 = .ok (.aload_n 0, 1) := by decide +kernel
theorem d_M_worker_109 : decode prog_9_method_46_code 109 = .ok (.getfield 74, 3) := by decide +kernel
theorem d_M_worker_112 : decode prog_9_method_46_code 112 = .ok (.iconst 4, 1) := by decide +kernel
theorem d_M_worker_113 : decode prog_9_method_46_code 113 = .ok (.iload_n 1, 1) := by decide +kernel
theorem d_M_worker_114 : decode prog_9_method_46_code 114 = .ok (.imul, 1) := by decide +kernel
theorem d_M_worker_115 : decode prog_9_method_46_code 115 = .ok (.iload_n 2, 1) := by decide +kernel
theorem d_M_worker_116 : decode prog_9_method_46_code 116 = .ok (.iadd, 1) := by decide +kernel
theorem d_M_worker_117 : decode prog_9_method_46_code 117 = .ok (.iconst 3, 1) := by decide +kernel
theorem d_M_worker_118 : decode prog_9_method_46_code 118 = .ok (.isub, 1) := by decide +kernel
theorem d_M_worker_119 : decode prog_9_method_46_code 119 = .ok (.iaload, 1) := by decide +kernel
theorem d_M_worker_120 : decode prog_9_method_46_code 120 = .ok (.goto 4, 3) := by decide +kernel
theorem d_M_worker_123 : decode prog_9_method_46_code 123 = .ok (.iconst (-1), 1) := by decide +kernel
theorem d_M_worker_124 : decode prog_9_method_46_code 124 = .ok (.ireturn, 1) := by decide +kernel
theorem d_M_injected_0 : decode prog_9_method_47_code 0 = .ok (.iload_n 1, 1) := by decide +kernel
theorem d_M_injected_1 : decode prog_9_method_47_code 1 = .ok (.iconst 0, 1) := by decide +kernel
theorem d_M_injected_2 : decode prog_9_method_47_code 2 = .ok (.aload_n 0, 1) := by decide +kernel
theorem d_M_injected_3 : decode prog_9_method_47_code 3 = .ok (.getfield 119, 3) := by decide +kernel
theorem d_M_injected_6 : decode prog_9_method_47_code 6 = .ok (.iconst 1, 1) := by decide +kernel
theorem d_M_injected_7 : decode prog_9_method_47_code 7 = .ok (.isub, 1) := by decide +kernel
theorem d_M_injected_8 : decode prog_9_method_47_code 8 = .ok (.invokestatic 93, 3) := by decide +kernel
theorem d_M_injected_11 : decode prog_9_method_47_code 11 = .ok (.ifCond .eq 12, 3) := by decide +kernel
theorem d_M_injected_14 : decode prog_9_method_47_code 14 = .ok (.aload_n 0, 1) := by decide +kernel
theorem d_M_injected_15 : decode prog_9_method_47_code 15 = .ok (.getfield 80, 3) := by decide +kernel
theorem d_M_injected_18 : decode prog_9_method_47_code 18 = .ok (.iload_n 1, 1) := by decide +kernel
theorem d_M_injected_19 : decode prog_9_method_47_code 19 = .ok (.iaload, 1) := by decide +kernel
theorem d_M_injected_20 : decode prog_9_method_47_code 20 = .ok (.goto 4, 3) := by decide +kernel
theorem d_M_injected_23 : decode prog_9_method_47_code 23 = .ok (.iconst (-1), 1) := by decide +kernel
theorem d_M_injected_24 : decode prog_9_method_47_code 24 = .ok (.ireturn, 1) := by decide +kernel
theorem d_M_gate_0 : decode prog_9_method_48_code 0 = .ok (.iload_n 1, 1) := by decide +kernel
theorem d_M_gate_1 : decode prog_9_method_48_code 1 = .ok (.iconst 0, 1) := by decide +kernel
theorem d_M_gate_2 : decode prog_9_method_48_code 2 = .ok (.iconst 1, 1) := by decide +kernel
theorem d_M_gate_3 : decode prog_9_method_48_code 3 = .ok (.invokestatic 93, 3) := by decide +kernel
theorem d_M_gate_6 : decode prog_9_method_48_code 6 = .ok (.ifCond .eq 12, 3) := by decide +kernel
theorem d_M_gate_9 : decode prog_9_method_48_code 9 = .ok (.iload_n 2, 1) := by decide +kernel
theorem d_M_gate_10 : decode prog_9_method_48_code 10 = .ok (.iconst 0, 1) := by decide +kernel
theorem d_M_gate_11 : decode prog_9_method_48_code 11 = .ok (.iconst 4, 1) := by decide +kernel
theorem d_M_gate_12 : decode prog_9_method_48_code 12 = .ok (.invokestatic 93, 3) := by decide +kernel
theorem d_M_gate_15 : decode prog_9_method_48_code 15 = .ok (.ifCond .ne 5, 3) := by decide +kernel
theorem d_M_gate_18 : decode prog_9_method_48_code 18 = .ok (.iconst (-1), 1) := by decide +kernel
theorem d_M_gate_19 : decode prog_9_method_48_code 19 = .ok (.ireturn, 1) := by decide +kernel
theorem d_M_gate_20 : decode prog_9_method_48_code 20 = .ok (.aload_n 0, 1) := by decide +kernel
theorem d_M_gate_21 : decode prog_9_method_48_code 21 = .ok (.iconst 3, 1) := by decide +kernel
theorem d_M_gate_22 : decode prog_9_method_48_code 22 = .ok (.iload_n 1, 1) := by decide +kernel
theorem d_M_gate_23 : decode prog_9_method_48_code 23 = .ok (.invokevirtual 135, 3) := by decide +kernel
theorem d_M_gate_26 : decode prog_9_method_48_code 26 = .ok (.istore_n 3, 1) := by decide +kernel
theorem d_M_gate_27 : decode prog_9_method_48_code 27 = .ok (.iload_n 2, 1) := by decide +kernel
theorem d_M_gate_28 : decode prog_9_method_48_code 28 = .ok (.tableswitch 76 0 3 #[32, 39, 46, 61], 32) := by decide +kernel
theorem d_M_gate_60 : decode prog_9_method_48_code 60 = .ok (.aload_n 0, 1) := by decide +kernel
theorem d_M_gate_61 : decode prog_9_method_48_code 61 = .ok (.getfield 83, 3) := by decide +kernel
theorem d_M_gate_64 : decode prog_9_method_48_code 64 = .ok (.iload_n 1, 1) := by decide +kernel
theorem d_M_gate_65 : decode prog_9_method_48_code 65 = .ok (.iaload, 1) := by decide +kernel
theorem d_M_gate_66 : decode prog_9_method_48_code 66 = .ok (.ireturn, 1) := by decide +kernel
theorem d_M_gate_67 : decode prog_9_method_48_code 67 = .ok (.aload_n 0, 1) := by decide +kernel
theorem d_M_gate_68 : decode prog_9_method_48_code 68 = .ok (.iconst 3, 1) := by decide +kernel
theorem d_M_gate_69 : decode prog_9_method_48_code 69 = .ok (.iload_n 1, 1) := by decide +kernel
theorem d_M_gate_70 : decode prog_9_method_48_code 70 = .ok (.invokevirtual 229, 3) := by decide +kernel
theorem d_M_gate_73 : decode prog_9_method_48_code 73 = .ok (.ireturn, 1) := by decide +kernel
theorem d_M_gate_74 : decode prog_9_method_48_code 74 = .ok (.iload_n 3, 1) := by decide +kernel
theorem d_M_gate_75 : decode prog_9_method_48_code 75 = .ok (.ifCond .ge 7, 3) := by decide +kernel
theorem d_M_gate_78 : decode prog_9_method_48_code 78 = .ok (.iconst 0, 1) := by decide +kernel
theorem d_M_gate_79 : decode prog_9_method_48_code 79 = .ok (.goto 9, 3) := by decide +kernel
theorem d_M_gate_82 : decode prog_9_method_48_code 82 = .ok (.aload_n 0, 1) := by decide +kernel
theorem d_M_gate_83 : decode prog_9_method_48_code 83 = .ok (.getfield 47, 3) := by decide +kernel
theorem d_M_gate_86 : decode prog_9_method_48_code 86 = .ok (.iload_n 3, 1) := by decide +kernel
theorem d_M_gate_87 : decode prog_9_method_48_code 87 = .ok (.iaload, 1) := by decide +kernel
theorem d_M_gate_88 : decode prog_9_method_48_code 88 = .ok (.ireturn, 1) := by decide +kernel
theorem d_M_gate_89 : decode prog_9_method_48_code 89 = .ok (.aload_n 0, 1) := by decide +kernel
theorem d_M_gate_90 : decode prog_9_method_48_code 90 = .ok (.getfield 86, 3) := by decide +kernel
theorem d_M_gate_93 : decode prog_9_method_48_code 93 = .ok (.iload_n 1, 1) := by decide +kernel
theorem d_M_gate_94 : decode prog_9_method_48_code 94 = .ok (.baload, 1) := by decide +kernel
theorem d_M_gate_95 : decode prog_9_method_48_code 95 = .ok (.ifCond .eq 7, 3) := by decide +kernel
theorem d_M_gate_98 : decode prog_9_method_48_code 98 = .ok (.iconst 1, 1) := by decide +kernel
theorem d_M_gate_99 : decode prog_9_method_48_code 99 = .ok (.goto 4, 3) := by decide +kernel
theorem d_M_gate_102 : decode prog_9_method_48_code 102 = .ok (.iconst 0, 1) := by decide +kernel
theorem d_M_gate_103 : decode prog_9_method_48_code 103 = .ok (.ireturn, 1) := by decide +kernel
theorem d_M_gate_104 : decode prog_9_method_48_code 104 = .ok (.aload_n 0, 1) := by decide +kernel
theorem d_M_gate_105 : decode prog_9_method_48_code 105 = .ok (.iconst 5, 1) := by decide +kernel
theorem d_M_gate_106 : decode prog_9_method_48_code 106 = .ok (.iload_n 1, 1) := by decide +kernel
theorem d_M_gate_107 : decode prog_9_method_48_code 107 = .ok (.invokevirtual 229, 3) := by decide +kernel
theorem d_M_gate_110 : decode prog_9_method_48_code 110 = .ok (.ireturn, 1) := by decide +kernel
theorem d_M_count_0 : decode prog_9_method_49_code 0 = .ok (.iconst 0, 1) := by decide +kernel
theorem d_M_count_1 : decode prog_9_method_49_code 1 = .ok (.istore_n 2, 1) := by decide +kernel
theorem d_M_count_2 : decode prog_9_method_49_code 2 = .ok (.iload_n 1, 1) := by decide +kernel
theorem d_M_count_3 : decode prog_9_method_49_code 3 = .ok (.tableswitch 118 0 7 #[45, 50, 55, 90, 95, 100, 105, 110], 45) := by decide +kernel
theorem d_M_count_48 : decode prog_9_method_49_code 48 = .ok (.aload_n 0, 1) := by decide +kernel
theorem d_M_count_49 : decode prog_9_method_49_code 49 = .ok (.getfield 105, 3) := by decide +kernel
theorem d_M_count_52 : decode prog_9_method_49_code 52 = .ok (.ireturn, 1) := by decide +kernel
theorem d_M_count_53 : decode prog_9_method_49_code 53 = .ok (.aload_n 0, 1) := by decide +kernel
theorem d_M_count_54 : decode prog_9_method_49_code 54 = .ok (.getfield 112, 3) := by decide +kernel
theorem d_M_count_57 : decode prog_9_method_49_code 57 = .ok (.ireturn, 1) := by decide +kernel
theorem d_M_count_58 : decode prog_9_method_49_code 58 = .ok (.iconst 0, 1) := by decide +kernel
theorem d_M_count_59 : decode prog_9_method_49_code 59 = .ok (.istore_n 3, 1) := by decide +kernel
theorem d_M_count_60 : decode prog_9_method_49_code 60 = .ok (.iload_n 3, 1) := by decide +kernel
theorem d_M_count_61 : decode prog_9_method_49_code 61 = .ok (.aload_n 0, 1) := by decide +kernel
theorem d_M_count_62 : decode prog_9_method_49_code 62 = .ok (.getfield 112, 3) := by decide +kernel
theorem d_M_count_65 : decode prog_9_method_49_code 65 = .ok (.if_icmp .ge 26, 3) := by decide +kernel
theorem d_M_count_68 : decode prog_9_method_49_code 68 = .ok (.aload_n 0, 1) := by decide +kernel
theorem d_M_count_69 : decode prog_9_method_49_code 69 = .ok (.getfield 19, 3) := by decide +kernel
theorem d_M_count_72 : decode prog_9_method_49_code 72 = .ok (.iload_n 3, 1) := by decide +kernel
theorem d_M_count_73 : decode prog_9_method_49_code 73 = .ok (.iaload, 1) := by decide +kernel
theorem d_M_count_74 : decode prog_9_method_49_code 74 = .ok (.iconst 2, 1) := by decide +kernel
theorem d_M_count_75 : decode prog_9_method_49_code 75 = .ok (.iconst 4, 1) := by decide +kernel
theorem d_M_count_76 : decode prog_9_method_49_code 76 = .ok (.invokestatic 93, 3) := by decide +kernel
theorem d_M_count_79 : decode prog_9_method_49_code 79 = .ok (.ifCond .ne 6, 3) := by decide +kernel
theorem d_M_count_82 : decode prog_9_method_49_code 82 = .ok (.iinc 2 1, 3) := by decide +kernel
theorem d_M_count_85 : decode prog_9_method_49_code 85 = .ok (.iinc 3 1, 3) := by decide +kernel
theorem d_M_count_88 : decode prog_9_method_49_code 88 = .ok (.goto (-28), 3) := by decide +kernel
theorem d_M_count_91 : decode prog_9_method_49_code 91 = .ok (.iload_n 2, 1) := by decide +kernel
theorem d_M_count_92 : decode prog_9_method_49_code 92 = .ok (.ireturn, 1) := by decide +kernel
theorem d_M_count_93 : decode prog_9_method_49_code 93 = .ok (.aload_n 0, 1) := by decide +kernel
theorem d_M_count_94 : decode prog_9_method_49_code 94 = .ok (.getfield 162, 3) := by decide +kernel
theorem d_M_count_97 : decode prog_9_method_49_code 97 = .ok (.ireturn, 1) := by decide +kernel
theorem d_M_count_98 : decode prog_9_method_49_code 98 = .ok (.aload_n 0, 1) := by decide +kernel
theorem d_M_count_99 : decode prog_9_method_49_code 99 = .ok (.getfield 195, 3) := by decide +kernel
theorem d_M_count_102 : decode prog_9_method_49_code 102 = .ok (.ireturn, 1) := by decide +kernel
theorem d_M_count_103 : decode prog_9_method_49_code 103 = .ok (.aload_n 0, 1) := by decide +kernel
theorem d_M_count_104 : decode prog_9_method_49_code 104 = .ok (.getfield 119, 3) := by decide +kernel
theorem d_M_count_107 : decode prog_9_method_49_code 107 = .ok (.ireturn, 1) := by decide +kernel
theorem d_M_count_108 : decode prog_9_method_49_code 108 = .ok (.aload_n 0, 1) := by decide +kernel
theorem d_M_count_109 : decode prog_9_method_49_code 109 = .ok (.getfield 211, 3) := by decide +kernel
theorem d_M_count_112 : decode prog_9_method_49_code 112 = .ok (.ireturn, 1) := by decide +kernel
theorem d_M_count_113 : decode prog_9_method_49_code 113 = .ok (.aload_n 0, 1) := by decide +kernel
theorem d_M_count_114 : decode prog_9_method_49_code 114 = .ok (.getfield 16, 3) := by decide +kernel
theorem d_M_count_117 : decode prog_9_method_49_code 117 = .ok (.bipush 6, 2) := by decide +kernel
theorem d_M_count_119 : decode prog_9_method_49_code 119 = .ok (.iaload, 1) := by decide +kernel
theorem d_M_count_120 : decode prog_9_method_49_code 120 = .ok (.ireturn, 1) := by decide +kernel
theorem d_M_count_121 : decode prog_9_method_49_code 121 = .ok (.iconst (-1), 1) := by decide +kernel
theorem d_M_count_122 : decode prog_9_method_49_code 122 = .ok (.ireturn, 1) := by decide +kernel
