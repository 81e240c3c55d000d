theorem dX11_init_0 : decode cX11_init 0 = .ok (.aload_n 0, 1) := by decide +kernel
theorem dX11_init_1 : decode cX11_init 1 = .ok (.invokespecial 3, 3) := by decide +kernel
theorem dX11_init_4 : decode cX11_init 4 = .ok (.aload_n 0, 1) := by decide +kernel
theorem dX11_init_5 : decode cX11_init 5 = .ok (.new 9, 3) := by decide +kernel
theorem dX11_init_8 : decode cX11_init 8 = .ok (.dup, 1) := by decide +kernel
theorem dX11_init_9 : decode cX11_init 9 = .ok (.invokespecial 11, 3) := by decide +kernel
theorem dX11_init_12 : decode cX11_init 12 = .ok (.putfield 12, 3) := by decide +kernel
theorem dX11_init_15 : decode cX11_init 15 = .ok (.aload_n 0, 1) := by decide +kernel
theorem dX11_init_16 : decode cX11_init 16 = .ok (.new 16, 3) := by decide +kernel
theorem dX11_init_19 : decode cX11_init 19 = .ok (.dup, 1) := by decide +kernel
theorem dX11_init_20 : decode cX11_init 20 = .ok (.invokespecial 18, 3) := by decide +kernel
theorem dX11_init_23 : decode cX11_init 23 = .ok (.putfield 19, 3) := by decide +kernel
theorem dX11_init_26 : decode cX11_init 26 = .ok (.aload_n 0, 1) := by decide +kernel
theorem dX11_init_27 : decode cX11_init 27 = .ok (.new 23, 3) := by decide +kernel
theorem dX11_init_30 : decode cX11_init 30 = .ok (.dup, 1) := by decide +kernel
theorem dX11_init_31 : decode cX11_init 31 = .ok (.invokespecial 25, 3) := by decide +kernel
theorem dX11_init_34 : decode cX11_init 34 = .ok (.putfield 26, 3) := by decide +kernel
theorem dX11_init_37 : decode cX11_init 37 = .ok (.aload_n 0, 1) := by decide +kernel
theorem dX11_init_38 : decode cX11_init 38 = .ok (.new 30, 3) := by decide +kernel
theorem dX11_init_41 : decode cX11_init 41 = .ok (.dup, 1) := by decide +kernel
theorem dX11_init_42 : decode cX11_init 42 = .ok (.invokespecial 32, 3) := by decide +kernel
theorem dX11_init_45 : decode cX11_init 45 = .ok (.putfield 33, 3) := by decide +kernel
theorem dX11_init_48 : decode cX11_init 48 = .ok (.aload_n 0, 1) := by decide +kernel
theorem dX11_init_49 : decode cX11_init 49 = .ok (.new 37, 3) := by decide +kernel
theorem dX11_init_52 : decode cX11_init 52 = .ok (.dup, 1) := by decide +kernel
theorem dX11_init_53 : decode cX11_init 53 = .ok (.invokespecial 39, 3) := by decide +kernel
theorem dX11_init_56 : decode cX11_init 56 = .ok (.putfield 40, 3) := by decide +kernel
theorem dX11_init_59 : decode cX11_init 59 = .ok (.aload_n 0, 1) := by decide +kernel
theorem dX11_init_60 : decode cX11_init 60 = .ok (.aconst_null, 1) := by decide +kernel
theorem dX11_init_61 : decode cX11_init 61 = .ok (.putfield 44, 3) := by decide +kernel
theorem dX11_init_64 : decode cX11_init 64 = .ok (.aload_n 0, 1) := by decide +kernel
theorem dX11_init_65 : decode cX11_init 65 = .ok (.iconst 1, 1) := by decide +kernel
theorem dX11_init_66 : decode cX11_init 66 = .ok (.putfield 48, 3) := by decide +kernel
theorem dX11_init_69 : decode cX11_init 69 = .ok (.return_, 1) := by decide +kernel
theorem dX11_feed_0 : decode cX11_feed 0 = .ok (.aload_n 0, 1) := by decide +kernel
theorem dX11_feed_1 : decode cX11_feed 1 = .ok (.getfield 12, 3) := by decide +kernel
theorem dX11_feed_4 : decode cX11_feed 4 = .ok (.bipush 20, 2) := by decide +kernel
theorem dX11_feed_6 : decode cX11_feed 6 = .ok (.invokevirtual 52, 3) := by decide +kernel
theorem dX11_feed_9 : decode cX11_feed 9 = .ok (.ifCond .ne 5, 3) := by decide +kernel
theorem dX11_feed_12 : decode cX11_feed 12 = .ok (.iconst (-1), 1) := by decide +kernel
theorem dX11_feed_13 : decode cX11_feed 13 = .ok (.ireturn, 1) := by decide +kernel
theorem dX11_feed_14 : decode cX11_feed 14 = .ok (.aload_n 0, 1) := by decide +kernel
theorem dX11_feed_15 : decode cX11_feed 15 = .ok (.getfield 12, 3) := by decide +kernel
theorem dX11_feed_18 : decode cX11_feed 18 = .ok (.iload_n 1, 1) := by decide +kernel
theorem dX11_feed_19 : decode cX11_feed 19 = .ok (.invokevirtual 56, 3) := by decide +kernel
theorem dX11_feed_22 : decode cX11_feed 22 = .ok (.aload_n 0, 1) := by decide +kernel
theorem dX11_feed_23 : decode cX11_feed 23 = .ok (.getfield 12, 3) := by decide +kernel
theorem dX11_feed_26 : decode cX11_feed 26 = .ok (.iload_n 2, 1) := by decide +kernel
theorem dX11_feed_27 : decode cX11_feed 27 = .ok (.invokevirtual 56, 3) := by decide +kernel
theorem dX11_feed_30 : decode cX11_feed 30 = .ok (.aload_n 0, 1) := by decide +kernel
theorem dX11_feed_31 : decode cX11_feed 31 = .ok (.getfield 12, 3) := by decide +kernel
theorem dX11_feed_34 : decode cX11_feed 34 = .ok (.iload_n 3, 1) := by decide +kernel
theorem dX11_feed_35 : decode cX11_feed 35 = .ok (.invokevirtual 56, 3) := by decide +kernel
theorem dX11_feed_38 : decode cX11_feed 38 = .ok (.aload_n 0, 1) := by decide +kernel
theorem dX11_feed_39 : decode cX11_feed 39 = .ok (.getfield 12, 3) := by decide +kernel
theorem dX11_feed_42 : decode cX11_feed 42 = .ok (.iload 4, 2) := by decide +kernel
theorem dX11_feed_44 : decode cX11_feed 44 = .ok (.invokevirtual 56, 3) := by decide +kernel
theorem dX11_feed_47 : decode cX11_feed 47 = .ok (.aload_n 0, 1) := by decide +kernel
theorem dX11_feed_48 : decode cX11_feed 48 = .ok (.getfield 12, 3) := by decide +kernel
theorem dX11_feed_51 : decode cX11_feed 51 = .ok (.iload 5, 2) := by decide +kernel
theorem dX11_feed_53 : decode cX11_feed 53 = .ok (.invokevirtual 56, 3) := by decide +kernel
theorem dX11_feed_56 : decode cX11_feed 56 = .ok (.aload_n 0, 1) := by decide +kernel
theorem dX11_feed_57 : decode cX11_feed 57 = .ok (.getfield 12, 3) := by decide +kernel
theorem dX11_feed_60 : decode cX11_feed 60 = .ok (.getfield 60, 3) := by decide +kernel
theorem dX11_feed_63 : decode cX11_feed 63 = .ok (.ireturn, 1) := by decide +kernel
theorem dX11_end_0 : decode cX11_end 0 = .ok (.iload_n 1, 1) := by decide +kernel
theorem dX11_end_1 : decode cX11_end 1 = .ok (.iconst 0, 1) := by decide +kernel
theorem dX11_end_2 : decode cX11_end 2 = .ok (.aload_n 0, 1) := by decide +kernel
theorem dX11_end_3 : decode cX11_end 3 = .ok (.getfield 12, 3) := by decide +kernel
theorem dX11_end_6 : decode cX11_end 6 = .ok (.getfield 60, 3) := by decide +kernel
theorem dX11_end_9 : decode cX11_end 9 = .ok (.invokestatic 63, 3) := by decide +kernel
theorem dX11_end_12 : decode cX11_end 12 = .ok (.ifCond .ne 5, 3) := by decide +kernel
theorem dX11_end_15 : decode cX11_end 15 = .ok (.iconst (-1), 1) := by decide +kernel
theorem dX11_end_16 : decode cX11_end 16 = .ok (.ireturn, 1) := by decide +kernel
theorem dX11_end_17 : decode cX11_end 17 = .ok (.aload_n 0, 1) := by decide +kernel
theorem dX11_end_18 : decode cX11_end 18 = .ok (.getfield 12, 3) := by decide +kernel
theorem dX11_end_21 : decode cX11_end 21 = .ok (.iload_n 1, 1) := by decide +kernel
theorem dX11_end_22 : decode cX11_end 22 = .ok (.putfield 60, 3) := by decide +kernel
theorem dX11_end_25 : decode cX11_end 25 = .ok (.iload_n 1, 1) := by decide +kernel
theorem dX11_end_26 : decode cX11_end 26 = .ok (.ireturn, 1) := by decide +kernel
theorem dX11_form_0 : decode cX11_form 0 = .ok (.aload_n 0, 1) := by decide +kernel
theorem dX11_form_1 : decode cX11_form 1 = .ok (.getfield 19, 3) := by decide +kernel
theorem dX11_form_4 : decode cX11_form 4 = .ok (.getfield 67, 3) := by decide +kernel
theorem dX11_form_7 : decode cX11_form 7 = .ok (.bipush 40, 2) := by decide +kernel
theorem dX11_form_9 : decode cX11_form 9 = .ok (.if_icmp .ge 54, 3) := by decide +kernel
theorem dX11_form_12 : decode cX11_form 12 = .ok (.iload_n 1, 1) := by decide +kernel
theorem dX11_form_13 : decode cX11_form 13 = .ok (.invokestatic 70, 3) := by decide +kernel
theorem dX11_form_16 : decode cX11_form 16 = .ok (.ifCond .eq 47, 3) := by decide +kernel
theorem dX11_form_19 : decode cX11_form 19 = .ok (.iload_n 2, 1) := by decide +kernel
theorem dX11_form_20 : decode cX11_form 20 = .ok (.invokestatic 73, 3) := by decide +kernel
theorem dX11_form_23 : decode cX11_form 23 = .ok (.ifCond .eq 40, 3) := by decide +kernel
theorem dX11_form_26 : decode cX11_form 26 = .ok (.iload_n 3, 1) := by decide +kernel
theorem dX11_form_27 : decode cX11_form 27 = .ok (.invokestatic 76, 3) := by decide +kernel
theorem dX11_form_30 : decode cX11_form 30 = .ok (.ifCond .eq 33, 3) := by decide +kernel
theorem dX11_form_33 : decode cX11_form 33 = .ok (.aload_n 0, 1) := by decide +kernel
theorem dX11_form_34 : decode cX11_form 34 = .ok (.getfield 12, 3) := by decide +kernel
theorem dX11_form_37 : decode cX11_form 37 = .ok (.getfield 60, 3) := by decide +kernel
theorem dX11_form_40 : decode cX11_form 40 = .ok (.iconst 1, 1) := by decide +kernel
theorem dX11_form_41 : decode cX11_form 41 = .ok (.bipush 8, 2) := by decide +kernel
theorem dX11_form_43 : decode cX11_form 43 = .ok (.invokestatic 63, 3) := by decide +kernel
theorem dX11_form_46 : decode cX11_form 46 = .ok (.ifCond .eq 17, 3) := by decide +kernel
theorem dX11_form_49 : decode cX11_form 49 = .ok (.aload_n 0, 1) := by decide +kernel
theorem dX11_form_50 : decode cX11_form 50 = .ok (.getfield 12, 3) := by decide +kernel
theorem dX11_form_53 : decode cX11_form 53 = .ok (.invokevirtual 79, 3) := by decide +kernel
theorem dX11_form_56 : decode cX11_form 56 = .ok (.ifCond .eq 7, 3) := by decide +kernel
theorem dX11_form_59 : decode cX11_form 59 = .ok (.iconst 1, 1) := by decide +kernel
theorem dX11_form_60 : decode cX11_form 60 = .ok (.goto 4, 3) := by decide +kernel
theorem dX11_form_63 : decode cX11_form 63 = .ok (.iconst 0, 1) := by decide +kernel
theorem dX11_form_64 : decode cX11_form 64 = .ok (.istore 5, 2) := by decide +kernel
theorem dX11_form_66 : decode cX11_form 66 = .ok (.iconst (-1), 1) := by decide +kernel
theorem dX11_form_67 : decode cX11_form 67 = .ok (.istore 6, 2) := by decide +kernel
theorem dX11_form_69 : decode cX11_form 69 = .ok (.iload 5, 2) := by decide +kernel
theorem dX11_form_71 : decode cX11_form 71 = .ok (.ifCond .eq 28, 3) := by decide +kernel
theorem dX11_form_74 : decode cX11_form 74 = .ok (.aload_n 0, 1) := by decide +kernel
theorem dX11_form_75 : decode cX11_form 75 = .ok (.getfield 19, 3) := by decide +kernel
theorem dX11_form_78 : decode cX11_form 78 = .ok (.new 83, 3) := by decide +kernel
theorem dX11_form_81 : decode cX11_form 81 = .ok (.dup, 1) := by decide +kernel
theorem dX11_form_82 : decode cX11_form 82 = .ok (.aload_n 0, 1) := by decide +kernel
theorem dX11_form_83 : decode cX11_form 83 = .ok (.getfield 12, 3) := by decide +kernel
theorem dX11_form_86 : decode cX11_form 86 = .ok (.iload_n 1, 1) := by decide +kernel
theorem dX11_form_87 : decode cX11_form 87 = .ok (.iload_n 2, 1) := by decide +kernel
theorem dX11_form_88 : decode cX11_form 88 = .ok (.iload_n 3, 1) := by decide +kernel
theorem dX11_form_89 : decode cX11_form 89 = .ok (.iload 4, 2) := by decide +kernel
theorem dX11_form_91 : decode cX11_form 91 = .ok (.invokespecial 85, 3) := by decide +kernel
theorem dX11_form_94 : decode cX11_form 94 = .ok (.invokevirtual 88, 3) := by decide +kernel
theorem dX11_form_97 : decode cX11_form 97 = .ok (.istore 6, 2) := by decide +kernel
theorem dX11_form_99 : decode cX11_form 99 = .ok (.aload_n 0, 1) := by decide +kernel
theorem dX11_form_100 : decode cX11_form 100 = .ok (.getfield 12, 3) := by decide +kernel
theorem dX11_form_103 : decode cX11_form 103 = .ok (.iconst 0, 1) := by decide +kernel
theorem dX11_form_104 : decode cX11_form 104 = .ok (.putfield 60, 3) := by decide +kernel
theorem dX11_form_107 : decode cX11_form 107 = .ok (.iload 6, 2) := by decide +kernel
theorem dX11_form_109 : decode cX11_form 109 = .ok (.ireturn, 1) := by decide +kernel
theorem dX11_rule_0 : decode cX11_rule 0 = .ok (.aload_n 0, 1) := by decide +kernel
theorem dX11_rule_1 : decode cX11_rule 1 = .ok (.getfield 19, 3) := by decide +kernel
theorem dX11_rule_4 : decode cX11_rule 4 = .ok (.getfield 92, 3) := by decide +kernel
theorem dX11_rule_7 : decode cX11_rule 7 = .ok (.bipush 24, 2) := by decide +kernel
theorem dX11_rule_9 : decode cX11_rule 9 = .ok (.if_icmp .ge 90, 3) := by decide +kernel
theorem dX11_rule_12 : decode cX11_rule 12 = .ok (.iload_n 1, 1) := by decide +kernel
theorem dX11_rule_13 : decode cX11_rule 13 = .ok (.iconst 0, 1) := by decide +kernel
theorem dX11_rule_14 : decode cX11_rule 14 = .ok (.iconst 3, 1) := by decide +kernel
theorem dX11_rule_15 : decode cX11_rule 15 = .ok (.invokestatic 63, 3) := by decide +kernel
theorem dX11_rule_18 : decode cX11_rule 18 = .ok (.ifCond .eq 81, 3) := by decide +kernel
theorem dX11_rule_21 : decode cX11_rule 21 = .ok (.iload_n 2, 1) := by decide +kernel
theorem dX11_rule_22 : decode cX11_rule 22 = .ok (.iconst 0, 1) := by decide +kernel
theorem dX11_rule_23 : decode cX11_rule 23 = .ok (.iconst 3, 1) := by decide +kernel
theorem dX11_rule_24 : decode cX11_rule 24 = .ok (.invokestatic 63, 3) := by decide +kernel
theorem dX11_rule_27 : decode cX11_rule 27 = .ok (.ifCond .eq 72, 3) := by decide +kernel
theorem dX11_rule_30 : decode cX11_rule 30 = .ok (.iload_n 1, 1) := by decide +kernel
theorem dX11_rule_31 : decode cX11_rule 31 = .ok (.iload_n 2, 1) := by decide +kernel
theorem dX11_rule_32 : decode cX11_rule 32 = .ok (.iadd, 1) := by decide +kernel
theorem dX11_rule_33 : decode cX11_rule 33 = .ok (.ifCond .le 66, 3) := by decide +kernel
theorem dX11_rule_36 : decode cX11_rule 36 = .ok (.aload_n 0, 1) := by decide +kernel
theorem dX11_rule_37 : decode cX11_rule 37 = .ok (.getfield 12, 3) := by decide +kernel
theorem dX11_rule_40 : decode cX11_rule 40 = .ok (.getfield 60, 3) := by decide +kernel
theorem dX11_rule_43 : decode cX11_rule 43 = .ok (.iload_n 1, 1) := by decide +kernel
theorem dX11_rule_44 : decode cX11_rule 44 = .ok (.isub, 1) := by decide +kernel
theorem dX11_rule_45 : decode cX11_rule 45 = .ok (.iload_n 2, 1) := by decide +kernel
theorem dX11_rule_46 : decode cX11_rule 46 = .ok (.isub, 1) := by decide +kernel
theorem dX11_rule_47 : decode cX11_rule 47 = .ok (.iconst 0, 1) := by decide +kernel
theorem dX11_rule_48 : decode cX11_rule 48 = .ok (.iconst 4, 1) := by decide +kernel
theorem dX11_rule_49 : decode cX11_rule 49 = .ok (.invokestatic 63, 3) := by decide +kernel
theorem dX11_rule_52 : decode cX11_rule 52 = .ok (.ifCond .eq 47, 3) := by decide +kernel
theorem dX11_rule_55 : decode cX11_rule 55 = .ok (.aload_n 0, 1) := by decide +kernel
theorem dX11_rule_56 : decode cX11_rule 56 = .ok (.getfield 12, 3) := by decide +kernel
theorem dX11_rule_59 : decode cX11_rule 59 = .ok (.invokevirtual 79, 3) := by decide +kernel
theorem dX11_rule_62 : decode cX11_rule 62 = .ok (.ifCond .eq 37, 3) := by decide +kernel
theorem dX11_rule_65 : decode cX11_rule 65 = .ok (.iload_n 3, 1) := by decide +kernel
theorem dX11_rule_66 : decode cX11_rule 66 = .ok (.invokestatic 76, 3) := by decide +kernel
theorem dX11_rule_69 : decode cX11_rule 69 = .ok (.ifCond .eq 30, 3) := by decide +kernel
theorem dX11_rule_72 : decode cX11_rule 72 = .ok (.iload 4, 2) := by decide +kernel
theorem dX11_rule_74 : decode cX11_rule 74 = .ok (.invokestatic 95, 3) := by decide +kernel
theorem dX11_rule_77 : decode cX11_rule 77 = .ok (.ifCond .eq 22, 3) := by decide +kernel
theorem dX11_rule_80 : decode cX11_rule 80 = .ok (.iload 5, 2) := by decide +kernel
theorem dX11_rule_82 : decode cX11_rule 82 = .ok (.invokestatic 95, 3) := by decide +kernel
theorem dX11_rule_85 : decode cX11_rule 85 = .ok (.ifCond .eq 14, 3) := by decide +kernel
theorem dX11_rule_88 : decode cX11_rule 88 = .ok (.iload 4, 2) := by decide +kernel
theorem dX11_rule_90 : decode cX11_rule 90 = .ok (.iload 5, 2) := by decide +kernel
theorem dX11_rule_92 : decode cX11_rule 92 = .ok (.if_icmp .gt 7, 3) := by decide +kernel
theorem dX11_rule_95 : decode cX11_rule 95 = .ok (.iconst 1, 1) := by decide +kernel
theorem dX11_rule_96 : decode cX11_rule 96 = .ok (.goto 4, 3) := by decide +kernel
theorem dX11_rule_99 : decode cX11_rule 99 = .ok (.iconst 0, 1) := by decide +kernel
theorem dX11_rule_100 : decode cX11_rule 100 = .ok (.istore 6, 2) := by decide +kernel
theorem dX11_rule_102 : decode cX11_rule 102 = .ok (.iconst (-1), 1) := by decide +kernel
theorem dX11_rule_103 : decode cX11_rule 103 = .ok (.istore 7, 2) := by decide +kernel
theorem dX11_rule_105 : decode cX11_rule 105 = .ok (.iload 6, 2) := by decide +kernel
theorem dX11_rule_107 : decode cX11_rule 107 = .ok (.ifCond .eq 30, 3) := by decide +kernel
theorem dX11_rule_110 : decode cX11_rule 110 = .ok (.aload_n 0, 1) := by decide +kernel
theorem dX11_rule_111 : decode cX11_rule 111 = .ok (.getfield 19, 3) := by decide +kernel
theorem dX11_rule_114 : decode cX11_rule 114 = .ok (.new 98, 3) := by decide +kernel
theorem dX11_rule_117 : decode cX11_rule 117 = .ok (.dup, 1) := by decide +kernel
theorem dX11_rule_118 : decode cX11_rule 118 = .ok (.aload_n 0, 1) := by decide +kernel
theorem dX11_rule_119 : decode cX11_rule 119 = .ok (.getfield 12, 3) := by decide +kernel
theorem dX11_rule_122 : decode cX11_rule 122 = .ok (.iload_n 1, 1) := by decide +kernel
theorem dX11_rule_123 : decode cX11_rule 123 = .ok (.iload_n 2, 1) := by decide +kernel
theorem dX11_rule_124 : decode cX11_rule 124 = .ok (.iload_n 3, 1) := by decide +kernel
theorem dX11_rule_125 : decode cX11_rule 125 = .ok (.iload 4, 2) := by decide +kernel
theorem dX11_rule_127 : decode cX11_rule 127 = .ok (.iload 5, 2) := by decide +kernel
theorem dX11_rule_129 : decode cX11_rule 129 = .ok (.invokespecial 100, 3) := by decide +kernel
theorem dX11_rule_132 : decode cX11_rule 132 = .ok (.invokevirtual 103, 3) := by decide +kernel
theorem dX11_rule_135 : decode cX11_rule 135 = .ok (.istore 7, 2) := by decide +kernel
theorem dX11_rule_137 : decode cX11_rule 137 = .ok (.aload_n 0, 1) := by decide +kernel
theorem dX11_rule_138 : decode cX11_rule 138 = .ok (.getfield 12, 3) := by decide +kernel
theorem dX11_rule_141 : decode cX11_rule 141 = .ok (.iconst 0, 1) := by decide +kernel
theorem dX11_rule_142 : decode cX11_rule 142 = .ok (.putfield 60, 3) := by decide +kernel
theorem dX11_rule_145 : decode cX11_rule 145 = .ok (.iload 7, 2) := by decide +kernel
theorem dX11_rule_147 : decode cX11_rule 147 = .ok (.ireturn, 1) := by decide +kernel
theorem dX11_cost_0 : decode cX11_cost 0 = .ok (.aload_n 0, 1) := by decide +kernel
theorem dX11_cost_1 : decode cX11_cost 1 = .ok (.getfield 19, 3) := by decide +kernel
theorem dX11_cost_4 : decode cX11_cost 4 = .ok (.iload_n 1, 1) := by decide +kernel
theorem dX11_cost_5 : decode cX11_cost 5 = .ok (.invokevirtual 107, 3) := by decide +kernel
theorem dX11_cost_8 : decode cX11_cost 8 = .ok (.astore_n 3, 1) := by decide +kernel
theorem dX11_cost_9 : decode cX11_cost 9 = .ok (.aload_n 3, 1) := by decide +kernel
theorem dX11_cost_10 : decode cX11_cost 10 = .ok (.ifnull 10, 3) := by decide +kernel
theorem dX11_cost_13 : decode cX11_cost 13 = .ok (.iload_n 2, 1) := by decide +kernel
theorem dX11_cost_14 : decode cX11_cost 14 = .ok (.invokestatic 76, 3) := by decide +kernel
theorem dX11_cost_17 : decode cX11_cost 17 = .ok (.ifCond .ne 5, 3) := by decide +kernel
theorem dX11_cost_20 : decode cX11_cost 20 = .ok (.iconst (-1), 1) := by decide +kernel
theorem dX11_cost_21 : decode cX11_cost 21 = .ok (.ireturn, 1) := by decide +kernel
theorem dX11_cost_22 : decode cX11_cost 22 = .ok (.aload_n 3, 1) := by decide +kernel
theorem dX11_cost_23 : decode cX11_cost 23 = .ok (.getfield 111, 3) := by decide +kernel
theorem dX11_cost_26 : decode cX11_cost 26 = .ok (.istore 4, 2) := by decide +kernel
theorem dX11_cost_28 : decode cX11_cost 28 = .ok (.aload_n 3, 1) := by decide +kernel
theorem dX11_cost_29 : decode cX11_cost 29 = .ok (.iload_n 2, 1) := by decide +kernel
theorem dX11_cost_30 : decode cX11_cost 30 = .ok (.putfield 111, 3) := by decide +kernel
theorem dX11_cost_33 : decode cX11_cost 33 = .ok (.iload 4, 2) := by decide +kernel
theorem dX11_cost_35 : decode cX11_cost 35 = .ok (.ireturn, 1) := by decide +kernel
theorem dX11_meets_0 : decode cX11_meets 0 = .ok (.iload_n 1, 1) := by decide +kernel
theorem dX11_meets_1 : decode cX11_meets 1 = .ok (.invokestatic 70, 3) := by decide +kernel
theorem dX11_meets_4 : decode cX11_meets 4 = .ok (.ifCond .eq 10, 3) := by decide +kernel
theorem dX11_meets_7 : decode cX11_meets 7 = .ok (.iload_n 2, 1) := by decide +kernel
theorem dX11_meets_8 : decode cX11_meets 8 = .ok (.invokestatic 70, 3) := by decide +kernel
theorem dX11_meets_11 : decode cX11_meets 11 = .ok (.ifCond .ne 5, 3) := by decide +kernel
theorem dX11_meets_14 : decode cX11_meets 14 = .ok (.iconst 0, 1) := by decide +kernel
theorem dX11_meets_15 : decode cX11_meets 15 = .ok (.ireturn, 1) := by decide +kernel
theorem dX11_meets_16 : decode cX11_meets 16 = .ok (.aload_n 0, 1) := by decide +kernel
theorem dX11_meets_17 : decode cX11_meets 17 = .ok (.getfield 19, 3) := by decide +kernel
theorem dX11_meets_20 : decode cX11_meets 20 = .ok (.iload_n 1, 1) := by decide +kernel
theorem dX11_meets_21 : decode cX11_meets 21 = .ok (.iload_n 2, 1) := by decide +kernel
theorem dX11_meets_22 : decode cX11_meets 22 = .ok (.iload_n 3, 1) := by decide +kernel
theorem dX11_meets_23 : decode cX11_meets 23 = .ok (.invokevirtual 114, 3) := by decide +kernel
theorem dX11_meets_26 : decode cX11_meets 26 = .ok (.ireturn, 1) := by decide +kernel
theorem dX11_becomes_0 : decode cX11_becomes 0 = .ok (.iload_n 1, 1) := by decide +kernel
theorem dX11_becomes_1 : decode cX11_becomes 1 = .ok (.invokestatic 70, 3) := by decide +kernel
theorem dX11_becomes_4 : decode cX11_becomes 4 = .ok (.ifCond .eq 22, 3) := by decide +kernel
theorem dX11_becomes_7 : decode cX11_becomes 7 = .ok (.iload_n 2, 1) := by decide +kernel
theorem dX11_becomes_8 : decode cX11_becomes 8 = .ok (.invokestatic 70, 3) := by decide +kernel
theorem dX11_becomes_11 : decode cX11_becomes 11 = .ok (.ifCond .eq 15, 3) := by decide +kernel
theorem dX11_becomes_14 : decode cX11_becomes 14 = .ok (.iload_n 3, 1) := by decide +kernel
theorem dX11_becomes_15 : decode cX11_becomes 15 = .ok (.iconst (-1), 1) := by decide +kernel
theorem dX11_becomes_16 : decode cX11_becomes 16 = .ok (.if_icmp .eq 13, 3) := by decide +kernel
theorem dX11_becomes_19 : decode cX11_becomes 19 = .ok (.iload_n 3, 1) := by decide +kernel
theorem dX11_becomes_20 : decode cX11_becomes 20 = .ok (.invokestatic 70, 3) := by decide +kernel
theorem dX11_becomes_23 : decode cX11_becomes 23 = .ok (.ifCond .ne 6, 3) := by decide +kernel
theorem dX11_becomes_26 : decode cX11_becomes 26 = .ok (.bipush (-2), 2) := by decide +kernel
theorem dX11_becomes_28 : decode cX11_becomes 28 = .ok (.ireturn, 1) := by decide +kernel
theorem dX11_becomes_29 : decode cX11_becomes 29 = .ok (.aload_n 0, 1) := by decide +kernel
theorem dX11_becomes_30 : decode cX11_becomes 30 = .ok (.getfield 33, 3) := by decide +kernel
theorem dX11_becomes_33 : decode cX11_becomes 33 = .ok (.iload_n 1, 1) := by decide +kernel
theorem dX11_becomes_34 : decode cX11_becomes 34 = .ok (.iload_n 2, 1) := by decide +kernel
theorem dX11_becomes_35 : decode cX11_becomes 35 = .ok (.iload_n 3, 1) := by decide +kernel
theorem dX11_becomes_36 : decode cX11_becomes 36 = .ok (.invokevirtual 118, 3) := by decide +kernel
theorem dX11_becomes_39 : decode cX11_becomes 39 = .ok (.ireturn, 1) := by decide +kernel
theorem dX11_fits_0 : decode cX11_fits 0 = .ok (.aload_n 0, 1) := by decide +kernel
theorem dX11_fits_1 : decode cX11_fits 1 = .ok (.iload_n 1, 1) := by decide +kernel
theorem dX11_fits_2 : decode cX11_fits 2 = .ok (.iload_n 2, 1) := by decide +kernel
theorem dX11_fits_3 : decode cX11_fits 3 = .ok (.iload_n 3, 1) := by decide +kernel
theorem dX11_fits_4 : decode cX11_fits 4 = .ok (.invokevirtual 122, 3) := by decide +kernel
theorem dX11_fits_7 : decode cX11_fits 7 = .ok (.istore 4, 2) := by decide +kernel
theorem dX11_fits_9 : decode cX11_fits 9 = .ok (.iload 4, 2) := by decide +kernel
theorem dX11_fits_11 : decode cX11_fits 11 = .ok (.iconst (-1), 1) := by decide +kernel
theorem dX11_fits_12 : decode cX11_fits 12 = .ok (.if_icmp .ne 7, 3) := by decide +kernel
theorem dX11_fits_15 : decode cX11_fits 15 = .ok (.iconst (-1), 1) := by decide +kernel
theorem dX11_fits_16 : decode cX11_fits 16 = .ok (.goto 8, 3) := by decide +kernel
theorem dX11_fits_19 : decode cX11_fits 19 = .ok (.iload 4, 2) := by decide +kernel
theorem dX11_fits_21 : decode cX11_fits 21 = .ok (.invokestatic 125, 3) := by decide +kernel
theorem dX11_fits_24 : decode cX11_fits 24 = .ok (.ireturn, 1) := by decide +kernel
theorem dX11_fitting_0 : decode cX11_fitting 0 = .ok (.aload_n 0, 1) := by decide +kernel
theorem dX11_fitting_1 : decode cX11_fitting 1 = .ok (.iload_n 1, 1) := by decide +kernel
theorem dX11_fitting_2 : decode cX11_fitting 2 = .ok (.iload_n 2, 1) := by decide +kernel
theorem dX11_fitting_3 : decode cX11_fitting 3 = .ok (.iload_n 3, 1) := by decide +kernel
theorem dX11_fitting_4 : decode cX11_fitting 4 = .ok (.invokevirtual 122, 3) := by decide +kernel
theorem dX11_fitting_7 : decode cX11_fitting 7 = .ok (.istore 5, 2) := by decide +kernel
theorem dX11_fitting_9 : decode cX11_fitting 9 = .ok (.iload 5, 2) := by decide +kernel
theorem dX11_fitting_11 : decode cX11_fitting 11 = .ok (.iconst (-1), 1) := by decide +kernel
theorem dX11_fitting_12 : decode cX11_fitting 12 = .ok (.if_icmp .ne 5, 3) := by decide +kernel
theorem dX11_fitting_15 : decode cX11_fitting 15 = .ok (.iconst (-1), 1) := by decide +kernel
theorem dX11_fitting_16 : decode cX11_fitting 16 = .ok (.ireturn, 1) := by decide +kernel
theorem dX11_fitting_17 : decode cX11_fitting 17 = .ok (.iconst 0, 1) := by decide +kernel
theorem dX11_fitting_18 : decode cX11_fitting 18 = .ok (.istore 6, 2) := by decide +kernel
theorem dX11_fitting_20 : decode cX11_fitting 20 = .ok (.iconst 0, 1) := by decide +kernel
theorem dX11_fitting_21 : decode cX11_fitting 21 = .ok (.istore 7, 2) := by decide +kernel
theorem dX11_fitting_23 : decode cX11_fitting 23 = .ok (.iload 7, 2) := by decide +kernel
theorem dX11_fitting_25 : decode cX11_fitting 25 = .ok (.bipush 24, 2) := by decide +kernel
theorem dX11_fitting_27 : decode cX11_fitting 27 = .ok (.if_icmp .ge 35, 3) := by decide +kernel
theorem dX11_fitting_30 : decode cX11_fitting 30 = .ok (.iload 5, 2) := by decide +kernel
theorem dX11_fitting_32 : decode cX11_fitting 32 = .ok (.iload 7, 2) := by decide +kernel
theorem dX11_fitting_34 : decode cX11_fitting 34 = .ok (.invokestatic 131, 3) := by decide +kernel
theorem dX11_fitting_37 : decode cX11_fitting 37 = .ok (.ifCond .ne 6, 3) := by decide +kernel
theorem dX11_fitting_40 : decode cX11_fitting 40 = .ok (.goto 16, 3) := by decide +kernel
theorem dX11_fitting_43 : decode cX11_fitting 43 = .ok (.iload 6, 2) := by decide +kernel
theorem dX11_fitting_45 : decode cX11_fitting 45 = .ok (.iload 4, 2) := by decide +kernel
theorem dX11_fitting_47 : decode cX11_fitting 47 = .ok (.if_icmp .ne 6, 3) := by decide +kernel
theorem dX11_fitting_50 : decode cX11_fitting 50 = .ok (.iload 7, 2) := by decide +kernel
theorem dX11_fitting_52 : decode cX11_fitting 52 = .ok (.ireturn, 1) := by decide +kernel
theorem dX11_fitting_53 : decode cX11_fitting 53 = .ok (.iinc 6 1, 3) := by decide +kernel
theorem dX11_fitting_56 : decode cX11_fitting 56 = .ok (.iinc 7 1, 3) := by decide +kernel
theorem dX11_fitting_59 : decode cX11_fitting 59 = .ok (.goto (-36), 3) := by decide +kernel
theorem dX11_fitting_62 : decode cX11_fitting 62 = .ok (.iconst (-1), 1) := by decide +kernel
theorem dX11_fitting_63 : decode cX11_fitting 63 = .ok (.ireturn, 1) := by decide +kernel
theorem dX11_row_0 : decode cX11_row 0 = .ok (.iload_n 1, 1) := by decide +kernel
theorem dX11_row_1 : decode cX11_row 1 = .ok (.invokestatic 95, 3) := by decide +kernel
theorem dX11_row_4 : decode cX11_row 4 = .ok (.ifCond .ne 5, 3) := by decide +kernel
theorem dX11_row_7 : decode cX11_row 7 = .ok (.iconst (-1), 1) := by decide +kernel
theorem dX11_row_8 : decode cX11_row 8 = .ok (.ireturn, 1) := by decide +kernel
theorem dX11_row_9 : decode cX11_row 9 = .ok (.aload_n 0, 1) := by decide +kernel
theorem dX11_row_10 : decode cX11_row 10 = .ok (.getfield 26, 3) := by decide +kernel
theorem dX11_row_13 : decode cX11_row 13 = .ok (.getfield 135, 3) := by decide +kernel
theorem dX11_row_16 : decode cX11_row 16 = .ok (.getfield 139, 3) := by decide +kernel
theorem dX11_row_19 : decode cX11_row 19 = .ok (.istore_n 2, 1) := by decide +kernel
theorem dX11_row_20 : decode cX11_row 20 = .ok (.aload_n 0, 1) := by decide +kernel
theorem dX11_row_21 : decode cX11_row 21 = .ok (.getfield 26, 3) := by decide +kernel
theorem dX11_row_24 : decode cX11_row 24 = .ok (.getfield 135, 3) := by decide +kernel
theorem dX11_row_27 : decode cX11_row 27 = .ok (.iconst 0, 1) := by decide +kernel
theorem dX11_row_28 : decode cX11_row 28 = .ok (.putfield 139, 3) := by decide +kernel
theorem dX11_row_31 : decode cX11_row 31 = .ok (.aload_n 0, 1) := by decide +kernel
theorem dX11_row_32 : decode cX11_row 32 = .ok (.getfield 26, 3) := by decide +kernel
theorem dX11_row_35 : decode cX11_row 35 = .ok (.iload_n 1, 1) := by decide +kernel
theorem dX11_row_36 : decode cX11_row 36 = .ok (.putfield 142, 3) := by decide +kernel
theorem dX11_row_39 : decode cX11_row 39 = .ok (.iload_n 2, 1) := by decide +kernel
theorem dX11_row_40 : decode cX11_row 40 = .ok (.ireturn, 1) := by decide +kernel
theorem dX11_joins_0 : decode cX11_joins 0 = .ok (.aload_n 0, 1) := by decide +kernel
theorem dX11_joins_1 : decode cX11_joins 1 = .ok (.getfield 19, 3) := by decide +kernel
theorem dX11_joins_4 : decode cX11_joins 4 = .ok (.iload_n 1, 1) := by decide +kernel
theorem dX11_joins_5 : decode cX11_joins 5 = .ok (.invokevirtual 107, 3) := by decide +kernel
theorem dX11_joins_8 : decode cX11_joins 8 = .ok (.astore_n 3, 1) := by decide +kernel
theorem dX11_joins_9 : decode cX11_joins 9 = .ok (.aload_n 3, 1) := by decide +kernel
theorem dX11_joins_10 : decode cX11_joins 10 = .ok (.ifnull 18, 3) := by decide +kernel
theorem dX11_joins_13 : decode cX11_joins 13 = .ok (.aload_n 0, 1) := by decide +kernel
theorem dX11_joins_14 : decode cX11_joins 14 = .ok (.getfield 26, 3) := by decide +kernel
theorem dX11_joins_17 : decode cX11_joins 17 = .ok (.getfield 135, 3) := by decide +kernel
theorem dX11_joins_20 : decode cX11_joins 20 = .ok (.getfield 139, 3) := by decide +kernel
theorem dX11_joins_23 : decode cX11_joins 23 = .ok (.bipush 40, 2) := by decide +kernel
theorem dX11_joins_25 : decode cX11_joins 25 = .ok (.if_icmp .lt 5, 3) := by decide +kernel
theorem dX11_joins_28 : decode cX11_joins 28 = .ok (.iconst (-1), 1) := by decide +kernel
theorem dX11_joins_29 : decode cX11_joins 29 = .ok (.ireturn, 1) := by decide +kernel
theorem dX11_joins_30 : decode cX11_joins 30 = .ok (.aload_n 0, 1) := by decide +kernel
theorem dX11_joins_31 : decode cX11_joins 31 = .ok (.getfield 26, 3) := by decide +kernel
theorem dX11_joins_34 : decode cX11_joins 34 = .ok (.getfield 135, 3) := by decide +kernel
theorem dX11_joins_37 : decode cX11_joins 37 = .ok (.invokevirtual 145, 3) := by decide +kernel
theorem dX11_joins_40 : decode cX11_joins 40 = .ok (.astore 4, 2) := by decide +kernel
theorem dX11_joins_42 : decode cX11_joins 42 = .ok (.aload 4, 2) := by decide +kernel
theorem dX11_joins_44 : decode cX11_joins 44 = .ok (.ifnonnull 26, 3) := by decide +kernel
theorem dX11_joins_47 : decode cX11_joins 47 = .ok (.aload_n 0, 1) := by decide +kernel
theorem dX11_joins_48 : decode cX11_joins 48 = .ok (.getfield 26, 3) := by decide +kernel
theorem dX11_joins_51 : decode cX11_joins 51 = .ok (.getfield 135, 3) := by decide +kernel
theorem dX11_joins_54 : decode cX11_joins 54 = .ok (.aload_n 3, 1) := by decide +kernel
theorem dX11_joins_55 : decode cX11_joins 55 = .ok (.aconst_null, 1) := by decide +kernel
theorem dX11_joins_56 : decode cX11_joins 56 = .ok (.invokevirtual 149, 3) := by decide +kernel
theorem dX11_joins_59 : decode cX11_joins 59 = .ok (.aload_n 0, 1) := by decide +kernel
theorem dX11_joins_60 : decode cX11_joins 60 = .ok (.getfield 26, 3) := by decide +kernel
theorem dX11_joins_63 : decode cX11_joins 63 = .ok (.getfield 135, 3) := by decide +kernel
theorem dX11_joins_66 : decode cX11_joins 66 = .ok (.getfield 139, 3) := by decide +kernel
theorem dX11_joins_69 : decode cX11_joins 69 = .ok (.ireturn, 1) := by decide +kernel
theorem dX11_joins_70 : decode cX11_joins 70 = .ok (.aload_n 0, 1) := by decide +kernel
theorem dX11_joins_71 : decode cX11_joins 71 = .ok (.aload 4, 2) := by decide +kernel
theorem dX11_joins_73 : decode cX11_joins 73 = .ok (.aload_n 3, 1) := by decide +kernel
theorem dX11_joins_74 : decode cX11_joins 74 = .ok (.iload_n 2, 1) := by decide +kernel
theorem dX11_joins_75 : decode cX11_joins 75 = .ok (.invokevirtual 153, 3) := by decide +kernel
theorem dX11_joins_78 : decode cX11_joins 78 = .ok (.ifCond .ne 5, 3) := by decide +kernel
theorem dX11_joins_81 : decode cX11_joins 81 = .ok (.iconst (-1), 1) := by decide +kernel
theorem dX11_joins_82 : decode cX11_joins 82 = .ok (.ireturn, 1) := by decide +kernel
theorem dX11_joins_83 : decode cX11_joins 83 = .ok (.aload_n 0, 1) := by decide +kernel
theorem dX11_joins_84 : decode cX11_joins 84 = .ok (.getfield 26, 3) := by decide +kernel
theorem dX11_joins_87 : decode cX11_joins 87 = .ok (.getfield 135, 3) := by decide +kernel
theorem dX11_joins_90 : decode cX11_joins 90 = .ok (.aload_n 3, 1) := by decide +kernel
theorem dX11_joins_91 : decode cX11_joins 91 = .ok (.aload_n 0, 1) := by decide +kernel
theorem dX11_joins_92 : decode cX11_joins 92 = .ok (.getfield 19, 3) := by decide +kernel
theorem dX11_joins_95 : decode cX11_joins 95 = .ok (.iload_n 2, 1) := by decide +kernel
theorem dX11_joins_96 : decode cX11_joins 96 = .ok (.invokevirtual 157, 3) := by decide +kernel
theorem dX11_joins_99 : decode cX11_joins 99 = .ok (.invokevirtual 149, 3) := by decide +kernel
theorem dX11_joins_102 : decode cX11_joins 102 = .ok (.aload_n 0, 1) := by decide +kernel
theorem dX11_joins_103 : decode cX11_joins 103 = .ok (.getfield 26, 3) := by decide +kernel
theorem dX11_joins_106 : decode cX11_joins 106 = .ok (.getfield 135, 3) := by decide +kernel
theorem dX11_joins_109 : decode cX11_joins 109 = .ok (.getfield 139, 3) := by decide +kernel
theorem dX11_joins_112 : decode cX11_joins 112 = .ok (.ireturn, 1) := by decide +kernel
theorem dX11_joined_0 : decode cX11_joined 0 = .ok (.aload_n 0, 1) := by decide +kernel
theorem dX11_joined_1 : decode cX11_joined 1 = .ok (.getfield 26, 3) := by decide +kernel
theorem dX11_joined_4 : decode cX11_joined 4 = .ok (.invokevirtual 161, 3) := by decide +kernel
theorem dX11_joined_7 : decode cX11_joined 7 = .ok (.aload_n 0, 1) := by decide +kernel
theorem dX11_joined_8 : decode cX11_joined 8 = .ok (.getfield 26, 3) := by decide +kernel
theorem dX11_joined_11 : decode cX11_joined 11 = .ok (.getfield 164, 3) := by decide +kernel
theorem dX11_joined_14 : decode cX11_joined 14 = .ok (.ireturn, 1) := by decide +kernel
theorem dX11_letter_0 : decode cX11_letter 0 = .ok (.iload_n 1, 1) := by decide +kernel
theorem dX11_letter_1 : decode cX11_letter 1 = .ok (.ifCond .lt 26, 3) := by decide +kernel
theorem dX11_letter_4 : decode cX11_letter 4 = .ok (.iload_n 1, 1) := by decide +kernel
theorem dX11_letter_5 : decode cX11_letter 5 = .ok (.aload_n 0, 1) := by decide +kernel
theorem dX11_letter_6 : decode cX11_letter 6 = .ok (.getfield 26, 3) := by decide +kernel
theorem dX11_letter_9 : decode cX11_letter 9 = .ok (.getfield 164, 3) := by decide +kernel
theorem dX11_letter_12 : decode cX11_letter 12 = .ok (.if_icmp .ge 15, 3) := by decide +kernel
theorem dX11_letter_15 : decode cX11_letter 15 = .ok (.aload_n 0, 1) := by decide +kernel
theorem dX11_letter_16 : decode cX11_letter 16 = .ok (.getfield 26, 3) := by decide +kernel
theorem dX11_letter_19 : decode cX11_letter 19 = .ok (.getfield 167, 3) := by decide +kernel
theorem dX11_letter_22 : decode cX11_letter 22 = .ok (.iload_n 1, 1) := by decide +kernel
theorem dX11_letter_23 : decode cX11_letter 23 = .ok (.baload, 1) := by decide +kernel
theorem dX11_letter_24 : decode cX11_letter 24 = .ok (.goto 4, 3) := by decide +kernel
theorem dX11_letter_27 : decode cX11_letter 27 = .ok (.iconst (-1), 1) := by decide +kernel
theorem dX11_letter_28 : decode cX11_letter 28 = .ok (.ireturn, 1) := by decide +kernel
theorem dX11_back_0 : decode cX11_back 0 = .ok (.aload_n 0, 1) := by decide +kernel
theorem dX11_back_1 : decode cX11_back 1 = .ok (.getfield 12, 3) := by decide +kernel
theorem dX11_back_4 : decode cX11_back 4 = .ok (.aload_n 0, 1) := by decide +kernel
theorem dX11_back_5 : decode cX11_back 5 = .ok (.getfield 26, 3) := by decide +kernel
theorem dX11_back_8 : decode cX11_back 8 = .ok (.getfield 164, 3) := by decide +kernel
theorem dX11_back_11 : decode cX11_back 11 = .ok (.invokevirtual 52, 3) := by decide +kernel
theorem dX11_back_14 : decode cX11_back 14 = .ok (.ifCond .ne 5, 3) := by decide +kernel
theorem dX11_back_17 : decode cX11_back 17 = .ok (.iconst (-1), 1) := by decide +kernel
theorem dX11_back_18 : decode cX11_back 18 = .ok (.ireturn, 1) := by decide +kernel
theorem dX11_back_19 : decode cX11_back 19 = .ok (.iconst 0, 1) := by decide +kernel
theorem dX11_back_20 : decode cX11_back 20 = .ok (.istore_n 1, 1) := by decide +kernel
theorem dX11_back_21 : decode cX11_back 21 = .ok (.iload_n 1, 1) := by decide +kernel
theorem dX11_back_22 : decode cX11_back 22 = .ok (.aload_n 0, 1) := by decide +kernel
theorem dX11_back_23 : decode cX11_back 23 = .ok (.getfield 26, 3) := by decide +kernel
theorem dX11_back_26 : decode cX11_back 26 = .ok (.getfield 164, 3) := by decide +kernel
theorem dX11_back_29 : decode cX11_back 29 = .ok (.if_icmp .ge 25, 3) := by decide +kernel
theorem dX11_back_32 : decode cX11_back 32 = .ok (.aload_n 0, 1) := by decide +kernel
theorem dX11_back_33 : decode cX11_back 33 = .ok (.getfield 12, 3) := by decide +kernel
theorem dX11_back_36 : decode cX11_back 36 = .ok (.aload_n 0, 1) := by decide +kernel
theorem dX11_back_37 : decode cX11_back 37 = .ok (.getfield 26, 3) := by decide +kernel
theorem dX11_back_40 : decode cX11_back 40 = .ok (.getfield 167, 3) := by decide +kernel
theorem dX11_back_43 : decode cX11_back 43 = .ok (.iload_n 1, 1) := by decide +kernel
theorem dX11_back_44 : decode cX11_back 44 = .ok (.baload, 1) := by decide +kernel
theorem dX11_back_45 : decode cX11_back 45 = .ok (.invokevirtual 171, 3) := by decide +kernel
theorem dX11_back_48 : decode cX11_back 48 = .ok (.iinc 1 1, 3) := by decide +kernel
theorem dX11_back_51 : decode cX11_back 51 = .ok (.goto (-30), 3) := by decide +kernel
theorem dX11_back_54 : decode cX11_back 54 = .ok (.aload_n 0, 1) := by decide +kernel
theorem dX11_back_55 : decode cX11_back 55 = .ok (.getfield 12, 3) := by decide +kernel
theorem dX11_back_58 : decode cX11_back 58 = .ok (.getfield 60, 3) := by decide +kernel
theorem dX11_back_61 : decode cX11_back 61 = .ok (.ireturn, 1) := by decide +kernel
theorem dX11_part_0 : decode cX11_part 0 = .ok (.aload_n 0, 1) := by decide +kernel
theorem dX11_part_1 : decode cX11_part 1 = .ok (.getfield 12, 3) := by decide +kernel
theorem dX11_part_4 : decode cX11_part 4 = .ok (.getfield 60, 3) := by decide +kernel
theorem dX11_part_7 : decode cX11_part 7 = .ok (.iconst 1, 1) := by decide +kernel
theorem dX11_part_8 : decode cX11_part 8 = .ok (.bipush 40, 2) := by decide +kernel
theorem dX11_part_10 : decode cX11_part 10 = .ok (.invokestatic 63, 3) := by decide +kernel
theorem dX11_part_13 : decode cX11_part 13 = .ok (.ifCond .eq 24, 3) := by decide +kernel
theorem dX11_part_16 : decode cX11_part 16 = .ok (.aload_n 0, 1) := by decide +kernel
theorem dX11_part_17 : decode cX11_part 17 = .ok (.getfield 12, 3) := by decide +kernel
theorem dX11_part_20 : decode cX11_part 20 = .ok (.invokevirtual 79, 3) := by decide +kernel
theorem dX11_part_23 : decode cX11_part 23 = .ok (.ifCond .eq 14, 3) := by decide +kernel
theorem dX11_part_26 : decode cX11_part 26 = .ok (.iload_n 1, 1) := by decide +kernel
theorem dX11_part_27 : decode cX11_part 27 = .ok (.invokestatic 95, 3) := by decide +kernel
theorem dX11_part_30 : decode cX11_part 30 = .ok (.ifCond .eq 7, 3) := by decide +kernel
theorem dX11_part_33 : decode cX11_part 33 = .ok (.iconst 1, 1) := by decide +kernel
theorem dX11_part_34 : decode cX11_part 34 = .ok (.goto 4, 3) := by decide +kernel
theorem dX11_part_37 : decode cX11_part 37 = .ok (.iconst 0, 1) := by decide +kernel
theorem dX11_part_38 : decode cX11_part 38 = .ok (.istore_n 2, 1) := by decide +kernel
theorem dX11_part_39 : decode cX11_part 39 = .ok (.aload_n 0, 1) := by decide +kernel
theorem dX11_part_40 : decode cX11_part 40 = .ok (.getfield 12, 3) := by decide +kernel
theorem dX11_part_43 : decode cX11_part 43 = .ok (.getfield 60, 3) := by decide +kernel
theorem dX11_part_46 : decode cX11_part 46 = .ok (.istore_n 3, 1) := by decide +kernel
theorem dX11_part_47 : decode cX11_part 47 = .ok (.aload_n 0, 1) := by decide +kernel
theorem dX11_part_48 : decode cX11_part 48 = .ok (.getfield 12, 3) := by decide +kernel
theorem dX11_part_51 : decode cX11_part 51 = .ok (.iconst 0, 1) := by decide +kernel
theorem dX11_part_52 : decode cX11_part 52 = .ok (.putfield 60, 3) := by decide +kernel
theorem dX11_part_55 : decode cX11_part 55 = .ok (.iload_n 2, 1) := by decide +kernel
theorem dX11_part_56 : decode cX11_part 56 = .ok (.ifCond .ne 7, 3) := by decide +kernel
theorem dX11_part_59 : decode cX11_part 59 = .ok (.ldc2_w 174, 3) := by decide +kernel
theorem dX11_part_62 : decode cX11_part 62 = .ok (.lreturn, 1) := by decide +kernel
theorem dX11_part_63 : decode cX11_part 63 = .ok (.aload_n 0, 1) := by decide +kernel
theorem dX11_part_64 : decode cX11_part 64 = .ok (.getfield 44, 3) := by decide +kernel
theorem dX11_part_67 : decode cX11_part 67 = .ok (.ifnonnull 18, 3) := by decide +kernel
theorem dX11_part_70 : decode cX11_part 70 = .ok (.aload_n 0, 1) := by decide +kernel
theorem dX11_part_71 : decode cX11_part 71 = .ok (.new 176, 3) := by decide +kernel
theorem dX11_part_74 : decode cX11_part 74 = .ok (.dup, 1) := by decide +kernel
theorem dX11_part_75 : decode cX11_part 75 = .ok (.aload_n 0, 1) := by decide +kernel
theorem dX11_part_76 : decode cX11_part 76 = .ok (.getfield 19, 3) := by decide +kernel
theorem dX11_part_79 : decode cX11_part 79 = .ok (.invokespecial 178, 3) := by decide +kernel
theorem dX11_part_82 : decode cX11_part 82 = .ok (.putfield 44, 3) := by decide +kernel
theorem dX11_part_85 : decode cX11_part 85 = .ok (.aload_n 0, 1) := by decide +kernel
theorem dX11_part_86 : decode cX11_part 86 = .ok (.getfield 44, 3) := by decide +kernel
theorem dX11_part_89 : decode cX11_part 89 = .ok (.aload_n 0, 1) := by decide +kernel
theorem dX11_part_90 : decode cX11_part 90 = .ok (.getfield 12, 3) := by decide +kernel
theorem dX11_part_93 : decode cX11_part 93 = .ok (.getfield 181, 3) := by decide +kernel
theorem dX11_part_96 : decode cX11_part 96 = .ok (.iload_n 3, 1) := by decide +kernel
theorem dX11_part_97 : decode cX11_part 97 = .ok (.iload_n 1, 1) := by decide +kernel
theorem dX11_part_98 : decode cX11_part 98 = .ok (.invokevirtual 184, 3) := by decide +kernel
theorem dX11_part_101 : decode cX11_part 101 = .ok (.aload_n 0, 1) := by decide +kernel
theorem dX11_part_102 : decode cX11_part 102 = .ok (.getfield 44, 3) := by decide +kernel
theorem dX11_part_105 : decode cX11_part 105 = .ok (.invokevirtual 188, 3) := by decide +kernel
theorem dX11_part_108 : decode cX11_part 108 = .ok (.aload_n 0, 1) := by decide +kernel
theorem dX11_part_109 : decode cX11_part 109 = .ok (.getfield 44, 3) := by decide +kernel
theorem dX11_part_112 : decode cX11_part 112 = .ok (.getfield 191, 3) := by decide +kernel
theorem dX11_part_115 : decode cX11_part 115 = .ok (.lreturn, 1) := by decide +kernel
theorem dX11_parted_0 : decode cX11_parted 0 = .ok (.aload_n 0, 1) := by decide +kernel
theorem dX11_parted_1 : decode cX11_parted 1 = .ok (.getfield 44, 3) := by decide +kernel
theorem dX11_parted_4 : decode cX11_parted 4 = .ok (.ifnonnull 7, 3) := by decide +kernel
theorem dX11_parted_7 : decode cX11_parted 7 = .ok (.ldc2_w 174, 3) := by decide +kernel
theorem dX11_parted_10 : decode cX11_parted 10 = .ok (.lreturn, 1) := by decide +kernel
theorem dX11_parted_11 : decode cX11_parted 11 = .ok (.iload_n 1, 1) := by decide +kernel
theorem dX11_parted_12 : decode cX11_parted 12 = .ok (.tableswitch 73 0 3 #[32, 40, 48, 64], 32) := by decide +kernel
theorem dX11_parted_44 : decode cX11_parted 44 = .ok (.aload_n 0, 1) := by decide +kernel
theorem dX11_parted_45 : decode cX11_parted 45 = .ok (.getfield 44, 3) := by decide +kernel
theorem dX11_parted_48 : decode cX11_parted 48 = .ok (.getfield 195, 3) := by decide +kernel
theorem dX11_parted_51 : decode cX11_parted 51 = .ok (.lreturn, 1) := by decide +kernel
theorem dX11_parted_52 : decode cX11_parted 52 = .ok (.aload_n 0, 1) := by decide +kernel
theorem dX11_parted_53 : decode cX11_parted 53 = .ok (.getfield 44, 3) := by decide +kernel
theorem dX11_parted_56 : decode cX11_parted 56 = .ok (.getfield 191, 3) := by decide +kernel
theorem dX11_parted_59 : decode cX11_parted 59 = .ok (.lreturn, 1) := by decide +kernel
theorem dX11_parted_60 : decode cX11_parted 60 = .ok (.aload_n 0, 1) := by decide +kernel
theorem dX11_parted_61 : decode cX11_parted 61 = .ok (.getfield 44, 3) := by decide +kernel
theorem dX11_parted_64 : decode cX11_parted 64 = .ok (.getfield 198, 3) := by decide +kernel
theorem dX11_parted_67 : decode cX11_parted 67 = .ok (.ifCond .eq 7, 3) := by decide +kernel
theorem dX11_parted_70 : decode cX11_parted 70 = .ok (.lconst 1, 1) := by decide +kernel
theorem dX11_parted_71 : decode cX11_parted 71 = .ok (.goto 4, 3) := by decide +kernel
theorem dX11_parted_74 : decode cX11_parted 74 = .ok (.lconst 0, 1) := by decide +kernel
theorem dX11_parted_75 : decode cX11_parted 75 = .ok (.lreturn, 1) := by decide +kernel
theorem dX11_parted_76 : decode cX11_parted 76 = .ok (.aload_n 0, 1) := by decide +kernel
theorem dX11_parted_77 : decode cX11_parted 77 = .ok (.getfield 44, 3) := by decide +kernel
theorem dX11_parted_80 : decode cX11_parted 80 = .ok (.getfield 202, 3) := by decide +kernel
theorem dX11_parted_83 : decode cX11_parted 83 = .ok (.i2l, 1) := by decide +kernel
theorem dX11_parted_84 : decode cX11_parted 84 = .ok (.lreturn, 1) := by decide +kernel
theorem dX11_parted_85 : decode cX11_parted 85 = .ok (.ldc2_w 174, 3) := by decide +kernel
theorem dX11_parted_88 : decode cX11_parted 88 = .ok (.lreturn, 1) := by decide +kernel
theorem dX11_parting_0 : decode cX11_parting 0 = .ok (.aload_n 0, 1) := by decide +kernel
theorem dX11_parting_1 : decode cX11_parting 1 = .ok (.iload_n 1, 1) := by decide +kernel
theorem dX11_parting_2 : decode cX11_parting 2 = .ok (.invokevirtual 205, 3) := by decide +kernel
theorem dX11_parting_5 : decode cX11_parting 5 = .ok (.astore_n 3, 1) := by decide +kernel
theorem dX11_parting_6 : decode cX11_parting 6 = .ok (.aload_n 0, 1) := by decide +kernel
theorem dX11_parting_7 : decode cX11_parting 7 = .ok (.iconst 0, 1) := by decide +kernel
theorem dX11_parting_8 : decode cX11_parting 8 = .ok (.invokevirtual 205, 3) := by decide +kernel
theorem dX11_parting_11 : decode cX11_parting 11 = .ok (.astore 4, 2) := by decide +kernel
theorem dX11_parting_13 : decode cX11_parting 13 = .ok (.aload_n 3, 1) := by decide +kernel
theorem dX11_parting_14 : decode cX11_parting 14 = .ok (.ifnull 8, 3) := by decide +kernel
theorem dX11_parting_17 : decode cX11_parting 17 = .ok (.aload 4, 2) := by decide +kernel
theorem dX11_parting_19 : decode cX11_parting 19 = .ok (.ifnonnull 5, 3) := by decide +kernel
theorem dX11_parting_22 : decode cX11_parting 22 = .ok (.iconst (-1), 1) := by decide +kernel
theorem dX11_parting_23 : decode cX11_parting 23 = .ok (.ireturn, 1) := by decide +kernel
theorem dX11_parting_24 : decode cX11_parting 24 = .ok (.iload_n 2, 1) := by decide +kernel
theorem dX11_parting_25 : decode cX11_parting 25 = .ok (.tableswitch 51 0 2 #[27, 32, 40], 27) := by decide +kernel
theorem dX11_parting_52 : decode cX11_parting 52 = .ok (.aload_n 3, 1) := by decide +kernel
theorem dX11_parting_53 : decode cX11_parting 53 = .ok (.getfield 209, 3) := by decide +kernel
theorem dX11_parting_56 : decode cX11_parting 56 = .ok (.ireturn, 1) := by decide +kernel
theorem dX11_parting_57 : decode cX11_parting 57 = .ok (.aload_n 3, 1) := by decide +kernel
theorem dX11_parting_58 : decode cX11_parting 58 = .ok (.getfield 212, 3) := by decide +kernel
theorem dX11_parting_61 : decode cX11_parting 61 = .ok (.getfield 139, 3) := by decide +kernel
theorem dX11_parting_64 : decode cX11_parting 64 = .ok (.ireturn, 1) := by decide +kernel
theorem dX11_parting_65 : decode cX11_parting 65 = .ok (.aload_n 3, 1) := by decide +kernel
theorem dX11_parting_66 : decode cX11_parting 66 = .ok (.getfield 209, 3) := by decide +kernel
theorem dX11_parting_69 : decode cX11_parting 69 = .ok (.aload 4, 2) := by decide +kernel
theorem dX11_parting_71 : decode cX11_parting 71 = .ok (.getfield 209, 3) := by decide +kernel
theorem dX11_parting_74 : decode cX11_parting 74 = .ok (.isub, 1) := by decide +kernel
theorem dX11_parting_75 : decode cX11_parting 75 = .ok (.ireturn, 1) := by decide +kernel
theorem dX11_parting_76 : decode cX11_parting 76 = .ok (.iconst (-1), 1) := by decide +kernel
theorem dX11_parting_77 : decode cX11_parting 77 = .ok (.ireturn, 1) := by decide +kernel
theorem dX11_formOf_0 : decode cX11_formOf 0 = .ok (.aload_n 0, 1) := by decide +kernel
theorem dX11_formOf_1 : decode cX11_formOf 1 = .ok (.iload_n 1, 1) := by decide +kernel
theorem dX11_formOf_2 : decode cX11_formOf 2 = .ok (.invokevirtual 205, 3) := by decide +kernel
theorem dX11_formOf_5 : decode cX11_formOf 5 = .ok (.astore_n 3, 1) := by decide +kernel
theorem dX11_formOf_6 : decode cX11_formOf 6 = .ok (.aload_n 3, 1) := by decide +kernel
theorem dX11_formOf_7 : decode cX11_formOf 7 = .ok (.ifnonnull 7, 3) := by decide +kernel
theorem dX11_formOf_10 : decode cX11_formOf 10 = .ok (.aconst_null, 1) := by decide +kernel
theorem dX11_formOf_11 : decode cX11_formOf 11 = .ok (.goto 11, 3) := by decide +kernel
theorem dX11_formOf_14 : decode cX11_formOf 14 = .ok (.aload_n 3, 1) := by decide +kernel
theorem dX11_formOf_15 : decode cX11_formOf 15 = .ok (.getfield 212, 3) := by decide +kernel
theorem dX11_formOf_18 : decode cX11_formOf 18 = .ok (.iload_n 2, 1) := by decide +kernel
theorem dX11_formOf_19 : decode cX11_formOf 19 = .ok (.invokevirtual 213, 3) := by decide +kernel
theorem dX11_formOf_22 : decode cX11_formOf 22 = .ok (.astore 4, 2) := by decide +kernel
theorem dX11_formOf_24 : decode cX11_formOf 24 = .ok (.aload 4, 2) := by decide +kernel
theorem dX11_formOf_26 : decode cX11_formOf 26 = .ok (.ifnonnull 7, 3) := by decide +kernel
theorem dX11_formOf_29 : decode cX11_formOf 29 = .ok (.iconst (-1), 1) := by decide +kernel
theorem dX11_formOf_30 : decode cX11_formOf 30 = .ok (.goto 8, 3) := by decide +kernel
theorem dX11_formOf_33 : decode cX11_formOf 33 = .ok (.aload 4, 2) := by decide +kernel
theorem dX11_formOf_35 : decode cX11_formOf 35 = .ok (.getfield 214, 3) := by decide +kernel
theorem dX11_formOf_38 : decode cX11_formOf 38 = .ok (.ireturn, 1) := by decide +kernel
theorem dX11_ruleOf_0 : decode cX11_ruleOf 0 = .ok (.aload_n 0, 1) := by decide +kernel
theorem dX11_ruleOf_1 : decode cX11_ruleOf 1 = .ok (.iload_n 1, 1) := by decide +kernel
theorem dX11_ruleOf_2 : decode cX11_ruleOf 2 = .ok (.invokevirtual 205, 3) := by decide +kernel
theorem dX11_ruleOf_5 : decode cX11_ruleOf 5 = .ok (.astore_n 3, 1) := by decide +kernel
theorem dX11_ruleOf_6 : decode cX11_ruleOf 6 = .ok (.aload_n 3, 1) := by decide +kernel
theorem dX11_ruleOf_7 : decode cX11_ruleOf 7 = .ok (.ifnonnull 7, 3) := by decide +kernel
theorem dX11_ruleOf_10 : decode cX11_ruleOf 10 = .ok (.aconst_null, 1) := by decide +kernel
theorem dX11_ruleOf_11 : decode cX11_ruleOf 11 = .ok (.goto 11, 3) := by decide +kernel
theorem dX11_ruleOf_14 : decode cX11_ruleOf 14 = .ok (.aload_n 3, 1) := by decide +kernel
theorem dX11_ruleOf_15 : decode cX11_ruleOf 15 = .ok (.getfield 212, 3) := by decide +kernel
theorem dX11_ruleOf_18 : decode cX11_ruleOf 18 = .ok (.iload_n 2, 1) := by decide +kernel
theorem dX11_ruleOf_19 : decode cX11_ruleOf 19 = .ok (.invokevirtual 217, 3) := by decide +kernel
theorem dX11_ruleOf_22 : decode cX11_ruleOf 22 = .ok (.astore 4, 2) := by decide +kernel
theorem dX11_ruleOf_24 : decode cX11_ruleOf 24 = .ok (.aload 4, 2) := by decide +kernel
theorem dX11_ruleOf_26 : decode cX11_ruleOf 26 = .ok (.ifnonnull 7, 3) := by decide +kernel
theorem dX11_ruleOf_29 : decode cX11_ruleOf 29 = .ok (.iconst (-1), 1) := by decide +kernel
theorem dX11_ruleOf_30 : decode cX11_ruleOf 30 = .ok (.goto 8, 3) := by decide +kernel
theorem dX11_ruleOf_33 : decode cX11_ruleOf 33 = .ok (.aload 4, 2) := by decide +kernel
theorem dX11_ruleOf_35 : decode cX11_ruleOf 35 = .ok (.getfield 220, 3) := by decide +kernel
theorem dX11_ruleOf_38 : decode cX11_ruleOf 38 = .ok (.ireturn, 1) := by decide +kernel
theorem dX11_trees_0 : decode cX11_trees 0 = .ok (.aload_n 0, 1) := by decide +kernel
theorem dX11_trees_1 : decode cX11_trees 1 = .ok (.iload_n 1, 1) := by decide +kernel
theorem dX11_trees_2 : decode cX11_trees 2 = .ok (.invokevirtual 205, 3) := by decide +kernel
theorem dX11_trees_5 : decode cX11_trees 5 = .ok (.astore_n 3, 1) := by decide +kernel
theorem dX11_trees_6 : decode cX11_trees 6 = .ok (.aload_n 3, 1) := by decide +kernel
theorem dX11_trees_7 : decode cX11_trees 7 = .ok (.ifnull 10, 3) := by decide +kernel
theorem dX11_trees_10 : decode cX11_trees 10 = .ok (.iload_n 2, 1) := by decide +kernel
theorem dX11_trees_11 : decode cX11_trees 11 = .ok (.invokestatic 70, 3) := by decide +kernel
theorem dX11_trees_14 : decode cX11_trees 14 = .ok (.ifCond .ne 7, 3) := by decide +kernel
theorem dX11_trees_17 : decode cX11_trees 17 = .ok (.ldc2_w 174, 3) := by decide +kernel
theorem dX11_trees_20 : decode cX11_trees 20 = .ok (.lreturn, 1) := by decide +kernel
theorem dX11_trees_21 : decode cX11_trees 21 = .ok (.aload_n 0, 1) := by decide +kernel
theorem dX11_trees_22 : decode cX11_trees 22 = .ok (.getfield 33, 3) := by decide +kernel
theorem dX11_trees_25 : decode cX11_trees 25 = .ok (.aload_n 3, 1) := by decide +kernel
theorem dX11_trees_26 : decode cX11_trees 26 = .ok (.getfield 212, 3) := by decide +kernel
theorem dX11_trees_29 : decode cX11_trees 29 = .ok (.iload_n 2, 1) := by decide +kernel
theorem dX11_trees_30 : decode cX11_trees 30 = .ok (.invokevirtual 221, 3) := by decide +kernel
theorem dX11_trees_33 : decode cX11_trees 33 = .ok (.lreturn, 1) := by decide +kernel
theorem dX11_choose_0 : decode cX11_choose 0 = .ok (.aload_n 0, 1) := by decide +kernel
theorem dX11_choose_1 : decode cX11_choose 1 = .ok (.iload_n 1, 1) := by decide +kernel
theorem dX11_choose_2 : decode cX11_choose 2 = .ok (.invokevirtual 205, 3) := by decide +kernel
theorem dX11_choose_5 : decode cX11_choose 5 = .ok (.astore_n 2, 1) := by decide +kernel
theorem dX11_choose_6 : decode cX11_choose 6 = .ok (.aload_n 2, 1) := by decide +kernel
theorem dX11_choose_7 : decode cX11_choose 7 = .ok (.ifnonnull 5, 3) := by decide +kernel
theorem dX11_choose_10 : decode cX11_choose 10 = .ok (.iconst (-1), 1) := by decide +kernel
theorem dX11_choose_11 : decode cX11_choose 11 = .ok (.ireturn, 1) := by decide +kernel
theorem dX11_choose_12 : decode cX11_choose 12 = .ok (.aload_n 0, 1) := by decide +kernel
theorem dX11_choose_13 : decode cX11_choose 13 = .ok (.getfield 40, 3) := by decide +kernel
theorem dX11_choose_16 : decode cX11_choose 16 = .ok (.aload_n 0, 1) := by decide +kernel
theorem dX11_choose_17 : decode cX11_choose 17 = .ok (.getfield 19, 3) := by decide +kernel
theorem dX11_choose_20 : decode cX11_choose 20 = .ok (.invokevirtual 225, 3) := by decide +kernel
theorem dX11_choose_23 : decode cX11_choose 23 = .ok (.aload_n 0, 1) := by decide +kernel
theorem dX11_choose_24 : decode cX11_choose 24 = .ok (.getfield 40, 3) := by decide +kernel
theorem dX11_choose_27 : decode cX11_choose 27 = .ok (.aload_n 2, 1) := by decide +kernel
theorem dX11_choose_28 : decode cX11_choose 28 = .ok (.getfield 212, 3) := by decide +kernel
theorem dX11_choose_31 : decode cX11_choose 31 = .ok (.aload_n 0, 1) := by decide +kernel
theorem dX11_choose_32 : decode cX11_choose 32 = .ok (.getfield 48, 3) := by decide +kernel
theorem dX11_choose_35 : decode cX11_choose 35 = .ok (.invokevirtual 228, 3) := by decide +kernel
theorem dX11_choose_38 : decode cX11_choose 38 = .ok (.aload_n 0, 1) := by decide +kernel
theorem dX11_choose_39 : decode cX11_choose 39 = .ok (.getfield 40, 3) := by decide +kernel
theorem dX11_choose_42 : decode cX11_choose 42 = .ok (.getfield 232, 3) := by decide +kernel
theorem dX11_choose_45 : decode cX11_choose 45 = .ok (.ireturn, 1) := by decide +kernel
theorem dX11_undo_0 : decode cX11_undo 0 = .ok (.aload_n 0, 1) := by decide +kernel
theorem dX11_undo_1 : decode cX11_undo 1 = .ok (.getfield 40, 3) := by decide +kernel
theorem dX11_undo_4 : decode cX11_undo 4 = .ok (.aload_n 0, 1) := by decide +kernel
theorem dX11_undo_5 : decode cX11_undo 5 = .ok (.getfield 19, 3) := by decide +kernel
theorem dX11_undo_8 : decode cX11_undo 8 = .ok (.invokevirtual 233, 3) := by decide +kernel
theorem dX11_undo_11 : decode cX11_undo 11 = .ok (.ireturn, 1) := by decide +kernel
theorem dX11_step_0 : decode cX11_step 0 = .ok (.iload_n 1, 1) := by decide +kernel
theorem dX11_step_1 : decode cX11_step 1 = .ok (.iconst 0, 1) := by decide +kernel
theorem dX11_step_2 : decode cX11_step 2 = .ok (.bipush 20, 2) := by decide +kernel
theorem dX11_step_4 : decode cX11_step 4 = .ok (.invokestatic 63, 3) := by decide +kernel
theorem dX11_step_7 : decode cX11_step 7 = .ok (.ifCond .ne 5, 3) := by decide +kernel
theorem dX11_step_10 : decode cX11_step 10 = .ok (.iconst (-1), 1) := by decide +kernel
theorem dX11_step_11 : decode cX11_step 11 = .ok (.ireturn, 1) := by decide +kernel
theorem dX11_step_12 : decode cX11_step 12 = .ok (.aload_n 0, 1) := by decide +kernel
theorem dX11_step_13 : decode cX11_step 13 = .ok (.getfield 48, 3) := by decide +kernel
theorem dX11_step_16 : decode cX11_step 16 = .ok (.istore_n 2, 1) := by decide +kernel
theorem dX11_step_17 : decode cX11_step 17 = .ok (.aload_n 0, 1) := by decide +kernel
theorem dX11_step_18 : decode cX11_step 18 = .ok (.iload_n 1, 1) := by decide +kernel
theorem dX11_step_19 : decode cX11_step 19 = .ok (.putfield 48, 3) := by decide +kernel
theorem dX11_step_22 : decode cX11_step 22 = .ok (.iload_n 2, 1) := by decide +kernel
theorem dX11_step_23 : decode cX11_step 23 = .ok (.ireturn, 1) := by decide +kernel
theorem dX11_uses_0 : decode cX11_uses 0 = .ok (.iload_n 1, 1) := by decide +kernel
theorem dX11_uses_1 : decode cX11_uses 1 = .ok (.invokestatic 73, 3) := by decide +kernel
theorem dX11_uses_4 : decode cX11_uses 4 = .ok (.ifCond .eq 15, 3) := by decide +kernel
theorem dX11_uses_7 : decode cX11_uses 7 = .ok (.aload_n 0, 1) := by decide +kernel
theorem dX11_uses_8 : decode cX11_uses 8 = .ok (.getfield 40, 3) := by decide +kernel
theorem dX11_uses_11 : decode cX11_uses 11 = .ok (.getfield 237, 3) := by decide +kernel
theorem dX11_uses_14 : decode cX11_uses 14 = .ok (.iload_n 1, 1) := by decide +kernel
theorem dX11_uses_15 : decode cX11_uses 15 = .ok (.iaload, 1) := by decide +kernel
theorem dX11_uses_16 : decode cX11_uses 16 = .ok (.goto 4, 3) := by decide +kernel
theorem dX11_uses_19 : decode cX11_uses 19 = .ok (.iconst (-1), 1) := by decide +kernel
theorem dX11_uses_20 : decode cX11_uses 20 = .ok (.ireturn, 1) := by decide +kernel
theorem dX11_about_0 : decode cX11_about 0 = .ok (.aload_n 0, 1) := by decide +kernel
theorem dX11_about_1 : decode cX11_about 1 = .ok (.getfield 19, 3) := by decide +kernel
theorem dX11_about_4 : decode cX11_about 4 = .ok (.iload_n 1, 1) := by decide +kernel
theorem dX11_about_5 : decode cX11_about 5 = .ok (.invokevirtual 107, 3) := by decide +kernel
theorem dX11_about_8 : decode cX11_about 8 = .ok (.astore_n 3, 1) := by decide +kernel
theorem dX11_about_9 : decode cX11_about 9 = .ok (.aload_n 3, 1) := by decide +kernel
theorem dX11_about_10 : decode cX11_about 10 = .ok (.ifnonnull 5, 3) := by decide +kernel
theorem dX11_about_13 : decode cX11_about 13 = .ok (.iconst (-1), 1) := by decide +kernel
theorem dX11_about_14 : decode cX11_about 14 = .ok (.ireturn, 1) := by decide +kernel
theorem dX11_about_15 : decode cX11_about 15 = .ok (.iload_n 2, 1) := by decide +kernel
theorem dX11_about_16 : decode cX11_about 16 = .ok (.tableswitch 70 0 4 #[36, 41, 46, 51, 64], 36) := by decide +kernel
theorem dX11_about_52 : decode cX11_about 52 = .ok (.aload_n 3, 1) := by decide +kernel
theorem dX11_about_53 : decode cX11_about 53 = .ok (.getfield 241, 3) := by decide +kernel
theorem dX11_about_56 : decode cX11_about 56 = .ok (.ireturn, 1) := by decide +kernel
theorem dX11_about_57 : decode cX11_about 57 = .ok (.aload_n 3, 1) := by decide +kernel
theorem dX11_about_58 : decode cX11_about 58 = .ok (.getfield 244, 3) := by decide +kernel
theorem dX11_about_61 : decode cX11_about 61 = .ok (.ireturn, 1) := by decide +kernel
theorem dX11_about_62 : decode cX11_about 62 = .ok (.aload_n 3, 1) := by decide +kernel
theorem dX11_about_63 : decode cX11_about 63 = .ok (.getfield 111, 3) := by decide +kernel
theorem dX11_about_66 : decode cX11_about 66 = .ok (.ireturn, 1) := by decide +kernel
theorem dX11_about_67 : decode cX11_about 67 = .ok (.aload_n 3, 1) := by decide +kernel
theorem dX11_about_68 : decode cX11_about 68 = .ok (.getfield 247, 3) := by decide +kernel
theorem dX11_about_71 : decode cX11_about 71 = .ok (.ifCond .eq 7, 3) := by decide +kernel
theorem dX11_about_74 : decode cX11_about 74 = .ok (.iconst 1, 1) := by decide +kernel
theorem dX11_about_75 : decode cX11_about 75 = .ok (.goto 4, 3) := by decide +kernel
theorem dX11_about_78 : decode cX11_about 78 = .ok (.iconst 0, 1) := by decide +kernel
theorem dX11_about_79 : decode cX11_about 79 = .ok (.ireturn, 1) := by decide +kernel
theorem dX11_about_80 : decode cX11_about 80 = .ok (.aload_n 3, 1) := by decide +kernel
theorem dX11_about_81 : decode cX11_about 81 = .ok (.getfield 250, 3) := by decide +kernel
theorem dX11_about_84 : decode cX11_about 84 = .ok (.arraylength, 1) := by decide +kernel
theorem dX11_about_85 : decode cX11_about 85 = .ok (.ireturn, 1) := by decide +kernel
theorem dX11_about_86 : decode cX11_about 86 = .ok (.iconst (-1), 1) := by decide +kernel
theorem dX11_about_87 : decode cX11_about 87 = .ok (.ireturn, 1) := by decide +kernel
theorem dX11_count_0 : decode cX11_count 0 = .ok (.iload_n 1, 1) := by decide +kernel
theorem dX11_count_1 : decode cX11_count 1 = .ok (.tableswitch 114 0 7 #[47, 55, 63, 71, 79, 90, 98, 103], 47) := by decide +kernel
theorem dX11_count_48 : decode cX11_count 48 = .ok (.aload_n 0, 1) := by decide +kernel
theorem dX11_count_49 : decode cX11_count 49 = .ok (.getfield 19, 3) := by decide +kernel
theorem dX11_count_52 : decode cX11_count 52 = .ok (.getfield 67, 3) := by decide +kernel
theorem dX11_count_55 : decode cX11_count 55 = .ok (.ireturn, 1) := by decide +kernel
theorem dX11_count_56 : decode cX11_count 56 = .ok (.aload_n 0, 1) := by decide +kernel
theorem dX11_count_57 : decode cX11_count 57 = .ok (.getfield 19, 3) := by decide +kernel
theorem dX11_count_60 : decode cX11_count 60 = .ok (.getfield 92, 3) := by decide +kernel
theorem dX11_count_63 : decode cX11_count 63 = .ok (.ireturn, 1) := by decide +kernel
theorem dX11_count_64 : decode cX11_count 64 = .ok (.aload_n 0, 1) := by decide +kernel
theorem dX11_count_65 : decode cX11_count 65 = .ok (.getfield 12, 3) := by decide +kernel
theorem dX11_count_68 : decode cX11_count 68 = .ok (.getfield 60, 3) := by decide +kernel
theorem dX11_count_71 : decode cX11_count 71 = .ok (.ireturn, 1) := by decide +kernel
theorem dX11_count_72 : decode cX11_count 72 = .ok (.aload_n 0, 1) := by decide +kernel
theorem dX11_count_73 : decode cX11_count 73 = .ok (.getfield 26, 3) := by decide +kernel
theorem dX11_count_76 : decode cX11_count 76 = .ok (.getfield 164, 3) := by decide +kernel
theorem dX11_count_79 : decode cX11_count 79 = .ok (.ireturn, 1) := by decide +kernel
theorem dX11_count_80 : decode cX11_count 80 = .ok (.aload_n 0, 1) := by decide +kernel
theorem dX11_count_81 : decode cX11_count 81 = .ok (.getfield 26, 3) := by decide +kernel
theorem dX11_count_84 : decode cX11_count 84 = .ok (.getfield 135, 3) := by decide +kernel
theorem dX11_count_87 : decode cX11_count 87 = .ok (.getfield 139, 3) := by decide +kernel
theorem dX11_count_90 : decode cX11_count 90 = .ok (.ireturn, 1) := by decide +kernel
theorem dX11_count_91 : decode cX11_count 91 = .ok (.aload_n 0, 1) := by decide +kernel
theorem dX11_count_92 : decode cX11_count 92 = .ok (.getfield 40, 3) := by decide +kernel
theorem dX11_count_95 : decode cX11_count 95 = .ok (.getfield 232, 3) := by decide +kernel
theorem dX11_count_98 : decode cX11_count 98 = .ok (.ireturn, 1) := by decide +kernel
theorem dX11_count_99 : decode cX11_count 99 = .ok (.aload_n 0, 1) := by decide +kernel
theorem dX11_count_100 : decode cX11_count 100 = .ok (.getfield 48, 3) := by decide +kernel
theorem dX11_count_103 : decode cX11_count 103 = .ok (.ireturn, 1) := by decide +kernel
theorem dX11_count_104 : decode cX11_count 104 = .ok (.aload_n 0, 1) := by decide +kernel
theorem dX11_count_105 : decode cX11_count 105 = .ok (.getfield 26, 3) := by decide +kernel
theorem dX11_count_108 : decode cX11_count 108 = .ok (.getfield 135, 3) := by decide +kernel
theorem dX11_count_111 : decode cX11_count 111 = .ok (.invokevirtual 253, 3) := by decide +kernel
theorem dX11_count_114 : decode cX11_count 114 = .ok (.ireturn, 1) := by decide +kernel
theorem dX11_count_115 : decode cX11_count 115 = .ok (.iconst (-1), 1) := by decide +kernel
theorem dX11_count_116 : decode cX11_count 116 = .ok (.ireturn, 1) := by decide +kernel
theorem dX11_within_0 : decode cX11_within 0 = .ok (.iload_n 0, 1) := by decide +kernel
theorem dX11_within_1 : decode cX11_within 1 = .ok (.iload_n 1, 1) := by decide +kernel
theorem dX11_within_2 : decode cX11_within 2 = .ok (.if_icmp .lt 12, 3) := by decide +kernel
theorem dX11_within_5 : decode cX11_within 5 = .ok (.iload_n 0, 1) := by decide +kernel
theorem dX11_within_6 : decode cX11_within 6 = .ok (.iload_n 2, 1) := by decide +kernel
theorem dX11_within_7 : decode cX11_within 7 = .ok (.if_icmp .gt 7, 3) := by decide +kernel
theorem dX11_within_10 : decode cX11_within 10 = .ok (.iconst 1, 1) := by decide +kernel
theorem dX11_within_11 : decode cX11_within 11 = .ok (.goto 4, 3) := by decide +kernel
theorem dX11_within_14 : decode cX11_within 14 = .ok (.iconst 0, 1) := by decide +kernel
theorem dX11_within_15 : decode cX11_within 15 = .ok (.ireturn, 1) := by decide +kernel
theorem dX11_isKind_0 : decode cX11_isKind 0 = .ok (.iload_n 0, 1) := by decide +kernel
theorem dX11_isKind_1 : decode cX11_isKind 1 = .ok (.iconst 0, 1) := by decide +kernel
theorem dX11_isKind_2 : decode cX11_isKind 2 = .ok (.iconst 5, 1) := by decide +kernel
theorem dX11_isKind_3 : decode cX11_isKind 3 = .ok (.invokestatic 63, 3) := by decide +kernel
theorem dX11_isKind_6 : decode cX11_isKind 6 = .ok (.ireturn, 1) := by decide +kernel
theorem dX11_isStem_0 : decode cX11_isStem 0 = .ok (.iload_n 0, 1) := by decide +kernel
theorem dX11_isStem_1 : decode cX11_isStem 1 = .ok (.iconst 0, 1) := by decide +kernel
theorem dX11_isStem_2 : decode cX11_isStem 2 = .ok (.bipush 19, 2) := by decide +kernel
theorem dX11_isStem_4 : decode cX11_isStem 4 = .ok (.invokestatic 63, 3) := by decide +kernel
theorem dX11_isStem_7 : decode cX11_isStem 7 = .ok (.ireturn, 1) := by decide +kernel
theorem dX11_isCost_0 : decode cX11_isCost 0 = .ok (.iload_n 0, 1) := by decide +kernel
theorem dX11_isCost_1 : decode cX11_isCost 1 = .ok (.iconst 0, 1) := by decide +kernel
theorem dX11_isCost_2 : decode cX11_isCost 2 = .ok (.bipush 99, 2) := by decide +kernel
theorem dX11_isCost_4 : decode cX11_isCost 4 = .ok (.invokestatic 63, 3) := by decide +kernel
theorem dX11_isCost_7 : decode cX11_isCost 7 = .ok (.ireturn, 1) := by decide +kernel
theorem dX11_isDay_0 : decode cX11_isDay 0 = .ok (.iload_n 0, 1) := by decide +kernel
theorem dX11_isDay_1 : decode cX11_isDay 1 = .ok (.iconst 0, 1) := by decide +kernel
theorem dX11_isDay_2 : decode cX11_isDay 2 = .ok (.sipush 999, 3) := by decide +kernel
theorem dX11_isDay_5 : decode cX11_isDay 5 = .ok (.invokestatic 63, 3) := by decide +kernel
theorem dX11_isDay_8 : decode cX11_isDay 8 = .ok (.ireturn, 1) := by decide +kernel
theorem dX11_hasRule_0 : decode cX11_hasRule 0 = .ok (.iload_n 0, 1) := by decide +kernel
theorem dX11_hasRule_1 : decode cX11_hasRule 1 = .ok (.iload_n 1, 1) := by decide +kernel
theorem dX11_hasRule_2 : decode cX11_hasRule 2 = .ok (.ishr, 1) := by decide +kernel
theorem dX11_hasRule_3 : decode cX11_hasRule 3 = .ok (.iconst 1, 1) := by decide +kernel
theorem dX11_hasRule_4 : decode cX11_hasRule 4 = .ok (.iand, 1) := by decide +kernel
theorem dX11_hasRule_5 : decode cX11_hasRule 5 = .ok (.iconst 1, 1) := by decide +kernel
theorem dX11_hasRule_6 : decode cX11_hasRule 6 = .ok (.if_icmp .ne 7, 3) := by decide +kernel
theorem dX11_hasRule_9 : decode cX11_hasRule 9 = .ok (.iconst 1, 1) := by decide +kernel
theorem dX11_hasRule_10 : decode cX11_hasRule 10 = .ok (.goto 4, 3) := by decide +kernel
theorem dX11_hasRule_13 : decode cX11_hasRule 13 = .ok (.iconst 0, 1) := by decide +kernel
theorem dX11_hasRule_14 : decode cX11_hasRule 14 = .ok (.ireturn, 1) := by decide +kernel
theorem dX11_capped_0 : decode cX11_capped 0 = .ok (.lload_n 0, 1) := by decide +kernel
theorem dX11_capped_1 : decode cX11_capped 1 = .ok (.ldc2_w 257, 3) := by decide +kernel
theorem dX11_capped_4 : decode cX11_capped 4 = .ok (.invokestatic 259, 3) := by decide +kernel
theorem dX11_capped_7 : decode cX11_capped 7 = .ok (.lreturn, 1) := by decide +kernel
theorem dX11_rulesBetween_0 : decode cX11_rulesBetween 0 = .ok (.aload_n 0, 1) := by decide +kernel
theorem dX11_rulesBetween_1 : decode cX11_rulesBetween 1 = .ok (.getfield 19, 3) := by decide +kernel
theorem dX11_rulesBetween_4 : decode cX11_rulesBetween 4 = .ok (.iload_n 1, 1) := by decide +kernel
theorem dX11_rulesBetween_5 : decode cX11_rulesBetween 5 = .ok (.invokevirtual 107, 3) := by decide +kernel
theorem dX11_rulesBetween_8 : decode cX11_rulesBetween 8 = .ok (.astore 4, 2) := by decide +kernel
theorem dX11_rulesBetween_10 : decode cX11_rulesBetween 10 = .ok (.aload_n 0, 1) := by decide +kernel
theorem dX11_rulesBetween_11 : decode cX11_rulesBetween 11 = .ok (.getfield 19, 3) := by decide +kernel
theorem dX11_rulesBetween_14 : decode cX11_rulesBetween 14 = .ok (.iload_n 2, 1) := by decide +kernel
theorem dX11_rulesBetween_15 : decode cX11_rulesBetween 15 = .ok (.invokevirtual 107, 3) := by decide +kernel
theorem dX11_rulesBetween_18 : decode cX11_rulesBetween 18 = .ok (.astore 5, 2) := by decide +kernel
theorem dX11_rulesBetween_20 : decode cX11_rulesBetween 20 = .ok (.aload 4, 2) := by decide +kernel
theorem dX11_rulesBetween_22 : decode cX11_rulesBetween 22 = .ok (.ifnull 15, 3) := by decide +kernel
theorem dX11_rulesBetween_25 : decode cX11_rulesBetween 25 = .ok (.aload 5, 2) := by decide +kernel
theorem dX11_rulesBetween_27 : decode cX11_rulesBetween 27 = .ok (.ifnull 10, 3) := by decide +kernel
theorem dX11_rulesBetween_30 : decode cX11_rulesBetween 30 = .ok (.iload_n 3, 1) := by decide +kernel
theorem dX11_rulesBetween_31 : decode cX11_rulesBetween 31 = .ok (.invokestatic 95, 3) := by decide +kernel
theorem dX11_rulesBetween_34 : decode cX11_rulesBetween 34 = .ok (.ifCond .ne 5, 3) := by decide +kernel
theorem dX11_rulesBetween_37 : decode cX11_rulesBetween 37 = .ok (.iconst (-1), 1) := by decide +kernel
theorem dX11_rulesBetween_38 : decode cX11_rulesBetween 38 = .ok (.ireturn, 1) := by decide +kernel
theorem dX11_rulesBetween_39 : decode cX11_rulesBetween 39 = .ok (.aload 4, 2) := by decide +kernel
theorem dX11_rulesBetween_41 : decode cX11_rulesBetween 41 = .ok (.getfield 265, 3) := by decide +kernel
theorem dX11_rulesBetween_44 : decode cX11_rulesBetween 44 = .ok (.aload 5, 2) := by decide +kernel
theorem dX11_rulesBetween_46 : decode cX11_rulesBetween 46 = .ok (.getfield 268, 3) := by decide +kernel
theorem dX11_rulesBetween_49 : decode cX11_rulesBetween 49 = .ok (.iand, 1) := by decide +kernel
theorem dX11_rulesBetween_50 : decode cX11_rulesBetween 50 = .ok (.aload_n 0, 1) := by decide +kernel
theorem dX11_rulesBetween_51 : decode cX11_rulesBetween 51 = .ok (.getfield 19, 3) := by decide +kernel
theorem dX11_rulesBetween_54 : decode cX11_rulesBetween 54 = .ok (.iload_n 3, 1) := by decide +kernel
theorem dX11_rulesBetween_55 : decode cX11_rulesBetween 55 = .ok (.invokevirtual 271, 3) := by decide +kernel
theorem dX11_rulesBetween_58 : decode cX11_rulesBetween 58 = .ok (.iand, 1) := by decide +kernel
theorem dX11_rulesBetween_59 : decode cX11_rulesBetween 59 = .ok (.ireturn, 1) := by decide +kernel
theorem dX11_canFollow_0 : decode cX11_canFollow 0 = .ok (.aload_n 1, 1) := by decide +kernel
theorem dX11_canFollow_1 : decode cX11_canFollow 1 = .ok (.getfield 265, 3) := by decide +kernel
theorem dX11_canFollow_4 : decode cX11_canFollow 4 = .ok (.aload_n 2, 1) := by decide +kernel
theorem dX11_canFollow_5 : decode cX11_canFollow 5 = .ok (.getfield 268, 3) := by decide +kernel
theorem dX11_canFollow_8 : decode cX11_canFollow 8 = .ok (.iand, 1) := by decide +kernel
theorem dX11_canFollow_9 : decode cX11_canFollow 9 = .ok (.aload_n 0, 1) := by decide +kernel
theorem dX11_canFollow_10 : decode cX11_canFollow 10 = .ok (.getfield 19, 3) := by decide +kernel
theorem dX11_canFollow_13 : decode cX11_canFollow 13 = .ok (.aload_n 0, 1) := by decide +kernel
theorem dX11_canFollow_14 : decode cX11_canFollow 14 = .ok (.getfield 26, 3) := by decide +kernel
theorem dX11_canFollow_17 : decode cX11_canFollow 17 = .ok (.getfield 142, 3) := by decide +kernel
theorem dX11_canFollow_20 : decode cX11_canFollow 20 = .ok (.invokevirtual 271, 3) := by decide +kernel
theorem dX11_canFollow_23 : decode cX11_canFollow 23 = .ok (.iand, 1) := by decide +kernel
theorem dX11_canFollow_24 : decode cX11_canFollow 24 = .ok (.istore 4, 2) := by decide +kernel
theorem dX11_canFollow_26 : decode cX11_canFollow 26 = .ok (.iload_n 3, 1) := by decide +kernel
theorem dX11_canFollow_27 : decode cX11_canFollow 27 = .ok (.iconst (-1), 1) := by decide +kernel
theorem dX11_canFollow_28 : decode cX11_canFollow 28 = .ok (.if_icmp .ne 14, 3) := by decide +kernel
theorem dX11_canFollow_31 : decode cX11_canFollow 31 = .ok (.iload 4, 2) := by decide +kernel
theorem dX11_canFollow_33 : decode cX11_canFollow 33 = .ok (.ifCond .ne 7, 3) := by decide +kernel
theorem dX11_canFollow_36 : decode cX11_canFollow 36 = .ok (.iconst 1, 1) := by decide +kernel
theorem dX11_canFollow_37 : decode cX11_canFollow 37 = .ok (.goto 4, 3) := by decide +kernel
theorem dX11_canFollow_40 : decode cX11_canFollow 40 = .ok (.iconst 0, 1) := by decide +kernel
theorem dX11_canFollow_41 : decode cX11_canFollow 41 = .ok (.ireturn, 1) := by decide +kernel
theorem dX11_canFollow_42 : decode cX11_canFollow 42 = .ok (.aload_n 0, 1) := by decide +kernel
theorem dX11_canFollow_43 : decode cX11_canFollow 43 = .ok (.getfield 19, 3) := by decide +kernel
theorem dX11_canFollow_46 : decode cX11_canFollow 46 = .ok (.iload_n 3, 1) := by decide +kernel
theorem dX11_canFollow_47 : decode cX11_canFollow 47 = .ok (.invokevirtual 157, 3) := by decide +kernel
theorem dX11_canFollow_50 : decode cX11_canFollow 50 = .ok (.astore 5, 2) := by decide +kernel
theorem dX11_canFollow_52 : decode cX11_canFollow 52 = .ok (.aload 5, 2) := by decide +kernel
theorem dX11_canFollow_54 : decode cX11_canFollow 54 = .ok (.ifnull 53, 3) := by decide +kernel
theorem dX11_canFollow_57 : decode cX11_canFollow 57 = .ok (.iload 4, 2) := by decide +kernel
theorem dX11_canFollow_59 : decode cX11_canFollow 59 = .ok (.iload_n 3, 1) := by decide +kernel
theorem dX11_canFollow_60 : decode cX11_canFollow 60 = .ok (.invokestatic 131, 3) := by decide +kernel
theorem dX11_canFollow_63 : decode cX11_canFollow 63 = .ok (.ifCond .eq 44, 3) := by decide +kernel
theorem dX11_canFollow_66 : decode cX11_canFollow 66 = .ok (.aload_n 1, 1) := by decide +kernel
theorem dX11_canFollow_67 : decode cX11_canFollow 67 = .ok (.getfield 250, 3) := by decide +kernel
theorem dX11_canFollow_70 : decode cX11_canFollow 70 = .ok (.arraylength, 1) := by decide +kernel
theorem dX11_canFollow_71 : decode cX11_canFollow 71 = .ok (.aload_n 0, 1) := by decide +kernel
theorem dX11_canFollow_72 : decode cX11_canFollow 72 = .ok (.getfield 26, 3) := by decide +kernel
theorem dX11_canFollow_75 : decode cX11_canFollow 75 = .ok (.getfield 135, 3) := by decide +kernel
theorem dX11_canFollow_78 : decode cX11_canFollow 78 = .ok (.invokevirtual 274, 3) := by decide +kernel
theorem dX11_canFollow_81 : decode cX11_canFollow 81 = .ok (.isub, 1) := by decide +kernel
theorem dX11_canFollow_82 : decode cX11_canFollow 82 = .ok (.aload 5, 2) := by decide +kernel
theorem dX11_canFollow_84 : decode cX11_canFollow 84 = .ok (.getfield 277, 3) := by decide +kernel
theorem dX11_canFollow_87 : decode cX11_canFollow 87 = .ok (.if_icmp .le 20, 3) := by decide +kernel
theorem dX11_canFollow_90 : decode cX11_canFollow 90 = .ok (.aload_n 2, 1) := by decide +kernel
theorem dX11_canFollow_91 : decode cX11_canFollow 91 = .ok (.getfield 250, 3) := by decide +kernel
theorem dX11_canFollow_94 : decode cX11_canFollow 94 = .ok (.arraylength, 1) := by decide +kernel
theorem dX11_canFollow_95 : decode cX11_canFollow 95 = .ok (.aload 5, 2) := by decide +kernel
theorem dX11_canFollow_97 : decode cX11_canFollow 97 = .ok (.getfield 280, 3) := by decide +kernel
theorem dX11_canFollow_100 : decode cX11_canFollow 100 = .ok (.if_icmp .le 7, 3) := by decide +kernel
theorem dX11_canFollow_103 : decode cX11_canFollow 103 = .ok (.iconst 1, 1) := by decide +kernel
theorem dX11_canFollow_104 : decode cX11_canFollow 104 = .ok (.goto 4, 3) := by decide +kernel
theorem dX11_canFollow_107 : decode cX11_canFollow 107 = .ok (.iconst 0, 1) := by decide +kernel
theorem dX11_canFollow_108 : decode cX11_canFollow 108 = .ok (.ireturn, 1) := by decide +kernel
theorem dX11_toldPath_0 : decode cX11_toldPath 0 = .ok (.aload_n 0, 1) := by decide +kernel
theorem dX11_toldPath_1 : decode cX11_toldPath 1 = .ok (.getfield 44, 3) := by decide +kernel
theorem dX11_toldPath_4 : decode cX11_toldPath 4 = .ok (.ifnull 30, 3) := by decide +kernel
theorem dX11_toldPath_7 : decode cX11_toldPath 7 = .ok (.iload_n 1, 1) := by decide +kernel
theorem dX11_toldPath_8 : decode cX11_toldPath 8 = .ok (.ifCond .lt 26, 3) := by decide +kernel
theorem dX11_toldPath_11 : decode cX11_toldPath 11 = .ok (.iload_n 1, 1) := by decide +kernel
theorem dX11_toldPath_12 : decode cX11_toldPath 12 = .ok (.aload_n 0, 1) := by decide +kernel
theorem dX11_toldPath_13 : decode cX11_toldPath 13 = .ok (.getfield 44, 3) := by decide +kernel
theorem dX11_toldPath_16 : decode cX11_toldPath 16 = .ok (.getfield 202, 3) := by decide +kernel
theorem dX11_toldPath_19 : decode cX11_toldPath 19 = .ok (.if_icmp .ge 15, 3) := by decide +kernel
theorem dX11_toldPath_22 : decode cX11_toldPath 22 = .ok (.aload_n 0, 1) := by decide +kernel
theorem dX11_toldPath_23 : decode cX11_toldPath 23 = .ok (.getfield 44, 3) := by decide +kernel
theorem dX11_toldPath_26 : decode cX11_toldPath 26 = .ok (.getfield 283, 3) := by decide +kernel
theorem dX11_toldPath_29 : decode cX11_toldPath 29 = .ok (.iload_n 1, 1) := by decide +kernel
theorem dX11_toldPath_30 : decode cX11_toldPath 30 = .ok (.aaload, 1) := by decide +kernel
theorem dX11_toldPath_31 : decode cX11_toldPath 31 = .ok (.goto 4, 3) := by decide +kernel
theorem dX11_toldPath_34 : decode cX11_toldPath 34 = .ok (.aconst_null, 1) := by decide +kernel
theorem dX11_toldPath_35 : decode cX11_toldPath 35 = .ok (.areturn, 1) := by decide +kernel
