set_option maxRecDepth 100000 in
set_option maxHeartbeats 0 in
theorem kz_N19_34 : ak_chN kz_M kz_CF kz_K kz_t19 154 kz_e19 kz_l19 3000 kz_n19_34 = true := by decide +kernel
set_option maxRecDepth 100000 in
set_option maxHeartbeats 0 in
theorem kz_N19_35 : ak_chN kz_M kz_CF kz_K kz_t19 154 kz_e19 kz_l19 3000 kz_n19_35 = true := by decide +kernel
set_option maxRecDepth 100000 in
set_option maxHeartbeats 0 in
theorem kz_N19_36 : ak_chN kz_M kz_CF kz_K kz_t19 154 kz_e19 kz_l19 3000 kz_n19_36 = true := by decide +kernel
set_option maxRecDepth 100000 in
set_option maxHeartbeats 0 in
theorem kz_N19_37 : ak_chN kz_M kz_CF kz_K kz_t19 154 kz_e19 kz_l19 3000 kz_n19_37 = true := by decide +kernel
set_option maxRecDepth 100000 in
set_option maxHeartbeats 0 in
theorem kz_N19_38 : ak_chN kz_M kz_CF kz_K kz_t19 154 kz_e19 kz_l19 3000 kz_n19_38 = true := by decide +kernel
set_option maxRecDepth 100000 in
set_option maxHeartbeats 0 in
theorem kz_N19_39 : ak_chN kz_M kz_CF kz_K kz_t19 154 kz_e19 kz_l19 3000 kz_n19_39 = true := by decide +kernel
set_option maxRecDepth 100000 in
set_option maxHeartbeats 0 in
theorem kz_N19_40 : ak_chN kz_M kz_CF kz_K kz_t19 154 kz_e19 kz_l19 3000 kz_n19_40 = true := by decide +kernel
set_option maxRecDepth 100000 in
set_option maxHeartbeats 0 in
theorem kz_N19_41 : ak_chN kz_M kz_CF kz_K kz_t19 154 kz_e19 kz_l19 3000 kz_n19_41 = true := by decide +kernel
set_option maxRecDepth 100000 in
set_option maxHeartbeats 0 in
theorem kz_N19_42 : ak_chN kz_M kz_CF kz_K kz_t19 154 kz_e19 kz_l19 3000 kz_n19_42 = true := by decide +kernel
set_option maxRecDepth 100000 in
set_option maxHeartbeats 0 in
theorem kz_N19_43 : ak_chN kz_M kz_CF kz_K kz_t19 154 kz_e19 kz_l19 3000 kz_n19_43 = true := by decide +kernel
set_option maxRecDepth 100000 in
set_option maxHeartbeats 0 in
theorem kz_N19_44 : ak_chN kz_M kz_CF kz_K kz_t19 154 kz_e19 kz_l19 3000 kz_n19_44 = true := by decide +kernel
set_option maxRecDepth 100000 in
set_option maxHeartbeats 0 in
theorem kz_N19_45 : ak_chN kz_M kz_CF kz_K kz_t19 154 kz_e19 kz_l19 3000 kz_n19_45 = true := by decide +kernel
set_option maxRecDepth 100000 in
set_option maxHeartbeats 0 in
theorem kz_N19_46 : ak_chN kz_M kz_CF kz_K kz_t19 154 kz_e19 kz_l19 3000 kz_n19_46 = true := by decide +kernel
set_option maxRecDepth 100000 in
set_option maxHeartbeats 0 in
theorem kz_N19_47 : ak_chN kz_M kz_CF kz_K kz_t19 154 kz_e19 kz_l19 3000 kz_n19_47 = true := by decide +kernel
set_option maxRecDepth 100000 in
set_option maxHeartbeats 0 in
theorem kz_N19_48 : ak_chN kz_M kz_CF kz_K kz_t19 154 kz_e19 kz_l19 3000 kz_n19_48 = true := by decide +kernel
set_option maxRecDepth 100000 in
set_option maxHeartbeats 0 in
theorem kz_N19_49 : ak_chN kz_M kz_CF kz_K kz_t19 154 kz_e19 kz_l19 3000 kz_n19_49 = true := by decide +kernel
set_option maxRecDepth 100000 in
set_option maxHeartbeats 0 in
theorem kz_N19_50 : ak_chN kz_M kz_CF kz_K kz_t19 154 kz_e19 kz_l19 3000 kz_n19_50 = true := by decide +kernel
set_option maxRecDepth 100000 in
set_option maxHeartbeats 0 in
theorem kz_N19_51 : ak_chN kz_M kz_CF kz_K kz_t19 154 kz_e19 kz_l19 3000 kz_n19_51 = true := by decide +kernel
set_option maxRecDepth 100000 in
set_option maxHeartbeats 0 in
theorem kz_N19_52 : ak_chN kz_M kz_CF kz_K kz_t19 154 kz_e19 kz_l19 3000 kz_n19_52 = true := by decide +kernel
set_option maxRecDepth 100000 in
set_option maxHeartbeats 0 in
theorem kz_N19_53 : ak_chN kz_M kz_CF kz_K kz_t19 154 kz_e19 kz_l19 3000 kz_n19_53 = true := by decide +kernel
set_option maxRecDepth 100000 in
set_option maxHeartbeats 0 in
theorem kz_N19_54 : ak_chN kz_M kz_CF kz_K kz_t19 154 kz_e19 kz_l19 3000 kz_n19_54 = true := by decide +kernel
set_option maxRecDepth 100000 in
set_option maxHeartbeats 0 in
theorem kz_N19_55 : ak_chN kz_M kz_CF kz_K kz_t19 154 kz_e19 kz_l19 3000 kz_n19_55 = true := by decide +kernel
set_option maxRecDepth 100000 in
set_option maxHeartbeats 0 in
theorem kz_N19_56 : ak_chN kz_M kz_CF kz_K kz_t19 154 kz_e19 kz_l19 3000 kz_n19_56 = true := by decide +kernel
set_option maxRecDepth 100000 in
set_option maxHeartbeats 0 in
theorem kz_N19_57 : ak_chN kz_M kz_CF kz_K kz_t19 154 kz_e19 kz_l19 3000 kz_n19_57 = true := by decide +kernel
set_option maxRecDepth 100000 in
set_option maxHeartbeats 0 in
theorem kz_N19_58 : ak_chN kz_M kz_CF kz_K kz_t19 154 kz_e19 kz_l19 3000 kz_n19_58 = true := by decide +kernel
set_option maxRecDepth 100000 in
set_option maxHeartbeats 0 in
theorem kz_N19_59 : ak_chN kz_M kz_CF kz_K kz_t19 154 kz_e19 kz_l19 3000 kz_n19_59 = true := by decide +kernel
set_option maxRecDepth 100000 in
set_option maxHeartbeats 0 in
theorem kz_N19_60 : ak_chN kz_M kz_CF kz_K kz_t19 154 kz_e19 kz_l19 3000 kz_n19_60 = true := by decide +kernel
set_option maxRecDepth 100000 in
set_option maxHeartbeats 0 in
theorem kz_N19_61 : ak_chN kz_M kz_CF kz_K kz_t19 154 kz_e19 kz_l19 3000 kz_n19_61 = true := by decide +kernel
set_option maxRecDepth 100000 in
set_option maxHeartbeats 0 in
theorem kz_N19_62 : ak_chN kz_M kz_CF kz_K kz_t19 154 kz_e19 kz_l19 3000 kz_n19_62 = true := by decide +kernel
set_option maxRecDepth 100000 in
set_option maxHeartbeats 0 in
theorem kz_N19_63 : ak_chN kz_M kz_CF kz_K kz_t19 154 kz_e19 kz_l19 3000 kz_n19_63 = true := by decide +kernel
set_option maxRecDepth 100000 in
set_option maxHeartbeats 0 in
theorem kz_N19_64 : ak_chN kz_M kz_CF kz_K kz_t19 154 kz_e19 kz_l19 3000 kz_n19_64 = true := by decide +kernel
set_option maxRecDepth 100000 in
set_option maxHeartbeats 0 in
theorem kz_N19_65 : ak_chN kz_M kz_CF kz_K kz_t19 154 kz_e19 kz_l19 3000 kz_n19_65 = true := by decide +kernel
set_option maxRecDepth 100000 in
set_option maxHeartbeats 0 in
theorem kz_N19_66 : ak_chN kz_M kz_CF kz_K kz_t19 154 kz_e19 kz_l19 3000 kz_n19_66 = true := by decide +kernel
set_option maxRecDepth 100000 in
set_option maxHeartbeats 0 in
theorem kz_N19_67 : ak_chN kz_M kz_CF kz_K kz_t19 154 kz_e19 kz_l19 3000 kz_n19_67 = true := by decide +kernel
set_option maxRecDepth 100000 in
set_option maxHeartbeats 0 in
theorem kz_N19_68 : ak_chN kz_M kz_CF kz_K kz_t19 154 kz_e19 kz_l19 3000 kz_n19_68 = true := by decide +kernel
set_option maxRecDepth 100000 in
set_option maxHeartbeats 0 in
theorem kz_N19_69 : ak_chN kz_M kz_CF kz_K kz_t19 154 kz_e19 kz_l19 3000 kz_n19_69 = true := by decide +kernel
set_option maxRecDepth 100000 in
set_option maxHeartbeats 0 in
theorem kz_N19_70 : ak_chN kz_M kz_CF kz_K kz_t19 154 kz_e19 kz_l19 3000 kz_n19_70 = true := by decide +kernel
set_option maxRecDepth 100000 in
set_option maxHeartbeats 0 in
theorem kz_N19_71 : ak_chN kz_M kz_CF kz_K kz_t19 154 kz_e19 kz_l19 3000 kz_n19_71 = true := by decide +kernel
set_option maxRecDepth 100000 in
set_option maxHeartbeats 0 in
theorem kz_N19_72 : ak_chN kz_M kz_CF kz_K kz_t19 154 kz_e19 kz_l19 3000 kz_n19_72 = true := by decide +kernel
set_option maxRecDepth 100000 in
set_option maxHeartbeats 0 in
theorem kz_N19_73 : ak_chN kz_M kz_CF kz_K kz_t19 154 kz_e19 kz_l19 3000 kz_n19_73 = true := by decide +kernel
set_option maxRecDepth 100000 in
set_option maxHeartbeats 0 in
theorem kz_N19_74 : ak_chN kz_M kz_CF kz_K kz_t19 154 kz_e19 kz_l19 3000 kz_n19_74 = true := by decide +kernel
set_option maxRecDepth 100000 in
set_option maxHeartbeats 0 in
theorem kz_N19_75 : ak_chN kz_M kz_CF kz_K kz_t19 154 kz_e19 kz_l19 3000 kz_n19_75 = true := by decide +kernel
set_option maxRecDepth 100000 in
set_option maxHeartbeats 0 in
theorem kz_N19_76 : ak_chN kz_M kz_CF kz_K kz_t19 154 kz_e19 kz_l19 3000 kz_n19_76 = true := by decide +kernel
set_option maxRecDepth 100000 in
set_option maxHeartbeats 0 in
theorem kz_N19_77 : ak_chN kz_M kz_CF kz_K kz_t19 154 kz_e19 kz_l19 3000 kz_n19_77 = true := by decide +kernel
set_option maxRecDepth 100000 in
set_option maxHeartbeats 0 in
theorem kz_N19_78 : ak_chN kz_M kz_CF kz_K kz_t19 154 kz_e19 kz_l19 3000 kz_n19_78 = true := by decide +kernel
set_option maxRecDepth 100000 in
set_option maxHeartbeats 0 in
theorem kz_N19_79 : ak_chN kz_M kz_CF kz_K kz_t19 154 kz_e19 kz_l19 3000 kz_n19_79 = true := by decide +kernel
set_option maxRecDepth 100000 in
set_option maxHeartbeats 0 in
theorem kz_N19_80 : ak_chN kz_M kz_CF kz_K kz_t19 154 kz_e19 kz_l19 3000 kz_n19_80 = true := by decide +kernel
set_option maxRecDepth 100000 in
set_option maxHeartbeats 0 in
theorem kz_N19_81 : ak_chN kz_M kz_CF kz_K kz_t19 154 kz_e19 kz_l19 3000 kz_n19_81 = true := by decide +kernel
set_option maxRecDepth 100000 in
set_option maxHeartbeats 0 in
theorem kz_N19_82 : ak_chN kz_M kz_CF kz_K kz_t19 154 kz_e19 kz_l19 3000 kz_n19_82 = true := by decide +kernel
set_option maxRecDepth 100000 in
set_option maxHeartbeats 0 in
theorem kz_N19_83 : ak_chN kz_M kz_CF kz_K kz_t19 154 kz_e19 kz_l19 3000 kz_n19_83 = true := by decide +kernel
set_option maxRecDepth 100000 in
set_option maxHeartbeats 0 in
theorem kz_N19_84 : ak_chN kz_M kz_CF kz_K kz_t19 154 kz_e19 kz_l19 3000 kz_n19_84 = true := by decide +kernel
set_option maxRecDepth 100000 in
set_option maxHeartbeats 0 in
theorem kz_N19_85 : ak_chN kz_M kz_CF kz_K kz_t19 154 kz_e19 kz_l19 3000 kz_n19_85 = true := by decide +kernel
set_option maxRecDepth 100000 in
set_option maxHeartbeats 0 in
theorem kz_N19_86 : ak_chN kz_M kz_CF kz_K kz_t19 154 kz_e19 kz_l19 3000 kz_n19_86 = true := by decide +kernel
set_option maxRecDepth 100000 in
set_option maxHeartbeats 0 in
theorem kz_N19_87 : ak_chN kz_M kz_CF kz_K kz_t19 154 kz_e19 kz_l19 3000 kz_n19_87 = true := by decide +kernel
set_option maxRecDepth 100000 in
set_option maxHeartbeats 0 in
theorem kz_N19_88 : ak_chN kz_M kz_CF kz_K kz_t19 154 kz_e19 kz_l19 3000 kz_n19_88 = true := by decide +kernel
set_option maxRecDepth 100000 in
set_option maxHeartbeats 0 in
theorem kz_N19_89 : ak_chN kz_M kz_CF kz_K kz_t19 154 kz_e19 kz_l19 3000 kz_n19_89 = true := by decide +kernel
set_option maxRecDepth 100000 in
set_option maxHeartbeats 0 in
theorem kz_N19_90 : ak_chN kz_M kz_CF kz_K kz_t19 154 kz_e19 kz_l19 3000 kz_n19_90 = true := by decide +kernel
set_option maxRecDepth 100000 in
set_option maxHeartbeats 0 in
theorem kz_N19_91 : ak_chN kz_M kz_CF kz_K kz_t19 154 kz_e19 kz_l19 3000 kz_n19_91 = true := by decide +kernel
set_option maxRecDepth 100000 in
set_option maxHeartbeats 0 in
theorem kz_N19_92 : ak_chN kz_M kz_CF kz_K kz_t19 154 kz_e19 kz_l19 3000 kz_n19_92 = true := by decide +kernel
set_option maxRecDepth 100000 in
set_option maxHeartbeats 0 in
theorem kz_N19_93 : ak_chN kz_M kz_CF kz_K kz_t19 154 kz_e19 kz_l19 3000 kz_n19_93 = true := by decide +kernel
set_option maxRecDepth 100000 in
set_option maxHeartbeats 0 in
theorem kz_N19_94 : ak_chN kz_M kz_CF kz_K kz_t19 154 kz_e19 kz_l19 3000 kz_n19_94 = true := by decide +kernel
set_option maxRecDepth 100000 in
set_option maxHeartbeats 0 in
theorem kz_N19_95 : ak_chN kz_M kz_CF kz_K kz_t19 154 kz_e19 kz_l19 3000 kz_n19_95 = true := by decide +kernel
set_option maxRecDepth 100000 in
set_option maxHeartbeats 0 in
theorem kz_N19_96 : ak_chN kz_M kz_CF kz_K kz_t19 154 kz_e19 kz_l19 3000 kz_n19_96 = true := by decide +kernel
set_option maxRecDepth 100000 in
set_option maxHeartbeats 0 in
theorem kz_N19_97 : ak_chN kz_M kz_CF kz_K kz_t19 154 kz_e19 kz_l19 3000 kz_n19_97 = true := by decide +kernel
set_option maxRecDepth 100000 in
set_option maxHeartbeats 0 in
theorem kz_N19_98 : ak_chN kz_M kz_CF kz_K kz_t19 154 kz_e19 kz_l19 3000 kz_n19_98 = true := by decide +kernel
set_option maxRecDepth 100000 in
set_option maxHeartbeats 0 in
theorem kz_N19_99 : ak_chN kz_M kz_CF kz_K kz_t19 154 kz_e19 kz_l19 3000 kz_n19_99 = true := by decide +kernel
set_option maxRecDepth 100000 in
set_option maxHeartbeats 0 in
theorem kz_N19_100 : ak_chN kz_M kz_CF kz_K kz_t19 154 kz_e19 kz_l19 3000 kz_n19_100 = true := by decide +kernel
set_option maxRecDepth 100000 in
set_option maxHeartbeats 0 in
theorem kz_N19_101 : ak_chN kz_M kz_CF kz_K kz_t19 154 kz_e19 kz_l19 3000 kz_n19_101 = true := by decide +kernel
set_option maxRecDepth 100000 in
set_option maxHeartbeats 0 in
theorem kz_N19_102 : ak_chN kz_M kz_CF kz_K kz_t19 154 kz_e19 kz_l19 3000 kz_n19_102 = true := by decide +kernel
set_option maxRecDepth 100000 in
set_option maxHeartbeats 0 in
theorem kz_N19_103 : ak_chN kz_M kz_CF kz_K kz_t19 154 kz_e19 kz_l19 3000 kz_n19_103 = true := by decide +kernel
set_option maxRecDepth 100000 in
set_option maxHeartbeats 0 in
theorem kz_N19_104 : ak_chN kz_M kz_CF kz_K kz_t19 154 kz_e19 kz_l19 3000 kz_n19_104 = true := by decide +kernel
set_option maxRecDepth 100000 in
set_option maxHeartbeats 0 in
theorem kz_N19_105 : ak_chN kz_M kz_CF kz_K kz_t19 154 kz_e19 kz_l19 3000 kz_n19_105 = true := by decide +kernel
set_option maxRecDepth 100000 in
set_option maxHeartbeats 0 in
theorem kz_N19_106 : ak_chN kz_M kz_CF kz_K kz_t19 154 kz_e19 kz_l19 3000 kz_n19_106 = true := by decide +kernel
set_option maxRecDepth 100000 in
set_option maxHeartbeats 0 in
theorem kz_N19_107 : ak_chN kz_M kz_CF kz_K kz_t19 154 kz_e19 kz_l19 3000 kz_n19_107 = true := by decide +kernel
set_option maxRecDepth 100000 in
set_option maxHeartbeats 0 in
theorem kz_N19_108 : ak_chN kz_M kz_CF kz_K kz_t19 154 kz_e19 kz_l19 3000 kz_n19_108 = true := by decide +kernel
set_option maxRecDepth 100000 in
set_option maxHeartbeats 0 in
theorem kz_N19_109 : ak_chN kz_M kz_CF kz_K kz_t19 154 kz_e19 kz_l19 3000 kz_n19_109 = true := by decide +kernel
set_option maxRecDepth 100000 in
set_option maxHeartbeats 0 in
theorem kz_N19_110 : ak_chN kz_M kz_CF kz_K kz_t19 154 kz_e19 kz_l19 3000 kz_n19_110 = true := by decide +kernel
set_option maxRecDepth 100000 in
set_option maxHeartbeats 0 in
theorem kz_N19_111 : ak_chN kz_M kz_CF kz_K kz_t19 154 kz_e19 kz_l19 3000 kz_n19_111 = true := by decide +kernel
set_option maxRecDepth 100000 in
set_option maxHeartbeats 0 in
theorem kz_N19_112 : ak_chN kz_M kz_CF kz_K kz_t19 154 kz_e19 kz_l19 3000 kz_n19_112 = true := by decide +kernel
set_option maxRecDepth 100000 in
set_option maxHeartbeats 0 in
theorem kz_N19_113 : ak_chN kz_M kz_CF kz_K kz_t19 154 kz_e19 kz_l19 3000 kz_n19_113 = true := by decide +kernel
set_option maxRecDepth 100000 in
set_option maxHeartbeats 0 in
theorem kz_N19_114 : ak_chN kz_M kz_CF kz_K kz_t19 154 kz_e19 kz_l19 3000 kz_n19_114 = true := by decide +kernel
set_option maxRecDepth 100000 in
set_option maxHeartbeats 0 in
theorem kz_N19_115 : ak_chN kz_M kz_CF kz_K kz_t19 154 kz_e19 kz_l19 3000 kz_n19_115 = true := by decide +kernel
set_option maxRecDepth 100000 in
set_option maxHeartbeats 0 in
theorem kz_N19_116 : ak_chN kz_M kz_CF kz_K kz_t19 154 kz_e19 kz_l19 3000 kz_n19_116 = true := by decide +kernel
set_option maxRecDepth 100000 in
set_option maxHeartbeats 0 in
theorem kz_N19_117 : ak_chN kz_M kz_CF kz_K kz_t19 154 kz_e19 kz_l19 3000 kz_n19_117 = true := by decide +kernel
set_option maxRecDepth 100000 in
set_option maxHeartbeats 0 in
theorem kz_N19_118 : ak_chN kz_M kz_CF kz_K kz_t19 154 kz_e19 kz_l19 3000 kz_n19_118 = true := by decide +kernel
set_option maxRecDepth 100000 in
set_option maxHeartbeats 0 in
theorem kz_N19_119 : ak_chN kz_M kz_CF kz_K kz_t19 154 kz_e19 kz_l19 3000 kz_n19_119 = true := by decide +kernel
set_option maxRecDepth 100000 in
set_option maxHeartbeats 0 in
theorem kz_N19_120 : ak_chN kz_M kz_CF kz_K kz_t19 154 kz_e19 kz_l19 3000 kz_n19_120 = true := by decide +kernel
set_option maxRecDepth 100000 in
set_option maxHeartbeats 0 in
theorem kz_N19_121 : ak_chN kz_M kz_CF kz_K kz_t19 154 kz_e19 kz_l19 3000 kz_n19_121 = true := by decide +kernel
set_option maxRecDepth 100000 in
set_option maxHeartbeats 0 in
theorem kz_N19_122 : ak_chN kz_M kz_CF kz_K kz_t19 154 kz_e19 kz_l19 3000 kz_n19_122 = true := by decide +kernel
set_option maxRecDepth 100000 in
set_option maxHeartbeats 0 in
theorem kz_N19_123 : ak_chN kz_M kz_CF kz_K kz_t19 154 kz_e19 kz_l19 3000 kz_n19_123 = true := by decide +kernel
set_option maxRecDepth 100000 in
set_option maxHeartbeats 0 in
theorem kz_N19_124 : ak_chN kz_M kz_CF kz_K kz_t19 154 kz_e19 kz_l19 3000 kz_n19_124 = true := by decide +kernel
set_option maxRecDepth 100000 in
set_option maxHeartbeats 0 in
theorem kz_N19_125 : ak_chN kz_M kz_CF kz_K kz_t19 154 kz_e19 kz_l19 3000 kz_n19_125 = true := by decide +kernel
set_option maxRecDepth 100000 in
set_option maxHeartbeats 0 in
theorem kz_N19_126 : ak_chN kz_M kz_CF kz_K kz_t19 154 kz_e19 kz_l19 3000 kz_n19_126 = true := by decide +kernel
set_option maxRecDepth 100000 in
set_option maxHeartbeats 0 in
theorem kz_N19_127 : ak_chN kz_M kz_CF kz_K kz_t19 154 kz_e19 kz_l19 3000 kz_n19_127 = true := by decide +kernel
set_option maxRecDepth 100000 in
set_option maxHeartbeats 0 in
theorem kz_N19_128 : ak_chN kz_M kz_CF kz_K kz_t19 154 kz_e19 kz_l19 3000 kz_n19_128 = true := by decide +kernel
set_option maxRecDepth 100000 in
set_option maxHeartbeats 0 in
theorem kz_N19_129 : ak_chN kz_M kz_CF kz_K kz_t19 154 kz_e19 kz_l19 3000 kz_n19_129 = true := by decide +kernel
set_option maxRecDepth 100000 in
set_option maxHeartbeats 0 in
theorem kz_N19_130 : ak_chN kz_M kz_CF kz_K kz_t19 154 kz_e19 kz_l19 3000 kz_n19_130 = true := by decide +kernel
set_option maxRecDepth 100000 in
set_option maxHeartbeats 0 in
theorem kz_N19_131 : ak_chN kz_M kz_CF kz_K kz_t19 154 kz_e19 kz_l19 3000 kz_n19_131 = true := by decide +kernel
set_option maxRecDepth 100000 in
set_option maxHeartbeats 0 in
theorem kz_N19_132 : ak_chN kz_M kz_CF kz_K kz_t19 154 kz_e19 kz_l19 3000 kz_n19_132 = true := by decide +kernel
set_option maxRecDepth 100000 in
set_option maxHeartbeats 0 in
theorem kz_N19_133 : ak_chN kz_M kz_CF kz_K kz_t19 154 kz_e19 kz_l19 3000 kz_n19_133 = true := by decide +kernel
set_option maxRecDepth 100000 in
set_option maxHeartbeats 0 in
theorem kz_N19_134 : ak_chN kz_M kz_CF kz_K kz_t19 154 kz_e19 kz_l19 3000 kz_n19_134 = true := by decide +kernel
set_option maxRecDepth 100000 in
set_option maxHeartbeats 0 in
theorem kz_N19_135 : ak_chN kz_M kz_CF kz_K kz_t19 154 kz_e19 kz_l19 3000 kz_n19_135 = true := by decide +kernel
set_option maxRecDepth 100000 in
set_option maxHeartbeats 0 in
theorem kz_N19_136 : ak_chN kz_M kz_CF kz_K kz_t19 154 kz_e19 kz_l19 3000 kz_n19_136 = true := by decide +kernel
set_option maxRecDepth 100000 in
set_option maxHeartbeats 0 in
theorem kz_N19_137 : ak_chN kz_M kz_CF kz_K kz_t19 154 kz_e19 kz_l19 3000 kz_n19_137 = true := by decide +kernel
set_option maxRecDepth 100000 in
set_option maxHeartbeats 0 in
theorem kz_N19_138 : ak_chN kz_M kz_CF kz_K kz_t19 154 kz_e19 kz_l19 3000 kz_n19_138 = true := by decide +kernel
set_option maxRecDepth 100000 in
set_option maxHeartbeats 0 in
theorem kz_N19_139 : ak_chN kz_M kz_CF kz_K kz_t19 154 kz_e19 kz_l19 3000 kz_n19_139 = true := by decide +kernel
set_option maxRecDepth 100000 in
set_option maxHeartbeats 0 in
theorem kz_N19_140 : ak_chN kz_M kz_CF kz_K kz_t19 154 kz_e19 kz_l19 3000 kz_n19_140 = true := by decide +kernel
set_option maxRecDepth 100000 in
set_option maxHeartbeats 0 in
theorem kz_N19_141 : ak_chN kz_M kz_CF kz_K kz_t19 154 kz_e19 kz_l19 3000 kz_n19_141 = true := by decide +kernel
set_option maxRecDepth 100000 in
set_option maxHeartbeats 0 in
theorem kz_N19_142 : ak_chN kz_M kz_CF kz_K kz_t19 154 kz_e19 kz_l19 3000 kz_n19_142 = true := by decide +kernel
set_option maxRecDepth 100000 in
set_option maxHeartbeats 0 in
theorem kz_N19_143 : ak_chN kz_M kz_CF kz_K kz_t19 154 kz_e19 kz_l19 3000 kz_n19_143 = true := by decide +kernel
set_option maxRecDepth 100000 in
set_option maxHeartbeats 0 in
theorem kz_N19_144 : ak_chN kz_M kz_CF kz_K kz_t19 154 kz_e19 kz_l19 3000 kz_n19_144 = true := by decide +kernel
set_option maxRecDepth 100000 in
set_option maxHeartbeats 0 in
theorem kz_N19_145 : ak_chN kz_M kz_CF kz_K kz_t19 154 kz_e19 kz_l19 3000 kz_n19_145 = true := by decide +kernel
set_option maxRecDepth 100000 in
set_option maxHeartbeats 0 in
theorem kz_N19_146 : ak_chN kz_M kz_CF kz_K kz_t19 154 kz_e19 kz_l19 3000 kz_n19_146 = true := by decide +kernel
set_option maxRecDepth 100000 in
set_option maxHeartbeats 0 in
theorem kz_N19_147 : ak_chN kz_M kz_CF kz_K kz_t19 154 kz_e19 kz_l19 3000 kz_n19_147 = true := by decide +kernel
set_option maxRecDepth 100000 in
set_option maxHeartbeats 0 in
theorem kz_N19_148 : ak_chN kz_M kz_CF kz_K kz_t19 154 kz_e19 kz_l19 3000 kz_n19_148 = true := by decide +kernel
set_option maxRecDepth 100000 in
set_option maxHeartbeats 0 in
theorem kz_N19_149 : ak_chN kz_M kz_CF kz_K kz_t19 154 kz_e19 kz_l19 3000 kz_n19_149 = true := by decide +kernel
set_option maxRecDepth 100000 in
set_option maxHeartbeats 0 in
theorem kz_N19_150 : ak_chN kz_M kz_CF kz_K kz_t19 154 kz_e19 kz_l19 3000 kz_n19_150 = true := by decide +kernel
set_option maxRecDepth 100000 in
set_option maxHeartbeats 0 in
theorem kz_N19_151 : ak_chN kz_M kz_CF kz_K kz_t19 154 kz_e19 kz_l19 3000 kz_n19_151 = true := by decide +kernel
set_option maxRecDepth 100000 in
set_option maxHeartbeats 0 in
theorem kz_N19_152 : ak_chN kz_M kz_CF kz_K kz_t19 154 kz_e19 kz_l19 3000 kz_n19_152 = true := by decide +kernel
set_option maxRecDepth 100000 in
set_option maxHeartbeats 0 in
theorem kz_N19_153 : ak_chN kz_M kz_CF kz_K kz_t19 154 kz_e19 kz_l19 3000 kz_n19_153 = true := by decide +kernel
set_option maxRecDepth 100000 in
set_option maxHeartbeats 0 in
theorem kz_N19_154 : ak_chN kz_M kz_CF kz_K kz_t19 154 kz_e19 kz_l19 3000 kz_n19_154 = true := by decide +kernel
set_option maxRecDepth 100000 in
set_option maxHeartbeats 0 in
theorem kz_N19_155 : ak_chN kz_M kz_CF kz_K kz_t19 154 kz_e19 kz_l19 3000 kz_n19_155 = true := by decide +kernel
set_option maxRecDepth 100000 in
set_option maxHeartbeats 0 in
theorem kz_N19_156 : ak_chN kz_M kz_CF kz_K kz_t19 154 kz_e19 kz_l19 3000 kz_n19_156 = true := by decide +kernel
set_option maxRecDepth 100000 in
set_option maxHeartbeats 0 in
theorem kz_N19_157 : ak_chN kz_M kz_CF kz_K kz_t19 154 kz_e19 kz_l19 3000 kz_n19_157 = true := by decide +kernel
set_option maxRecDepth 100000 in
set_option maxHeartbeats 0 in
theorem kz_N19_158 : ak_chN kz_M kz_CF kz_K kz_t19 154 kz_e19 kz_l19 3000 kz_n19_158 = true := by decide +kernel
set_option maxRecDepth 100000 in
set_option maxHeartbeats 0 in
theorem kz_N19_159 : ak_chN kz_M kz_CF kz_K kz_t19 154 kz_e19 kz_l19 3000 kz_n19_159 = true := by decide +kernel
set_option maxRecDepth 100000 in
set_option maxHeartbeats 0 in
theorem kz_N19_160 : ak_chN kz_M kz_CF kz_K kz_t19 154 kz_e19 kz_l19 3000 kz_n19_160 = true := by decide +kernel
set_option maxRecDepth 100000 in
set_option maxHeartbeats 0 in
theorem kz_N19_161 : ak_chN kz_M kz_CF kz_K kz_t19 154 kz_e19 kz_l19 3000 kz_n19_161 = true := by decide +kernel
set_option maxRecDepth 100000 in
set_option maxHeartbeats 0 in
theorem kz_N19_162 : ak_chN kz_M kz_CF kz_K kz_t19 154 kz_e19 kz_l19 3000 kz_n19_162 = true := by decide +kernel
set_option maxRecDepth 100000 in
set_option maxHeartbeats 0 in
theorem kz_N19_163 : ak_chN kz_M kz_CF kz_K kz_t19 154 kz_e19 kz_l19 3000 kz_n19_163 = true := by decide +kernel
set_option maxRecDepth 100000 in
set_option maxHeartbeats 0 in
theorem kz_W20 : ak_chW kz_M kz_e20 kz_l20 = true := by decide +kernel
set_option maxRecDepth 100000 in
set_option maxHeartbeats 0 in
theorem kz_E20 : ak_chS kz_K 142 kz_e20 = true ∧ ak_chE kz_M kz_CF kz_K kz_t20 142 kz_e20 kz_l20 3000 = true := by decide +kernel
set_option maxRecDepth 100000 in
set_option maxHeartbeats 0 in
theorem kz_W21 : ak_chW kz_M kz_e21 kz_l21 = true := by decide +kernel
