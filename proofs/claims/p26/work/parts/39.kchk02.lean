set_option maxRecDepth 100000 in
set_option maxHeartbeats 0 in
theorem kz_N21_18 : ak_chN kz_M kz_CF kz_K kz_t21 154 kz_e21 kz_l21 3000 kz_n21_18 = true := by decide +kernel
set_option maxRecDepth 100000 in
set_option maxHeartbeats 0 in
theorem kz_N21_19 : ak_chN kz_M kz_CF kz_K kz_t21 154 kz_e21 kz_l21 3000 kz_n21_19 = true := by decide +kernel
set_option maxRecDepth 100000 in
set_option maxHeartbeats 0 in
theorem kz_N21_20 : ak_chN kz_M kz_CF kz_K kz_t21 154 kz_e21 kz_l21 3000 kz_n21_20 = true := by decide +kernel
set_option maxRecDepth 100000 in
set_option maxHeartbeats 0 in
theorem kz_N21_21 : ak_chN kz_M kz_CF kz_K kz_t21 154 kz_e21 kz_l21 3000 kz_n21_21 = true := by decide +kernel
set_option maxRecDepth 100000 in
set_option maxHeartbeats 0 in
theorem kz_N21_22 : ak_chN kz_M kz_CF kz_K kz_t21 154 kz_e21 kz_l21 3000 kz_n21_22 = true := by decide +kernel
set_option maxRecDepth 100000 in
set_option maxHeartbeats 0 in
theorem kz_N21_23 : ak_chN kz_M kz_CF kz_K kz_t21 154 kz_e21 kz_l21 3000 kz_n21_23 = true := by decide +kernel
set_option maxRecDepth 100000 in
set_option maxHeartbeats 0 in
theorem kz_N21_24 : ak_chN kz_M kz_CF kz_K kz_t21 154 kz_e21 kz_l21 3000 kz_n21_24 = true := by decide +kernel
set_option maxRecDepth 100000 in
set_option maxHeartbeats 0 in
theorem kz_N21_25 : ak_chN kz_M kz_CF kz_K kz_t21 154 kz_e21 kz_l21 3000 kz_n21_25 = true := by decide +kernel
set_option maxRecDepth 100000 in
set_option maxHeartbeats 0 in
theorem kz_N21_26 : ak_chN kz_M kz_CF kz_K kz_t21 154 kz_e21 kz_l21 3000 kz_n21_26 = true := by decide +kernel
set_option maxRecDepth 100000 in
set_option maxHeartbeats 0 in
theorem kz_N21_27 : ak_chN kz_M kz_CF kz_K kz_t21 154 kz_e21 kz_l21 3000 kz_n21_27 = true := by decide +kernel
set_option maxRecDepth 100000 in
set_option maxHeartbeats 0 in
theorem kz_N21_28 : ak_chN kz_M kz_CF kz_K kz_t21 154 kz_e21 kz_l21 3000 kz_n21_28 = true := by decide +kernel
set_option maxRecDepth 100000 in
set_option maxHeartbeats 0 in
theorem kz_N21_29 : ak_chN kz_M kz_CF kz_K kz_t21 154 kz_e21 kz_l21 3000 kz_n21_29 = true := by decide +kernel
set_option maxRecDepth 100000 in
set_option maxHeartbeats 0 in
theorem kz_N21_30 : ak_chN kz_M kz_CF kz_K kz_t21 154 kz_e21 kz_l21 3000 kz_n21_30 = true := by decide +kernel
set_option maxRecDepth 100000 in
set_option maxHeartbeats 0 in
theorem kz_N21_31 : ak_chN kz_M kz_CF kz_K kz_t21 154 kz_e21 kz_l21 3000 kz_n21_31 = true := by decide +kernel
set_option maxRecDepth 100000 in
set_option maxHeartbeats 0 in
theorem kz_N21_32 : ak_chN kz_M kz_CF kz_K kz_t21 154 kz_e21 kz_l21 3000 kz_n21_32 = true := by decide +kernel
set_option maxRecDepth 100000 in
set_option maxHeartbeats 0 in
theorem kz_N21_33 : ak_chN kz_M kz_CF kz_K kz_t21 154 kz_e21 kz_l21 3000 kz_n21_33 = true := by decide +kernel
set_option maxRecDepth 100000 in
set_option maxHeartbeats 0 in
theorem kz_N21_34 : ak_chN kz_M kz_CF kz_K kz_t21 154 kz_e21 kz_l21 3000 kz_n21_34 = true := by decide +kernel
set_option maxRecDepth 100000 in
set_option maxHeartbeats 0 in
theorem kz_N21_35 : ak_chN kz_M kz_CF kz_K kz_t21 154 kz_e21 kz_l21 3000 kz_n21_35 = true := by decide +kernel
set_option maxRecDepth 100000 in
set_option maxHeartbeats 0 in
theorem kz_N21_36 : ak_chN kz_M kz_CF kz_K kz_t21 154 kz_e21 kz_l21 3000 kz_n21_36 = true := by decide +kernel
set_option maxRecDepth 100000 in
set_option maxHeartbeats 0 in
theorem kz_N21_37 : ak_chN kz_M kz_CF kz_K kz_t21 154 kz_e21 kz_l21 3000 kz_n21_37 = true := by decide +kernel
set_option maxRecDepth 100000 in
set_option maxHeartbeats 0 in
theorem kz_N21_38 : ak_chN kz_M kz_CF kz_K kz_t21 154 kz_e21 kz_l21 3000 kz_n21_38 = true := by decide +kernel
set_option maxRecDepth 100000 in
set_option maxHeartbeats 0 in
theorem kz_N21_39 : ak_chN kz_M kz_CF kz_K kz_t21 154 kz_e21 kz_l21 3000 kz_n21_39 = true := by decide +kernel
set_option maxRecDepth 100000 in
set_option maxHeartbeats 0 in
theorem kz_N21_40 : ak_chN kz_M kz_CF kz_K kz_t21 154 kz_e21 kz_l21 3000 kz_n21_40 = true := by decide +kernel
set_option maxRecDepth 100000 in
set_option maxHeartbeats 0 in
theorem kz_N21_41 : ak_chN kz_M kz_CF kz_K kz_t21 154 kz_e21 kz_l21 3000 kz_n21_41 = true := by decide +kernel
set_option maxRecDepth 100000 in
set_option maxHeartbeats 0 in
theorem kz_N21_42 : ak_chN kz_M kz_CF kz_K kz_t21 154 kz_e21 kz_l21 3000 kz_n21_42 = true := by decide +kernel
set_option maxRecDepth 100000 in
set_option maxHeartbeats 0 in
theorem kz_N21_43 : ak_chN kz_M kz_CF kz_K kz_t21 154 kz_e21 kz_l21 3000 kz_n21_43 = true := by decide +kernel
set_option maxRecDepth 100000 in
set_option maxHeartbeats 0 in
theorem kz_N21_44 : ak_chN kz_M kz_CF kz_K kz_t21 154 kz_e21 kz_l21 3000 kz_n21_44 = true := by decide +kernel
set_option maxRecDepth 100000 in
set_option maxHeartbeats 0 in
theorem kz_N21_45 : ak_chN kz_M kz_CF kz_K kz_t21 154 kz_e21 kz_l21 3000 kz_n21_45 = true := by decide +kernel
set_option maxRecDepth 100000 in
set_option maxHeartbeats 0 in
theorem kz_N21_46 : ak_chN kz_M kz_CF kz_K kz_t21 154 kz_e21 kz_l21 3000 kz_n21_46 = true := by decide +kernel
set_option maxRecDepth 100000 in
set_option maxHeartbeats 0 in
theorem kz_N21_47 : ak_chN kz_M kz_CF kz_K kz_t21 154 kz_e21 kz_l21 3000 kz_n21_47 = true := by decide +kernel
set_option maxRecDepth 100000 in
set_option maxHeartbeats 0 in
theorem kz_N21_48 : ak_chN kz_M kz_CF kz_K kz_t21 154 kz_e21 kz_l21 3000 kz_n21_48 = true := by decide +kernel
set_option maxRecDepth 100000 in
set_option maxHeartbeats 0 in
theorem kz_N21_49 : ak_chN kz_M kz_CF kz_K kz_t21 154 kz_e21 kz_l21 3000 kz_n21_49 = true := by decide +kernel
set_option maxRecDepth 100000 in
set_option maxHeartbeats 0 in
theorem kz_N21_50 : ak_chN kz_M kz_CF kz_K kz_t21 154 kz_e21 kz_l21 3000 kz_n21_50 = true := by decide +kernel
set_option maxRecDepth 100000 in
set_option maxHeartbeats 0 in
theorem kz_N21_51 : ak_chN kz_M kz_CF kz_K kz_t21 154 kz_e21 kz_l21 3000 kz_n21_51 = true := by decide +kernel
set_option maxRecDepth 100000 in
set_option maxHeartbeats 0 in
theorem kz_N21_52 : ak_chN kz_M kz_CF kz_K kz_t21 154 kz_e21 kz_l21 3000 kz_n21_52 = true := by decide +kernel
set_option maxRecDepth 100000 in
set_option maxHeartbeats 0 in
theorem kz_N21_53 : ak_chN kz_M kz_CF kz_K kz_t21 154 kz_e21 kz_l21 3000 kz_n21_53 = true := by decide +kernel
set_option maxRecDepth 100000 in
set_option maxHeartbeats 0 in
theorem kz_N21_54 : ak_chN kz_M kz_CF kz_K kz_t21 154 kz_e21 kz_l21 3000 kz_n21_54 = true := by decide +kernel
set_option maxRecDepth 100000 in
set_option maxHeartbeats 0 in
theorem kz_N21_55 : ak_chN kz_M kz_CF kz_K kz_t21 154 kz_e21 kz_l21 3000 kz_n21_55 = true := by decide +kernel
set_option maxRecDepth 100000 in
set_option maxHeartbeats 0 in
theorem kz_N21_56 : ak_chN kz_M kz_CF kz_K kz_t21 154 kz_e21 kz_l21 3000 kz_n21_56 = true := by decide +kernel
set_option maxRecDepth 100000 in
set_option maxHeartbeats 0 in
theorem kz_N21_57 : ak_chN kz_M kz_CF kz_K kz_t21 154 kz_e21 kz_l21 3000 kz_n21_57 = true := by decide +kernel
set_option maxRecDepth 100000 in
set_option maxHeartbeats 0 in
theorem kz_N21_58 : ak_chN kz_M kz_CF kz_K kz_t21 154 kz_e21 kz_l21 3000 kz_n21_58 = true := by decide +kernel
set_option maxRecDepth 100000 in
set_option maxHeartbeats 0 in
theorem kz_N21_59 : ak_chN kz_M kz_CF kz_K kz_t21 154 kz_e21 kz_l21 3000 kz_n21_59 = true := by decide +kernel
set_option maxRecDepth 100000 in
set_option maxHeartbeats 0 in
theorem kz_N21_60 : ak_chN kz_M kz_CF kz_K kz_t21 154 kz_e21 kz_l21 3000 kz_n21_60 = true := by decide +kernel
set_option maxRecDepth 100000 in
set_option maxHeartbeats 0 in
theorem kz_N21_61 : ak_chN kz_M kz_CF kz_K kz_t21 154 kz_e21 kz_l21 3000 kz_n21_61 = true := by decide +kernel
set_option maxRecDepth 100000 in
set_option maxHeartbeats 0 in
theorem kz_N21_62 : ak_chN kz_M kz_CF kz_K kz_t21 154 kz_e21 kz_l21 3000 kz_n21_62 = true := by decide +kernel
set_option maxRecDepth 100000 in
set_option maxHeartbeats 0 in
theorem kz_N21_63 : ak_chN kz_M kz_CF kz_K kz_t21 154 kz_e21 kz_l21 3000 kz_n21_63 = true := by decide +kernel
set_option maxRecDepth 100000 in
set_option maxHeartbeats 0 in
theorem kz_N21_64 : ak_chN kz_M kz_CF kz_K kz_t21 154 kz_e21 kz_l21 3000 kz_n21_64 = true := by decide +kernel
set_option maxRecDepth 100000 in
set_option maxHeartbeats 0 in
theorem kz_N21_65 : ak_chN kz_M kz_CF kz_K kz_t21 154 kz_e21 kz_l21 3000 kz_n21_65 = true := by decide +kernel
set_option maxRecDepth 100000 in
set_option maxHeartbeats 0 in
theorem kz_N21_66 : ak_chN kz_M kz_CF kz_K kz_t21 154 kz_e21 kz_l21 3000 kz_n21_66 = true := by decide +kernel
set_option maxRecDepth 100000 in
set_option maxHeartbeats 0 in
theorem kz_N21_67 : ak_chN kz_M kz_CF kz_K kz_t21 154 kz_e21 kz_l21 3000 kz_n21_67 = true := by decide +kernel
set_option maxRecDepth 100000 in
set_option maxHeartbeats 0 in
theorem kz_N21_68 : ak_chN kz_M kz_CF kz_K kz_t21 154 kz_e21 kz_l21 3000 kz_n21_68 = true := by decide +kernel
set_option maxRecDepth 100000 in
set_option maxHeartbeats 0 in
theorem kz_N21_69 : ak_chN kz_M kz_CF kz_K kz_t21 154 kz_e21 kz_l21 3000 kz_n21_69 = true := by decide +kernel
set_option maxRecDepth 100000 in
set_option maxHeartbeats 0 in
theorem kz_N21_70 : ak_chN kz_M kz_CF kz_K kz_t21 154 kz_e21 kz_l21 3000 kz_n21_70 = true := by decide +kernel
set_option maxRecDepth 100000 in
set_option maxHeartbeats 0 in
theorem kz_N21_71 : ak_chN kz_M kz_CF kz_K kz_t21 154 kz_e21 kz_l21 3000 kz_n21_71 = true := by decide +kernel
set_option maxRecDepth 100000 in
set_option maxHeartbeats 0 in
theorem kz_N21_72 : ak_chN kz_M kz_CF kz_K kz_t21 154 kz_e21 kz_l21 3000 kz_n21_72 = true := by decide +kernel
set_option maxRecDepth 100000 in
set_option maxHeartbeats 0 in
theorem kz_N21_73 : ak_chN kz_M kz_CF kz_K kz_t21 154 kz_e21 kz_l21 3000 kz_n21_73 = true := by decide +kernel
set_option maxRecDepth 100000 in
set_option maxHeartbeats 0 in
theorem kz_N21_74 : ak_chN kz_M kz_CF kz_K kz_t21 154 kz_e21 kz_l21 3000 kz_n21_74 = true := by decide +kernel
set_option maxRecDepth 100000 in
set_option maxHeartbeats 0 in
theorem kz_N21_75 : ak_chN kz_M kz_CF kz_K kz_t21 154 kz_e21 kz_l21 3000 kz_n21_75 = true := by decide +kernel
set_option maxRecDepth 100000 in
set_option maxHeartbeats 0 in
theorem kz_N21_76 : ak_chN kz_M kz_CF kz_K kz_t21 154 kz_e21 kz_l21 3000 kz_n21_76 = true := by decide +kernel
set_option maxRecDepth 100000 in
set_option maxHeartbeats 0 in
theorem kz_N21_77 : ak_chN kz_M kz_CF kz_K kz_t21 154 kz_e21 kz_l21 3000 kz_n21_77 = true := by decide +kernel
set_option maxRecDepth 100000 in
set_option maxHeartbeats 0 in
theorem kz_N21_78 : ak_chN kz_M kz_CF kz_K kz_t21 154 kz_e21 kz_l21 3000 kz_n21_78 = true := by decide +kernel
set_option maxRecDepth 100000 in
set_option maxHeartbeats 0 in
theorem kz_N21_79 : ak_chN kz_M kz_CF kz_K kz_t21 154 kz_e21 kz_l21 3000 kz_n21_79 = true := by decide +kernel
set_option maxRecDepth 100000 in
set_option maxHeartbeats 0 in
theorem kz_N21_80 : ak_chN kz_M kz_CF kz_K kz_t21 154 kz_e21 kz_l21 3000 kz_n21_80 = true := by decide +kernel
set_option maxRecDepth 100000 in
set_option maxHeartbeats 0 in
theorem kz_N21_81 : ak_chN kz_M kz_CF kz_K kz_t21 154 kz_e21 kz_l21 3000 kz_n21_81 = true := by decide +kernel
set_option maxRecDepth 100000 in
set_option maxHeartbeats 0 in
theorem kz_N21_82 : ak_chN kz_M kz_CF kz_K kz_t21 154 kz_e21 kz_l21 3000 kz_n21_82 = true := by decide +kernel
set_option maxRecDepth 100000 in
set_option maxHeartbeats 0 in
theorem kz_N21_83 : ak_chN kz_M kz_CF kz_K kz_t21 154 kz_e21 kz_l21 3000 kz_n21_83 = true := by decide +kernel
set_option maxRecDepth 100000 in
set_option maxHeartbeats 0 in
theorem kz_N21_84 : ak_chN kz_M kz_CF kz_K kz_t21 154 kz_e21 kz_l21 3000 kz_n21_84 = true := by decide +kernel
set_option maxRecDepth 100000 in
set_option maxHeartbeats 0 in
theorem kz_N21_85 : ak_chN kz_M kz_CF kz_K kz_t21 154 kz_e21 kz_l21 3000 kz_n21_85 = true := by decide +kernel
set_option maxRecDepth 100000 in
set_option maxHeartbeats 0 in
theorem kz_N21_86 : ak_chN kz_M kz_CF kz_K kz_t21 154 kz_e21 kz_l21 3000 kz_n21_86 = true := by decide +kernel
set_option maxRecDepth 100000 in
set_option maxHeartbeats 0 in
theorem kz_N21_87 : ak_chN kz_M kz_CF kz_K kz_t21 154 kz_e21 kz_l21 3000 kz_n21_87 = true := by decide +kernel
set_option maxRecDepth 100000 in
set_option maxHeartbeats 0 in
theorem kz_N21_88 : ak_chN kz_M kz_CF kz_K kz_t21 154 kz_e21 kz_l21 3000 kz_n21_88 = true := by decide +kernel
set_option maxRecDepth 100000 in
set_option maxHeartbeats 0 in
theorem kz_N21_89 : ak_chN kz_M kz_CF kz_K kz_t21 154 kz_e21 kz_l21 3000 kz_n21_89 = true := by decide +kernel
set_option maxRecDepth 100000 in
set_option maxHeartbeats 0 in
theorem kz_N21_90 : ak_chN kz_M kz_CF kz_K kz_t21 154 kz_e21 kz_l21 3000 kz_n21_90 = true := by decide +kernel
set_option maxRecDepth 100000 in
set_option maxHeartbeats 0 in
theorem kz_N21_91 : ak_chN kz_M kz_CF kz_K kz_t21 154 kz_e21 kz_l21 3000 kz_n21_91 = true := by decide +kernel
set_option maxRecDepth 100000 in
set_option maxHeartbeats 0 in
theorem kz_N21_92 : ak_chN kz_M kz_CF kz_K kz_t21 154 kz_e21 kz_l21 3000 kz_n21_92 = true := by decide +kernel
set_option maxRecDepth 100000 in
set_option maxHeartbeats 0 in
theorem kz_N21_93 : ak_chN kz_M kz_CF kz_K kz_t21 154 kz_e21 kz_l21 3000 kz_n21_93 = true := by decide +kernel
set_option maxRecDepth 100000 in
set_option maxHeartbeats 0 in
theorem kz_N21_94 : ak_chN kz_M kz_CF kz_K kz_t21 154 kz_e21 kz_l21 3000 kz_n21_94 = true := by decide +kernel
set_option maxRecDepth 100000 in
set_option maxHeartbeats 0 in
theorem kz_N21_95 : ak_chN kz_M kz_CF kz_K kz_t21 154 kz_e21 kz_l21 3000 kz_n21_95 = true := by decide +kernel
set_option maxRecDepth 100000 in
set_option maxHeartbeats 0 in
theorem kz_N21_96 : ak_chN kz_M kz_CF kz_K kz_t21 154 kz_e21 kz_l21 3000 kz_n21_96 = true := by decide +kernel
set_option maxRecDepth 100000 in
set_option maxHeartbeats 0 in
theorem kz_N21_97 : ak_chN kz_M kz_CF kz_K kz_t21 154 kz_e21 kz_l21 3000 kz_n21_97 = true := by decide +kernel
set_option maxRecDepth 100000 in
set_option maxHeartbeats 0 in
theorem kz_N21_98 : ak_chN kz_M kz_CF kz_K kz_t21 154 kz_e21 kz_l21 3000 kz_n21_98 = true := by decide +kernel
set_option maxRecDepth 100000 in
set_option maxHeartbeats 0 in
theorem kz_N21_99 : ak_chN kz_M kz_CF kz_K kz_t21 154 kz_e21 kz_l21 3000 kz_n21_99 = true := by decide +kernel
set_option maxRecDepth 100000 in
set_option maxHeartbeats 0 in
theorem kz_N21_100 : ak_chN kz_M kz_CF kz_K kz_t21 154 kz_e21 kz_l21 3000 kz_n21_100 = true := by decide +kernel
set_option maxRecDepth 100000 in
set_option maxHeartbeats 0 in
theorem kz_N21_101 : ak_chN kz_M kz_CF kz_K kz_t21 154 kz_e21 kz_l21 3000 kz_n21_101 = true := by decide +kernel
set_option maxRecDepth 100000 in
set_option maxHeartbeats 0 in
theorem kz_N21_102 : ak_chN kz_M kz_CF kz_K kz_t21 154 kz_e21 kz_l21 3000 kz_n21_102 = true := by decide +kernel
set_option maxRecDepth 100000 in
set_option maxHeartbeats 0 in
theorem kz_N21_103 : ak_chN kz_M kz_CF kz_K kz_t21 154 kz_e21 kz_l21 3000 kz_n21_103 = true := by decide +kernel
set_option maxRecDepth 100000 in
set_option maxHeartbeats 0 in
theorem kz_N21_104 : ak_chN kz_M kz_CF kz_K kz_t21 154 kz_e21 kz_l21 3000 kz_n21_104 = true := by decide +kernel
set_option maxRecDepth 100000 in
set_option maxHeartbeats 0 in
theorem kz_N21_105 : ak_chN kz_M kz_CF kz_K kz_t21 154 kz_e21 kz_l21 3000 kz_n21_105 = true := by decide +kernel
set_option maxRecDepth 100000 in
set_option maxHeartbeats 0 in
theorem kz_N21_106 : ak_chN kz_M kz_CF kz_K kz_t21 154 kz_e21 kz_l21 3000 kz_n21_106 = true := by decide +kernel
set_option maxRecDepth 100000 in
set_option maxHeartbeats 0 in
theorem kz_N21_107 : ak_chN kz_M kz_CF kz_K kz_t21 154 kz_e21 kz_l21 3000 kz_n21_107 = true := by decide +kernel
set_option maxRecDepth 100000 in
set_option maxHeartbeats 0 in
theorem kz_N21_108 : ak_chN kz_M kz_CF kz_K kz_t21 154 kz_e21 kz_l21 3000 kz_n21_108 = true := by decide +kernel
set_option maxRecDepth 100000 in
set_option maxHeartbeats 0 in
theorem kz_N21_109 : ak_chN kz_M kz_CF kz_K kz_t21 154 kz_e21 kz_l21 3000 kz_n21_109 = true := by decide +kernel
set_option maxRecDepth 100000 in
set_option maxHeartbeats 0 in
theorem kz_N21_110 : ak_chN kz_M kz_CF kz_K kz_t21 154 kz_e21 kz_l21 3000 kz_n21_110 = true := by decide +kernel
set_option maxRecDepth 100000 in
set_option maxHeartbeats 0 in
theorem kz_N21_111 : ak_chN kz_M kz_CF kz_K kz_t21 154 kz_e21 kz_l21 3000 kz_n21_111 = true := by decide +kernel
set_option maxRecDepth 100000 in
set_option maxHeartbeats 0 in
theorem kz_N21_112 : ak_chN kz_M kz_CF kz_K kz_t21 154 kz_e21 kz_l21 3000 kz_n21_112 = true := by decide +kernel
set_option maxRecDepth 100000 in
set_option maxHeartbeats 0 in
theorem kz_N21_113 : ak_chN kz_M kz_CF kz_K kz_t21 154 kz_e21 kz_l21 3000 kz_n21_113 = true := by decide +kernel
set_option maxRecDepth 100000 in
set_option maxHeartbeats 0 in
theorem kz_N21_114 : ak_chN kz_M kz_CF kz_K kz_t21 154 kz_e21 kz_l21 3000 kz_n21_114 = true := by decide +kernel
set_option maxRecDepth 100000 in
set_option maxHeartbeats 0 in
theorem kz_N21_115 : ak_chN kz_M kz_CF kz_K kz_t21 154 kz_e21 kz_l21 3000 kz_n21_115 = true := by decide +kernel
set_option maxRecDepth 100000 in
set_option maxHeartbeats 0 in
theorem kz_N21_116 : ak_chN kz_M kz_CF kz_K kz_t21 154 kz_e21 kz_l21 3000 kz_n21_116 = true := by decide +kernel
set_option maxRecDepth 100000 in
set_option maxHeartbeats 0 in
theorem kz_N21_117 : ak_chN kz_M kz_CF kz_K kz_t21 154 kz_e21 kz_l21 3000 kz_n21_117 = true := by decide +kernel
set_option maxRecDepth 100000 in
set_option maxHeartbeats 0 in
theorem kz_N21_118 : ak_chN kz_M kz_CF kz_K kz_t21 154 kz_e21 kz_l21 3000 kz_n21_118 = true := by decide +kernel
set_option maxRecDepth 100000 in
set_option maxHeartbeats 0 in
theorem kz_N21_119 : ak_chN kz_M kz_CF kz_K kz_t21 154 kz_e21 kz_l21 3000 kz_n21_119 = true := by decide +kernel
set_option maxRecDepth 100000 in
set_option maxHeartbeats 0 in
theorem kz_N21_120 : ak_chN kz_M kz_CF kz_K kz_t21 154 kz_e21 kz_l21 3000 kz_n21_120 = true := by decide +kernel
set_option maxRecDepth 100000 in
set_option maxHeartbeats 0 in
theorem kz_N21_121 : ak_chN kz_M kz_CF kz_K kz_t21 154 kz_e21 kz_l21 3000 kz_n21_121 = true := by decide +kernel
set_option maxRecDepth 100000 in
set_option maxHeartbeats 0 in
theorem kz_N21_122 : ak_chN kz_M kz_CF kz_K kz_t21 154 kz_e21 kz_l21 3000 kz_n21_122 = true := by decide +kernel
set_option maxRecDepth 100000 in
set_option maxHeartbeats 0 in
theorem kz_N21_123 : ak_chN kz_M kz_CF kz_K kz_t21 154 kz_e21 kz_l21 3000 kz_n21_123 = true := by decide +kernel
set_option maxRecDepth 100000 in
set_option maxHeartbeats 0 in
theorem kz_N21_124 : ak_chN kz_M kz_CF kz_K kz_t21 154 kz_e21 kz_l21 3000 kz_n21_124 = true := by decide +kernel
set_option maxRecDepth 100000 in
set_option maxHeartbeats 0 in
theorem kz_N21_125 : ak_chN kz_M kz_CF kz_K kz_t21 154 kz_e21 kz_l21 3000 kz_n21_125 = true := by decide +kernel
set_option maxRecDepth 100000 in
set_option maxHeartbeats 0 in
theorem kz_N21_126 : ak_chN kz_M kz_CF kz_K kz_t21 154 kz_e21 kz_l21 3000 kz_n21_126 = true := by decide +kernel
set_option maxRecDepth 100000 in
set_option maxHeartbeats 0 in
theorem kz_N21_127 : ak_chN kz_M kz_CF kz_K kz_t21 154 kz_e21 kz_l21 3000 kz_n21_127 = true := by decide +kernel
set_option maxRecDepth 100000 in
set_option maxHeartbeats 0 in
theorem kz_N21_128 : ak_chN kz_M kz_CF kz_K kz_t21 154 kz_e21 kz_l21 3000 kz_n21_128 = true := by decide +kernel
set_option maxRecDepth 100000 in
set_option maxHeartbeats 0 in
theorem kz_N21_129 : ak_chN kz_M kz_CF kz_K kz_t21 154 kz_e21 kz_l21 3000 kz_n21_129 = true := by decide +kernel
set_option maxRecDepth 100000 in
set_option maxHeartbeats 0 in
theorem kz_N21_130 : ak_chN kz_M kz_CF kz_K kz_t21 154 kz_e21 kz_l21 3000 kz_n21_130 = true := by decide +kernel
set_option maxRecDepth 100000 in
set_option maxHeartbeats 0 in
theorem kz_N21_131 : ak_chN kz_M kz_CF kz_K kz_t21 154 kz_e21 kz_l21 3000 kz_n21_131 = true := by decide +kernel
set_option maxRecDepth 100000 in
set_option maxHeartbeats 0 in
theorem kz_N21_132 : ak_chN kz_M kz_CF kz_K kz_t21 154 kz_e21 kz_l21 3000 kz_n21_132 = true := by decide +kernel
set_option maxRecDepth 100000 in
set_option maxHeartbeats 0 in
theorem kz_N21_133 : ak_chN kz_M kz_CF kz_K kz_t21 154 kz_e21 kz_l21 3000 kz_n21_133 = true := by decide +kernel
set_option maxRecDepth 100000 in
set_option maxHeartbeats 0 in
theorem kz_N21_134 : ak_chN kz_M kz_CF kz_K kz_t21 154 kz_e21 kz_l21 3000 kz_n21_134 = true := by decide +kernel
set_option maxRecDepth 100000 in
set_option maxHeartbeats 0 in
theorem kz_N21_135 : ak_chN kz_M kz_CF kz_K kz_t21 154 kz_e21 kz_l21 3000 kz_n21_135 = true := by decide +kernel
set_option maxRecDepth 100000 in
set_option maxHeartbeats 0 in
theorem kz_N21_136 : ak_chN kz_M kz_CF kz_K kz_t21 154 kz_e21 kz_l21 3000 kz_n21_136 = true := by decide +kernel
set_option maxRecDepth 100000 in
set_option maxHeartbeats 0 in
theorem kz_N21_137 : ak_chN kz_M kz_CF kz_K kz_t21 154 kz_e21 kz_l21 3000 kz_n21_137 = true := by decide +kernel
set_option maxRecDepth 100000 in
set_option maxHeartbeats 0 in
theorem kz_N21_138 : ak_chN kz_M kz_CF kz_K kz_t21 154 kz_e21 kz_l21 3000 kz_n21_138 = true := by decide +kernel
set_option maxRecDepth 100000 in
set_option maxHeartbeats 0 in
theorem kz_N21_139 : ak_chN kz_M kz_CF kz_K kz_t21 154 kz_e21 kz_l21 3000 kz_n21_139 = true := by decide +kernel
set_option maxRecDepth 100000 in
set_option maxHeartbeats 0 in
theorem kz_N21_140 : ak_chN kz_M kz_CF kz_K kz_t21 154 kz_e21 kz_l21 3000 kz_n21_140 = true := by decide +kernel
set_option maxRecDepth 100000 in
set_option maxHeartbeats 0 in
theorem kz_N21_141 : ak_chN kz_M kz_CF kz_K kz_t21 154 kz_e21 kz_l21 3000 kz_n21_141 = true := by decide +kernel
set_option maxRecDepth 100000 in
set_option maxHeartbeats 0 in
theorem kz_N21_142 : ak_chN kz_M kz_CF kz_K kz_t21 154 kz_e21 kz_l21 3000 kz_n21_142 = true := by decide +kernel
set_option maxRecDepth 100000 in
set_option maxHeartbeats 0 in
theorem kz_N21_143 : ak_chN kz_M kz_CF kz_K kz_t21 154 kz_e21 kz_l21 3000 kz_n21_143 = true := by decide +kernel
set_option maxRecDepth 100000 in
set_option maxHeartbeats 0 in
theorem kz_N21_144 : ak_chN kz_M kz_CF kz_K kz_t21 154 kz_e21 kz_l21 3000 kz_n21_144 = true := by decide +kernel
set_option maxRecDepth 100000 in
set_option maxHeartbeats 0 in
theorem kz_N21_145 : ak_chN kz_M kz_CF kz_K kz_t21 154 kz_e21 kz_l21 3000 kz_n21_145 = true := by decide +kernel
set_option maxRecDepth 100000 in
set_option maxHeartbeats 0 in
theorem kz_N21_146 : ak_chN kz_M kz_CF kz_K kz_t21 154 kz_e21 kz_l21 3000 kz_n21_146 = true := by decide +kernel
set_option maxRecDepth 100000 in
set_option maxHeartbeats 0 in
theorem kz_N21_147 : ak_chN kz_M kz_CF kz_K kz_t21 154 kz_e21 kz_l21 3000 kz_n21_147 = true := by decide +kernel
set_option maxRecDepth 100000 in
set_option maxHeartbeats 0 in
theorem kz_N21_148 : ak_chN kz_M kz_CF kz_K kz_t21 154 kz_e21 kz_l21 3000 kz_n21_148 = true := by decide +kernel
set_option maxRecDepth 100000 in
set_option maxHeartbeats 0 in
theorem kz_N21_149 : ak_chN kz_M kz_CF kz_K kz_t21 154 kz_e21 kz_l21 3000 kz_n21_149 = true := by decide +kernel
set_option maxRecDepth 100000 in
set_option maxHeartbeats 0 in
theorem kz_N21_150 : ak_chN kz_M kz_CF kz_K kz_t21 154 kz_e21 kz_l21 3000 kz_n21_150 = true := by decide +kernel
set_option maxRecDepth 100000 in
set_option maxHeartbeats 0 in
theorem kz_N21_151 : ak_chN kz_M kz_CF kz_K kz_t21 154 kz_e21 kz_l21 3000 kz_n21_151 = true := by decide +kernel
set_option maxRecDepth 100000 in
set_option maxHeartbeats 0 in
theorem kz_N21_152 : ak_chN kz_M kz_CF kz_K kz_t21 154 kz_e21 kz_l21 3000 kz_n21_152 = true := by decide +kernel
set_option maxRecDepth 100000 in
set_option maxHeartbeats 0 in
theorem kz_N21_153 : ak_chN kz_M kz_CF kz_K kz_t21 154 kz_e21 kz_l21 3000 kz_n21_153 = true := by decide +kernel
set_option maxRecDepth 100000 in
set_option maxHeartbeats 0 in
theorem kz_N21_154 : ak_chN kz_M kz_CF kz_K kz_t21 154 kz_e21 kz_l21 3000 kz_n21_154 = true := by decide +kernel
set_option maxRecDepth 100000 in
set_option maxHeartbeats 0 in
theorem kz_N21_155 : ak_chN kz_M kz_CF kz_K kz_t21 154 kz_e21 kz_l21 3000 kz_n21_155 = true := by decide +kernel
set_option maxRecDepth 100000 in
set_option maxHeartbeats 0 in
theorem kz_N21_156 : ak_chN kz_M kz_CF kz_K kz_t21 154 kz_e21 kz_l21 3000 kz_n21_156 = true := by decide +kernel
set_option maxRecDepth 100000 in
set_option maxHeartbeats 0 in
theorem kz_N21_157 : ak_chN kz_M kz_CF kz_K kz_t21 154 kz_e21 kz_l21 3000 kz_n21_157 = true := by decide +kernel
set_option maxRecDepth 100000 in
set_option maxHeartbeats 0 in
theorem kz_N21_158 : ak_chN kz_M kz_CF kz_K kz_t21 154 kz_e21 kz_l21 3000 kz_n21_158 = true := by decide +kernel
set_option maxRecDepth 100000 in
set_option maxHeartbeats 0 in
theorem kz_N21_159 : ak_chN kz_M kz_CF kz_K kz_t21 154 kz_e21 kz_l21 3000 kz_n21_159 = true := by decide +kernel
