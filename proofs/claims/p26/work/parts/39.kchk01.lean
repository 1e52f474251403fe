set_option maxRecDepth 100000 in
set_option maxHeartbeats 0 in
theorem kz_E18 : ak_chS kz_K 154 kz_e18 = true ∧ ak_chE kz_M kz_CF kz_K kz_t18 154 kz_e18 kz_l18 3000 = true := by decide +kernel
set_option maxRecDepth 100000 in
set_option maxHeartbeats 0 in
theorem kz_N18_0 : ak_chN kz_M kz_CF kz_K kz_t18 154 kz_e18 kz_l18 3000 kz_n18_0 = true := by decide +kernel
set_option maxRecDepth 100000 in
set_option maxHeartbeats 0 in
theorem kz_N18_1 : ak_chN kz_M kz_CF kz_K kz_t18 154 kz_e18 kz_l18 3000 kz_n18_1 = true := by decide +kernel
set_option maxRecDepth 100000 in
set_option maxHeartbeats 0 in
theorem kz_N18_2 : ak_chN kz_M kz_CF kz_K kz_t18 154 kz_e18 kz_l18 3000 kz_n18_2 = true := by decide +kernel
set_option maxRecDepth 100000 in
set_option maxHeartbeats 0 in
theorem kz_N18_3 : ak_chN kz_M kz_CF kz_K kz_t18 154 kz_e18 kz_l18 3000 kz_n18_3 = true := by decide +kernel
set_option maxRecDepth 100000 in
set_option maxHeartbeats 0 in
theorem kz_N18_4 : ak_chN kz_M kz_CF kz_K kz_t18 154 kz_e18 kz_l18 3000 kz_n18_4 = true := by decide +kernel
set_option maxRecDepth 100000 in
set_option maxHeartbeats 0 in
theorem kz_N18_5 : ak_chN kz_M kz_CF kz_K kz_t18 154 kz_e18 kz_l18 3000 kz_n18_5 = true := by decide +kernel
set_option maxRecDepth 100000 in
set_option maxHeartbeats 0 in
theorem kz_N18_6 : ak_chN kz_M kz_CF kz_K kz_t18 154 kz_e18 kz_l18 3000 kz_n18_6 = true := by decide +kernel
set_option maxRecDepth 100000 in
set_option maxHeartbeats 0 in
theorem kz_N18_7 : ak_chN kz_M kz_CF kz_K kz_t18 154 kz_e18 kz_l18 3000 kz_n18_7 = true := by decide +kernel
set_option maxRecDepth 100000 in
set_option maxHeartbeats 0 in
theorem kz_N18_8 : ak_chN kz_M kz_CF kz_K kz_t18 154 kz_e18 kz_l18 3000 kz_n18_8 = true := by decide +kernel
set_option maxRecDepth 100000 in
set_option maxHeartbeats 0 in
theorem kz_N18_9 : ak_chN kz_M kz_CF kz_K kz_t18 154 kz_e18 kz_l18 3000 kz_n18_9 = true := by decide +kernel
set_option maxRecDepth 100000 in
set_option maxHeartbeats 0 in
theorem kz_N18_10 : ak_chN kz_M kz_CF kz_K kz_t18 154 kz_e18 kz_l18 3000 kz_n18_10 = true := by decide +kernel
set_option maxRecDepth 100000 in
set_option maxHeartbeats 0 in
theorem kz_N18_11 : ak_chN kz_M kz_CF kz_K kz_t18 154 kz_e18 kz_l18 3000 kz_n18_11 = true := by decide +kernel
set_option maxRecDepth 100000 in
set_option maxHeartbeats 0 in
theorem kz_N18_12 : ak_chN kz_M kz_CF kz_K kz_t18 154 kz_e18 kz_l18 3000 kz_n18_12 = true := by decide +kernel
set_option maxRecDepth 100000 in
set_option maxHeartbeats 0 in
theorem kz_N18_13 : ak_chN kz_M kz_CF kz_K kz_t18 154 kz_e18 kz_l18 3000 kz_n18_13 = true := by decide +kernel
set_option maxRecDepth 100000 in
set_option maxHeartbeats 0 in
theorem kz_N18_14 : ak_chN kz_M kz_CF kz_K kz_t18 154 kz_e18 kz_l18 3000 kz_n18_14 = true := by decide +kernel
set_option maxRecDepth 100000 in
set_option maxHeartbeats 0 in
theorem kz_N18_15 : ak_chN kz_M kz_CF kz_K kz_t18 154 kz_e18 kz_l18 3000 kz_n18_15 = true := by decide +kernel
set_option maxRecDepth 100000 in
set_option maxHeartbeats 0 in
theorem kz_N18_16 : ak_chN kz_M kz_CF kz_K kz_t18 154 kz_e18 kz_l18 3000 kz_n18_16 = true := by decide +kernel
set_option maxRecDepth 100000 in
set_option maxHeartbeats 0 in
theorem kz_N18_17 : ak_chN kz_M kz_CF kz_K kz_t18 154 kz_e18 kz_l18 3000 kz_n18_17 = true := by decide +kernel
set_option maxRecDepth 100000 in
set_option maxHeartbeats 0 in
theorem kz_N18_18 : ak_chN kz_M kz_CF kz_K kz_t18 154 kz_e18 kz_l18 3000 kz_n18_18 = true := by decide +kernel
set_option maxRecDepth 100000 in
set_option maxHeartbeats 0 in
theorem kz_N18_19 : ak_chN kz_M kz_CF kz_K kz_t18 154 kz_e18 kz_l18 3000 kz_n18_19 = true := by decide +kernel
set_option maxRecDepth 100000 in
set_option maxHeartbeats 0 in
theorem kz_N18_20 : ak_chN kz_M kz_CF kz_K kz_t18 154 kz_e18 kz_l18 3000 kz_n18_20 = true := by decide +kernel
set_option maxRecDepth 100000 in
set_option maxHeartbeats 0 in
theorem kz_N18_21 : ak_chN kz_M kz_CF kz_K kz_t18 154 kz_e18 kz_l18 3000 kz_n18_21 = true := by decide +kernel
set_option maxRecDepth 100000 in
set_option maxHeartbeats 0 in
theorem kz_N18_22 : ak_chN kz_M kz_CF kz_K kz_t18 154 kz_e18 kz_l18 3000 kz_n18_22 = true := by decide +kernel
set_option maxRecDepth 100000 in
set_option maxHeartbeats 0 in
theorem kz_N18_23 : ak_chN kz_M kz_CF kz_K kz_t18 154 kz_e18 kz_l18 3000 kz_n18_23 = true := by decide +kernel
set_option maxRecDepth 100000 in
set_option maxHeartbeats 0 in
theorem kz_N18_24 : ak_chN kz_M kz_CF kz_K kz_t18 154 kz_e18 kz_l18 3000 kz_n18_24 = true := by decide +kernel
set_option maxRecDepth 100000 in
set_option maxHeartbeats 0 in
theorem kz_N18_25 : ak_chN kz_M kz_CF kz_K kz_t18 154 kz_e18 kz_l18 3000 kz_n18_25 = true := by decide +kernel
set_option maxRecDepth 100000 in
set_option maxHeartbeats 0 in
theorem kz_N18_26 : ak_chN kz_M kz_CF kz_K kz_t18 154 kz_e18 kz_l18 3000 kz_n18_26 = true := by decide +kernel
set_option maxRecDepth 100000 in
set_option maxHeartbeats 0 in
theorem kz_N18_27 : ak_chN kz_M kz_CF kz_K kz_t18 154 kz_e18 kz_l18 3000 kz_n18_27 = true := by decide +kernel
set_option maxRecDepth 100000 in
set_option maxHeartbeats 0 in
theorem kz_N18_28 : ak_chN kz_M kz_CF kz_K kz_t18 154 kz_e18 kz_l18 3000 kz_n18_28 = true := by decide +kernel
set_option maxRecDepth 100000 in
set_option maxHeartbeats 0 in
theorem kz_N18_29 : ak_chN kz_M kz_CF kz_K kz_t18 154 kz_e18 kz_l18 3000 kz_n18_29 = true := by decide +kernel
set_option maxRecDepth 100000 in
set_option maxHeartbeats 0 in
theorem kz_N18_30 : ak_chN kz_M kz_CF kz_K kz_t18 154 kz_e18 kz_l18 3000 kz_n18_30 = true := by decide +kernel
set_option maxRecDepth 100000 in
set_option maxHeartbeats 0 in
theorem kz_N18_31 : ak_chN kz_M kz_CF kz_K kz_t18 154 kz_e18 kz_l18 3000 kz_n18_31 = true := by decide +kernel
set_option maxRecDepth 100000 in
set_option maxHeartbeats 0 in
theorem kz_N18_32 : ak_chN kz_M kz_CF kz_K kz_t18 154 kz_e18 kz_l18 3000 kz_n18_32 = true := by decide +kernel
set_option maxRecDepth 100000 in
set_option maxHeartbeats 0 in
theorem kz_N18_33 : ak_chN kz_M kz_CF kz_K kz_t18 154 kz_e18 kz_l18 3000 kz_n18_33 = true := by decide +kernel
set_option maxRecDepth 100000 in
set_option maxHeartbeats 0 in
theorem kz_N18_34 : ak_chN kz_M kz_CF kz_K kz_t18 154 kz_e18 kz_l18 3000 kz_n18_34 = true := by decide +kernel
set_option maxRecDepth 100000 in
set_option maxHeartbeats 0 in
theorem kz_N18_35 : ak_chN kz_M kz_CF kz_K kz_t18 154 kz_e18 kz_l18 3000 kz_n18_35 = true := by decide +kernel
set_option maxRecDepth 100000 in
set_option maxHeartbeats 0 in
theorem kz_N18_36 : ak_chN kz_M kz_CF kz_K kz_t18 154 kz_e18 kz_l18 3000 kz_n18_36 = true := by decide +kernel
set_option maxRecDepth 100000 in
set_option maxHeartbeats 0 in
theorem kz_N18_37 : ak_chN kz_M kz_CF kz_K kz_t18 154 kz_e18 kz_l18 3000 kz_n18_37 = true := by decide +kernel
set_option maxRecDepth 100000 in
set_option maxHeartbeats 0 in
theorem kz_N18_38 : ak_chN kz_M kz_CF kz_K kz_t18 154 kz_e18 kz_l18 3000 kz_n18_38 = true := by decide +kernel
set_option maxRecDepth 100000 in
set_option maxHeartbeats 0 in
theorem kz_N18_39 : ak_chN kz_M kz_CF kz_K kz_t18 154 kz_e18 kz_l18 3000 kz_n18_39 = true := by decide +kernel
set_option maxRecDepth 100000 in
set_option maxHeartbeats 0 in
theorem kz_N18_40 : ak_chN kz_M kz_CF kz_K kz_t18 154 kz_e18 kz_l18 3000 kz_n18_40 = true := by decide +kernel
set_option maxRecDepth 100000 in
set_option maxHeartbeats 0 in
theorem kz_N18_41 : ak_chN kz_M kz_CF kz_K kz_t18 154 kz_e18 kz_l18 3000 kz_n18_41 = true := by decide +kernel
set_option maxRecDepth 100000 in
set_option maxHeartbeats 0 in
theorem kz_N18_42 : ak_chN kz_M kz_CF kz_K kz_t18 154 kz_e18 kz_l18 3000 kz_n18_42 = true := by decide +kernel
set_option maxRecDepth 100000 in
set_option maxHeartbeats 0 in
theorem kz_N18_43 : ak_chN kz_M kz_CF kz_K kz_t18 154 kz_e18 kz_l18 3000 kz_n18_43 = true := by decide +kernel
set_option maxRecDepth 100000 in
set_option maxHeartbeats 0 in
theorem kz_N18_44 : ak_chN kz_M kz_CF kz_K kz_t18 154 kz_e18 kz_l18 3000 kz_n18_44 = true := by decide +kernel
set_option maxRecDepth 100000 in
set_option maxHeartbeats 0 in
theorem kz_N18_45 : ak_chN kz_M kz_CF kz_K kz_t18 154 kz_e18 kz_l18 3000 kz_n18_45 = true := by decide +kernel
set_option maxRecDepth 100000 in
set_option maxHeartbeats 0 in
theorem kz_N18_46 : ak_chN kz_M kz_CF kz_K kz_t18 154 kz_e18 kz_l18 3000 kz_n18_46 = true := by decide +kernel
set_option maxRecDepth 100000 in
set_option maxHeartbeats 0 in
theorem kz_N18_47 : ak_chN kz_M kz_CF kz_K kz_t18 154 kz_e18 kz_l18 3000 kz_n18_47 = true := by decide +kernel
set_option maxRecDepth 100000 in
set_option maxHeartbeats 0 in
theorem kz_N18_48 : ak_chN kz_M kz_CF kz_K kz_t18 154 kz_e18 kz_l18 3000 kz_n18_48 = true := by decide +kernel
set_option maxRecDepth 100000 in
set_option maxHeartbeats 0 in
theorem kz_N18_49 : ak_chN kz_M kz_CF kz_K kz_t18 154 kz_e18 kz_l18 3000 kz_n18_49 = true := by decide +kernel
set_option maxRecDepth 100000 in
set_option maxHeartbeats 0 in
theorem kz_N18_50 : ak_chN kz_M kz_CF kz_K kz_t18 154 kz_e18 kz_l18 3000 kz_n18_50 = true := by decide +kernel
set_option maxRecDepth 100000 in
set_option maxHeartbeats 0 in
theorem kz_N18_51 : ak_chN kz_M kz_CF kz_K kz_t18 154 kz_e18 kz_l18 3000 kz_n18_51 = true := by decide +kernel
set_option maxRecDepth 100000 in
set_option maxHeartbeats 0 in
theorem kz_N18_52 : ak_chN kz_M kz_CF kz_K kz_t18 154 kz_e18 kz_l18 3000 kz_n18_52 = true := by decide +kernel
set_option maxRecDepth 100000 in
set_option maxHeartbeats 0 in
theorem kz_N18_53 : ak_chN kz_M kz_CF kz_K kz_t18 154 kz_e18 kz_l18 3000 kz_n18_53 = true := by decide +kernel
set_option maxRecDepth 100000 in
set_option maxHeartbeats 0 in
theorem kz_N18_54 : ak_chN kz_M kz_CF kz_K kz_t18 154 kz_e18 kz_l18 3000 kz_n18_54 = true := by decide +kernel
set_option maxRecDepth 100000 in
set_option maxHeartbeats 0 in
theorem kz_N18_55 : ak_chN kz_M kz_CF kz_K kz_t18 154 kz_e18 kz_l18 3000 kz_n18_55 = true := by decide +kernel
set_option maxRecDepth 100000 in
set_option maxHeartbeats 0 in
theorem kz_N18_56 : ak_chN kz_M kz_CF kz_K kz_t18 154 kz_e18 kz_l18 3000 kz_n18_56 = true := by decide +kernel
set_option maxRecDepth 100000 in
set_option maxHeartbeats 0 in
theorem kz_N18_57 : ak_chN kz_M kz_CF kz_K kz_t18 154 kz_e18 kz_l18 3000 kz_n18_57 = true := by decide +kernel
set_option maxRecDepth 100000 in
set_option maxHeartbeats 0 in
theorem kz_N18_58 : ak_chN kz_M kz_CF kz_K kz_t18 154 kz_e18 kz_l18 3000 kz_n18_58 = true := by decide +kernel
set_option maxRecDepth 100000 in
set_option maxHeartbeats 0 in
theorem kz_N18_59 : ak_chN kz_M kz_CF kz_K kz_t18 154 kz_e18 kz_l18 3000 kz_n18_59 = true := by decide +kernel
set_option maxRecDepth 100000 in
set_option maxHeartbeats 0 in
theorem kz_N18_60 : ak_chN kz_M kz_CF kz_K kz_t18 154 kz_e18 kz_l18 3000 kz_n18_60 = true := by decide +kernel
set_option maxRecDepth 100000 in
set_option maxHeartbeats 0 in
theorem kz_N18_61 : ak_chN kz_M kz_CF kz_K kz_t18 154 kz_e18 kz_l18 3000 kz_n18_61 = true := by decide +kernel
set_option maxRecDepth 100000 in
set_option maxHeartbeats 0 in
theorem kz_N18_62 : ak_chN kz_M kz_CF kz_K kz_t18 154 kz_e18 kz_l18 3000 kz_n18_62 = true := by decide +kernel
set_option maxRecDepth 100000 in
set_option maxHeartbeats 0 in
theorem kz_N18_63 : ak_chN kz_M kz_CF kz_K kz_t18 154 kz_e18 kz_l18 3000 kz_n18_63 = true := by decide +kernel
set_option maxRecDepth 100000 in
set_option maxHeartbeats 0 in
theorem kz_N18_64 : ak_chN kz_M kz_CF kz_K kz_t18 154 kz_e18 kz_l18 3000 kz_n18_64 = true := by decide +kernel
set_option maxRecDepth 100000 in
set_option maxHeartbeats 0 in
theorem kz_N18_65 : ak_chN kz_M kz_CF kz_K kz_t18 154 kz_e18 kz_l18 3000 kz_n18_65 = true := by decide +kernel
set_option maxRecDepth 100000 in
set_option maxHeartbeats 0 in
theorem kz_N18_66 : ak_chN kz_M kz_CF kz_K kz_t18 154 kz_e18 kz_l18 3000 kz_n18_66 = true := by decide +kernel
set_option maxRecDepth 100000 in
set_option maxHeartbeats 0 in
theorem kz_N18_67 : ak_chN kz_M kz_CF kz_K kz_t18 154 kz_e18 kz_l18 3000 kz_n18_67 = true := by decide +kernel
set_option maxRecDepth 100000 in
set_option maxHeartbeats 0 in
theorem kz_N18_68 : ak_chN kz_M kz_CF kz_K kz_t18 154 kz_e18 kz_l18 3000 kz_n18_68 = true := by decide +kernel
set_option maxRecDepth 100000 in
set_option maxHeartbeats 0 in
theorem kz_N18_69 : ak_chN kz_M kz_CF kz_K kz_t18 154 kz_e18 kz_l18 3000 kz_n18_69 = true := by decide +kernel
set_option maxRecDepth 100000 in
set_option maxHeartbeats 0 in
theorem kz_N18_70 : ak_chN kz_M kz_CF kz_K kz_t18 154 kz_e18 kz_l18 3000 kz_n18_70 = true := by decide +kernel
set_option maxRecDepth 100000 in
set_option maxHeartbeats 0 in
theorem kz_N18_71 : ak_chN kz_M kz_CF kz_K kz_t18 154 kz_e18 kz_l18 3000 kz_n18_71 = true := by decide +kernel
set_option maxRecDepth 100000 in
set_option maxHeartbeats 0 in
theorem kz_N18_72 : ak_chN kz_M kz_CF kz_K kz_t18 154 kz_e18 kz_l18 3000 kz_n18_72 = true := by decide +kernel
set_option maxRecDepth 100000 in
set_option maxHeartbeats 0 in
theorem kz_N18_73 : ak_chN kz_M kz_CF kz_K kz_t18 154 kz_e18 kz_l18 3000 kz_n18_73 = true := by decide +kernel
set_option maxRecDepth 100000 in
set_option maxHeartbeats 0 in
theorem kz_N18_74 : ak_chN kz_M kz_CF kz_K kz_t18 154 kz_e18 kz_l18 3000 kz_n18_74 = true := by decide +kernel
set_option maxRecDepth 100000 in
set_option maxHeartbeats 0 in
theorem kz_N18_75 : ak_chN kz_M kz_CF kz_K kz_t18 154 kz_e18 kz_l18 3000 kz_n18_75 = true := by decide +kernel
set_option maxRecDepth 100000 in
set_option maxHeartbeats 0 in
theorem kz_N18_76 : ak_chN kz_M kz_CF kz_K kz_t18 154 kz_e18 kz_l18 3000 kz_n18_76 = true := by decide +kernel
set_option maxRecDepth 100000 in
set_option maxHeartbeats 0 in
theorem kz_N18_77 : ak_chN kz_M kz_CF kz_K kz_t18 154 kz_e18 kz_l18 3000 kz_n18_77 = true := by decide +kernel
set_option maxRecDepth 100000 in
set_option maxHeartbeats 0 in
theorem kz_N18_78 : ak_chN kz_M kz_CF kz_K kz_t18 154 kz_e18 kz_l18 3000 kz_n18_78 = true := by decide +kernel
set_option maxRecDepth 100000 in
set_option maxHeartbeats 0 in
theorem kz_N18_79 : ak_chN kz_M kz_CF kz_K kz_t18 154 kz_e18 kz_l18 3000 kz_n18_79 = true := by decide +kernel
set_option maxRecDepth 100000 in
set_option maxHeartbeats 0 in
theorem kz_N18_80 : ak_chN kz_M kz_CF kz_K kz_t18 154 kz_e18 kz_l18 3000 kz_n18_80 = true := by decide +kernel
set_option maxRecDepth 100000 in
set_option maxHeartbeats 0 in
theorem kz_N18_81 : ak_chN kz_M kz_CF kz_K kz_t18 154 kz_e18 kz_l18 3000 kz_n18_81 = true := by decide +kernel
set_option maxRecDepth 100000 in
set_option maxHeartbeats 0 in
theorem kz_N18_82 : ak_chN kz_M kz_CF kz_K kz_t18 154 kz_e18 kz_l18 3000 kz_n18_82 = true := by decide +kernel
set_option maxRecDepth 100000 in
set_option maxHeartbeats 0 in
theorem kz_N18_83 : ak_chN kz_M kz_CF kz_K kz_t18 154 kz_e18 kz_l18 3000 kz_n18_83 = true := by decide +kernel
set_option maxRecDepth 100000 in
set_option maxHeartbeats 0 in
theorem kz_N18_84 : ak_chN kz_M kz_CF kz_K kz_t18 154 kz_e18 kz_l18 3000 kz_n18_84 = true := by decide +kernel
set_option maxRecDepth 100000 in
set_option maxHeartbeats 0 in
theorem kz_N18_85 : ak_chN kz_M kz_CF kz_K kz_t18 154 kz_e18 kz_l18 3000 kz_n18_85 = true := by decide +kernel
set_option maxRecDepth 100000 in
set_option maxHeartbeats 0 in
theorem kz_N18_86 : ak_chN kz_M kz_CF kz_K kz_t18 154 kz_e18 kz_l18 3000 kz_n18_86 = true := by decide +kernel
set_option maxRecDepth 100000 in
set_option maxHeartbeats 0 in
theorem kz_N18_87 : ak_chN kz_M kz_CF kz_K kz_t18 154 kz_e18 kz_l18 3000 kz_n18_87 = true := by decide +kernel
set_option maxRecDepth 100000 in
set_option maxHeartbeats 0 in
theorem kz_N18_88 : ak_chN kz_M kz_CF kz_K kz_t18 154 kz_e18 kz_l18 3000 kz_n18_88 = true := by decide +kernel
set_option maxRecDepth 100000 in
set_option maxHeartbeats 0 in
theorem kz_N18_89 : ak_chN kz_M kz_CF kz_K kz_t18 154 kz_e18 kz_l18 3000 kz_n18_89 = true := by decide +kernel
set_option maxRecDepth 100000 in
set_option maxHeartbeats 0 in
theorem kz_N18_90 : ak_chN kz_M kz_CF kz_K kz_t18 154 kz_e18 kz_l18 3000 kz_n18_90 = true := by decide +kernel
set_option maxRecDepth 100000 in
set_option maxHeartbeats 0 in
theorem kz_N18_91 : ak_chN kz_M kz_CF kz_K kz_t18 154 kz_e18 kz_l18 3000 kz_n18_91 = true := by decide +kernel
set_option maxRecDepth 100000 in
set_option maxHeartbeats 0 in
theorem kz_N18_92 : ak_chN kz_M kz_CF kz_K kz_t18 154 kz_e18 kz_l18 3000 kz_n18_92 = true := by decide +kernel
set_option maxRecDepth 100000 in
set_option maxHeartbeats 0 in
theorem kz_N18_93 : ak_chN kz_M kz_CF kz_K kz_t18 154 kz_e18 kz_l18 3000 kz_n18_93 = true := by decide +kernel
set_option maxRecDepth 100000 in
set_option maxHeartbeats 0 in
theorem kz_N18_94 : ak_chN kz_M kz_CF kz_K kz_t18 154 kz_e18 kz_l18 3000 kz_n18_94 = true := by decide +kernel
set_option maxRecDepth 100000 in
set_option maxHeartbeats 0 in
theorem kz_N18_95 : ak_chN kz_M kz_CF kz_K kz_t18 154 kz_e18 kz_l18 3000 kz_n18_95 = true := by decide +kernel
set_option maxRecDepth 100000 in
set_option maxHeartbeats 0 in
theorem kz_N18_96 : ak_chN kz_M kz_CF kz_K kz_t18 154 kz_e18 kz_l18 3000 kz_n18_96 = true := by decide +kernel
set_option maxRecDepth 100000 in
set_option maxHeartbeats 0 in
theorem kz_N18_97 : ak_chN kz_M kz_CF kz_K kz_t18 154 kz_e18 kz_l18 3000 kz_n18_97 = true := by decide +kernel
set_option maxRecDepth 100000 in
set_option maxHeartbeats 0 in
theorem kz_N18_98 : ak_chN kz_M kz_CF kz_K kz_t18 154 kz_e18 kz_l18 3000 kz_n18_98 = true := by decide +kernel
set_option maxRecDepth 100000 in
set_option maxHeartbeats 0 in
theorem kz_N18_99 : ak_chN kz_M kz_CF kz_K kz_t18 154 kz_e18 kz_l18 3000 kz_n18_99 = true := by decide +kernel
set_option maxRecDepth 100000 in
set_option maxHeartbeats 0 in
theorem kz_N18_100 : ak_chN kz_M kz_CF kz_K kz_t18 154 kz_e18 kz_l18 3000 kz_n18_100 = true := by decide +kernel
set_option maxRecDepth 100000 in
set_option maxHeartbeats 0 in
theorem kz_N18_101 : ak_chN kz_M kz_CF kz_K kz_t18 154 kz_e18 kz_l18 3000 kz_n18_101 = true := by decide +kernel
set_option maxRecDepth 100000 in
set_option maxHeartbeats 0 in
theorem kz_N18_102 : ak_chN kz_M kz_CF kz_K kz_t18 154 kz_e18 kz_l18 3000 kz_n18_102 = true := by decide +kernel
set_option maxRecDepth 100000 in
set_option maxHeartbeats 0 in
theorem kz_N18_103 : ak_chN kz_M kz_CF kz_K kz_t18 154 kz_e18 kz_l18 3000 kz_n18_103 = true := by decide +kernel
set_option maxRecDepth 100000 in
set_option maxHeartbeats 0 in
theorem kz_N18_104 : ak_chN kz_M kz_CF kz_K kz_t18 154 kz_e18 kz_l18 3000 kz_n18_104 = true := by decide +kernel
set_option maxRecDepth 100000 in
set_option maxHeartbeats 0 in
theorem kz_N18_105 : ak_chN kz_M kz_CF kz_K kz_t18 154 kz_e18 kz_l18 3000 kz_n18_105 = true := by decide +kernel
set_option maxRecDepth 100000 in
set_option maxHeartbeats 0 in
theorem kz_N18_106 : ak_chN kz_M kz_CF kz_K kz_t18 154 kz_e18 kz_l18 3000 kz_n18_106 = true := by decide +kernel
set_option maxRecDepth 100000 in
set_option maxHeartbeats 0 in
theorem kz_N18_107 : ak_chN kz_M kz_CF kz_K kz_t18 154 kz_e18 kz_l18 3000 kz_n18_107 = true := by decide +kernel
set_option maxRecDepth 100000 in
set_option maxHeartbeats 0 in
theorem kz_N18_108 : ak_chN kz_M kz_CF kz_K kz_t18 154 kz_e18 kz_l18 3000 kz_n18_108 = true := by decide +kernel
set_option maxRecDepth 100000 in
set_option maxHeartbeats 0 in
theorem kz_N18_109 : ak_chN kz_M kz_CF kz_K kz_t18 154 kz_e18 kz_l18 3000 kz_n18_109 = true := by decide +kernel
set_option maxRecDepth 100000 in
set_option maxHeartbeats 0 in
theorem kz_N18_110 : ak_chN kz_M kz_CF kz_K kz_t18 154 kz_e18 kz_l18 3000 kz_n18_110 = true := by decide +kernel
set_option maxRecDepth 100000 in
set_option maxHeartbeats 0 in
theorem kz_N18_111 : ak_chN kz_M kz_CF kz_K kz_t18 154 kz_e18 kz_l18 3000 kz_n18_111 = true := by decide +kernel
set_option maxRecDepth 100000 in
set_option maxHeartbeats 0 in
theorem kz_N18_112 : ak_chN kz_M kz_CF kz_K kz_t18 154 kz_e18 kz_l18 3000 kz_n18_112 = true := by decide +kernel
set_option maxRecDepth 100000 in
set_option maxHeartbeats 0 in
theorem kz_N18_113 : ak_chN kz_M kz_CF kz_K kz_t18 154 kz_e18 kz_l18 3000 kz_n18_113 = true := by decide +kernel
set_option maxRecDepth 100000 in
set_option maxHeartbeats 0 in
theorem kz_N18_114 : ak_chN kz_M kz_CF kz_K kz_t18 154 kz_e18 kz_l18 3000 kz_n18_114 = true := by decide +kernel
set_option maxRecDepth 100000 in
set_option maxHeartbeats 0 in
theorem kz_N18_115 : ak_chN kz_M kz_CF kz_K kz_t18 154 kz_e18 kz_l18 3000 kz_n18_115 = true := by decide +kernel
set_option maxRecDepth 100000 in
set_option maxHeartbeats 0 in
theorem kz_N18_116 : ak_chN kz_M kz_CF kz_K kz_t18 154 kz_e18 kz_l18 3000 kz_n18_116 = true := by decide +kernel
set_option maxRecDepth 100000 in
set_option maxHeartbeats 0 in
theorem kz_N18_117 : ak_chN kz_M kz_CF kz_K kz_t18 154 kz_e18 kz_l18 3000 kz_n18_117 = true := by decide +kernel
set_option maxRecDepth 100000 in
set_option maxHeartbeats 0 in
theorem kz_N18_118 : ak_chN kz_M kz_CF kz_K kz_t18 154 kz_e18 kz_l18 3000 kz_n18_118 = true := by decide +kernel
set_option maxRecDepth 100000 in
set_option maxHeartbeats 0 in
theorem kz_N18_119 : ak_chN kz_M kz_CF kz_K kz_t18 154 kz_e18 kz_l18 3000 kz_n18_119 = true := by decide +kernel
set_option maxRecDepth 100000 in
set_option maxHeartbeats 0 in
theorem kz_N18_120 : ak_chN kz_M kz_CF kz_K kz_t18 154 kz_e18 kz_l18 3000 kz_n18_120 = true := by decide +kernel
set_option maxRecDepth 100000 in
set_option maxHeartbeats 0 in
theorem kz_N18_121 : ak_chN kz_M kz_CF kz_K kz_t18 154 kz_e18 kz_l18 3000 kz_n18_121 = true := by decide +kernel
set_option maxRecDepth 100000 in
set_option maxHeartbeats 0 in
theorem kz_N18_122 : ak_chN kz_M kz_CF kz_K kz_t18 154 kz_e18 kz_l18 3000 kz_n18_122 = true := by decide +kernel
set_option maxRecDepth 100000 in
set_option maxHeartbeats 0 in
theorem kz_N18_123 : ak_chN kz_M kz_CF kz_K kz_t18 154 kz_e18 kz_l18 3000 kz_n18_123 = true := by decide +kernel
set_option maxRecDepth 100000 in
set_option maxHeartbeats 0 in
theorem kz_N18_124 : ak_chN kz_M kz_CF kz_K kz_t18 154 kz_e18 kz_l18 3000 kz_n18_124 = true := by decide +kernel
set_option maxRecDepth 100000 in
set_option maxHeartbeats 0 in
theorem kz_N18_125 : ak_chN kz_M kz_CF kz_K kz_t18 154 kz_e18 kz_l18 3000 kz_n18_125 = true := by decide +kernel
set_option maxRecDepth 100000 in
set_option maxHeartbeats 0 in
theorem kz_N18_126 : ak_chN kz_M kz_CF kz_K kz_t18 154 kz_e18 kz_l18 3000 kz_n18_126 = true := by decide +kernel
set_option maxRecDepth 100000 in
set_option maxHeartbeats 0 in
theorem kz_N18_127 : ak_chN kz_M kz_CF kz_K kz_t18 154 kz_e18 kz_l18 3000 kz_n18_127 = true := by decide +kernel
set_option maxRecDepth 100000 in
set_option maxHeartbeats 0 in
theorem kz_N18_128 : ak_chN kz_M kz_CF kz_K kz_t18 154 kz_e18 kz_l18 3000 kz_n18_128 = true := by decide +kernel
