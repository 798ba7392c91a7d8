set_option maxRecDepth 100000 in
theorem zk_877_0 : zm1 zKS zuq zNS zm_877 4000 zt_877_0 = true := z1F (zdt_X6_envy) (by decide +kernel)
set_option maxRecDepth 100000 in
theorem zk_877_1 : zm1 zKS zuq zNS zm_877 4000 zt_877_1 = true := z1F (zdt_X6_envy) (by decide +kernel)
set_option maxRecDepth 100000 in
theorem zk_877_2 : zm1 zKS zuq zNS zm_877 4000 zt_877_2 = true := z1F (zdt_X6_envy) (by decide +kernel)
set_option maxRecDepth 100000 in
theorem zk_877_3 : zm1 zKS zuq zNS zm_877 4000 zt_877_3 = true := z1F (zdt_X6_envy) (by decide +kernel)
set_option maxRecDepth 100000 in
theorem zk_877_4 : zm1 zKS zuq zNS zm_877 4000 zt_877_4 = true := z1F (zdt_X6_envy) (by decide +kernel)
set_option maxRecDepth 100000 in
theorem zk_877_5 : zm1 zKS zuq zNS zm_877 4000 zt_877_5 = true := z1F (zdt_X6_envy) (by decide +kernel)
set_option maxRecDepth 100000 in
theorem zk_877_6 : zm1 zKS zuq zNS zm_877 4000 zt_877_6 = true := z1F (zdt_X6_envy) (by decide +kernel)
set_option maxRecDepth 100000 in
theorem zk_877_7 : zm1 zKS zuq zNS zm_877 4000 zt_877_7 = true := z1F (zdt_X6_envy) (by decide +kernel)
set_option maxRecDepth 100000 in
theorem zk_877_8 : zm1 zKS zuq zNS zm_877 4000 zt_877_8 = true := z1F (zdt_X6_envy) (by decide +kernel)
set_option maxRecDepth 100000 in
theorem zk_877_9 : zm1 zKS zuq zNS zm_877 4000 zt_877_9 = true := z1F (zdt_X6_envy) (by decide +kernel)
set_option maxRecDepth 100000 in
theorem zk_877_10 : zm1 zKS zuq zNS zm_877 4000 zt_877_10 = true := z1F (zdt_X6_envy) (by decide +kernel)
set_option maxRecDepth 100000 in
theorem zk_877_11 : zm1 zKS zuq zNS zm_877 4000 zt_877_11 = true := z1F (zdt_X6_envy) (by decide +kernel)
set_option maxRecDepth 100000 in
theorem zk_877_12 : zm1 zKS zuq zNS zm_877 4000 zt_877_12 = true := z1F (zdt_X6_envy) (by decide +kernel)
set_option maxRecDepth 100000 in
theorem zk_877_13 : zm1 zKS zuq zNS zm_877 4000 zt_877_13 = true := z1F (zdt_X6_envy) (by decide +kernel)
set_option maxRecDepth 100000 in
theorem zk_877_14 : zm1 zKS zuq zNS zm_877 4000 zt_877_14 = true := z1F (zdt_X6_envy) (by decide +kernel)
set_option maxRecDepth 100000 in
theorem zk_877_15 : zm1 zKS zuq zNS zm_877 4000 zt_877_15 = true := z1F (zdt_X6_envy) (by decide +kernel)
set_option maxRecDepth 100000 in
theorem zk_877_16 : zm1 zKS zuq zNS zm_877 4000 zt_877_16 = true := z1F (zdt_X6_envy) (by decide +kernel)
set_option maxRecDepth 100000 in
theorem zk_877_17 : zm1 zKS zuq zNS zm_877 4000 zt_877_17 = true := z1F (zdt_X6_envy) (by decide +kernel)
set_option maxRecDepth 100000 in
theorem zk_877_18 : zm1 zKS zuq zNS zm_877 4000 zt_877_18 = true := z1F (zdt_X6_envy) (by decide +kernel)
set_option maxRecDepth 100000 in
theorem zk_877_19 : zm1 zKS zuq zNS zm_877 4000 zt_877_19 = true := z1F (zdt_X6_envy) (by decide +kernel)
set_option maxRecDepth 100000 in
theorem zk_877_20 : zm1 zKS zuq zNS zm_877 4000 zt_877_20 = true := z1F (zdt_X6_envy) (by decide +kernel)
set_option maxRecDepth 100000 in
theorem zk_877_21 : zm1 zKS zuq zNS zm_877 4000 zt_877_21 = true := z1F (zdt_X6_envy) (by decide +kernel)
set_option maxRecDepth 100000 in
theorem zk_877_22 : zm1 zKS zuq zNS zm_877 4000 zt_877_22 = true := z1F (zdt_X6_envy) (by decide +kernel)
set_option maxRecDepth 100000 in
theorem zk_877_23 : zm1 zKS zuq zNS zm_877 4000 zt_877_23 = true := z1F (zdt_X6_envy) (by decide +kernel)
set_option maxRecDepth 100000 in
theorem zk_877_24 : zm1 zKS zuq zNS zm_877 4000 zt_877_24 = true := z1F (zdt_X6_envy) (by decide +kernel)
set_option maxRecDepth 100000 in
theorem zk_877_25 : zm1 zKS zuq zNS zm_877 4000 zt_877_25 = true := z1F (zdt_X6_envy) (by decide +kernel)
set_option maxRecDepth 100000 in
theorem zk_877_26 : zm1 zKS zuq zNS zm_877 4000 zt_877_26 = true := z1F (zdt_X6_envy) (by decide +kernel)
set_option maxRecDepth 100000 in
theorem zk_877_27 : zm1 zKS zuq zNS zm_877 4000 zt_877_27 = true := z1F (zdt_X6_envy) (by decide +kernel)
set_option maxRecDepth 100000 in
theorem zk_877_28 : zm1 zKS zuq zNS zm_877 4000 zt_877_28 = true := z1F (zdt_X6_envy) (by decide +kernel)
set_option maxRecDepth 100000 in
theorem zk_877_29 : zm1 zKS zuq zNS zm_877 4000 zt_877_29 = true := z1F (zdt_X6_envy) (by decide +kernel)
set_option maxRecDepth 100000 in
theorem zk_877_30 : zm1 zKS zuq zNS zm_877 4000 zt_877_30 = true := z1F (zdt_X6_envy) (by decide +kernel)
set_option maxRecDepth 100000 in
theorem zk_877_31 : zm1 zKS zuq zNS zm_877 4000 zt_877_31 = true := z1F (zdt_X6_envy) (by decide +kernel)
set_option maxRecDepth 100000 in
theorem zk_877_32 : zm1 zKS zuq zNS zm_877 4000 zt_877_32 = true := z1F (zdt_X6_envy) (by decide +kernel)
set_option maxRecDepth 100000 in
theorem zk_877_33 : zm1 zKS zuq zNS zm_877 4000 zt_877_33 = true := z1F (zdt_X6_envy) (by decide +kernel)
set_option maxRecDepth 100000 in
theorem zk_877_34 : zm1 zKS zuq zNS zm_877 4000 zt_877_34 = true := z1F (zdt_X6_envy) (by decide +kernel)
set_option maxRecDepth 100000 in
theorem zk_877_35 : zm1 zKS zuq zNS zm_877 4000 zt_877_35 = true := z1F (zdt_X6_envy) (by decide +kernel)
set_option maxRecDepth 100000 in
theorem zk_877_36 : zm1 zKS zuq zNS zm_877 4000 zt_877_36 = true := z1F (zdt_X6_envy) (by decide +kernel)
set_option maxRecDepth 100000 in
theorem zk_877_37 : zm1 zKS zuq zNS zm_877 4000 zt_877_37 = true := z1F (zdt_X6_envy) (by decide +kernel)
set_option maxRecDepth 100000 in
theorem zk_877_38 : zm1 zKS zuq zNS zm_877 4000 zt_877_38 = true := z1F (zdt_X6_envy) (by decide +kernel)
set_option maxRecDepth 100000 in
theorem zk_877_39 : zm1 zKS zuq zNS zm_877 4000 zt_877_39 = true := z1F (zdt_X6_envy) (by decide +kernel)
set_option maxRecDepth 100000 in
theorem zk_877_40 : zm1 zKS zuq zNS zm_877 4000 zt_877_40 = true := z1F (zdt_X6_envy) (by decide +kernel)
set_option maxRecDepth 100000 in
theorem zk_877_41 : zm1 zKS zuq zNS zm_877 4000 zt_877_41 = true := z1F (zdt_X6_envy) (by decide +kernel)
set_option maxRecDepth 100000 in
theorem zk_877_42 : zm1 zKS zuq zNS zm_877 4000 zt_877_42 = true := z1F (zdt_X6_envy) (by decide +kernel)
set_option maxRecDepth 100000 in
theorem zk_877_43 : zm1 zKS zuq zNS zm_877 4000 zt_877_43 = true := z1F (zdt_X6_envy) (by decide +kernel)
set_option maxRecDepth 100000 in
theorem zk_877_44 : zm1 zKS zuq zNS zm_877 4000 zt_877_44 = true := z1F (zdt_X6_envy) (by decide +kernel)
set_option maxRecDepth 100000 in
theorem zk_877_45 : zm1 zKS zuq zNS zm_877 4000 zt_877_45 = true := z1F (zdt_X6_envy) (by decide +kernel)
set_option maxRecDepth 100000 in
theorem zk_877_46 : zm1 zKS zuq zNS zm_877 4000 zt_877_46 = true := z1F (zdt_X6_envy) (by decide +kernel)
set_option maxRecDepth 100000 in
theorem zk_877_47 : zm1 zKS zuq zNS zm_877 4000 zt_877_47 = true := z1F (zdt_X6_envy) (by decide +kernel)
set_option maxRecDepth 100000 in
theorem zk_877_48 : zm1 zKS zuq zNS zm_877 4000 zt_877_48 = true := z1F (zdt_X6_envy) (by decide +kernel)
set_option maxRecDepth 100000 in
theorem zk_877_49 : zm1 zKS zuq zNS zm_877 4000 zt_877_49 = true := z1F (zdt_X6_envy) (by decide +kernel)
set_option maxRecDepth 100000 in
theorem zk_877_50 : zm1 zKS zuq zNS zm_877 4000 zt_877_50 = true := z1F (zdt_X6_envy) (by decide +kernel)
set_option maxRecDepth 100000 in
theorem zk_877_51 : zm1 zKS zuq zNS zm_877 4000 zt_877_51 = true := z1F (zdt_X6_envy) (by decide +kernel)
set_option maxRecDepth 100000 in
theorem zk_877_52 : zm1 zKS zuq zNS zm_877 4000 zt_877_52 = true := z1F (zdt_X6_envy) (by decide +kernel)
set_option maxRecDepth 100000 in
theorem zk_877_53 : zm1 zKS zuq zNS zm_877 4000 zt_877_53 = true := z1F (zdt_X6_envy) (by decide +kernel)
set_option maxRecDepth 100000 in
theorem zk_877_54 : zm1 zKS zuq zNS zm_877 4000 zt_877_54 = true := z1F (zdt_X6_envy) (by decide +kernel)
set_option maxRecDepth 100000 in
theorem zk_877_55 : zm1 zKS zuq zNS zm_877 4000 zt_877_55 = true := z1F (zdt_X6_envy) (by decide +kernel)
set_option maxRecDepth 100000 in
theorem zk_877_56 : zm1 zKS zuq zNS zm_877 4000 zt_877_56 = true := z1F (zdt_X6_envy) (by decide +kernel)
set_option maxRecDepth 100000 in
theorem zk_877_57 : zm1 zKS zuq zNS zm_877 4000 zt_877_57 = true := z1F (zdt_X6_envy) (by decide +kernel)
set_option maxRecDepth 100000 in
theorem zk_877_58 : zm1 zKS zuq zNS zm_877 4000 zt_877_58 = true := z1F (zdt_X6_envy) (by decide +kernel)
set_option maxRecDepth 100000 in
theorem zk_877_59 : zm1 zKS zuq zNS zm_877 4000 zt_877_59 = true := z1F (zdt_X6_envy) (by decide +kernel)
set_option maxRecDepth 100000 in
theorem zk_877_60 : zm1 zKS zuq zNS zm_877 4000 zt_877_60 = true := z1F (zdt_X6_envy) (by decide +kernel)
set_option maxRecDepth 100000 in
theorem zk_877_61 : zm1 zKS zuq zNS zm_877 4000 zt_877_61 = true := z1F (zdt_X6_envy) (by decide +kernel)
set_option maxRecDepth 100000 in
theorem zk_877_62 : zm1 zKS zuq zNS zm_877 4000 zt_877_62 = true := z1F (zdt_X6_envy) (by decide +kernel)
set_option maxRecDepth 100000 in
theorem zk_877_63 : zm1 zKS zuq zNS zm_877 4000 zt_877_63 = true := z1F (zdt_X6_envy) (by decide +kernel)
set_option maxRecDepth 100000 in
theorem zk_877_64 : zm1 zKS zuq zNS zm_877 4000 zt_877_64 = true := z1F (zdt_X6_envy) (by decide +kernel)
set_option maxRecDepth 100000 in
theorem zk_877_65 : zm1 zKS zuq zNS zm_877 4000 zt_877_65 = true := z1F (zdt_X6_envy) (by decide +kernel)
set_option maxRecDepth 100000 in
theorem zk_877_66 : zm1 zKS zuq zNS zm_877 4000 zt_877_66 = true := z1F (zdt_X6_envy) (by decide +kernel)
set_option maxRecDepth 100000 in
theorem zk_877_67 : zm1 zKS zuq zNS zm_877 4000 zt_877_67 = true := z1F (zdt_X6_envy) (by decide +kernel)
set_option maxRecDepth 100000 in
theorem zk_877_68 : zm1 zKS zuq zNS zm_877 4000 zt_877_68 = true := z1F (zdt_X6_envy) (by decide +kernel)
set_option maxRecDepth 100000 in
theorem zk_877_69 : zm1 zKS zuq zNS zm_877 4000 zt_877_69 = true := z1F (zdt_X6_envy) (by decide +kernel)
set_option maxRecDepth 100000 in
theorem zk_877_70 : zm1 zKS zuq zNS zm_877 4000 zt_877_70 = true := z1F (zdt_X6_envy) (by decide +kernel)
set_option maxRecDepth 100000 in
theorem zk_877_71 : zm1 zKS zuq zNS zm_877 4000 zt_877_71 = true := z1F (zdt_X6_envy) (by decide +kernel)
set_option maxRecDepth 100000 in
theorem zk_877_72 : zm1 zKS zuq zNS zm_877 4000 zt_877_72 = true := z1F (zdt_X6_envy) (by decide +kernel)
set_option maxRecDepth 100000 in
theorem zk_877_73 : zm1 zKS zuq zNS zm_877 4000 zt_877_73 = true := z1F (zdt_X6_envy) (by decide +kernel)
set_option maxRecDepth 100000 in
theorem zk_877_74 : zm1 zKS zuq zNS zm_877 4000 zt_877_74 = true := z1F (zdt_X6_envy) (by decide +kernel)
set_option maxRecDepth 100000 in
theorem zk_877_75 : zm1 zKS zuq zNS zm_877 4000 zt_877_75 = true := z1F (zdt_X6_envy) (by decide +kernel)
set_option maxRecDepth 100000 in
theorem zk_877_76 : zm1 zKS zuq zNS zm_877 4000 zt_877_76 = true := z1F (zdt_X6_envy) (by decide +kernel)
set_option maxRecDepth 100000 in
theorem zk_877_77 : zm1 zKS zuq zNS zm_877 4000 zt_877_77 = true := z1F (zdt_X6_envy) (by decide +kernel)
set_option maxRecDepth 100000 in
theorem zk_877_78 : zm1 zKS zuq zNS zm_877 4000 zt_877_78 = true := z1F (zdt_X6_envy) (by decide +kernel)
set_option maxRecDepth 100000 in
theorem zk_877_79 : zm1 zKS zuq zNS zm_877 4000 zt_877_79 = true := z1F (zdt_X6_envy) (by decide +kernel)
set_option maxRecDepth 100000 in
theorem zk_877_80 : zm1 zKS zuq zNS zm_877 4000 zt_877_80 = true := z1F (zdt_X6_envy) (by decide +kernel)
set_option maxRecDepth 100000 in
theorem zk_877_81 : zm1 zKS zuq zNS zm_877 4000 zt_877_81 = true := z1F (zdt_X6_envy) (by decide +kernel)
set_option maxRecDepth 100000 in
theorem zk_877_82 : zm1 zKS zuq zNS zm_877 4000 zt_877_82 = true := z1F (zdt_X6_envy) (by decide +kernel)
set_option maxRecDepth 100000 in
theorem zk_877_83 : zm1 zKS zuq zNS zm_877 4000 zt_877_83 = true := z1F (zdt_X6_envy) (by decide +kernel)
set_option maxRecDepth 100000 in
theorem zk_877_84 : zm1 zKS zuq zNS zm_877 4000 zt_877_84 = true := z1F (zdt_X6_envy) (by decide +kernel)
set_option maxRecDepth 100000 in
theorem zk_877_85 : zm1 zKS zuq zNS zm_877 4000 zt_877_85 = true := z1F (zdt_X6_envy) (by decide +kernel)
set_option maxRecDepth 100000 in
theorem zk_877_86 : zm1 zKS zuq zNS zm_877 4000 zt_877_86 = true := z1F (zdt_X6_envy) (by decide +kernel)
set_option maxRecDepth 100000 in
theorem zk_877_87 : zm1 zKS zuq zNS zm_877 4000 zt_877_87 = true := z1F (zdt_X6_envy) (by decide +kernel)
set_option maxRecDepth 100000 in
theorem zk_877_88 : zm1 zKS zuq zNS zm_877 4000 zt_877_88 = true := z1F (zdt_X6_envy) (by decide +kernel)
set_option maxRecDepth 100000 in
theorem zk_877_89 : zm1 zKS zuq zNS zm_877 4000 zt_877_89 = true := z1F (zdt_X6_envy) (by decide +kernel)
set_option maxRecDepth 100000 in
theorem zk_877_90 : zm1 zKS zuq zNS zm_877 4000 zt_877_90 = true := z1F (zdt_X6_envy) (by decide +kernel)
set_option maxRecDepth 100000 in
theorem zk_877_91 : zm1 zKS zuq zNS zm_877 4000 zt_877_91 = true := z1F (zdt_X6_envy) (by decide +kernel)
set_option maxRecDepth 100000 in
theorem zk_877_92 : zm1 zKS zuq zNS zm_877 4000 zt_877_92 = true := z1F (zdt_X6_envy) (by decide +kernel)
set_option maxRecDepth 100000 in
theorem zk_877_93 : zm1 zKS zuq zNS zm_877 4000 zt_877_93 = true := z1F (zdt_X6_envy) (by decide +kernel)
set_option maxRecDepth 100000 in
theorem zk_877_94 : zm1 zKS zuq zNS zm_877 4000 zt_877_94 = true := z1F (zdt_X6_envy) (by decide +kernel)
set_option maxRecDepth 100000 in
theorem zk_877_95 : zm1 zKS zuq zNS zm_877 4000 zt_877_95 = true := z1F (zdt_X6_envy) (by decide +kernel)
set_option maxRecDepth 100000 in
theorem zk_877_96 : zm1 zKS zuq zNS zm_877 4000 zt_877_96 = true := z1F (zdt_X6_envy) (by decide +kernel)
set_option maxRecDepth 100000 in
theorem zk_877_97 : zm1 zKS zuq zNS zm_877 4000 zt_877_97 = true := z1F (zdt_X6_envy) (by decide +kernel)
set_option maxRecDepth 100000 in
theorem zk_877_98 : zm1 zKS zuq zNS zm_877 4000 zt_877_98 = true := z1F (zdt_X6_envy) (by decide +kernel)
set_option maxRecDepth 100000 in
theorem zk_877_99 : zm1 zKS zuq zNS zm_877 4000 zt_877_99 = true := z1F (zdt_X6_envy) (by decide +kernel)
set_option maxRecDepth 100000 in
theorem zk_877_100 : zm1 zKS zuq zNS zm_877 4000 zt_877_100 = true := z1F (zdt_X6_envy) (by decide +kernel)
set_option maxRecDepth 100000 in
theorem zk_877_101 : zm1 zKS zuq zNS zm_877 4000 zt_877_101 = true := z1F (zdt_X6_envy) (by decide +kernel)
set_option maxRecDepth 100000 in
theorem zk_877_102 : zm1 zKS zuq zNS zm_877 4000 zt_877_102 = true := z1F (zdt_X6_envy) (by decide +kernel)
set_option maxRecDepth 100000 in
theorem zk_877_103 : zm1 zKS zuq zNS zm_877 4000 zt_877_103 = true := z1F (zdt_X6_envy) (by decide +kernel)
set_option maxRecDepth 100000 in
theorem zk_877_104 : zm1 zKS zuq zNS zm_877 4000 zt_877_104 = true := z1F (zdt_X6_envy) (by decide +kernel)
set_option maxRecDepth 100000 in
theorem zk_877_105 : zm1 zKS zuq zNS zm_877 4000 zt_877_105 = true := z1F (zdt_X6_envy) (by decide +kernel)
set_option maxRecDepth 100000 in
theorem zk_877_106 : zm1 zKS zuq zNS zm_877 4000 zt_877_106 = true := z1F (zdt_X6_envy) (by decide +kernel)
set_option maxRecDepth 100000 in
theorem zk_877_107 : zm1 zKS zuq zNS zm_877 4000 zt_877_107 = true := z1F (zdt_X6_envy) (by decide +kernel)
set_option maxRecDepth 100000 in
theorem zk_877_108 : zm1 zKS zuq zNS zm_877 4000 zt_877_108 = true := z1F (zdt_X6_envy) (by decide +kernel)
set_option maxRecDepth 100000 in
theorem zk_877_109 : zm1 zKS zuq zNS zm_877 4000 zt_877_109 = true := z1F (zdt_X6_envy) (by decide +kernel)
set_option maxRecDepth 100000 in
theorem zk_877_110 : zm1 zKS zuq zNS zm_877 4000 zt_877_110 = true := z1F (zdt_X6_envy) (by decide +kernel)
set_option maxRecDepth 100000 in
theorem zk_877_111 : zm1 zKS zuq zNS zm_877 4000 zt_877_111 = true := z1F (zdt_X6_envy) (by decide +kernel)
set_option maxRecDepth 100000 in
theorem zk_877_112 : zm1 zKS zuq zNS zm_877 4000 zt_877_112 = true := z1F (zdt_X6_envy) (by decide +kernel)
set_option maxRecDepth 100000 in
theorem zk_877_113 : zm1 zKS zuq zNS zm_877 4000 zt_877_113 = true := z1F (zdt_X6_envy) (by decide +kernel)
set_option maxRecDepth 100000 in
theorem zk_877_114 : zm1 zKS zuq zNS zm_877 4000 zt_877_114 = true := z1F (zdt_X6_envy) (by decide +kernel)
set_option maxRecDepth 100000 in
theorem zk_877_115 : zm1 zKS zuq zNS zm_877 4000 zt_877_115 = true := z1F (zdt_X6_envy) (by decide +kernel)
set_option maxRecDepth 100000 in
theorem zk_877_116 : zm1 zKS zuq zNS zm_877 4000 zt_877_116 = true := z1F (zdt_X6_envy) (by decide +kernel)
set_option maxRecDepth 100000 in
theorem zk_877_117 : zm1 zKS zuq zNS zm_877 4000 zt_877_117 = true := z1F (zdt_X6_envy) (by decide +kernel)
set_option maxRecDepth 100000 in
theorem zk_877_118 : zm1 zKS zuq zNS zm_877 4000 zt_877_118 = true := z1F (zdt_X6_envy) (by decide +kernel)
set_option maxRecDepth 100000 in
theorem zk_877_119 : zm1 zKS zuq zNS zm_877 4000 zt_877_119 = true := z1F (zdt_X6_envy) (by decide +kernel)
set_option maxRecDepth 100000 in
theorem zk_877_s : zm0 zKS zuq zNS zm_877 4000 = true := z0F (zdt_X6_envy) (by decide +kernel)
set_option maxRecDepth 100000 in
theorem zk_877 : zmeth zKS zuq zNS zm_877 4000 = true := zmeth_by zk_877_s (List.forall_mem_cons.mpr ⟨zk_877_0, (List.forall_mem_cons.mpr ⟨zk_877_1, (List.forall_mem_cons.mpr ⟨zk_877_2, (List.forall_mem_cons.mpr ⟨zk_877_3, (List.forall_mem_cons.mpr ⟨zk_877_4, (List.forall_mem_cons.mpr ⟨zk_877_5, (List.forall_mem_cons.mpr ⟨zk_877_6, (List.forall_mem_cons.mpr ⟨zk_877_7, (List.forall_mem_cons.mpr ⟨zk_877_8, (List.forall_mem_cons.mpr ⟨zk_877_9, (List.forall_mem_cons.mpr ⟨zk_877_10, (List.forall_mem_cons.mpr ⟨zk_877_11, (List.forall_mem_cons.mpr ⟨zk_877_12, (List.forall_mem_cons.mpr ⟨zk_877_13, (List.forall_mem_cons.mpr ⟨zk_877_14, (List.forall_mem_cons.mpr ⟨zk_877_15, (List.forall_mem_cons.mpr ⟨zk_877_16, (List.forall_mem_cons.mpr ⟨zk_877_17, (List.forall_mem_cons.mpr ⟨zk_877_18, (List.forall_mem_cons.mpr ⟨zk_877_19, (List.forall_mem_cons.mpr ⟨zk_877_20, (List.forall_mem_cons.mpr ⟨zk_877_21, (List.forall_mem_cons.mpr ⟨zk_877_22, (List.forall_mem_cons.mpr ⟨zk_877_23, (List.forall_mem_cons.mpr ⟨zk_877_24, (List.forall_mem_cons.mpr ⟨zk_877_25, (List.forall_mem_cons.mpr ⟨zk_877_26, (List.forall_mem_cons.mpr ⟨zk_877_27, (List.forall_mem_cons.mpr ⟨zk_877_28, (List.forall_mem_cons.mpr ⟨zk_877_29, (List.forall_mem_cons.mpr ⟨zk_877_30, (List.forall_mem_cons.mpr ⟨zk_877_31, (List.forall_mem_cons.mpr ⟨zk_877_32, (List.forall_mem_cons.mpr ⟨zk_877_33, (List.forall_mem_cons.mpr ⟨zk_877_34, (List.forall_mem_cons.mpr ⟨zk_877_35, (List.forall_mem_cons.mpr ⟨zk_877_36, (List.forall_mem_cons.mpr ⟨zk_877_37, (List.forall_mem_cons.mpr ⟨zk_877_38, (List.forall_mem_cons.mpr ⟨zk_877_39, (List.forall_mem_cons.mpr ⟨zk_877_40, (List.forall_mem_cons.mpr ⟨zk_877_41, (List.forall_mem_cons.mpr ⟨zk_877_42, (List.forall_mem_cons.mpr ⟨zk_877_43, (List.forall_mem_cons.mpr ⟨zk_877_44, (List.forall_mem_cons.mpr ⟨zk_877_45, (List.forall_mem_cons.mpr ⟨zk_877_46, (List.forall_mem_cons.mpr ⟨zk_877_47, (List.forall_mem_cons.mpr ⟨zk_877_48, (List.forall_mem_cons.mpr ⟨zk_877_49, (List.forall_mem_cons.mpr ⟨zk_877_50, (List.forall_mem_cons.mpr ⟨zk_877_51, (List.forall_mem_cons.mpr ⟨zk_877_52, (List.forall_mem_cons.mpr ⟨zk_877_53, (List.forall_mem_cons.mpr ⟨zk_877_54, (List.forall_mem_cons.mpr ⟨zk_877_55, (List.forall_mem_cons.mpr ⟨zk_877_56, (List.forall_mem_cons.mpr ⟨zk_877_57, (List.forall_mem_cons.mpr ⟨zk_877_58, (List.forall_mem_cons.mpr ⟨zk_877_59, (List.forall_mem_cons.mpr ⟨zk_877_60, (List.forall_mem_cons.mpr ⟨zk_877_61, (List.forall_mem_cons.mpr ⟨zk_877_62, (List.forall_mem_cons.mpr ⟨zk_877_63, (List.forall_mem_cons.mpr ⟨zk_877_64, (List.forall_mem_cons.mpr ⟨zk_877_65, (List.forall_mem_cons.mpr ⟨zk_877_66, (List.forall_mem_cons.mpr ⟨zk_877_67, (List.forall_mem_cons.mpr ⟨zk_877_68, (List.forall_mem_cons.mpr ⟨zk_877_69, (List.forall_mem_cons.mpr ⟨zk_877_70, (List.forall_mem_cons.mpr ⟨zk_877_71, (List.forall_mem_cons.mpr ⟨zk_877_72, (List.forall_mem_cons.mpr ⟨zk_877_73, (List.forall_mem_cons.mpr ⟨zk_877_74, (List.forall_mem_cons.mpr ⟨zk_877_75, (List.forall_mem_cons.mpr ⟨zk_877_76, (List.forall_mem_cons.mpr ⟨zk_877_77, (List.forall_mem_cons.mpr ⟨zk_877_78, (List.forall_mem_cons.mpr ⟨zk_877_79, (List.forall_mem_cons.mpr ⟨zk_877_80, (List.forall_mem_cons.mpr ⟨zk_877_81, (List.forall_mem_cons.mpr ⟨zk_877_82, (List.forall_mem_cons.mpr ⟨zk_877_83, (List.forall_mem_cons.mpr ⟨zk_877_84, (List.forall_mem_cons.mpr ⟨zk_877_85, (List.forall_mem_cons.mpr ⟨zk_877_86, (List.forall_mem_cons.mpr ⟨zk_877_87, (List.forall_mem_cons.mpr ⟨zk_877_88, (List.forall_mem_cons.mpr ⟨zk_877_89, (List.forall_mem_cons.mpr ⟨zk_877_90, (List.forall_mem_cons.mpr ⟨zk_877_91, (List.forall_mem_cons.mpr ⟨zk_877_92, (List.forall_mem_cons.mpr ⟨zk_877_93, (List.forall_mem_cons.mpr ⟨zk_877_94, (List.forall_mem_cons.mpr ⟨zk_877_95, (List.forall_mem_cons.mpr ⟨zk_877_96, (List.forall_mem_cons.mpr ⟨zk_877_97, (List.forall_mem_cons.mpr ⟨zk_877_98, (List.forall_mem_cons.mpr ⟨zk_877_99, (List.forall_mem_cons.mpr ⟨zk_877_100, (List.forall_mem_cons.mpr ⟨zk_877_101, (List.forall_mem_cons.mpr ⟨zk_877_102, (List.forall_mem_cons.mpr ⟨zk_877_103, (List.forall_mem_cons.mpr ⟨zk_877_104, (List.forall_mem_cons.mpr ⟨zk_877_105, (List.forall_mem_cons.mpr ⟨zk_877_106, (List.forall_mem_cons.mpr ⟨zk_877_107, (List.forall_mem_cons.mpr ⟨zk_877_108, (List.forall_mem_cons.mpr ⟨zk_877_109, (List.forall_mem_cons.mpr ⟨zk_877_110, (List.forall_mem_cons.mpr ⟨zk_877_111, (List.forall_mem_cons.mpr ⟨zk_877_112, (List.forall_mem_cons.mpr ⟨zk_877_113, (List.forall_mem_cons.mpr ⟨zk_877_114, (List.forall_mem_cons.mpr ⟨zk_877_115, (List.forall_mem_cons.mpr ⟨zk_877_116, (List.forall_mem_cons.mpr ⟨zk_877_117, (List.forall_mem_cons.mpr ⟨zk_877_118, (List.forall_mem_cons.mpr ⟨zk_877_119, nilz⟩)⟩)⟩)⟩)⟩)⟩)⟩)⟩)⟩)⟩)⟩)⟩)⟩)⟩)⟩)⟩)⟩)⟩)⟩)⟩)⟩)⟩)⟩)⟩)⟩)⟩)⟩)⟩)⟩)⟩)⟩)⟩)⟩)⟩)⟩)⟩)⟩)⟩)⟩)⟩)⟩)⟩)⟩)⟩)⟩)⟩)⟩)⟩)⟩)⟩)⟩)⟩)⟩)⟩)⟩)⟩)⟩)⟩)⟩)⟩)⟩)⟩)⟩)⟩)⟩)⟩)⟩)⟩)⟩)⟩)⟩)⟩)⟩)⟩)⟩)⟩)⟩)⟩)⟩)⟩)⟩)⟩)⟩)⟩)⟩)⟩)⟩)⟩)⟩)⟩)⟩)⟩)⟩)⟩)⟩)⟩)⟩)⟩)⟩)⟩)⟩)⟩)⟩)⟩)⟩)⟩)⟩)⟩)⟩)⟩)⟩)⟩)⟩)⟩)⟩)⟩)⟩)⟩)⟩)⟩)
set_option maxRecDepth 100000 in
theorem zM_877 {l : Launch} {D : va_G} {cI cZ cB cJ cR : ClassId} {ks ad : List Nat} {Psi : va_W → Prop} (hw : zworld ks ad zuq zNS Psi) (hm : zMan l D cI cZ cB cJ cR ks ad Psi) : zMet l D cI cZ cB cJ cR zKS ks ad Psi yX6_envy (.code yX6_envy cX6_envy 4 (some .int)) 5 zc_877 :=
  zmet_of hw 5 (by decide) 4000 zk_877 (by decide) (by decide) (fun X => ⟨zg_RX6 X, zp_RX6 X, zl1_RX6 X, zl2_RX6 X, nilz, (List.forall_mem_cons.mpr ⟨zq_RX6_227 X (zM_1065 hw hm) (by decide) rfl rfl, (List.forall_mem_cons.mpr ⟨zq_RX6_270 X (zman_1021 hm) (by decide) rfl rfl, (List.forall_mem_cons.mpr ⟨zq_RX6_276 X (zM_927 hw hm) (by decide) rfl rfl, (List.forall_mem_cons.mpr ⟨zq_RX6_316 X (zM_1063 hw hm) (by decide) rfl rfl, nilz⟩)⟩)⟩)⟩)⟩)
