set_option maxRecDepth 100000 in
theorem zk_873_0 : zm1 zKS zuq zNS zm_873 4000 zt_873_0 = true := z1F (zdt_X6_envy) (by decide +kernel)
set_option maxRecDepth 100000 in
theorem zk_873_1 : zm1 zKS zuq zNS zm_873 4000 zt_873_1 = true := z1F (zdt_X6_envy) (by decide +kernel)
set_option maxRecDepth 100000 in
theorem zk_873_2 : zm1 zKS zuq zNS zm_873 4000 zt_873_2 = true := z1F (zdt_X6_envy) (by decide +kernel)
set_option maxRecDepth 100000 in
theorem zk_873_3 : zm1 zKS zuq zNS zm_873 4000 zt_873_3 = true := z1F (zdt_X6_envy) (by decide +kernel)
set_option maxRecDepth 100000 in
theorem zk_873_4 : zm1 zKS zuq zNS zm_873 4000 zt_873_4 = true := z1F (zdt_X6_envy) (by decide +kernel)
set_option maxRecDepth 100000 in
theorem zk_873_5 : zm1 zKS zuq zNS zm_873 4000 zt_873_5 = true := z1F (zdt_X6_envy) (by decide +kernel)
set_option maxRecDepth 100000 in
theorem zk_873_6 : zm1 zKS zuq zNS zm_873 4000 zt_873_6 = true := z1F (zdt_X6_envy) (by decide +kernel)
set_option maxRecDepth 100000 in
theorem zk_873_7 : zm1 zKS zuq zNS zm_873 4000 zt_873_7 = true := z1F (zdt_X6_envy) (by decide +kernel)
set_option maxRecDepth 100000 in
theorem zk_873_8 : zm1 zKS zuq zNS zm_873 4000 zt_873_8 = true := z1F (zdt_X6_envy) (by decide +kernel)
set_option maxRecDepth 100000 in
theorem zk_873_9 : zm1 zKS zuq zNS zm_873 4000 zt_873_9 = true := z1F (zdt_X6_envy) (by decide +kernel)
set_option maxRecDepth 100000 in
theorem zk_873_10 : zm1 zKS zuq zNS zm_873 4000 zt_873_10 = true := z1F (zdt_X6_envy) (by decide +kernel)
set_option maxRecDepth 100000 in
theorem zk_873_11 : zm1 zKS zuq zNS zm_873 4000 zt_873_11 = true := z1F (zdt_X6_envy) (by decide +kernel)
set_option maxRecDepth 100000 in
theorem zk_873_12 : zm1 zKS zuq zNS zm_873 4000 zt_873_12 = true := z1F (zdt_X6_envy) (by decide +kernel)
set_option maxRecDepth 100000 in
theorem zk_873_13 : zm1 zKS zuq zNS zm_873 4000 zt_873_13 = true := z1F (zdt_X6_envy) (by decide +kernel)
set_option maxRecDepth 100000 in
theorem zk_873_14 : zm1 zKS zuq zNS zm_873 4000 zt_873_14 = true := z1F (zdt_X6_envy) (by decide +kernel)
set_option maxRecDepth 100000 in
theorem zk_873_15 : zm1 zKS zuq zNS zm_873 4000 zt_873_15 = true := z1F (zdt_X6_envy) (by decide +kernel)
set_option maxRecDepth 100000 in
theorem zk_873_16 : zm1 zKS zuq zNS zm_873 4000 zt_873_16 = true := z1F (zdt_X6_envy) (by decide +kernel)
set_option maxRecDepth 100000 in
theorem zk_873_17 : zm1 zKS zuq zNS zm_873 4000 zt_873_17 = true := z1F (zdt_X6_envy) (by decide +kernel)
set_option maxRecDepth 100000 in
theorem zk_873_18 : zm1 zKS zuq zNS zm_873 4000 zt_873_18 = true := z1F (zdt_X6_envy) (by decide +kernel)
set_option maxRecDepth 100000 in
theorem zk_873_19 : zm1 zKS zuq zNS zm_873 4000 zt_873_19 = true := z1F (zdt_X6_envy) (by decide +kernel)
set_option maxRecDepth 100000 in
theorem zk_873_20 : zm1 zKS zuq zNS zm_873 4000 zt_873_20 = true := z1F (zdt_X6_envy) (by decide +kernel)
set_option maxRecDepth 100000 in
theorem zk_873_21 : zm1 zKS zuq zNS zm_873 4000 zt_873_21 = true := z1F (zdt_X6_envy) (by decide +kernel)
set_option maxRecDepth 100000 in
theorem zk_873_22 : zm1 zKS zuq zNS zm_873 4000 zt_873_22 = true := z1F (zdt_X6_envy) (by decide +kernel)
set_option maxRecDepth 100000 in
theorem zk_873_23 : zm1 zKS zuq zNS zm_873 4000 zt_873_23 = true := z1F (zdt_X6_envy) (by decide +kernel)
set_option maxRecDepth 100000 in
theorem zk_873_24 : zm1 zKS zuq zNS zm_873 4000 zt_873_24 = true := z1F (zdt_X6_envy) (by decide +kernel)
set_option maxRecDepth 100000 in
theorem zk_873_25 : zm1 zKS zuq zNS zm_873 4000 zt_873_25 = true := z1F (zdt_X6_envy) (by decide +kernel)
set_option maxRecDepth 100000 in
theorem zk_873_26 : zm1 zKS zuq zNS zm_873 4000 zt_873_26 = true := z1F (zdt_X6_envy) (by decide +kernel)
set_option maxRecDepth 100000 in
theorem zk_873_27 : zm1 zKS zuq zNS zm_873 4000 zt_873_27 = true := z1F (zdt_X6_envy) (by decide +kernel)
set_option maxRecDepth 100000 in
theorem zk_873_28 : zm1 zKS zuq zNS zm_873 4000 zt_873_28 = true := z1F (zdt_X6_envy) (by decide +kernel)
set_option maxRecDepth 100000 in
theorem zk_873_29 : zm1 zKS zuq zNS zm_873 4000 zt_873_29 = true := z1F (zdt_X6_envy) (by decide +kernel)
set_option maxRecDepth 100000 in
theorem zk_873_30 : zm1 zKS zuq zNS zm_873 4000 zt_873_30 = true := z1F (zdt_X6_envy) (by decide +kernel)
set_option maxRecDepth 100000 in
theorem zk_873_31 : zm1 zKS zuq zNS zm_873 4000 zt_873_31 = true := z1F (zdt_X6_envy) (by decide +kernel)
set_option maxRecDepth 100000 in
theorem zk_873_32 : zm1 zKS zuq zNS zm_873 4000 zt_873_32 = true := z1F (zdt_X6_envy) (by decide +kernel)
set_option maxRecDepth 100000 in
theorem zk_873_33 : zm1 zKS zuq zNS zm_873 4000 zt_873_33 = true := z1F (zdt_X6_envy) (by decide +kernel)
set_option maxRecDepth 100000 in
theorem zk_873_34 : zm1 zKS zuq zNS zm_873 4000 zt_873_34 = true := z1F (zdt_X6_envy) (by decide +kernel)
set_option maxRecDepth 100000 in
theorem zk_873_35 : zm1 zKS zuq zNS zm_873 4000 zt_873_35 = true := z1F (zdt_X6_envy) (by decide +kernel)
set_option maxRecDepth 100000 in
theorem zk_873_36 : zm1 zKS zuq zNS zm_873 4000 zt_873_36 = true := z1F (zdt_X6_envy) (by decide +kernel)
set_option maxRecDepth 100000 in
theorem zk_873_37 : zm1 zKS zuq zNS zm_873 4000 zt_873_37 = true := z1F (zdt_X6_envy) (by decide +kernel)
set_option maxRecDepth 100000 in
theorem zk_873_38 : zm1 zKS zuq zNS zm_873 4000 zt_873_38 = true := z1F (zdt_X6_envy) (by decide +kernel)
set_option maxRecDepth 100000 in
theorem zk_873_39 : zm1 zKS zuq zNS zm_873 4000 zt_873_39 = true := z1F (zdt_X6_envy) (by decide +kernel)
set_option maxRecDepth 100000 in
theorem zk_873_40 : zm1 zKS zuq zNS zm_873 4000 zt_873_40 = true := z1F (zdt_X6_envy) (by decide +kernel)
set_option maxRecDepth 100000 in
theorem zk_873_41 : zm1 zKS zuq zNS zm_873 4000 zt_873_41 = true := z1F (zdt_X6_envy) (by decide +kernel)
set_option maxRecDepth 100000 in
theorem zk_873_42 : zm1 zKS zuq zNS zm_873 4000 zt_873_42 = true := z1F (zdt_X6_envy) (by decide +kernel)
set_option maxRecDepth 100000 in
theorem zk_873_43 : zm1 zKS zuq zNS zm_873 4000 zt_873_43 = true := z1F (zdt_X6_envy) (by decide +kernel)
set_option maxRecDepth 100000 in
theorem zk_873_44 : zm1 zKS zuq zNS zm_873 4000 zt_873_44 = true := z1F (zdt_X6_envy) (by decide +kernel)
set_option maxRecDepth 100000 in
theorem zk_873_45 : zm1 zKS zuq zNS zm_873 4000 zt_873_45 = true := z1F (zdt_X6_envy) (by decide +kernel)
set_option maxRecDepth 100000 in
theorem zk_873_46 : zm1 zKS zuq zNS zm_873 4000 zt_873_46 = true := z1F (zdt_X6_envy) (by decide +kernel)
set_option maxRecDepth 100000 in
theorem zk_873_47 : zm1 zKS zuq zNS zm_873 4000 zt_873_47 = true := z1F (zdt_X6_envy) (by decide +kernel)
set_option maxRecDepth 100000 in
theorem zk_873_48 : zm1 zKS zuq zNS zm_873 4000 zt_873_48 = true := z1F (zdt_X6_envy) (by decide +kernel)
set_option maxRecDepth 100000 in
theorem zk_873_49 : zm1 zKS zuq zNS zm_873 4000 zt_873_49 = true := z1F (zdt_X6_envy) (by decide +kernel)
set_option maxRecDepth 100000 in
theorem zk_873_50 : zm1 zKS zuq zNS zm_873 4000 zt_873_50 = true := z1F (zdt_X6_envy) (by decide +kernel)
set_option maxRecDepth 100000 in
theorem zk_873_51 : zm1 zKS zuq zNS zm_873 4000 zt_873_51 = true := z1F (zdt_X6_envy) (by decide +kernel)
set_option maxRecDepth 100000 in
theorem zk_873_52 : zm1 zKS zuq zNS zm_873 4000 zt_873_52 = true := z1F (zdt_X6_envy) (by decide +kernel)
set_option maxRecDepth 100000 in
theorem zk_873_53 : zm1 zKS zuq zNS zm_873 4000 zt_873_53 = true := z1F (zdt_X6_envy) (by decide +kernel)
set_option maxRecDepth 100000 in
theorem zk_873_54 : zm1 zKS zuq zNS zm_873 4000 zt_873_54 = true := z1F (zdt_X6_envy) (by decide +kernel)
set_option maxRecDepth 100000 in
theorem zk_873_55 : zm1 zKS zuq zNS zm_873 4000 zt_873_55 = true := z1F (zdt_X6_envy) (by decide +kernel)
set_option maxRecDepth 100000 in
theorem zk_873_56 : zm1 zKS zuq zNS zm_873 4000 zt_873_56 = true := z1F (zdt_X6_envy) (by decide +kernel)
set_option maxRecDepth 100000 in
theorem zk_873_57 : zm1 zKS zuq zNS zm_873 4000 zt_873_57 = true := z1F (zdt_X6_envy) (by decide +kernel)
set_option maxRecDepth 100000 in
theorem zk_873_58 : zm1 zKS zuq zNS zm_873 4000 zt_873_58 = true := z1F (zdt_X6_envy) (by decide +kernel)
set_option maxRecDepth 100000 in
theorem zk_873_59 : zm1 zKS zuq zNS zm_873 4000 zt_873_59 = true := z1F (zdt_X6_envy) (by decide +kernel)
set_option maxRecDepth 100000 in
theorem zk_873_60 : zm1 zKS zuq zNS zm_873 4000 zt_873_60 = true := z1F (zdt_X6_envy) (by decide +kernel)
set_option maxRecDepth 100000 in
theorem zk_873_61 : zm1 zKS zuq zNS zm_873 4000 zt_873_61 = true := z1F (zdt_X6_envy) (by decide +kernel)
set_option maxRecDepth 100000 in
theorem zk_873_62 : zm1 zKS zuq zNS zm_873 4000 zt_873_62 = true := z1F (zdt_X6_envy) (by decide +kernel)
set_option maxRecDepth 100000 in
theorem zk_873_63 : zm1 zKS zuq zNS zm_873 4000 zt_873_63 = true := z1F (zdt_X6_envy) (by decide +kernel)
set_option maxRecDepth 100000 in
theorem zk_873_64 : zm1 zKS zuq zNS zm_873 4000 zt_873_64 = true := z1F (zdt_X6_envy) (by decide +kernel)
set_option maxRecDepth 100000 in
theorem zk_873_65 : zm1 zKS zuq zNS zm_873 4000 zt_873_65 = true := z1F (zdt_X6_envy) (by decide +kernel)
set_option maxRecDepth 100000 in
theorem zk_873_66 : zm1 zKS zuq zNS zm_873 4000 zt_873_66 = true := z1F (zdt_X6_envy) (by decide +kernel)
set_option maxRecDepth 100000 in
theorem zk_873_67 : zm1 zKS zuq zNS zm_873 4000 zt_873_67 = true := z1F (zdt_X6_envy) (by decide +kernel)
set_option maxRecDepth 100000 in
theorem zk_873_68 : zm1 zKS zuq zNS zm_873 4000 zt_873_68 = true := z1F (zdt_X6_envy) (by decide +kernel)
set_option maxRecDepth 100000 in
theorem zk_873_69 : zm1 zKS zuq zNS zm_873 4000 zt_873_69 = true := z1F (zdt_X6_envy) (by decide +kernel)
set_option maxRecDepth 100000 in
theorem zk_873_70 : zm1 zKS zuq zNS zm_873 4000 zt_873_70 = true := z1F (zdt_X6_envy) (by decide +kernel)
set_option maxRecDepth 100000 in
theorem zk_873_71 : zm1 zKS zuq zNS zm_873 4000 zt_873_71 = true := z1F (zdt_X6_envy) (by decide +kernel)
set_option maxRecDepth 100000 in
theorem zk_873_72 : zm1 zKS zuq zNS zm_873 4000 zt_873_72 = true := z1F (zdt_X6_envy) (by decide +kernel)
set_option maxRecDepth 100000 in
theorem zk_873_73 : zm1 zKS zuq zNS zm_873 4000 zt_873_73 = true := z1F (zdt_X6_envy) (by decide +kernel)
set_option maxRecDepth 100000 in
theorem zk_873_74 : zm1 zKS zuq zNS zm_873 4000 zt_873_74 = true := z1F (zdt_X6_envy) (by decide +kernel)
set_option maxRecDepth 100000 in
theorem zk_873_75 : zm1 zKS zuq zNS zm_873 4000 zt_873_75 = true := z1F (zdt_X6_envy) (by decide +kernel)
set_option maxRecDepth 100000 in
theorem zk_873_76 : zm1 zKS zuq zNS zm_873 4000 zt_873_76 = true := z1F (zdt_X6_envy) (by decide +kernel)
set_option maxRecDepth 100000 in
theorem zk_873_77 : zm1 zKS zuq zNS zm_873 4000 zt_873_77 = true := z1F (zdt_X6_envy) (by decide +kernel)
set_option maxRecDepth 100000 in
theorem zk_873_78 : zm1 zKS zuq zNS zm_873 4000 zt_873_78 = true := z1F (zdt_X6_envy) (by decide +kernel)
set_option maxRecDepth 100000 in
theorem zk_873_79 : zm1 zKS zuq zNS zm_873 4000 zt_873_79 = true := z1F (zdt_X6_envy) (by decide +kernel)
set_option maxRecDepth 100000 in
theorem zk_873_80 : zm1 zKS zuq zNS zm_873 4000 zt_873_80 = true := z1F (zdt_X6_envy) (by decide +kernel)
set_option maxRecDepth 100000 in
theorem zk_873_81 : zm1 zKS zuq zNS zm_873 4000 zt_873_81 = true := z1F (zdt_X6_envy) (by decide +kernel)
set_option maxRecDepth 100000 in
theorem zk_873_82 : zm1 zKS zuq zNS zm_873 4000 zt_873_82 = true := z1F (zdt_X6_envy) (by decide +kernel)
set_option maxRecDepth 100000 in
theorem zk_873_83 : zm1 zKS zuq zNS zm_873 4000 zt_873_83 = true := z1F (zdt_X6_envy) (by decide +kernel)
set_option maxRecDepth 100000 in
theorem zk_873_84 : zm1 zKS zuq zNS zm_873 4000 zt_873_84 = true := z1F (zdt_X6_envy) (by decide +kernel)
set_option maxRecDepth 100000 in
theorem zk_873_85 : zm1 zKS zuq zNS zm_873 4000 zt_873_85 = true := z1F (zdt_X6_envy) (by decide +kernel)
set_option maxRecDepth 100000 in
theorem zk_873_86 : zm1 zKS zuq zNS zm_873 4000 zt_873_86 = true := z1F (zdt_X6_envy) (by decide +kernel)
set_option maxRecDepth 100000 in
theorem zk_873_87 : zm1 zKS zuq zNS zm_873 4000 zt_873_87 = true := z1F (zdt_X6_envy) (by decide +kernel)
set_option maxRecDepth 100000 in
theorem zk_873_88 : zm1 zKS zuq zNS zm_873 4000 zt_873_88 = true := z1F (zdt_X6_envy) (by decide +kernel)
set_option maxRecDepth 100000 in
theorem zk_873_89 : zm1 zKS zuq zNS zm_873 4000 zt_873_89 = true := z1F (zdt_X6_envy) (by decide +kernel)
set_option maxRecDepth 100000 in
theorem zk_873_90 : zm1 zKS zuq zNS zm_873 4000 zt_873_90 = true := z1F (zdt_X6_envy) (by decide +kernel)
set_option maxRecDepth 100000 in
theorem zk_873_91 : zm1 zKS zuq zNS zm_873 4000 zt_873_91 = true := z1F (zdt_X6_envy) (by decide +kernel)
set_option maxRecDepth 100000 in
theorem zk_873_92 : zm1 zKS zuq zNS zm_873 4000 zt_873_92 = true := z1F (zdt_X6_envy) (by decide +kernel)
set_option maxRecDepth 100000 in
theorem zk_873_93 : zm1 zKS zuq zNS zm_873 4000 zt_873_93 = true := z1F (zdt_X6_envy) (by decide +kernel)
set_option maxRecDepth 100000 in
theorem zk_873_94 : zm1 zKS zuq zNS zm_873 4000 zt_873_94 = true := z1F (zdt_X6_envy) (by decide +kernel)
set_option maxRecDepth 100000 in
theorem zk_873_95 : zm1 zKS zuq zNS zm_873 4000 zt_873_95 = true := z1F (zdt_X6_envy) (by decide +kernel)
set_option maxRecDepth 100000 in
theorem zk_873_96 : zm1 zKS zuq zNS zm_873 4000 zt_873_96 = true := z1F (zdt_X6_envy) (by decide +kernel)
set_option maxRecDepth 100000 in
theorem zk_873_97 : zm1 zKS zuq zNS zm_873 4000 zt_873_97 = true := z1F (zdt_X6_envy) (by decide +kernel)
set_option maxRecDepth 100000 in
theorem zk_873_98 : zm1 zKS zuq zNS zm_873 4000 zt_873_98 = true := z1F (zdt_X6_envy) (by decide +kernel)
set_option maxRecDepth 100000 in
theorem zk_873_99 : zm1 zKS zuq zNS zm_873 4000 zt_873_99 = true := z1F (zdt_X6_envy) (by decide +kernel)
set_option maxRecDepth 100000 in
theorem zk_873_100 : zm1 zKS zuq zNS zm_873 4000 zt_873_100 = true := z1F (zdt_X6_envy) (by decide +kernel)
set_option maxRecDepth 100000 in
theorem zk_873_101 : zm1 zKS zuq zNS zm_873 4000 zt_873_101 = true := z1F (zdt_X6_envy) (by decide +kernel)
set_option maxRecDepth 100000 in
theorem zk_873_102 : zm1 zKS zuq zNS zm_873 4000 zt_873_102 = true := z1F (zdt_X6_envy) (by decide +kernel)
set_option maxRecDepth 100000 in
theorem zk_873_103 : zm1 zKS zuq zNS zm_873 4000 zt_873_103 = true := z1F (zdt_X6_envy) (by decide +kernel)
set_option maxRecDepth 100000 in
theorem zk_873_104 : zm1 zKS zuq zNS zm_873 4000 zt_873_104 = true := z1F (zdt_X6_envy) (by decide +kernel)
set_option maxRecDepth 100000 in
theorem zk_873_105 : zm1 zKS zuq zNS zm_873 4000 zt_873_105 = true := z1F (zdt_X6_envy) (by decide +kernel)
set_option maxRecDepth 100000 in
theorem zk_873_106 : zm1 zKS zuq zNS zm_873 4000 zt_873_106 = true := z1F (zdt_X6_envy) (by decide +kernel)
set_option maxRecDepth 100000 in
theorem zk_873_107 : zm1 zKS zuq zNS zm_873 4000 zt_873_107 = true := z1F (zdt_X6_envy) (by decide +kernel)
set_option maxRecDepth 100000 in
theorem zk_873_108 : zm1 zKS zuq zNS zm_873 4000 zt_873_108 = true := z1F (zdt_X6_envy) (by decide +kernel)
set_option maxRecDepth 100000 in
theorem zk_873_109 : zm1 zKS zuq zNS zm_873 4000 zt_873_109 = true := z1F (zdt_X6_envy) (by decide +kernel)
set_option maxRecDepth 100000 in
theorem zk_873_110 : zm1 zKS zuq zNS zm_873 4000 zt_873_110 = true := z1F (zdt_X6_envy) (by decide +kernel)
set_option maxRecDepth 100000 in
theorem zk_873_111 : zm1 zKS zuq zNS zm_873 4000 zt_873_111 = true := z1F (zdt_X6_envy) (by decide +kernel)
set_option maxRecDepth 100000 in
theorem zk_873_112 : zm1 zKS zuq zNS zm_873 4000 zt_873_112 = true := z1F (zdt_X6_envy) (by decide +kernel)
set_option maxRecDepth 100000 in
theorem zk_873_113 : zm1 zKS zuq zNS zm_873 4000 zt_873_113 = true := z1F (zdt_X6_envy) (by decide +kernel)
set_option maxRecDepth 100000 in
theorem zk_873_114 : zm1 zKS zuq zNS zm_873 4000 zt_873_114 = true := z1F (zdt_X6_envy) (by decide +kernel)
set_option maxRecDepth 100000 in
theorem zk_873_115 : zm1 zKS zuq zNS zm_873 4000 zt_873_115 = true := z1F (zdt_X6_envy) (by decide +kernel)
set_option maxRecDepth 100000 in
theorem zk_873_116 : zm1 zKS zuq zNS zm_873 4000 zt_873_116 = true := z1F (zdt_X6_envy) (by decide +kernel)
set_option maxRecDepth 100000 in
theorem zk_873_117 : zm1 zKS zuq zNS zm_873 4000 zt_873_117 = true := z1F (zdt_X6_envy) (by decide +kernel)
set_option maxRecDepth 100000 in
theorem zk_873_118 : zm1 zKS zuq zNS zm_873 4000 zt_873_118 = true := z1F (zdt_X6_envy) (by decide +kernel)
set_option maxRecDepth 100000 in
theorem zk_873_119 : zm1 zKS zuq zNS zm_873 4000 zt_873_119 = true := z1F (zdt_X6_envy) (by decide +kernel)
set_option maxRecDepth 100000 in
theorem zk_873_s : zm0 zKS zuq zNS zm_873 4000 = true := z0F (zdt_X6_envy) (by decide +kernel)
set_option maxRecDepth 100000 in
theorem zk_873 : zmeth zKS zuq zNS zm_873 4000 = true := zmeth_by zk_873_s (List.forall_mem_cons.mpr ⟨zk_873_0, (List.forall_mem_cons.mpr ⟨zk_873_1, (List.forall_mem_cons.mpr ⟨zk_873_2, (List.forall_mem_cons.mpr ⟨zk_873_3, (List.forall_mem_cons.mpr ⟨zk_873_4, (List.forall_mem_cons.mpr ⟨zk_873_5, (List.forall_mem_cons.mpr ⟨zk_873_6, (List.forall_mem_cons.mpr ⟨zk_873_7, (List.forall_mem_cons.mpr ⟨zk_873_8, (List.forall_mem_cons.mpr ⟨zk_873_9, (List.forall_mem_cons.mpr ⟨zk_873_10, (List.forall_mem_cons.mpr ⟨zk_873_11, (List.forall_mem_cons.mpr ⟨zk_873_12, (List.forall_mem_cons.mpr ⟨zk_873_13, (List.forall_mem_cons.mpr ⟨zk_873_14, (List.forall_mem_cons.mpr ⟨zk_873_15, (List.forall_mem_cons.mpr ⟨zk_873_16, (List.forall_mem_cons.mpr ⟨zk_873_17, (List.forall_mem_cons.mpr ⟨zk_873_18, (List.forall_mem_cons.mpr ⟨zk_873_19, (List.forall_mem_cons.mpr ⟨zk_873_20, (List.forall_mem_cons.mpr ⟨zk_873_21, (List.forall_mem_cons.mpr ⟨zk_873_22, (List.forall_mem_cons.mpr ⟨zk_873_23, (List.forall_mem_cons.mpr ⟨zk_873_24, (List.forall_mem_cons.mpr ⟨zk_873_25, (List.forall_mem_cons.mpr ⟨zk_873_26, (List.forall_mem_cons.mpr ⟨zk_873_27, (List.forall_mem_cons.mpr ⟨zk_873_28, (List.forall_mem_cons.mpr ⟨zk_873_29, (List.forall_mem_cons.mpr ⟨zk_873_30, (List.forall_mem_cons.mpr ⟨zk_873_31, (List.forall_mem_cons.mpr ⟨zk_873_32, (List.forall_mem_cons.mpr ⟨zk_873_33, (List.forall_mem_cons.mpr ⟨zk_873_34, (List.forall_mem_cons.mpr ⟨zk_873_35, (List.forall_mem_cons.mpr ⟨zk_873_36, (List.forall_mem_cons.mpr ⟨zk_873_37, (List.forall_mem_cons.mpr ⟨zk_873_38, (List.forall_mem_cons.mpr ⟨zk_873_39, (List.forall_mem_cons.mpr ⟨zk_873_40, (List.forall_mem_cons.mpr ⟨zk_873_41, (List.forall_mem_cons.mpr ⟨zk_873_42, (List.forall_mem_cons.mpr ⟨zk_873_43, (List.forall_mem_cons.mpr ⟨zk_873_44, (List.forall_mem_cons.mpr ⟨zk_873_45, (List.forall_mem_cons.mpr ⟨zk_873_46, (List.forall_mem_cons.mpr ⟨zk_873_47, (List.forall_mem_cons.mpr ⟨zk_873_48, (List.forall_mem_cons.mpr ⟨zk_873_49, (List.forall_mem_cons.mpr ⟨zk_873_50, (List.forall_mem_cons.mpr ⟨zk_873_51, (List.forall_mem_cons.mpr ⟨zk_873_52, (List.forall_mem_cons.mpr ⟨zk_873_53, (List.forall_mem_cons.mpr ⟨zk_873_54, (List.forall_mem_cons.mpr ⟨zk_873_55, (List.forall_mem_cons.mpr ⟨zk_873_56, (List.forall_mem_cons.mpr ⟨zk_873_57, (List.forall_mem_cons.mpr ⟨zk_873_58, (List.forall_mem_cons.mpr ⟨zk_873_59, (List.forall_mem_cons.mpr ⟨zk_873_60, (List.forall_mem_cons.mpr ⟨zk_873_61, (List.forall_mem_cons.mpr ⟨zk_873_62, (List.forall_mem_cons.mpr ⟨zk_873_63, (List.forall_mem_cons.mpr ⟨zk_873_64, (List.forall_mem_cons.mpr ⟨zk_873_65, (List.forall_mem_cons.mpr ⟨zk_873_66, (List.forall_mem_cons.mpr ⟨zk_873_67, (List.forall_mem_cons.mpr ⟨zk_873_68, (List.forall_mem_cons.mpr ⟨zk_873_69, (List.forall_mem_cons.mpr ⟨zk_873_70, (List.forall_mem_cons.mpr ⟨zk_873_71, (List.forall_mem_cons.mpr ⟨zk_873_72, (List.forall_mem_cons.mpr ⟨zk_873_73, (List.forall_mem_cons.mpr ⟨zk_873_74, (List.forall_mem_cons.mpr ⟨zk_873_75, (List.forall_mem_cons.mpr ⟨zk_873_76, (List.forall_mem_cons.mpr ⟨zk_873_77, (List.forall_mem_cons.mpr ⟨zk_873_78, (List.forall_mem_cons.mpr ⟨zk_873_79, (List.forall_mem_cons.mpr ⟨zk_873_80, (List.forall_mem_cons.mpr ⟨zk_873_81, (List.forall_mem_cons.mpr ⟨zk_873_82, (List.forall_mem_cons.mpr ⟨zk_873_83, (List.forall_mem_cons.mpr ⟨zk_873_84, (List.forall_mem_cons.mpr ⟨zk_873_85, (List.forall_mem_cons.mpr ⟨zk_873_86, (List.forall_mem_cons.mpr ⟨zk_873_87, (List.forall_mem_cons.mpr ⟨zk_873_88, (List.forall_mem_cons.mpr ⟨zk_873_89, (List.forall_mem_cons.mpr ⟨zk_873_90, (List.forall_mem_cons.mpr ⟨zk_873_91, (List.forall_mem_cons.mpr ⟨zk_873_92, (List.forall_mem_cons.mpr ⟨zk_873_93, (List.forall_mem_cons.mpr ⟨zk_873_94, (List.forall_mem_cons.mpr ⟨zk_873_95, (List.forall_mem_cons.mpr ⟨zk_873_96, (List.forall_mem_cons.mpr ⟨zk_873_97, (List.forall_mem_cons.mpr ⟨zk_873_98, (List.forall_mem_cons.mpr ⟨zk_873_99, (List.forall_mem_cons.mpr ⟨zk_873_100, (List.forall_mem_cons.mpr ⟨zk_873_101, (List.forall_mem_cons.mpr ⟨zk_873_102, (List.forall_mem_cons.mpr ⟨zk_873_103, (List.forall_mem_cons.mpr ⟨zk_873_104, (List.forall_mem_cons.mpr ⟨zk_873_105, (List.forall_mem_cons.mpr ⟨zk_873_106, (List.forall_mem_cons.mpr ⟨zk_873_107, (List.forall_mem_cons.mpr ⟨zk_873_108, (List.forall_mem_cons.mpr ⟨zk_873_109, (List.forall_mem_cons.mpr ⟨zk_873_110, (List.forall_mem_cons.mpr ⟨zk_873_111, (List.forall_mem_cons.mpr ⟨zk_873_112, (List.forall_mem_cons.mpr ⟨zk_873_113, (List.forall_mem_cons.mpr ⟨zk_873_114, (List.forall_mem_cons.mpr ⟨zk_873_115, (List.forall_mem_cons.mpr ⟨zk_873_116, (List.forall_mem_cons.mpr ⟨zk_873_117, (List.forall_mem_cons.mpr ⟨zk_873_118, (List.forall_mem_cons.mpr ⟨zk_873_119, nilz⟩)⟩)⟩)⟩)⟩)⟩)⟩)⟩)⟩)⟩)⟩)⟩)⟩)⟩)⟩)⟩)⟩)⟩)⟩)⟩)⟩)⟩)⟩)⟩)⟩)⟩)⟩)⟩)⟩)⟩)⟩)⟩)⟩)⟩)⟩)⟩)⟩)⟩)⟩)⟩)⟩)⟩)⟩)⟩)⟩)⟩)⟩)⟩)⟩)⟩)⟩)⟩)⟩)⟩)⟩)⟩)⟩)⟩)⟩)⟩)⟩)⟩)⟩)⟩)⟩)⟩)⟩)⟩)⟩)⟩)⟩)⟩)⟩)⟩)⟩)⟩)⟩)⟩)⟩)⟩)⟩)⟩)⟩)⟩)⟩)⟩)⟩)⟩)⟩)⟩)⟩)⟩)⟩)⟩)⟩)⟩)⟩)⟩)⟩)⟩)⟩)⟩)⟩)⟩)⟩)⟩)⟩)⟩)⟩)⟩)⟩)⟩)⟩)⟩)⟩)⟩)⟩)⟩)⟩)⟩)
set_option maxRecDepth 100000 in
theorem zM_873 {l : Launch} {D : va_G} {cI cZ cB cJ cR : ClassId} {ks ad : List Nat} {Psi : va_W → Prop} (hw : zworld ks ad zuq zNS Psi) (hm : zMan l D cI cZ cB cJ cR ks ad Psi) : zMet l D cI cZ cB cJ cR zKS ks ad Psi yX6_envy (.code yX6_envy cX6_envy 4 (some .int)) 5 zc_873 :=
  zmet_of hw 5 (by decide) 4000 zk_873 (by decide) (by decide) (fun X => ⟨zg_RX6 X, zp_RX6 X, zl1_RX6 X, zl2_RX6 X, nilz, (List.forall_mem_cons.mpr ⟨zq_RX6_227 X (zM_1061 hw hm) (by decide) rfl rfl, (List.forall_mem_cons.mpr ⟨zq_RX6_270 X (zman_1017 hm) (by decide) rfl rfl, (List.forall_mem_cons.mpr ⟨zq_RX6_276 X (zM_923 hw hm) (by decide) rfl rfl, (List.forall_mem_cons.mpr ⟨zq_RX6_316 X (zM_1059 hw hm) (by decide) rfl rfl, nilz⟩)⟩)⟩)⟩)⟩)
