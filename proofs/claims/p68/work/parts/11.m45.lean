set_option maxRecDepth 100000 in
theorem zk_1029_0 : zm1 zKS zuq zNS zm_1029 4000 zt_1029_0 = true := z1F (zdt_X6_liars) (by decide +kernel)
set_option maxRecDepth 100000 in
theorem zk_1029_1 : zm1 zKS zuq zNS zm_1029 4000 zt_1029_1 = true := z1F (zdt_X6_liars) (by decide +kernel)
set_option maxRecDepth 100000 in
theorem zk_1029_2 : zm1 zKS zuq zNS zm_1029 4000 zt_1029_2 = true := z1F (zdt_X6_liars) (by decide +kernel)
set_option maxRecDepth 100000 in
theorem zk_1029_3 : zm1 zKS zuq zNS zm_1029 4000 zt_1029_3 = true := z1F (zdt_X6_liars) (by decide +kernel)
set_option maxRecDepth 100000 in
theorem zk_1029_4 : zm1 zKS zuq zNS zm_1029 4000 zt_1029_4 = true := z1F (zdt_X6_liars) (by decide +kernel)
set_option maxRecDepth 100000 in
theorem zk_1029_5 : zm1 zKS zuq zNS zm_1029 4000 zt_1029_5 = true := z1F (zdt_X6_liars) (by decide +kernel)
set_option maxRecDepth 100000 in
theorem zk_1029_6 : zm1 zKS zuq zNS zm_1029 4000 zt_1029_6 = true := z1F (zdt_X6_liars) (by decide +kernel)
set_option maxRecDepth 100000 in
theorem zk_1029_7 : zm1 zKS zuq zNS zm_1029 4000 zt_1029_7 = true := z1F (zdt_X6_liars) (by decide +kernel)
set_option maxRecDepth 100000 in
theorem zk_1029_8 : zm1 zKS zuq zNS zm_1029 4000 zt_1029_8 = true := z1F (zdt_X6_liars) (by decide +kernel)
set_option maxRecDepth 100000 in
theorem zk_1029_9 : zm1 zKS zuq zNS zm_1029 4000 zt_1029_9 = true := z1F (zdt_X6_liars) (by decide +kernel)
set_option maxRecDepth 100000 in
theorem zk_1029_10 : zm1 zKS zuq zNS zm_1029 4000 zt_1029_10 = true := z1F (zdt_X6_liars) (by decide +kernel)
set_option maxRecDepth 100000 in
theorem zk_1029_11 : zm1 zKS zuq zNS zm_1029 4000 zt_1029_11 = true := z1F (zdt_X6_liars) (by decide +kernel)
set_option maxRecDepth 100000 in
theorem zk_1029_12 : zm1 zKS zuq zNS zm_1029 4000 zt_1029_12 = true := z1F (zdt_X6_liars) (by decide +kernel)
set_option maxRecDepth 100000 in
theorem zk_1029_13 : zm1 zKS zuq zNS zm_1029 4000 zt_1029_13 = true := z1F (zdt_X6_liars) (by decide +kernel)
set_option maxRecDepth 100000 in
theorem zk_1029_14 : zm1 zKS zuq zNS zm_1029 4000 zt_1029_14 = true := z1F (zdt_X6_liars) (by decide +kernel)
set_option maxRecDepth 100000 in
theorem zk_1029_15 : zm1 zKS zuq zNS zm_1029 4000 zt_1029_15 = true := z1F (zdt_X6_liars) (by decide +kernel)
set_option maxRecDepth 100000 in
theorem zk_1029_16 : zm1 zKS zuq zNS zm_1029 4000 zt_1029_16 = true := z1F (zdt_X6_liars) (by decide +kernel)
set_option maxRecDepth 100000 in
theorem zk_1029_17 : zm1 zKS zuq zNS zm_1029 4000 zt_1029_17 = true := z1F (zdt_X6_liars) (by decide +kernel)
set_option maxRecDepth 100000 in
theorem zk_1029_18 : zm1 zKS zuq zNS zm_1029 4000 zt_1029_18 = true := z1F (zdt_X6_liars) (by decide +kernel)
set_option maxRecDepth 100000 in
theorem zk_1029_19 : zm1 zKS zuq zNS zm_1029 4000 zt_1029_19 = true := z1F (zdt_X6_liars) (by decide +kernel)
set_option maxRecDepth 100000 in
theorem zk_1029_20 : zm1 zKS zuq zNS zm_1029 4000 zt_1029_20 = true := z1F (zdt_X6_liars) (by decide +kernel)
set_option maxRecDepth 100000 in
theorem zk_1029_21 : zm1 zKS zuq zNS zm_1029 4000 zt_1029_21 = true := z1F (zdt_X6_liars) (by decide +kernel)
set_option maxRecDepth 100000 in
theorem zk_1029_22 : zm1 zKS zuq zNS zm_1029 4000 zt_1029_22 = true := z1F (zdt_X6_liars) (by decide +kernel)
set_option maxRecDepth 100000 in
theorem zk_1029_23 : zm1 zKS zuq zNS zm_1029 4000 zt_1029_23 = true := z1F (zdt_X6_liars) (by decide +kernel)
set_option maxRecDepth 100000 in
theorem zk_1029_24 : zm1 zKS zuq zNS zm_1029 4000 zt_1029_24 = true := z1F (zdt_X6_liars) (by decide +kernel)
set_option maxRecDepth 100000 in
theorem zk_1029_25 : zm1 zKS zuq zNS zm_1029 4000 zt_1029_25 = true := z1F (zdt_X6_liars) (by decide +kernel)
set_option maxRecDepth 100000 in
theorem zk_1029_26 : zm1 zKS zuq zNS zm_1029 4000 zt_1029_26 = true := z1F (zdt_X6_liars) (by decide +kernel)
set_option maxRecDepth 100000 in
theorem zk_1029_27 : zm1 zKS zuq zNS zm_1029 4000 zt_1029_27 = true := z1F (zdt_X6_liars) (by decide +kernel)
set_option maxRecDepth 100000 in
theorem zk_1029_28 : zm1 zKS zuq zNS zm_1029 4000 zt_1029_28 = true := z1F (zdt_X6_liars) (by decide +kernel)
set_option maxRecDepth 100000 in
theorem zk_1029_29 : zm1 zKS zuq zNS zm_1029 4000 zt_1029_29 = true := z1F (zdt_X6_liars) (by decide +kernel)
set_option maxRecDepth 100000 in
theorem zk_1029_30 : zm1 zKS zuq zNS zm_1029 4000 zt_1029_30 = true := z1F (zdt_X6_liars) (by decide +kernel)
set_option maxRecDepth 100000 in
theorem zk_1029_31 : zm1 zKS zuq zNS zm_1029 4000 zt_1029_31 = true := z1F (zdt_X6_liars) (by decide +kernel)
set_option maxRecDepth 100000 in
theorem zk_1029_32 : zm1 zKS zuq zNS zm_1029 4000 zt_1029_32 = true := z1F (zdt_X6_liars) (by decide +kernel)
set_option maxRecDepth 100000 in
theorem zk_1029_33 : zm1 zKS zuq zNS zm_1029 4000 zt_1029_33 = true := z1F (zdt_X6_liars) (by decide +kernel)
set_option maxRecDepth 100000 in
theorem zk_1029_34 : zm1 zKS zuq zNS zm_1029 4000 zt_1029_34 = true := z1F (zdt_X6_liars) (by decide +kernel)
set_option maxRecDepth 100000 in
theorem zk_1029_35 : zm1 zKS zuq zNS zm_1029 4000 zt_1029_35 = true := z1F (zdt_X6_liars) (by decide +kernel)
set_option maxRecDepth 100000 in
theorem zk_1029_36 : zm1 zKS zuq zNS zm_1029 4000 zt_1029_36 = true := z1F (zdt_X6_liars) (by decide +kernel)
set_option maxRecDepth 100000 in
theorem zk_1029_37 : zm1 zKS zuq zNS zm_1029 4000 zt_1029_37 = true := z1F (zdt_X6_liars) (by decide +kernel)
set_option maxRecDepth 100000 in
theorem zk_1029_38 : zm1 zKS zuq zNS zm_1029 4000 zt_1029_38 = true := z1F (zdt_X6_liars) (by decide +kernel)
set_option maxRecDepth 100000 in
theorem zk_1029_39 : zm1 zKS zuq zNS zm_1029 4000 zt_1029_39 = true := z1F (zdt_X6_liars) (by decide +kernel)
set_option maxRecDepth 100000 in
theorem zk_1029_40 : zm1 zKS zuq zNS zm_1029 4000 zt_1029_40 = true := z1F (zdt_X6_liars) (by decide +kernel)
set_option maxRecDepth 100000 in
theorem zk_1029_41 : zm1 zKS zuq zNS zm_1029 4000 zt_1029_41 = true := z1F (zdt_X6_liars) (by decide +kernel)
set_option maxRecDepth 100000 in
theorem zk_1029_42 : zm1 zKS zuq zNS zm_1029 4000 zt_1029_42 = true := z1F (zdt_X6_liars) (by decide +kernel)
set_option maxRecDepth 100000 in
theorem zk_1029_43 : zm1 zKS zuq zNS zm_1029 4000 zt_1029_43 = true := z1F (zdt_X6_liars) (by decide +kernel)
set_option maxRecDepth 100000 in
theorem zk_1029_44 : zm1 zKS zuq zNS zm_1029 4000 zt_1029_44 = true := z1F (zdt_X6_liars) (by decide +kernel)
set_option maxRecDepth 100000 in
theorem zk_1029_45 : zm1 zKS zuq zNS zm_1029 4000 zt_1029_45 = true := z1F (zdt_X6_liars) (by decide +kernel)
set_option maxRecDepth 100000 in
theorem zk_1029_46 : zm1 zKS zuq zNS zm_1029 4000 zt_1029_46 = true := z1F (zdt_X6_liars) (by decide +kernel)
set_option maxRecDepth 100000 in
theorem zk_1029_47 : zm1 zKS zuq zNS zm_1029 4000 zt_1029_47 = true := z1F (zdt_X6_liars) (by decide +kernel)
set_option maxRecDepth 100000 in
theorem zk_1029_48 : zm1 zKS zuq zNS zm_1029 4000 zt_1029_48 = true := z1F (zdt_X6_liars) (by decide +kernel)
set_option maxRecDepth 100000 in
theorem zk_1029_49 : zm1 zKS zuq zNS zm_1029 4000 zt_1029_49 = true := z1F (zdt_X6_liars) (by decide +kernel)
set_option maxRecDepth 100000 in
theorem zk_1029_50 : zm1 zKS zuq zNS zm_1029 4000 zt_1029_50 = true := z1F (zdt_X6_liars) (by decide +kernel)
set_option maxRecDepth 100000 in
theorem zk_1029_51 : zm1 zKS zuq zNS zm_1029 4000 zt_1029_51 = true := z1F (zdt_X6_liars) (by decide +kernel)
set_option maxRecDepth 100000 in
theorem zk_1029_52 : zm1 zKS zuq zNS zm_1029 4000 zt_1029_52 = true := z1F (zdt_X6_liars) (by decide +kernel)
set_option maxRecDepth 100000 in
theorem zk_1029_53 : zm1 zKS zuq zNS zm_1029 4000 zt_1029_53 = true := z1F (zdt_X6_liars) (by decide +kernel)
set_option maxRecDepth 100000 in
theorem zk_1029_54 : zm1 zKS zuq zNS zm_1029 4000 zt_1029_54 = true := z1F (zdt_X6_liars) (by decide +kernel)
set_option maxRecDepth 100000 in
theorem zk_1029_55 : zm1 zKS zuq zNS zm_1029 4000 zt_1029_55 = true := z1F (zdt_X6_liars) (by decide +kernel)
set_option maxRecDepth 100000 in
theorem zk_1029_56 : zm1 zKS zuq zNS zm_1029 4000 zt_1029_56 = true := z1F (zdt_X6_liars) (by decide +kernel)
set_option maxRecDepth 100000 in
theorem zk_1029_57 : zm1 zKS zuq zNS zm_1029 4000 zt_1029_57 = true := z1F (zdt_X6_liars) (by decide +kernel)
set_option maxRecDepth 100000 in
theorem zk_1029_58 : zm1 zKS zuq zNS zm_1029 4000 zt_1029_58 = true := z1F (zdt_X6_liars) (by decide +kernel)
set_option maxRecDepth 100000 in
theorem zk_1029_59 : zm1 zKS zuq zNS zm_1029 4000 zt_1029_59 = true := z1F (zdt_X6_liars) (by decide +kernel)
set_option maxRecDepth 100000 in
theorem zk_1029_60 : zm1 zKS zuq zNS zm_1029 4000 zt_1029_60 = true := z1F (zdt_X6_liars) (by decide +kernel)
set_option maxRecDepth 100000 in
theorem zk_1029_61 : zm1 zKS zuq zNS zm_1029 4000 zt_1029_61 = true := z1F (zdt_X6_liars) (by decide +kernel)
set_option maxRecDepth 100000 in
theorem zk_1029_62 : zm1 zKS zuq zNS zm_1029 4000 zt_1029_62 = true := z1F (zdt_X6_liars) (by decide +kernel)
set_option maxRecDepth 100000 in
theorem zk_1029_63 : zm1 zKS zuq zNS zm_1029 4000 zt_1029_63 = true := z1F (zdt_X6_liars) (by decide +kernel)
set_option maxRecDepth 100000 in
theorem zk_1029_64 : zm1 zKS zuq zNS zm_1029 4000 zt_1029_64 = true := z1F (zdt_X6_liars) (by decide +kernel)
set_option maxRecDepth 100000 in
theorem zk_1029_65 : zm1 zKS zuq zNS zm_1029 4000 zt_1029_65 = true := z1F (zdt_X6_liars) (by decide +kernel)
set_option maxRecDepth 100000 in
theorem zk_1029_66 : zm1 zKS zuq zNS zm_1029 4000 zt_1029_66 = true := z1F (zdt_X6_liars) (by decide +kernel)
set_option maxRecDepth 100000 in
theorem zk_1029_67 : zm1 zKS zuq zNS zm_1029 4000 zt_1029_67 = true := z1F (zdt_X6_liars) (by decide +kernel)
set_option maxRecDepth 100000 in
theorem zk_1029_68 : zm1 zKS zuq zNS zm_1029 4000 zt_1029_68 = true := z1F (zdt_X6_liars) (by decide +kernel)
set_option maxRecDepth 100000 in
theorem zk_1029_69 : zm1 zKS zuq zNS zm_1029 4000 zt_1029_69 = true := z1F (zdt_X6_liars) (by decide +kernel)
set_option maxRecDepth 100000 in
theorem zk_1029_70 : zm1 zKS zuq zNS zm_1029 4000 zt_1029_70 = true := z1F (zdt_X6_liars) (by decide +kernel)
set_option maxRecDepth 100000 in
theorem zk_1029_71 : zm1 zKS zuq zNS zm_1029 4000 zt_1029_71 = true := z1F (zdt_X6_liars) (by decide +kernel)
set_option maxRecDepth 100000 in
theorem zk_1029_72 : zm1 zKS zuq zNS zm_1029 4000 zt_1029_72 = true := z1F (zdt_X6_liars) (by decide +kernel)
set_option maxRecDepth 100000 in
theorem zk_1029_73 : zm1 zKS zuq zNS zm_1029 4000 zt_1029_73 = true := z1F (zdt_X6_liars) (by decide +kernel)
set_option maxRecDepth 100000 in
theorem zk_1029_74 : zm1 zKS zuq zNS zm_1029 4000 zt_1029_74 = true := z1F (zdt_X6_liars) (by decide +kernel)
set_option maxRecDepth 100000 in
theorem zk_1029_75 : zm1 zKS zuq zNS zm_1029 4000 zt_1029_75 = true := z1F (zdt_X6_liars) (by decide +kernel)
set_option maxRecDepth 100000 in
theorem zk_1029_76 : zm1 zKS zuq zNS zm_1029 4000 zt_1029_76 = true := z1F (zdt_X6_liars) (by decide +kernel)
set_option maxRecDepth 100000 in
theorem zk_1029_77 : zm1 zKS zuq zNS zm_1029 4000 zt_1029_77 = true := z1F (zdt_X6_liars) (by decide +kernel)
set_option maxRecDepth 100000 in
theorem zk_1029_78 : zm1 zKS zuq zNS zm_1029 4000 zt_1029_78 = true := z1F (zdt_X6_liars) (by decide +kernel)
set_option maxRecDepth 100000 in
theorem zk_1029_79 : zm1 zKS zuq zNS zm_1029 4000 zt_1029_79 = true := z1F (zdt_X6_liars) (by decide +kernel)
set_option maxRecDepth 100000 in
theorem zk_1029_80 : zm1 zKS zuq zNS zm_1029 4000 zt_1029_80 = true := z1F (zdt_X6_liars) (by decide +kernel)
set_option maxRecDepth 100000 in
theorem zk_1029_81 : zm1 zKS zuq zNS zm_1029 4000 zt_1029_81 = true := z1F (zdt_X6_liars) (by decide +kernel)
set_option maxRecDepth 100000 in
theorem zk_1029_82 : zm1 zKS zuq zNS zm_1029 4000 zt_1029_82 = true := z1F (zdt_X6_liars) (by decide +kernel)
set_option maxRecDepth 100000 in
theorem zk_1029_83 : zm1 zKS zuq zNS zm_1029 4000 zt_1029_83 = true := z1F (zdt_X6_liars) (by decide +kernel)
set_option maxRecDepth 100000 in
theorem zk_1029_s : zm0 zKS zuq zNS zm_1029 4000 = true := z0F (zdt_X6_liars) (by decide +kernel)
set_option maxRecDepth 100000 in
theorem zk_1029 : zmeth zKS zuq zNS zm_1029 4000 = true := zmeth_by zk_1029_s (List.forall_mem_cons.mpr ⟨zk_1029_0, (List.forall_mem_cons.mpr ⟨zk_1029_1, (List.forall_mem_cons.mpr ⟨zk_1029_2, (List.forall_mem_cons.mpr ⟨zk_1029_3, (List.forall_mem_cons.mpr ⟨zk_1029_4, (List.forall_mem_cons.mpr ⟨zk_1029_5, (List.forall_mem_cons.mpr ⟨zk_1029_6, (List.forall_mem_cons.mpr ⟨zk_1029_7, (List.forall_mem_cons.mpr ⟨zk_1029_8, (List.forall_mem_cons.mpr ⟨zk_1029_9, (List.forall_mem_cons.mpr ⟨zk_1029_10, (List.forall_mem_cons.mpr ⟨zk_1029_11, (List.forall_mem_cons.mpr ⟨zk_1029_12, (List.forall_mem_cons.mpr ⟨zk_1029_13, (List.forall_mem_cons.mpr ⟨zk_1029_14, (List.forall_mem_cons.mpr ⟨zk_1029_15, (List.forall_mem_cons.mpr ⟨zk_1029_16, (List.forall_mem_cons.mpr ⟨zk_1029_17, (List.forall_mem_cons.mpr ⟨zk_1029_18, (List.forall_mem_cons.mpr ⟨zk_1029_19, (List.forall_mem_cons.mpr ⟨zk_1029_20, (List.forall_mem_cons.mpr ⟨zk_1029_21, (List.forall_mem_cons.mpr ⟨zk_1029_22, (List.forall_mem_cons.mpr ⟨zk_1029_23, (List.forall_mem_cons.mpr ⟨zk_1029_24, (List.forall_mem_cons.mpr ⟨zk_1029_25, (List.forall_mem_cons.mpr ⟨zk_1029_26, (List.forall_mem_cons.mpr ⟨zk_1029_27, (List.forall_mem_cons.mpr ⟨zk_1029_28, (List.forall_mem_cons.mpr ⟨zk_1029_29, (List.forall_mem_cons.mpr ⟨zk_1029_30, (List.forall_mem_cons.mpr ⟨zk_1029_31, (List.forall_mem_cons.mpr ⟨zk_1029_32, (List.forall_mem_cons.mpr ⟨zk_1029_33, (List.forall_mem_cons.mpr ⟨zk_1029_34, (List.forall_mem_cons.mpr ⟨zk_1029_35, (List.forall_mem_cons.mpr ⟨zk_1029_36, (List.forall_mem_cons.mpr ⟨zk_1029_37, (List.forall_mem_cons.mpr ⟨zk_1029_38, (List.forall_mem_cons.mpr ⟨zk_1029_39, (List.forall_mem_cons.mpr ⟨zk_1029_40, (List.forall_mem_cons.mpr ⟨zk_1029_41, (List.forall_mem_cons.mpr ⟨zk_1029_42, (List.forall_mem_cons.mpr ⟨zk_1029_43, (List.forall_mem_cons.mpr ⟨zk_1029_44, (List.forall_mem_cons.mpr ⟨zk_1029_45, (List.forall_mem_cons.mpr ⟨zk_1029_46, (List.forall_mem_cons.mpr ⟨zk_1029_47, (List.forall_mem_cons.mpr ⟨zk_1029_48, (List.forall_mem_cons.mpr ⟨zk_1029_49, (List.forall_mem_cons.mpr ⟨zk_1029_50, (List.forall_mem_cons.mpr ⟨zk_1029_51, (List.forall_mem_cons.mpr ⟨zk_1029_52, (List.forall_mem_cons.mpr ⟨zk_1029_53, (List.forall_mem_cons.mpr ⟨zk_1029_54, (List.forall_mem_cons.mpr ⟨zk_1029_55, (List.forall_mem_cons.mpr ⟨zk_1029_56, (List.forall_mem_cons.mpr ⟨zk_1029_57, (List.forall_mem_cons.mpr ⟨zk_1029_58, (List.forall_mem_cons.mpr ⟨zk_1029_59, (List.forall_mem_cons.mpr ⟨zk_1029_60, (List.forall_mem_cons.mpr ⟨zk_1029_61, (List.forall_mem_cons.mpr ⟨zk_1029_62, (List.forall_mem_cons.mpr ⟨zk_1029_63, (List.forall_mem_cons.mpr ⟨zk_1029_64, (List.forall_mem_cons.mpr ⟨zk_1029_65, (List.forall_mem_cons.mpr ⟨zk_1029_66, (List.forall_mem_cons.mpr ⟨zk_1029_67, (List.forall_mem_cons.mpr ⟨zk_1029_68, (List.forall_mem_cons.mpr ⟨zk_1029_69, (List.forall_mem_cons.mpr ⟨zk_1029_70, (List.forall_mem_cons.mpr ⟨zk_1029_71, (List.forall_mem_cons.mpr ⟨zk_1029_72, (List.forall_mem_cons.mpr ⟨zk_1029_73, (List.forall_mem_cons.mpr ⟨zk_1029_74, (List.forall_mem_cons.mpr ⟨zk_1029_75, (List.forall_mem_cons.mpr ⟨zk_1029_76, (List.forall_mem_cons.mpr ⟨zk_1029_77, (List.forall_mem_cons.mpr ⟨zk_1029_78, (List.forall_mem_cons.mpr ⟨zk_1029_79, (List.forall_mem_cons.mpr ⟨zk_1029_80, (List.forall_mem_cons.mpr ⟨zk_1029_81, (List.forall_mem_cons.mpr ⟨zk_1029_82, (List.forall_mem_cons.mpr ⟨zk_1029_83, nilz⟩)⟩)⟩)⟩)⟩)⟩)⟩)⟩)⟩)⟩)⟩)⟩)⟩)⟩)⟩)⟩)⟩)⟩)⟩)⟩)⟩)⟩)⟩)⟩)⟩)⟩)⟩)⟩)⟩)⟩)⟩)⟩)⟩)⟩)⟩)⟩)⟩)⟩)⟩)⟩)⟩)⟩)⟩)⟩)⟩)⟩)⟩)⟩)⟩)⟩)⟩)⟩)⟩)⟩)⟩)⟩)⟩)⟩)⟩)⟩)⟩)⟩)⟩)⟩)⟩)⟩)⟩)⟩)⟩)⟩)⟩)⟩)⟩)⟩)⟩)⟩)⟩)⟩)⟩)⟩)⟩)⟩)⟩)⟩)
set_option maxRecDepth 100000 in
theorem zM_1029 {l : Launch} {D : va_G} {cI cZ cB cJ cR : ClassId} {ks ad : List Nat} {Psi : va_W → Prop} (hw : zworld ks ad zuq zNS Psi) (hm : zMan l D cI cZ cB cJ cR ks ad Psi) : zMet l D cI cZ cB cJ cR zKS ks ad Psi yX6_liars (.code yX6_liars cX6_liars 5 (some .int)) 6 zc_1029 :=
  zmet_of hw 6 (by decide) 4000 zk_1029 (by decide) (by decide) (fun X => ⟨zg_RX6 X, zp_RX6 X, zl1_RX6 X, zl2_RX6 X, nilz, (List.forall_mem_cons.mpr ⟨zq_RX6_364 X (zM_1168 hw hm) (by decide) rfl rfl, (List.forall_mem_cons.mpr ⟨zq_RX6_364 X (zM_1169 hw hm) (by decide) rfl rfl, (List.forall_mem_cons.mpr ⟨zq_RX6_364 X (zM_1170 hw hm) (by decide) rfl rfl, (List.forall_mem_cons.mpr ⟨zq_RX6_364 X (zM_1171 hw hm) (by decide) rfl rfl, (List.forall_mem_cons.mpr ⟨zq_RX6_364 X (zM_1172 hw hm) (by decide) rfl rfl, (List.forall_mem_cons.mpr ⟨zq_RX6_364 X (zM_1167 hw hm) (by decide) rfl rfl, (List.forall_mem_cons.mpr ⟨zq_RX6_367 X (zM_936 hw hm) (by decide) rfl rfl, (List.forall_mem_cons.mpr ⟨zq_RX6_367 X (zM_937 hw hm) (by decide) rfl rfl, (List.forall_mem_cons.mpr ⟨zq_RX6_367 X (zM_938 hw hm) (by decide) rfl rfl, (List.forall_mem_cons.mpr ⟨zq_RX6_367 X (zM_939 hw hm) (by decide) rfl rfl, (List.forall_mem_cons.mpr ⟨zq_RX6_367 X (zM_940 hw hm) (by decide) rfl rfl, (List.forall_mem_cons.mpr ⟨zq_RX6_367 X (zM_941 hw hm) (by decide) rfl rfl, (List.forall_mem_cons.mpr ⟨zq_RX6_367 X (zM_942 hw hm) (by decide) rfl rfl, (List.forall_mem_cons.mpr ⟨zq_RX6_367 X (zM_943 hw hm) (by decide) rfl rfl, (List.forall_mem_cons.mpr ⟨zq_RX6_367 X (zM_944 hw hm) (by decide) rfl rfl, (List.forall_mem_cons.mpr ⟨zq_RX6_367 X (zM_945 hw hm) (by decide) rfl rfl, (List.forall_mem_cons.mpr ⟨zq_RX6_367 X (zM_946 hw hm) (by decide) rfl rfl, (List.forall_mem_cons.mpr ⟨zq_RX6_367 X (zM_947 hw hm) (by decide) rfl rfl, (List.forall_mem_cons.mpr ⟨zq_RX6_367 X (zM_948 hw hm) (by decide) rfl rfl, (List.forall_mem_cons.mpr ⟨zq_RX6_367 X (zM_949 hw hm) (by decide) rfl rfl, (List.forall_mem_cons.mpr ⟨zq_RX6_367 X (zM_950 hw hm) (by decide) rfl rfl, (List.forall_mem_cons.mpr ⟨zq_RX6_367 X (zM_951 hw hm) (by decide) rfl rfl, (List.forall_mem_cons.mpr ⟨zq_RX6_367 X (zM_952 hw hm) (by decide) rfl rfl, (List.forall_mem_cons.mpr ⟨zq_RX6_367 X (zM_953 hw hm) (by decide) rfl rfl, (List.forall_mem_cons.mpr ⟨zq_RX6_367 X (zM_954 hw hm) (by decide) rfl rfl, (List.forall_mem_cons.mpr ⟨zq_RX6_367 X (zM_955 hw hm) (by decide) rfl rfl, (List.forall_mem_cons.mpr ⟨zq_RX6_367 X (zM_956 hw hm) (by decide) rfl rfl, (List.forall_mem_cons.mpr ⟨zq_RX6_367 X (zM_957 hw hm) (by decide) rfl rfl, (List.forall_mem_cons.mpr ⟨zq_RX6_367 X (zM_958 hw hm) (by decide) rfl rfl, (List.forall_mem_cons.mpr ⟨zq_RX6_367 X (zM_959 hw hm) (by decide) rfl rfl, (List.forall_mem_cons.mpr ⟨zq_RX6_367 X (zM_960 hw hm) (by decide) rfl rfl, (List.forall_mem_cons.mpr ⟨zq_RX6_367 X (zM_961 hw hm) (by decide) rfl rfl, (List.forall_mem_cons.mpr ⟨zq_RX6_367 X (zM_962 hw hm) (by decide) rfl rfl, (List.forall_mem_cons.mpr ⟨zq_RX6_367 X (zM_963 hw hm) (by decide) rfl rfl, (List.forall_mem_cons.mpr ⟨zq_RX6_367 X (zM_964 hw hm) (by decide) rfl rfl, (List.forall_mem_cons.mpr ⟨zq_RX6_367 X (zM_965 hw hm) (by decide) rfl rfl, (List.forall_mem_cons.mpr ⟨zq_RX6_367 X (zM_966 hw hm) (by decide) rfl rfl, (List.forall_mem_cons.mpr ⟨zq_RX6_367 X (zM_967 hw hm) (by decide) rfl rfl, (List.forall_mem_cons.mpr ⟨zq_RX6_367 X (zM_968 hw hm) (by decide) rfl rfl, (List.forall_mem_cons.mpr ⟨zq_RX6_367 X (zM_969 hw hm) (by decide) rfl rfl, (List.forall_mem_cons.mpr ⟨zq_RX6_367 X (zM_970 hw hm) (by decide) rfl rfl, (List.forall_mem_cons.mpr ⟨zq_RX6_367 X (zM_971 hw hm) (by decide) rfl rfl, (List.forall_mem_cons.mpr ⟨zq_RX6_367 X (zM_972 hw hm) (by decide) rfl rfl, (List.forall_mem_cons.mpr ⟨zq_RX6_367 X (zM_973 hw hm) (by decide) rfl rfl, (List.forall_mem_cons.mpr ⟨zq_RX6_367 X (zM_974 hw hm) (by decide) rfl rfl, (List.forall_mem_cons.mpr ⟨zq_RX6_367 X (zM_975 hw hm) (by decide) rfl rfl, (List.forall_mem_cons.mpr ⟨zq_RX6_367 X (zM_976 hw hm) (by decide) rfl rfl, (List.forall_mem_cons.mpr ⟨zq_RX6_367 X (zM_977 hw hm) (by decide) rfl rfl, (List.forall_mem_cons.mpr ⟨zq_RX6_367 X (zM_978 hw hm) (by decide) rfl rfl, (List.forall_mem_cons.mpr ⟨zq_RX6_367 X (zM_979 hw hm) (by decide) rfl rfl, (List.forall_mem_cons.mpr ⟨zq_RX6_367 X (zM_980 hw hm) (by decide) rfl rfl, (List.forall_mem_cons.mpr ⟨zq_RX6_367 X (zM_981 hw hm) (by decide) rfl rfl, (List.forall_mem_cons.mpr ⟨zq_RX6_367 X (zM_982 hw hm) (by decide) rfl rfl, (List.forall_mem_cons.mpr ⟨zq_RX6_367 X (zM_983 hw hm) (by decide) rfl rfl, (List.forall_mem_cons.mpr ⟨zq_RX6_367 X (zM_984 hw hm) (by decide) rfl rfl, (List.forall_mem_cons.mpr ⟨zq_RX6_367 X (zM_985 hw hm) (by decide) rfl rfl, (List.forall_mem_cons.mpr ⟨zq_RX6_367 X (zM_986 hw hm) (by decide) rfl rfl, (List.forall_mem_cons.mpr ⟨zq_RX6_367 X (zM_987 hw hm) (by decide) rfl rfl, (List.forall_mem_cons.mpr ⟨zq_RX6_367 X (zM_988 hw hm) (by decide) rfl rfl, (List.forall_mem_cons.mpr ⟨zq_RX6_367 X (zM_989 hw hm) (by decide) rfl rfl, (List.forall_mem_cons.mpr ⟨zq_RX6_367 X (zM_990 hw hm) (by decide) rfl rfl, (List.forall_mem_cons.mpr ⟨zq_RX6_367 X (zM_991 hw hm) (by decide) rfl rfl, (List.forall_mem_cons.mpr ⟨zq_RX6_367 X (zM_992 hw hm) (by decide) rfl rfl, (List.forall_mem_cons.mpr ⟨zq_RX6_367 X (zM_993 hw hm) (by decide) rfl rfl, (List.forall_mem_cons.mpr ⟨zq_RX6_367 X (zM_994 hw hm) (by decide) rfl rfl, (List.forall_mem_cons.mpr ⟨zq_RX6_367 X (zM_995 hw hm) (by decide) rfl rfl, (List.forall_mem_cons.mpr ⟨zq_RX6_367 X (zM_996 hw hm) (by decide) rfl rfl, (List.forall_mem_cons.mpr ⟨zq_RX6_367 X (zM_997 hw hm) (by decide) rfl rfl, (List.forall_mem_cons.mpr ⟨zq_RX6_367 X (zM_998 hw hm) (by decide) rfl rfl, (List.forall_mem_cons.mpr ⟨zq_RX6_367 X (zM_999 hw hm) (by decide) rfl rfl, (List.forall_mem_cons.mpr ⟨zq_RX6_367 X (zM_1000 hw hm) (by decide) rfl rfl, (List.forall_mem_cons.mpr ⟨zq_RX6_367 X (zM_1001 hw hm) (by decide) rfl rfl, (List.forall_mem_cons.mpr ⟨zq_RX6_367 X (zM_1002 hw hm) (by decide) rfl rfl, (List.forall_mem_cons.mpr ⟨zq_RX6_367 X (zM_1003 hw hm) (by decide) rfl rfl, (List.forall_mem_cons.mpr ⟨zq_RX6_367 X (zM_1004 hw hm) (by decide) rfl rfl, (List.forall_mem_cons.mpr ⟨zq_RX6_367 X (zM_1005 hw hm) (by decide) rfl rfl, (List.forall_mem_cons.mpr ⟨zq_RX6_367 X (zM_1006 hw hm) (by decide) rfl rfl, (List.forall_mem_cons.mpr ⟨zq_RX6_367 X (zM_1007 hw hm) (by decide) rfl rfl, (List.forall_mem_cons.mpr ⟨zq_RX6_367 X (zM_1008 hw hm) (by decide) rfl rfl, (List.forall_mem_cons.mpr ⟨zq_RX6_367 X (zM_1009 hw hm) (by decide) rfl rfl, (List.forall_mem_cons.mpr ⟨zq_RX6_367 X (zM_1010 hw hm) (by decide) rfl rfl, (List.forall_mem_cons.mpr ⟨zq_RX6_367 X (zM_1011 hw hm) (by decide) rfl rfl, (List.forall_mem_cons.mpr ⟨zq_RX6_367 X (zM_1012 hw hm) (by decide) rfl rfl, (List.forall_mem_cons.mpr ⟨zq_RX6_367 X (zM_1013 hw hm) (by decide) rfl rfl, (List.forall_mem_cons.mpr ⟨zq_RX6_367 X (zM_1014 hw hm) (by decide) rfl rfl, (List.forall_mem_cons.mpr ⟨zq_RX6_367 X (zM_1015 hw hm) (by decide) rfl rfl, nilz⟩)⟩)⟩)⟩)⟩)⟩)⟩)⟩)⟩)⟩)⟩)⟩)⟩)⟩)⟩)⟩)⟩)⟩)⟩)⟩)⟩)⟩)⟩)⟩)⟩)⟩)⟩)⟩)⟩)⟩)⟩)⟩)⟩)⟩)⟩)⟩)⟩)⟩)⟩)⟩)⟩)⟩)⟩)⟩)⟩)⟩)⟩)⟩)⟩)⟩)⟩)⟩)⟩)⟩)⟩)⟩)⟩)⟩)⟩)⟩)⟩)⟩)⟩)⟩)⟩)⟩)⟩)⟩)⟩)⟩)⟩)⟩)⟩)⟩)⟩)⟩)⟩)⟩)⟩)⟩)⟩)⟩)⟩)⟩)⟩)⟩)⟩)
