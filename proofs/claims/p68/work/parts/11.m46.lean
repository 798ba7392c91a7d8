set_option maxRecDepth 100000 in
theorem zk_1030_0 : zm1 zKS zuq zNS zm_1030 4000 zt_1030_0 = true := z1F (zdt_X6_lies) (by decide +kernel)
set_option maxRecDepth 100000 in
theorem zk_1030_1 : zm1 zKS zuq zNS zm_1030 4000 zt_1030_1 = true := z1F (zdt_X6_lies) (by decide +kernel)
set_option maxRecDepth 100000 in
theorem zk_1030_2 : zm1 zKS zuq zNS zm_1030 4000 zt_1030_2 = true := z1F (zdt_X6_lies) (by decide +kernel)
set_option maxRecDepth 100000 in
theorem zk_1030_3 : zm1 zKS zuq zNS zm_1030 4000 zt_1030_3 = true := z1F (zdt_X6_lies) (by decide +kernel)
set_option maxRecDepth 100000 in
theorem zk_1030_4 : zm1 zKS zuq zNS zm_1030 4000 zt_1030_4 = true := z1F (zdt_X6_lies) (by decide +kernel)
set_option maxRecDepth 100000 in
theorem zk_1030_5 : zm1 zKS zuq zNS zm_1030 4000 zt_1030_5 = true := z1F (zdt_X6_lies) (by decide +kernel)
set_option maxRecDepth 100000 in
theorem zk_1030_6 : zm1 zKS zuq zNS zm_1030 4000 zt_1030_6 = true := z1F (zdt_X6_lies) (by decide +kernel)
set_option maxRecDepth 100000 in
theorem zk_1030_7 : zm1 zKS zuq zNS zm_1030 4000 zt_1030_7 = true := z1F (zdt_X6_lies) (by decide +kernel)
set_option maxRecDepth 100000 in
theorem zk_1030_8 : zm1 zKS zuq zNS zm_1030 4000 zt_1030_8 = true := z1F (zdt_X6_lies) (by decide +kernel)
set_option maxRecDepth 100000 in
theorem zk_1030_9 : zm1 zKS zuq zNS zm_1030 4000 zt_1030_9 = true := z1F (zdt_X6_lies) (by decide +kernel)
set_option maxRecDepth 100000 in
theorem zk_1030_10 : zm1 zKS zuq zNS zm_1030 4000 zt_1030_10 = true := z1F (zdt_X6_lies) (by decide +kernel)
set_option maxRecDepth 100000 in
theorem zk_1030_11 : zm1 zKS zuq zNS zm_1030 4000 zt_1030_11 = true := z1F (zdt_X6_lies) (by decide +kernel)
set_option maxRecDepth 100000 in
theorem zk_1030_12 : zm1 zKS zuq zNS zm_1030 4000 zt_1030_12 = true := z1F (zdt_X6_lies) (by decide +kernel)
set_option maxRecDepth 100000 in
theorem zk_1030_13 : zm1 zKS zuq zNS zm_1030 4000 zt_1030_13 = true := z1F (zdt_X6_lies) (by decide +kernel)
set_option maxRecDepth 100000 in
theorem zk_1030_14 : zm1 zKS zuq zNS zm_1030 4000 zt_1030_14 = true := z1F (zdt_X6_lies) (by decide +kernel)
set_option maxRecDepth 100000 in
theorem zk_1030_15 : zm1 zKS zuq zNS zm_1030 4000 zt_1030_15 = true := z1F (zdt_X6_lies) (by decide +kernel)
set_option maxRecDepth 100000 in
theorem zk_1030_16 : zm1 zKS zuq zNS zm_1030 4000 zt_1030_16 = true := z1F (zdt_X6_lies) (by decide +kernel)
set_option maxRecDepth 100000 in
theorem zk_1030_17 : zm1 zKS zuq zNS zm_1030 4000 zt_1030_17 = true := z1F (zdt_X6_lies) (by decide +kernel)
set_option maxRecDepth 100000 in
theorem zk_1030_18 : zm1 zKS zuq zNS zm_1030 4000 zt_1030_18 = true := z1F (zdt_X6_lies) (by decide +kernel)
set_option maxRecDepth 100000 in
theorem zk_1030_19 : zm1 zKS zuq zNS zm_1030 4000 zt_1030_19 = true := z1F (zdt_X6_lies) (by decide +kernel)
set_option maxRecDepth 100000 in
theorem zk_1030_20 : zm1 zKS zuq zNS zm_1030 4000 zt_1030_20 = true := z1F (zdt_X6_lies) (by decide +kernel)
set_option maxRecDepth 100000 in
theorem zk_1030_21 : zm1 zKS zuq zNS zm_1030 4000 zt_1030_21 = true := z1F (zdt_X6_lies) (by decide +kernel)
set_option maxRecDepth 100000 in
theorem zk_1030_22 : zm1 zKS zuq zNS zm_1030 4000 zt_1030_22 = true := z1F (zdt_X6_lies) (by decide +kernel)
set_option maxRecDepth 100000 in
theorem zk_1030_23 : zm1 zKS zuq zNS zm_1030 4000 zt_1030_23 = true := z1F (zdt_X6_lies) (by decide +kernel)
set_option maxRecDepth 100000 in
theorem zk_1030_24 : zm1 zKS zuq zNS zm_1030 4000 zt_1030_24 = true := z1F (zdt_X6_lies) (by decide +kernel)
set_option maxRecDepth 100000 in
theorem zk_1030_25 : zm1 zKS zuq zNS zm_1030 4000 zt_1030_25 = true := z1F (zdt_X6_lies) (by decide +kernel)
set_option maxRecDepth 100000 in
theorem zk_1030_26 : zm1 zKS zuq zNS zm_1030 4000 zt_1030_26 = true := z1F (zdt_X6_lies) (by decide +kernel)
set_option maxRecDepth 100000 in
theorem zk_1030_27 : zm1 zKS zuq zNS zm_1030 4000 zt_1030_27 = true := z1F (zdt_X6_lies) (by decide +kernel)
set_option maxRecDepth 100000 in
theorem zk_1030_28 : zm1 zKS zuq zNS zm_1030 4000 zt_1030_28 = true := z1F (zdt_X6_lies) (by decide +kernel)
set_option maxRecDepth 100000 in
theorem zk_1030_29 : zm1 zKS zuq zNS zm_1030 4000 zt_1030_29 = true := z1F (zdt_X6_lies) (by decide +kernel)
set_option maxRecDepth 100000 in
theorem zk_1030_30 : zm1 zKS zuq zNS zm_1030 4000 zt_1030_30 = true := z1F (zdt_X6_lies) (by decide +kernel)
set_option maxRecDepth 100000 in
theorem zk_1030_31 : zm1 zKS zuq zNS zm_1030 4000 zt_1030_31 = true := z1F (zdt_X6_lies) (by decide +kernel)
set_option maxRecDepth 100000 in
theorem zk_1030_32 : zm1 zKS zuq zNS zm_1030 4000 zt_1030_32 = true := z1F (zdt_X6_lies) (by decide +kernel)
set_option maxRecDepth 100000 in
theorem zk_1030_33 : zm1 zKS zuq zNS zm_1030 4000 zt_1030_33 = true := z1F (zdt_X6_lies) (by decide +kernel)
set_option maxRecDepth 100000 in
theorem zk_1030_34 : zm1 zKS zuq zNS zm_1030 4000 zt_1030_34 = true := z1F (zdt_X6_lies) (by decide +kernel)
set_option maxRecDepth 100000 in
theorem zk_1030_35 : zm1 zKS zuq zNS zm_1030 4000 zt_1030_35 = true := z1F (zdt_X6_lies) (by decide +kernel)
set_option maxRecDepth 100000 in
theorem zk_1030_36 : zm1 zKS zuq zNS zm_1030 4000 zt_1030_36 = true := z1F (zdt_X6_lies) (by decide +kernel)
set_option maxRecDepth 100000 in
theorem zk_1030_37 : zm1 zKS zuq zNS zm_1030 4000 zt_1030_37 = true := z1F (zdt_X6_lies) (by decide +kernel)
set_option maxRecDepth 100000 in
theorem zk_1030_38 : zm1 zKS zuq zNS zm_1030 4000 zt_1030_38 = true := z1F (zdt_X6_lies) (by decide +kernel)
set_option maxRecDepth 100000 in
theorem zk_1030_39 : zm1 zKS zuq zNS zm_1030 4000 zt_1030_39 = true := z1F (zdt_X6_lies) (by decide +kernel)
set_option maxRecDepth 100000 in
theorem zk_1030_40 : zm1 zKS zuq zNS zm_1030 4000 zt_1030_40 = true := z1F (zdt_X6_lies) (by decide +kernel)
set_option maxRecDepth 100000 in
theorem zk_1030_41 : zm1 zKS zuq zNS zm_1030 4000 zt_1030_41 = true := z1F (zdt_X6_lies) (by decide +kernel)
set_option maxRecDepth 100000 in
theorem zk_1030_42 : zm1 zKS zuq zNS zm_1030 4000 zt_1030_42 = true := z1F (zdt_X6_lies) (by decide +kernel)
set_option maxRecDepth 100000 in
theorem zk_1030_43 : zm1 zKS zuq zNS zm_1030 4000 zt_1030_43 = true := z1F (zdt_X6_lies) (by decide +kernel)
set_option maxRecDepth 100000 in
theorem zk_1030_44 : zm1 zKS zuq zNS zm_1030 4000 zt_1030_44 = true := z1F (zdt_X6_lies) (by decide +kernel)
set_option maxRecDepth 100000 in
theorem zk_1030_45 : zm1 zKS zuq zNS zm_1030 4000 zt_1030_45 = true := z1F (zdt_X6_lies) (by decide +kernel)
set_option maxRecDepth 100000 in
theorem zk_1030_46 : zm1 zKS zuq zNS zm_1030 4000 zt_1030_46 = true := z1F (zdt_X6_lies) (by decide +kernel)
set_option maxRecDepth 100000 in
theorem zk_1030_47 : zm1 zKS zuq zNS zm_1030 4000 zt_1030_47 = true := z1F (zdt_X6_lies) (by decide +kernel)
set_option maxRecDepth 100000 in
theorem zk_1030_48 : zm1 zKS zuq zNS zm_1030 4000 zt_1030_48 = true := z1F (zdt_X6_lies) (by decide +kernel)
set_option maxRecDepth 100000 in
theorem zk_1030_49 : zm1 zKS zuq zNS zm_1030 4000 zt_1030_49 = true := z1F (zdt_X6_lies) (by decide +kernel)
set_option maxRecDepth 100000 in
theorem zk_1030_50 : zm1 zKS zuq zNS zm_1030 4000 zt_1030_50 = true := z1F (zdt_X6_lies) (by decide +kernel)
set_option maxRecDepth 100000 in
theorem zk_1030_51 : zm1 zKS zuq zNS zm_1030 4000 zt_1030_51 = true := z1F (zdt_X6_lies) (by decide +kernel)
set_option maxRecDepth 100000 in
theorem zk_1030_52 : zm1 zKS zuq zNS zm_1030 4000 zt_1030_52 = true := z1F (zdt_X6_lies) (by decide +kernel)
set_option maxRecDepth 100000 in
theorem zk_1030_53 : zm1 zKS zuq zNS zm_1030 4000 zt_1030_53 = true := z1F (zdt_X6_lies) (by decide +kernel)
set_option maxRecDepth 100000 in
theorem zk_1030_54 : zm1 zKS zuq zNS zm_1030 4000 zt_1030_54 = true := z1F (zdt_X6_lies) (by decide +kernel)
set_option maxRecDepth 100000 in
theorem zk_1030_55 : zm1 zKS zuq zNS zm_1030 4000 zt_1030_55 = true := z1F (zdt_X6_lies) (by decide +kernel)
set_option maxRecDepth 100000 in
theorem zk_1030_56 : zm1 zKS zuq zNS zm_1030 4000 zt_1030_56 = true := z1F (zdt_X6_lies) (by decide +kernel)
set_option maxRecDepth 100000 in
theorem zk_1030_57 : zm1 zKS zuq zNS zm_1030 4000 zt_1030_57 = true := z1F (zdt_X6_lies) (by decide +kernel)
set_option maxRecDepth 100000 in
theorem zk_1030_58 : zm1 zKS zuq zNS zm_1030 4000 zt_1030_58 = true := z1F (zdt_X6_lies) (by decide +kernel)
set_option maxRecDepth 100000 in
theorem zk_1030_59 : zm1 zKS zuq zNS zm_1030 4000 zt_1030_59 = true := z1F (zdt_X6_lies) (by decide +kernel)
set_option maxRecDepth 100000 in
theorem zk_1030_60 : zm1 zKS zuq zNS zm_1030 4000 zt_1030_60 = true := z1F (zdt_X6_lies) (by decide +kernel)
set_option maxRecDepth 100000 in
theorem zk_1030_61 : zm1 zKS zuq zNS zm_1030 4000 zt_1030_61 = true := z1F (zdt_X6_lies) (by decide +kernel)
set_option maxRecDepth 100000 in
theorem zk_1030_62 : zm1 zKS zuq zNS zm_1030 4000 zt_1030_62 = true := z1F (zdt_X6_lies) (by decide +kernel)
set_option maxRecDepth 100000 in
theorem zk_1030_63 : zm1 zKS zuq zNS zm_1030 4000 zt_1030_63 = true := z1F (zdt_X6_lies) (by decide +kernel)
set_option maxRecDepth 100000 in
theorem zk_1030_64 : zm1 zKS zuq zNS zm_1030 4000 zt_1030_64 = true := z1F (zdt_X6_lies) (by decide +kernel)
set_option maxRecDepth 100000 in
theorem zk_1030_65 : zm1 zKS zuq zNS zm_1030 4000 zt_1030_65 = true := z1F (zdt_X6_lies) (by decide +kernel)
set_option maxRecDepth 100000 in
theorem zk_1030_66 : zm1 zKS zuq zNS zm_1030 4000 zt_1030_66 = true := z1F (zdt_X6_lies) (by decide +kernel)
set_option maxRecDepth 100000 in
theorem zk_1030_67 : zm1 zKS zuq zNS zm_1030 4000 zt_1030_67 = true := z1F (zdt_X6_lies) (by decide +kernel)
set_option maxRecDepth 100000 in
theorem zk_1030_68 : zm1 zKS zuq zNS zm_1030 4000 zt_1030_68 = true := z1F (zdt_X6_lies) (by decide +kernel)
set_option maxRecDepth 100000 in
theorem zk_1030_69 : zm1 zKS zuq zNS zm_1030 4000 zt_1030_69 = true := z1F (zdt_X6_lies) (by decide +kernel)
set_option maxRecDepth 100000 in
theorem zk_1030_70 : zm1 zKS zuq zNS zm_1030 4000 zt_1030_70 = true := z1F (zdt_X6_lies) (by decide +kernel)
set_option maxRecDepth 100000 in
theorem zk_1030_71 : zm1 zKS zuq zNS zm_1030 4000 zt_1030_71 = true := z1F (zdt_X6_lies) (by decide +kernel)
set_option maxRecDepth 100000 in
theorem zk_1030_72 : zm1 zKS zuq zNS zm_1030 4000 zt_1030_72 = true := z1F (zdt_X6_lies) (by decide +kernel)
set_option maxRecDepth 100000 in
theorem zk_1030_73 : zm1 zKS zuq zNS zm_1030 4000 zt_1030_73 = true := z1F (zdt_X6_lies) (by decide +kernel)
set_option maxRecDepth 100000 in
theorem zk_1030_74 : zm1 zKS zuq zNS zm_1030 4000 zt_1030_74 = true := z1F (zdt_X6_lies) (by decide +kernel)
set_option maxRecDepth 100000 in
theorem zk_1030_75 : zm1 zKS zuq zNS zm_1030 4000 zt_1030_75 = true := z1F (zdt_X6_lies) (by decide +kernel)
set_option maxRecDepth 100000 in
theorem zk_1030_76 : zm1 zKS zuq zNS zm_1030 4000 zt_1030_76 = true := z1F (zdt_X6_lies) (by decide +kernel)
set_option maxRecDepth 100000 in
theorem zk_1030_77 : zm1 zKS zuq zNS zm_1030 4000 zt_1030_77 = true := z1F (zdt_X6_lies) (by decide +kernel)
set_option maxRecDepth 100000 in
theorem zk_1030_78 : zm1 zKS zuq zNS zm_1030 4000 zt_1030_78 = true := z1F (zdt_X6_lies) (by decide +kernel)
set_option maxRecDepth 100000 in
theorem zk_1030_79 : zm1 zKS zuq zNS zm_1030 4000 zt_1030_79 = true := z1F (zdt_X6_lies) (by decide +kernel)
set_option maxRecDepth 100000 in
theorem zk_1030_80 : zm1 zKS zuq zNS zm_1030 4000 zt_1030_80 = true := z1F (zdt_X6_lies) (by decide +kernel)
set_option maxRecDepth 100000 in
theorem zk_1030_81 : zm1 zKS zuq zNS zm_1030 4000 zt_1030_81 = true := z1F (zdt_X6_lies) (by decide +kernel)
set_option maxRecDepth 100000 in
theorem zk_1030_82 : zm1 zKS zuq zNS zm_1030 4000 zt_1030_82 = true := z1F (zdt_X6_lies) (by decide +kernel)
set_option maxRecDepth 100000 in
theorem zk_1030_83 : zm1 zKS zuq zNS zm_1030 4000 zt_1030_83 = true := z1F (zdt_X6_lies) (by decide +kernel)
set_option maxRecDepth 100000 in
theorem zk_1030_s : zm0 zKS zuq zNS zm_1030 4000 = true := z0F (zdt_X6_lies) (by decide +kernel)
set_option maxRecDepth 100000 in
theorem zk_1030 : zmeth zKS zuq zNS zm_1030 4000 = true := zmeth_by zk_1030_s (List.forall_mem_cons.mpr ⟨zk_1030_0, (List.forall_mem_cons.mpr ⟨zk_1030_1, (List.forall_mem_cons.mpr ⟨zk_1030_2, (List.forall_mem_cons.mpr ⟨zk_1030_3, (List.forall_mem_cons.mpr ⟨zk_1030_4, (List.forall_mem_cons.mpr ⟨zk_1030_5, (List.forall_mem_cons.mpr ⟨zk_1030_6, (List.forall_mem_cons.mpr ⟨zk_1030_7, (List.forall_mem_cons.mpr ⟨zk_1030_8, (List.forall_mem_cons.mpr ⟨zk_1030_9, (List.forall_mem_cons.mpr ⟨zk_1030_10, (List.forall_mem_cons.mpr ⟨zk_1030_11, (List.forall_mem_cons.mpr ⟨zk_1030_12, (List.forall_mem_cons.mpr ⟨zk_1030_13, (List.forall_mem_cons.mpr ⟨zk_1030_14, (List.forall_mem_cons.mpr ⟨zk_1030_15, (List.forall_mem_cons.mpr ⟨zk_1030_16, (List.forall_mem_cons.mpr ⟨zk_1030_17, (List.forall_mem_cons.mpr ⟨zk_1030_18, (List.forall_mem_cons.mpr ⟨zk_1030_19, (List.forall_mem_cons.mpr ⟨zk_1030_20, (List.forall_mem_cons.mpr ⟨zk_1030_21, (List.forall_mem_cons.mpr ⟨zk_1030_22, (List.forall_mem_cons.mpr ⟨zk_1030_23, (List.forall_mem_cons.mpr ⟨zk_1030_24, (List.forall_mem_cons.mpr ⟨zk_1030_25, (List.forall_mem_cons.mpr ⟨zk_1030_26, (List.forall_mem_cons.mpr ⟨zk_1030_27, (List.forall_mem_cons.mpr ⟨zk_1030_28, (List.forall_mem_cons.mpr ⟨zk_1030_29, (List.forall_mem_cons.mpr ⟨zk_1030_30, (List.forall_mem_cons.mpr ⟨zk_1030_31, (List.forall_mem_cons.mpr ⟨zk_1030_32, (List.forall_mem_cons.mpr ⟨zk_1030_33, (List.forall_mem_cons.mpr ⟨zk_1030_34, (List.forall_mem_cons.mpr ⟨zk_1030_35, (List.forall_mem_cons.mpr ⟨zk_1030_36, (List.forall_mem_cons.mpr ⟨zk_1030_37, (List.forall_mem_cons.mpr ⟨zk_1030_38, (List.forall_mem_cons.mpr ⟨zk_1030_39, (List.forall_mem_cons.mpr ⟨zk_1030_40, (List.forall_mem_cons.mpr ⟨zk_1030_41, (List.forall_mem_cons.mpr ⟨zk_1030_42, (List.forall_mem_cons.mpr ⟨zk_1030_43, (List.forall_mem_cons.mpr ⟨zk_1030_44, (List.forall_mem_cons.mpr ⟨zk_1030_45, (List.forall_mem_cons.mpr ⟨zk_1030_46, (List.forall_mem_cons.mpr ⟨zk_1030_47, (List.forall_mem_cons.mpr ⟨zk_1030_48, (List.forall_mem_cons.mpr ⟨zk_1030_49, (List.forall_mem_cons.mpr ⟨zk_1030_50, (List.forall_mem_cons.mpr ⟨zk_1030_51, (List.forall_mem_cons.mpr ⟨zk_1030_52, (List.forall_mem_cons.mpr ⟨zk_1030_53, (List.forall_mem_cons.mpr ⟨zk_1030_54, (List.forall_mem_cons.mpr ⟨zk_1030_55, (List.forall_mem_cons.mpr ⟨zk_1030_56, (List.forall_mem_cons.mpr ⟨zk_1030_57, (List.forall_mem_cons.mpr ⟨zk_1030_58, (List.forall_mem_cons.mpr ⟨zk_1030_59, (List.forall_mem_cons.mpr ⟨zk_1030_60, (List.forall_mem_cons.mpr ⟨zk_1030_61, (List.forall_mem_cons.mpr ⟨zk_1030_62, (List.forall_mem_cons.mpr ⟨zk_1030_63, (List.forall_mem_cons.mpr ⟨zk_1030_64, (List.forall_mem_cons.mpr ⟨zk_1030_65, (List.forall_mem_cons.mpr ⟨zk_1030_66, (List.forall_mem_cons.mpr ⟨zk_1030_67, (List.forall_mem_cons.mpr ⟨zk_1030_68, (List.forall_mem_cons.mpr ⟨zk_1030_69, (List.forall_mem_cons.mpr ⟨zk_1030_70, (List.forall_mem_cons.mpr ⟨zk_1030_71, (List.forall_mem_cons.mpr ⟨zk_1030_72, (List.forall_mem_cons.mpr ⟨zk_1030_73, (List.forall_mem_cons.mpr ⟨zk_1030_74, (List.forall_mem_cons.mpr ⟨zk_1030_75, (List.forall_mem_cons.mpr ⟨zk_1030_76, (List.forall_mem_cons.mpr ⟨zk_1030_77, (List.forall_mem_cons.mpr ⟨zk_1030_78, (List.forall_mem_cons.mpr ⟨zk_1030_79, (List.forall_mem_cons.mpr ⟨zk_1030_80, (List.forall_mem_cons.mpr ⟨zk_1030_81, (List.forall_mem_cons.mpr ⟨zk_1030_82, (List.forall_mem_cons.mpr ⟨zk_1030_83, nilz⟩)⟩)⟩)⟩)⟩)⟩)⟩)⟩)⟩)⟩)⟩)⟩)⟩)⟩)⟩)⟩)⟩)⟩)⟩)⟩)⟩)⟩)⟩)⟩)⟩)⟩)⟩)⟩)⟩)⟩)⟩)⟩)⟩)⟩)⟩)⟩)⟩)⟩)⟩)⟩)⟩)⟩)⟩)⟩)⟩)⟩)⟩)⟩)⟩)⟩)⟩)⟩)⟩)⟩)⟩)⟩)⟩)⟩)⟩)⟩)⟩)⟩)⟩)⟩)⟩)⟩)⟩)⟩)⟩)⟩)⟩)⟩)⟩)⟩)⟩)⟩)⟩)⟩)⟩)⟩)⟩)⟩)⟩)⟩)
set_option maxRecDepth 100000 in
theorem zM_1030 {l : Launch} {D : va_G} {cI cZ cB cJ cR : ClassId} {ks ad : List Nat} {Psi : va_W → Prop} (hw : zworld ks ad zuq zNS Psi) (hm : zMan l D cI cZ cB cJ cR ks ad Psi) : zMet l D cI cZ cB cJ cR zKS ks ad Psi yX6_lies (.code yX6_lies cX6_lies 5 (some .int)) 6 zc_1030 :=
  zmet_of hw 6 (by decide) 4000 zk_1030 (by decide) (by decide) (fun X => ⟨zg_RX6 X, zp_RX6 X, zl1_RX6 X, zl2_RX6 X, nilz, (List.forall_mem_cons.mpr ⟨zq_RX6_364 X (zM_1168 hw hm) (by decide) rfl rfl, (List.forall_mem_cons.mpr ⟨zq_RX6_364 X (zM_1169 hw hm) (by decide) rfl rfl, (List.forall_mem_cons.mpr ⟨zq_RX6_364 X (zM_1170 hw hm) (by decide) rfl rfl, (List.forall_mem_cons.mpr ⟨zq_RX6_364 X (zM_1171 hw hm) (by decide) rfl rfl, (List.forall_mem_cons.mpr ⟨zq_RX6_364 X (zM_1172 hw hm) (by decide) rfl rfl, (List.forall_mem_cons.mpr ⟨zq_RX6_364 X (zM_1167 hw hm) (by decide) rfl rfl, (List.forall_mem_cons.mpr ⟨zq_RX6_367 X (zM_936 hw hm) (by decide) rfl rfl, (List.forall_mem_cons.mpr ⟨zq_RX6_367 X (zM_937 hw hm) (by decide) rfl rfl, (List.forall_mem_cons.mpr ⟨zq_RX6_367 X (zM_938 hw hm) (by decide) rfl rfl, (List.forall_mem_cons.mpr ⟨zq_RX6_367 X (zM_939 hw hm) (by decide) rfl rfl, (List.forall_mem_cons.mpr ⟨zq_RX6_367 X (zM_940 hw hm) (by decide) rfl rfl, (List.forall_mem_cons.mpr ⟨zq_RX6_367 X (zM_941 hw hm) (by decide) rfl rfl, (List.forall_mem_cons.mpr ⟨zq_RX6_367 X (zM_942 hw hm) (by decide) rfl rfl, (List.forall_mem_cons.mpr ⟨zq_RX6_367 X (zM_943 hw hm) (by decide) rfl rfl, (List.forall_mem_cons.mpr ⟨zq_RX6_367 X (zM_944 hw hm) (by decide) rfl rfl, (List.forall_mem_cons.mpr ⟨zq_RX6_367 X (zM_945 hw hm) (by decide) rfl rfl, (List.forall_mem_cons.mpr ⟨zq_RX6_367 X (zM_946 hw hm) (by decide) rfl rfl, (List.forall_mem_cons.mpr ⟨zq_RX6_367 X (zM_947 hw hm) (by decide) rfl rfl, (List.forall_mem_cons.mpr ⟨zq_RX6_367 X (zM_948 hw hm) (by decide) rfl rfl, (List.forall_mem_cons.mpr ⟨zq_RX6_367 X (zM_949 hw hm) (by decide) rfl rfl, (List.forall_mem_cons.mpr ⟨zq_RX6_367 X (zM_950 hw hm) (by decide) rfl rfl, (List.forall_mem_cons.mpr ⟨zq_RX6_367 X (zM_951 hw hm) (by decide) rfl rfl, (List.forall_mem_cons.mpr ⟨zq_RX6_367 X (zM_952 hw hm) (by decide) rfl rfl, (List.forall_mem_cons.mpr ⟨zq_RX6_367 X (zM_953 hw hm) (by decide) rfl rfl, (List.forall_mem_cons.mpr ⟨zq_RX6_367 X (zM_954 hw hm) (by decide) rfl rfl, (List.forall_mem_cons.mpr ⟨zq_RX6_367 X (zM_955 hw hm) (by decide) rfl rfl, (List.forall_mem_cons.mpr ⟨zq_RX6_367 X (zM_956 hw hm) (by decide) rfl rfl, (List.forall_mem_cons.mpr ⟨zq_RX6_367 X (zM_957 hw hm) (by decide) rfl rfl, (List.forall_mem_cons.mpr ⟨zq_RX6_367 X (zM_958 hw hm) (by decide) rfl rfl, (List.forall_mem_cons.mpr ⟨zq_RX6_367 X (zM_959 hw hm) (by decide) rfl rfl, (List.forall_mem_cons.mpr ⟨zq_RX6_367 X (zM_960 hw hm) (by decide) rfl rfl, (List.forall_mem_cons.mpr ⟨zq_RX6_367 X (zM_961 hw hm) (by decide) rfl rfl, (List.forall_mem_cons.mpr ⟨zq_RX6_367 X (zM_962 hw hm) (by decide) rfl rfl, (List.forall_mem_cons.mpr ⟨zq_RX6_367 X (zM_963 hw hm) (by decide) rfl rfl, (List.forall_mem_cons.mpr ⟨zq_RX6_367 X (zM_964 hw hm) (by decide) rfl rfl, (List.forall_mem_cons.mpr ⟨zq_RX6_367 X (zM_965 hw hm) (by decide) rfl rfl, (List.forall_mem_cons.mpr ⟨zq_RX6_367 X (zM_966 hw hm) (by decide) rfl rfl, (List.forall_mem_cons.mpr ⟨zq_RX6_367 X (zM_967 hw hm) (by decide) rfl rfl, (List.forall_mem_cons.mpr ⟨zq_RX6_367 X (zM_968 hw hm) (by decide) rfl rfl, (List.forall_mem_cons.mpr ⟨zq_RX6_367 X (zM_969 hw hm) (by decide) rfl rfl, (List.forall_mem_cons.mpr ⟨zq_RX6_367 X (zM_970 hw hm) (by decide) rfl rfl, (List.forall_mem_cons.mpr ⟨zq_RX6_367 X (zM_971 hw hm) (by decide) rfl rfl, (List.forall_mem_cons.mpr ⟨zq_RX6_367 X (zM_972 hw hm) (by decide) rfl rfl, (List.forall_mem_cons.mpr ⟨zq_RX6_367 X (zM_973 hw hm) (by decide) rfl rfl, (List.forall_mem_cons.mpr ⟨zq_RX6_367 X (zM_974 hw hm) (by decide) rfl rfl, (List.forall_mem_cons.mpr ⟨zq_RX6_367 X (zM_975 hw hm) (by decide) rfl rfl, (List.forall_mem_cons.mpr ⟨zq_RX6_367 X (zM_976 hw hm) (by decide) rfl rfl, (List.forall_mem_cons.mpr ⟨zq_RX6_367 X (zM_977 hw hm) (by decide) rfl rfl, (List.forall_mem_cons.mpr ⟨zq_RX6_367 X (zM_978 hw hm) (by decide) rfl rfl, (List.forall_mem_cons.mpr ⟨zq_RX6_367 X (zM_979 hw hm) (by decide) rfl rfl, (List.forall_mem_cons.mpr ⟨zq_RX6_367 X (zM_980 hw hm) (by decide) rfl rfl, (List.forall_mem_cons.mpr ⟨zq_RX6_367 X (zM_981 hw hm) (by decide) rfl rfl, (List.forall_mem_cons.mpr ⟨zq_RX6_367 X (zM_982 hw hm) (by decide) rfl rfl, (List.forall_mem_cons.mpr ⟨zq_RX6_367 X (zM_983 hw hm) (by decide) rfl rfl, (List.forall_mem_cons.mpr ⟨zq_RX6_367 X (zM_984 hw hm) (by decide) rfl rfl, (List.forall_mem_cons.mpr ⟨zq_RX6_367 X (zM_985 hw hm) (by decide) rfl rfl, (List.forall_mem_cons.mpr ⟨zq_RX6_367 X (zM_986 hw hm) (by decide) rfl rfl, (List.forall_mem_cons.mpr ⟨zq_RX6_367 X (zM_987 hw hm) (by decide) rfl rfl, (List.forall_mem_cons.mpr ⟨zq_RX6_367 X (zM_988 hw hm) (by decide) rfl rfl, (List.forall_mem_cons.mpr ⟨zq_RX6_367 X (zM_989 hw hm) (by decide) rfl rfl, (List.forall_mem_cons.mpr ⟨zq_RX6_367 X (zM_990 hw hm) (by decide) rfl rfl, (List.forall_mem_cons.mpr ⟨zq_RX6_367 X (zM_991 hw hm) (by decide) rfl rfl, (List.forall_mem_cons.mpr ⟨zq_RX6_367 X (zM_992 hw hm) (by decide) rfl rfl, (List.forall_mem_cons.mpr ⟨zq_RX6_367 X (zM_993 hw hm) (by decide) rfl rfl, (List.forall_mem_cons.mpr ⟨zq_RX6_367 X (zM_994 hw hm) (by decide) rfl rfl, (List.forall_mem_cons.mpr ⟨zq_RX6_367 X (zM_995 hw hm) (by decide) rfl rfl, (List.forall_mem_cons.mpr ⟨zq_RX6_367 X (zM_996 hw hm) (by decide) rfl rfl, (List.forall_mem_cons.mpr ⟨zq_RX6_367 X (zM_997 hw hm) (by decide) rfl rfl, (List.forall_mem_cons.mpr ⟨zq_RX6_367 X (zM_998 hw hm) (by decide) rfl rfl, (List.forall_mem_cons.mpr ⟨zq_RX6_367 X (zM_999 hw hm) (by decide) rfl rfl, (List.forall_mem_cons.mpr ⟨zq_RX6_367 X (zM_1000 hw hm) (by decide) rfl rfl, (List.forall_mem_cons.mpr ⟨zq_RX6_367 X (zM_1001 hw hm) (by decide) rfl rfl, (List.forall_mem_cons.mpr ⟨zq_RX6_367 X (zM_1002 hw hm) (by decide) rfl rfl, (List.forall_mem_cons.mpr ⟨zq_RX6_367 X (zM_1003 hw hm) (by decide) rfl rfl, (List.forall_mem_cons.mpr ⟨zq_RX6_367 X (zM_1004 hw hm) (by decide) rfl rfl, (List.forall_mem_cons.mpr ⟨zq_RX6_367 X (zM_1005 hw hm) (by decide) rfl rfl, (List.forall_mem_cons.mpr ⟨zq_RX6_367 X (zM_1006 hw hm) (by decide) rfl rfl, (List.forall_mem_cons.mpr ⟨zq_RX6_367 X (zM_1007 hw hm) (by decide) rfl rfl, (List.forall_mem_cons.mpr ⟨zq_RX6_367 X (zM_1008 hw hm) (by decide) rfl rfl, (List.forall_mem_cons.mpr ⟨zq_RX6_367 X (zM_1009 hw hm) (by decide) rfl rfl, (List.forall_mem_cons.mpr ⟨zq_RX6_367 X (zM_1010 hw hm) (by decide) rfl rfl, (List.forall_mem_cons.mpr ⟨zq_RX6_367 X (zM_1011 hw hm) (by decide) rfl rfl, (List.forall_mem_cons.mpr ⟨zq_RX6_367 X (zM_1012 hw hm) (by decide) rfl rfl, (List.forall_mem_cons.mpr ⟨zq_RX6_367 X (zM_1013 hw hm) (by decide) rfl rfl, (List.forall_mem_cons.mpr ⟨zq_RX6_367 X (zM_1014 hw hm) (by decide) rfl rfl, (List.forall_mem_cons.mpr ⟨zq_RX6_367 X (zM_1015 hw hm) (by decide) rfl rfl, nilz⟩)⟩)⟩)⟩)⟩)⟩)⟩)⟩)⟩)⟩)⟩)⟩)⟩)⟩)⟩)⟩)⟩)⟩)⟩)⟩)⟩)⟩)⟩)⟩)⟩)⟩)⟩)⟩)⟩)⟩)⟩)⟩)⟩)⟩)⟩)⟩)⟩)⟩)⟩)⟩)⟩)⟩)⟩)⟩)⟩)⟩)⟩)⟩)⟩)⟩)⟩)⟩)⟩)⟩)⟩)⟩)⟩)⟩)⟩)⟩)⟩)⟩)⟩)⟩)⟩)⟩)⟩)⟩)⟩)⟩)⟩)⟩)⟩)⟩)⟩)⟩)⟩)⟩)⟩)⟩)⟩)⟩)⟩)⟩)⟩)⟩)⟩)
