set_option maxRecDepth 100000 in
theorem zk_756_0 : zm1 zKS zuq zNS zm_756 4000 zt_756_0 = true := z1F (zdt_X5_liars) (by decide +kernel)
set_option maxRecDepth 100000 in
theorem zk_756_1 : zm1 zKS zuq zNS zm_756 4000 zt_756_1 = true := z1F (zdt_X5_liars) (by decide +kernel)
set_option maxRecDepth 100000 in
theorem zk_756_2 : zm1 zKS zuq zNS zm_756 4000 zt_756_2 = true := z1F (zdt_X5_liars) (by decide +kernel)
set_option maxRecDepth 100000 in
theorem zk_756_3 : zm1 zKS zuq zNS zm_756 4000 zt_756_3 = true := z1F (zdt_X5_liars) (by decide +kernel)
set_option maxRecDepth 100000 in
theorem zk_756_4 : zm1 zKS zuq zNS zm_756 4000 zt_756_4 = true := z1F (zdt_X5_liars) (by decide +kernel)
set_option maxRecDepth 100000 in
theorem zk_756_5 : zm1 zKS zuq zNS zm_756 4000 zt_756_5 = true := z1F (zdt_X5_liars) (by decide +kernel)
set_option maxRecDepth 100000 in
theorem zk_756_6 : zm1 zKS zuq zNS zm_756 4000 zt_756_6 = true := z1F (zdt_X5_liars) (by decide +kernel)
set_option maxRecDepth 100000 in
theorem zk_756_7 : zm1 zKS zuq zNS zm_756 4000 zt_756_7 = true := z1F (zdt_X5_liars) (by decide +kernel)
set_option maxRecDepth 100000 in
theorem zk_756_8 : zm1 zKS zuq zNS zm_756 4000 zt_756_8 = true := z1F (zdt_X5_liars) (by decide +kernel)
set_option maxRecDepth 100000 in
theorem zk_756_9 : zm1 zKS zuq zNS zm_756 4000 zt_756_9 = true := z1F (zdt_X5_liars) (by decide +kernel)
set_option maxRecDepth 100000 in
theorem zk_756_10 : zm1 zKS zuq zNS zm_756 4000 zt_756_10 = true := z1F (zdt_X5_liars) (by decide +kernel)
set_option maxRecDepth 100000 in
theorem zk_756_11 : zm1 zKS zuq zNS zm_756 4000 zt_756_11 = true := z1F (zdt_X5_liars) (by decide +kernel)
set_option maxRecDepth 100000 in
theorem zk_756_12 : zm1 zKS zuq zNS zm_756 4000 zt_756_12 = true := z1F (zdt_X5_liars) (by decide +kernel)
set_option maxRecDepth 100000 in
theorem zk_756_13 : zm1 zKS zuq zNS zm_756 4000 zt_756_13 = true := z1F (zdt_X5_liars) (by decide +kernel)
set_option maxRecDepth 100000 in
theorem zk_756_14 : zm1 zKS zuq zNS zm_756 4000 zt_756_14 = true := z1F (zdt_X5_liars) (by decide +kernel)
set_option maxRecDepth 100000 in
theorem zk_756_15 : zm1 zKS zuq zNS zm_756 4000 zt_756_15 = true := z1F (zdt_X5_liars) (by decide +kernel)
set_option maxRecDepth 100000 in
theorem zk_756_16 : zm1 zKS zuq zNS zm_756 4000 zt_756_16 = true := z1F (zdt_X5_liars) (by decide +kernel)
set_option maxRecDepth 100000 in
theorem zk_756_17 : zm1 zKS zuq zNS zm_756 4000 zt_756_17 = true := z1F (zdt_X5_liars) (by decide +kernel)
set_option maxRecDepth 100000 in
theorem zk_756_18 : zm1 zKS zuq zNS zm_756 4000 zt_756_18 = true := z1F (zdt_X5_liars) (by decide +kernel)
set_option maxRecDepth 100000 in
theorem zk_756_19 : zm1 zKS zuq zNS zm_756 4000 zt_756_19 = true := z1F (zdt_X5_liars) (by decide +kernel)
set_option maxRecDepth 100000 in
theorem zk_756_20 : zm1 zKS zuq zNS zm_756 4000 zt_756_20 = true := z1F (zdt_X5_liars) (by decide +kernel)
set_option maxRecDepth 100000 in
theorem zk_756_21 : zm1 zKS zuq zNS zm_756 4000 zt_756_21 = true := z1F (zdt_X5_liars) (by decide +kernel)
set_option maxRecDepth 100000 in
theorem zk_756_22 : zm1 zKS zuq zNS zm_756 4000 zt_756_22 = true := z1F (zdt_X5_liars) (by decide +kernel)
set_option maxRecDepth 100000 in
theorem zk_756_23 : zm1 zKS zuq zNS zm_756 4000 zt_756_23 = true := z1F (zdt_X5_liars) (by decide +kernel)
set_option maxRecDepth 100000 in
theorem zk_756_24 : zm1 zKS zuq zNS zm_756 4000 zt_756_24 = true := z1F (zdt_X5_liars) (by decide +kernel)
set_option maxRecDepth 100000 in
theorem zk_756_25 : zm1 zKS zuq zNS zm_756 4000 zt_756_25 = true := z1F (zdt_X5_liars) (by decide +kernel)
set_option maxRecDepth 100000 in
theorem zk_756_26 : zm1 zKS zuq zNS zm_756 4000 zt_756_26 = true := z1F (zdt_X5_liars) (by decide +kernel)
set_option maxRecDepth 100000 in
theorem zk_756_27 : zm1 zKS zuq zNS zm_756 4000 zt_756_27 = true := z1F (zdt_X5_liars) (by decide +kernel)
set_option maxRecDepth 100000 in
theorem zk_756_28 : zm1 zKS zuq zNS zm_756 4000 zt_756_28 = true := z1F (zdt_X5_liars) (by decide +kernel)
set_option maxRecDepth 100000 in
theorem zk_756_29 : zm1 zKS zuq zNS zm_756 4000 zt_756_29 = true := z1F (zdt_X5_liars) (by decide +kernel)
set_option maxRecDepth 100000 in
theorem zk_756_30 : zm1 zKS zuq zNS zm_756 4000 zt_756_30 = true := z1F (zdt_X5_liars) (by decide +kernel)
set_option maxRecDepth 100000 in
theorem zk_756_31 : zm1 zKS zuq zNS zm_756 4000 zt_756_31 = true := z1F (zdt_X5_liars) (by decide +kernel)
set_option maxRecDepth 100000 in
theorem zk_756_32 : zm1 zKS zuq zNS zm_756 4000 zt_756_32 = true := z1F (zdt_X5_liars) (by decide +kernel)
set_option maxRecDepth 100000 in
theorem zk_756_33 : zm1 zKS zuq zNS zm_756 4000 zt_756_33 = true := z1F (zdt_X5_liars) (by decide +kernel)
set_option maxRecDepth 100000 in
theorem zk_756_34 : zm1 zKS zuq zNS zm_756 4000 zt_756_34 = true := z1F (zdt_X5_liars) (by decide +kernel)
set_option maxRecDepth 100000 in
theorem zk_756_35 : zm1 zKS zuq zNS zm_756 4000 zt_756_35 = true := z1F (zdt_X5_liars) (by decide +kernel)
set_option maxRecDepth 100000 in
theorem zk_756_36 : zm1 zKS zuq zNS zm_756 4000 zt_756_36 = true := z1F (zdt_X5_liars) (by decide +kernel)
set_option maxRecDepth 100000 in
theorem zk_756_37 : zm1 zKS zuq zNS zm_756 4000 zt_756_37 = true := z1F (zdt_X5_liars) (by decide +kernel)
set_option maxRecDepth 100000 in
theorem zk_756_38 : zm1 zKS zuq zNS zm_756 4000 zt_756_38 = true := z1F (zdt_X5_liars) (by decide +kernel)
set_option maxRecDepth 100000 in
theorem zk_756_39 : zm1 zKS zuq zNS zm_756 4000 zt_756_39 = true := z1F (zdt_X5_liars) (by decide +kernel)
set_option maxRecDepth 100000 in
theorem zk_756_40 : zm1 zKS zuq zNS zm_756 4000 zt_756_40 = true := z1F (zdt_X5_liars) (by decide +kernel)
set_option maxRecDepth 100000 in
theorem zk_756_41 : zm1 zKS zuq zNS zm_756 4000 zt_756_41 = true := z1F (zdt_X5_liars) (by decide +kernel)
set_option maxRecDepth 100000 in
theorem zk_756_42 : zm1 zKS zuq zNS zm_756 4000 zt_756_42 = true := z1F (zdt_X5_liars) (by decide +kernel)
set_option maxRecDepth 100000 in
theorem zk_756_43 : zm1 zKS zuq zNS zm_756 4000 zt_756_43 = true := z1F (zdt_X5_liars) (by decide +kernel)
set_option maxRecDepth 100000 in
theorem zk_756_44 : zm1 zKS zuq zNS zm_756 4000 zt_756_44 = true := z1F (zdt_X5_liars) (by decide +kernel)
set_option maxRecDepth 100000 in
theorem zk_756_45 : zm1 zKS zuq zNS zm_756 4000 zt_756_45 = true := z1F (zdt_X5_liars) (by decide +kernel)
set_option maxRecDepth 100000 in
theorem zk_756_46 : zm1 zKS zuq zNS zm_756 4000 zt_756_46 = true := z1F (zdt_X5_liars) (by decide +kernel)
set_option maxRecDepth 100000 in
theorem zk_756_47 : zm1 zKS zuq zNS zm_756 4000 zt_756_47 = true := z1F (zdt_X5_liars) (by decide +kernel)
set_option maxRecDepth 100000 in
theorem zk_756_48 : zm1 zKS zuq zNS zm_756 4000 zt_756_48 = true := z1F (zdt_X5_liars) (by decide +kernel)
set_option maxRecDepth 100000 in
theorem zk_756_49 : zm1 zKS zuq zNS zm_756 4000 zt_756_49 = true := z1F (zdt_X5_liars) (by decide +kernel)
set_option maxRecDepth 100000 in
theorem zk_756_50 : zm1 zKS zuq zNS zm_756 4000 zt_756_50 = true := z1F (zdt_X5_liars) (by decide +kernel)
set_option maxRecDepth 100000 in
theorem zk_756_51 : zm1 zKS zuq zNS zm_756 4000 zt_756_51 = true := z1F (zdt_X5_liars) (by decide +kernel)
set_option maxRecDepth 100000 in
theorem zk_756_52 : zm1 zKS zuq zNS zm_756 4000 zt_756_52 = true := z1F (zdt_X5_liars) (by decide +kernel)
set_option maxRecDepth 100000 in
theorem zk_756_53 : zm1 zKS zuq zNS zm_756 4000 zt_756_53 = true := z1F (zdt_X5_liars) (by decide +kernel)
set_option maxRecDepth 100000 in
theorem zk_756_54 : zm1 zKS zuq zNS zm_756 4000 zt_756_54 = true := z1F (zdt_X5_liars) (by decide +kernel)
set_option maxRecDepth 100000 in
theorem zk_756_55 : zm1 zKS zuq zNS zm_756 4000 zt_756_55 = true := z1F (zdt_X5_liars) (by decide +kernel)
set_option maxRecDepth 100000 in
theorem zk_756_56 : zm1 zKS zuq zNS zm_756 4000 zt_756_56 = true := z1F (zdt_X5_liars) (by decide +kernel)
set_option maxRecDepth 100000 in
theorem zk_756_57 : zm1 zKS zuq zNS zm_756 4000 zt_756_57 = true := z1F (zdt_X5_liars) (by decide +kernel)
set_option maxRecDepth 100000 in
theorem zk_756_58 : zm1 zKS zuq zNS zm_756 4000 zt_756_58 = true := z1F (zdt_X5_liars) (by decide +kernel)
set_option maxRecDepth 100000 in
theorem zk_756_59 : zm1 zKS zuq zNS zm_756 4000 zt_756_59 = true := z1F (zdt_X5_liars) (by decide +kernel)
set_option maxRecDepth 100000 in
theorem zk_756_60 : zm1 zKS zuq zNS zm_756 4000 zt_756_60 = true := z1F (zdt_X5_liars) (by decide +kernel)
set_option maxRecDepth 100000 in
theorem zk_756_61 : zm1 zKS zuq zNS zm_756 4000 zt_756_61 = true := z1F (zdt_X5_liars) (by decide +kernel)
set_option maxRecDepth 100000 in
theorem zk_756_62 : zm1 zKS zuq zNS zm_756 4000 zt_756_62 = true := z1F (zdt_X5_liars) (by decide +kernel)
set_option maxRecDepth 100000 in
theorem zk_756_63 : zm1 zKS zuq zNS zm_756 4000 zt_756_63 = true := z1F (zdt_X5_liars) (by decide +kernel)
set_option maxRecDepth 100000 in
theorem zk_756_64 : zm1 zKS zuq zNS zm_756 4000 zt_756_64 = true := z1F (zdt_X5_liars) (by decide +kernel)
set_option maxRecDepth 100000 in
theorem zk_756_65 : zm1 zKS zuq zNS zm_756 4000 zt_756_65 = true := z1F (zdt_X5_liars) (by decide +kernel)
set_option maxRecDepth 100000 in
theorem zk_756_66 : zm1 zKS zuq zNS zm_756 4000 zt_756_66 = true := z1F (zdt_X5_liars) (by decide +kernel)
set_option maxRecDepth 100000 in
theorem zk_756_67 : zm1 zKS zuq zNS zm_756 4000 zt_756_67 = true := z1F (zdt_X5_liars) (by decide +kernel)
set_option maxRecDepth 100000 in
theorem zk_756_68 : zm1 zKS zuq zNS zm_756 4000 zt_756_68 = true := z1F (zdt_X5_liars) (by decide +kernel)
set_option maxRecDepth 100000 in
theorem zk_756_69 : zm1 zKS zuq zNS zm_756 4000 zt_756_69 = true := z1F (zdt_X5_liars) (by decide +kernel)
set_option maxRecDepth 100000 in
theorem zk_756_70 : zm1 zKS zuq zNS zm_756 4000 zt_756_70 = true := z1F (zdt_X5_liars) (by decide +kernel)
set_option maxRecDepth 100000 in
theorem zk_756_71 : zm1 zKS zuq zNS zm_756 4000 zt_756_71 = true := z1F (zdt_X5_liars) (by decide +kernel)
set_option maxRecDepth 100000 in
theorem zk_756_72 : zm1 zKS zuq zNS zm_756 4000 zt_756_72 = true := z1F (zdt_X5_liars) (by decide +kernel)
set_option maxRecDepth 100000 in
theorem zk_756_73 : zm1 zKS zuq zNS zm_756 4000 zt_756_73 = true := z1F (zdt_X5_liars) (by decide +kernel)
set_option maxRecDepth 100000 in
theorem zk_756_74 : zm1 zKS zuq zNS zm_756 4000 zt_756_74 = true := z1F (zdt_X5_liars) (by decide +kernel)
set_option maxRecDepth 100000 in
theorem zk_756_75 : zm1 zKS zuq zNS zm_756 4000 zt_756_75 = true := z1F (zdt_X5_liars) (by decide +kernel)
set_option maxRecDepth 100000 in
theorem zk_756_76 : zm1 zKS zuq zNS zm_756 4000 zt_756_76 = true := z1F (zdt_X5_liars) (by decide +kernel)
set_option maxRecDepth 100000 in
theorem zk_756_77 : zm1 zKS zuq zNS zm_756 4000 zt_756_77 = true := z1F (zdt_X5_liars) (by decide +kernel)
set_option maxRecDepth 100000 in
theorem zk_756_78 : zm1 zKS zuq zNS zm_756 4000 zt_756_78 = true := z1F (zdt_X5_liars) (by decide +kernel)
set_option maxRecDepth 100000 in
theorem zk_756_79 : zm1 zKS zuq zNS zm_756 4000 zt_756_79 = true := z1F (zdt_X5_liars) (by decide +kernel)
set_option maxRecDepth 100000 in
theorem zk_756_80 : zm1 zKS zuq zNS zm_756 4000 zt_756_80 = true := z1F (zdt_X5_liars) (by decide +kernel)
set_option maxRecDepth 100000 in
theorem zk_756_81 : zm1 zKS zuq zNS zm_756 4000 zt_756_81 = true := z1F (zdt_X5_liars) (by decide +kernel)
set_option maxRecDepth 100000 in
theorem zk_756_82 : zm1 zKS zuq zNS zm_756 4000 zt_756_82 = true := z1F (zdt_X5_liars) (by decide +kernel)
set_option maxRecDepth 100000 in
theorem zk_756_83 : zm1 zKS zuq zNS zm_756 4000 zt_756_83 = true := z1F (zdt_X5_liars) (by decide +kernel)
set_option maxRecDepth 100000 in
theorem zk_756_s : zm0 zKS zuq zNS zm_756 4000 = true := z0F (zdt_X5_liars) (by decide +kernel)
set_option maxRecDepth 100000 in
theorem zk_756 : zmeth zKS zuq zNS zm_756 4000 = true := zmeth_by zk_756_s (List.forall_mem_cons.mpr ⟨zk_756_0, (List.forall_mem_cons.mpr ⟨zk_756_1, (List.forall_mem_cons.mpr ⟨zk_756_2, (List.forall_mem_cons.mpr ⟨zk_756_3, (List.forall_mem_cons.mpr ⟨zk_756_4, (List.forall_mem_cons.mpr ⟨zk_756_5, (List.forall_mem_cons.mpr ⟨zk_756_6, (List.forall_mem_cons.mpr ⟨zk_756_7, (List.forall_mem_cons.mpr ⟨zk_756_8, (List.forall_mem_cons.mpr ⟨zk_756_9, (List.forall_mem_cons.mpr ⟨zk_756_10, (List.forall_mem_cons.mpr ⟨zk_756_11, (List.forall_mem_cons.mpr ⟨zk_756_12, (List.forall_mem_cons.mpr ⟨zk_756_13, (List.forall_mem_cons.mpr ⟨zk_756_14, (List.forall_mem_cons.mpr ⟨zk_756_15, (List.forall_mem_cons.mpr ⟨zk_756_16, (List.forall_mem_cons.mpr ⟨zk_756_17, (List.forall_mem_cons.mpr ⟨zk_756_18, (List.forall_mem_cons.mpr ⟨zk_756_19, (List.forall_mem_cons.mpr ⟨zk_756_20, (List.forall_mem_cons.mpr ⟨zk_756_21, (List.forall_mem_cons.mpr ⟨zk_756_22, (List.forall_mem_cons.mpr ⟨zk_756_23, (List.forall_mem_cons.mpr ⟨zk_756_24, (List.forall_mem_cons.mpr ⟨zk_756_25, (List.forall_mem_cons.mpr ⟨zk_756_26, (List.forall_mem_cons.mpr ⟨zk_756_27, (List.forall_mem_cons.mpr ⟨zk_756_28, (List.forall_mem_cons.mpr ⟨zk_756_29, (List.forall_mem_cons.mpr ⟨zk_756_30, (List.forall_mem_cons.mpr ⟨zk_756_31, (List.forall_mem_cons.mpr ⟨zk_756_32, (List.forall_mem_cons.mpr ⟨zk_756_33, (List.forall_mem_cons.mpr ⟨zk_756_34, (List.forall_mem_cons.mpr ⟨zk_756_35, (List.forall_mem_cons.mpr ⟨zk_756_36, (List.forall_mem_cons.mpr ⟨zk_756_37, (List.forall_mem_cons.mpr ⟨zk_756_38, (List.forall_mem_cons.mpr ⟨zk_756_39, (List.forall_mem_cons.mpr ⟨zk_756_40, (List.forall_mem_cons.mpr ⟨zk_756_41, (List.forall_mem_cons.mpr ⟨zk_756_42, (List.forall_mem_cons.mpr ⟨zk_756_43, (List.forall_mem_cons.mpr ⟨zk_756_44, (List.forall_mem_cons.mpr ⟨zk_756_45, (List.forall_mem_cons.mpr ⟨zk_756_46, (List.forall_mem_cons.mpr ⟨zk_756_47, (List.forall_mem_cons.mpr ⟨zk_756_48, (List.forall_mem_cons.mpr ⟨zk_756_49, (List.forall_mem_cons.mpr ⟨zk_756_50, (List.forall_mem_cons.mpr ⟨zk_756_51, (List.forall_mem_cons.mpr ⟨zk_756_52, (List.forall_mem_cons.mpr ⟨zk_756_53, (List.forall_mem_cons.mpr ⟨zk_756_54, (List.forall_mem_cons.mpr ⟨zk_756_55, (List.forall_mem_cons.mpr ⟨zk_756_56, (List.forall_mem_cons.mpr ⟨zk_756_57, (List.forall_mem_cons.mpr ⟨zk_756_58, (List.forall_mem_cons.mpr ⟨zk_756_59, (List.forall_mem_cons.mpr ⟨zk_756_60, (List.forall_mem_cons.mpr ⟨zk_756_61, (List.forall_mem_cons.mpr ⟨zk_756_62, (List.forall_mem_cons.mpr ⟨zk_756_63, (List.forall_mem_cons.mpr ⟨zk_756_64, (List.forall_mem_cons.mpr ⟨zk_756_65, (List.forall_mem_cons.mpr ⟨zk_756_66, (List.forall_mem_cons.mpr ⟨zk_756_67, (List.forall_mem_cons.mpr ⟨zk_756_68, (List.forall_mem_cons.mpr ⟨zk_756_69, (List.forall_mem_cons.mpr ⟨zk_756_70, (List.forall_mem_cons.mpr ⟨zk_756_71, (List.forall_mem_cons.mpr ⟨zk_756_72, (List.forall_mem_cons.mpr ⟨zk_756_73, (List.forall_mem_cons.mpr ⟨zk_756_74, (List.forall_mem_cons.mpr ⟨zk_756_75, (List.forall_mem_cons.mpr ⟨zk_756_76, (List.forall_mem_cons.mpr ⟨zk_756_77, (List.forall_mem_cons.mpr ⟨zk_756_78, (List.forall_mem_cons.mpr ⟨zk_756_79, (List.forall_mem_cons.mpr ⟨zk_756_80, (List.forall_mem_cons.mpr ⟨zk_756_81, (List.forall_mem_cons.mpr ⟨zk_756_82, (List.forall_mem_cons.mpr ⟨zk_756_83, nilz⟩)⟩)⟩)⟩)⟩)⟩)⟩)⟩)⟩)⟩)⟩)⟩)⟩)⟩)⟩)⟩)⟩)⟩)⟩)⟩)⟩)⟩)⟩)⟩)⟩)⟩)⟩)⟩)⟩)⟩)⟩)⟩)⟩)⟩)⟩)⟩)⟩)⟩)⟩)⟩)⟩)⟩)⟩)⟩)⟩)⟩)⟩)⟩)⟩)⟩)⟩)⟩)⟩)⟩)⟩)⟩)⟩)⟩)⟩)⟩)⟩)⟩)⟩)⟩)⟩)⟩)⟩)⟩)⟩)⟩)⟩)⟩)⟩)⟩)⟩)⟩)⟩)⟩)⟩)⟩)⟩)⟩)⟩)⟩)
set_option maxRecDepth 100000 in
theorem zM_756 {l : Launch} {D : va_G} {cI cZ cB cJ cR : ClassId} {ks ad : List Nat} {Psi : va_W → Prop} (hw : zworld ks ad zuq zNS Psi) (hm : zMan l D cI cZ cB cJ cR ks ad Psi) : zMet l D cI cZ cB cJ cR zKS ks ad Psi yX5_liars (.code yX5_liars cX5_liars 5 (some .int)) 3 zc_756 :=
  zmet_of hw 3 (by decide) 4000 zk_756 (by decide) (by decide) (fun X => ⟨zg_RX5 X, zp_RX5 X, zl1_RX5 X, zl2_RX5 X, nilz, (List.forall_mem_cons.mpr ⟨zq_RX5_239 X (zM_356 hw hm) (by decide) rfl rfl, (List.forall_mem_cons.mpr ⟨zq_RX5_239 X (zM_360 hw hm) (by decide) rfl rfl, (List.forall_mem_cons.mpr ⟨zq_RX5_239 X (zM_363 hw hm) (by decide) rfl rfl, (List.forall_mem_cons.mpr ⟨zq_RX5_239 X (zM_366 hw hm) (by decide) rfl rfl, (List.forall_mem_cons.mpr ⟨zq_RX5_239 X (zM_370 hw hm) (by decide) rfl rfl, (List.forall_mem_cons.mpr ⟨zq_RX5_239 X (zM_373 hw hm) (by decide) rfl rfl, (List.forall_mem_cons.mpr ⟨zq_RX5_239 X (zM_376 hw hm) (by decide) rfl rfl, (List.forall_mem_cons.mpr ⟨zq_RX5_239 X (zM_379 hw hm) (by decide) rfl rfl, (List.forall_mem_cons.mpr ⟨zq_RX5_239 X (zM_380 hw hm) (by decide) rfl rfl, (List.forall_mem_cons.mpr ⟨zq_RX5_239 X (zM_383 hw hm) (by decide) rfl rfl, (List.forall_mem_cons.mpr ⟨zq_RX5_239 X (zM_386 hw hm) (by decide) rfl rfl, (List.forall_mem_cons.mpr ⟨zq_RX5_239 X (zM_389 hw hm) (by decide) rfl rfl, (List.forall_mem_cons.mpr ⟨zq_RX5_239 X (zM_393 hw hm) (by decide) rfl rfl, (List.forall_mem_cons.mpr ⟨zq_RX5_239 X (zM_396 hw hm) (by decide) rfl rfl, (List.forall_mem_cons.mpr ⟨zq_RX5_239 X (zM_399 hw hm) (by decide) rfl rfl, (List.forall_mem_cons.mpr ⟨zq_RX5_239 X (zM_403 hw hm) (by decide) rfl rfl, (List.forall_mem_cons.mpr ⟨zq_RX5_239 X (zM_406 hw hm) (by decide) rfl rfl, (List.forall_mem_cons.mpr ⟨zq_RX5_239 X (zM_409 hw hm) (by decide) rfl rfl, (List.forall_mem_cons.mpr ⟨zq_RX5_239 X (zM_412 hw hm) (by decide) rfl rfl, (List.forall_mem_cons.mpr ⟨zq_RX5_239 X (zM_415 hw hm) (by decide) rfl rfl, (List.forall_mem_cons.mpr ⟨zq_RX5_239 X (zM_416 hw hm) (by decide) rfl rfl, (List.forall_mem_cons.mpr ⟨zq_RX5_239 X (zM_420 hw hm) (by decide) rfl rfl, (List.forall_mem_cons.mpr ⟨zq_RX5_239 X (zM_423 hw hm) (by decide) rfl rfl, (List.forall_mem_cons.mpr ⟨zq_RX5_239 X (zM_426 hw hm) (by decide) rfl rfl, (List.forall_mem_cons.mpr ⟨zq_RX5_239 X (zM_430 hw hm) (by decide) rfl rfl, (List.forall_mem_cons.mpr ⟨zq_RX5_239 X (zM_433 hw hm) (by decide) rfl rfl, (List.forall_mem_cons.mpr ⟨zq_RX5_239 X (zM_436 hw hm) (by decide) rfl rfl, (List.forall_mem_cons.mpr ⟨zq_RX5_239 X (zM_439 hw hm) (by decide) rfl rfl, (List.forall_mem_cons.mpr ⟨zq_RX5_239 X (zM_440 hw hm) (by decide) rfl rfl, (List.forall_mem_cons.mpr ⟨zq_RX5_239 X (zM_443 hw hm) (by decide) rfl rfl, (List.forall_mem_cons.mpr ⟨zq_RX5_239 X (zM_446 hw hm) (by decide) rfl rfl, (List.forall_mem_cons.mpr ⟨zq_RX5_239 X (zM_449 hw hm) (by decide) rfl rfl, (List.forall_mem_cons.mpr ⟨zq_RX5_239 X (zM_453 hw hm) (by decide) rfl rfl, (List.forall_mem_cons.mpr ⟨zq_RX5_239 X (zM_456 hw hm) (by decide) rfl rfl, (List.forall_mem_cons.mpr ⟨zq_RX5_239 X (zM_459 hw hm) (by decide) rfl rfl, (List.forall_mem_cons.mpr ⟨zq_RX5_239 X (zM_463 hw hm) (by decide) rfl rfl, (List.forall_mem_cons.mpr ⟨zq_RX5_239 X (zM_466 hw hm) (by decide) rfl rfl, (List.forall_mem_cons.mpr ⟨zq_RX5_239 X (zM_469 hw hm) (by decide) rfl rfl, (List.forall_mem_cons.mpr ⟨zq_RX5_239 X (zM_472 hw hm) (by decide) rfl rfl, (List.forall_mem_cons.mpr ⟨zq_RX5_239 X (zM_475 hw hm) (by decide) rfl rfl, (List.forall_mem_cons.mpr ⟨zq_RX5_239 X (zM_476 hw hm) (by decide) rfl rfl, (List.forall_mem_cons.mpr ⟨zq_RX5_239 X (zM_480 hw hm) (by decide) rfl rfl, (List.forall_mem_cons.mpr ⟨zq_RX5_239 X (zM_483 hw hm) (by decide) rfl rfl, (List.forall_mem_cons.mpr ⟨zq_RX5_239 X (zM_486 hw hm) (by decide) rfl rfl, (List.forall_mem_cons.mpr ⟨zq_RX5_239 X (zM_490 hw hm) (by decide) rfl rfl, (List.forall_mem_cons.mpr ⟨zq_RX5_239 X (zM_493 hw hm) (by decide) rfl rfl, (List.forall_mem_cons.mpr ⟨zq_RX5_239 X (zM_496 hw hm) (by decide) rfl rfl, (List.forall_mem_cons.mpr ⟨zq_RX5_239 X (zM_499 hw hm) (by decide) rfl rfl, (List.forall_mem_cons.mpr ⟨zq_RX5_239 X (zM_500 hw hm) (by decide) rfl rfl, (List.forall_mem_cons.mpr ⟨zq_RX5_239 X (zM_503 hw hm) (by decide) rfl rfl, (List.forall_mem_cons.mpr ⟨zq_RX5_239 X (zM_506 hw hm) (by decide) rfl rfl, (List.forall_mem_cons.mpr ⟨zq_RX5_239 X (zM_509 hw hm) (by decide) rfl rfl, (List.forall_mem_cons.mpr ⟨zq_RX5_239 X (zM_513 hw hm) (by decide) rfl rfl, (List.forall_mem_cons.mpr ⟨zq_RX5_239 X (zM_516 hw hm) (by decide) rfl rfl, (List.forall_mem_cons.mpr ⟨zq_RX5_239 X (zM_519 hw hm) (by decide) rfl rfl, (List.forall_mem_cons.mpr ⟨zq_RX5_239 X (zM_523 hw hm) (by decide) rfl rfl, (List.forall_mem_cons.mpr ⟨zq_RX5_239 X (zM_526 hw hm) (by decide) rfl rfl, (List.forall_mem_cons.mpr ⟨zq_RX5_239 X (zM_529 hw hm) (by decide) rfl rfl, (List.forall_mem_cons.mpr ⟨zq_RX5_239 X (zM_532 hw hm) (by decide) rfl rfl, (List.forall_mem_cons.mpr ⟨zq_RX5_239 X (zM_535 hw hm) (by decide) rfl rfl, (List.forall_mem_cons.mpr ⟨zq_RX5_239 X (zM_536 hw hm) (by decide) rfl rfl, (List.forall_mem_cons.mpr ⟨zq_RX5_239 X (zM_540 hw hm) (by decide) rfl rfl, (List.forall_mem_cons.mpr ⟨zq_RX5_239 X (zM_543 hw hm) (by decide) rfl rfl, (List.forall_mem_cons.mpr ⟨zq_RX5_239 X (zM_546 hw hm) (by decide) rfl rfl, (List.forall_mem_cons.mpr ⟨zq_RX5_239 X (zM_550 hw hm) (by decide) rfl rfl, (List.forall_mem_cons.mpr ⟨zq_RX5_239 X (zM_553 hw hm) (by decide) rfl rfl, (List.forall_mem_cons.mpr ⟨zq_RX5_239 X (zM_556 hw hm) (by decide) rfl rfl, (List.forall_mem_cons.mpr ⟨zq_RX5_239 X (zM_559 hw hm) (by decide) rfl rfl, (List.forall_mem_cons.mpr ⟨zq_RX5_239 X (zM_560 hw hm) (by decide) rfl rfl, (List.forall_mem_cons.mpr ⟨zq_RX5_239 X (zM_563 hw hm) (by decide) rfl rfl, (List.forall_mem_cons.mpr ⟨zq_RX5_239 X (zM_566 hw hm) (by decide) rfl rfl, (List.forall_mem_cons.mpr ⟨zq_RX5_239 X (zM_569 hw hm) (by decide) rfl rfl, (List.forall_mem_cons.mpr ⟨zq_RX5_239 X (zM_573 hw hm) (by decide) rfl rfl, (List.forall_mem_cons.mpr ⟨zq_RX5_239 X (zM_576 hw hm) (by decide) rfl rfl, (List.forall_mem_cons.mpr ⟨zq_RX5_239 X (zM_579 hw hm) (by decide) rfl rfl, (List.forall_mem_cons.mpr ⟨zq_RX5_239 X (zM_583 hw hm) (by decide) rfl rfl, (List.forall_mem_cons.mpr ⟨zq_RX5_239 X (zM_586 hw hm) (by decide) rfl rfl, (List.forall_mem_cons.mpr ⟨zq_RX5_239 X (zM_589 hw hm) (by decide) rfl rfl, (List.forall_mem_cons.mpr ⟨zq_RX5_239 X (zM_592 hw hm) (by decide) rfl rfl, (List.forall_mem_cons.mpr ⟨zq_RX5_239 X (zM_595 hw hm) (by decide) rfl rfl, (List.forall_mem_cons.mpr ⟨zq_RX5_247 X (zM_773 hw hm) (by decide) rfl rfl, (List.forall_mem_cons.mpr ⟨zq_RX5_247 X (zM_774 hw hm) (by decide) rfl rfl, (List.forall_mem_cons.mpr ⟨zq_RX5_247 X (zM_775 hw hm) (by decide) rfl rfl, (List.forall_mem_cons.mpr ⟨zq_RX5_247 X (zM_776 hw hm) (by decide) rfl rfl, (List.forall_mem_cons.mpr ⟨zq_RX5_247 X (zM_777 hw hm) (by decide) rfl rfl, (List.forall_mem_cons.mpr ⟨zq_RX5_247 X (zM_772 hw hm) (by decide) rfl rfl, (List.forall_mem_cons.mpr ⟨zq_RX5_250 X (zM_597 hw hm) (by decide) rfl rfl, (List.forall_mem_cons.mpr ⟨zq_RX5_250 X (zM_599 hw hm) (by decide) rfl rfl, (List.forall_mem_cons.mpr ⟨zq_RX5_250 X (zM_600 hw hm) (by decide) rfl rfl, (List.forall_mem_cons.mpr ⟨zq_RX5_250 X (zM_601 hw hm) (by decide) rfl rfl, (List.forall_mem_cons.mpr ⟨zq_RX5_253 X (zM_673 hw hm) (by decide) rfl rfl, (List.forall_mem_cons.mpr ⟨zq_RX5_253 X (zM_674 hw hm) (by decide) rfl rfl, (List.forall_mem_cons.mpr ⟨zq_RX5_253 X (zM_675 hw hm) (by decide) rfl rfl, (List.forall_mem_cons.mpr ⟨zq_RX5_253 X (zM_676 hw hm) (by decide) rfl rfl, (List.forall_mem_cons.mpr ⟨zq_RX5_253 X (zM_677 hw hm) (by decide) rfl rfl, (List.forall_mem_cons.mpr ⟨zq_RX5_253 X (zM_678 hw hm) (by decide) rfl rfl, (List.forall_mem_cons.mpr ⟨zq_RX5_253 X (zM_679 hw hm) (by decide) rfl rfl, (List.forall_mem_cons.mpr ⟨zq_RX5_253 X (zM_680 hw hm) (by decide) rfl rfl, (List.forall_mem_cons.mpr ⟨zq_RX5_253 X (zM_681 hw hm) (by decide) rfl rfl, (List.forall_mem_cons.mpr ⟨zq_RX5_253 X (zM_682 hw hm) (by decide) rfl rfl, (List.forall_mem_cons.mpr ⟨zq_RX5_253 X (zM_683 hw hm) (by decide) rfl rfl, (List.forall_mem_cons.mpr ⟨zq_RX5_253 X (zM_684 hw hm) (by decide) rfl rfl, (List.forall_mem_cons.mpr ⟨zq_RX5_253 X (zM_685 hw hm) (by decide) rfl rfl, (List.forall_mem_cons.mpr ⟨zq_RX5_253 X (zM_686 hw hm) (by decide) rfl rfl, (List.forall_mem_cons.mpr ⟨zq_RX5_253 X (zM_687 hw hm) (by decide) rfl rfl, (List.forall_mem_cons.mpr ⟨zq_RX5_253 X (zM_688 hw hm) (by decide) rfl rfl, (List.forall_mem_cons.mpr ⟨zq_RX5_253 X (zM_689 hw hm) (by decide) rfl rfl, (List.forall_mem_cons.mpr ⟨zq_RX5_253 X (zM_690 hw hm) (by decide) rfl rfl, (List.forall_mem_cons.mpr ⟨zq_RX5_253 X (zM_691 hw hm) (by decide) rfl rfl, (List.forall_mem_cons.mpr ⟨zq_RX5_253 X (zM_692 hw hm) (by decide) rfl rfl, (List.forall_mem_cons.mpr ⟨zq_RX5_253 X (zM_693 hw hm) (by decide) rfl rfl, (List.forall_mem_cons.mpr ⟨zq_RX5_253 X (zM_694 hw hm) (by decide) rfl rfl, (List.forall_mem_cons.mpr ⟨zq_RX5_253 X (zM_695 hw hm) (by decide) rfl rfl, (List.forall_mem_cons.mpr ⟨zq_RX5_253 X (zM_696 hw hm) (by decide) rfl rfl, (List.forall_mem_cons.mpr ⟨zq_RX5_253 X (zM_697 hw hm) (by decide) rfl rfl, (List.forall_mem_cons.mpr ⟨zq_RX5_253 X (zM_698 hw hm) (by decide) rfl rfl, (List.forall_mem_cons.mpr ⟨zq_RX5_253 X (zM_699 hw hm) (by decide) rfl rfl, (List.forall_mem_cons.mpr ⟨zq_RX5_253 X (zM_700 hw hm) (by decide) rfl rfl, (List.forall_mem_cons.mpr ⟨zq_RX5_253 X (zM_701 hw hm) (by decide) rfl rfl, (List.forall_mem_cons.mpr ⟨zq_RX5_253 X (zM_702 hw hm) (by decide) rfl rfl, (List.forall_mem_cons.mpr ⟨zq_RX5_253 X (zM_703 hw hm) (by decide) rfl rfl, (List.forall_mem_cons.mpr ⟨zq_RX5_253 X (zM_704 hw hm) (by decide) rfl rfl, (List.forall_mem_cons.mpr ⟨zq_RX5_253 X (zM_705 hw hm) (by decide) rfl rfl, (List.forall_mem_cons.mpr ⟨zq_RX5_253 X (zM_706 hw hm) (by decide) rfl rfl, (List.forall_mem_cons.mpr ⟨zq_RX5_253 X (zM_707 hw hm) (by decide) rfl rfl, (List.forall_mem_cons.mpr ⟨zq_RX5_253 X (zM_708 hw hm) (by decide) rfl rfl, (List.forall_mem_cons.mpr ⟨zq_RX5_253 X (zM_709 hw hm) (by decide) rfl rfl, (List.forall_mem_cons.mpr ⟨zq_RX5_253 X (zM_710 hw hm) (by decide) rfl rfl, (List.forall_mem_cons.mpr ⟨zq_RX5_253 X (zM_711 hw hm) (by decide) rfl rfl, (List.forall_mem_cons.mpr ⟨zq_RX5_253 X (zM_712 hw hm) (by decide) rfl rfl, (List.forall_mem_cons.mpr ⟨zq_RX5_253 X (zM_713 hw hm) (by decide) rfl rfl, (List.forall_mem_cons.mpr ⟨zq_RX5_253 X (zM_714 hw hm) (by decide) rfl rfl, (List.forall_mem_cons.mpr ⟨zq_RX5_253 X (zM_715 hw hm) (by decide) rfl rfl, (List.forall_mem_cons.mpr ⟨zq_RX5_253 X (zM_716 hw hm) (by decide) rfl rfl, (List.forall_mem_cons.mpr ⟨zq_RX5_253 X (zM_717 hw hm) (by decide) rfl rfl, (List.forall_mem_cons.mpr ⟨zq_RX5_253 X (zM_718 hw hm) (by decide) rfl rfl, (List.forall_mem_cons.mpr ⟨zq_RX5_253 X (zM_719 hw hm) (by decide) rfl rfl, (List.forall_mem_cons.mpr ⟨zq_RX5_253 X (zM_720 hw hm) (by decide) rfl rfl, (List.forall_mem_cons.mpr ⟨zq_RX5_253 X (zM_721 hw hm) (by decide) rfl rfl, (List.forall_mem_cons.mpr ⟨zq_RX5_253 X (zM_722 hw hm) (by decide) rfl rfl, (List.forall_mem_cons.mpr ⟨zq_RX5_253 X (zM_723 hw hm) (by decide) rfl rfl, (List.forall_mem_cons.mpr ⟨zq_RX5_253 X (zM_724 hw hm) (by decide) rfl rfl, (List.forall_mem_cons.mpr ⟨zq_RX5_253 X (zM_725 hw hm) (by decide) rfl rfl, (List.forall_mem_cons.mpr ⟨zq_RX5_253 X (zM_726 hw hm) (by decide) rfl rfl, (List.forall_mem_cons.mpr ⟨zq_RX5_253 X (zM_727 hw hm) (by decide) rfl rfl, (List.forall_mem_cons.mpr ⟨zq_RX5_253 X (zM_728 hw hm) (by decide) rfl rfl, (List.forall_mem_cons.mpr ⟨zq_RX5_253 X (zM_729 hw hm) (by decide) rfl rfl, (List.forall_mem_cons.mpr ⟨zq_RX5_253 X (zM_730 hw hm) (by decide) rfl rfl, (List.forall_mem_cons.mpr ⟨zq_RX5_253 X (zM_731 hw hm) (by decide) rfl rfl, (List.forall_mem_cons.mpr ⟨zq_RX5_253 X (zM_732 hw hm) (by decide) rfl rfl, (List.forall_mem_cons.mpr ⟨zq_RX5_253 X (zM_733 hw hm) (by decide) rfl rfl, (List.forall_mem_cons.mpr ⟨zq_RX5_253 X (zM_734 hw hm) (by decide) rfl rfl, (List.forall_mem_cons.mpr ⟨zq_RX5_253 X (zM_735 hw hm) (by decide) rfl rfl, (List.forall_mem_cons.mpr ⟨zq_RX5_253 X (zM_736 hw hm) (by decide) rfl rfl, (List.forall_mem_cons.mpr ⟨zq_RX5_253 X (zM_737 hw hm) (by decide) rfl rfl, (List.forall_mem_cons.mpr ⟨zq_RX5_253 X (zM_738 hw hm) (by decide) rfl rfl, (List.forall_mem_cons.mpr ⟨zq_RX5_253 X (zM_739 hw hm) (by decide) rfl rfl, (List.forall_mem_cons.mpr ⟨zq_RX5_253 X (zM_740 hw hm) (by decide) rfl rfl, (List.forall_mem_cons.mpr ⟨zq_RX5_253 X (zM_741 hw hm) (by decide) rfl rfl, (List.forall_mem_cons.mpr ⟨zq_RX5_253 X (zM_742 hw hm) (by decide) rfl rfl, (List.forall_mem_cons.mpr ⟨zq_RX5_253 X (zM_743 hw hm) (by decide) rfl rfl, (List.forall_mem_cons.mpr ⟨zq_RX5_253 X (zM_744 hw hm) (by decide) rfl rfl, (List.forall_mem_cons.mpr ⟨zq_RX5_253 X (zM_745 hw hm) (by decide) rfl rfl, (List.forall_mem_cons.mpr ⟨zq_RX5_253 X (zM_746 hw hm) (by decide) rfl rfl, (List.forall_mem_cons.mpr ⟨zq_RX5_253 X (zM_747 hw hm) (by decide) rfl rfl, (List.forall_mem_cons.mpr ⟨zq_RX5_253 X (zM_748 hw hm) (by decide) rfl rfl, (List.forall_mem_cons.mpr ⟨zq_RX5_253 X (zM_749 hw hm) (by decide) rfl rfl, (List.forall_mem_cons.mpr ⟨zq_RX5_253 X (zM_750 hw hm) (by decide) rfl rfl, (List.forall_mem_cons.mpr ⟨zq_RX5_253 X (zM_751 hw hm) (by decide) rfl rfl, (List.forall_mem_cons.mpr ⟨zq_RX5_253 X (zM_752 hw hm) (by decide) rfl rfl, nilz⟩)⟩)⟩)⟩)⟩)⟩)⟩)⟩)⟩)⟩)⟩)⟩)⟩)⟩)⟩)⟩)⟩)⟩)⟩)⟩)⟩)⟩)⟩)⟩)⟩)⟩)⟩)⟩)⟩)⟩)⟩)⟩)⟩)⟩)⟩)⟩)⟩)⟩)⟩)⟩)⟩)⟩)⟩)⟩)⟩)⟩)⟩)⟩)⟩)⟩)⟩)⟩)⟩)⟩)⟩)⟩)⟩)⟩)⟩)⟩)⟩)⟩)⟩)⟩)⟩)⟩)⟩)⟩)⟩)⟩)⟩)⟩)⟩)⟩)⟩)⟩)⟩)⟩)⟩)⟩)⟩)⟩)⟩)⟩)⟩)⟩)⟩)⟩)⟩)⟩)⟩)⟩)⟩)⟩)⟩)⟩)⟩)⟩)⟩)⟩)⟩)⟩)⟩)⟩)⟩)⟩)⟩)⟩)⟩)⟩)⟩)⟩)⟩)⟩)⟩)⟩)⟩)⟩)⟩)⟩)⟩)⟩)⟩)⟩)⟩)⟩)⟩)⟩)⟩)⟩)⟩)⟩)⟩)⟩)⟩)⟩)⟩)⟩)⟩)⟩)⟩)⟩)⟩)⟩)⟩)⟩)⟩)⟩)⟩)⟩)⟩)⟩)⟩)⟩)⟩)⟩)⟩)⟩)⟩)⟩)⟩)⟩)⟩)⟩)⟩)⟩)⟩)⟩)⟩)⟩)⟩)
