set_option maxRecDepth 100000 in
theorem zk_760_0 : zm1 zKS zuq zNS zm_760 4000 zt_760_0 = true := z1F (zdt_X5_liars) (by decide +kernel)
set_option maxRecDepth 100000 in
theorem zk_760_1 : zm1 zKS zuq zNS zm_760 4000 zt_760_1 = true := z1F (zdt_X5_liars) (by decide +kernel)
set_option maxRecDepth 100000 in
theorem zk_760_2 : zm1 zKS zuq zNS zm_760 4000 zt_760_2 = true := z1F (zdt_X5_liars) (by decide +kernel)
set_option maxRecDepth 100000 in
theorem zk_760_3 : zm1 zKS zuq zNS zm_760 4000 zt_760_3 = true := z1F (zdt_X5_liars) (by decide +kernel)
set_option maxRecDepth 100000 in
theorem zk_760_4 : zm1 zKS zuq zNS zm_760 4000 zt_760_4 = true := z1F (zdt_X5_liars) (by decide +kernel)
set_option maxRecDepth 100000 in
theorem zk_760_5 : zm1 zKS zuq zNS zm_760 4000 zt_760_5 = true := z1F (zdt_X5_liars) (by decide +kernel)
set_option maxRecDepth 100000 in
theorem zk_760_6 : zm1 zKS zuq zNS zm_760 4000 zt_760_6 = true := z1F (zdt_X5_liars) (by decide +kernel)
set_option maxRecDepth 100000 in
theorem zk_760_7 : zm1 zKS zuq zNS zm_760 4000 zt_760_7 = true := z1F (zdt_X5_liars) (by decide +kernel)
set_option maxRecDepth 100000 in
theorem zk_760_8 : zm1 zKS zuq zNS zm_760 4000 zt_760_8 = true := z1F (zdt_X5_liars) (by decide +kernel)
set_option maxRecDepth 100000 in
theorem zk_760_9 : zm1 zKS zuq zNS zm_760 4000 zt_760_9 = true := z1F (zdt_X5_liars) (by decide +kernel)
set_option maxRecDepth 100000 in
theorem zk_760_10 : zm1 zKS zuq zNS zm_760 4000 zt_760_10 = true := z1F (zdt_X5_liars) (by decide +kernel)
set_option maxRecDepth 100000 in
theorem zk_760_11 : zm1 zKS zuq zNS zm_760 4000 zt_760_11 = true := z1F (zdt_X5_liars) (by decide +kernel)
set_option maxRecDepth 100000 in
theorem zk_760_12 : zm1 zKS zuq zNS zm_760 4000 zt_760_12 = true := z1F (zdt_X5_liars) (by decide +kernel)
set_option maxRecDepth 100000 in
theorem zk_760_13 : zm1 zKS zuq zNS zm_760 4000 zt_760_13 = true := z1F (zdt_X5_liars) (by decide +kernel)
set_option maxRecDepth 100000 in
theorem zk_760_14 : zm1 zKS zuq zNS zm_760 4000 zt_760_14 = true := z1F (zdt_X5_liars) (by decide +kernel)
set_option maxRecDepth 100000 in
theorem zk_760_15 : zm1 zKS zuq zNS zm_760 4000 zt_760_15 = true := z1F (zdt_X5_liars) (by decide +kernel)
set_option maxRecDepth 100000 in
theorem zk_760_16 : zm1 zKS zuq zNS zm_760 4000 zt_760_16 = true := z1F (zdt_X5_liars) (by decide +kernel)
set_option maxRecDepth 100000 in
theorem zk_760_17 : zm1 zKS zuq zNS zm_760 4000 zt_760_17 = true := z1F (zdt_X5_liars) (by decide +kernel)
set_option maxRecDepth 100000 in
theorem zk_760_18 : zm1 zKS zuq zNS zm_760 4000 zt_760_18 = true := z1F (zdt_X5_liars) (by decide +kernel)
set_option maxRecDepth 100000 in
theorem zk_760_19 : zm1 zKS zuq zNS zm_760 4000 zt_760_19 = true := z1F (zdt_X5_liars) (by decide +kernel)
set_option maxRecDepth 100000 in
theorem zk_760_20 : zm1 zKS zuq zNS zm_760 4000 zt_760_20 = true := z1F (zdt_X5_liars) (by decide +kernel)
set_option maxRecDepth 100000 in
theorem zk_760_21 : zm1 zKS zuq zNS zm_760 4000 zt_760_21 = true := z1F (zdt_X5_liars) (by decide +kernel)
set_option maxRecDepth 100000 in
theorem zk_760_22 : zm1 zKS zuq zNS zm_760 4000 zt_760_22 = true := z1F (zdt_X5_liars) (by decide +kernel)
set_option maxRecDepth 100000 in
theorem zk_760_23 : zm1 zKS zuq zNS zm_760 4000 zt_760_23 = true := z1F (zdt_X5_liars) (by decide +kernel)
set_option maxRecDepth 100000 in
theorem zk_760_24 : zm1 zKS zuq zNS zm_760 4000 zt_760_24 = true := z1F (zdt_X5_liars) (by decide +kernel)
set_option maxRecDepth 100000 in
theorem zk_760_25 : zm1 zKS zuq zNS zm_760 4000 zt_760_25 = true := z1F (zdt_X5_liars) (by decide +kernel)
set_option maxRecDepth 100000 in
theorem zk_760_26 : zm1 zKS zuq zNS zm_760 4000 zt_760_26 = true := z1F (zdt_X5_liars) (by decide +kernel)
set_option maxRecDepth 100000 in
theorem zk_760_27 : zm1 zKS zuq zNS zm_760 4000 zt_760_27 = true := z1F (zdt_X5_liars) (by decide +kernel)
set_option maxRecDepth 100000 in
theorem zk_760_28 : zm1 zKS zuq zNS zm_760 4000 zt_760_28 = true := z1F (zdt_X5_liars) (by decide +kernel)
set_option maxRecDepth 100000 in
theorem zk_760_29 : zm1 zKS zuq zNS zm_760 4000 zt_760_29 = true := z1F (zdt_X5_liars) (by decide +kernel)
set_option maxRecDepth 100000 in
theorem zk_760_30 : zm1 zKS zuq zNS zm_760 4000 zt_760_30 = true := z1F (zdt_X5_liars) (by decide +kernel)
set_option maxRecDepth 100000 in
theorem zk_760_31 : zm1 zKS zuq zNS zm_760 4000 zt_760_31 = true := z1F (zdt_X5_liars) (by decide +kernel)
set_option maxRecDepth 100000 in
theorem zk_760_32 : zm1 zKS zuq zNS zm_760 4000 zt_760_32 = true := z1F (zdt_X5_liars) (by decide +kernel)
set_option maxRecDepth 100000 in
theorem zk_760_33 : zm1 zKS zuq zNS zm_760 4000 zt_760_33 = true := z1F (zdt_X5_liars) (by decide +kernel)
set_option maxRecDepth 100000 in
theorem zk_760_34 : zm1 zKS zuq zNS zm_760 4000 zt_760_34 = true := z1F (zdt_X5_liars) (by decide +kernel)
set_option maxRecDepth 100000 in
theorem zk_760_35 : zm1 zKS zuq zNS zm_760 4000 zt_760_35 = true := z1F (zdt_X5_liars) (by decide +kernel)
set_option maxRecDepth 100000 in
theorem zk_760_36 : zm1 zKS zuq zNS zm_760 4000 zt_760_36 = true := z1F (zdt_X5_liars) (by decide +kernel)
set_option maxRecDepth 100000 in
theorem zk_760_37 : zm1 zKS zuq zNS zm_760 4000 zt_760_37 = true := z1F (zdt_X5_liars) (by decide +kernel)
set_option maxRecDepth 100000 in
theorem zk_760_38 : zm1 zKS zuq zNS zm_760 4000 zt_760_38 = true := z1F (zdt_X5_liars) (by decide +kernel)
set_option maxRecDepth 100000 in
theorem zk_760_39 : zm1 zKS zuq zNS zm_760 4000 zt_760_39 = true := z1F (zdt_X5_liars) (by decide +kernel)
set_option maxRecDepth 100000 in
theorem zk_760_40 : zm1 zKS zuq zNS zm_760 4000 zt_760_40 = true := z1F (zdt_X5_liars) (by decide +kernel)
set_option maxRecDepth 100000 in
theorem zk_760_41 : zm1 zKS zuq zNS zm_760 4000 zt_760_41 = true := z1F (zdt_X5_liars) (by decide +kernel)
set_option maxRecDepth 100000 in
theorem zk_760_42 : zm1 zKS zuq zNS zm_760 4000 zt_760_42 = true := z1F (zdt_X5_liars) (by decide +kernel)
set_option maxRecDepth 100000 in
theorem zk_760_43 : zm1 zKS zuq zNS zm_760 4000 zt_760_43 = true := z1F (zdt_X5_liars) (by decide +kernel)
set_option maxRecDepth 100000 in
theorem zk_760_44 : zm1 zKS zuq zNS zm_760 4000 zt_760_44 = true := z1F (zdt_X5_liars) (by decide +kernel)
set_option maxRecDepth 100000 in
theorem zk_760_45 : zm1 zKS zuq zNS zm_760 4000 zt_760_45 = true := z1F (zdt_X5_liars) (by decide +kernel)
set_option maxRecDepth 100000 in
theorem zk_760_46 : zm1 zKS zuq zNS zm_760 4000 zt_760_46 = true := z1F (zdt_X5_liars) (by decide +kernel)
set_option maxRecDepth 100000 in
theorem zk_760_47 : zm1 zKS zuq zNS zm_760 4000 zt_760_47 = true := z1F (zdt_X5_liars) (by decide +kernel)
set_option maxRecDepth 100000 in
theorem zk_760_48 : zm1 zKS zuq zNS zm_760 4000 zt_760_48 = true := z1F (zdt_X5_liars) (by decide +kernel)
set_option maxRecDepth 100000 in
theorem zk_760_49 : zm1 zKS zuq zNS zm_760 4000 zt_760_49 = true := z1F (zdt_X5_liars) (by decide +kernel)
set_option maxRecDepth 100000 in
theorem zk_760_50 : zm1 zKS zuq zNS zm_760 4000 zt_760_50 = true := z1F (zdt_X5_liars) (by decide +kernel)
set_option maxRecDepth 100000 in
theorem zk_760_51 : zm1 zKS zuq zNS zm_760 4000 zt_760_51 = true := z1F (zdt_X5_liars) (by decide +kernel)
set_option maxRecDepth 100000 in
theorem zk_760_52 : zm1 zKS zuq zNS zm_760 4000 zt_760_52 = true := z1F (zdt_X5_liars) (by decide +kernel)
set_option maxRecDepth 100000 in
theorem zk_760_53 : zm1 zKS zuq zNS zm_760 4000 zt_760_53 = true := z1F (zdt_X5_liars) (by decide +kernel)
set_option maxRecDepth 100000 in
theorem zk_760_54 : zm1 zKS zuq zNS zm_760 4000 zt_760_54 = true := z1F (zdt_X5_liars) (by decide +kernel)
set_option maxRecDepth 100000 in
theorem zk_760_55 : zm1 zKS zuq zNS zm_760 4000 zt_760_55 = true := z1F (zdt_X5_liars) (by decide +kernel)
set_option maxRecDepth 100000 in
theorem zk_760_56 : zm1 zKS zuq zNS zm_760 4000 zt_760_56 = true := z1F (zdt_X5_liars) (by decide +kernel)
set_option maxRecDepth 100000 in
theorem zk_760_57 : zm1 zKS zuq zNS zm_760 4000 zt_760_57 = true := z1F (zdt_X5_liars) (by decide +kernel)
set_option maxRecDepth 100000 in
theorem zk_760_58 : zm1 zKS zuq zNS zm_760 4000 zt_760_58 = true := z1F (zdt_X5_liars) (by decide +kernel)
set_option maxRecDepth 100000 in
theorem zk_760_59 : zm1 zKS zuq zNS zm_760 4000 zt_760_59 = true := z1F (zdt_X5_liars) (by decide +kernel)
set_option maxRecDepth 100000 in
theorem zk_760_60 : zm1 zKS zuq zNS zm_760 4000 zt_760_60 = true := z1F (zdt_X5_liars) (by decide +kernel)
set_option maxRecDepth 100000 in
theorem zk_760_61 : zm1 zKS zuq zNS zm_760 4000 zt_760_61 = true := z1F (zdt_X5_liars) (by decide +kernel)
set_option maxRecDepth 100000 in
theorem zk_760_62 : zm1 zKS zuq zNS zm_760 4000 zt_760_62 = true := z1F (zdt_X5_liars) (by decide +kernel)
set_option maxRecDepth 100000 in
theorem zk_760_63 : zm1 zKS zuq zNS zm_760 4000 zt_760_63 = true := z1F (zdt_X5_liars) (by decide +kernel)
set_option maxRecDepth 100000 in
theorem zk_760_64 : zm1 zKS zuq zNS zm_760 4000 zt_760_64 = true := z1F (zdt_X5_liars) (by decide +kernel)
set_option maxRecDepth 100000 in
theorem zk_760_65 : zm1 zKS zuq zNS zm_760 4000 zt_760_65 = true := z1F (zdt_X5_liars) (by decide +kernel)
set_option maxRecDepth 100000 in
theorem zk_760_66 : zm1 zKS zuq zNS zm_760 4000 zt_760_66 = true := z1F (zdt_X5_liars) (by decide +kernel)
set_option maxRecDepth 100000 in
theorem zk_760_67 : zm1 zKS zuq zNS zm_760 4000 zt_760_67 = true := z1F (zdt_X5_liars) (by decide +kernel)
set_option maxRecDepth 100000 in
theorem zk_760_68 : zm1 zKS zuq zNS zm_760 4000 zt_760_68 = true := z1F (zdt_X5_liars) (by decide +kernel)
set_option maxRecDepth 100000 in
theorem zk_760_69 : zm1 zKS zuq zNS zm_760 4000 zt_760_69 = true := z1F (zdt_X5_liars) (by decide +kernel)
set_option maxRecDepth 100000 in
theorem zk_760_70 : zm1 zKS zuq zNS zm_760 4000 zt_760_70 = true := z1F (zdt_X5_liars) (by decide +kernel)
set_option maxRecDepth 100000 in
theorem zk_760_71 : zm1 zKS zuq zNS zm_760 4000 zt_760_71 = true := z1F (zdt_X5_liars) (by decide +kernel)
set_option maxRecDepth 100000 in
theorem zk_760_72 : zm1 zKS zuq zNS zm_760 4000 zt_760_72 = true := z1F (zdt_X5_liars) (by decide +kernel)
set_option maxRecDepth 100000 in
theorem zk_760_73 : zm1 zKS zuq zNS zm_760 4000 zt_760_73 = true := z1F (zdt_X5_liars) (by decide +kernel)
set_option maxRecDepth 100000 in
theorem zk_760_74 : zm1 zKS zuq zNS zm_760 4000 zt_760_74 = true := z1F (zdt_X5_liars) (by decide +kernel)
set_option maxRecDepth 100000 in
theorem zk_760_75 : zm1 zKS zuq zNS zm_760 4000 zt_760_75 = true := z1F (zdt_X5_liars) (by decide +kernel)
set_option maxRecDepth 100000 in
theorem zk_760_76 : zm1 zKS zuq zNS zm_760 4000 zt_760_76 = true := z1F (zdt_X5_liars) (by decide +kernel)
set_option maxRecDepth 100000 in
theorem zk_760_77 : zm1 zKS zuq zNS zm_760 4000 zt_760_77 = true := z1F (zdt_X5_liars) (by decide +kernel)
set_option maxRecDepth 100000 in
theorem zk_760_78 : zm1 zKS zuq zNS zm_760 4000 zt_760_78 = true := z1F (zdt_X5_liars) (by decide +kernel)
set_option maxRecDepth 100000 in
theorem zk_760_79 : zm1 zKS zuq zNS zm_760 4000 zt_760_79 = true := z1F (zdt_X5_liars) (by decide +kernel)
set_option maxRecDepth 100000 in
theorem zk_760_80 : zm1 zKS zuq zNS zm_760 4000 zt_760_80 = true := z1F (zdt_X5_liars) (by decide +kernel)
set_option maxRecDepth 100000 in
theorem zk_760_81 : zm1 zKS zuq zNS zm_760 4000 zt_760_81 = true := z1F (zdt_X5_liars) (by decide +kernel)
set_option maxRecDepth 100000 in
theorem zk_760_82 : zm1 zKS zuq zNS zm_760 4000 zt_760_82 = true := z1F (zdt_X5_liars) (by decide +kernel)
set_option maxRecDepth 100000 in
theorem zk_760_83 : zm1 zKS zuq zNS zm_760 4000 zt_760_83 = true := z1F (zdt_X5_liars) (by decide +kernel)
set_option maxRecDepth 100000 in
theorem zk_760_s : zm0 zKS zuq zNS zm_760 4000 = true := z0F (zdt_X5_liars) (by decide +kernel)
set_option maxRecDepth 100000 in
theorem zk_760 : zmeth zKS zuq zNS zm_760 4000 = true := zmeth_by zk_760_s (List.forall_mem_cons.mpr ⟨zk_760_0, (List.forall_mem_cons.mpr ⟨zk_760_1, (List.forall_mem_cons.mpr ⟨zk_760_2, (List.forall_mem_cons.mpr ⟨zk_760_3, (List.forall_mem_cons.mpr ⟨zk_760_4, (List.forall_mem_cons.mpr ⟨zk_760_5, (List.forall_mem_cons.mpr ⟨zk_760_6, (List.forall_mem_cons.mpr ⟨zk_760_7, (List.forall_mem_cons.mpr ⟨zk_760_8, (List.forall_mem_cons.mpr ⟨zk_760_9, (List.forall_mem_cons.mpr ⟨zk_760_10, (List.forall_mem_cons.mpr ⟨zk_760_11, (List.forall_mem_cons.mpr ⟨zk_760_12, (List.forall_mem_cons.mpr ⟨zk_760_13, (List.forall_mem_cons.mpr ⟨zk_760_14, (List.forall_mem_cons.mpr ⟨zk_760_15, (List.forall_mem_cons.mpr ⟨zk_760_16, (List.forall_mem_cons.mpr ⟨zk_760_17, (List.forall_mem_cons.mpr ⟨zk_760_18, (List.forall_mem_cons.mpr ⟨zk_760_19, (List.forall_mem_cons.mpr ⟨zk_760_20, (List.forall_mem_cons.mpr ⟨zk_760_21, (List.forall_mem_cons.mpr ⟨zk_760_22, (List.forall_mem_cons.mpr ⟨zk_760_23, (List.forall_mem_cons.mpr ⟨zk_760_24, (List.forall_mem_cons.mpr ⟨zk_760_25, (List.forall_mem_cons.mpr ⟨zk_760_26, (List.forall_mem_cons.mpr ⟨zk_760_27, (List.forall_mem_cons.mpr ⟨zk_760_28, (List.forall_mem_cons.mpr ⟨zk_760_29, (List.forall_mem_cons.mpr ⟨zk_760_30, (List.forall_mem_cons.mpr ⟨zk_760_31, (List.forall_mem_cons.mpr ⟨zk_760_32, (List.forall_mem_cons.mpr ⟨zk_760_33, (List.forall_mem_cons.mpr ⟨zk_760_34, (List.forall_mem_cons.mpr ⟨zk_760_35, (List.forall_mem_cons.mpr ⟨zk_760_36, (List.forall_mem_cons.mpr ⟨zk_760_37, (List.forall_mem_cons.mpr ⟨zk_760_38, (List.forall_mem_cons.mpr ⟨zk_760_39, (List.forall_mem_cons.mpr ⟨zk_760_40, (List.forall_mem_cons.mpr ⟨zk_760_41, (List.forall_mem_cons.mpr ⟨zk_760_42, (List.forall_mem_cons.mpr ⟨zk_760_43, (List.forall_mem_cons.mpr ⟨zk_760_44, (List.forall_mem_cons.mpr ⟨zk_760_45, (List.forall_mem_cons.mpr ⟨zk_760_46, (List.forall_mem_cons.mpr ⟨zk_760_47, (List.forall_mem_cons.mpr ⟨zk_760_48, (List.forall_mem_cons.mpr ⟨zk_760_49, (List.forall_mem_cons.mpr ⟨zk_760_50, (List.forall_mem_cons.mpr ⟨zk_760_51, (List.forall_mem_cons.mpr ⟨zk_760_52, (List.forall_mem_cons.mpr ⟨zk_760_53, (List.forall_mem_cons.mpr ⟨zk_760_54, (List.forall_mem_cons.mpr ⟨zk_760_55, (List.forall_mem_cons.mpr ⟨zk_760_56, (List.forall_mem_cons.mpr ⟨zk_760_57, (List.forall_mem_cons.mpr ⟨zk_760_58, (List.forall_mem_cons.mpr ⟨zk_760_59, (List.forall_mem_cons.mpr ⟨zk_760_60, (List.forall_mem_cons.mpr ⟨zk_760_61, (List.forall_mem_cons.mpr ⟨zk_760_62, (List.forall_mem_cons.mpr ⟨zk_760_63, (List.forall_mem_cons.mpr ⟨zk_760_64, (List.forall_mem_cons.mpr ⟨zk_760_65, (List.forall_mem_cons.mpr ⟨zk_760_66, (List.forall_mem_cons.mpr ⟨zk_760_67, (List.forall_mem_cons.mpr ⟨zk_760_68, (List.forall_mem_cons.mpr ⟨zk_760_69, (List.forall_mem_cons.mpr ⟨zk_760_70, (List.forall_mem_cons.mpr ⟨zk_760_71, (List.forall_mem_cons.mpr ⟨zk_760_72, (List.forall_mem_cons.mpr ⟨zk_760_73, (List.forall_mem_cons.mpr ⟨zk_760_74, (List.forall_mem_cons.mpr ⟨zk_760_75, (List.forall_mem_cons.mpr ⟨zk_760_76, (List.forall_mem_cons.mpr ⟨zk_760_77, (List.forall_mem_cons.mpr ⟨zk_760_78, (List.forall_mem_cons.mpr ⟨zk_760_79, (List.forall_mem_cons.mpr ⟨zk_760_80, (List.forall_mem_cons.mpr ⟨zk_760_81, (List.forall_mem_cons.mpr ⟨zk_760_82, (List.forall_mem_cons.mpr ⟨zk_760_83, nilz⟩)⟩)⟩)⟩)⟩)⟩)⟩)⟩)⟩)⟩)⟩)⟩)⟩)⟩)⟩)⟩)⟩)⟩)⟩)⟩)⟩)⟩)⟩)⟩)⟩)⟩)⟩)⟩)⟩)⟩)⟩)⟩)⟩)⟩)⟩)⟩)⟩)⟩)⟩)⟩)⟩)⟩)⟩)⟩)⟩)⟩)⟩)⟩)⟩)⟩)⟩)⟩)⟩)⟩)⟩)⟩)⟩)⟩)⟩)⟩)⟩)⟩)⟩)⟩)⟩)⟩)⟩)⟩)⟩)⟩)⟩)⟩)⟩)⟩)⟩)⟩)⟩)⟩)⟩)⟩)⟩)⟩)⟩)⟩)
set_option maxRecDepth 100000 in
theorem zM_760 {l : Launch} {D : va_G} {cI cZ cB cJ cR : ClassId} {ks ad : List Nat} {Psi : va_W → Prop} (hw : zworld ks ad zuq zNS Psi) (hm : zMan l D cI cZ cB cJ cR ks ad Psi) : zMet l D cI cZ cB cJ cR zKS ks ad Psi yX5_liars (.code yX5_liars cX5_liars 5 (some .int)) 3 zc_760 :=
  zmet_of hw 3 (by decide) 4000 zk_760 (by decide) (by decide) (fun X => ⟨zg_RX5 X, zp_RX5 X, zl1_RX5 X, zl2_RX5 X, nilz, (List.forall_mem_cons.mpr ⟨zq_RX5_239 X (zM_360 hw hm) (by decide) rfl rfl, (List.forall_mem_cons.mpr ⟨zq_RX5_239 X (zM_364 hw hm) (by decide) rfl rfl, (List.forall_mem_cons.mpr ⟨zq_RX5_239 X (zM_367 hw hm) (by decide) rfl rfl, (List.forall_mem_cons.mpr ⟨zq_RX5_239 X (zM_370 hw hm) (by decide) rfl rfl, (List.forall_mem_cons.mpr ⟨zq_RX5_239 X (zM_374 hw hm) (by decide) rfl rfl, (List.forall_mem_cons.mpr ⟨zq_RX5_239 X (zM_377 hw hm) (by decide) rfl rfl, (List.forall_mem_cons.mpr ⟨zq_RX5_239 X (zM_380 hw hm) (by decide) rfl rfl, (List.forall_mem_cons.mpr ⟨zq_RX5_239 X (zM_383 hw hm) (by decide) rfl rfl, (List.forall_mem_cons.mpr ⟨zq_RX5_239 X (zM_384 hw hm) (by decide) rfl rfl, (List.forall_mem_cons.mpr ⟨zq_RX5_239 X (zM_387 hw hm) (by decide) rfl rfl, (List.forall_mem_cons.mpr ⟨zq_RX5_239 X (zM_390 hw hm) (by decide) rfl rfl, (List.forall_mem_cons.mpr ⟨zq_RX5_239 X (zM_393 hw hm) (by decide) rfl rfl, (List.forall_mem_cons.mpr ⟨zq_RX5_239 X (zM_397 hw hm) (by decide) rfl rfl, (List.forall_mem_cons.mpr ⟨zq_RX5_239 X (zM_400 hw hm) (by decide) rfl rfl, (List.forall_mem_cons.mpr ⟨zq_RX5_239 X (zM_403 hw hm) (by decide) rfl rfl, (List.forall_mem_cons.mpr ⟨zq_RX5_239 X (zM_407 hw hm) (by decide) rfl rfl, (List.forall_mem_cons.mpr ⟨zq_RX5_239 X (zM_410 hw hm) (by decide) rfl rfl, (List.forall_mem_cons.mpr ⟨zq_RX5_239 X (zM_413 hw hm) (by decide) rfl rfl, (List.forall_mem_cons.mpr ⟨zq_RX5_239 X (zM_416 hw hm) (by decide) rfl rfl, (List.forall_mem_cons.mpr ⟨zq_RX5_239 X (zM_419 hw hm) (by decide) rfl rfl, (List.forall_mem_cons.mpr ⟨zq_RX5_239 X (zM_420 hw hm) (by decide) rfl rfl, (List.forall_mem_cons.mpr ⟨zq_RX5_239 X (zM_424 hw hm) (by decide) rfl rfl, (List.forall_mem_cons.mpr ⟨zq_RX5_239 X (zM_427 hw hm) (by decide) rfl rfl, (List.forall_mem_cons.mpr ⟨zq_RX5_239 X (zM_430 hw hm) (by decide) rfl rfl, (List.forall_mem_cons.mpr ⟨zq_RX5_239 X (zM_434 hw hm) (by decide) rfl rfl, (List.forall_mem_cons.mpr ⟨zq_RX5_239 X (zM_437 hw hm) (by decide) rfl rfl, (List.forall_mem_cons.mpr ⟨zq_RX5_239 X (zM_440 hw hm) (by decide) rfl rfl, (List.forall_mem_cons.mpr ⟨zq_RX5_239 X (zM_443 hw hm) (by decide) rfl rfl, (List.forall_mem_cons.mpr ⟨zq_RX5_239 X (zM_444 hw hm) (by decide) rfl rfl, (List.forall_mem_cons.mpr ⟨zq_RX5_239 X (zM_447 hw hm) (by decide) rfl rfl, (List.forall_mem_cons.mpr ⟨zq_RX5_239 X (zM_450 hw hm) (by decide) rfl rfl, (List.forall_mem_cons.mpr ⟨zq_RX5_239 X (zM_453 hw hm) (by decide) rfl rfl, (List.forall_mem_cons.mpr ⟨zq_RX5_239 X (zM_457 hw hm) (by decide) rfl rfl, (List.forall_mem_cons.mpr ⟨zq_RX5_239 X (zM_460 hw hm) (by decide) rfl rfl, (List.forall_mem_cons.mpr ⟨zq_RX5_239 X (zM_463 hw hm) (by decide) rfl rfl, (List.forall_mem_cons.mpr ⟨zq_RX5_239 X (zM_467 hw hm) (by decide) rfl rfl, (List.forall_mem_cons.mpr ⟨zq_RX5_239 X (zM_470 hw hm) (by decide) rfl rfl, (List.forall_mem_cons.mpr ⟨zq_RX5_239 X (zM_473 hw hm) (by decide) rfl rfl, (List.forall_mem_cons.mpr ⟨zq_RX5_239 X (zM_476 hw hm) (by decide) rfl rfl, (List.forall_mem_cons.mpr ⟨zq_RX5_239 X (zM_479 hw hm) (by decide) rfl rfl, (List.forall_mem_cons.mpr ⟨zq_RX5_239 X (zM_480 hw hm) (by decide) rfl rfl, (List.forall_mem_cons.mpr ⟨zq_RX5_239 X (zM_484 hw hm) (by decide) rfl rfl, (List.forall_mem_cons.mpr ⟨zq_RX5_239 X (zM_487 hw hm) (by decide) rfl rfl, (List.forall_mem_cons.mpr ⟨zq_RX5_239 X (zM_490 hw hm) (by decide) rfl rfl, (List.forall_mem_cons.mpr ⟨zq_RX5_239 X (zM_494 hw hm) (by decide) rfl rfl, (List.forall_mem_cons.mpr ⟨zq_RX5_239 X (zM_497 hw hm) (by decide) rfl rfl, (List.forall_mem_cons.mpr ⟨zq_RX5_239 X (zM_500 hw hm) (by decide) rfl rfl, (List.forall_mem_cons.mpr ⟨zq_RX5_239 X (zM_503 hw hm) (by decide) rfl rfl, (List.forall_mem_cons.mpr ⟨zq_RX5_239 X (zM_504 hw hm) (by decide) rfl rfl, (List.forall_mem_cons.mpr ⟨zq_RX5_239 X (zM_507 hw hm) (by decide) rfl rfl, (List.forall_mem_cons.mpr ⟨zq_RX5_239 X (zM_510 hw hm) (by decide) rfl rfl, (List.forall_mem_cons.mpr ⟨zq_RX5_239 X (zM_513 hw hm) (by decide) rfl rfl, (List.forall_mem_cons.mpr ⟨zq_RX5_239 X (zM_517 hw hm) (by decide) rfl rfl, (List.forall_mem_cons.mpr ⟨zq_RX5_239 X (zM_520 hw hm) (by decide) rfl rfl, (List.forall_mem_cons.mpr ⟨zq_RX5_239 X (zM_523 hw hm) (by decide) rfl rfl, (List.forall_mem_cons.mpr ⟨zq_RX5_239 X (zM_527 hw hm) (by decide) rfl rfl, (List.forall_mem_cons.mpr ⟨zq_RX5_239 X (zM_530 hw hm) (by decide) rfl rfl, (List.forall_mem_cons.mpr ⟨zq_RX5_239 X (zM_533 hw hm) (by decide) rfl rfl, (List.forall_mem_cons.mpr ⟨zq_RX5_239 X (zM_536 hw hm) (by decide) rfl rfl, (List.forall_mem_cons.mpr ⟨zq_RX5_239 X (zM_539 hw hm) (by decide) rfl rfl, (List.forall_mem_cons.mpr ⟨zq_RX5_239 X (zM_540 hw hm) (by decide) rfl rfl, (List.forall_mem_cons.mpr ⟨zq_RX5_239 X (zM_544 hw hm) (by decide) rfl rfl, (List.forall_mem_cons.mpr ⟨zq_RX5_239 X (zM_547 hw hm) (by decide) rfl rfl, (List.forall_mem_cons.mpr ⟨zq_RX5_239 X (zM_550 hw hm) (by decide) rfl rfl, (List.forall_mem_cons.mpr ⟨zq_RX5_239 X (zM_554 hw hm) (by decide) rfl rfl, (List.forall_mem_cons.mpr ⟨zq_RX5_239 X (zM_557 hw hm) (by decide) rfl rfl, (List.forall_mem_cons.mpr ⟨zq_RX5_239 X (zM_560 hw hm) (by decide) rfl rfl, (List.forall_mem_cons.mpr ⟨zq_RX5_239 X (zM_563 hw hm) (by decide) rfl rfl, (List.forall_mem_cons.mpr ⟨zq_RX5_239 X (zM_564 hw hm) (by decide) rfl rfl, (List.forall_mem_cons.mpr ⟨zq_RX5_239 X (zM_567 hw hm) (by decide) rfl rfl, (List.forall_mem_cons.mpr ⟨zq_RX5_239 X (zM_570 hw hm) (by decide) rfl rfl, (List.forall_mem_cons.mpr ⟨zq_RX5_239 X (zM_573 hw hm) (by decide) rfl rfl, (List.forall_mem_cons.mpr ⟨zq_RX5_239 X (zM_577 hw hm) (by decide) rfl rfl, (List.forall_mem_cons.mpr ⟨zq_RX5_239 X (zM_580 hw hm) (by decide) rfl rfl, (List.forall_mem_cons.mpr ⟨zq_RX5_239 X (zM_583 hw hm) (by decide) rfl rfl, (List.forall_mem_cons.mpr ⟨zq_RX5_239 X (zM_587 hw hm) (by decide) rfl rfl, (List.forall_mem_cons.mpr ⟨zq_RX5_239 X (zM_590 hw hm) (by decide) rfl rfl, (List.forall_mem_cons.mpr ⟨zq_RX5_239 X (zM_593 hw hm) (by decide) rfl rfl, (List.forall_mem_cons.mpr ⟨zq_RX5_239 X (zM_596 hw hm) (by decide) rfl rfl, (List.forall_mem_cons.mpr ⟨zq_RX5_239 X (zM_599 hw hm) (by decide) rfl rfl, (List.forall_mem_cons.mpr ⟨zq_RX5_247 X (zM_777 hw hm) (by decide) rfl rfl, (List.forall_mem_cons.mpr ⟨zq_RX5_247 X (zM_778 hw hm) (by decide) rfl rfl, (List.forall_mem_cons.mpr ⟨zq_RX5_247 X (zM_779 hw hm) (by decide) rfl rfl, (List.forall_mem_cons.mpr ⟨zq_RX5_247 X (zM_780 hw hm) (by decide) rfl rfl, (List.forall_mem_cons.mpr ⟨zq_RX5_247 X (zM_781 hw hm) (by decide) rfl rfl, (List.forall_mem_cons.mpr ⟨zq_RX5_247 X (zM_776 hw hm) (by decide) rfl rfl, (List.forall_mem_cons.mpr ⟨zq_RX5_250 X (zM_601 hw hm) (by decide) rfl rfl, (List.forall_mem_cons.mpr ⟨zq_RX5_250 X (zM_603 hw hm) (by decide) rfl rfl, (List.forall_mem_cons.mpr ⟨zq_RX5_250 X (zM_604 hw hm) (by decide) rfl rfl, (List.forall_mem_cons.mpr ⟨zq_RX5_250 X (zM_605 hw hm) (by decide) rfl rfl, (List.forall_mem_cons.mpr ⟨zq_RX5_253 X (zM_677 hw hm) (by decide) rfl rfl, (List.forall_mem_cons.mpr ⟨zq_RX5_253 X (zM_678 hw hm) (by decide) rfl rfl, (List.forall_mem_cons.mpr ⟨zq_RX5_253 X (zM_679 hw hm) (by decide) rfl rfl, (List.forall_mem_cons.mpr ⟨zq_RX5_253 X (zM_680 hw hm) (by decide) rfl rfl, (List.forall_mem_cons.mpr ⟨zq_RX5_253 X (zM_681 hw hm) (by decide) rfl rfl, (List.forall_mem_cons.mpr ⟨zq_RX5_253 X (zM_682 hw hm) (by decide) rfl rfl, (List.forall_mem_cons.mpr ⟨zq_RX5_253 X (zM_683 hw hm) (by decide) rfl rfl, (List.forall_mem_cons.mpr ⟨zq_RX5_253 X (zM_684 hw hm) (by decide) rfl rfl, (List.forall_mem_cons.mpr ⟨zq_RX5_253 X (zM_685 hw hm) (by decide) rfl rfl, (List.forall_mem_cons.mpr ⟨zq_RX5_253 X (zM_686 hw hm) (by decide) rfl rfl, (List.forall_mem_cons.mpr ⟨zq_RX5_253 X (zM_687 hw hm) (by decide) rfl rfl, (List.forall_mem_cons.mpr ⟨zq_RX5_253 X (zM_688 hw hm) (by decide) rfl rfl, (List.forall_mem_cons.mpr ⟨zq_RX5_253 X (zM_689 hw hm) (by decide) rfl rfl, (List.forall_mem_cons.mpr ⟨zq_RX5_253 X (zM_690 hw hm) (by decide) rfl rfl, (List.forall_mem_cons.mpr ⟨zq_RX5_253 X (zM_691 hw hm) (by decide) rfl rfl, (List.forall_mem_cons.mpr ⟨zq_RX5_253 X (zM_692 hw hm) (by decide) rfl rfl, (List.forall_mem_cons.mpr ⟨zq_RX5_253 X (zM_693 hw hm) (by decide) rfl rfl, (List.forall_mem_cons.mpr ⟨zq_RX5_253 X (zM_694 hw hm) (by decide) rfl rfl, (List.forall_mem_cons.mpr ⟨zq_RX5_253 X (zM_695 hw hm) (by decide) rfl rfl, (List.forall_mem_cons.mpr ⟨zq_RX5_253 X (zM_696 hw hm) (by decide) rfl rfl, (List.forall_mem_cons.mpr ⟨zq_RX5_253 X (zM_697 hw hm) (by decide) rfl rfl, (List.forall_mem_cons.mpr ⟨zq_RX5_253 X (zM_698 hw hm) (by decide) rfl rfl, (List.forall_mem_cons.mpr ⟨zq_RX5_253 X (zM_699 hw hm) (by decide) rfl rfl, (List.forall_mem_cons.mpr ⟨zq_RX5_253 X (zM_700 hw hm) (by decide) rfl rfl, (List.forall_mem_cons.mpr ⟨zq_RX5_253 X (zM_701 hw hm) (by decide) rfl rfl, (List.forall_mem_cons.mpr ⟨zq_RX5_253 X (zM_702 hw hm) (by decide) rfl rfl, (List.forall_mem_cons.mpr ⟨zq_RX5_253 X (zM_703 hw hm) (by decide) rfl rfl, (List.forall_mem_cons.mpr ⟨zq_RX5_253 X (zM_704 hw hm) (by decide) rfl rfl, (List.forall_mem_cons.mpr ⟨zq_RX5_253 X (zM_705 hw hm) (by decide) rfl rfl, (List.forall_mem_cons.mpr ⟨zq_RX5_253 X (zM_706 hw hm) (by decide) rfl rfl, (List.forall_mem_cons.mpr ⟨zq_RX5_253 X (zM_707 hw hm) (by decide) rfl rfl, (List.forall_mem_cons.mpr ⟨zq_RX5_253 X (zM_708 hw hm) (by decide) rfl rfl, (List.forall_mem_cons.mpr ⟨zq_RX5_253 X (zM_709 hw hm) (by decide) rfl rfl, (List.forall_mem_cons.mpr ⟨zq_RX5_253 X (zM_710 hw hm) (by decide) rfl rfl, (List.forall_mem_cons.mpr ⟨zq_RX5_253 X (zM_711 hw hm) (by decide) rfl rfl, (List.forall_mem_cons.mpr ⟨zq_RX5_253 X (zM_712 hw hm) (by decide) rfl rfl, (List.forall_mem_cons.mpr ⟨zq_RX5_253 X (zM_713 hw hm) (by decide) rfl rfl, (List.forall_mem_cons.mpr ⟨zq_RX5_253 X (zM_714 hw hm) (by decide) rfl rfl, (List.forall_mem_cons.mpr ⟨zq_RX5_253 X (zM_715 hw hm) (by decide) rfl rfl, (List.forall_mem_cons.mpr ⟨zq_RX5_253 X (zM_716 hw hm) (by decide) rfl rfl, (List.forall_mem_cons.mpr ⟨zq_RX5_253 X (zM_717 hw hm) (by decide) rfl rfl, (List.forall_mem_cons.mpr ⟨zq_RX5_253 X (zM_718 hw hm) (by decide) rfl rfl, (List.forall_mem_cons.mpr ⟨zq_RX5_253 X (zM_719 hw hm) (by decide) rfl rfl, (List.forall_mem_cons.mpr ⟨zq_RX5_253 X (zM_720 hw hm) (by decide) rfl rfl, (List.forall_mem_cons.mpr ⟨zq_RX5_253 X (zM_721 hw hm) (by decide) rfl rfl, (List.forall_mem_cons.mpr ⟨zq_RX5_253 X (zM_722 hw hm) (by decide) rfl rfl, (List.forall_mem_cons.mpr ⟨zq_RX5_253 X (zM_723 hw hm) (by decide) rfl rfl, (List.forall_mem_cons.mpr ⟨zq_RX5_253 X (zM_724 hw hm) (by decide) rfl rfl, (List.forall_mem_cons.mpr ⟨zq_RX5_253 X (zM_725 hw hm) (by decide) rfl rfl, (List.forall_mem_cons.mpr ⟨zq_RX5_253 X (zM_726 hw hm) (by decide) rfl rfl, (List.forall_mem_cons.mpr ⟨zq_RX5_253 X (zM_727 hw hm) (by decide) rfl rfl, (List.forall_mem_cons.mpr ⟨zq_RX5_253 X (zM_728 hw hm) (by decide) rfl rfl, (List.forall_mem_cons.mpr ⟨zq_RX5_253 X (zM_729 hw hm) (by decide) rfl rfl, (List.forall_mem_cons.mpr ⟨zq_RX5_253 X (zM_730 hw hm) (by decide) rfl rfl, (List.forall_mem_cons.mpr ⟨zq_RX5_253 X (zM_731 hw hm) (by decide) rfl rfl, (List.forall_mem_cons.mpr ⟨zq_RX5_253 X (zM_732 hw hm) (by decide) rfl rfl, (List.forall_mem_cons.mpr ⟨zq_RX5_253 X (zM_733 hw hm) (by decide) rfl rfl, (List.forall_mem_cons.mpr ⟨zq_RX5_253 X (zM_734 hw hm) (by decide) rfl rfl, (List.forall_mem_cons.mpr ⟨zq_RX5_253 X (zM_735 hw hm) (by decide) rfl rfl, (List.forall_mem_cons.mpr ⟨zq_RX5_253 X (zM_736 hw hm) (by decide) rfl rfl, (List.forall_mem_cons.mpr ⟨zq_RX5_253 X (zM_737 hw hm) (by decide) rfl rfl, (List.forall_mem_cons.mpr ⟨zq_RX5_253 X (zM_738 hw hm) (by decide) rfl rfl, (List.forall_mem_cons.mpr ⟨zq_RX5_253 X (zM_739 hw hm) (by decide) rfl rfl, (List.forall_mem_cons.mpr ⟨zq_RX5_253 X (zM_740 hw hm) (by decide) rfl rfl, (List.forall_mem_cons.mpr ⟨zq_RX5_253 X (zM_741 hw hm) (by decide) rfl rfl, (List.forall_mem_cons.mpr ⟨zq_RX5_253 X (zM_742 hw hm) (by decide) rfl rfl, (List.forall_mem_cons.mpr ⟨zq_RX5_253 X (zM_743 hw hm) (by decide) rfl rfl, (List.forall_mem_cons.mpr ⟨zq_RX5_253 X (zM_744 hw hm) (by decide) rfl rfl, (List.forall_mem_cons.mpr ⟨zq_RX5_253 X (zM_745 hw hm) (by decide) rfl rfl, (List.forall_mem_cons.mpr ⟨zq_RX5_253 X (zM_746 hw hm) (by decide) rfl rfl, (List.forall_mem_cons.mpr ⟨zq_RX5_253 X (zM_747 hw hm) (by decide) rfl rfl, (List.forall_mem_cons.mpr ⟨zq_RX5_253 X (zM_748 hw hm) (by decide) rfl rfl, (List.forall_mem_cons.mpr ⟨zq_RX5_253 X (zM_749 hw hm) (by decide) rfl rfl, (List.forall_mem_cons.mpr ⟨zq_RX5_253 X (zM_750 hw hm) (by decide) rfl rfl, (List.forall_mem_cons.mpr ⟨zq_RX5_253 X (zM_751 hw hm) (by decide) rfl rfl, (List.forall_mem_cons.mpr ⟨zq_RX5_253 X (zM_752 hw hm) (by decide) rfl rfl, (List.forall_mem_cons.mpr ⟨zq_RX5_253 X (zM_753 hw hm) (by decide) rfl rfl, (List.forall_mem_cons.mpr ⟨zq_RX5_253 X (zM_754 hw hm) (by decide) rfl rfl, (List.forall_mem_cons.mpr ⟨zq_RX5_253 X (zM_755 hw hm) (by decide) rfl rfl, (List.forall_mem_cons.mpr ⟨zq_RX5_253 X (zM_756 hw hm) (by decide) rfl rfl, nilz⟩)⟩)⟩)⟩)⟩)⟩)⟩)⟩)⟩)⟩)⟩)⟩)⟩)⟩)⟩)⟩)⟩)⟩)⟩)⟩)⟩)⟩)⟩)⟩)⟩)⟩)⟩)⟩)⟩)⟩)⟩)⟩)⟩)⟩)⟩)⟩)⟩)⟩)⟩)⟩)⟩)⟩)⟩)⟩)⟩)⟩)⟩)⟩)⟩)⟩)⟩)⟩)⟩)⟩)⟩)⟩)⟩)⟩)⟩)⟩)⟩)⟩)⟩)⟩)⟩)⟩)⟩)⟩)⟩)⟩)⟩)⟩)⟩)⟩)⟩)⟩)⟩)⟩)⟩)⟩)⟩)⟩)⟩)⟩)⟩)⟩)⟩)⟩)⟩)⟩)⟩)⟩)⟩)⟩)⟩)⟩)⟩)⟩)⟩)⟩)⟩)⟩)⟩)⟩)⟩)⟩)⟩)⟩)⟩)⟩)⟩)⟩)⟩)⟩)⟩)⟩)⟩)⟩)⟩)⟩)⟩)⟩)⟩)⟩)⟩)⟩)⟩)⟩)⟩)⟩)⟩)⟩)⟩)⟩)⟩)⟩)⟩)⟩)⟩)⟩)⟩)⟩)⟩)⟩)⟩)⟩)⟩)⟩)⟩)⟩)⟩)⟩)⟩)⟩)⟩)⟩)⟩)⟩)⟩)⟩)⟩)⟩)⟩)⟩)⟩)⟩)⟩)⟩)⟩)⟩)⟩)
