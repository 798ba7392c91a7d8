set_option maxRecDepth 100000 in
theorem zk_757_0 : zm1 zKS zuq zNS zm_757 4000 zt_757_0 = true := z1F (zdt_X5_lies) (by decide +kernel)
set_option maxRecDepth 100000 in
theorem zk_757_1 : zm1 zKS zuq zNS zm_757 4000 zt_757_1 = true := z1F (zdt_X5_lies) (by decide +kernel)
set_option maxRecDepth 100000 in
theorem zk_757_2 : zm1 zKS zuq zNS zm_757 4000 zt_757_2 = true := z1F (zdt_X5_lies) (by decide +kernel)
set_option maxRecDepth 100000 in
theorem zk_757_3 : zm1 zKS zuq zNS zm_757 4000 zt_757_3 = true := z1F (zdt_X5_lies) (by decide +kernel)
set_option maxRecDepth 100000 in
theorem zk_757_4 : zm1 zKS zuq zNS zm_757 4000 zt_757_4 = true := z1F (zdt_X5_lies) (by decide +kernel)
set_option maxRecDepth 100000 in
theorem zk_757_5 : zm1 zKS zuq zNS zm_757 4000 zt_757_5 = true := z1F (zdt_X5_lies) (by decide +kernel)
set_option maxRecDepth 100000 in
theorem zk_757_6 : zm1 zKS zuq zNS zm_757 4000 zt_757_6 = true := z1F (zdt_X5_lies) (by decide +kernel)
set_option maxRecDepth 100000 in
theorem zk_757_7 : zm1 zKS zuq zNS zm_757 4000 zt_757_7 = true := z1F (zdt_X5_lies) (by decide +kernel)
set_option maxRecDepth 100000 in
theorem zk_757_8 : zm1 zKS zuq zNS zm_757 4000 zt_757_8 = true := z1F (zdt_X5_lies) (by decide +kernel)
set_option maxRecDepth 100000 in
theorem zk_757_9 : zm1 zKS zuq zNS zm_757 4000 zt_757_9 = true := z1F (zdt_X5_lies) (by decide +kernel)
set_option maxRecDepth 100000 in
theorem zk_757_10 : zm1 zKS zuq zNS zm_757 4000 zt_757_10 = true := z1F (zdt_X5_lies) (by decide +kernel)
set_option maxRecDepth 100000 in
theorem zk_757_11 : zm1 zKS zuq zNS zm_757 4000 zt_757_11 = true := z1F (zdt_X5_lies) (by decide +kernel)
set_option maxRecDepth 100000 in
theorem zk_757_12 : zm1 zKS zuq zNS zm_757 4000 zt_757_12 = true := z1F (zdt_X5_lies) (by decide +kernel)
set_option maxRecDepth 100000 in
theorem zk_757_13 : zm1 zKS zuq zNS zm_757 4000 zt_757_13 = true := z1F (zdt_X5_lies) (by decide +kernel)
set_option maxRecDepth 100000 in
theorem zk_757_14 : zm1 zKS zuq zNS zm_757 4000 zt_757_14 = true := z1F (zdt_X5_lies) (by decide +kernel)
set_option maxRecDepth 100000 in
theorem zk_757_15 : zm1 zKS zuq zNS zm_757 4000 zt_757_15 = true := z1F (zdt_X5_lies) (by decide +kernel)
set_option maxRecDepth 100000 in
theorem zk_757_16 : zm1 zKS zuq zNS zm_757 4000 zt_757_16 = true := z1F (zdt_X5_lies) (by decide +kernel)
set_option maxRecDepth 100000 in
theorem zk_757_17 : zm1 zKS zuq zNS zm_757 4000 zt_757_17 = true := z1F (zdt_X5_lies) (by decide +kernel)
set_option maxRecDepth 100000 in
theorem zk_757_18 : zm1 zKS zuq zNS zm_757 4000 zt_757_18 = true := z1F (zdt_X5_lies) (by decide +kernel)
set_option maxRecDepth 100000 in
theorem zk_757_19 : zm1 zKS zuq zNS zm_757 4000 zt_757_19 = true := z1F (zdt_X5_lies) (by decide +kernel)
set_option maxRecDepth 100000 in
theorem zk_757_20 : zm1 zKS zuq zNS zm_757 4000 zt_757_20 = true := z1F (zdt_X5_lies) (by decide +kernel)
set_option maxRecDepth 100000 in
theorem zk_757_21 : zm1 zKS zuq zNS zm_757 4000 zt_757_21 = true := z1F (zdt_X5_lies) (by decide +kernel)
set_option maxRecDepth 100000 in
theorem zk_757_22 : zm1 zKS zuq zNS zm_757 4000 zt_757_22 = true := z1F (zdt_X5_lies) (by decide +kernel)
set_option maxRecDepth 100000 in
theorem zk_757_23 : zm1 zKS zuq zNS zm_757 4000 zt_757_23 = true := z1F (zdt_X5_lies) (by decide +kernel)
set_option maxRecDepth 100000 in
theorem zk_757_24 : zm1 zKS zuq zNS zm_757 4000 zt_757_24 = true := z1F (zdt_X5_lies) (by decide +kernel)
set_option maxRecDepth 100000 in
theorem zk_757_25 : zm1 zKS zuq zNS zm_757 4000 zt_757_25 = true := z1F (zdt_X5_lies) (by decide +kernel)
set_option maxRecDepth 100000 in
theorem zk_757_26 : zm1 zKS zuq zNS zm_757 4000 zt_757_26 = true := z1F (zdt_X5_lies) (by decide +kernel)
set_option maxRecDepth 100000 in
theorem zk_757_27 : zm1 zKS zuq zNS zm_757 4000 zt_757_27 = true := z1F (zdt_X5_lies) (by decide +kernel)
set_option maxRecDepth 100000 in
theorem zk_757_28 : zm1 zKS zuq zNS zm_757 4000 zt_757_28 = true := z1F (zdt_X5_lies) (by decide +kernel)
set_option maxRecDepth 100000 in
theorem zk_757_29 : zm1 zKS zuq zNS zm_757 4000 zt_757_29 = true := z1F (zdt_X5_lies) (by decide +kernel)
set_option maxRecDepth 100000 in
theorem zk_757_30 : zm1 zKS zuq zNS zm_757 4000 zt_757_30 = true := z1F (zdt_X5_lies) (by decide +kernel)
set_option maxRecDepth 100000 in
theorem zk_757_31 : zm1 zKS zuq zNS zm_757 4000 zt_757_31 = true := z1F (zdt_X5_lies) (by decide +kernel)
set_option maxRecDepth 100000 in
theorem zk_757_32 : zm1 zKS zuq zNS zm_757 4000 zt_757_32 = true := z1F (zdt_X5_lies) (by decide +kernel)
set_option maxRecDepth 100000 in
theorem zk_757_33 : zm1 zKS zuq zNS zm_757 4000 zt_757_33 = true := z1F (zdt_X5_lies) (by decide +kernel)
set_option maxRecDepth 100000 in
theorem zk_757_34 : zm1 zKS zuq zNS zm_757 4000 zt_757_34 = true := z1F (zdt_X5_lies) (by decide +kernel)
set_option maxRecDepth 100000 in
theorem zk_757_35 : zm1 zKS zuq zNS zm_757 4000 zt_757_35 = true := z1F (zdt_X5_lies) (by decide +kernel)
set_option maxRecDepth 100000 in
theorem zk_757_36 : zm1 zKS zuq zNS zm_757 4000 zt_757_36 = true := z1F (zdt_X5_lies) (by decide +kernel)
set_option maxRecDepth 100000 in
theorem zk_757_37 : zm1 zKS zuq zNS zm_757 4000 zt_757_37 = true := z1F (zdt_X5_lies) (by decide +kernel)
set_option maxRecDepth 100000 in
theorem zk_757_38 : zm1 zKS zuq zNS zm_757 4000 zt_757_38 = true := z1F (zdt_X5_lies) (by decide +kernel)
set_option maxRecDepth 100000 in
theorem zk_757_39 : zm1 zKS zuq zNS zm_757 4000 zt_757_39 = true := z1F (zdt_X5_lies) (by decide +kernel)
set_option maxRecDepth 100000 in
theorem zk_757_40 : zm1 zKS zuq zNS zm_757 4000 zt_757_40 = true := z1F (zdt_X5_lies) (by decide +kernel)
set_option maxRecDepth 100000 in
theorem zk_757_41 : zm1 zKS zuq zNS zm_757 4000 zt_757_41 = true := z1F (zdt_X5_lies) (by decide +kernel)
set_option maxRecDepth 100000 in
theorem zk_757_42 : zm1 zKS zuq zNS zm_757 4000 zt_757_42 = true := z1F (zdt_X5_lies) (by decide +kernel)
set_option maxRecDepth 100000 in
theorem zk_757_43 : zm1 zKS zuq zNS zm_757 4000 zt_757_43 = true := z1F (zdt_X5_lies) (by decide +kernel)
set_option maxRecDepth 100000 in
theorem zk_757_44 : zm1 zKS zuq zNS zm_757 4000 zt_757_44 = true := z1F (zdt_X5_lies) (by decide +kernel)
set_option maxRecDepth 100000 in
theorem zk_757_45 : zm1 zKS zuq zNS zm_757 4000 zt_757_45 = true := z1F (zdt_X5_lies) (by decide +kernel)
set_option maxRecDepth 100000 in
theorem zk_757_46 : zm1 zKS zuq zNS zm_757 4000 zt_757_46 = true := z1F (zdt_X5_lies) (by decide +kernel)
set_option maxRecDepth 100000 in
theorem zk_757_47 : zm1 zKS zuq zNS zm_757 4000 zt_757_47 = true := z1F (zdt_X5_lies) (by decide +kernel)
set_option maxRecDepth 100000 in
theorem zk_757_48 : zm1 zKS zuq zNS zm_757 4000 zt_757_48 = true := z1F (zdt_X5_lies) (by decide +kernel)
set_option maxRecDepth 100000 in
theorem zk_757_49 : zm1 zKS zuq zNS zm_757 4000 zt_757_49 = true := z1F (zdt_X5_lies) (by decide +kernel)
set_option maxRecDepth 100000 in
theorem zk_757_50 : zm1 zKS zuq zNS zm_757 4000 zt_757_50 = true := z1F (zdt_X5_lies) (by decide +kernel)
set_option maxRecDepth 100000 in
theorem zk_757_51 : zm1 zKS zuq zNS zm_757 4000 zt_757_51 = true := z1F (zdt_X5_lies) (by decide +kernel)
set_option maxRecDepth 100000 in
theorem zk_757_52 : zm1 zKS zuq zNS zm_757 4000 zt_757_52 = true := z1F (zdt_X5_lies) (by decide +kernel)
set_option maxRecDepth 100000 in
theorem zk_757_53 : zm1 zKS zuq zNS zm_757 4000 zt_757_53 = true := z1F (zdt_X5_lies) (by decide +kernel)
set_option maxRecDepth 100000 in
theorem zk_757_54 : zm1 zKS zuq zNS zm_757 4000 zt_757_54 = true := z1F (zdt_X5_lies) (by decide +kernel)
set_option maxRecDepth 100000 in
theorem zk_757_55 : zm1 zKS zuq zNS zm_757 4000 zt_757_55 = true := z1F (zdt_X5_lies) (by decide +kernel)
set_option maxRecDepth 100000 in
theorem zk_757_56 : zm1 zKS zuq zNS zm_757 4000 zt_757_56 = true := z1F (zdt_X5_lies) (by decide +kernel)
set_option maxRecDepth 100000 in
theorem zk_757_57 : zm1 zKS zuq zNS zm_757 4000 zt_757_57 = true := z1F (zdt_X5_lies) (by decide +kernel)
set_option maxRecDepth 100000 in
theorem zk_757_58 : zm1 zKS zuq zNS zm_757 4000 zt_757_58 = true := z1F (zdt_X5_lies) (by decide +kernel)
set_option maxRecDepth 100000 in
theorem zk_757_59 : zm1 zKS zuq zNS zm_757 4000 zt_757_59 = true := z1F (zdt_X5_lies) (by decide +kernel)
set_option maxRecDepth 100000 in
theorem zk_757_60 : zm1 zKS zuq zNS zm_757 4000 zt_757_60 = true := z1F (zdt_X5_lies) (by decide +kernel)
set_option maxRecDepth 100000 in
theorem zk_757_61 : zm1 zKS zuq zNS zm_757 4000 zt_757_61 = true := z1F (zdt_X5_lies) (by decide +kernel)
set_option maxRecDepth 100000 in
theorem zk_757_62 : zm1 zKS zuq zNS zm_757 4000 zt_757_62 = true := z1F (zdt_X5_lies) (by decide +kernel)
set_option maxRecDepth 100000 in
theorem zk_757_63 : zm1 zKS zuq zNS zm_757 4000 zt_757_63 = true := z1F (zdt_X5_lies) (by decide +kernel)
set_option maxRecDepth 100000 in
theorem zk_757_64 : zm1 zKS zuq zNS zm_757 4000 zt_757_64 = true := z1F (zdt_X5_lies) (by decide +kernel)
set_option maxRecDepth 100000 in
theorem zk_757_65 : zm1 zKS zuq zNS zm_757 4000 zt_757_65 = true := z1F (zdt_X5_lies) (by decide +kernel)
set_option maxRecDepth 100000 in
theorem zk_757_66 : zm1 zKS zuq zNS zm_757 4000 zt_757_66 = true := z1F (zdt_X5_lies) (by decide +kernel)
set_option maxRecDepth 100000 in
theorem zk_757_67 : zm1 zKS zuq zNS zm_757 4000 zt_757_67 = true := z1F (zdt_X5_lies) (by decide +kernel)
set_option maxRecDepth 100000 in
theorem zk_757_68 : zm1 zKS zuq zNS zm_757 4000 zt_757_68 = true := z1F (zdt_X5_lies) (by decide +kernel)
set_option maxRecDepth 100000 in
theorem zk_757_69 : zm1 zKS zuq zNS zm_757 4000 zt_757_69 = true := z1F (zdt_X5_lies) (by decide +kernel)
set_option maxRecDepth 100000 in
theorem zk_757_70 : zm1 zKS zuq zNS zm_757 4000 zt_757_70 = true := z1F (zdt_X5_lies) (by decide +kernel)
set_option maxRecDepth 100000 in
theorem zk_757_71 : zm1 zKS zuq zNS zm_757 4000 zt_757_71 = true := z1F (zdt_X5_lies) (by decide +kernel)
set_option maxRecDepth 100000 in
theorem zk_757_72 : zm1 zKS zuq zNS zm_757 4000 zt_757_72 = true := z1F (zdt_X5_lies) (by decide +kernel)
set_option maxRecDepth 100000 in
theorem zk_757_73 : zm1 zKS zuq zNS zm_757 4000 zt_757_73 = true := z1F (zdt_X5_lies) (by decide +kernel)
set_option maxRecDepth 100000 in
theorem zk_757_74 : zm1 zKS zuq zNS zm_757 4000 zt_757_74 = true := z1F (zdt_X5_lies) (by decide +kernel)
set_option maxRecDepth 100000 in
theorem zk_757_75 : zm1 zKS zuq zNS zm_757 4000 zt_757_75 = true := z1F (zdt_X5_lies) (by decide +kernel)
set_option maxRecDepth 100000 in
theorem zk_757_76 : zm1 zKS zuq zNS zm_757 4000 zt_757_76 = true := z1F (zdt_X5_lies) (by decide +kernel)
set_option maxRecDepth 100000 in
theorem zk_757_77 : zm1 zKS zuq zNS zm_757 4000 zt_757_77 = true := z1F (zdt_X5_lies) (by decide +kernel)
set_option maxRecDepth 100000 in
theorem zk_757_78 : zm1 zKS zuq zNS zm_757 4000 zt_757_78 = true := z1F (zdt_X5_lies) (by decide +kernel)
set_option maxRecDepth 100000 in
theorem zk_757_79 : zm1 zKS zuq zNS zm_757 4000 zt_757_79 = true := z1F (zdt_X5_lies) (by decide +kernel)
set_option maxRecDepth 100000 in
theorem zk_757_80 : zm1 zKS zuq zNS zm_757 4000 zt_757_80 = true := z1F (zdt_X5_lies) (by decide +kernel)
set_option maxRecDepth 100000 in
theorem zk_757_81 : zm1 zKS zuq zNS zm_757 4000 zt_757_81 = true := z1F (zdt_X5_lies) (by decide +kernel)
set_option maxRecDepth 100000 in
theorem zk_757_82 : zm1 zKS zuq zNS zm_757 4000 zt_757_82 = true := z1F (zdt_X5_lies) (by decide +kernel)
set_option maxRecDepth 100000 in
theorem zk_757_83 : zm1 zKS zuq zNS zm_757 4000 zt_757_83 = true := z1F (zdt_X5_lies) (by decide +kernel)
set_option maxRecDepth 100000 in
theorem zk_757_s : zm0 zKS zuq zNS zm_757 4000 = true := z0F (zdt_X5_lies) (by decide +kernel)
set_option maxRecDepth 100000 in
theorem zk_757 : zmeth zKS zuq zNS zm_757 4000 = true := zmeth_by zk_757_s (List.forall_mem_cons.mpr ⟨zk_757_0, (List.forall_mem_cons.mpr ⟨zk_757_1, (List.forall_mem_cons.mpr ⟨zk_757_2, (List.forall_mem_cons.mpr ⟨zk_757_3, (List.forall_mem_cons.mpr ⟨zk_757_4, (List.forall_mem_cons.mpr ⟨zk_757_5, (List.forall_mem_cons.mpr ⟨zk_757_6, (List.forall_mem_cons.mpr ⟨zk_757_7, (List.forall_mem_cons.mpr ⟨zk_757_8, (List.forall_mem_cons.mpr ⟨zk_757_9, (List.forall_mem_cons.mpr ⟨zk_757_10, (List.forall_mem_cons.mpr ⟨zk_757_11, (List.forall_mem_cons.mpr ⟨zk_757_12, (List.forall_mem_cons.mpr ⟨zk_757_13, (List.forall_mem_cons.mpr ⟨zk_757_14, (List.forall_mem_cons.mpr ⟨zk_757_15, (List.forall_mem_cons.mpr ⟨zk_757_16, (List.forall_mem_cons.mpr ⟨zk_757_17, (List.forall_mem_cons.mpr ⟨zk_757_18, (List.forall_mem_cons.mpr ⟨zk_757_19, (List.forall_mem_cons.mpr ⟨zk_757_20, (List.forall_mem_cons.mpr ⟨zk_757_21, (List.forall_mem_cons.mpr ⟨zk_757_22, (List.forall_mem_cons.mpr ⟨zk_757_23, (List.forall_mem_cons.mpr ⟨zk_757_24, (List.forall_mem_cons.mpr ⟨zk_757_25, (List.forall_mem_cons.mpr ⟨zk_757_26, (List.forall_mem_cons.mpr ⟨zk_757_27, (List.forall_mem_cons.mpr ⟨zk_757_28, (List.forall_mem_cons.mpr ⟨zk_757_29, (List.forall_mem_cons.mpr ⟨zk_757_30, (List.forall_mem_cons.mpr ⟨zk_757_31, (List.forall_mem_cons.mpr ⟨zk_757_32, (List.forall_mem_cons.mpr ⟨zk_757_33, (List.forall_mem_cons.mpr ⟨zk_757_34, (List.forall_mem_cons.mpr ⟨zk_757_35, (List.forall_mem_cons.mpr ⟨zk_757_36, (List.forall_mem_cons.mpr ⟨zk_757_37, (List.forall_mem_cons.mpr ⟨zk_757_38, (List.forall_mem_cons.mpr ⟨zk_757_39, (List.forall_mem_cons.mpr ⟨zk_757_40, (List.forall_mem_cons.mpr ⟨zk_757_41, (List.forall_mem_cons.mpr ⟨zk_757_42, (List.forall_mem_cons.mpr ⟨zk_757_43, (List.forall_mem_cons.mpr ⟨zk_757_44, (List.forall_mem_cons.mpr ⟨zk_757_45, (List.forall_mem_cons.mpr ⟨zk_757_46, (List.forall_mem_cons.mpr ⟨zk_757_47, (List.forall_mem_cons.mpr ⟨zk_757_48, (List.forall_mem_cons.mpr ⟨zk_757_49, (List.forall_mem_cons.mpr ⟨zk_757_50, (List.forall_mem_cons.mpr ⟨zk_757_51, (List.forall_mem_cons.mpr ⟨zk_757_52, (List.forall_mem_cons.mpr ⟨zk_757_53, (List.forall_mem_cons.mpr ⟨zk_757_54, (List.forall_mem_cons.mpr ⟨zk_757_55, (List.forall_mem_cons.mpr ⟨zk_757_56, (List.forall_mem_cons.mpr ⟨zk_757_57, (List.forall_mem_cons.mpr ⟨zk_757_58, (List.forall_mem_cons.mpr ⟨zk_757_59, (List.forall_mem_cons.mpr ⟨zk_757_60, (List.forall_mem_cons.mpr ⟨zk_757_61, (List.forall_mem_cons.mpr ⟨zk_757_62, (List.forall_mem_cons.mpr ⟨zk_757_63, (List.forall_mem_cons.mpr ⟨zk_757_64, (List.forall_mem_cons.mpr ⟨zk_757_65, (List.forall_mem_cons.mpr ⟨zk_757_66, (List.forall_mem_cons.mpr ⟨zk_757_67, (List.forall_mem_cons.mpr ⟨zk_757_68, (List.forall_mem_cons.mpr ⟨zk_757_69, (List.forall_mem_cons.mpr ⟨zk_757_70, (List.forall_mem_cons.mpr ⟨zk_757_71, (List.forall_mem_cons.mpr ⟨zk_757_72, (List.forall_mem_cons.mpr ⟨zk_757_73, (List.forall_mem_cons.mpr ⟨zk_757_74, (List.forall_mem_cons.mpr ⟨zk_757_75, (List.forall_mem_cons.mpr ⟨zk_757_76, (List.forall_mem_cons.mpr ⟨zk_757_77, (List.forall_mem_cons.mpr ⟨zk_757_78, (List.forall_mem_cons.mpr ⟨zk_757_79, (List.forall_mem_cons.mpr ⟨zk_757_80, (List.forall_mem_cons.mpr ⟨zk_757_81, (List.forall_mem_cons.mpr ⟨zk_757_82, (List.forall_mem_cons.mpr ⟨zk_757_83, nilz⟩)⟩)⟩)⟩)⟩)⟩)⟩)⟩)⟩)⟩)⟩)⟩)⟩)⟩)⟩)⟩)⟩)⟩)⟩)⟩)⟩)⟩)⟩)⟩)⟩)⟩)⟩)⟩)⟩)⟩)⟩)⟩)⟩)⟩)⟩)⟩)⟩)⟩)⟩)⟩)⟩)⟩)⟩)⟩)⟩)⟩)⟩)⟩)⟩)⟩)⟩)⟩)⟩)⟩)⟩)⟩)⟩)⟩)⟩)⟩)⟩)⟩)⟩)⟩)⟩)⟩)⟩)⟩)⟩)⟩)⟩)⟩)⟩)⟩)⟩)⟩)⟩)⟩)⟩)⟩)⟩)⟩)⟩)⟩)
set_option maxRecDepth 100000 in
theorem zM_757 {l : Launch} {D : va_G} {cI cZ cB cJ cR : ClassId} {ks ad : List Nat} {Psi : va_W → Prop} (hw : zworld ks ad zuq zNS Psi) (hm : zMan l D cI cZ cB cJ cR ks ad Psi) : zMet l D cI cZ cB cJ cR zKS ks ad Psi yX5_lies (.code yX5_lies cX5_lies 5 (some .int)) 3 zc_757 :=
  zmet_of hw 3 (by decide) 4000 zk_757 (by decide) (by decide) (fun X => ⟨zg_RX5 X, zp_RX5 X, zl1_RX5 X, zl2_RX5 X, nilz, (List.forall_mem_cons.mpr ⟨zq_RX5_247 X (zM_773 hw hm) (by decide) rfl rfl, (List.forall_mem_cons.mpr ⟨zq_RX5_247 X (zM_774 hw hm) (by decide) rfl rfl, (List.forall_mem_cons.mpr ⟨zq_RX5_247 X (zM_775 hw hm) (by decide) rfl rfl, (List.forall_mem_cons.mpr ⟨zq_RX5_247 X (zM_776 hw hm) (by decide) rfl rfl, (List.forall_mem_cons.mpr ⟨zq_RX5_247 X (zM_777 hw hm) (by decide) rfl rfl, (List.forall_mem_cons.mpr ⟨zq_RX5_247 X (zM_772 hw hm) (by decide) rfl rfl, (List.forall_mem_cons.mpr ⟨zq_RX5_250 X (zM_597 hw hm) (by decide) rfl rfl, (List.forall_mem_cons.mpr ⟨zq_RX5_250 X (zM_599 hw hm) (by decide) rfl rfl, (List.forall_mem_cons.mpr ⟨zq_RX5_250 X (zM_600 hw hm) (by decide) rfl rfl, (List.forall_mem_cons.mpr ⟨zq_RX5_250 X (zM_601 hw hm) (by decide) rfl rfl, (List.forall_mem_cons.mpr ⟨zq_RX5_253 X (zM_673 hw hm) (by decide) rfl rfl, (List.forall_mem_cons.mpr ⟨zq_RX5_253 X (zM_674 hw hm) (by decide) rfl rfl, (List.forall_mem_cons.mpr ⟨zq_RX5_253 X (zM_675 hw hm) (by decide) rfl rfl, (List.forall_mem_cons.mpr ⟨zq_RX5_253 X (zM_676 hw hm) (by decide) rfl rfl, (List.forall_mem_cons.mpr ⟨zq_RX5_253 X (zM_677 hw hm) (by decide) rfl rfl, (List.forall_mem_cons.mpr ⟨zq_RX5_253 X (zM_678 hw hm) (by decide) rfl rfl, (List.forall_mem_cons.mpr ⟨zq_RX5_253 X (zM_679 hw hm) (by decide) rfl rfl, (List.forall_mem_cons.mpr ⟨zq_RX5_253 X (zM_680 hw hm) (by decide) rfl rfl, (List.forall_mem_cons.mpr ⟨zq_RX5_253 X (zM_681 hw hm) (by decide) rfl rfl, (List.forall_mem_cons.mpr ⟨zq_RX5_253 X (zM_682 hw hm) (by decide) rfl rfl, (List.forall_mem_cons.mpr ⟨zq_RX5_253 X (zM_683 hw hm) (by decide) rfl rfl, (List.forall_mem_cons.mpr ⟨zq_RX5_253 X (zM_684 hw hm) (by decide) rfl rfl, (List.forall_mem_cons.mpr ⟨zq_RX5_253 X (zM_685 hw hm) (by decide) rfl rfl, (List.forall_mem_cons.mpr ⟨zq_RX5_253 X (zM_686 hw hm) (by decide) rfl rfl, (List.forall_mem_cons.mpr ⟨zq_RX5_253 X (zM_687 hw hm) (by decide) rfl rfl, (List.forall_mem_cons.mpr ⟨zq_RX5_253 X (zM_688 hw hm) (by decide) rfl rfl, (List.forall_mem_cons.mpr ⟨zq_RX5_253 X (zM_689 hw hm) (by decide) rfl rfl, (List.forall_mem_cons.mpr ⟨zq_RX5_253 X (zM_690 hw hm) (by decide) rfl rfl, (List.forall_mem_cons.mpr ⟨zq_RX5_253 X (zM_691 hw hm) (by decide) rfl rfl, (List.forall_mem_cons.mpr ⟨zq_RX5_253 X (zM_692 hw hm) (by decide) rfl rfl, (List.forall_mem_cons.mpr ⟨zq_RX5_253 X (zM_693 hw hm) (by decide) rfl rfl, (List.forall_mem_cons.mpr ⟨zq_RX5_253 X (zM_694 hw hm) (by decide) rfl rfl, (List.forall_mem_cons.mpr ⟨zq_RX5_253 X (zM_695 hw hm) (by decide) rfl rfl, (List.forall_mem_cons.mpr ⟨zq_RX5_253 X (zM_696 hw hm) (by decide) rfl rfl, (List.forall_mem_cons.mpr ⟨zq_RX5_253 X (zM_697 hw hm) (by decide) rfl rfl, (List.forall_mem_cons.mpr ⟨zq_RX5_253 X (zM_698 hw hm) (by decide) rfl rfl, (List.forall_mem_cons.mpr ⟨zq_RX5_253 X (zM_699 hw hm) (by decide) rfl rfl, (List.forall_mem_cons.mpr ⟨zq_RX5_253 X (zM_700 hw hm) (by decide) rfl rfl, (List.forall_mem_cons.mpr ⟨zq_RX5_253 X (zM_701 hw hm) (by decide) rfl rfl, (List.forall_mem_cons.mpr ⟨zq_RX5_253 X (zM_702 hw hm) (by decide) rfl rfl, (List.forall_mem_cons.mpr ⟨zq_RX5_253 X (zM_703 hw hm) (by decide) rfl rfl, (List.forall_mem_cons.mpr ⟨zq_RX5_253 X (zM_704 hw hm) (by decide) rfl rfl, (List.forall_mem_cons.mpr ⟨zq_RX5_253 X (zM_705 hw hm) (by decide) rfl rfl, (List.forall_mem_cons.mpr ⟨zq_RX5_253 X (zM_706 hw hm) (by decide) rfl rfl, (List.forall_mem_cons.mpr ⟨zq_RX5_253 X (zM_707 hw hm) (by decide) rfl rfl, (List.forall_mem_cons.mpr ⟨zq_RX5_253 X (zM_708 hw hm) (by decide) rfl rfl, (List.forall_mem_cons.mpr ⟨zq_RX5_253 X (zM_709 hw hm) (by decide) rfl rfl, (List.forall_mem_cons.mpr ⟨zq_RX5_253 X (zM_710 hw hm) (by decide) rfl rfl, (List.forall_mem_cons.mpr ⟨zq_RX5_253 X (zM_711 hw hm) (by decide) rfl rfl, (List.forall_mem_cons.mpr ⟨zq_RX5_253 X (zM_712 hw hm) (by decide) rfl rfl, (List.forall_mem_cons.mpr ⟨zq_RX5_253 X (zM_713 hw hm) (by decide) rfl rfl, (List.forall_mem_cons.mpr ⟨zq_RX5_253 X (zM_714 hw hm) (by decide) rfl rfl, (List.forall_mem_cons.mpr ⟨zq_RX5_253 X (zM_715 hw hm) (by decide) rfl rfl, (List.forall_mem_cons.mpr ⟨zq_RX5_253 X (zM_716 hw hm) (by decide) rfl rfl, (List.forall_mem_cons.mpr ⟨zq_RX5_253 X (zM_717 hw hm) (by decide) rfl rfl, (List.forall_mem_cons.mpr ⟨zq_RX5_253 X (zM_718 hw hm) (by decide) rfl rfl, (List.forall_mem_cons.mpr ⟨zq_RX5_253 X (zM_719 hw hm) (by decide) rfl rfl, (List.forall_mem_cons.mpr ⟨zq_RX5_253 X (zM_720 hw hm) (by decide) rfl rfl, (List.forall_mem_cons.mpr ⟨zq_RX5_253 X (zM_721 hw hm) (by decide) rfl rfl, (List.forall_mem_cons.mpr ⟨zq_RX5_253 X (zM_722 hw hm) (by decide) rfl rfl, (List.forall_mem_cons.mpr ⟨zq_RX5_253 X (zM_723 hw hm) (by decide) rfl rfl, (List.forall_mem_cons.mpr ⟨zq_RX5_253 X (zM_724 hw hm) (by decide) rfl rfl, (List.forall_mem_cons.mpr ⟨zq_RX5_253 X (zM_725 hw hm) (by decide) rfl rfl, (List.forall_mem_cons.mpr ⟨zq_RX5_253 X (zM_726 hw hm) (by decide) rfl rfl, (List.forall_mem_cons.mpr ⟨zq_RX5_253 X (zM_727 hw hm) (by decide) rfl rfl, (List.forall_mem_cons.mpr ⟨zq_RX5_253 X (zM_728 hw hm) (by decide) rfl rfl, (List.forall_mem_cons.mpr ⟨zq_RX5_253 X (zM_729 hw hm) (by decide) rfl rfl, (List.forall_mem_cons.mpr ⟨zq_RX5_253 X (zM_730 hw hm) (by decide) rfl rfl, (List.forall_mem_cons.mpr ⟨zq_RX5_253 X (zM_731 hw hm) (by decide) rfl rfl, (List.forall_mem_cons.mpr ⟨zq_RX5_253 X (zM_732 hw hm) (by decide) rfl rfl, (List.forall_mem_cons.mpr ⟨zq_RX5_253 X (zM_733 hw hm) (by decide) rfl rfl, (List.forall_mem_cons.mpr ⟨zq_RX5_253 X (zM_734 hw hm) (by decide) rfl rfl, (List.forall_mem_cons.mpr ⟨zq_RX5_253 X (zM_735 hw hm) (by decide) rfl rfl, (List.forall_mem_cons.mpr ⟨zq_RX5_253 X (zM_736 hw hm) (by decide) rfl rfl, (List.forall_mem_cons.mpr ⟨zq_RX5_253 X (zM_737 hw hm) (by decide) rfl rfl, (List.forall_mem_cons.mpr ⟨zq_RX5_253 X (zM_738 hw hm) (by decide) rfl rfl, (List.forall_mem_cons.mpr ⟨zq_RX5_253 X (zM_739 hw hm) (by decide) rfl rfl, (List.forall_mem_cons.mpr ⟨zq_RX5_253 X (zM_740 hw hm) (by decide) rfl rfl, (List.forall_mem_cons.mpr ⟨zq_RX5_253 X (zM_741 hw hm) (by decide) rfl rfl, (List.forall_mem_cons.mpr ⟨zq_RX5_253 X (zM_742 hw hm) (by decide) rfl rfl, (List.forall_mem_cons.mpr ⟨zq_RX5_253 X (zM_743 hw hm) (by decide) rfl rfl, (List.forall_mem_cons.mpr ⟨zq_RX5_253 X (zM_744 hw hm) (by decide) rfl rfl, (List.forall_mem_cons.mpr ⟨zq_RX5_253 X (zM_745 hw hm) (by decide) rfl rfl, (List.forall_mem_cons.mpr ⟨zq_RX5_253 X (zM_746 hw hm) (by decide) rfl rfl, (List.forall_mem_cons.mpr ⟨zq_RX5_253 X (zM_747 hw hm) (by decide) rfl rfl, (List.forall_mem_cons.mpr ⟨zq_RX5_253 X (zM_748 hw hm) (by decide) rfl rfl, (List.forall_mem_cons.mpr ⟨zq_RX5_253 X (zM_749 hw hm) (by decide) rfl rfl, (List.forall_mem_cons.mpr ⟨zq_RX5_253 X (zM_750 hw hm) (by decide) rfl rfl, (List.forall_mem_cons.mpr ⟨zq_RX5_253 X (zM_751 hw hm) (by decide) rfl rfl, (List.forall_mem_cons.mpr ⟨zq_RX5_253 X (zM_752 hw hm) (by decide) rfl rfl, nilz⟩)⟩)⟩)⟩)⟩)⟩)⟩)⟩)⟩)⟩)⟩)⟩)⟩)⟩)⟩)⟩)⟩)⟩)⟩)⟩)⟩)⟩)⟩)⟩)⟩)⟩)⟩)⟩)⟩)⟩)⟩)⟩)⟩)⟩)⟩)⟩)⟩)⟩)⟩)⟩)⟩)⟩)⟩)⟩)⟩)⟩)⟩)⟩)⟩)⟩)⟩)⟩)⟩)⟩)⟩)⟩)⟩)⟩)⟩)⟩)⟩)⟩)⟩)⟩)⟩)⟩)⟩)⟩)⟩)⟩)⟩)⟩)⟩)⟩)⟩)⟩)⟩)⟩)⟩)⟩)⟩)⟩)⟩)⟩)⟩)⟩)⟩)⟩)⟩)⟩)⟩)
