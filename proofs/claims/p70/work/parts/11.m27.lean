set_option maxRecDepth 100000 in
theorem zk_761_0 : zm1 zKS zuq zNS zm_761 4000 zt_761_0 = true := z1F (zdt_X5_lies) (by decide +kernel)
set_option maxRecDepth 100000 in
theorem zk_761_1 : zm1 zKS zuq zNS zm_761 4000 zt_761_1 = true := z1F (zdt_X5_lies) (by decide +kernel)
set_option maxRecDepth 100000 in
theorem zk_761_2 : zm1 zKS zuq zNS zm_761 4000 zt_761_2 = true := z1F (zdt_X5_lies) (by decide +kernel)
set_option maxRecDepth 100000 in
theorem zk_761_3 : zm1 zKS zuq zNS zm_761 4000 zt_761_3 = true := z1F (zdt_X5_lies) (by decide +kernel)
set_option maxRecDepth 100000 in
theorem zk_761_4 : zm1 zKS zuq zNS zm_761 4000 zt_761_4 = true := z1F (zdt_X5_lies) (by decide +kernel)
set_option maxRecDepth 100000 in
theorem zk_761_5 : zm1 zKS zuq zNS zm_761 4000 zt_761_5 = true := z1F (zdt_X5_lies) (by decide +kernel)
set_option maxRecDepth 100000 in
theorem zk_761_6 : zm1 zKS zuq zNS zm_761 4000 zt_761_6 = true := z1F (zdt_X5_lies) (by decide +kernel)
set_option maxRecDepth 100000 in
theorem zk_761_7 : zm1 zKS zuq zNS zm_761 4000 zt_761_7 = true := z1F (zdt_X5_lies) (by decide +kernel)
set_option maxRecDepth 100000 in
theorem zk_761_8 : zm1 zKS zuq zNS zm_761 4000 zt_761_8 = true := z1F (zdt_X5_lies) (by decide +kernel)
set_option maxRecDepth 100000 in
theorem zk_761_9 : zm1 zKS zuq zNS zm_761 4000 zt_761_9 = true := z1F (zdt_X5_lies) (by decide +kernel)
set_option maxRecDepth 100000 in
theorem zk_761_10 : zm1 zKS zuq zNS zm_761 4000 zt_761_10 = true := z1F (zdt_X5_lies) (by decide +kernel)
set_option maxRecDepth 100000 in
theorem zk_761_11 : zm1 zKS zuq zNS zm_761 4000 zt_761_11 = true := z1F (zdt_X5_lies) (by decide +kernel)
set_option maxRecDepth 100000 in
theorem zk_761_12 : zm1 zKS zuq zNS zm_761 4000 zt_761_12 = true := z1F (zdt_X5_lies) (by decide +kernel)
set_option maxRecDepth 100000 in
theorem zk_761_13 : zm1 zKS zuq zNS zm_761 4000 zt_761_13 = true := z1F (zdt_X5_lies) (by decide +kernel)
set_option maxRecDepth 100000 in
theorem zk_761_14 : zm1 zKS zuq zNS zm_761 4000 zt_761_14 = true := z1F (zdt_X5_lies) (by decide +kernel)
set_option maxRecDepth 100000 in
theorem zk_761_15 : zm1 zKS zuq zNS zm_761 4000 zt_761_15 = true := z1F (zdt_X5_lies) (by decide +kernel)
set_option maxRecDepth 100000 in
theorem zk_761_16 : zm1 zKS zuq zNS zm_761 4000 zt_761_16 = true := z1F (zdt_X5_lies) (by decide +kernel)
set_option maxRecDepth 100000 in
theorem zk_761_17 : zm1 zKS zuq zNS zm_761 4000 zt_761_17 = true := z1F (zdt_X5_lies) (by decide +kernel)
set_option maxRecDepth 100000 in
theorem zk_761_18 : zm1 zKS zuq zNS zm_761 4000 zt_761_18 = true := z1F (zdt_X5_lies) (by decide +kernel)
set_option maxRecDepth 100000 in
theorem zk_761_19 : zm1 zKS zuq zNS zm_761 4000 zt_761_19 = true := z1F (zdt_X5_lies) (by decide +kernel)
set_option maxRecDepth 100000 in
theorem zk_761_20 : zm1 zKS zuq zNS zm_761 4000 zt_761_20 = true := z1F (zdt_X5_lies) (by decide +kernel)
set_option maxRecDepth 100000 in
theorem zk_761_21 : zm1 zKS zuq zNS zm_761 4000 zt_761_21 = true := z1F (zdt_X5_lies) (by decide +kernel)
set_option maxRecDepth 100000 in
theorem zk_761_22 : zm1 zKS zuq zNS zm_761 4000 zt_761_22 = true := z1F (zdt_X5_lies) (by decide +kernel)
set_option maxRecDepth 100000 in
theorem zk_761_23 : zm1 zKS zuq zNS zm_761 4000 zt_761_23 = true := z1F (zdt_X5_lies) (by decide +kernel)
set_option maxRecDepth 100000 in
theorem zk_761_24 : zm1 zKS zuq zNS zm_761 4000 zt_761_24 = true := z1F (zdt_X5_lies) (by decide +kernel)
set_option maxRecDepth 100000 in
theorem zk_761_25 : zm1 zKS zuq zNS zm_761 4000 zt_761_25 = true := z1F (zdt_X5_lies) (by decide +kernel)
set_option maxRecDepth 100000 in
theorem zk_761_26 : zm1 zKS zuq zNS zm_761 4000 zt_761_26 = true := z1F (zdt_X5_lies) (by decide +kernel)
set_option maxRecDepth 100000 in
theorem zk_761_27 : zm1 zKS zuq zNS zm_761 4000 zt_761_27 = true := z1F (zdt_X5_lies) (by decide +kernel)
set_option maxRecDepth 100000 in
theorem zk_761_28 : zm1 zKS zuq zNS zm_761 4000 zt_761_28 = true := z1F (zdt_X5_lies) (by decide +kernel)
set_option maxRecDepth 100000 in
theorem zk_761_29 : zm1 zKS zuq zNS zm_761 4000 zt_761_29 = true := z1F (zdt_X5_lies) (by decide +kernel)
set_option maxRecDepth 100000 in
theorem zk_761_30 : zm1 zKS zuq zNS zm_761 4000 zt_761_30 = true := z1F (zdt_X5_lies) (by decide +kernel)
set_option maxRecDepth 100000 in
theorem zk_761_31 : zm1 zKS zuq zNS zm_761 4000 zt_761_31 = true := z1F (zdt_X5_lies) (by decide +kernel)
set_option maxRecDepth 100000 in
theorem zk_761_32 : zm1 zKS zuq zNS zm_761 4000 zt_761_32 = true := z1F (zdt_X5_lies) (by decide +kernel)
set_option maxRecDepth 100000 in
theorem zk_761_33 : zm1 zKS zuq zNS zm_761 4000 zt_761_33 = true := z1F (zdt_X5_lies) (by decide +kernel)
set_option maxRecDepth 100000 in
theorem zk_761_34 : zm1 zKS zuq zNS zm_761 4000 zt_761_34 = true := z1F (zdt_X5_lies) (by decide +kernel)
set_option maxRecDepth 100000 in
theorem zk_761_35 : zm1 zKS zuq zNS zm_761 4000 zt_761_35 = true := z1F (zdt_X5_lies) (by decide +kernel)
set_option maxRecDepth 100000 in
theorem zk_761_36 : zm1 zKS zuq zNS zm_761 4000 zt_761_36 = true := z1F (zdt_X5_lies) (by decide +kernel)
set_option maxRecDepth 100000 in
theorem zk_761_37 : zm1 zKS zuq zNS zm_761 4000 zt_761_37 = true := z1F (zdt_X5_lies) (by decide +kernel)
set_option maxRecDepth 100000 in
theorem zk_761_38 : zm1 zKS zuq zNS zm_761 4000 zt_761_38 = true := z1F (zdt_X5_lies) (by decide +kernel)
set_option maxRecDepth 100000 in
theorem zk_761_39 : zm1 zKS zuq zNS zm_761 4000 zt_761_39 = true := z1F (zdt_X5_lies) (by decide +kernel)
set_option maxRecDepth 100000 in
theorem zk_761_40 : zm1 zKS zuq zNS zm_761 4000 zt_761_40 = true := z1F (zdt_X5_lies) (by decide +kernel)
set_option maxRecDepth 100000 in
theorem zk_761_41 : zm1 zKS zuq zNS zm_761 4000 zt_761_41 = true := z1F (zdt_X5_lies) (by decide +kernel)
set_option maxRecDepth 100000 in
theorem zk_761_42 : zm1 zKS zuq zNS zm_761 4000 zt_761_42 = true := z1F (zdt_X5_lies) (by decide +kernel)
set_option maxRecDepth 100000 in
theorem zk_761_43 : zm1 zKS zuq zNS zm_761 4000 zt_761_43 = true := z1F (zdt_X5_lies) (by decide +kernel)
set_option maxRecDepth 100000 in
theorem zk_761_44 : zm1 zKS zuq zNS zm_761 4000 zt_761_44 = true := z1F (zdt_X5_lies) (by decide +kernel)
set_option maxRecDepth 100000 in
theorem zk_761_45 : zm1 zKS zuq zNS zm_761 4000 zt_761_45 = true := z1F (zdt_X5_lies) (by decide +kernel)
set_option maxRecDepth 100000 in
theorem zk_761_46 : zm1 zKS zuq zNS zm_761 4000 zt_761_46 = true := z1F (zdt_X5_lies) (by decide +kernel)
set_option maxRecDepth 100000 in
theorem zk_761_47 : zm1 zKS zuq zNS zm_761 4000 zt_761_47 = true := z1F (zdt_X5_lies) (by decide +kernel)
set_option maxRecDepth 100000 in
theorem zk_761_48 : zm1 zKS zuq zNS zm_761 4000 zt_761_48 = true := z1F (zdt_X5_lies) (by decide +kernel)
set_option maxRecDepth 100000 in
theorem zk_761_49 : zm1 zKS zuq zNS zm_761 4000 zt_761_49 = true := z1F (zdt_X5_lies) (by decide +kernel)
set_option maxRecDepth 100000 in
theorem zk_761_50 : zm1 zKS zuq zNS zm_761 4000 zt_761_50 = true := z1F (zdt_X5_lies) (by decide +kernel)
set_option maxRecDepth 100000 in
theorem zk_761_51 : zm1 zKS zuq zNS zm_761 4000 zt_761_51 = true := z1F (zdt_X5_lies) (by decide +kernel)
set_option maxRecDepth 100000 in
theorem zk_761_52 : zm1 zKS zuq zNS zm_761 4000 zt_761_52 = true := z1F (zdt_X5_lies) (by decide +kernel)
set_option maxRecDepth 100000 in
theorem zk_761_53 : zm1 zKS zuq zNS zm_761 4000 zt_761_53 = true := z1F (zdt_X5_lies) (by decide +kernel)
set_option maxRecDepth 100000 in
theorem zk_761_54 : zm1 zKS zuq zNS zm_761 4000 zt_761_54 = true := z1F (zdt_X5_lies) (by decide +kernel)
set_option maxRecDepth 100000 in
theorem zk_761_55 : zm1 zKS zuq zNS zm_761 4000 zt_761_55 = true := z1F (zdt_X5_lies) (by decide +kernel)
set_option maxRecDepth 100000 in
theorem zk_761_56 : zm1 zKS zuq zNS zm_761 4000 zt_761_56 = true := z1F (zdt_X5_lies) (by decide +kernel)
set_option maxRecDepth 100000 in
theorem zk_761_57 : zm1 zKS zuq zNS zm_761 4000 zt_761_57 = true := z1F (zdt_X5_lies) (by decide +kernel)
set_option maxRecDepth 100000 in
theorem zk_761_58 : zm1 zKS zuq zNS zm_761 4000 zt_761_58 = true := z1F (zdt_X5_lies) (by decide +kernel)
set_option maxRecDepth 100000 in
theorem zk_761_59 : zm1 zKS zuq zNS zm_761 4000 zt_761_59 = true := z1F (zdt_X5_lies) (by decide +kernel)
set_option maxRecDepth 100000 in
theorem zk_761_60 : zm1 zKS zuq zNS zm_761 4000 zt_761_60 = true := z1F (zdt_X5_lies) (by decide +kernel)
set_option maxRecDepth 100000 in
theorem zk_761_61 : zm1 zKS zuq zNS zm_761 4000 zt_761_61 = true := z1F (zdt_X5_lies) (by decide +kernel)
set_option maxRecDepth 100000 in
theorem zk_761_62 : zm1 zKS zuq zNS zm_761 4000 zt_761_62 = true := z1F (zdt_X5_lies) (by decide +kernel)
set_option maxRecDepth 100000 in
theorem zk_761_63 : zm1 zKS zuq zNS zm_761 4000 zt_761_63 = true := z1F (zdt_X5_lies) (by decide +kernel)
set_option maxRecDepth 100000 in
theorem zk_761_64 : zm1 zKS zuq zNS zm_761 4000 zt_761_64 = true := z1F (zdt_X5_lies) (by decide +kernel)
set_option maxRecDepth 100000 in
theorem zk_761_65 : zm1 zKS zuq zNS zm_761 4000 zt_761_65 = true := z1F (zdt_X5_lies) (by decide +kernel)
set_option maxRecDepth 100000 in
theorem zk_761_66 : zm1 zKS zuq zNS zm_761 4000 zt_761_66 = true := z1F (zdt_X5_lies) (by decide +kernel)
set_option maxRecDepth 100000 in
theorem zk_761_67 : zm1 zKS zuq zNS zm_761 4000 zt_761_67 = true := z1F (zdt_X5_lies) (by decide +kernel)
set_option maxRecDepth 100000 in
theorem zk_761_68 : zm1 zKS zuq zNS zm_761 4000 zt_761_68 = true := z1F (zdt_X5_lies) (by decide +kernel)
set_option maxRecDepth 100000 in
theorem zk_761_69 : zm1 zKS zuq zNS zm_761 4000 zt_761_69 = true := z1F (zdt_X5_lies) (by decide +kernel)
set_option maxRecDepth 100000 in
theorem zk_761_70 : zm1 zKS zuq zNS zm_761 4000 zt_761_70 = true := z1F (zdt_X5_lies) (by decide +kernel)
set_option maxRecDepth 100000 in
theorem zk_761_71 : zm1 zKS zuq zNS zm_761 4000 zt_761_71 = true := z1F (zdt_X5_lies) (by decide +kernel)
set_option maxRecDepth 100000 in
theorem zk_761_72 : zm1 zKS zuq zNS zm_761 4000 zt_761_72 = true := z1F (zdt_X5_lies) (by decide +kernel)
set_option maxRecDepth 100000 in
theorem zk_761_73 : zm1 zKS zuq zNS zm_761 4000 zt_761_73 = true := z1F (zdt_X5_lies) (by decide +kernel)
set_option maxRecDepth 100000 in
theorem zk_761_74 : zm1 zKS zuq zNS zm_761 4000 zt_761_74 = true := z1F (zdt_X5_lies) (by decide +kernel)
set_option maxRecDepth 100000 in
theorem zk_761_75 : zm1 zKS zuq zNS zm_761 4000 zt_761_75 = true := z1F (zdt_X5_lies) (by decide +kernel)
set_option maxRecDepth 100000 in
theorem zk_761_76 : zm1 zKS zuq zNS zm_761 4000 zt_761_76 = true := z1F (zdt_X5_lies) (by decide +kernel)
set_option maxRecDepth 100000 in
theorem zk_761_77 : zm1 zKS zuq zNS zm_761 4000 zt_761_77 = true := z1F (zdt_X5_lies) (by decide +kernel)
set_option maxRecDepth 100000 in
theorem zk_761_78 : zm1 zKS zuq zNS zm_761 4000 zt_761_78 = true := z1F (zdt_X5_lies) (by decide +kernel)
set_option maxRecDepth 100000 in
theorem zk_761_79 : zm1 zKS zuq zNS zm_761 4000 zt_761_79 = true := z1F (zdt_X5_lies) (by decide +kernel)
set_option maxRecDepth 100000 in
theorem zk_761_80 : zm1 zKS zuq zNS zm_761 4000 zt_761_80 = true := z1F (zdt_X5_lies) (by decide +kernel)
set_option maxRecDepth 100000 in
theorem zk_761_81 : zm1 zKS zuq zNS zm_761 4000 zt_761_81 = true := z1F (zdt_X5_lies) (by decide +kernel)
set_option maxRecDepth 100000 in
theorem zk_761_82 : zm1 zKS zuq zNS zm_761 4000 zt_761_82 = true := z1F (zdt_X5_lies) (by decide +kernel)
set_option maxRecDepth 100000 in
theorem zk_761_83 : zm1 zKS zuq zNS zm_761 4000 zt_761_83 = true := z1F (zdt_X5_lies) (by decide +kernel)
set_option maxRecDepth 100000 in
theorem zk_761_s : zm0 zKS zuq zNS zm_761 4000 = true := z0F (zdt_X5_lies) (by decide +kernel)
set_option maxRecDepth 100000 in
theorem zk_761 : zmeth zKS zuq zNS zm_761 4000 = true := zmeth_by zk_761_s (List.forall_mem_cons.mpr ⟨zk_761_0, (List.forall_mem_cons.mpr ⟨zk_761_1, (List.forall_mem_cons.mpr ⟨zk_761_2, (List.forall_mem_cons.mpr ⟨zk_761_3, (List.forall_mem_cons.mpr ⟨zk_761_4, (List.forall_mem_cons.mpr ⟨zk_761_5, (List.forall_mem_cons.mpr ⟨zk_761_6, (List.forall_mem_cons.mpr ⟨zk_761_7, (List.forall_mem_cons.mpr ⟨zk_761_8, (List.forall_mem_cons.mpr ⟨zk_761_9, (List.forall_mem_cons.mpr ⟨zk_761_10, (List.forall_mem_cons.mpr ⟨zk_761_11, (List.forall_mem_cons.mpr ⟨zk_761_12, (List.forall_mem_cons.mpr ⟨zk_761_13, (List.forall_mem_cons.mpr ⟨zk_761_14, (List.forall_mem_cons.mpr ⟨zk_761_15, (List.forall_mem_cons.mpr ⟨zk_761_16, (List.forall_mem_cons.mpr ⟨zk_761_17, (List.forall_mem_cons.mpr ⟨zk_761_18, (List.forall_mem_cons.mpr ⟨zk_761_19, (List.forall_mem_cons.mpr ⟨zk_761_20, (List.forall_mem_cons.mpr ⟨zk_761_21, (List.forall_mem_cons.mpr ⟨zk_761_22, (List.forall_mem_cons.mpr ⟨zk_761_23, (List.forall_mem_cons.mpr ⟨zk_761_24, (List.forall_mem_cons.mpr ⟨zk_761_25, (List.forall_mem_cons.mpr ⟨zk_761_26, (List.forall_mem_cons.mpr ⟨zk_761_27, (List.forall_mem_cons.mpr ⟨zk_761_28, (List.forall_mem_cons.mpr ⟨zk_761_29, (List.forall_mem_cons.mpr ⟨zk_761_30, (List.forall_mem_cons.mpr ⟨zk_761_31, (List.forall_mem_cons.mpr ⟨zk_761_32, (List.forall_mem_cons.mpr ⟨zk_761_33, (List.forall_mem_cons.mpr ⟨zk_761_34, (List.forall_mem_cons.mpr ⟨zk_761_35, (List.forall_mem_cons.mpr ⟨zk_761_36, (List.forall_mem_cons.mpr ⟨zk_761_37, (List.forall_mem_cons.mpr ⟨zk_761_38, (List.forall_mem_cons.mpr ⟨zk_761_39, (List.forall_mem_cons.mpr ⟨zk_761_40, (List.forall_mem_cons.mpr ⟨zk_761_41, (List.forall_mem_cons.mpr ⟨zk_761_42, (List.forall_mem_cons.mpr ⟨zk_761_43, (List.forall_mem_cons.mpr ⟨zk_761_44, (List.forall_mem_cons.mpr ⟨zk_761_45, (List.forall_mem_cons.mpr ⟨zk_761_46, (List.forall_mem_cons.mpr ⟨zk_761_47, (List.forall_mem_cons.mpr ⟨zk_761_48, (List.forall_mem_cons.mpr ⟨zk_761_49, (List.forall_mem_cons.mpr ⟨zk_761_50, (List.forall_mem_cons.mpr ⟨zk_761_51, (List.forall_mem_cons.mpr ⟨zk_761_52, (List.forall_mem_cons.mpr ⟨zk_761_53, (List.forall_mem_cons.mpr ⟨zk_761_54, (List.forall_mem_cons.mpr ⟨zk_761_55, (List.forall_mem_cons.mpr ⟨zk_761_56, (List.forall_mem_cons.mpr ⟨zk_761_57, (List.forall_mem_cons.mpr ⟨zk_761_58, (List.forall_mem_cons.mpr ⟨zk_761_59, (List.forall_mem_cons.mpr ⟨zk_761_60, (List.forall_mem_cons.mpr ⟨zk_761_61, (List.forall_mem_cons.mpr ⟨zk_761_62, (List.forall_mem_cons.mpr ⟨zk_761_63, (List.forall_mem_cons.mpr ⟨zk_761_64, (List.forall_mem_cons.mpr ⟨zk_761_65, (List.forall_mem_cons.mpr ⟨zk_761_66, (List.forall_mem_cons.mpr ⟨zk_761_67, (List.forall_mem_cons.mpr ⟨zk_761_68, (List.forall_mem_cons.mpr ⟨zk_761_69, (List.forall_mem_cons.mpr ⟨zk_761_70, (List.forall_mem_cons.mpr ⟨zk_761_71, (List.forall_mem_cons.mpr ⟨zk_761_72, (List.forall_mem_cons.mpr ⟨zk_761_73, (List.forall_mem_cons.mpr ⟨zk_761_74, (List.forall_mem_cons.mpr ⟨zk_761_75, (List.forall_mem_cons.mpr ⟨zk_761_76, (List.forall_mem_cons.mpr ⟨zk_761_77, (List.forall_mem_cons.mpr ⟨zk_761_78, (List.forall_mem_cons.mpr ⟨zk_761_79, (List.forall_mem_cons.mpr ⟨zk_761_80, (List.forall_mem_cons.mpr ⟨zk_761_81, (List.forall_mem_cons.mpr ⟨zk_761_82, (List.forall_mem_cons.mpr ⟨zk_761_83, nilz⟩)⟩)⟩)⟩)⟩)⟩)⟩)⟩)⟩)⟩)⟩)⟩)⟩)⟩)⟩)⟩)⟩)⟩)⟩)⟩)⟩)⟩)⟩)⟩)⟩)⟩)⟩)⟩)⟩)⟩)⟩)⟩)⟩)⟩)⟩)⟩)⟩)⟩)⟩)⟩)⟩)⟩)⟩)⟩)⟩)⟩)⟩)⟩)⟩)⟩)⟩)⟩)⟩)⟩)⟩)⟩)⟩)⟩)⟩)⟩)⟩)⟩)⟩)⟩)⟩)⟩)⟩)⟩)⟩)⟩)⟩)⟩)⟩)⟩)⟩)⟩)⟩)⟩)⟩)⟩)⟩)⟩)⟩)⟩)
set_option maxRecDepth 100000 in
theorem zM_761 {l : Launch} {D : va_G} {cI cZ cB cJ cR : ClassId} {ks ad : List Nat} {Psi : va_W → Prop} (hw : zworld ks ad zuq zNS Psi) (hm : zMan l D cI cZ cB cJ cR ks ad Psi) : zMet l D cI cZ cB cJ cR zKS ks ad Psi yX5_lies (.code yX5_lies cX5_lies 5 (some .int)) 3 zc_761 :=
  zmet_of hw 3 (by decide) 4000 zk_761 (by decide) (by decide) (fun X => ⟨zg_RX5 X, zp_RX5 X, zl1_RX5 X, zl2_RX5 X, nilz, (List.forall_mem_cons.mpr ⟨zq_RX5_247 X (zM_777 hw hm) (by decide) rfl rfl, (List.forall_mem_cons.mpr ⟨zq_RX5_247 X (zM_778 hw hm) (by decide) rfl rfl, (List.forall_mem_cons.mpr ⟨zq_RX5_247 X (zM_779 hw hm) (by decide) rfl rfl, (List.forall_mem_cons.mpr ⟨zq_RX5_247 X (zM_780 hw hm) (by decide) rfl rfl, (List.forall_mem_cons.mpr ⟨zq_RX5_247 X (zM_781 hw hm) (by decide) rfl rfl, (List.forall_mem_cons.mpr ⟨zq_RX5_247 X (zM_776 hw hm) (by decide) rfl rfl, (List.forall_mem_cons.mpr ⟨zq_RX5_250 X (zM_601 hw hm) (by decide) rfl rfl, (List.forall_mem_cons.mpr ⟨zq_RX5_250 X (zM_603 hw hm) (by decide) rfl rfl, (List.forall_mem_cons.mpr ⟨zq_RX5_250 X (zM_604 hw hm) (by decide) rfl rfl, (List.forall_mem_cons.mpr ⟨zq_RX5_250 X (zM_605 hw hm) (by decide) rfl rfl, (List.forall_mem_cons.mpr ⟨zq_RX5_253 X (zM_677 hw hm) (by decide) rfl rfl, (List.forall_mem_cons.mpr ⟨zq_RX5_253 X (zM_678 hw hm) (by decide) rfl rfl, (List.forall_mem_cons.mpr ⟨zq_RX5_253 X (zM_679 hw hm) (by decide) rfl rfl, (List.forall_mem_cons.mpr ⟨zq_RX5_253 X (zM_680 hw hm) (by decide) rfl rfl, (List.forall_mem_cons.mpr ⟨zq_RX5_253 X (zM_681 hw hm) (by decide) rfl rfl, (List.forall_mem_cons.mpr ⟨zq_RX5_253 X (zM_682 hw hm) (by decide) rfl rfl, (List.forall_mem_cons.mpr ⟨zq_RX5_253 X (zM_683 hw hm) (by decide) rfl rfl, (List.forall_mem_cons.mpr ⟨zq_RX5_253 X (zM_684 hw hm) (by decide) rfl rfl, (List.forall_mem_cons.mpr ⟨zq_RX5_253 X (zM_685 hw hm) (by decide) rfl rfl, (List.forall_mem_cons.mpr ⟨zq_RX5_253 X (zM_686 hw hm) (by decide) rfl rfl, (List.forall_mem_cons.mpr ⟨zq_RX5_253 X (zM_687 hw hm) (by decide) rfl rfl, (List.forall_mem_cons.mpr ⟨zq_RX5_253 X (zM_688 hw hm) (by decide) rfl rfl, (List.forall_mem_cons.mpr ⟨zq_RX5_253 X (zM_689 hw hm) (by decide) rfl rfl, (List.forall_mem_cons.mpr ⟨zq_RX5_253 X (zM_690 hw hm) (by decide) rfl rfl, (List.forall_mem_cons.mpr ⟨zq_RX5_253 X (zM_691 hw hm) (by decide) rfl rfl, (List.forall_mem_cons.mpr ⟨zq_RX5_253 X (zM_692 hw hm) (by decide) rfl rfl, (List.forall_mem_cons.mpr ⟨zq_RX5_253 X (zM_693 hw hm) (by decide) rfl rfl, (List.forall_mem_cons.mpr ⟨zq_RX5_253 X (zM_694 hw hm) (by decide) rfl rfl, (List.forall_mem_cons.mpr ⟨zq_RX5_253 X (zM_695 hw hm) (by decide) rfl rfl, (List.forall_mem_cons.mpr ⟨zq_RX5_253 X (zM_696 hw hm) (by decide) rfl rfl, (List.forall_mem_cons.mpr ⟨zq_RX5_253 X (zM_697 hw hm) (by decide) rfl rfl, (List.forall_mem_cons.mpr ⟨zq_RX5_253 X (zM_698 hw hm) (by decide) rfl rfl, (List.forall_mem_cons.mpr ⟨zq_RX5_253 X (zM_699 hw hm) (by decide) rfl rfl, (List.forall_mem_cons.mpr ⟨zq_RX5_253 X (zM_700 hw hm) (by decide) rfl rfl, (List.forall_mem_cons.mpr ⟨zq_RX5_253 X (zM_701 hw hm) (by decide) rfl rfl, (List.forall_mem_cons.mpr ⟨zq_RX5_253 X (zM_702 hw hm) (by decide) rfl rfl, (List.forall_mem_cons.mpr ⟨zq_RX5_253 X (zM_703 hw hm) (by decide) rfl rfl, (List.forall_mem_cons.mpr ⟨zq_RX5_253 X (zM_704 hw hm) (by decide) rfl rfl, (List.forall_mem_cons.mpr ⟨zq_RX5_253 X (zM_705 hw hm) (by decide) rfl rfl, (List.forall_mem_cons.mpr ⟨zq_RX5_253 X (zM_706 hw hm) (by decide) rfl rfl, (List.forall_mem_cons.mpr ⟨zq_RX5_253 X (zM_707 hw hm) (by decide) rfl rfl, (List.forall_mem_cons.mpr ⟨zq_RX5_253 X (zM_708 hw hm) (by decide) rfl rfl, (List.forall_mem_cons.mpr ⟨zq_RX5_253 X (zM_709 hw hm) (by decide) rfl rfl, (List.forall_mem_cons.mpr ⟨zq_RX5_253 X (zM_710 hw hm) (by decide) rfl rfl, (List.forall_mem_cons.mpr ⟨zq_RX5_253 X (zM_711 hw hm) (by decide) rfl rfl, (List.forall_mem_cons.mpr ⟨zq_RX5_253 X (zM_712 hw hm) (by decide) rfl rfl, (List.forall_mem_cons.mpr ⟨zq_RX5_253 X (zM_713 hw hm) (by decide) rfl rfl, (List.forall_mem_cons.mpr ⟨zq_RX5_253 X (zM_714 hw hm) (by decide) rfl rfl, (List.forall_mem_cons.mpr ⟨zq_RX5_253 X (zM_715 hw hm) (by decide) rfl rfl, (List.forall_mem_cons.mpr ⟨zq_RX5_253 X (zM_716 hw hm) (by decide) rfl rfl, (List.forall_mem_cons.mpr ⟨zq_RX5_253 X (zM_717 hw hm) (by decide) rfl rfl, (List.forall_mem_cons.mpr ⟨zq_RX5_253 X (zM_718 hw hm) (by decide) rfl rfl, (List.forall_mem_cons.mpr ⟨zq_RX5_253 X (zM_719 hw hm) (by decide) rfl rfl, (List.forall_mem_cons.mpr ⟨zq_RX5_253 X (zM_720 hw hm) (by decide) rfl rfl, (List.forall_mem_cons.mpr ⟨zq_RX5_253 X (zM_721 hw hm) (by decide) rfl rfl, (List.forall_mem_cons.mpr ⟨zq_RX5_253 X (zM_722 hw hm) (by decide) rfl rfl, (List.forall_mem_cons.mpr ⟨zq_RX5_253 X (zM_723 hw hm) (by decide) rfl rfl, (List.forall_mem_cons.mpr ⟨zq_RX5_253 X (zM_724 hw hm) (by decide) rfl rfl, (List.forall_mem_cons.mpr ⟨zq_RX5_253 X (zM_725 hw hm) (by decide) rfl rfl, (List.forall_mem_cons.mpr ⟨zq_RX5_253 X (zM_726 hw hm) (by decide) rfl rfl, (List.forall_mem_cons.mpr ⟨zq_RX5_253 X (zM_727 hw hm) (by decide) rfl rfl, (List.forall_mem_cons.mpr ⟨zq_RX5_253 X (zM_728 hw hm) (by decide) rfl rfl, (List.forall_mem_cons.mpr ⟨zq_RX5_253 X (zM_729 hw hm) (by decide) rfl rfl, (List.forall_mem_cons.mpr ⟨zq_RX5_253 X (zM_730 hw hm) (by decide) rfl rfl, (List.forall_mem_cons.mpr ⟨zq_RX5_253 X (zM_731 hw hm) (by decide) rfl rfl, (List.forall_mem_cons.mpr ⟨zq_RX5_253 X (zM_732 hw hm) (by decide) rfl rfl, (List.forall_mem_cons.mpr ⟨zq_RX5_253 X (zM_733 hw hm) (by decide) rfl rfl, (List.forall_mem_cons.mpr ⟨zq_RX5_253 X (zM_734 hw hm) (by decide) rfl rfl, (List.forall_mem_cons.mpr ⟨zq_RX5_253 X (zM_735 hw hm) (by decide) rfl rfl, (List.forall_mem_cons.mpr ⟨zq_RX5_253 X (zM_736 hw hm) (by decide) rfl rfl, (List.forall_mem_cons.mpr ⟨zq_RX5_253 X (zM_737 hw hm) (by decide) rfl rfl, (List.forall_mem_cons.mpr ⟨zq_RX5_253 X (zM_738 hw hm) (by decide) rfl rfl, (List.forall_mem_cons.mpr ⟨zq_RX5_253 X (zM_739 hw hm) (by decide) rfl rfl, (List.forall_mem_cons.mpr ⟨zq_RX5_253 X (zM_740 hw hm) (by decide) rfl rfl, (List.forall_mem_cons.mpr ⟨zq_RX5_253 X (zM_741 hw hm) (by decide) rfl rfl, (List.forall_mem_cons.mpr ⟨zq_RX5_253 X (zM_742 hw hm) (by decide) rfl rfl, (List.forall_mem_cons.mpr ⟨zq_RX5_253 X (zM_743 hw hm) (by decide) rfl rfl, (List.forall_mem_cons.mpr ⟨zq_RX5_253 X (zM_744 hw hm) (by decide) rfl rfl, (List.forall_mem_cons.mpr ⟨zq_RX5_253 X (zM_745 hw hm) (by decide) rfl rfl, (List.forall_mem_cons.mpr ⟨zq_RX5_253 X (zM_746 hw hm) (by decide) rfl rfl, (List.forall_mem_cons.mpr ⟨zq_RX5_253 X (zM_747 hw hm) (by decide) rfl rfl, (List.forall_mem_cons.mpr ⟨zq_RX5_253 X (zM_748 hw hm) (by decide) rfl rfl, (List.forall_mem_cons.mpr ⟨zq_RX5_253 X (zM_749 hw hm) (by decide) rfl rfl, (List.forall_mem_cons.mpr ⟨zq_RX5_253 X (zM_750 hw hm) (by decide) rfl rfl, (List.forall_mem_cons.mpr ⟨zq_RX5_253 X (zM_751 hw hm) (by decide) rfl rfl, (List.forall_mem_cons.mpr ⟨zq_RX5_253 X (zM_752 hw hm) (by decide) rfl rfl, (List.forall_mem_cons.mpr ⟨zq_RX5_253 X (zM_753 hw hm) (by decide) rfl rfl, (List.forall_mem_cons.mpr ⟨zq_RX5_253 X (zM_754 hw hm) (by decide) rfl rfl, (List.forall_mem_cons.mpr ⟨zq_RX5_253 X (zM_755 hw hm) (by decide) rfl rfl, (List.forall_mem_cons.mpr ⟨zq_RX5_253 X (zM_756 hw hm) (by decide) rfl rfl, nilz⟩)⟩)⟩)⟩)⟩)⟩)⟩)⟩)⟩)⟩)⟩)⟩)⟩)⟩)⟩)⟩)⟩)⟩)⟩)⟩)⟩)⟩)⟩)⟩)⟩)⟩)⟩)⟩)⟩)⟩)⟩)⟩)⟩)⟩)⟩)⟩)⟩)⟩)⟩)⟩)⟩)⟩)⟩)⟩)⟩)⟩)⟩)⟩)⟩)⟩)⟩)⟩)⟩)⟩)⟩)⟩)⟩)⟩)⟩)⟩)⟩)⟩)⟩)⟩)⟩)⟩)⟩)⟩)⟩)⟩)⟩)⟩)⟩)⟩)⟩)⟩)⟩)⟩)⟩)⟩)⟩)⟩)⟩)⟩)⟩)⟩)⟩)⟩)⟩)⟩)⟩)
