set_option maxRecDepth 100000 in
theorem zk_850_0 : zm1 zKS zuq zNS zm_850 4000 zt_850_0 = true := z1F (zdt_X6_closed) (by decide +kernel)
set_option maxRecDepth 100000 in
theorem zk_850_1 : zm1 zKS zuq zNS zm_850 4000 zt_850_1 = true := z1F (zdt_X6_closed) (by decide +kernel)
set_option maxRecDepth 100000 in
theorem zk_850_2 : zm1 zKS zuq zNS zm_850 4000 zt_850_2 = true := z1F (zdt_X6_closed) (by decide +kernel)
set_option maxRecDepth 100000 in
theorem zk_850_3 : zm1 zKS zuq zNS zm_850 4000 zt_850_3 = true := z1F (zdt_X6_closed) (by decide +kernel)
set_option maxRecDepth 100000 in
theorem zk_850_4 : zm1 zKS zuq zNS zm_850 4000 zt_850_4 = true := z1F (zdt_X6_closed) (by decide +kernel)
set_option maxRecDepth 100000 in
theorem zk_850_5 : zm1 zKS zuq zNS zm_850 4000 zt_850_5 = true := z1F (zdt_X6_closed) (by decide +kernel)
set_option maxRecDepth 100000 in
theorem zk_850_6 : zm1 zKS zuq zNS zm_850 4000 zt_850_6 = true := z1F (zdt_X6_closed) (by decide +kernel)
set_option maxRecDepth 100000 in
theorem zk_850_7 : zm1 zKS zuq zNS zm_850 4000 zt_850_7 = true := z1F (zdt_X6_closed) (by decide +kernel)
set_option maxRecDepth 100000 in
theorem zk_850_8 : zm1 zKS zuq zNS zm_850 4000 zt_850_8 = true := z1F (zdt_X6_closed) (by decide +kernel)
set_option maxRecDepth 100000 in
theorem zk_850_9 : zm1 zKS zuq zNS zm_850 4000 zt_850_9 = true := z1F (zdt_X6_closed) (by decide +kernel)
set_option maxRecDepth 100000 in
theorem zk_850_10 : zm1 zKS zuq zNS zm_850 4000 zt_850_10 = true := z1F (zdt_X6_closed) (by decide +kernel)
set_option maxRecDepth 100000 in
theorem zk_850_11 : zm1 zKS zuq zNS zm_850 4000 zt_850_11 = true := z1F (zdt_X6_closed) (by decide +kernel)
set_option maxRecDepth 100000 in
theorem zk_850_12 : zm1 zKS zuq zNS zm_850 4000 zt_850_12 = true := z1F (zdt_X6_closed) (by decide +kernel)
set_option maxRecDepth 100000 in
theorem zk_850_13 : zm1 zKS zuq zNS zm_850 4000 zt_850_13 = true := z1F (zdt_X6_closed) (by decide +kernel)
set_option maxRecDepth 100000 in
theorem zk_850_14 : zm1 zKS zuq zNS zm_850 4000 zt_850_14 = true := z1F (zdt_X6_closed) (by decide +kernel)
set_option maxRecDepth 100000 in
theorem zk_850_15 : zm1 zKS zuq zNS zm_850 4000 zt_850_15 = true := z1F (zdt_X6_closed) (by decide +kernel)
set_option maxRecDepth 100000 in
theorem zk_850_16 : zm1 zKS zuq zNS zm_850 4000 zt_850_16 = true := z1F (zdt_X6_closed) (by decide +kernel)
set_option maxRecDepth 100000 in
theorem zk_850_17 : zm1 zKS zuq zNS zm_850 4000 zt_850_17 = true := z1F (zdt_X6_closed) (by decide +kernel)
set_option maxRecDepth 100000 in
theorem zk_850_18 : zm1 zKS zuq zNS zm_850 4000 zt_850_18 = true := z1F (zdt_X6_closed) (by decide +kernel)
set_option maxRecDepth 100000 in
theorem zk_850_19 : zm1 zKS zuq zNS zm_850 4000 zt_850_19 = true := z1F (zdt_X6_closed) (by decide +kernel)
set_option maxRecDepth 100000 in
theorem zk_850_20 : zm1 zKS zuq zNS zm_850 4000 zt_850_20 = true := z1F (zdt_X6_closed) (by decide +kernel)
set_option maxRecDepth 100000 in
theorem zk_850_21 : zm1 zKS zuq zNS zm_850 4000 zt_850_21 = true := z1F (zdt_X6_closed) (by decide +kernel)
set_option maxRecDepth 100000 in
theorem zk_850_22 : zm1 zKS zuq zNS zm_850 4000 zt_850_22 = true := z1F (zdt_X6_closed) (by decide +kernel)
set_option maxRecDepth 100000 in
theorem zk_850_23 : zm1 zKS zuq zNS zm_850 4000 zt_850_23 = true := z1F (zdt_X6_closed) (by decide +kernel)
set_option maxRecDepth 100000 in
theorem zk_850_24 : zm1 zKS zuq zNS zm_850 4000 zt_850_24 = true := z1F (zdt_X6_closed) (by decide +kernel)
set_option maxRecDepth 100000 in
theorem zk_850_25 : zm1 zKS zuq zNS zm_850 4000 zt_850_25 = true := z1F (zdt_X6_closed) (by decide +kernel)
set_option maxRecDepth 100000 in
theorem zk_850_26 : zm1 zKS zuq zNS zm_850 4000 zt_850_26 = true := z1F (zdt_X6_closed) (by decide +kernel)
set_option maxRecDepth 100000 in
theorem zk_850_27 : zm1 zKS zuq zNS zm_850 4000 zt_850_27 = true := z1F (zdt_X6_closed) (by decide +kernel)
set_option maxRecDepth 100000 in
theorem zk_850_28 : zm1 zKS zuq zNS zm_850 4000 zt_850_28 = true := z1F (zdt_X6_closed) (by decide +kernel)
set_option maxRecDepth 100000 in
theorem zk_850_29 : zm1 zKS zuq zNS zm_850 4000 zt_850_29 = true := z1F (zdt_X6_closed) (by decide +kernel)
set_option maxRecDepth 100000 in
theorem zk_850_30 : zm1 zKS zuq zNS zm_850 4000 zt_850_30 = true := z1F (zdt_X6_closed) (by decide +kernel)
set_option maxRecDepth 100000 in
theorem zk_850_31 : zm1 zKS zuq zNS zm_850 4000 zt_850_31 = true := z1F (zdt_X6_closed) (by decide +kernel)
set_option maxRecDepth 100000 in
theorem zk_850_32 : zm1 zKS zuq zNS zm_850 4000 zt_850_32 = true := z1F (zdt_X6_closed) (by decide +kernel)
set_option maxRecDepth 100000 in
theorem zk_850_33 : zm1 zKS zuq zNS zm_850 4000 zt_850_33 = true := z1F (zdt_X6_closed) (by decide +kernel)
set_option maxRecDepth 100000 in
theorem zk_850_34 : zm1 zKS zuq zNS zm_850 4000 zt_850_34 = true := z1F (zdt_X6_closed) (by decide +kernel)
set_option maxRecDepth 100000 in
theorem zk_850_35 : zm1 zKS zuq zNS zm_850 4000 zt_850_35 = true := z1F (zdt_X6_closed) (by decide +kernel)
set_option maxRecDepth 100000 in
theorem zk_850_36 : zm1 zKS zuq zNS zm_850 4000 zt_850_36 = true := z1F (zdt_X6_closed) (by decide +kernel)
set_option maxRecDepth 100000 in
theorem zk_850_37 : zm1 zKS zuq zNS zm_850 4000 zt_850_37 = true := z1F (zdt_X6_closed) (by decide +kernel)
set_option maxRecDepth 100000 in
theorem zk_850_38 : zm1 zKS zuq zNS zm_850 4000 zt_850_38 = true := z1F (zdt_X6_closed) (by decide +kernel)
set_option maxRecDepth 100000 in
theorem zk_850_39 : zm1 zKS zuq zNS zm_850 4000 zt_850_39 = true := z1F (zdt_X6_closed) (by decide +kernel)
set_option maxRecDepth 100000 in
theorem zk_850_40 : zm1 zKS zuq zNS zm_850 4000 zt_850_40 = true := z1F (zdt_X6_closed) (by decide +kernel)
set_option maxRecDepth 100000 in
theorem zk_850_41 : zm1 zKS zuq zNS zm_850 4000 zt_850_41 = true := z1F (zdt_X6_closed) (by decide +kernel)
set_option maxRecDepth 100000 in
theorem zk_850_42 : zm1 zKS zuq zNS zm_850 4000 zt_850_42 = true := z1F (zdt_X6_closed) (by decide +kernel)
set_option maxRecDepth 100000 in
theorem zk_850_43 : zm1 zKS zuq zNS zm_850 4000 zt_850_43 = true := z1F (zdt_X6_closed) (by decide +kernel)
set_option maxRecDepth 100000 in
theorem zk_850_44 : zm1 zKS zuq zNS zm_850 4000 zt_850_44 = true := z1F (zdt_X6_closed) (by decide +kernel)
set_option maxRecDepth 100000 in
theorem zk_850_45 : zm1 zKS zuq zNS zm_850 4000 zt_850_45 = true := z1F (zdt_X6_closed) (by decide +kernel)
set_option maxRecDepth 100000 in
theorem zk_850_46 : zm1 zKS zuq zNS zm_850 4000 zt_850_46 = true := z1F (zdt_X6_closed) (by decide +kernel)
set_option maxRecDepth 100000 in
theorem zk_850_47 : zm1 zKS zuq zNS zm_850 4000 zt_850_47 = true := z1F (zdt_X6_closed) (by decide +kernel)
set_option maxRecDepth 100000 in
theorem zk_850_48 : zm1 zKS zuq zNS zm_850 4000 zt_850_48 = true := z1F (zdt_X6_closed) (by decide +kernel)
set_option maxRecDepth 100000 in
theorem zk_850_49 : zm1 zKS zuq zNS zm_850 4000 zt_850_49 = true := z1F (zdt_X6_closed) (by decide +kernel)
set_option maxRecDepth 100000 in
theorem zk_850_50 : zm1 zKS zuq zNS zm_850 4000 zt_850_50 = true := z1F (zdt_X6_closed) (by decide +kernel)
set_option maxRecDepth 100000 in
theorem zk_850_51 : zm1 zKS zuq zNS zm_850 4000 zt_850_51 = true := z1F (zdt_X6_closed) (by decide +kernel)
set_option maxRecDepth 100000 in
theorem zk_850_52 : zm1 zKS zuq zNS zm_850 4000 zt_850_52 = true := z1F (zdt_X6_closed) (by decide +kernel)
set_option maxRecDepth 100000 in
theorem zk_850_53 : zm1 zKS zuq zNS zm_850 4000 zt_850_53 = true := z1F (zdt_X6_closed) (by decide +kernel)
set_option maxRecDepth 100000 in
theorem zk_850_54 : zm1 zKS zuq zNS zm_850 4000 zt_850_54 = true := z1F (zdt_X6_closed) (by decide +kernel)
set_option maxRecDepth 100000 in
theorem zk_850_55 : zm1 zKS zuq zNS zm_850 4000 zt_850_55 = true := z1F (zdt_X6_closed) (by decide +kernel)
set_option maxRecDepth 100000 in
theorem zk_850_56 : zm1 zKS zuq zNS zm_850 4000 zt_850_56 = true := z1F (zdt_X6_closed) (by decide +kernel)
set_option maxRecDepth 100000 in
theorem zk_850_57 : zm1 zKS zuq zNS zm_850 4000 zt_850_57 = true := z1F (zdt_X6_closed) (by decide +kernel)
set_option maxRecDepth 100000 in
theorem zk_850_58 : zm1 zKS zuq zNS zm_850 4000 zt_850_58 = true := z1F (zdt_X6_closed) (by decide +kernel)
set_option maxRecDepth 100000 in
theorem zk_850_59 : zm1 zKS zuq zNS zm_850 4000 zt_850_59 = true := z1F (zdt_X6_closed) (by decide +kernel)
set_option maxRecDepth 100000 in
theorem zk_850_60 : zm1 zKS zuq zNS zm_850 4000 zt_850_60 = true := z1F (zdt_X6_closed) (by decide +kernel)
set_option maxRecDepth 100000 in
theorem zk_850_61 : zm1 zKS zuq zNS zm_850 4000 zt_850_61 = true := z1F (zdt_X6_closed) (by decide +kernel)
set_option maxRecDepth 100000 in
theorem zk_850_62 : zm1 zKS zuq zNS zm_850 4000 zt_850_62 = true := z1F (zdt_X6_closed) (by decide +kernel)
set_option maxRecDepth 100000 in
theorem zk_850_63 : zm1 zKS zuq zNS zm_850 4000 zt_850_63 = true := z1F (zdt_X6_closed) (by decide +kernel)
set_option maxRecDepth 100000 in
theorem zk_850_64 : zm1 zKS zuq zNS zm_850 4000 zt_850_64 = true := z1F (zdt_X6_closed) (by decide +kernel)
set_option maxRecDepth 100000 in
theorem zk_850_65 : zm1 zKS zuq zNS zm_850 4000 zt_850_65 = true := z1F (zdt_X6_closed) (by decide +kernel)
set_option maxRecDepth 100000 in
theorem zk_850_66 : zm1 zKS zuq zNS zm_850 4000 zt_850_66 = true := z1F (zdt_X6_closed) (by decide +kernel)
set_option maxRecDepth 100000 in
theorem zk_850_67 : zm1 zKS zuq zNS zm_850 4000 zt_850_67 = true := z1F (zdt_X6_closed) (by decide +kernel)
set_option maxRecDepth 100000 in
theorem zk_850_68 : zm1 zKS zuq zNS zm_850 4000 zt_850_68 = true := z1F (zdt_X6_closed) (by decide +kernel)
set_option maxRecDepth 100000 in
theorem zk_850_69 : zm1 zKS zuq zNS zm_850 4000 zt_850_69 = true := z1F (zdt_X6_closed) (by decide +kernel)
set_option maxRecDepth 100000 in
theorem zk_850_70 : zm1 zKS zuq zNS zm_850 4000 zt_850_70 = true := z1F (zdt_X6_closed) (by decide +kernel)
set_option maxRecDepth 100000 in
theorem zk_850_71 : zm1 zKS zuq zNS zm_850 4000 zt_850_71 = true := z1F (zdt_X6_closed) (by decide +kernel)
set_option maxRecDepth 100000 in
theorem zk_850_72 : zm1 zKS zuq zNS zm_850 4000 zt_850_72 = true := z1F (zdt_X6_closed) (by decide +kernel)
set_option maxRecDepth 100000 in
theorem zk_850_73 : zm1 zKS zuq zNS zm_850 4000 zt_850_73 = true := z1F (zdt_X6_closed) (by decide +kernel)
set_option maxRecDepth 100000 in
theorem zk_850_74 : zm1 zKS zuq zNS zm_850 4000 zt_850_74 = true := z1F (zdt_X6_closed) (by decide +kernel)
set_option maxRecDepth 100000 in
theorem zk_850_75 : zm1 zKS zuq zNS zm_850 4000 zt_850_75 = true := z1F (zdt_X6_closed) (by decide +kernel)
set_option maxRecDepth 100000 in
theorem zk_850_76 : zm1 zKS zuq zNS zm_850 4000 zt_850_76 = true := z1F (zdt_X6_closed) (by decide +kernel)
set_option maxRecDepth 100000 in
theorem zk_850_77 : zm1 zKS zuq zNS zm_850 4000 zt_850_77 = true := z1F (zdt_X6_closed) (by decide +kernel)
set_option maxRecDepth 100000 in
theorem zk_850_78 : zm1 zKS zuq zNS zm_850 4000 zt_850_78 = true := z1F (zdt_X6_closed) (by decide +kernel)
set_option maxRecDepth 100000 in
theorem zk_850_79 : zm1 zKS zuq zNS zm_850 4000 zt_850_79 = true := z1F (zdt_X6_closed) (by decide +kernel)
set_option maxRecDepth 100000 in
theorem zk_850_80 : zm1 zKS zuq zNS zm_850 4000 zt_850_80 = true := z1F (zdt_X6_closed) (by decide +kernel)
set_option maxRecDepth 100000 in
theorem zk_850_81 : zm1 zKS zuq zNS zm_850 4000 zt_850_81 = true := z1F (zdt_X6_closed) (by decide +kernel)
set_option maxRecDepth 100000 in
theorem zk_850_82 : zm1 zKS zuq zNS zm_850 4000 zt_850_82 = true := z1F (zdt_X6_closed) (by decide +kernel)
set_option maxRecDepth 100000 in
theorem zk_850_83 : zm1 zKS zuq zNS zm_850 4000 zt_850_83 = true := z1F (zdt_X6_closed) (by decide +kernel)
set_option maxRecDepth 100000 in
theorem zk_850_s : zm0 zKS zuq zNS zm_850 4000 = true := z0F (zdt_X6_closed) (by decide +kernel)
set_option maxRecDepth 100000 in
theorem zk_850 : zmeth zKS zuq zNS zm_850 4000 = true := zmeth_by zk_850_s (List.forall_mem_cons.mpr ⟨zk_850_0, (List.forall_mem_cons.mpr ⟨zk_850_1, (List.forall_mem_cons.mpr ⟨zk_850_2, (List.forall_mem_cons.mpr ⟨zk_850_3, (List.forall_mem_cons.mpr ⟨zk_850_4, (List.forall_mem_cons.mpr ⟨zk_850_5, (List.forall_mem_cons.mpr ⟨zk_850_6, (List.forall_mem_cons.mpr ⟨zk_850_7, (List.forall_mem_cons.mpr ⟨zk_850_8, (List.forall_mem_cons.mpr ⟨zk_850_9, (List.forall_mem_cons.mpr ⟨zk_850_10, (List.forall_mem_cons.mpr ⟨zk_850_11, (List.forall_mem_cons.mpr ⟨zk_850_12, (List.forall_mem_cons.mpr ⟨zk_850_13, (List.forall_mem_cons.mpr ⟨zk_850_14, (List.forall_mem_cons.mpr ⟨zk_850_15, (List.forall_mem_cons.mpr ⟨zk_850_16, (List.forall_mem_cons.mpr ⟨zk_850_17, (List.forall_mem_cons.mpr ⟨zk_850_18, (List.forall_mem_cons.mpr ⟨zk_850_19, (List.forall_mem_cons.mpr ⟨zk_850_20, (List.forall_mem_cons.mpr ⟨zk_850_21, (List.forall_mem_cons.mpr ⟨zk_850_22, (List.forall_mem_cons.mpr ⟨zk_850_23, (List.forall_mem_cons.mpr ⟨zk_850_24, (List.forall_mem_cons.mpr ⟨zk_850_25, (List.forall_mem_cons.mpr ⟨zk_850_26, (List.forall_mem_cons.mpr ⟨zk_850_27, (List.forall_mem_cons.mpr ⟨zk_850_28, (List.forall_mem_cons.mpr ⟨zk_850_29, (List.forall_mem_cons.mpr ⟨zk_850_30, (List.forall_mem_cons.mpr ⟨zk_850_31, (List.forall_mem_cons.mpr ⟨zk_850_32, (List.forall_mem_cons.mpr ⟨zk_850_33, (List.forall_mem_cons.mpr ⟨zk_850_34, (List.forall_mem_cons.mpr ⟨zk_850_35, (List.forall_mem_cons.mpr ⟨zk_850_36, (List.forall_mem_cons.mpr ⟨zk_850_37, (List.forall_mem_cons.mpr ⟨zk_850_38, (List.forall_mem_cons.mpr ⟨zk_850_39, (List.forall_mem_cons.mpr ⟨zk_850_40, (List.forall_mem_cons.mpr ⟨zk_850_41, (List.forall_mem_cons.mpr ⟨zk_850_42, (List.forall_mem_cons.mpr ⟨zk_850_43, (List.forall_mem_cons.mpr ⟨zk_850_44, (List.forall_mem_cons.mpr ⟨zk_850_45, (List.forall_mem_cons.mpr ⟨zk_850_46, (List.forall_mem_cons.mpr ⟨zk_850_47, (List.forall_mem_cons.mpr ⟨zk_850_48, (List.forall_mem_cons.mpr ⟨zk_850_49, (List.forall_mem_cons.mpr ⟨zk_850_50, (List.forall_mem_cons.mpr ⟨zk_850_51, (List.forall_mem_cons.mpr ⟨zk_850_52, (List.forall_mem_cons.mpr ⟨zk_850_53, (List.forall_mem_cons.mpr ⟨zk_850_54, (List.forall_mem_cons.mpr ⟨zk_850_55, (List.forall_mem_cons.mpr ⟨zk_850_56, (List.forall_mem_cons.mpr ⟨zk_850_57, (List.forall_mem_cons.mpr ⟨zk_850_58, (List.forall_mem_cons.mpr ⟨zk_850_59, (List.forall_mem_cons.mpr ⟨zk_850_60, (List.forall_mem_cons.mpr ⟨zk_850_61, (List.forall_mem_cons.mpr ⟨zk_850_62, (List.forall_mem_cons.mpr ⟨zk_850_63, (List.forall_mem_cons.mpr ⟨zk_850_64, (List.forall_mem_cons.mpr ⟨zk_850_65, (List.forall_mem_cons.mpr ⟨zk_850_66, (List.forall_mem_cons.mpr ⟨zk_850_67, (List.forall_mem_cons.mpr ⟨zk_850_68, (List.forall_mem_cons.mpr ⟨zk_850_69, (List.forall_mem_cons.mpr ⟨zk_850_70, (List.forall_mem_cons.mpr ⟨zk_850_71, (List.forall_mem_cons.mpr ⟨zk_850_72, (List.forall_mem_cons.mpr ⟨zk_850_73, (List.forall_mem_cons.mpr ⟨zk_850_74, (List.forall_mem_cons.mpr ⟨zk_850_75, (List.forall_mem_cons.mpr ⟨zk_850_76, (List.forall_mem_cons.mpr ⟨zk_850_77, (List.forall_mem_cons.mpr ⟨zk_850_78, (List.forall_mem_cons.mpr ⟨zk_850_79, (List.forall_mem_cons.mpr ⟨zk_850_80, (List.forall_mem_cons.mpr ⟨zk_850_81, (List.forall_mem_cons.mpr ⟨zk_850_82, (List.forall_mem_cons.mpr ⟨zk_850_83, nilz⟩)⟩)⟩)⟩)⟩)⟩)⟩)⟩)⟩)⟩)⟩)⟩)⟩)⟩)⟩)⟩)⟩)⟩)⟩)⟩)⟩)⟩)⟩)⟩)⟩)⟩)⟩)⟩)⟩)⟩)⟩)⟩)⟩)⟩)⟩)⟩)⟩)⟩)⟩)⟩)⟩)⟩)⟩)⟩)⟩)⟩)⟩)⟩)⟩)⟩)⟩)⟩)⟩)⟩)⟩)⟩)⟩)⟩)⟩)⟩)⟩)⟩)⟩)⟩)⟩)⟩)⟩)⟩)⟩)⟩)⟩)⟩)⟩)⟩)⟩)⟩)⟩)⟩)⟩)⟩)⟩)⟩)⟩)⟩)
set_option maxRecDepth 100000 in
theorem zM_850 {l : Launch} {D : va_G} {cI cZ cB cJ cR : ClassId} {ks ad : List Nat} {Psi : va_W → Prop} (hw : zworld ks ad zuq zNS Psi) (hm : zMan l D cI cZ cB cJ cR ks ad Psi) : zMet l D cI cZ cB cJ cR zKS ks ad Psi yX6_closed (.code yX6_closed cX6_closed 6 (some .int)) 6 zc_850 :=
  zmet_of hw 6 (by decide) 4000 zk_850 (by decide) (by decide) (fun X => ⟨zg_RX6 X, zp_RX6 X, zl1_RX6 X, zl2_RX6 X, nilz, (List.forall_mem_cons.mpr ⟨zq_RX6_234 X (zM_930 hw hm) (by decide) rfl rfl, (List.forall_mem_cons.mpr ⟨zq_RX6_261 X (zM_888 hw hm) (by decide) rfl rfl, (List.forall_mem_cons.mpr ⟨zq_RX6_264 X (zman_1119 hm) (by decide) rfl, (List.forall_mem_cons.mpr ⟨zq_RX6_364 X (zM_1168 hw hm) (by decide) rfl rfl, (List.forall_mem_cons.mpr ⟨zq_RX6_364 X (zM_1169 hw hm) (by decide) rfl rfl, (List.forall_mem_cons.mpr ⟨zq_RX6_364 X (zM_1170 hw hm) (by decide) rfl rfl, (List.forall_mem_cons.mpr ⟨zq_RX6_364 X (zM_1171 hw hm) (by decide) rfl rfl, (List.forall_mem_cons.mpr ⟨zq_RX6_364 X (zM_1172 hw hm) (by decide) rfl rfl, (List.forall_mem_cons.mpr ⟨zq_RX6_364 X (zM_1167 hw hm) (by decide) rfl rfl, (List.forall_mem_cons.mpr ⟨zq_RX6_367 X (zM_936 hw hm) (by decide) rfl rfl, (List.forall_mem_cons.mpr ⟨zq_RX6_367 X (zM_937 hw hm) (by decide) rfl rfl, (List.forall_mem_cons.mpr ⟨zq_RX6_367 X (zM_938 hw hm) (by decide) rfl rfl, (List.forall_mem_cons.mpr ⟨zq_RX6_367 X (zM_939 hw hm) (by decide) rfl rfl, (List.forall_mem_cons.mpr ⟨zq_RX6_367 X (zM_940 hw hm) (by decide) rfl rfl, (List.forall_mem_cons.mpr ⟨zq_RX6_367 X (zM_941 hw hm) (by decide) rfl rfl, (List.forall_mem_cons.mpr ⟨zq_RX6_367 X (zM_942 hw hm) (by decide) rfl rfl, (List.forall_mem_cons.mpr ⟨zq_RX6_367 X (zM_943 hw hm) (by decide) rfl rfl, (List.forall_mem_cons.mpr ⟨zq_RX6_367 X (zM_944 hw hm) (by decide) rfl rfl, (List.forall_mem_cons.mpr ⟨zq_RX6_367 X (zM_945 hw hm) (by decide) rfl rfl, (List.forall_mem_cons.mpr ⟨zq_RX6_367 X (zM_946 hw hm) (by decide) rfl rfl, (List.forall_mem_cons.mpr ⟨zq_RX6_367 X (zM_947 hw hm) (by decide) rfl rfl, (List.forall_mem_cons.mpr ⟨zq_RX6_367 X (zM_948 hw hm) (by decide) rfl rfl, (List.forall_mem_cons.mpr ⟨zq_RX6_367 X (zM_949 hw hm) (by decide) rfl rfl, (List.forall_mem_cons.mpr ⟨zq_RX6_367 X (zM_950 hw hm) (by decide) rfl rfl, (List.forall_mem_cons.mpr ⟨zq_RX6_367 X (zM_951 hw hm) (by decide) rfl rfl, (List.forall_mem_cons.mpr ⟨zq_RX6_367 X (zM_952 hw hm) (by decide) rfl rfl, (List.forall_mem_cons.mpr ⟨zq_RX6_367 X (zM_953 hw hm) (by decide) rfl rfl, (List.forall_mem_cons.mpr ⟨zq_RX6_367 X (zM_954 hw hm) (by decide) rfl rfl, (List.forall_mem_cons.mpr ⟨zq_RX6_367 X (zM_955 hw hm) (by decide) rfl rfl, (List.forall_mem_cons.mpr ⟨zq_RX6_367 X (zM_956 hw hm) (by decide) rfl rfl, (List.forall_mem_cons.mpr ⟨zq_RX6_367 X (zM_957 hw hm) (by decide) rfl rfl, (List.forall_mem_cons.mpr ⟨zq_RX6_367 X (zM_958 hw hm) (by decide) rfl rfl, (List.forall_mem_cons.mpr ⟨zq_RX6_367 X (zM_959 hw hm) (by decide) rfl rfl, (List.forall_mem_cons.mpr ⟨zq_RX6_367 X (zM_960 hw hm) (by decide) rfl rfl, (List.forall_mem_cons.mpr ⟨zq_RX6_367 X (zM_961 hw hm) (by decide) rfl rfl, (List.forall_mem_cons.mpr ⟨zq_RX6_367 X (zM_962 hw hm) (by decide) rfl rfl, (List.forall_mem_cons.mpr ⟨zq_RX6_367 X (zM_963 hw hm) (by decide) rfl rfl, (List.forall_mem_cons.mpr ⟨zq_RX6_367 X (zM_964 hw hm) (by decide) rfl rfl, (List.forall_mem_cons.mpr ⟨zq_RX6_367 X (zM_965 hw hm) (by decide) rfl rfl, (List.forall_mem_cons.mpr ⟨zq_RX6_367 X (zM_966 hw hm) (by decide) rfl rfl, (List.forall_mem_cons.mpr ⟨zq_RX6_367 X (zM_967 hw hm) (by decide) rfl rfl, (List.forall_mem_cons.mpr ⟨zq_RX6_367 X (zM_968 hw hm) (by decide) rfl rfl, (List.forall_mem_cons.mpr ⟨zq_RX6_367 X (zM_969 hw hm) (by decide) rfl rfl, (List.forall_mem_cons.mpr ⟨zq_RX6_367 X (zM_970 hw hm) (by decide) rfl rfl, (List.forall_mem_cons.mpr ⟨zq_RX6_367 X (zM_971 hw hm) (by decide) rfl rfl, (List.forall_mem_cons.mpr ⟨zq_RX6_367 X (zM_972 hw hm) (by decide) rfl rfl, (List.forall_mem_cons.mpr ⟨zq_RX6_367 X (zM_973 hw hm) (by decide) rfl rfl, (List.forall_mem_cons.mpr ⟨zq_RX6_367 X (zM_974 hw hm) (by decide) rfl rfl, (List.forall_mem_cons.mpr ⟨zq_RX6_367 X (zM_975 hw hm) (by decide) rfl rfl, (List.forall_mem_cons.mpr ⟨zq_RX6_367 X (zM_976 hw hm) (by decide) rfl rfl, (List.forall_mem_cons.mpr ⟨zq_RX6_367 X (zM_977 hw hm) (by decide) rfl rfl, (List.forall_mem_cons.mpr ⟨zq_RX6_367 X (zM_978 hw hm) (by decide) rfl rfl, (List.forall_mem_cons.mpr ⟨zq_RX6_367 X (zM_979 hw hm) (by decide) rfl rfl, (List.forall_mem_cons.mpr ⟨zq_RX6_367 X (zM_980 hw hm) (by decide) rfl rfl, (List.forall_mem_cons.mpr ⟨zq_RX6_367 X (zM_981 hw hm) (by decide) rfl rfl, (List.forall_mem_cons.mpr ⟨zq_RX6_367 X (zM_982 hw hm) (by decide) rfl rfl, (List.forall_mem_cons.mpr ⟨zq_RX6_367 X (zM_983 hw hm) (by decide) rfl rfl, (List.forall_mem_cons.mpr ⟨zq_RX6_367 X (zM_984 hw hm) (by decide) rfl rfl, (List.forall_mem_cons.mpr ⟨zq_RX6_367 X (zM_985 hw hm) (by decide) rfl rfl, (List.forall_mem_cons.mpr ⟨zq_RX6_367 X (zM_986 hw hm) (by decide) rfl rfl, (List.forall_mem_cons.mpr ⟨zq_RX6_367 X (zM_987 hw hm) (by decide) rfl rfl, (List.forall_mem_cons.mpr ⟨zq_RX6_367 X (zM_988 hw hm) (by decide) rfl rfl, (List.forall_mem_cons.mpr ⟨zq_RX6_367 X (zM_989 hw hm) (by decide) rfl rfl, (List.forall_mem_cons.mpr ⟨zq_RX6_367 X (zM_990 hw hm) (by decide) rfl rfl, (List.forall_mem_cons.mpr ⟨zq_RX6_367 X (zM_991 hw hm) (by decide) rfl rfl, (List.forall_mem_cons.mpr ⟨zq_RX6_367 X (zM_992 hw hm) (by decide) rfl rfl, (List.forall_mem_cons.mpr ⟨zq_RX6_367 X (zM_993 hw hm) (by decide) rfl rfl, (List.forall_mem_cons.mpr ⟨zq_RX6_367 X (zM_994 hw hm) (by decide) rfl rfl, (List.forall_mem_cons.mpr ⟨zq_RX6_367 X (zM_995 hw hm) (by decide) rfl rfl, (List.forall_mem_cons.mpr ⟨zq_RX6_367 X (zM_996 hw hm) (by decide) rfl rfl, (List.forall_mem_cons.mpr ⟨zq_RX6_367 X (zM_997 hw hm) (by decide) rfl rfl, (List.forall_mem_cons.mpr ⟨zq_RX6_367 X (zM_998 hw hm) (by decide) rfl rfl, (List.forall_mem_cons.mpr ⟨zq_RX6_367 X (zM_999 hw hm) (by decide) rfl rfl, (List.forall_mem_cons.mpr ⟨zq_RX6_367 X (zM_1000 hw hm) (by decide) rfl rfl, (List.forall_mem_cons.mpr ⟨zq_RX6_367 X (zM_1001 hw hm) (by decide) rfl rfl, (List.forall_mem_cons.mpr ⟨zq_RX6_367 X (zM_1002 hw hm) (by decide) rfl rfl, (List.forall_mem_cons.mpr ⟨zq_RX6_367 X (zM_1003 hw hm) (by decide) rfl rfl, (List.forall_mem_cons.mpr ⟨zq_RX6_367 X (zM_1004 hw hm) (by decide) rfl rfl, (List.forall_mem_cons.mpr ⟨zq_RX6_367 X (zM_1005 hw hm) (by decide) rfl rfl, (List.forall_mem_cons.mpr ⟨zq_RX6_367 X (zM_1006 hw hm) (by decide) rfl rfl, (List.forall_mem_cons.mpr ⟨zq_RX6_367 X (zM_1007 hw hm) (by decide) rfl rfl, (List.forall_mem_cons.mpr ⟨zq_RX6_367 X (zM_1008 hw hm) (by decide) rfl rfl, (List.forall_mem_cons.mpr ⟨zq_RX6_367 X (zM_1009 hw hm) (by decide) rfl rfl, (List.forall_mem_cons.mpr ⟨zq_RX6_367 X (zM_1010 hw hm) (by decide) rfl rfl, (List.forall_mem_cons.mpr ⟨zq_RX6_367 X (zM_1011 hw hm) (by decide) rfl rfl, (List.forall_mem_cons.mpr ⟨zq_RX6_367 X (zM_1012 hw hm) (by decide) rfl rfl, (List.forall_mem_cons.mpr ⟨zq_RX6_367 X (zM_1013 hw hm) (by decide) rfl rfl, (List.forall_mem_cons.mpr ⟨zq_RX6_367 X (zM_1014 hw hm) (by decide) rfl rfl, (List.forall_mem_cons.mpr ⟨zq_RX6_367 X (zM_1015 hw hm) (by decide) rfl rfl, nilz⟩)⟩)⟩)⟩)⟩)⟩)⟩)⟩)⟩)⟩)⟩)⟩)⟩)⟩)⟩)⟩)⟩)⟩)⟩)⟩)⟩)⟩)⟩)⟩)⟩)⟩)⟩)⟩)⟩)⟩)⟩)⟩)⟩)⟩)⟩)⟩)⟩)⟩)⟩)⟩)⟩)⟩)⟩)⟩)⟩)⟩)⟩)⟩)⟩)⟩)⟩)⟩)⟩)⟩)⟩)⟩)⟩)⟩)⟩)⟩)⟩)⟩)⟩)⟩)⟩)⟩)⟩)⟩)⟩)⟩)⟩)⟩)⟩)⟩)⟩)⟩)⟩)⟩)⟩)⟩)⟩)⟩)⟩)⟩)⟩)⟩)⟩)⟩)⟩)⟩)
