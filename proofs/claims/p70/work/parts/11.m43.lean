set_option maxRecDepth 100000 in
theorem zk_854_0 : zm1 zKS zuq zNS zm_854 4000 zt_854_0 = true := z1F (zdt_X6_closed) (by decide +kernel)
set_option maxRecDepth 100000 in
theorem zk_854_1 : zm1 zKS zuq zNS zm_854 4000 zt_854_1 = true := z1F (zdt_X6_closed) (by decide +kernel)
set_option maxRecDepth 100000 in
theorem zk_854_2 : zm1 zKS zuq zNS zm_854 4000 zt_854_2 = true := z1F (zdt_X6_closed) (by decide +kernel)
set_option maxRecDepth 100000 in
theorem zk_854_3 : zm1 zKS zuq zNS zm_854 4000 zt_854_3 = true := z1F (zdt_X6_closed) (by decide +kernel)
set_option maxRecDepth 100000 in
theorem zk_854_4 : zm1 zKS zuq zNS zm_854 4000 zt_854_4 = true := z1F (zdt_X6_closed) (by decide +kernel)
set_option maxRecDepth 100000 in
theorem zk_854_5 : zm1 zKS zuq zNS zm_854 4000 zt_854_5 = true := z1F (zdt_X6_closed) (by decide +kernel)
set_option maxRecDepth 100000 in
theorem zk_854_6 : zm1 zKS zuq zNS zm_854 4000 zt_854_6 = true := z1F (zdt_X6_closed) (by decide +kernel)
set_option maxRecDepth 100000 in
theorem zk_854_7 : zm1 zKS zuq zNS zm_854 4000 zt_854_7 = true := z1F (zdt_X6_closed) (by decide +kernel)
set_option maxRecDepth 100000 in
theorem zk_854_8 : zm1 zKS zuq zNS zm_854 4000 zt_854_8 = true := z1F (zdt_X6_closed) (by decide +kernel)
set_option maxRecDepth 100000 in
theorem zk_854_9 : zm1 zKS zuq zNS zm_854 4000 zt_854_9 = true := z1F (zdt_X6_closed) (by decide +kernel)
set_option maxRecDepth 100000 in
theorem zk_854_10 : zm1 zKS zuq zNS zm_854 4000 zt_854_10 = true := z1F (zdt_X6_closed) (by decide +kernel)
set_option maxRecDepth 100000 in
theorem zk_854_11 : zm1 zKS zuq zNS zm_854 4000 zt_854_11 = true := z1F (zdt_X6_closed) (by decide +kernel)
set_option maxRecDepth 100000 in
theorem zk_854_12 : zm1 zKS zuq zNS zm_854 4000 zt_854_12 = true := z1F (zdt_X6_closed) (by decide +kernel)
set_option maxRecDepth 100000 in
theorem zk_854_13 : zm1 zKS zuq zNS zm_854 4000 zt_854_13 = true := z1F (zdt_X6_closed) (by decide +kernel)
set_option maxRecDepth 100000 in
theorem zk_854_14 : zm1 zKS zuq zNS zm_854 4000 zt_854_14 = true := z1F (zdt_X6_closed) (by decide +kernel)
set_option maxRecDepth 100000 in
theorem zk_854_15 : zm1 zKS zuq zNS zm_854 4000 zt_854_15 = true := z1F (zdt_X6_closed) (by decide +kernel)
set_option maxRecDepth 100000 in
theorem zk_854_16 : zm1 zKS zuq zNS zm_854 4000 zt_854_16 = true := z1F (zdt_X6_closed) (by decide +kernel)
set_option maxRecDepth 100000 in
theorem zk_854_17 : zm1 zKS zuq zNS zm_854 4000 zt_854_17 = true := z1F (zdt_X6_closed) (by decide +kernel)
set_option maxRecDepth 100000 in
theorem zk_854_18 : zm1 zKS zuq zNS zm_854 4000 zt_854_18 = true := z1F (zdt_X6_closed) (by decide +kernel)
set_option maxRecDepth 100000 in
theorem zk_854_19 : zm1 zKS zuq zNS zm_854 4000 zt_854_19 = true := z1F (zdt_X6_closed) (by decide +kernel)
set_option maxRecDepth 100000 in
theorem zk_854_20 : zm1 zKS zuq zNS zm_854 4000 zt_854_20 = true := z1F (zdt_X6_closed) (by decide +kernel)
set_option maxRecDepth 100000 in
theorem zk_854_21 : zm1 zKS zuq zNS zm_854 4000 zt_854_21 = true := z1F (zdt_X6_closed) (by decide +kernel)
set_option maxRecDepth 100000 in
theorem zk_854_22 : zm1 zKS zuq zNS zm_854 4000 zt_854_22 = true := z1F (zdt_X6_closed) (by decide +kernel)
set_option maxRecDepth 100000 in
theorem zk_854_23 : zm1 zKS zuq zNS zm_854 4000 zt_854_23 = true := z1F (zdt_X6_closed) (by decide +kernel)
set_option maxRecDepth 100000 in
theorem zk_854_24 : zm1 zKS zuq zNS zm_854 4000 zt_854_24 = true := z1F (zdt_X6_closed) (by decide +kernel)
set_option maxRecDepth 100000 in
theorem zk_854_25 : zm1 zKS zuq zNS zm_854 4000 zt_854_25 = true := z1F (zdt_X6_closed) (by decide +kernel)
set_option maxRecDepth 100000 in
theorem zk_854_26 : zm1 zKS zuq zNS zm_854 4000 zt_854_26 = true := z1F (zdt_X6_closed) (by decide +kernel)
set_option maxRecDepth 100000 in
theorem zk_854_27 : zm1 zKS zuq zNS zm_854 4000 zt_854_27 = true := z1F (zdt_X6_closed) (by decide +kernel)
set_option maxRecDepth 100000 in
theorem zk_854_28 : zm1 zKS zuq zNS zm_854 4000 zt_854_28 = true := z1F (zdt_X6_closed) (by decide +kernel)
set_option maxRecDepth 100000 in
theorem zk_854_29 : zm1 zKS zuq zNS zm_854 4000 zt_854_29 = true := z1F (zdt_X6_closed) (by decide +kernel)
set_option maxRecDepth 100000 in
theorem zk_854_30 : zm1 zKS zuq zNS zm_854 4000 zt_854_30 = true := z1F (zdt_X6_closed) (by decide +kernel)
set_option maxRecDepth 100000 in
theorem zk_854_31 : zm1 zKS zuq zNS zm_854 4000 zt_854_31 = true := z1F (zdt_X6_closed) (by decide +kernel)
set_option maxRecDepth 100000 in
theorem zk_854_32 : zm1 zKS zuq zNS zm_854 4000 zt_854_32 = true := z1F (zdt_X6_closed) (by decide +kernel)
set_option maxRecDepth 100000 in
theorem zk_854_33 : zm1 zKS zuq zNS zm_854 4000 zt_854_33 = true := z1F (zdt_X6_closed) (by decide +kernel)
set_option maxRecDepth 100000 in
theorem zk_854_34 : zm1 zKS zuq zNS zm_854 4000 zt_854_34 = true := z1F (zdt_X6_closed) (by decide +kernel)
set_option maxRecDepth 100000 in
theorem zk_854_35 : zm1 zKS zuq zNS zm_854 4000 zt_854_35 = true := z1F (zdt_X6_closed) (by decide +kernel)
set_option maxRecDepth 100000 in
theorem zk_854_36 : zm1 zKS zuq zNS zm_854 4000 zt_854_36 = true := z1F (zdt_X6_closed) (by decide +kernel)
set_option maxRecDepth 100000 in
theorem zk_854_37 : zm1 zKS zuq zNS zm_854 4000 zt_854_37 = true := z1F (zdt_X6_closed) (by decide +kernel)
set_option maxRecDepth 100000 in
theorem zk_854_38 : zm1 zKS zuq zNS zm_854 4000 zt_854_38 = true := z1F (zdt_X6_closed) (by decide +kernel)
set_option maxRecDepth 100000 in
theorem zk_854_39 : zm1 zKS zuq zNS zm_854 4000 zt_854_39 = true := z1F (zdt_X6_closed) (by decide +kernel)
set_option maxRecDepth 100000 in
theorem zk_854_40 : zm1 zKS zuq zNS zm_854 4000 zt_854_40 = true := z1F (zdt_X6_closed) (by decide +kernel)
set_option maxRecDepth 100000 in
theorem zk_854_41 : zm1 zKS zuq zNS zm_854 4000 zt_854_41 = true := z1F (zdt_X6_closed) (by decide +kernel)
set_option maxRecDepth 100000 in
theorem zk_854_42 : zm1 zKS zuq zNS zm_854 4000 zt_854_42 = true := z1F (zdt_X6_closed) (by decide +kernel)
set_option maxRecDepth 100000 in
theorem zk_854_43 : zm1 zKS zuq zNS zm_854 4000 zt_854_43 = true := z1F (zdt_X6_closed) (by decide +kernel)
set_option maxRecDepth 100000 in
theorem zk_854_44 : zm1 zKS zuq zNS zm_854 4000 zt_854_44 = true := z1F (zdt_X6_closed) (by decide +kernel)
set_option maxRecDepth 100000 in
theorem zk_854_45 : zm1 zKS zuq zNS zm_854 4000 zt_854_45 = true := z1F (zdt_X6_closed) (by decide +kernel)
set_option maxRecDepth 100000 in
theorem zk_854_46 : zm1 zKS zuq zNS zm_854 4000 zt_854_46 = true := z1F (zdt_X6_closed) (by decide +kernel)
set_option maxRecDepth 100000 in
theorem zk_854_47 : zm1 zKS zuq zNS zm_854 4000 zt_854_47 = true := z1F (zdt_X6_closed) (by decide +kernel)
set_option maxRecDepth 100000 in
theorem zk_854_48 : zm1 zKS zuq zNS zm_854 4000 zt_854_48 = true := z1F (zdt_X6_closed) (by decide +kernel)
set_option maxRecDepth 100000 in
theorem zk_854_49 : zm1 zKS zuq zNS zm_854 4000 zt_854_49 = true := z1F (zdt_X6_closed) (by decide +kernel)
set_option maxRecDepth 100000 in
theorem zk_854_50 : zm1 zKS zuq zNS zm_854 4000 zt_854_50 = true := z1F (zdt_X6_closed) (by decide +kernel)
set_option maxRecDepth 100000 in
theorem zk_854_51 : zm1 zKS zuq zNS zm_854 4000 zt_854_51 = true := z1F (zdt_X6_closed) (by decide +kernel)
set_option maxRecDepth 100000 in
theorem zk_854_52 : zm1 zKS zuq zNS zm_854 4000 zt_854_52 = true := z1F (zdt_X6_closed) (by decide +kernel)
set_option maxRecDepth 100000 in
theorem zk_854_53 : zm1 zKS zuq zNS zm_854 4000 zt_854_53 = true := z1F (zdt_X6_closed) (by decide +kernel)
set_option maxRecDepth 100000 in
theorem zk_854_54 : zm1 zKS zuq zNS zm_854 4000 zt_854_54 = true := z1F (zdt_X6_closed) (by decide +kernel)
set_option maxRecDepth 100000 in
theorem zk_854_55 : zm1 zKS zuq zNS zm_854 4000 zt_854_55 = true := z1F (zdt_X6_closed) (by decide +kernel)
set_option maxRecDepth 100000 in
theorem zk_854_56 : zm1 zKS zuq zNS zm_854 4000 zt_854_56 = true := z1F (zdt_X6_closed) (by decide +kernel)
set_option maxRecDepth 100000 in
theorem zk_854_57 : zm1 zKS zuq zNS zm_854 4000 zt_854_57 = true := z1F (zdt_X6_closed) (by decide +kernel)
set_option maxRecDepth 100000 in
theorem zk_854_58 : zm1 zKS zuq zNS zm_854 4000 zt_854_58 = true := z1F (zdt_X6_closed) (by decide +kernel)
set_option maxRecDepth 100000 in
theorem zk_854_59 : zm1 zKS zuq zNS zm_854 4000 zt_854_59 = true := z1F (zdt_X6_closed) (by decide +kernel)
set_option maxRecDepth 100000 in
theorem zk_854_60 : zm1 zKS zuq zNS zm_854 4000 zt_854_60 = true := z1F (zdt_X6_closed) (by decide +kernel)
set_option maxRecDepth 100000 in
theorem zk_854_61 : zm1 zKS zuq zNS zm_854 4000 zt_854_61 = true := z1F (zdt_X6_closed) (by decide +kernel)
set_option maxRecDepth 100000 in
theorem zk_854_62 : zm1 zKS zuq zNS zm_854 4000 zt_854_62 = true := z1F (zdt_X6_closed) (by decide +kernel)
set_option maxRecDepth 100000 in
theorem zk_854_63 : zm1 zKS zuq zNS zm_854 4000 zt_854_63 = true := z1F (zdt_X6_closed) (by decide +kernel)
set_option maxRecDepth 100000 in
theorem zk_854_64 : zm1 zKS zuq zNS zm_854 4000 zt_854_64 = true := z1F (zdt_X6_closed) (by decide +kernel)
set_option maxRecDepth 100000 in
theorem zk_854_65 : zm1 zKS zuq zNS zm_854 4000 zt_854_65 = true := z1F (zdt_X6_closed) (by decide +kernel)
set_option maxRecDepth 100000 in
theorem zk_854_66 : zm1 zKS zuq zNS zm_854 4000 zt_854_66 = true := z1F (zdt_X6_closed) (by decide +kernel)
set_option maxRecDepth 100000 in
theorem zk_854_67 : zm1 zKS zuq zNS zm_854 4000 zt_854_67 = true := z1F (zdt_X6_closed) (by decide +kernel)
set_option maxRecDepth 100000 in
theorem zk_854_68 : zm1 zKS zuq zNS zm_854 4000 zt_854_68 = true := z1F (zdt_X6_closed) (by decide +kernel)
set_option maxRecDepth 100000 in
theorem zk_854_69 : zm1 zKS zuq zNS zm_854 4000 zt_854_69 = true := z1F (zdt_X6_closed) (by decide +kernel)
set_option maxRecDepth 100000 in
theorem zk_854_70 : zm1 zKS zuq zNS zm_854 4000 zt_854_70 = true := z1F (zdt_X6_closed) (by decide +kernel)
set_option maxRecDepth 100000 in
theorem zk_854_71 : zm1 zKS zuq zNS zm_854 4000 zt_854_71 = true := z1F (zdt_X6_closed) (by decide +kernel)
set_option maxRecDepth 100000 in
theorem zk_854_72 : zm1 zKS zuq zNS zm_854 4000 zt_854_72 = true := z1F (zdt_X6_closed) (by decide +kernel)
set_option maxRecDepth 100000 in
theorem zk_854_73 : zm1 zKS zuq zNS zm_854 4000 zt_854_73 = true := z1F (zdt_X6_closed) (by decide +kernel)
set_option maxRecDepth 100000 in
theorem zk_854_74 : zm1 zKS zuq zNS zm_854 4000 zt_854_74 = true := z1F (zdt_X6_closed) (by decide +kernel)
set_option maxRecDepth 100000 in
theorem zk_854_75 : zm1 zKS zuq zNS zm_854 4000 zt_854_75 = true := z1F (zdt_X6_closed) (by decide +kernel)
set_option maxRecDepth 100000 in
theorem zk_854_76 : zm1 zKS zuq zNS zm_854 4000 zt_854_76 = true := z1F (zdt_X6_closed) (by decide +kernel)
set_option maxRecDepth 100000 in
theorem zk_854_77 : zm1 zKS zuq zNS zm_854 4000 zt_854_77 = true := z1F (zdt_X6_closed) (by decide +kernel)
set_option maxRecDepth 100000 in
theorem zk_854_78 : zm1 zKS zuq zNS zm_854 4000 zt_854_78 = true := z1F (zdt_X6_closed) (by decide +kernel)
set_option maxRecDepth 100000 in
theorem zk_854_79 : zm1 zKS zuq zNS zm_854 4000 zt_854_79 = true := z1F (zdt_X6_closed) (by decide +kernel)
set_option maxRecDepth 100000 in
theorem zk_854_80 : zm1 zKS zuq zNS zm_854 4000 zt_854_80 = true := z1F (zdt_X6_closed) (by decide +kernel)
set_option maxRecDepth 100000 in
theorem zk_854_81 : zm1 zKS zuq zNS zm_854 4000 zt_854_81 = true := z1F (zdt_X6_closed) (by decide +kernel)
set_option maxRecDepth 100000 in
theorem zk_854_82 : zm1 zKS zuq zNS zm_854 4000 zt_854_82 = true := z1F (zdt_X6_closed) (by decide +kernel)
set_option maxRecDepth 100000 in
theorem zk_854_83 : zm1 zKS zuq zNS zm_854 4000 zt_854_83 = true := z1F (zdt_X6_closed) (by decide +kernel)
set_option maxRecDepth 100000 in
theorem zk_854_s : zm0 zKS zuq zNS zm_854 4000 = true := z0F (zdt_X6_closed) (by decide +kernel)
set_option maxRecDepth 100000 in
theorem zk_854 : zmeth zKS zuq zNS zm_854 4000 = true := zmeth_by zk_854_s (List.forall_mem_cons.mpr ⟨zk_854_0, (List.forall_mem_cons.mpr ⟨zk_854_1, (List.forall_mem_cons.mpr ⟨zk_854_2, (List.forall_mem_cons.mpr ⟨zk_854_3, (List.forall_mem_cons.mpr ⟨zk_854_4, (List.forall_mem_cons.mpr ⟨zk_854_5, (List.forall_mem_cons.mpr ⟨zk_854_6, (List.forall_mem_cons.mpr ⟨zk_854_7, (List.forall_mem_cons.mpr ⟨zk_854_8, (List.forall_mem_cons.mpr ⟨zk_854_9, (List.forall_mem_cons.mpr ⟨zk_854_10, (List.forall_mem_cons.mpr ⟨zk_854_11, (List.forall_mem_cons.mpr ⟨zk_854_12, (List.forall_mem_cons.mpr ⟨zk_854_13, (List.forall_mem_cons.mpr ⟨zk_854_14, (List.forall_mem_cons.mpr ⟨zk_854_15, (List.forall_mem_cons.mpr ⟨zk_854_16, (List.forall_mem_cons.mpr ⟨zk_854_17, (List.forall_mem_cons.mpr ⟨zk_854_18, (List.forall_mem_cons.mpr ⟨zk_854_19, (List.forall_mem_cons.mpr ⟨zk_854_20, (List.forall_mem_cons.mpr ⟨zk_854_21, (List.forall_mem_cons.mpr ⟨zk_854_22, (List.forall_mem_cons.mpr ⟨zk_854_23, (List.forall_mem_cons.mpr ⟨zk_854_24, (List.forall_mem_cons.mpr ⟨zk_854_25, (List.forall_mem_cons.mpr ⟨zk_854_26, (List.forall_mem_cons.mpr ⟨zk_854_27, (List.forall_mem_cons.mpr ⟨zk_854_28, (List.forall_mem_cons.mpr ⟨zk_854_29, (List.forall_mem_cons.mpr ⟨zk_854_30, (List.forall_mem_cons.mpr ⟨zk_854_31, (List.forall_mem_cons.mpr ⟨zk_854_32, (List.forall_mem_cons.mpr ⟨zk_854_33, (List.forall_mem_cons.mpr ⟨zk_854_34, (List.forall_mem_cons.mpr ⟨zk_854_35, (List.forall_mem_cons.mpr ⟨zk_854_36, (List.forall_mem_cons.mpr ⟨zk_854_37, (List.forall_mem_cons.mpr ⟨zk_854_38, (List.forall_mem_cons.mpr ⟨zk_854_39, (List.forall_mem_cons.mpr ⟨zk_854_40, (List.forall_mem_cons.mpr ⟨zk_854_41, (List.forall_mem_cons.mpr ⟨zk_854_42, (List.forall_mem_cons.mpr ⟨zk_854_43, (List.forall_mem_cons.mpr ⟨zk_854_44, (List.forall_mem_cons.mpr ⟨zk_854_45, (List.forall_mem_cons.mpr ⟨zk_854_46, (List.forall_mem_cons.mpr ⟨zk_854_47, (List.forall_mem_cons.mpr ⟨zk_854_48, (List.forall_mem_cons.mpr ⟨zk_854_49, (List.forall_mem_cons.mpr ⟨zk_854_50, (List.forall_mem_cons.mpr ⟨zk_854_51, (List.forall_mem_cons.mpr ⟨zk_854_52, (List.forall_mem_cons.mpr ⟨zk_854_53, (List.forall_mem_cons.mpr ⟨zk_854_54, (List.forall_mem_cons.mpr ⟨zk_854_55, (List.forall_mem_cons.mpr ⟨zk_854_56, (List.forall_mem_cons.mpr ⟨zk_854_57, (List.forall_mem_cons.mpr ⟨zk_854_58, (List.forall_mem_cons.mpr ⟨zk_854_59, (List.forall_mem_cons.mpr ⟨zk_854_60, (List.forall_mem_cons.mpr ⟨zk_854_61, (List.forall_mem_cons.mpr ⟨zk_854_62, (List.forall_mem_cons.mpr ⟨zk_854_63, (List.forall_mem_cons.mpr ⟨zk_854_64, (List.forall_mem_cons.mpr ⟨zk_854_65, (List.forall_mem_cons.mpr ⟨zk_854_66, (List.forall_mem_cons.mpr ⟨zk_854_67, (List.forall_mem_cons.mpr ⟨zk_854_68, (List.forall_mem_cons.mpr ⟨zk_854_69, (List.forall_mem_cons.mpr ⟨zk_854_70, (List.forall_mem_cons.mpr ⟨zk_854_71, (List.forall_mem_cons.mpr ⟨zk_854_72, (List.forall_mem_cons.mpr ⟨zk_854_73, (List.forall_mem_cons.mpr ⟨zk_854_74, (List.forall_mem_cons.mpr ⟨zk_854_75, (List.forall_mem_cons.mpr ⟨zk_854_76, (List.forall_mem_cons.mpr ⟨zk_854_77, (List.forall_mem_cons.mpr ⟨zk_854_78, (List.forall_mem_cons.mpr ⟨zk_854_79, (List.forall_mem_cons.mpr ⟨zk_854_80, (List.forall_mem_cons.mpr ⟨zk_854_81, (List.forall_mem_cons.mpr ⟨zk_854_82, (List.forall_mem_cons.mpr ⟨zk_854_83, nilz⟩)⟩)⟩)⟩)⟩)⟩)⟩)⟩)⟩)⟩)⟩)⟩)⟩)⟩)⟩)⟩)⟩)⟩)⟩)⟩)⟩)⟩)⟩)⟩)⟩)⟩)⟩)⟩)⟩)⟩)⟩)⟩)⟩)⟩)⟩)⟩)⟩)⟩)⟩)⟩)⟩)⟩)⟩)⟩)⟩)⟩)⟩)⟩)⟩)⟩)⟩)⟩)⟩)⟩)⟩)⟩)⟩)⟩)⟩)⟩)⟩)⟩)⟩)⟩)⟩)⟩)⟩)⟩)⟩)⟩)⟩)⟩)⟩)⟩)⟩)⟩)⟩)⟩)⟩)⟩)⟩)⟩)⟩)⟩)
set_option maxRecDepth 100000 in
theorem zM_854 {l : Launch} {D : va_G} {cI cZ cB cJ cR : ClassId} {ks ad : List Nat} {Psi : va_W → Prop} (hw : zworld ks ad zuq zNS Psi) (hm : zMan l D cI cZ cB cJ cR ks ad Psi) : zMet l D cI cZ cB cJ cR zKS ks ad Psi yX6_closed (.code yX6_closed cX6_closed 6 (some .int)) 6 zc_854 :=
  zmet_of hw 6 (by decide) 4000 zk_854 (by decide) (by decide) (fun X => ⟨zg_RX6 X, zp_RX6 X, zl1_RX6 X, zl2_RX6 X, nilz, (List.forall_mem_cons.mpr ⟨zq_RX6_234 X (zM_934 hw hm) (by decide) rfl rfl, (List.forall_mem_cons.mpr ⟨zq_RX6_261 X (zM_892 hw hm) (by decide) rfl rfl, (List.forall_mem_cons.mpr ⟨zq_RX6_264 X (zman_1123 hm) (by decide) rfl, (List.forall_mem_cons.mpr ⟨zq_RX6_364 X (zM_1172 hw hm) (by decide) rfl rfl, (List.forall_mem_cons.mpr ⟨zq_RX6_364 X (zM_1173 hw hm) (by decide) rfl rfl, (List.forall_mem_cons.mpr ⟨zq_RX6_364 X (zM_1174 hw hm) (by decide) rfl rfl, (List.forall_mem_cons.mpr ⟨zq_RX6_364 X (zM_1175 hw hm) (by decide) rfl rfl, (List.forall_mem_cons.mpr ⟨zq_RX6_364 X (zM_1176 hw hm) (by decide) rfl rfl, (List.forall_mem_cons.mpr ⟨zq_RX6_364 X (zM_1171 hw hm) (by decide) rfl rfl, (List.forall_mem_cons.mpr ⟨zq_RX6_367 X (zM_940 hw hm) (by decide) rfl rfl, (List.forall_mem_cons.mpr ⟨zq_RX6_367 X (zM_941 hw hm) (by decide) rfl rfl, (List.forall_mem_cons.mpr ⟨zq_RX6_367 X (zM_942 hw hm) (by decide) rfl rfl, (List.forall_mem_cons.mpr ⟨zq_RX6_367 X (zM_943 hw hm) (by decide) rfl rfl, (List.forall_mem_cons.mpr ⟨zq_RX6_367 X (zM_944 hw hm) (by decide) rfl rfl, (List.forall_mem_cons.mpr ⟨zq_RX6_367 X (zM_945 hw hm) (by decide) rfl rfl, (List.forall_mem_cons.mpr ⟨zq_RX6_367 X (zM_946 hw hm) (by decide) rfl rfl, (List.forall_mem_cons.mpr ⟨zq_RX6_367 X (zM_947 hw hm) (by decide) rfl rfl, (List.forall_mem_cons.mpr ⟨zq_RX6_367 X (zM_948 hw hm) (by decide) rfl rfl, (List.forall_mem_cons.mpr ⟨zq_RX6_367 X (zM_949 hw hm) (by decide) rfl rfl, (List.forall_mem_cons.mpr ⟨zq_RX6_367 X (zM_950 hw hm) (by decide) rfl rfl, (List.forall_mem_cons.mpr ⟨zq_RX6_367 X (zM_951 hw hm) (by decide) rfl rfl, (List.forall_mem_cons.mpr ⟨zq_RX6_367 X (zM_952 hw hm) (by decide) rfl rfl, (List.forall_mem_cons.mpr ⟨zq_RX6_367 X (zM_953 hw hm) (by decide) rfl rfl, (List.forall_mem_cons.mpr ⟨zq_RX6_367 X (zM_954 hw hm) (by decide) rfl rfl, (List.forall_mem_cons.mpr ⟨zq_RX6_367 X (zM_955 hw hm) (by decide) rfl rfl, (List.forall_mem_cons.mpr ⟨zq_RX6_367 X (zM_956 hw hm) (by decide) rfl rfl, (List.forall_mem_cons.mpr ⟨zq_RX6_367 X (zM_957 hw hm) (by decide) rfl rfl, (List.forall_mem_cons.mpr ⟨zq_RX6_367 X (zM_958 hw hm) (by decide) rfl rfl, (List.forall_mem_cons.mpr ⟨zq_RX6_367 X (zM_959 hw hm) (by decide) rfl rfl, (List.forall_mem_cons.mpr ⟨zq_RX6_367 X (zM_960 hw hm) (by decide) rfl rfl, (List.forall_mem_cons.mpr ⟨zq_RX6_367 X (zM_961 hw hm) (by decide) rfl rfl, (List.forall_mem_cons.mpr ⟨zq_RX6_367 X (zM_962 hw hm) (by decide) rfl rfl, (List.forall_mem_cons.mpr ⟨zq_RX6_367 X (zM_963 hw hm) (by decide) rfl rfl, (List.forall_mem_cons.mpr ⟨zq_RX6_367 X (zM_964 hw hm) (by decide) rfl rfl, (List.forall_mem_cons.mpr ⟨zq_RX6_367 X (zM_965 hw hm) (by decide) rfl rfl, (List.forall_mem_cons.mpr ⟨zq_RX6_367 X (zM_966 hw hm) (by decide) rfl rfl, (List.forall_mem_cons.mpr ⟨zq_RX6_367 X (zM_967 hw hm) (by decide) rfl rfl, (List.forall_mem_cons.mpr ⟨zq_RX6_367 X (zM_968 hw hm) (by decide) rfl rfl, (List.forall_mem_cons.mpr ⟨zq_RX6_367 X (zM_969 hw hm) (by decide) rfl rfl, (List.forall_mem_cons.mpr ⟨zq_RX6_367 X (zM_970 hw hm) (by decide) rfl rfl, (List.forall_mem_cons.mpr ⟨zq_RX6_367 X (zM_971 hw hm) (by decide) rfl rfl, (List.forall_mem_cons.mpr ⟨zq_RX6_367 X (zM_972 hw hm) (by decide) rfl rfl, (List.forall_mem_cons.mpr ⟨zq_RX6_367 X (zM_973 hw hm) (by decide) rfl rfl, (List.forall_mem_cons.mpr ⟨zq_RX6_367 X (zM_974 hw hm) (by decide) rfl rfl, (List.forall_mem_cons.mpr ⟨zq_RX6_367 X (zM_975 hw hm) (by decide) rfl rfl, (List.forall_mem_cons.mpr ⟨zq_RX6_367 X (zM_976 hw hm) (by decide) rfl rfl, (List.forall_mem_cons.mpr ⟨zq_RX6_367 X (zM_977 hw hm) (by decide) rfl rfl, (List.forall_mem_cons.mpr ⟨zq_RX6_367 X (zM_978 hw hm) (by decide) rfl rfl, (List.forall_mem_cons.mpr ⟨zq_RX6_367 X (zM_979 hw hm) (by decide) rfl rfl, (List.forall_mem_cons.mpr ⟨zq_RX6_367 X (zM_980 hw hm) (by decide) rfl rfl, (List.forall_mem_cons.mpr ⟨zq_RX6_367 X (zM_981 hw hm) (by decide) rfl rfl, (List.forall_mem_cons.mpr ⟨zq_RX6_367 X (zM_982 hw hm) (by decide) rfl rfl, (List.forall_mem_cons.mpr ⟨zq_RX6_367 X (zM_983 hw hm) (by decide) rfl rfl, (List.forall_mem_cons.mpr ⟨zq_RX6_367 X (zM_984 hw hm) (by decide) rfl rfl, (List.forall_mem_cons.mpr ⟨zq_RX6_367 X (zM_985 hw hm) (by decide) rfl rfl, (List.forall_mem_cons.mpr ⟨zq_RX6_367 X (zM_986 hw hm) (by decide) rfl rfl, (List.forall_mem_cons.mpr ⟨zq_RX6_367 X (zM_987 hw hm) (by decide) rfl rfl, (List.forall_mem_cons.mpr ⟨zq_RX6_367 X (zM_988 hw hm) (by decide) rfl rfl, (List.forall_mem_cons.mpr ⟨zq_RX6_367 X (zM_989 hw hm) (by decide) rfl rfl, (List.forall_mem_cons.mpr ⟨zq_RX6_367 X (zM_990 hw hm) (by decide) rfl rfl, (List.forall_mem_cons.mpr ⟨zq_RX6_367 X (zM_991 hw hm) (by decide) rfl rfl, (List.forall_mem_cons.mpr ⟨zq_RX6_367 X (zM_992 hw hm) (by decide) rfl rfl, (List.forall_mem_cons.mpr ⟨zq_RX6_367 X (zM_993 hw hm) (by decide) rfl rfl, (List.forall_mem_cons.mpr ⟨zq_RX6_367 X (zM_994 hw hm) (by decide) rfl rfl, (List.forall_mem_cons.mpr ⟨zq_RX6_367 X (zM_995 hw hm) (by decide) rfl rfl, (List.forall_mem_cons.mpr ⟨zq_RX6_367 X (zM_996 hw hm) (by decide) rfl rfl, (List.forall_mem_cons.mpr ⟨zq_RX6_367 X (zM_997 hw hm) (by decide) rfl rfl, (List.forall_mem_cons.mpr ⟨zq_RX6_367 X (zM_998 hw hm) (by decide) rfl rfl, (List.forall_mem_cons.mpr ⟨zq_RX6_367 X (zM_999 hw hm) (by decide) rfl rfl, (List.forall_mem_cons.mpr ⟨zq_RX6_367 X (zM_1000 hw hm) (by decide) rfl rfl, (List.forall_mem_cons.mpr ⟨zq_RX6_367 X (zM_1001 hw hm) (by decide) rfl rfl, (List.forall_mem_cons.mpr ⟨zq_RX6_367 X (zM_1002 hw hm) (by decide) rfl rfl, (List.forall_mem_cons.mpr ⟨zq_RX6_367 X (zM_1003 hw hm) (by decide) rfl rfl, (List.forall_mem_cons.mpr ⟨zq_RX6_367 X (zM_1004 hw hm) (by decide) rfl rfl, (List.forall_mem_cons.mpr ⟨zq_RX6_367 X (zM_1005 hw hm) (by decide) rfl rfl, (List.forall_mem_cons.mpr ⟨zq_RX6_367 X (zM_1006 hw hm) (by decide) rfl rfl, (List.forall_mem_cons.mpr ⟨zq_RX6_367 X (zM_1007 hw hm) (by decide) rfl rfl, (List.forall_mem_cons.mpr ⟨zq_RX6_367 X (zM_1008 hw hm) (by decide) rfl rfl, (List.forall_mem_cons.mpr ⟨zq_RX6_367 X (zM_1009 hw hm) (by decide) rfl rfl, (List.forall_mem_cons.mpr ⟨zq_RX6_367 X (zM_1010 hw hm) (by decide) rfl rfl, (List.forall_mem_cons.mpr ⟨zq_RX6_367 X (zM_1011 hw hm) (by decide) rfl rfl, (List.forall_mem_cons.mpr ⟨zq_RX6_367 X (zM_1012 hw hm) (by decide) rfl rfl, (List.forall_mem_cons.mpr ⟨zq_RX6_367 X (zM_1013 hw hm) (by decide) rfl rfl, (List.forall_mem_cons.mpr ⟨zq_RX6_367 X (zM_1014 hw hm) (by decide) rfl rfl, (List.forall_mem_cons.mpr ⟨zq_RX6_367 X (zM_1015 hw hm) (by decide) rfl rfl, (List.forall_mem_cons.mpr ⟨zq_RX6_367 X (zM_1016 hw hm) (by decide) rfl rfl, (List.forall_mem_cons.mpr ⟨zq_RX6_367 X (zM_1017 hw hm) (by decide) rfl rfl, (List.forall_mem_cons.mpr ⟨zq_RX6_367 X (zM_1018 hw hm) (by decide) rfl rfl, (List.forall_mem_cons.mpr ⟨zq_RX6_367 X (zM_1019 hw hm) (by decide) rfl rfl, nilz⟩)⟩)⟩)⟩)⟩)⟩)⟩)⟩)⟩)⟩)⟩)⟩)⟩)⟩)⟩)⟩)⟩)⟩)⟩)⟩)⟩)⟩)⟩)⟩)⟩)⟩)⟩)⟩)⟩)⟩)⟩)⟩)⟩)⟩)⟩)⟩)⟩)⟩)⟩)⟩)⟩)⟩)⟩)⟩)⟩)⟩)⟩)⟩)⟩)⟩)⟩)⟩)⟩)⟩)⟩)⟩)⟩)⟩)⟩)⟩)⟩)⟩)⟩)⟩)⟩)⟩)⟩)⟩)⟩)⟩)⟩)⟩)⟩)⟩)⟩)⟩)⟩)⟩)⟩)⟩)⟩)⟩)⟩)⟩)⟩)⟩)⟩)⟩)⟩)⟩)
