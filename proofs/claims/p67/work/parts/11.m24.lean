set_option maxRecDepth 100000 in
theorem zk_646_0 : zm1 zKS zuq zNS zm_646 4000 zt_646_0 = true := z1F (by decide +kernel)
set_option maxRecDepth 100000 in
theorem zk_646_1 : zm1 zKS zuq zNS zm_646 4000 zt_646_1 = true := z1F (by decide +kernel)
set_option maxRecDepth 100000 in
theorem zk_646_2 : zm1 zKS zuq zNS zm_646 4000 zt_646_2 = true := z1F (by decide +kernel)
set_option maxRecDepth 100000 in
theorem zk_646_3 : zm1 zKS zuq zNS zm_646 4000 zt_646_3 = true := z1F (by decide +kernel)
set_option maxRecDepth 100000 in
theorem zk_646_4 : zm1 zKS zuq zNS zm_646 4000 zt_646_4 = true := z1F (by decide +kernel)
set_option maxRecDepth 100000 in
theorem zk_646_5 : zm1 zKS zuq zNS zm_646 4000 zt_646_5 = true := z1F (by decide +kernel)
set_option maxRecDepth 100000 in
theorem zk_646_6 : zm1 zKS zuq zNS zm_646 4000 zt_646_6 = true := z1F (by decide +kernel)
set_option maxRecDepth 100000 in
theorem zk_646_7 : zm1 zKS zuq zNS zm_646 4000 zt_646_7 = true := z1F (by decide +kernel)
set_option maxRecDepth 100000 in
theorem zk_646_8 : zm1 zKS zuq zNS zm_646 4000 zt_646_8 = true := z1F (by decide +kernel)
set_option maxRecDepth 100000 in
theorem zk_646_9 : zm1 zKS zuq zNS zm_646 4000 zt_646_9 = true := z1F (by decide +kernel)
set_option maxRecDepth 100000 in
theorem zk_646_10 : zm1 zKS zuq zNS zm_646 4000 zt_646_10 = true := z1F (by decide +kernel)
set_option maxRecDepth 100000 in
theorem zk_646_11 : zm1 zKS zuq zNS zm_646 4000 zt_646_11 = true := z1F (by decide +kernel)
set_option maxRecDepth 100000 in
theorem zk_646_12 : zm1 zKS zuq zNS zm_646 4000 zt_646_12 = true := z1F (by decide +kernel)
set_option maxRecDepth 100000 in
theorem zk_646_13 : zm1 zKS zuq zNS zm_646 4000 zt_646_13 = true := z1F (by decide +kernel)
set_option maxRecDepth 100000 in
theorem zk_646_14 : zm1 zKS zuq zNS zm_646 4000 zt_646_14 = true := z1F (by decide +kernel)
set_option maxRecDepth 100000 in
theorem zk_646_15 : zm1 zKS zuq zNS zm_646 4000 zt_646_15 = true := z1F (by decide +kernel)
set_option maxRecDepth 100000 in
theorem zk_646_16 : zm1 zKS zuq zNS zm_646 4000 zt_646_16 = true := z1F (by decide +kernel)
set_option maxRecDepth 100000 in
theorem zk_646_17 : zm1 zKS zuq zNS zm_646 4000 zt_646_17 = true := z1F (by decide +kernel)
set_option maxRecDepth 100000 in
theorem zk_646_18 : zm1 zKS zuq zNS zm_646 4000 zt_646_18 = true := z1F (by decide +kernel)
set_option maxRecDepth 100000 in
theorem zk_646_19 : zm1 zKS zuq zNS zm_646 4000 zt_646_19 = true := z1F (by decide +kernel)
set_option maxRecDepth 100000 in
theorem zk_646_20 : zm1 zKS zuq zNS zm_646 4000 zt_646_20 = true := z1F (by decide +kernel)
set_option maxRecDepth 100000 in
theorem zk_646_21 : zm1 zKS zuq zNS zm_646 4000 zt_646_21 = true := z1F (by decide +kernel)
set_option maxRecDepth 100000 in
theorem zk_646_22 : zm1 zKS zuq zNS zm_646 4000 zt_646_22 = true := z1F (by decide +kernel)
set_option maxRecDepth 100000 in
theorem zk_646_23 : zm1 zKS zuq zNS zm_646 4000 zt_646_23 = true := z1F (by decide +kernel)
set_option maxRecDepth 100000 in
theorem zk_646_24 : zm1 zKS zuq zNS zm_646 4000 zt_646_24 = true := z1F (by decide +kernel)
set_option maxRecDepth 100000 in
theorem zk_646_25 : zm1 zKS zuq zNS zm_646 4000 zt_646_25 = true := z1F (by decide +kernel)
set_option maxRecDepth 100000 in
theorem zk_646_26 : zm1 zKS zuq zNS zm_646 4000 zt_646_26 = true := z1F (by decide +kernel)
set_option maxRecDepth 100000 in
theorem zk_646_27 : zm1 zKS zuq zNS zm_646 4000 zt_646_27 = true := z1F (by decide +kernel)
set_option maxRecDepth 100000 in
theorem zk_646_28 : zm1 zKS zuq zNS zm_646 4000 zt_646_28 = true := z1F (by decide +kernel)
set_option maxRecDepth 100000 in
theorem zk_646_29 : zm1 zKS zuq zNS zm_646 4000 zt_646_29 = true := z1F (by decide +kernel)
set_option maxRecDepth 100000 in
theorem zk_646_30 : zm1 zKS zuq zNS zm_646 4000 zt_646_30 = true := z1F (by decide +kernel)
set_option maxRecDepth 100000 in
theorem zk_646_31 : zm1 zKS zuq zNS zm_646 4000 zt_646_31 = true := z1F (by decide +kernel)
set_option maxRecDepth 100000 in
theorem zk_646_32 : zm1 zKS zuq zNS zm_646 4000 zt_646_32 = true := z1F (by decide +kernel)
set_option maxRecDepth 100000 in
theorem zk_646_33 : zm1 zKS zuq zNS zm_646 4000 zt_646_33 = true := z1F (by decide +kernel)
set_option maxRecDepth 100000 in
theorem zk_646_34 : zm1 zKS zuq zNS zm_646 4000 zt_646_34 = true := z1F (by decide +kernel)
set_option maxRecDepth 100000 in
theorem zk_646_35 : zm1 zKS zuq zNS zm_646 4000 zt_646_35 = true := z1F (by decide +kernel)
set_option maxRecDepth 100000 in
theorem zk_646_36 : zm1 zKS zuq zNS zm_646 4000 zt_646_36 = true := z1F (by decide +kernel)
set_option maxRecDepth 100000 in
theorem zk_646_37 : zm1 zKS zuq zNS zm_646 4000 zt_646_37 = true := z1F (by decide +kernel)
set_option maxRecDepth 100000 in
theorem zk_646_38 : zm1 zKS zuq zNS zm_646 4000 zt_646_38 = true := z1F (by decide +kernel)
set_option maxRecDepth 100000 in
theorem zk_646_39 : zm1 zKS zuq zNS zm_646 4000 zt_646_39 = true := z1F (by decide +kernel)
set_option maxRecDepth 100000 in
theorem zk_646_40 : zm1 zKS zuq zNS zm_646 4000 zt_646_40 = true := z1F (by decide +kernel)
set_option maxRecDepth 100000 in
theorem zk_646_41 : zm1 zKS zuq zNS zm_646 4000 zt_646_41 = true := z1F (by decide +kernel)
set_option maxRecDepth 100000 in
theorem zk_646_42 : zm1 zKS zuq zNS zm_646 4000 zt_646_42 = true := z1F (by decide +kernel)
set_option maxRecDepth 100000 in
theorem zk_646_43 : zm1 zKS zuq zNS zm_646 4000 zt_646_43 = true := z1F (by decide +kernel)
set_option maxRecDepth 100000 in
theorem zk_646_44 : zm1 zKS zuq zNS zm_646 4000 zt_646_44 = true := z1F (by decide +kernel)
set_option maxRecDepth 100000 in
theorem zk_646_45 : zm1 zKS zuq zNS zm_646 4000 zt_646_45 = true := z1F (by decide +kernel)
set_option maxRecDepth 100000 in
theorem zk_646_46 : zm1 zKS zuq zNS zm_646 4000 zt_646_46 = true := z1F (by decide +kernel)
set_option maxRecDepth 100000 in
theorem zk_646_47 : zm1 zKS zuq zNS zm_646 4000 zt_646_47 = true := z1F (by decide +kernel)
set_option maxRecDepth 100000 in
theorem zk_646_48 : zm1 zKS zuq zNS zm_646 4000 zt_646_48 = true := z1F (by decide +kernel)
set_option maxRecDepth 100000 in
theorem zk_646_49 : zm1 zKS zuq zNS zm_646 4000 zt_646_49 = true := z1F (by decide +kernel)
set_option maxRecDepth 100000 in
theorem zk_646_50 : zm1 zKS zuq zNS zm_646 4000 zt_646_50 = true := z1F (by decide +kernel)
set_option maxRecDepth 100000 in
theorem zk_646_51 : zm1 zKS zuq zNS zm_646 4000 zt_646_51 = true := z1F (by decide +kernel)
set_option maxRecDepth 100000 in
theorem zk_646_52 : zm1 zKS zuq zNS zm_646 4000 zt_646_52 = true := z1F (by decide +kernel)
set_option maxRecDepth 100000 in
theorem zk_646_53 : zm1 zKS zuq zNS zm_646 4000 zt_646_53 = true := z1F (by decide +kernel)
set_option maxRecDepth 100000 in
theorem zk_646_54 : zm1 zKS zuq zNS zm_646 4000 zt_646_54 = true := z1F (by decide +kernel)
set_option maxRecDepth 100000 in
theorem zk_646_55 : zm1 zKS zuq zNS zm_646 4000 zt_646_55 = true := z1F (by decide +kernel)
set_option maxRecDepth 100000 in
theorem zk_646_56 : zm1 zKS zuq zNS zm_646 4000 zt_646_56 = true := z1F (by decide +kernel)
set_option maxRecDepth 100000 in
theorem zk_646_57 : zm1 zKS zuq zNS zm_646 4000 zt_646_57 = true := z1F (by decide +kernel)
set_option maxRecDepth 100000 in
theorem zk_646_58 : zm1 zKS zuq zNS zm_646 4000 zt_646_58 = true := z1F (by decide +kernel)
set_option maxRecDepth 100000 in
theorem zk_646_59 : zm1 zKS zuq zNS zm_646 4000 zt_646_59 = true := z1F (by decide +kernel)
set_option maxRecDepth 100000 in
theorem zk_646_60 : zm1 zKS zuq zNS zm_646 4000 zt_646_60 = true := z1F (by decide +kernel)
set_option maxRecDepth 100000 in
theorem zk_646_61 : zm1 zKS zuq zNS zm_646 4000 zt_646_61 = true := z1F (by decide +kernel)
set_option maxRecDepth 100000 in
theorem zk_646_62 : zm1 zKS zuq zNS zm_646 4000 zt_646_62 = true := z1F (by decide +kernel)
set_option maxRecDepth 100000 in
theorem zk_646_63 : zm1 zKS zuq zNS zm_646 4000 zt_646_63 = true := z1F (by decide +kernel)
set_option maxRecDepth 100000 in
theorem zk_646_64 : zm1 zKS zuq zNS zm_646 4000 zt_646_64 = true := z1F (by decide +kernel)
set_option maxRecDepth 100000 in
theorem zk_646_65 : zm1 zKS zuq zNS zm_646 4000 zt_646_65 = true := z1F (by decide +kernel)
set_option maxRecDepth 100000 in
theorem zk_646_66 : zm1 zKS zuq zNS zm_646 4000 zt_646_66 = true := z1F (by decide +kernel)
set_option maxRecDepth 100000 in
theorem zk_646_67 : zm1 zKS zuq zNS zm_646 4000 zt_646_67 = true := z1F (by decide +kernel)
set_option maxRecDepth 100000 in
theorem zk_646_68 : zm1 zKS zuq zNS zm_646 4000 zt_646_68 = true := z1F (by decide +kernel)
set_option maxRecDepth 100000 in
theorem zk_646_69 : zm1 zKS zuq zNS zm_646 4000 zt_646_69 = true := z1F (by decide +kernel)
set_option maxRecDepth 100000 in
theorem zk_646_70 : zm1 zKS zuq zNS zm_646 4000 zt_646_70 = true := z1F (by decide +kernel)
set_option maxRecDepth 100000 in
theorem zk_646_71 : zm1 zKS zuq zNS zm_646 4000 zt_646_71 = true := z1F (by decide +kernel)
set_option maxRecDepth 100000 in
theorem zk_646_72 : zm1 zKS zuq zNS zm_646 4000 zt_646_72 = true := z1F (by decide +kernel)
set_option maxRecDepth 100000 in
theorem zk_646_73 : zm1 zKS zuq zNS zm_646 4000 zt_646_73 = true := z1F (by decide +kernel)
set_option maxRecDepth 100000 in
theorem zk_646_74 : zm1 zKS zuq zNS zm_646 4000 zt_646_74 = true := z1F (by decide +kernel)
set_option maxRecDepth 100000 in
theorem zk_646_75 : zm1 zKS zuq zNS zm_646 4000 zt_646_75 = true := z1F (by decide +kernel)
set_option maxRecDepth 100000 in
theorem zk_646_76 : zm1 zKS zuq zNS zm_646 4000 zt_646_76 = true := z1F (by decide +kernel)
set_option maxRecDepth 100000 in
theorem zk_646_77 : zm1 zKS zuq zNS zm_646 4000 zt_646_77 = true := z1F (by decide +kernel)
set_option maxRecDepth 100000 in
theorem zk_646_78 : zm1 zKS zuq zNS zm_646 4000 zt_646_78 = true := z1F (by decide +kernel)
set_option maxRecDepth 100000 in
theorem zk_646_79 : zm1 zKS zuq zNS zm_646 4000 zt_646_79 = true := z1F (by decide +kernel)
set_option maxRecDepth 100000 in
theorem zk_646_80 : zm1 zKS zuq zNS zm_646 4000 zt_646_80 = true := z1F (by decide +kernel)
set_option maxRecDepth 100000 in
theorem zk_646_81 : zm1 zKS zuq zNS zm_646 4000 zt_646_81 = true := z1F (by decide +kernel)
set_option maxRecDepth 100000 in
theorem zk_646_82 : zm1 zKS zuq zNS zm_646 4000 zt_646_82 = true := z1F (by decide +kernel)
set_option maxRecDepth 100000 in
theorem zk_646_83 : zm1 zKS zuq zNS zm_646 4000 zt_646_83 = true := z1F (by decide +kernel)
set_option maxRecDepth 100000 in
theorem zk_646_s : zm0 zKS zuq zNS zm_646 4000 = true := z0F (by decide +kernel)
set_option maxRecDepth 100000 in
theorem zk_646 : zmeth zKS zuq zNS zm_646 4000 = true := zmeth_by zk_646_s (List.forall_mem_cons.mpr ⟨zk_646_0, (List.forall_mem_cons.mpr ⟨zk_646_1, (List.forall_mem_cons.mpr ⟨zk_646_2, (List.forall_mem_cons.mpr ⟨zk_646_3, (List.forall_mem_cons.mpr ⟨zk_646_4, (List.forall_mem_cons.mpr ⟨zk_646_5, (List.forall_mem_cons.mpr ⟨zk_646_6, (List.forall_mem_cons.mpr ⟨zk_646_7, (List.forall_mem_cons.mpr ⟨zk_646_8, (List.forall_mem_cons.mpr ⟨zk_646_9, (List.forall_mem_cons.mpr ⟨zk_646_10, (List.forall_mem_cons.mpr ⟨zk_646_11, (List.forall_mem_cons.mpr ⟨zk_646_12, (List.forall_mem_cons.mpr ⟨zk_646_13, (List.forall_mem_cons.mpr ⟨zk_646_14, (List.forall_mem_cons.mpr ⟨zk_646_15, (List.forall_mem_cons.mpr ⟨zk_646_16, (List.forall_mem_cons.mpr ⟨zk_646_17, (List.forall_mem_cons.mpr ⟨zk_646_18, (List.forall_mem_cons.mpr ⟨zk_646_19, (List.forall_mem_cons.mpr ⟨zk_646_20, (List.forall_mem_cons.mpr ⟨zk_646_21, (List.forall_mem_cons.mpr ⟨zk_646_22, (List.forall_mem_cons.mpr ⟨zk_646_23, (List.forall_mem_cons.mpr ⟨zk_646_24, (List.forall_mem_cons.mpr ⟨zk_646_25, (List.forall_mem_cons.mpr ⟨zk_646_26, (List.forall_mem_cons.mpr ⟨zk_646_27, (List.forall_mem_cons.mpr ⟨zk_646_28, (List.forall_mem_cons.mpr ⟨zk_646_29, (List.forall_mem_cons.mpr ⟨zk_646_30, (List.forall_mem_cons.mpr ⟨zk_646_31, (List.forall_mem_cons.mpr ⟨zk_646_32, (List.forall_mem_cons.mpr ⟨zk_646_33, (List.forall_mem_cons.mpr ⟨zk_646_34, (List.forall_mem_cons.mpr ⟨zk_646_35, (List.forall_mem_cons.mpr ⟨zk_646_36, (List.forall_mem_cons.mpr ⟨zk_646_37, (List.forall_mem_cons.mpr ⟨zk_646_38, (List.forall_mem_cons.mpr ⟨zk_646_39, (List.forall_mem_cons.mpr ⟨zk_646_40, (List.forall_mem_cons.mpr ⟨zk_646_41, (List.forall_mem_cons.mpr ⟨zk_646_42, (List.forall_mem_cons.mpr ⟨zk_646_43, (List.forall_mem_cons.mpr ⟨zk_646_44, (List.forall_mem_cons.mpr ⟨zk_646_45, (List.forall_mem_cons.mpr ⟨zk_646_46, (List.forall_mem_cons.mpr ⟨zk_646_47, (List.forall_mem_cons.mpr ⟨zk_646_48, (List.forall_mem_cons.mpr ⟨zk_646_49, (List.forall_mem_cons.mpr ⟨zk_646_50, (List.forall_mem_cons.mpr ⟨zk_646_51, (List.forall_mem_cons.mpr ⟨zk_646_52, (List.forall_mem_cons.mpr ⟨zk_646_53, (List.forall_mem_cons.mpr ⟨zk_646_54, (List.forall_mem_cons.mpr ⟨zk_646_55, (List.forall_mem_cons.mpr ⟨zk_646_56, (List.forall_mem_cons.mpr ⟨zk_646_57, (List.forall_mem_cons.mpr ⟨zk_646_58, (List.forall_mem_cons.mpr ⟨zk_646_59, (List.forall_mem_cons.mpr ⟨zk_646_60, (List.forall_mem_cons.mpr ⟨zk_646_61, (List.forall_mem_cons.mpr ⟨zk_646_62, (List.forall_mem_cons.mpr ⟨zk_646_63, (List.forall_mem_cons.mpr ⟨zk_646_64, (List.forall_mem_cons.mpr ⟨zk_646_65, (List.forall_mem_cons.mpr ⟨zk_646_66, (List.forall_mem_cons.mpr ⟨zk_646_67, (List.forall_mem_cons.mpr ⟨zk_646_68, (List.forall_mem_cons.mpr ⟨zk_646_69, (List.forall_mem_cons.mpr ⟨zk_646_70, (List.forall_mem_cons.mpr ⟨zk_646_71, (List.forall_mem_cons.mpr ⟨zk_646_72, (List.forall_mem_cons.mpr ⟨zk_646_73, (List.forall_mem_cons.mpr ⟨zk_646_74, (List.forall_mem_cons.mpr ⟨zk_646_75, (List.forall_mem_cons.mpr ⟨zk_646_76, (List.forall_mem_cons.mpr ⟨zk_646_77, (List.forall_mem_cons.mpr ⟨zk_646_78, (List.forall_mem_cons.mpr ⟨zk_646_79, (List.forall_mem_cons.mpr ⟨zk_646_80, (List.forall_mem_cons.mpr ⟨zk_646_81, (List.forall_mem_cons.mpr ⟨zk_646_82, (List.forall_mem_cons.mpr ⟨zk_646_83, nilz⟩)⟩)⟩)⟩)⟩)⟩)⟩)⟩)⟩)⟩)⟩)⟩)⟩)⟩)⟩)⟩)⟩)⟩)⟩)⟩)⟩)⟩)⟩)⟩)⟩)⟩)⟩)⟩)⟩)⟩)⟩)⟩)⟩)⟩)⟩)⟩)⟩)⟩)⟩)⟩)⟩)⟩)⟩)⟩)⟩)⟩)⟩)⟩)⟩)⟩)⟩)⟩)⟩)⟩)⟩)⟩)⟩)⟩)⟩)⟩)⟩)⟩)⟩)⟩)⟩)⟩)⟩)⟩)⟩)⟩)⟩)⟩)⟩)⟩)⟩)⟩)⟩)⟩)⟩)⟩)⟩)⟩)⟩)⟩)
set_option maxRecDepth 100000 in
theorem zM_646 {l : Launch} {D : va_G} {cI cZ cB cJ cR : ClassId} {ks ad : List Nat} {Psi : va_W → Prop} (hw : zworld ks ad zuq zNS Psi) (hm : zMan l D cI cZ cB cJ cR ks ad Psi) : zMet l D cI cZ cB cJ cR zKS ks ad Psi yX5_closed (.code yX5_closed cX5_closed 6 (some .int)) 3 zc_646 :=
  zmet_of hw 3 (by decide) 4000 zk_646 (by decide) (by decide) (fun X => ⟨zg_RX5 X, zp_RX5 X, zl1_RX5 X, zl2_RX5 X, nilz, (List.forall_mem_cons.mpr ⟨zq_RX5_83 X (zM_303 hw hm) (by decide) rfl rfl, (List.forall_mem_cons.mpr ⟨zq_RX5_109 X (zM_292 hw hm) (by decide) rfl rfl, (List.forall_mem_cons.mpr ⟨zq_RX5_149 X (zM_0 hw hm) (by decide) rfl, (List.forall_mem_cons.mpr ⟨zq_RX5_239 X (zM_357 hw hm) (by decide) rfl rfl, (List.forall_mem_cons.mpr ⟨zq_RX5_239 X (zM_358 hw hm) (by decide) rfl rfl, (List.forall_mem_cons.mpr ⟨zq_RX5_239 X (zM_359 hw hm) (by decide) rfl rfl, (List.forall_mem_cons.mpr ⟨zq_RX5_239 X (zM_361 hw hm) (by decide) rfl rfl, (List.forall_mem_cons.mpr ⟨zq_RX5_239 X (zM_362 hw hm) (by decide) rfl rfl, (List.forall_mem_cons.mpr ⟨zq_RX5_239 X (zM_364 hw hm) (by decide) rfl rfl, (List.forall_mem_cons.mpr ⟨zq_RX5_239 X (zM_365 hw hm) (by decide) rfl rfl, (List.forall_mem_cons.mpr ⟨zq_RX5_239 X (zM_367 hw hm) (by decide) rfl rfl, (List.forall_mem_cons.mpr ⟨zq_RX5_239 X (zM_368 hw hm) (by decide) rfl rfl, (List.forall_mem_cons.mpr ⟨zq_RX5_239 X (zM_369 hw hm) (by decide) rfl rfl, (List.forall_mem_cons.mpr ⟨zq_RX5_239 X (zM_371 hw hm) (by decide) rfl rfl, (List.forall_mem_cons.mpr ⟨zq_RX5_239 X (zM_372 hw hm) (by decide) rfl rfl, (List.forall_mem_cons.mpr ⟨zq_RX5_239 X (zM_374 hw hm) (by decide) rfl rfl, (List.forall_mem_cons.mpr ⟨zq_RX5_239 X (zM_375 hw hm) (by decide) rfl rfl, (List.forall_mem_cons.mpr ⟨zq_RX5_239 X (zM_377 hw hm) (by decide) rfl rfl, (List.forall_mem_cons.mpr ⟨zq_RX5_239 X (zM_378 hw hm) (by decide) rfl rfl, (List.forall_mem_cons.mpr ⟨zq_RX5_239 X (zM_381 hw hm) (by decide) rfl rfl, (List.forall_mem_cons.mpr ⟨zq_RX5_239 X (zM_382 hw hm) (by decide) rfl rfl, (List.forall_mem_cons.mpr ⟨zq_RX5_239 X (zM_384 hw hm) (by decide) rfl rfl, (List.forall_mem_cons.mpr ⟨zq_RX5_239 X (zM_385 hw hm) (by decide) rfl rfl, (List.forall_mem_cons.mpr ⟨zq_RX5_239 X (zM_387 hw hm) (by decide) rfl rfl, (List.forall_mem_cons.mpr ⟨zq_RX5_239 X (zM_388 hw hm) (by decide) rfl rfl, (List.forall_mem_cons.mpr ⟨zq_RX5_239 X (zM_390 hw hm) (by decide) rfl rfl, (List.forall_mem_cons.mpr ⟨zq_RX5_239 X (zM_391 hw hm) (by decide) rfl rfl, (List.forall_mem_cons.mpr ⟨zq_RX5_239 X (zM_392 hw hm) (by decide) rfl rfl, (List.forall_mem_cons.mpr ⟨zq_RX5_239 X (zM_394 hw hm) (by decide) rfl rfl, (List.forall_mem_cons.mpr ⟨zq_RX5_239 X (zM_395 hw hm) (by decide) rfl rfl, (List.forall_mem_cons.mpr ⟨zq_RX5_239 X (zM_397 hw hm) (by decide) rfl rfl, (List.forall_mem_cons.mpr ⟨zq_RX5_239 X (zM_398 hw hm) (by decide) rfl rfl, (List.forall_mem_cons.mpr ⟨zq_RX5_239 X (zM_400 hw hm) (by decide) rfl rfl, (List.forall_mem_cons.mpr ⟨zq_RX5_239 X (zM_401 hw hm) (by decide) rfl rfl, (List.forall_mem_cons.mpr ⟨zq_RX5_239 X (zM_402 hw hm) (by decide) rfl rfl, (List.forall_mem_cons.mpr ⟨zq_RX5_239 X (zM_404 hw hm) (by decide) rfl rfl, (List.forall_mem_cons.mpr ⟨zq_RX5_239 X (zM_405 hw hm) (by decide) rfl rfl, (List.forall_mem_cons.mpr ⟨zq_RX5_239 X (zM_407 hw hm) (by decide) rfl rfl, (List.forall_mem_cons.mpr ⟨zq_RX5_239 X (zM_408 hw hm) (by decide) rfl rfl, (List.forall_mem_cons.mpr ⟨zq_RX5_239 X (zM_410 hw hm) (by decide) rfl rfl, (List.forall_mem_cons.mpr ⟨zq_RX5_239 X (zM_411 hw hm) (by decide) rfl rfl, (List.forall_mem_cons.mpr ⟨zq_RX5_239 X (zM_413 hw hm) (by decide) rfl rfl, (List.forall_mem_cons.mpr ⟨zq_RX5_239 X (zM_414 hw hm) (by decide) rfl rfl, (List.forall_mem_cons.mpr ⟨zq_RX5_239 X (zM_417 hw hm) (by decide) rfl rfl, (List.forall_mem_cons.mpr ⟨zq_RX5_239 X (zM_418 hw hm) (by decide) rfl rfl, (List.forall_mem_cons.mpr ⟨zq_RX5_239 X (zM_419 hw hm) (by decide) rfl rfl, (List.forall_mem_cons.mpr ⟨zq_RX5_239 X (zM_421 hw hm) (by decide) rfl rfl, (List.forall_mem_cons.mpr ⟨zq_RX5_239 X (zM_422 hw hm) (by decide) rfl rfl, (List.forall_mem_cons.mpr ⟨zq_RX5_239 X (zM_424 hw hm) (by decide) rfl rfl, (List.forall_mem_cons.mpr ⟨zq_RX5_239 X (zM_425 hw hm) (by decide) rfl rfl, (List.forall_mem_cons.mpr ⟨zq_RX5_239 X (zM_427 hw hm) (by decide) rfl rfl, (List.forall_mem_cons.mpr ⟨zq_RX5_239 X (zM_428 hw hm) (by decide) rfl rfl, (List.forall_mem_cons.mpr ⟨zq_RX5_239 X (zM_429 hw hm) (by decide) rfl rfl, (List.forall_mem_cons.mpr ⟨zq_RX5_239 X (zM_431 hw hm) (by decide) rfl rfl, (List.forall_mem_cons.mpr ⟨zq_RX5_239 X (zM_432 hw hm) (by decide) rfl rfl, (List.forall_mem_cons.mpr ⟨zq_RX5_239 X (zM_434 hw hm) (by decide) rfl rfl, (List.forall_mem_cons.mpr ⟨zq_RX5_239 X (zM_435 hw hm) (by decide) rfl rfl, (List.forall_mem_cons.mpr ⟨zq_RX5_239 X (zM_437 hw hm) (by decide) rfl rfl, (List.forall_mem_cons.mpr ⟨zq_RX5_239 X (zM_438 hw hm) (by decide) rfl rfl, (List.forall_mem_cons.mpr ⟨zq_RX5_239 X (zM_441 hw hm) (by decide) rfl rfl, (List.forall_mem_cons.mpr ⟨zq_RX5_239 X (zM_442 hw hm) (by decide) rfl rfl, (List.forall_mem_cons.mpr ⟨zq_RX5_239 X (zM_444 hw hm) (by decide) rfl rfl, (List.forall_mem_cons.mpr ⟨zq_RX5_239 X (zM_445 hw hm) (by decide) rfl rfl, (List.forall_mem_cons.mpr ⟨zq_RX5_239 X (zM_447 hw hm) (by decide) rfl rfl, (List.forall_mem_cons.mpr ⟨zq_RX5_239 X (zM_448 hw hm) (by decide) rfl rfl, (List.forall_mem_cons.mpr ⟨zq_RX5_239 X (zM_450 hw hm) (by decide) rfl rfl, (List.forall_mem_cons.mpr ⟨zq_RX5_239 X (zM_451 hw hm) (by decide) rfl rfl, (List.forall_mem_cons.mpr ⟨zq_RX5_239 X (zM_452 hw hm) (by decide) rfl rfl, (List.forall_mem_cons.mpr ⟨zq_RX5_239 X (zM_454 hw hm) (by decide) rfl rfl, (List.forall_mem_cons.mpr ⟨zq_RX5_239 X (zM_455 hw hm) (by decide) rfl rfl, (List.forall_mem_cons.mpr ⟨zq_RX5_239 X (zM_457 hw hm) (by decide) rfl rfl, (List.forall_mem_cons.mpr ⟨zq_RX5_239 X (zM_458 hw hm) (by decide) rfl rfl, (List.forall_mem_cons.mpr ⟨zq_RX5_239 X (zM_460 hw hm) (by decide) rfl rfl, (List.forall_mem_cons.mpr ⟨zq_RX5_239 X (zM_461 hw hm) (by decide) rfl rfl, (List.forall_mem_cons.mpr ⟨zq_RX5_239 X (zM_462 hw hm) (by decide) rfl rfl, (List.forall_mem_cons.mpr ⟨zq_RX5_239 X (zM_464 hw hm) (by decide) rfl rfl, (List.forall_mem_cons.mpr ⟨zq_RX5_239 X (zM_465 hw hm) (by decide) rfl rfl, (List.forall_mem_cons.mpr ⟨zq_RX5_239 X (zM_467 hw hm) (by decide) rfl rfl, (List.forall_mem_cons.mpr ⟨zq_RX5_239 X (zM_468 hw hm) (by decide) rfl rfl, (List.forall_mem_cons.mpr ⟨zq_RX5_239 X (zM_470 hw hm) (by decide) rfl rfl, (List.forall_mem_cons.mpr ⟨zq_RX5_239 X (zM_471 hw hm) (by decide) rfl rfl, (List.forall_mem_cons.mpr ⟨zq_RX5_239 X (zM_473 hw hm) (by decide) rfl rfl, (List.forall_mem_cons.mpr ⟨zq_RX5_239 X (zM_474 hw hm) (by decide) rfl rfl, (List.forall_mem_cons.mpr ⟨zq_RX5_239 X (zM_477 hw hm) (by decide) rfl rfl, (List.forall_mem_cons.mpr ⟨zq_RX5_239 X (zM_478 hw hm) (by decide) rfl rfl, (List.forall_mem_cons.mpr ⟨zq_RX5_239 X (zM_479 hw hm) (by decide) rfl rfl, (List.forall_mem_cons.mpr ⟨zq_RX5_239 X (zM_481 hw hm) (by decide) rfl rfl, (List.forall_mem_cons.mpr ⟨zq_RX5_239 X (zM_482 hw hm) (by decide) rfl rfl, (List.forall_mem_cons.mpr ⟨zq_RX5_239 X (zM_484 hw hm) (by decide) rfl rfl, (List.forall_mem_cons.mpr ⟨zq_RX5_239 X (zM_485 hw hm) (by decide) rfl rfl, (List.forall_mem_cons.mpr ⟨zq_RX5_239 X (zM_487 hw hm) (by decide) rfl rfl, (List.forall_mem_cons.mpr ⟨zq_RX5_239 X (zM_488 hw hm) (by decide) rfl rfl, (List.forall_mem_cons.mpr ⟨zq_RX5_239 X (zM_489 hw hm) (by decide) rfl rfl, (List.forall_mem_cons.mpr ⟨zq_RX5_239 X (zM_491 hw hm) (by decide) rfl rfl, (List.forall_mem_cons.mpr ⟨zq_RX5_239 X (zM_492 hw hm) (by decide) rfl rfl, (List.forall_mem_cons.mpr ⟨zq_RX5_239 X (zM_494 hw hm) (by decide) rfl rfl, (List.forall_mem_cons.mpr ⟨zq_RX5_239 X (zM_495 hw hm) (by decide) rfl rfl, (List.forall_mem_cons.mpr ⟨zq_RX5_239 X (zM_497 hw hm) (by decide) rfl rfl, (List.forall_mem_cons.mpr ⟨zq_RX5_239 X (zM_498 hw hm) (by decide) rfl rfl, (List.forall_mem_cons.mpr ⟨zq_RX5_239 X (zM_501 hw hm) (by decide) rfl rfl, (List.forall_mem_cons.mpr ⟨zq_RX5_239 X (zM_502 hw hm) (by decide) rfl rfl, (List.forall_mem_cons.mpr ⟨zq_RX5_239 X (zM_504 hw hm) (by decide) rfl rfl, (List.forall_mem_cons.mpr ⟨zq_RX5_239 X (zM_505 hw hm) (by decide) rfl rfl, (List.forall_mem_cons.mpr ⟨zq_RX5_239 X (zM_507 hw hm) (by decide) rfl rfl, (List.forall_mem_cons.mpr ⟨zq_RX5_239 X (zM_508 hw hm) (by decide) rfl rfl, (List.forall_mem_cons.mpr ⟨zq_RX5_239 X (zM_510 hw hm) (by decide) rfl rfl, (List.forall_mem_cons.mpr ⟨zq_RX5_239 X (zM_511 hw hm) (by decide) rfl rfl, (List.forall_mem_cons.mpr ⟨zq_RX5_239 X (zM_512 hw hm) (by decide) rfl rfl, (List.forall_mem_cons.mpr ⟨zq_RX5_239 X (zM_514 hw hm) (by decide) rfl rfl, (List.forall_mem_cons.mpr ⟨zq_RX5_239 X (zM_515 hw hm) (by decide) rfl rfl, (List.forall_mem_cons.mpr ⟨zq_RX5_239 X (zM_517 hw hm) (by decide) rfl rfl, (List.forall_mem_cons.mpr ⟨zq_RX5_239 X (zM_518 hw hm) (by decide) rfl rfl, (List.forall_mem_cons.mpr ⟨zq_RX5_239 X (zM_520 hw hm) (by decide) rfl rfl, (List.forall_mem_cons.mpr ⟨zq_RX5_239 X (zM_521 hw hm) (by decide) rfl rfl, (List.forall_mem_cons.mpr ⟨zq_RX5_239 X (zM_522 hw hm) (by decide) rfl rfl, (List.forall_mem_cons.mpr ⟨zq_RX5_239 X (zM_524 hw hm) (by decide) rfl rfl, (List.forall_mem_cons.mpr ⟨zq_RX5_239 X (zM_525 hw hm) (by decide) rfl rfl, (List.forall_mem_cons.mpr ⟨zq_RX5_239 X (zM_527 hw hm) (by decide) rfl rfl, (List.forall_mem_cons.mpr ⟨zq_RX5_239 X (zM_528 hw hm) (by decide) rfl rfl, (List.forall_mem_cons.mpr ⟨zq_RX5_239 X (zM_530 hw hm) (by decide) rfl rfl, (List.forall_mem_cons.mpr ⟨zq_RX5_239 X (zM_531 hw hm) (by decide) rfl rfl, (List.forall_mem_cons.mpr ⟨zq_RX5_239 X (zM_533 hw hm) (by decide) rfl rfl, (List.forall_mem_cons.mpr ⟨zq_RX5_239 X (zM_534 hw hm) (by decide) rfl rfl, (List.forall_mem_cons.mpr ⟨zq_RX5_239 X (zM_537 hw hm) (by decide) rfl rfl, (List.forall_mem_cons.mpr ⟨zq_RX5_239 X (zM_538 hw hm) (by decide) rfl rfl, (List.forall_mem_cons.mpr ⟨zq_RX5_239 X (zM_539 hw hm) (by decide) rfl rfl, (List.forall_mem_cons.mpr ⟨zq_RX5_239 X (zM_541 hw hm) (by decide) rfl rfl, (List.forall_mem_cons.mpr ⟨zq_RX5_239 X (zM_542 hw hm) (by decide) rfl rfl, (List.forall_mem_cons.mpr ⟨zq_RX5_239 X (zM_544 hw hm) (by decide) rfl rfl, (List.forall_mem_cons.mpr ⟨zq_RX5_239 X (zM_545 hw hm) (by decide) rfl rfl, (List.forall_mem_cons.mpr ⟨zq_RX5_239 X (zM_547 hw hm) (by decide) rfl rfl, (List.forall_mem_cons.mpr ⟨zq_RX5_239 X (zM_548 hw hm) (by decide) rfl rfl, (List.forall_mem_cons.mpr ⟨zq_RX5_239 X (zM_549 hw hm) (by decide) rfl rfl, (List.forall_mem_cons.mpr ⟨zq_RX5_239 X (zM_551 hw hm) (by decide) rfl rfl, (List.forall_mem_cons.mpr ⟨zq_RX5_239 X (zM_552 hw hm) (by decide) rfl rfl, (List.forall_mem_cons.mpr ⟨zq_RX5_239 X (zM_554 hw hm) (by decide) rfl rfl, (List.forall_mem_cons.mpr ⟨zq_RX5_239 X (zM_555 hw hm) (by decide) rfl rfl, (List.forall_mem_cons.mpr ⟨zq_RX5_239 X (zM_557 hw hm) (by decide) rfl rfl, (List.forall_mem_cons.mpr ⟨zq_RX5_239 X (zM_558 hw hm) (by decide) rfl rfl, (List.forall_mem_cons.mpr ⟨zq_RX5_239 X (zM_561 hw hm) (by decide) rfl rfl, (List.forall_mem_cons.mpr ⟨zq_RX5_239 X (zM_562 hw hm) (by decide) rfl rfl, (List.forall_mem_cons.mpr ⟨zq_RX5_239 X (zM_564 hw hm) (by decide) rfl rfl, (List.forall_mem_cons.mpr ⟨zq_RX5_239 X (zM_565 hw hm) (by decide) rfl rfl, (List.forall_mem_cons.mpr ⟨zq_RX5_239 X (zM_567 hw hm) (by decide) rfl rfl, (List.forall_mem_cons.mpr ⟨zq_RX5_239 X (zM_568 hw hm) (by decide) rfl rfl, (List.forall_mem_cons.mpr ⟨zq_RX5_239 X (zM_570 hw hm) (by decide) rfl rfl, (List.forall_mem_cons.mpr ⟨zq_RX5_239 X (zM_571 hw hm) (by decide) rfl rfl, (List.forall_mem_cons.mpr ⟨zq_RX5_239 X (zM_572 hw hm) (by decide) rfl rfl, (List.forall_mem_cons.mpr ⟨zq_RX5_239 X (zM_574 hw hm) (by decide) rfl rfl, (List.forall_mem_cons.mpr ⟨zq_RX5_239 X (zM_575 hw hm) (by decide) rfl rfl, (List.forall_mem_cons.mpr ⟨zq_RX5_239 X (zM_577 hw hm) (by decide) rfl rfl, (List.forall_mem_cons.mpr ⟨zq_RX5_239 X (zM_578 hw hm) (by decide) rfl rfl, (List.forall_mem_cons.mpr ⟨zq_RX5_239 X (zM_580 hw hm) (by decide) rfl rfl, (List.forall_mem_cons.mpr ⟨zq_RX5_239 X (zM_581 hw hm) (by decide) rfl rfl, (List.forall_mem_cons.mpr ⟨zq_RX5_239 X (zM_582 hw hm) (by decide) rfl rfl, (List.forall_mem_cons.mpr ⟨zq_RX5_239 X (zM_584 hw hm) (by decide) rfl rfl, (List.forall_mem_cons.mpr ⟨zq_RX5_239 X (zM_585 hw hm) (by decide) rfl rfl, (List.forall_mem_cons.mpr ⟨zq_RX5_239 X (zM_587 hw hm) (by decide) rfl rfl, (List.forall_mem_cons.mpr ⟨zq_RX5_239 X (zM_588 hw hm) (by decide) rfl rfl, (List.forall_mem_cons.mpr ⟨zq_RX5_239 X (zM_590 hw hm) (by decide) rfl rfl, (List.forall_mem_cons.mpr ⟨zq_RX5_239 X (zM_591 hw hm) (by decide) rfl rfl, (List.forall_mem_cons.mpr ⟨zq_RX5_239 X (zM_593 hw hm) (by decide) rfl rfl, (List.forall_mem_cons.mpr ⟨zq_RX5_239 X (zM_594 hw hm) (by decide) rfl rfl, (List.forall_mem_cons.mpr ⟨zq_RX5_247 X (zM_773 hw hm) (by decide) rfl rfl, (List.forall_mem_cons.mpr ⟨zq_RX5_247 X (zM_774 hw hm) (by decide) rfl rfl, (List.forall_mem_cons.mpr ⟨zq_RX5_247 X (zM_775 hw hm) (by decide) rfl rfl, (List.forall_mem_cons.mpr ⟨zq_RX5_247 X (zM_776 hw hm) (by decide) rfl rfl, (List.forall_mem_cons.mpr ⟨zq_RX5_247 X (zM_777 hw hm) (by decide) rfl rfl, (List.forall_mem_cons.mpr ⟨zq_RX5_247 X (zM_772 hw hm) (by decide) rfl rfl, (List.forall_mem_cons.mpr ⟨zq_RX5_250 X (zM_597 hw hm) (by decide) rfl rfl, (List.forall_mem_cons.mpr ⟨zq_RX5_250 X (zM_599 hw hm) (by decide) rfl rfl, (List.forall_mem_cons.mpr ⟨zq_RX5_250 X (zM_600 hw hm) (by decide) rfl rfl, (List.forall_mem_cons.mpr ⟨zq_RX5_250 X (zM_601 hw hm) (by decide) rfl rfl, (List.forall_mem_cons.mpr ⟨zq_RX5_253 X (zM_673 hw hm) (by decide) rfl rfl, (List.forall_mem_cons.mpr ⟨zq_RX5_253 X (zM_674 hw hm) (by decide) rfl rfl, (List.forall_mem_cons.mpr ⟨zq_RX5_253 X (zM_675 hw hm) (by decide) rfl rfl, (List.forall_mem_cons.mpr ⟨zq_RX5_253 X (zM_676 hw hm) (by decide) rfl rfl, (List.forall_mem_cons.mpr ⟨zq_RX5_253 X (zM_677 hw hm) (by decide) rfl rfl, (List.forall_mem_cons.mpr ⟨zq_RX5_253 X (zM_678 hw hm) (by decide) rfl rfl, (List.forall_mem_cons.mpr ⟨zq_RX5_253 X (zM_679 hw hm) (by decide) rfl rfl, (List.forall_mem_cons.mpr ⟨zq_RX5_253 X (zM_680 hw hm) (by decide) rfl rfl, (List.forall_mem_cons.mpr ⟨zq_RX5_253 X (zM_681 hw hm) (by decide) rfl rfl, (List.forall_mem_cons.mpr ⟨zq_RX5_253 X (zM_682 hw hm) (by decide) rfl rfl, (List.forall_mem_cons.mpr ⟨zq_RX5_253 X (zM_683 hw hm) (by decide) rfl rfl, (List.forall_mem_cons.mpr ⟨zq_RX5_253 X (zM_684 hw hm) (by decide) rfl rfl, (List.forall_mem_cons.mpr ⟨zq_RX5_253 X (zM_685 hw hm) (by decide) rfl rfl, (List.forall_mem_cons.mpr ⟨zq_RX5_253 X (zM_686 hw hm) (by decide) rfl rfl, (List.forall_mem_cons.mpr ⟨zq_RX5_253 X (zM_687 hw hm) (by decide) rfl rfl, (List.forall_mem_cons.mpr ⟨zq_RX5_253 X (zM_688 hw hm) (by decide) rfl rfl, (List.forall_mem_cons.mpr ⟨zq_RX5_253 X (zM_689 hw hm) (by decide) rfl rfl, (List.forall_mem_cons.mpr ⟨zq_RX5_253 X (zM_690 hw hm) (by decide) rfl rfl, (List.forall_mem_cons.mpr ⟨zq_RX5_253 X (zM_691 hw hm) (by decide) rfl rfl, (List.forall_mem_cons.mpr ⟨zq_RX5_253 X (zM_692 hw hm) (by decide) rfl rfl, (List.forall_mem_cons.mpr ⟨zq_RX5_253 X (zM_693 hw hm) (by decide) rfl rfl, (List.forall_mem_cons.mpr ⟨zq_RX5_253 X (zM_694 hw hm) (by decide) rfl rfl, (List.forall_mem_cons.mpr ⟨zq_RX5_253 X (zM_695 hw hm) (by decide) rfl rfl, (List.forall_mem_cons.mpr ⟨zq_RX5_253 X (zM_696 hw hm) (by decide) rfl rfl, (List.forall_mem_cons.mpr ⟨zq_RX5_253 X (zM_697 hw hm) (by decide) rfl rfl, (List.forall_mem_cons.mpr ⟨zq_RX5_253 X (zM_698 hw hm) (by decide) rfl rfl, (List.forall_mem_cons.mpr ⟨zq_RX5_253 X (zM_699 hw hm) (by decide) rfl rfl, (List.forall_mem_cons.mpr ⟨zq_RX5_253 X (zM_700 hw hm) (by decide) rfl rfl, (List.forall_mem_cons.mpr ⟨zq_RX5_253 X (zM_701 hw hm) (by decide) rfl rfl, (List.forall_mem_cons.mpr ⟨zq_RX5_253 X (zM_702 hw hm) (by decide) rfl rfl, (List.forall_mem_cons.mpr ⟨zq_RX5_253 X (zM_703 hw hm) (by decide) rfl rfl, (List.forall_mem_cons.mpr ⟨zq_RX5_253 X (zM_704 hw hm) (by decide) rfl rfl, (List.forall_mem_cons.mpr ⟨zq_RX5_253 X (zM_705 hw hm) (by decide) rfl rfl, (List.forall_mem_cons.mpr ⟨zq_RX5_253 X (zM_706 hw hm) (by decide) rfl rfl, (List.forall_mem_cons.mpr ⟨zq_RX5_253 X (zM_707 hw hm) (by decide) rfl rfl, (List.forall_mem_cons.mpr ⟨zq_RX5_253 X (zM_708 hw hm) (by decide) rfl rfl, (List.forall_mem_cons.mpr ⟨zq_RX5_253 X (zM_709 hw hm) (by decide) rfl rfl, (List.forall_mem_cons.mpr ⟨zq_RX5_253 X (zM_710 hw hm) (by decide) rfl rfl, (List.forall_mem_cons.mpr ⟨zq_RX5_253 X (zM_711 hw hm) (by decide) rfl rfl, (List.forall_mem_cons.mpr ⟨zq_RX5_253 X (zM_712 hw hm) (by decide) rfl rfl, (List.forall_mem_cons.mpr ⟨zq_RX5_253 X (zM_713 hw hm) (by decide) rfl rfl, (List.forall_mem_cons.mpr ⟨zq_RX5_253 X (zM_714 hw hm) (by decide) rfl rfl, (List.forall_mem_cons.mpr ⟨zq_RX5_253 X (zM_715 hw hm) (by decide) rfl rfl, (List.forall_mem_cons.mpr ⟨zq_RX5_253 X (zM_716 hw hm) (by decide) rfl rfl, (List.forall_mem_cons.mpr ⟨zq_RX5_253 X (zM_717 hw hm) (by decide) rfl rfl, (List.forall_mem_cons.mpr ⟨zq_RX5_253 X (zM_718 hw hm) (by decide) rfl rfl, (List.forall_mem_cons.mpr ⟨zq_RX5_253 X (zM_719 hw hm) (by decide) rfl rfl, (List.forall_mem_cons.mpr ⟨zq_RX5_253 X (zM_720 hw hm) (by decide) rfl rfl, (List.forall_mem_cons.mpr ⟨zq_RX5_253 X (zM_721 hw hm) (by decide) rfl rfl, (List.forall_mem_cons.mpr ⟨zq_RX5_253 X (zM_722 hw hm) (by decide) rfl rfl, (List.forall_mem_cons.mpr ⟨zq_RX5_253 X (zM_723 hw hm) (by decide) rfl rfl, (List.forall_mem_cons.mpr ⟨zq_RX5_253 X (zM_724 hw hm) (by decide) rfl rfl, (List.forall_mem_cons.mpr ⟨zq_RX5_253 X (zM_725 hw hm) (by decide) rfl rfl, (List.forall_mem_cons.mpr ⟨zq_RX5_253 X (zM_726 hw hm) (by decide) rfl rfl, (List.forall_mem_cons.mpr ⟨zq_RX5_253 X (zM_727 hw hm) (by decide) rfl rfl, (List.forall_mem_cons.mpr ⟨zq_RX5_253 X (zM_728 hw hm) (by decide) rfl rfl, (List.forall_mem_cons.mpr ⟨zq_RX5_253 X (zM_729 hw hm) (by decide) rfl rfl, (List.forall_mem_cons.mpr ⟨zq_RX5_253 X (zM_730 hw hm) (by decide) rfl rfl, (List.forall_mem_cons.mpr ⟨zq_RX5_253 X (zM_731 hw hm) (by decide) rfl rfl, (List.forall_mem_cons.mpr ⟨zq_RX5_253 X (zM_732 hw hm) (by decide) rfl rfl, (List.forall_mem_cons.mpr ⟨zq_RX5_253 X (zM_733 hw hm) (by decide) rfl rfl, (List.forall_mem_cons.mpr ⟨zq_RX5_253 X (zM_734 hw hm) (by decide) rfl rfl, (List.forall_mem_cons.mpr ⟨zq_RX5_253 X (zM_735 hw hm) (by decide) rfl rfl, (List.forall_mem_cons.mpr ⟨zq_RX5_253 X (zM_736 hw hm) (by decide) rfl rfl, (List.forall_mem_cons.mpr ⟨zq_RX5_253 X (zM_737 hw hm) (by decide) rfl rfl, (List.forall_mem_cons.mpr ⟨zq_RX5_253 X (zM_738 hw hm) (by decide) rfl rfl, (List.forall_mem_cons.mpr ⟨zq_RX5_253 X (zM_739 hw hm) (by decide) rfl rfl, (List.forall_mem_cons.mpr ⟨zq_RX5_253 X (zM_740 hw hm) (by decide) rfl rfl, (List.forall_mem_cons.mpr ⟨zq_RX5_253 X (zM_741 hw hm) (by decide) rfl rfl, (List.forall_mem_cons.mpr ⟨zq_RX5_253 X (zM_742 hw hm) (by decide) rfl rfl, (List.forall_mem_cons.mpr ⟨zq_RX5_253 X (zM_743 hw hm) (by decide) rfl rfl, (List.forall_mem_cons.mpr ⟨zq_RX5_253 X (zM_744 hw hm) (by decide) rfl rfl, (List.forall_mem_cons.mpr ⟨zq_RX5_253 X (zM_745 hw hm) (by decide) rfl rfl, (List.forall_mem_cons.mpr ⟨zq_RX5_253 X (zM_746 hw hm) (by decide) rfl rfl, (List.forall_mem_cons.mpr ⟨zq_RX5_253 X (zM_747 hw hm) (by decide) rfl rfl, (List.forall_mem_cons.mpr ⟨zq_RX5_253 X (zM_748 hw hm) (by decide) rfl rfl, (List.forall_mem_cons.mpr ⟨zq_RX5_253 X (zM_749 hw hm) (by decide) rfl rfl, (List.forall_mem_cons.mpr ⟨zq_RX5_253 X (zM_750 hw hm) (by decide) rfl rfl, (List.forall_mem_cons.mpr ⟨zq_RX5_253 X (zM_751 hw hm) (by decide) rfl rfl, (List.forall_mem_cons.mpr ⟨zq_RX5_253 X (zM_752 hw hm) (by decide) rfl rfl, nilz⟩)⟩)⟩)⟩)⟩)⟩)⟩)⟩)⟩)⟩)⟩)⟩)⟩)⟩)⟩)⟩)⟩)⟩)⟩)⟩)⟩)⟩)⟩)⟩)⟩)⟩)⟩)⟩)⟩)⟩)⟩)⟩)⟩)⟩)⟩)⟩)⟩)⟩)⟩)⟩)⟩)⟩)⟩)⟩)⟩)⟩)⟩)⟩)⟩)⟩)⟩)⟩)⟩)⟩)⟩)⟩)⟩)⟩)⟩)⟩)⟩)⟩)⟩)⟩)⟩)⟩)⟩)⟩)⟩)⟩)⟩)⟩)⟩)⟩)⟩)⟩)⟩)⟩)⟩)⟩)⟩)⟩)⟩)⟩)⟩)⟩)⟩)⟩)⟩)⟩)⟩)⟩)⟩)⟩)⟩)⟩)⟩)⟩)⟩)⟩)⟩)⟩)⟩)⟩)⟩)⟩)⟩)⟩)⟩)⟩)⟩)⟩)⟩)⟩)⟩)⟩)⟩)⟩)⟩)⟩)⟩)⟩)⟩)⟩)⟩)⟩)⟩)⟩)⟩)⟩)⟩)⟩)⟩)⟩)⟩)⟩)⟩)⟩)⟩)⟩)⟩)⟩)⟩)⟩)⟩)⟩)⟩)⟩)⟩)⟩)⟩)⟩)⟩)⟩)⟩)⟩)⟩)⟩)⟩)⟩)⟩)⟩)⟩)⟩)⟩)⟩)⟩)⟩)⟩)⟩)⟩)⟩)⟩)⟩)⟩)⟩)⟩)⟩)⟩)⟩)⟩)⟩)⟩)⟩)⟩)⟩)⟩)⟩)⟩)⟩)⟩)⟩)⟩)⟩)⟩)⟩)⟩)⟩)⟩)⟩)⟩)⟩)⟩)⟩)⟩)⟩)⟩)⟩)⟩)⟩)⟩)⟩)⟩)⟩)⟩)⟩)⟩)⟩)⟩)⟩)⟩)⟩)⟩)⟩)⟩)⟩)⟩)⟩)⟩)⟩)⟩)⟩)⟩)⟩)⟩)⟩)⟩)⟩)⟩)⟩)⟩)⟩)⟩)⟩)⟩)⟩)⟩)⟩)⟩)⟩)⟩)⟩)⟩)⟩)
