noncomputable def zX3_reread_L15 (v1 : Int32) (σ : fr_St) : Option ((Int32 × fr_St) ⊕ (fr_St)) :=
  if σ 3 1 ≤ v1 then some (.inr σ) else if σ 7 2 = (-1) then (fr_al 40 σ 5 v1).bind (fun x1 => if zX9_isKind (zX3_kindOf x1) = 0 then some (.inl (v1 + 1, (fr_put σ 7 2 v1))) else (fr_al 5 σ 8 (zX3_kindOf x1)).bind (fun x2 => (fr_as 5 σ 8 (zX3_kindOf x1) (x2 + 1)).bind (fun σ3 => some (.inl (v1 + 1, σ3))))) else some (.inr σ)
noncomputable def zX3_reread (σ : fr_St)  : Option (fr_St) :=
  (zJ7_fill_53178 σ 8 5 0).bind (fun σ1 => (fr_loop (fun (b2 : Int32 × fr_St) => zX3_reread_L15 b2.1 b2.2) fr_fu (0, (fr_put σ1 7 2 (-1)))).bind (fun (c3 : fr_St) => (if c3 7 2 = (-1) then some c3 else (zJ7_fill_53178 c3 8 5 0).bind (fun σ8 => some σ8) : Option (fr_St)).bind (fun t7 => if t7 7 2 = (-1) then some (fr_put t7 7 3 (t7 3 1)) else some (fr_put t7 7 3 0))))
set_option maxRecDepth 100000 in
set_option maxHeartbeats 4000000 in
theorem mX3_reread  : fr_MV2 yX3_reread cX3_reread 3 2 42 fr_shX (fun w => [.ref (fr_ad w 7)]) (fun σ => zX3_reread σ) := by
  refine fr_mkV2 (by decide) (fun w => Nat.le_of_ble_eq_true rfl) (fun g w σ hg => ?_)
  show fr_V g w 3 (zX3_reread σ) _ 0 [(0, .ref (fr_ad w 7))] [] σ
  unfold zX3_reread
  refine fr_aload_n hg 0 rfl dX3_reread_0 rfl ?_
  refine fr_getr hg (q := 7) (q' := 8) fo_X3_20 rfl rfl dX3_reread_1 rfl ?_
  refine fr_iconst hg (v := 0) (by decide) dX3_reread_4 rfl ?_
  refine fr_cv2 hg (mJ7_fill_53178 (S := fr_shX) 8 5 rfl 0) (fr_crS hg mo_X3_31 rfl (by decide) (by decide) (Nat.le_of_ble_eq_true rfl) dX3_reread_5 rfl) rfl (fun σ1 => ?_)
  refine fr_aload_n hg 0 rfl dX3_reread_8 rfl ?_
  refine fr_iconst hg (v := (-1)) (by decide) dX3_reread_9 rfl ?_
  refine fr_puti hg (q := 7) fp_X3_24 rfl rfl rfl rfl dX3_reread_10 rfl ?_
  refine fr_iconst hg (v := 0) (by decide) dX3_reread_13 rfl ?_
  refine fr_istore_n hg (ls' := [(0, .ref (fr_ad w 7)), (1, .int 0)]) dX3_reread_14 rfl (by decide) rfl rfl ?_
  refine fr_lp (fun (b2 : Int32 × fr_St) => [(0, .ref (fr_ad w 7)), (1, .int b2.1)]) (fun b2 => b2.2) 78 (fun (c3 : fr_St) => [(0, .ref (fr_ad w 7))]) (fun c3 => c3) [0, 1] rfl rfl (fun b2 => ?_) (fun c3 => ?_)
  · show fr_V g w _ (zX3_reread_L15 b2.1 b2.2) _ _ _ _ _
    unfold zX3_reread_L15
    refine fr_iload_n hg 1 rfl dX3_reread_15 rfl ?_
    refine fr_aload_n hg 0 rfl dX3_reread_16 rfl ?_
    refine fr_getr hg (q := 7) (q' := 3) fo_X3_14 rfl rfl dX3_reread_17 rfl ?_
    refine fr_geti hg (q := 3) fo_X3_37 rfl rfl dX3_reread_20 rfl ?_
    refine fr_icmp_ge hg (m := 78) dX3_reread_23 (by decide) rfl ?_ ?_
    · exact fr_leaf [0] rfl (fun h => h)
    · refine fr_aload_n hg 0 rfl dX3_reread_26 rfl ?_
      refine fr_geti hg (q := 7) fo_X3_24 rfl rfl dX3_reread_27 rfl ?_
      refine fr_iconst hg (v := (-1)) (by decide) dX3_reread_30 rfl ?_
      refine fr_icmp_ne hg (m := 78) dX3_reread_31 (by decide) rfl ?_ ?_
      · exact fr_leaf [0] rfl (fun h => h)
      · refine fr_aload_n hg 0 rfl dX3_reread_34 rfl ?_
        refine fr_getr hg (q := 7) (q' := 3) fo_X3_14 rfl rfl dX3_reread_35 rfl ?_
        refine fr_getr hg (q := 3) (q' := 5) fo_X3_40 rfl rfl dX3_reread_38 rfl ?_
        refine fr_iload_n hg 1 rfl dX3_reread_41 rfl ?_
        refine fr_iaload hg (q := 5) rfl dX3_reread_42 rfl (fun x4 => ?_)
        refine fr_ci0 hg (mX3_kindOf x4) (fr_crS hg mo_X3_43 rfl (by decide) (by decide) (Nat.le_of_ble_eq_true rfl) dX3_reread_43 rfl) rfl ?_
        refine fr_istore_n hg (ls' := [(0, .ref (fr_ad w 7)), (1, .int b2.1), (2, .int (zX3_kindOf x4))]) dX3_reread_46 rfl (by decide) rfl rfl ?_
        refine fr_iload_n hg 2 rfl dX3_reread_47 rfl ?_
        refine fr_ci0 hg (mX9_isKind (zX3_kindOf x4)) (fr_crN hg mo_X3_47 rfl (by decide) (by decide) (Nat.le_of_ble_eq_true rfl) dX3_reread_48 rfl) rfl ?_
        refine fr_if_eq hg (m := 67) dX3_reread_51 (by decide) rfl ?_ ?_
        · refine fr_aload_n hg 0 rfl dX3_reread_67 rfl ?_
          refine fr_iload_n hg 1 rfl dX3_reread_68 rfl ?_
          refine fr_puti hg (q := 7) fp_X3_24 rfl rfl rfl rfl dX3_reread_69 rfl ?_
          refine fr_iinc hg 1 (v := b2.1 + 1) (ls' := [(0, .ref (fr_ad w 7)), (1, .int (b2.1 + 1)), (2, .int (zX3_kindOf x4))]) dX3_reread_72 rfl rfl (by decide) rfl rfl ?_
          refine fr_goto hg (n := 15) dX3_reread_75 (by decide) ?_
          exact fr_leaf [0, 1] rfl (fun h => h)
        · refine fr_aload_n hg 0 rfl dX3_reread_54 rfl ?_
          refine fr_getr hg (q := 7) (q' := 8) fo_X3_20 rfl rfl dX3_reread_55 rfl ?_
          refine fr_iload_n hg 2 rfl dX3_reread_58 rfl ?_
          refine fr_dup2 hg rfl rfl dX3_reread_59 rfl ?_
          refine fr_iaload hg (q := 8) rfl dX3_reread_60 rfl (fun x5 => ?_)
          refine fr_iconst hg (v := 1) (by decide) dX3_reread_61 rfl ?_
          refine fr_iadd hg dX3_reread_62 rfl ?_
          refine fr_iastore hg (q := 8) rfl dX3_reread_63 rfl (fun σ6 => ?_)
          refine fr_goto hg (n := 72) dX3_reread_64 (by decide) ?_
          refine fr_iinc hg 1 (v := b2.1 + 1) (ls' := [(0, .ref (fr_ad w 7)), (1, .int (b2.1 + 1)), (2, .int (zX3_kindOf x4))]) dX3_reread_72 rfl rfl (by decide) rfl rfl ?_
          refine fr_goto hg (n := 15) dX3_reread_75 (by decide) ?_
          exact fr_leaf [0, 1] rfl (fun h => h)
  refine fr_aload_n hg 0 rfl dX3_reread_78 rfl ?_
  refine fr_geti hg (q := 7) fo_X3_24 rfl rfl dX3_reread_79 rfl ?_
  refine fr_iconst hg (v := (-1)) (by decide) dX3_reread_82 rfl ?_
  refine fr_join (m := 94) (lj := fun (t7 : fr_St) => [(0, .ref (fr_ad w 7))]) (sj := fun t7 => []) (wj := fun t7 => t7) ?_ (fun t7 => ?_)
  · refine fr_icmp_eq hg (m := 94) dX3_reread_83 (by decide) rfl ?_ ?_
    · exact fr_leaf [0] rfl (fun h => h)
    · refine fr_aload_n hg 0 rfl dX3_reread_86 rfl ?_
      refine fr_getr hg (q := 7) (q' := 8) fo_X3_20 rfl rfl dX3_reread_87 rfl ?_
      refine fr_iconst hg (v := 0) (by decide) dX3_reread_90 rfl ?_
      refine fr_cv2 hg (mJ7_fill_53178 (S := fr_shX) 8 5 rfl 0) (fr_crS hg mo_X3_31 rfl (by decide) (by decide) (Nat.le_of_ble_eq_true rfl) dX3_reread_91 rfl) rfl (fun σ8 => ?_)
      exact fr_leaf [0] rfl (fun h => h)
  refine fr_aload_n hg 0 rfl dX3_reread_94 rfl ?_
  refine fr_aload_n hg 0 rfl dX3_reread_95 rfl ?_
  refine fr_geti hg (q := 7) fo_X3_24 rfl rfl dX3_reread_96 rfl ?_
  refine fr_iconst hg (v := (-1)) (by decide) dX3_reread_99 rfl ?_
  refine fr_icmp_ne hg (m := 113) dX3_reread_100 (by decide) rfl ?_ ?_
  · refine fr_iconst hg (v := 0) (by decide) dX3_reread_113 rfl ?_
    refine fr_puti hg (q := 7) fp_X3_28 rfl rfl rfl rfl dX3_reread_114 rfl ?_
    exact fr_vret hg dX3_reread_117 (fun h => h)
  · refine fr_aload_n hg 0 rfl dX3_reread_103 rfl ?_
    refine fr_getr hg (q := 7) (q' := 3) fo_X3_14 rfl rfl dX3_reread_104 rfl ?_
    refine fr_geti hg (q := 3) fo_X3_37 rfl rfl dX3_reread_107 rfl ?_
    refine fr_goto hg (n := 114) dX3_reread_110 (by decide) ?_
    refine fr_puti hg (q := 7) fp_X3_28 rfl rfl rfl rfl dX3_reread_114 rfl ?_
    exact fr_vret hg dX3_reread_117 (fun h => h)
noncomputable def zX9_reread (σ : fr_St) (a1 : Int32) : Option (fr_St) :=
  if a1 = 0 then (zX2_reread σ).bind (fun σ2 => some (fr_put σ2 0 8 1)) else (zX3_reread σ).bind (fun σ1 => some (fr_put σ1 0 8 1))
set_option maxRecDepth 100000 in
set_option maxHeartbeats 4000000 in
theorem mX9_reread (a1 : Int32) : fr_MV2 yX9_reread cX9_reread 2 5 109 fr_shX (fun w => [.ref (fr_ad w 0), .int a1]) (fun σ => zX9_reread σ a1) := by
  refine fr_mkV2 (by decide) (fun w => Nat.le_of_ble_eq_true rfl) (fun g w σ hg => ?_)
  show fr_V g w 2 (zX9_reread σ a1) _ 0 [(0, .ref (fr_ad w 0)), (1, .int a1)] [] σ
  unfold zX9_reread
  refine fr_iload_n hg 1 rfl dX9_reread_0 rfl ?_
  refine fr_if_ne hg (m := 14) dX9_reread_1 (by decide) rfl ?_ ?_
  · refine fr_aload_n hg 0 rfl dX9_reread_14 rfl ?_
    refine fr_getr hg (q := 0) (q' := 7) fo_X9_19 rfl rfl dX9_reread_15 rfl ?_
    refine fr_cv2 hg mX3_reread (fr_crV hg (q := 7) mo_X9_353 rfl ⟨_, _, rfl⟩ rfl (by decide) (by decide) (Nat.le_of_ble_eq_true rfl) dX9_reread_18 rfl) rfl (fun σ1 => ?_)
    refine fr_aload_n hg 0 rfl dX9_reread_21 rfl ?_
    refine fr_iconst hg (v := 1) (by decide) dX9_reread_22 rfl ?_
    refine fr_puti hg (q := 0) fp_X9_64 rfl rfl rfl rfl dX9_reread_23 rfl ?_
    exact fr_vret hg dX9_reread_26 (fun h => h)
  · refine fr_aload_n hg 0 rfl dX9_reread_4 rfl ?_
    refine fr_getr hg (q := 0) (q' := 1) fo_X9_12 rfl rfl dX9_reread_5 rfl ?_
    refine fr_cv2 hg mX2_reread (fr_crV hg (q := 1) mo_X9_351 rfl ⟨_, _, rfl⟩ rfl (by decide) (by decide) (Nat.le_of_ble_eq_true rfl) dX9_reread_8 rfl) rfl (fun σ2 => ?_)
    refine fr_goto hg (n := 21) dX9_reread_11 (by decide) ?_
    refine fr_aload_n hg 0 rfl dX9_reread_21 rfl ?_
    refine fr_iconst hg (v := 1) (by decide) dX9_reread_22 rfl ?_
    refine fr_puti hg (q := 0) fp_X9_64 rfl rfl rfl rfl dX9_reread_23 rfl ?_
    exact fr_vret hg dX9_reread_26 (fun h => h)
noncomputable def zX9_type (σ : fr_St) (a1 : Int32) (a2 : Int32) : Option (Int32 × fr_St) :=
  if zX9_isText a1 = 0 then some ((-2), σ) else if zX9_within a2 0 255 = 0 then some ((-2), σ) else (zX9_scriptOf σ a1).bind (fun p2 => if zX4_isFull p2.2 p2.1 = 0 then (zX4_append p2.2 p2.1 a2).bind (fun σ3 => (zX9_reread σ3 a1).bind (fun σ4 => some (σ4 (2 + p2.1) 1, σ4))) else some ((-4), p2.2))
set_option maxRecDepth 100000 in
set_option maxHeartbeats 4000000 in
theorem mX9_type (a1 : Int32) (a2 : Int32) : fr_MI2 yX9_type cX9_type 4 .int 6 130 fr_shX (fun w => [.ref (fr_ad w 0), .int a1, .int a2]) (fun σ => zX9_type σ a1 a2) := by
  refine fr_mkI2 (by decide) (fun w => Nat.le_of_ble_eq_true rfl) (fun g w σ hg => ?_)
  show fr_V g w 4 (zX9_type σ a1 a2) _ 0 [(0, .ref (fr_ad w 0)), (1, .int a1), (2, .int a2)] [] σ
  unfold zX9_type
  refine fr_iload_n hg 1 rfl dX9_type_0 rfl ?_
  refine fr_ci0 hg (mX9_isText a1) (fr_crS hg mo_X9_73 rfl (by decide) (by decide) (Nat.le_of_ble_eq_true rfl) dX9_type_1 rfl) rfl ?_
  refine fr_if_eq hg (m := 18) dX9_type_4 (by decide) rfl ?_ ?_
  · refine fr_bipush hg (v := (-2)) (by decide) dX9_type_18 rfl ?_
    exact fr_iret hg (rty := .int) rfl dX9_type_20 (fun h => h)
  · refine fr_iload_n hg 2 rfl dX9_type_7 rfl ?_
    refine fr_iconst hg (v := 0) (by decide) dX9_type_8 rfl ?_
    refine fr_sipush hg (v := 255) (by decide) dX9_type_9 rfl ?_
    refine fr_ci0 hg (mX9_within a2 0 255) (fr_crS hg mo_X9_77 rfl (by decide) (by decide) (Nat.le_of_ble_eq_true rfl) dX9_type_12 rfl) rfl ?_
    refine fr_if_ne hg (m := 21) dX9_type_15 (by decide) rfl ?_ ?_
    · refine fr_aload_n hg 0 rfl dX9_type_21 rfl ?_
      refine fr_iload_n hg 1 rfl dX9_type_22 rfl ?_
      refine fr_cq2 hg (mX9_scriptOf a1) (fr_crV hg (q := 0) mo_X9_81 rfl ⟨_, _, rfl⟩ rfl (by decide) (by decide) (Nat.le_of_ble_eq_true rfl) dX9_type_23 rfl) rfl (fun p2 hp2 => ?_)
      have hp2 := sx_so hp2
      refine fr_astore_n hg (ls' := [(0, .ref (fr_ad w 0)), (1, .int a1), (2, .int a2), (3, .ref (fr_ad w (2 + p2.1)))]) dX9_type_26 rfl (by decide) rfl rfl ?_
      refine fr_aload_n hg 3 rfl dX9_type_27 rfl ?_
      refine fr_ci0 hg (mX4_isFull p2.1 hp2) (fr_crV hg (q := (2 + p2.1)) mo_X9_85 (sx_2 hp2) ⟨_, _, rfl⟩ rfl (by decide) (by decide) (Nat.le_of_ble_eq_true rfl) dX9_type_28 rfl) rfl ?_
      refine fr_if_eq hg (m := 37) dX9_type_31 (by decide) rfl ?_ ?_
      · refine fr_aload_n hg 3 rfl dX9_type_37 rfl ?_
        refine fr_iload_n hg 2 rfl dX9_type_38 rfl ?_
        refine fr_cv2 hg (mX4_append p2.1 hp2 a2) (fr_crV hg (q := (2 + p2.1)) mo_X9_91 (sx_2 hp2) ⟨_, _, rfl⟩ rfl (by decide) (by decide) (Nat.le_of_ble_eq_true rfl) dX9_type_39 rfl) rfl (fun σ3 => ?_)
        refine fr_aload_n hg 0 rfl dX9_type_42 rfl ?_
        refine fr_iload_n hg 1 rfl dX9_type_43 rfl ?_
        refine fr_cv2 hg (mX9_reread a1) (fr_crV hg (q := 0) mo_X9_95 rfl ⟨_, _, rfl⟩ rfl (by decide) (by decide) (Nat.le_of_ble_eq_true rfl) dX9_type_44 rfl) rfl (fun σ4 => ?_)
        refine fr_aload_n hg 3 rfl dX9_type_47 rfl ?_
        refine fr_geti hg (q := (2 + p2.1)) fo_X9_98 (sx_2 hp2) rfl dX9_type_48 rfl ?_
        exact fr_iret hg (rty := .int) rfl dX9_type_51 (fun h => h)
      · refine fr_bipush hg (v := (-4)) (by decide) dX9_type_34 rfl ?_
        exact fr_iret hg (rty := .int) rfl dX9_type_36 (fun h => h)
    · refine fr_bipush hg (v := (-2)) (by decide) dX9_type_18 rfl ?_
      exact fr_iret hg (rty := .int) rfl dX9_type_20 (fun h => h)
noncomputable def zX9_wipe (σ : fr_St) (a1 : Int32) : Option (Int32 × fr_St) :=
  if zX9_isText a1 = 0 then some ((-2), σ) else (zX9_scriptOf σ a1).bind (fun p2 => (zX9_reread (fr_put p2.2 (2 + p2.1) 1 0) a1).bind (fun σ3 => some (p2.2 (2 + p2.1) 1, σ3)))
set_option maxRecDepth 100000 in
set_option maxHeartbeats 4000000 in
theorem mX9_wipe (a1 : Int32) : fr_MI2 yX9_wipe cX9_wipe 4 .int 6 130 fr_shX (fun w => [.ref (fr_ad w 0), .int a1]) (fun σ => zX9_wipe σ a1) := by
  refine fr_mkI2 (by decide) (fun w => Nat.le_of_ble_eq_true rfl) (fun g w σ hg => ?_)
  show fr_V g w 4 (zX9_wipe σ a1) _ 0 [(0, .ref (fr_ad w 0)), (1, .int a1)] [] σ
  unfold zX9_wipe
  refine fr_iload_n hg 1 rfl dX9_wipe_0 rfl ?_
  refine fr_ci0 hg (mX9_isText a1) (fr_crS hg mo_X9_73 rfl (by decide) (by decide) (Nat.le_of_ble_eq_true rfl) dX9_wipe_1 rfl) rfl ?_
  refine fr_if_ne hg (m := 10) dX9_wipe_4 (by decide) rfl ?_ ?_
  · refine fr_aload_n hg 0 rfl dX9_wipe_10 rfl ?_
    refine fr_iload_n hg 1 rfl dX9_wipe_11 rfl ?_
    refine fr_cq2 hg (mX9_scriptOf a1) (fr_crV hg (q := 0) mo_X9_81 rfl ⟨_, _, rfl⟩ rfl (by decide) (by decide) (Nat.le_of_ble_eq_true rfl) dX9_wipe_12 rfl) rfl (fun p2 hp2 => ?_)
    have hp2 := sx_so hp2
    refine fr_astore_n hg (ls' := [(0, .ref (fr_ad w 0)), (1, .int a1), (2, .ref (fr_ad w (2 + p2.1)))]) dX9_wipe_15 rfl (by decide) rfl rfl ?_
    refine fr_aload_n hg 2 rfl dX9_wipe_16 rfl ?_
    refine fr_geti hg (q := (2 + p2.1)) fo_X9_98 (sx_2 hp2) rfl dX9_wipe_17 rfl ?_
    refine fr_istore_n hg (ls' := [(0, .ref (fr_ad w 0)), (1, .int a1), (2, .ref (fr_ad w (2 + p2.1))), (3, .int (p2.2 (2 + p2.1) 1))]) dX9_wipe_20 rfl (by decide) rfl rfl ?_
    refine fr_aload_n hg 2 rfl dX9_wipe_21 rfl ?_
    refine fr_iconst hg (v := 0) (by decide) dX9_wipe_22 rfl ?_
    refine fr_puti hg (q := (2 + p2.1)) fp_X9_98 (sx_2 hp2) rfl rfl rfl dX9_wipe_23 rfl ?_
    refine fr_aload_n hg 0 rfl dX9_wipe_26 rfl ?_
    refine fr_iload_n hg 1 rfl dX9_wipe_27 rfl ?_
    refine fr_cv2 hg (mX9_reread a1) (fr_crV hg (q := 0) mo_X9_95 rfl ⟨_, _, rfl⟩ rfl (by decide) (by decide) (Nat.le_of_ble_eq_true rfl) dX9_wipe_28 rfl) rfl (fun σ3 => ?_)
    refine fr_iload_n hg 3 rfl dX9_wipe_31 rfl ?_
    exact fr_iret hg (rty := .int) rfl dX9_wipe_32 (fun h => h)
  · refine fr_bipush hg (v := (-2)) (by decide) dX9_wipe_7 rfl ?_
    exact fr_iret hg (rty := .int) rfl dX9_wipe_9 (fun h => h)
noncomputable def zX9_undo (σ : fr_St) (a1 : Int32) : Option (Int32 × fr_St) :=
  if zX9_isText a1 = 0 then some ((-2), σ) else (zX9_scriptOf σ a1).bind (fun p2 => if 0 < p2.2 (2 + p2.1) 1 then (zX9_reread (fr_put p2.2 (2 + p2.1) 1 ((p2.2 (2 + p2.1) 1) - 1)) a1).bind (fun σ3 => some (σ3 (2 + p2.1) 1, σ3)) else some ((-3), p2.2))
set_option maxRecDepth 100000 in
set_option maxHeartbeats 4000000 in
theorem mX9_undo (a1 : Int32) : fr_MI2 yX9_undo cX9_undo 3 .int 6 130 fr_shX (fun w => [.ref (fr_ad w 0), .int a1]) (fun σ => zX9_undo σ a1) := by
  refine fr_mkI2 (by decide) (fun w => Nat.le_of_ble_eq_true rfl) (fun g w σ hg => ?_)
  show fr_V g w 3 (zX9_undo σ a1) _ 0 [(0, .ref (fr_ad w 0)), (1, .int a1)] [] σ
  unfold zX9_undo
  refine fr_iload_n hg 1 rfl dX9_undo_0 rfl ?_
  refine fr_ci0 hg (mX9_isText a1) (fr_crS hg mo_X9_73 rfl (by decide) (by decide) (Nat.le_of_ble_eq_true rfl) dX9_undo_1 rfl) rfl ?_
  refine fr_if_ne hg (m := 10) dX9_undo_4 (by decide) rfl ?_ ?_
  · refine fr_aload_n hg 0 rfl dX9_undo_10 rfl ?_
    refine fr_iload_n hg 1 rfl dX9_undo_11 rfl ?_
    refine fr_cq2 hg (mX9_scriptOf a1) (fr_crV hg (q := 0) mo_X9_81 rfl ⟨_, _, rfl⟩ rfl (by decide) (by decide) (Nat.le_of_ble_eq_true rfl) dX9_undo_12 rfl) rfl (fun p2 hp2 => ?_)
    have hp2 := sx_so hp2
    refine fr_astore_n hg (ls' := [(0, .ref (fr_ad w 0)), (1, .int a1), (2, .ref (fr_ad w (2 + p2.1)))]) dX9_undo_15 rfl (by decide) rfl rfl ?_
    refine fr_aload_n hg 2 rfl dX9_undo_16 rfl ?_
    refine fr_geti hg (q := (2 + p2.1)) fo_X9_98 (sx_2 hp2) rfl dX9_undo_17 rfl ?_
    refine fr_if_gt hg (m := 26) dX9_undo_20 (by decide) rfl ?_ ?_
    · refine fr_aload_n hg 2 rfl dX9_undo_26 rfl ?_
      refine fr_dup hg rfl dX9_undo_27 rfl ?_
      refine fr_geti hg (q := (2 + p2.1)) fo_X9_98 (sx_2 hp2) rfl dX9_undo_28 rfl ?_
      refine fr_iconst hg (v := 1) (by decide) dX9_undo_31 rfl ?_
      refine fr_isub hg dX9_undo_32 rfl ?_
      refine fr_puti hg (q := (2 + p2.1)) fp_X9_98 (sx_2 hp2) rfl rfl rfl dX9_undo_33 rfl ?_
      refine fr_aload_n hg 0 rfl dX9_undo_36 rfl ?_
      refine fr_iload_n hg 1 rfl dX9_undo_37 rfl ?_
      refine fr_cv2 hg (mX9_reread a1) (fr_crV hg (q := 0) mo_X9_95 rfl ⟨_, _, rfl⟩ rfl (by decide) (by decide) (Nat.le_of_ble_eq_true rfl) dX9_undo_38 rfl) rfl (fun σ3 => ?_)
      refine fr_aload_n hg 2 rfl dX9_undo_41 rfl ?_
      refine fr_geti hg (q := (2 + p2.1)) fo_X9_98 (sx_2 hp2) rfl dX9_undo_42 rfl ?_
      exact fr_iret hg (rty := .int) rfl dX9_undo_45 (fun h => h)
    · refine fr_bipush hg (v := (-3)) (by decide) dX9_undo_23 rfl ?_
      exact fr_iret hg (rty := .int) rfl dX9_undo_25 (fun h => h)
  · refine fr_bipush hg (v := (-2)) (by decide) dX9_undo_7 rfl ?_
    exact fr_iret hg (rty := .int) rfl dX9_undo_9 (fun h => h)
def zX9_fault (σ : fr_St) (a1 : Int32) : Int32 :=
  if zX9_isText a1 = 0 then (-2) else if a1 = 0 then σ 1 2 else σ 7 2
set_option maxRecDepth 100000 in
set_option maxHeartbeats 4000000 in
theorem mX9_fault (a1 : Int32) : fr_MI0 yX9_fault cX9_fault 2 .int 2 42 fr_shX (fun w => [.ref (fr_ad w 0), .int a1]) (fun σ => zX9_fault σ a1) := by
  refine fr_mkI0 (by decide) (fun w => Nat.le_of_ble_eq_true rfl) (fun g w σ hg => ?_)
  show fr_V g w 2 (some (zX9_fault σ a1)) _ 0 [(0, .ref (fr_ad w 0)), (1, .int a1)] [] σ
  unfold zX9_fault
  refine fr_iload_n hg 1 rfl dX9_fault_0 rfl ?_
  refine fr_ci0 hg (mX9_isText a1) (fr_crS hg mo_X9_73 rfl (by decide) (by decide) (Nat.le_of_ble_eq_true rfl) dX9_fault_1 rfl) rfl ?_
  refine fr_some_ite ?_
  refine fr_if_ne hg (m := 10) dX9_fault_4 (by decide) rfl ?_ ?_
  · refine fr_iload_n hg 1 rfl dX9_fault_10 rfl ?_
    refine fr_some_ite ?_
    refine fr_if_ne hg (m := 24) dX9_fault_11 (by decide) rfl ?_ ?_
    · refine fr_aload_n hg 0 rfl dX9_fault_24 rfl ?_
      refine fr_getr hg (q := 0) (q' := 7) fo_X9_19 rfl rfl dX9_fault_25 rfl ?_
      refine fr_geti hg (q := 7) fo_X9_104 rfl rfl dX9_fault_28 rfl ?_
      exact fr_iret hg (rty := .int) rfl dX9_fault_31 (fun h => h)
    · refine fr_aload_n hg 0 rfl dX9_fault_14 rfl ?_
      refine fr_getr hg (q := 0) (q' := 1) fo_X9_12 rfl rfl dX9_fault_15 rfl ?_
      refine fr_geti hg (q := 1) fo_X9_101 rfl rfl dX9_fault_18 rfl ?_
      refine fr_goto hg (n := 31) dX9_fault_21 (by decide) ?_
      exact fr_iret hg (rty := .int) rfl dX9_fault_31 (fun h => h)
  · refine fr_bipush hg (v := (-2)) (by decide) dX9_fault_7 rfl ?_
    exact fr_iret hg (rty := .int) rfl dX9_fault_9 (fun h => h)
def zX9_isTool (a1 : Int32) : Int32 :=
  zX9_within a1 0 3
theorem zbX9_isTool (a1 : Int32) : zX9_isTool a1 = 0 ∨ zX9_isTool a1 = 1 := by
  unfold zX9_isTool
  first | exact zbX9_within a1 0 3 | ((repeat' split) <;> first | exact Or.inl rfl | exact Or.inr rfl)
set_option maxRecDepth 100000 in
set_option maxHeartbeats 4000000 in
theorem mX9_isTool (a1 : Int32) : fr_MI0 yX9_isTool cX9_isTool 1 .boolean 1 22 fr_shX (fun w => [.int a1]) (fun σ => zX9_isTool a1) := by
  refine fr_mkI0 (by decide) (fun w => Nat.le_of_ble_eq_true rfl) (fun g w σ hg => ?_)
  show fr_V g w 1 (some (zX9_isTool a1)) _ 0 [(0, .int a1)] [] σ
  unfold zX9_isTool
  refine fr_iload_n hg 0 rfl dX9_isTool_0 rfl ?_
  refine fr_iconst hg (v := 0) (by decide) dX9_isTool_1 rfl ?_
  refine fr_iconst hg (v := 3) (by decide) dX9_isTool_2 rfl ?_
  refine fr_ci0 hg (mX9_within a1 0 3) (fr_crS hg mo_X9_77 rfl (by decide) (by decide) (Nat.le_of_ble_eq_true rfl) dX9_isTool_3 rfl) rfl ?_
  exact fr_iret hg (rty := .boolean) (fr_nb (zbX9_within a1 0 3)) dX9_isTool_6 (fun h => h)
def zX9_isPair (a1 : Int32) : Int32 :=
  zX9_within a1 0 1
theorem zbX9_isPair (a1 : Int32) : zX9_isPair a1 = 0 ∨ zX9_isPair a1 = 1 := by
  unfold zX9_isPair
  first | exact zbX9_within a1 0 1 | ((repeat' split) <;> first | exact Or.inl rfl | exact Or.inr rfl)
set_option maxRecDepth 100000 in
set_option maxHeartbeats 4000000 in
theorem mX9_isPair (a1 : Int32) : fr_MI0 yX9_isPair cX9_isPair 1 .boolean 1 22 fr_shX (fun w => [.int a1]) (fun σ => zX9_isPair a1) := by
  refine fr_mkI0 (by decide) (fun w => Nat.le_of_ble_eq_true rfl) (fun g w σ hg => ?_)
  show fr_V g w 1 (some (zX9_isPair a1)) _ 0 [(0, .int a1)] [] σ
  unfold zX9_isPair
  refine fr_iload_n hg 0 rfl dX9_isPair_0 rfl ?_
  refine fr_iconst hg (v := 0) (by decide) dX9_isPair_1 rfl ?_
  refine fr_iconst hg (v := 1) (by decide) dX9_isPair_2 rfl ?_
  refine fr_ci0 hg (mX9_within a1 0 1) (fr_crS hg mo_X9_77 rfl (by decide) (by decide) (Nat.le_of_ble_eq_true rfl) dX9_isPair_3 rfl) rfl ?_
  exact fr_iret hg (rty := .boolean) (fr_nb (zbX9_within a1 0 1)) dX9_isPair_6 (fun h => h)
noncomputable def zX9_tool (σ : fr_St) (a1 : Int32) (a2 : Int32) (a3 : Int32) : Option (Int32 × fr_St) :=
  if zX9_isTool a1 = 0 then some ((-2), σ) else if zX9_isPair a2 = 0 then some ((-2), σ) else if a2 = 0 then if zX9_within a3 1 60 = 0 then some ((-2), σ) else if a2 = 0 then (fr_al 4 σ 10 a1).bind (fun x7 => (fr_as 4 σ 10 a1 a3).bind (fun σ8 => some (x7, (fr_put σ8 0 8 1)))) else (fr_al 4 σ 11 a1).bind (fun x5 => (fr_as 4 σ 11 a1 a3).bind (fun σ6 => some (x5, (fr_put σ6 0 8 1)))) else if zX9_within a3 0 99 = 0 then some ((-2), σ) else if a2 = 0 then (fr_al 4 σ 10 a1).bind (fun x3 => (fr_as 4 σ 10 a1 a3).bind (fun σ4 => some (x3, (fr_put σ4 0 8 1)))) else (fr_al 4 σ 11 a1).bind (fun x1 => (fr_as 4 σ 11 a1 a3).bind (fun σ2 => some (x1, (fr_put σ2 0 8 1))))
set_option maxRecDepth 100000 in
set_option maxHeartbeats 4000000 in
theorem mX9_tool (a1 : Int32) (a2 : Int32) (a3 : Int32) : fr_MI2 yX9_tool cX9_tool 6 .int 2 42 fr_shX (fun w => [.ref (fr_ad w 0), .int a1, .int a2, .int a3]) (fun σ => zX9_tool σ a1 a2 a3) := by
  refine fr_mkI2 (by decide) (fun w => Nat.le_of_ble_eq_true rfl) (fun g w σ hg => ?_)
  show fr_V g w 6 (zX9_tool σ a1 a2 a3) _ 0 [(0, .ref (fr_ad w 0)), (1, .int a1), (2, .int a2), (3, .int a3)] [] σ
  unfold zX9_tool
  refine fr_iload_n hg 1 rfl dX9_tool_0 rfl ?_
  refine fr_ci0 hg (mX9_isTool a1) (fr_crS hg mo_X9_105 rfl (by decide) (by decide) (Nat.le_of_ble_eq_true rfl) dX9_tool_1 rfl) rfl ?_
  refine fr_if_eq hg (m := 14) dX9_tool_4 (by decide) rfl ?_ ?_
  · refine fr_bipush hg (v := (-2)) (by decide) dX9_tool_14 rfl ?_
    exact fr_iret hg (rty := .int) rfl dX9_tool_16 (fun h => h)
  · refine fr_iload_n hg 2 rfl dX9_tool_7 rfl ?_
    refine fr_ci0 hg (mX9_isPair a2) (fr_crS hg mo_X9_108 rfl (by decide) (by decide) (Nat.le_of_ble_eq_true rfl) dX9_tool_8 rfl) rfl ?_
    refine fr_if_ne hg (m := 17) dX9_tool_11 (by decide) rfl ?_ ?_
    · refine fr_iload_n hg 2 rfl dX9_tool_17 rfl ?_
      refine fr_if_ne hg (m := 34) dX9_tool_18 (by decide) rfl ?_ ?_
      · refine fr_iload_n hg 3 rfl dX9_tool_34 rfl ?_
        refine fr_iconst hg (v := 0) (by decide) dX9_tool_35 rfl ?_
        refine fr_bipush hg (v := 99) (by decide) dX9_tool_36 rfl ?_
        refine fr_ci0 hg (mX9_within a3 0 99) (fr_crS hg mo_X9_77 rfl (by decide) (by decide) (Nat.le_of_ble_eq_true rfl) dX9_tool_38 rfl) rfl ?_
        refine fr_if_ne hg (m := 47) dX9_tool_41 (by decide) rfl ?_ ?_
        · refine fr_iload_n hg 2 rfl dX9_tool_47 rfl ?_
          refine fr_if_ne hg (m := 61) dX9_tool_48 (by decide) rfl ?_ ?_
          · refine fr_aload_n hg 0 rfl dX9_tool_61 rfl ?_
            refine fr_getr hg (q := 0) (q' := 9) fo_X9_26 rfl rfl dX9_tool_62 rfl ?_
            refine fr_getr hg (q := 9) (q' := 11) fo_X9_115 rfl rfl dX9_tool_65 rfl ?_
            refine fr_astore hg (ls' := [(0, .ref (fr_ad w 0)), (1, .int a1), (2, .int a2), (3, .int a3), (4, .ref (fr_ad w 11))]) dX9_tool_68 (by decide) rfl rfl ?_
            refine fr_aload hg 4 rfl dX9_tool_70 rfl ?_
            refine fr_iload_n hg 1 rfl dX9_tool_72 rfl ?_
            refine fr_iaload hg (q := 11) rfl dX9_tool_73 rfl (fun x1 => ?_)
            refine fr_istore hg (ls' := [(0, .ref (fr_ad w 0)), (1, .int a1), (2, .int a2), (3, .int a3), (4, .ref (fr_ad w 11)), (5, .int x1)]) dX9_tool_74 (by decide) rfl rfl ?_
            refine fr_aload hg 4 rfl dX9_tool_76 rfl ?_
            refine fr_iload_n hg 1 rfl dX9_tool_78 rfl ?_
            refine fr_iload_n hg 3 rfl dX9_tool_79 rfl ?_
            refine fr_iastore hg (q := 11) rfl dX9_tool_80 rfl (fun σ2 => ?_)
            refine fr_aload_n hg 0 rfl dX9_tool_81 rfl ?_
            refine fr_iconst hg (v := 1) (by decide) dX9_tool_82 rfl ?_
            refine fr_puti hg (q := 0) fp_X9_64 rfl rfl rfl rfl dX9_tool_83 rfl ?_
            refine fr_iload hg 5 rfl dX9_tool_86 rfl ?_
            exact fr_iret hg (rty := .int) rfl dX9_tool_88 (fun h => h)
          · refine fr_aload_n hg 0 rfl dX9_tool_51 rfl ?_
            refine fr_getr hg (q := 0) (q' := 9) fo_X9_26 rfl rfl dX9_tool_52 rfl ?_
            refine fr_getr hg (q := 9) (q' := 10) fo_X9_111 rfl rfl dX9_tool_55 rfl ?_
            refine fr_goto hg (n := 68) dX9_tool_58 (by decide) ?_
            refine fr_astore hg (ls' := [(0, .ref (fr_ad w 0)), (1, .int a1), (2, .int a2), (3, .int a3), (4, .ref (fr_ad w 10))]) dX9_tool_68 (by decide) rfl rfl ?_
            refine fr_aload hg 4 rfl dX9_tool_70 rfl ?_
            refine fr_iload_n hg 1 rfl dX9_tool_72 rfl ?_
            refine fr_iaload hg (q := 10) rfl dX9_tool_73 rfl (fun x3 => ?_)
            refine fr_istore hg (ls' := [(0, .ref (fr_ad w 0)), (1, .int a1), (2, .int a2), (3, .int a3), (4, .ref (fr_ad w 10)), (5, .int x3)]) dX9_tool_74 (by decide) rfl rfl ?_
            refine fr_aload hg 4 rfl dX9_tool_76 rfl ?_
            refine fr_iload_n hg 1 rfl dX9_tool_78 rfl ?_
            refine fr_iload_n hg 3 rfl dX9_tool_79 rfl ?_
            refine fr_iastore hg (q := 10) rfl dX9_tool_80 rfl (fun σ4 => ?_)
            refine fr_aload_n hg 0 rfl dX9_tool_81 rfl ?_
            refine fr_iconst hg (v := 1) (by decide) dX9_tool_82 rfl ?_
            refine fr_puti hg (q := 0) fp_X9_64 rfl rfl rfl rfl dX9_tool_83 rfl ?_
            refine fr_iload hg 5 rfl dX9_tool_86 rfl ?_
            exact fr_iret hg (rty := .int) rfl dX9_tool_88 (fun h => h)
        · refine fr_bipush hg (v := (-2)) (by decide) dX9_tool_44 rfl ?_
          exact fr_iret hg (rty := .int) rfl dX9_tool_46 (fun h => h)
      · refine fr_iload_n hg 3 rfl dX9_tool_21 rfl ?_
        refine fr_iconst hg (v := 1) (by decide) dX9_tool_22 rfl ?_
        refine fr_bipush hg (v := 60) (by decide) dX9_tool_23 rfl ?_
        refine fr_ci0 hg (mX9_within a3 1 60) (fr_crS hg mo_X9_77 rfl (by decide) (by decide) (Nat.le_of_ble_eq_true rfl) dX9_tool_25 rfl) rfl ?_
        refine fr_if_ne hg (m := 47) dX9_tool_28 (by decide) rfl ?_ ?_
        · refine fr_iload_n hg 2 rfl dX9_tool_47 rfl ?_
          refine fr_if_ne hg (m := 61) dX9_tool_48 (by decide) rfl ?_ ?_
          · refine fr_aload_n hg 0 rfl dX9_tool_61 rfl ?_
            refine fr_getr hg (q := 0) (q' := 9) fo_X9_26 rfl rfl dX9_tool_62 rfl ?_
            refine fr_getr hg (q := 9) (q' := 11) fo_X9_115 rfl rfl dX9_tool_65 rfl ?_
            refine fr_astore hg (ls' := [(0, .ref (fr_ad w 0)), (1, .int a1), (2, .int a2), (3, .int a3), (4, .ref (fr_ad w 11))]) dX9_tool_68 (by decide) rfl rfl ?_
            refine fr_aload hg 4 rfl dX9_tool_70 rfl ?_
            refine fr_iload_n hg 1 rfl dX9_tool_72 rfl ?_
            refine fr_iaload hg (q := 11) rfl dX9_tool_73 rfl (fun x5 => ?_)
            refine fr_istore hg (ls' := [(0, .ref (fr_ad w 0)), (1, .int a1), (2, .int a2), (3, .int a3), (4, .ref (fr_ad w 11)), (5, .int x5)]) dX9_tool_74 (by decide) rfl rfl ?_
            refine fr_aload hg 4 rfl dX9_tool_76 rfl ?_
            refine fr_iload_n hg 1 rfl dX9_tool_78 rfl ?_
            refine fr_iload_n hg 3 rfl dX9_tool_79 rfl ?_
            refine fr_iastore hg (q := 11) rfl dX9_tool_80 rfl (fun σ6 => ?_)
            refine fr_aload_n hg 0 rfl dX9_tool_81 rfl ?_
            refine fr_iconst hg (v := 1) (by decide) dX9_tool_82 rfl ?_
            refine fr_puti hg (q := 0) fp_X9_64 rfl rfl rfl rfl dX9_tool_83 rfl ?_
            refine fr_iload hg 5 rfl dX9_tool_86 rfl ?_
            exact fr_iret hg (rty := .int) rfl dX9_tool_88 (fun h => h)
          · refine fr_aload_n hg 0 rfl dX9_tool_51 rfl ?_
            refine fr_getr hg (q := 0) (q' := 9) fo_X9_26 rfl rfl dX9_tool_52 rfl ?_
            refine fr_getr hg (q := 9) (q' := 10) fo_X9_111 rfl rfl dX9_tool_55 rfl ?_
            refine fr_goto hg (n := 68) dX9_tool_58 (by decide) ?_
            refine fr_astore hg (ls' := [(0, .ref (fr_ad w 0)), (1, .int a1), (2, .int a2), (3, .int a3), (4, .ref (fr_ad w 10))]) dX9_tool_68 (by decide) rfl rfl ?_
            refine fr_aload hg 4 rfl dX9_tool_70 rfl ?_
            refine fr_iload_n hg 1 rfl dX9_tool_72 rfl ?_
            refine fr_iaload hg (q := 10) rfl dX9_tool_73 rfl (fun x7 => ?_)
            refine fr_istore hg (ls' := [(0, .ref (fr_ad w 0)), (1, .int a1), (2, .int a2), (3, .int a3), (4, .ref (fr_ad w 10)), (5, .int x7)]) dX9_tool_74 (by decide) rfl rfl ?_
            refine fr_aload hg 4 rfl dX9_tool_76 rfl ?_
            refine fr_iload_n hg 1 rfl dX9_tool_78 rfl ?_
            refine fr_iload_n hg 3 rfl dX9_tool_79 rfl ?_
            refine fr_iastore hg (q := 10) rfl dX9_tool_80 rfl (fun σ8 => ?_)
            refine fr_aload_n hg 0 rfl dX9_tool_81 rfl ?_
            refine fr_iconst hg (v := 1) (by decide) dX9_tool_82 rfl ?_
            refine fr_puti hg (q := 0) fp_X9_64 rfl rfl rfl rfl dX9_tool_83 rfl ?_
            refine fr_iload hg 5 rfl dX9_tool_86 rfl ?_
            exact fr_iret hg (rty := .int) rfl dX9_tool_88 (fun h => h)
        · refine fr_goto hg (n := 44) dX9_tool_31 (by decide) ?_
          refine fr_bipush hg (v := (-2)) (by decide) dX9_tool_44 rfl ?_
          exact fr_iret hg (rty := .int) rfl dX9_tool_46 (fun h => h)
    · refine fr_bipush hg (v := (-2)) (by decide) dX9_tool_14 rfl ?_
      exact fr_iret hg (rty := .int) rfl dX9_tool_16 (fun h => h)
noncomputable def zX8_at (σ : fr_St) (a1 : Int32) (a2 : Int32) : Option (Int32) :=
  if zX9_isKind a1 = 0 then some 0 else if zX9_isCell a2 = 0 then some 0 else (fr_al 160 σ 13 ((a1 * 32) + a2)).bind (fun x1 => some x1)
set_option maxRecDepth 100000 in
set_option maxHeartbeats 4000000 in
theorem mX8_at (a1 : Int32) (a2 : Int32) : fr_MI1 yX8_at cX8_at 3 .int 2 42 fr_shX (fun w => [.ref (fr_ad w 12), .int a1, .int a2]) (fun σ => zX8_at σ a1 a2) := by
  refine fr_mkI1 (by decide) (fun w => Nat.le_of_ble_eq_true rfl) (fun g w σ hg => ?_)
  show fr_V g w 3 (zX8_at σ a1 a2) _ 0 [(0, .ref (fr_ad w 12)), (1, .int a1), (2, .int a2)] [] σ
  unfold zX8_at
  refine fr_iload_n hg 1 rfl dX8_at_0 rfl ?_
  refine fr_ci0 hg (mX9_isKind a1) (fr_crN hg mo_X8_15 rfl (by decide) (by decide) (Nat.le_of_ble_eq_true rfl) dX8_at_1 rfl) rfl ?_
  refine fr_if_eq hg (m := 28) dX8_at_4 (by decide) rfl ?_ ?_
  · refine fr_iconst hg (v := 0) (by decide) dX8_at_28 rfl ?_
    exact fr_iret hg (rty := .int) rfl dX8_at_29 (fun h => h)
  · refine fr_iload_n hg 2 rfl dX8_at_7 rfl ?_
    refine fr_ci0 hg (mX9_isCell a2) (fr_crN hg mo_X8_19 rfl (by decide) (by decide) (Nat.le_of_ble_eq_true rfl) dX8_at_8 rfl) rfl ?_
    refine fr_if_eq hg (m := 28) dX8_at_11 (by decide) rfl ?_ ?_
    · refine fr_iconst hg (v := 0) (by decide) dX8_at_28 rfl ?_
      exact fr_iret hg (rty := .int) rfl dX8_at_29 (fun h => h)
    · refine fr_aload_n hg 0 rfl dX8_at_14 rfl ?_
      refine fr_getr hg (q := 12) (q' := 13) fo_X8_9 rfl rfl dX8_at_15 rfl ?_
      refine fr_iload_n hg 1 rfl dX8_at_18 rfl ?_
      refine fr_bipush hg (v := 32) (by decide) dX8_at_19 rfl ?_
      refine fr_imul hg dX8_at_21 rfl ?_
      refine fr_iload_n hg 2 rfl dX8_at_22 rfl ?_
      refine fr_iadd hg dX8_at_23 rfl ?_
      refine fr_iaload hg (q := 13) rfl dX8_at_24 rfl (fun x1 => ?_)
      refine fr_goto hg (n := 29) dX8_at_25 (by decide) ?_
      exact fr_iret hg (rty := .int) rfl dX8_at_29 (fun h => h)
noncomputable def zX8_put (σ : fr_St) (a1 : Int32) (a2 : Int32) (a3 : Int32) : Option (fr_St) :=
  if zX9_isKind a1 = 0 then some σ else if zX9_isCell a2 = 0 then some σ else (fr_as 160 σ 13 ((a1 * 32) + a2) a3).bind (fun σ1 => some σ1)
set_option maxRecDepth 100000 in
set_option maxHeartbeats 4000000 in
theorem mX8_put (a1 : Int32) (a2 : Int32) (a3 : Int32) : fr_MV2 yX8_put cX8_put 4 2 42 fr_shX (fun w => [.ref (fr_ad w 12), .int a1, .int a2, .int a3]) (fun σ => zX8_put σ a1 a2 a3) := by
  refine fr_mkV2 (by decide) (fun w => Nat.le_of_ble_eq_true rfl) (fun g w σ hg => ?_)
  show fr_V g w 4 (zX8_put σ a1 a2 a3) _ 0 [(0, .ref (fr_ad w 12)), (1, .int a1), (2, .int a2), (3, .int a3)] [] σ
  unfold zX8_put
  refine fr_iload_n hg 1 rfl dX8_put_0 rfl ?_
  refine fr_ci0 hg (mX9_isKind a1) (fr_crN hg mo_X8_15 rfl (by decide) (by decide) (Nat.le_of_ble_eq_true rfl) dX8_put_1 rfl) rfl ?_
  refine fr_if_eq hg (m := 26) dX8_put_4 (by decide) rfl ?_ ?_
  · exact fr_vret hg dX8_put_26 (fun h => h)
  · refine fr_iload_n hg 2 rfl dX8_put_7 rfl ?_
    refine fr_ci0 hg (mX9_isCell a2) (fr_crN hg mo_X8_19 rfl (by decide) (by decide) (Nat.le_of_ble_eq_true rfl) dX8_put_8 rfl) rfl ?_
    refine fr_if_eq hg (m := 26) dX8_put_11 (by decide) rfl ?_ ?_
    · exact fr_vret hg dX8_put_26 (fun h => h)
    · refine fr_aload_n hg 0 rfl dX8_put_14 rfl ?_
      refine fr_getr hg (q := 12) (q' := 13) fo_X8_9 rfl rfl dX8_put_15 rfl ?_
      refine fr_iload_n hg 1 rfl dX8_put_18 rfl ?_
      refine fr_bipush hg (v := 32) (by decide) dX8_put_19 rfl ?_
      refine fr_imul hg dX8_put_21 rfl ?_
      refine fr_iload_n hg 2 rfl dX8_put_22 rfl ?_
      refine fr_iadd hg dX8_put_23 rfl ?_
      refine fr_iload_n hg 3 rfl dX8_put_24 rfl ?_
      refine fr_iastore hg (q := 13) rfl dX8_put_25 rfl (fun σ1 => ?_)
      exact fr_vret hg dX8_put_26 (fun h => h)
noncomputable def zX9_looks (σ : fr_St) (a1 : Int32) (a2 : Int32) (a3 : Int32) : Option (Int32 × fr_St) :=
  if zX9_isKind a1 = 0 then some ((-2), σ) else if zX9_isCell a2 = 0 then some ((-2), σ) else if zX9_within a3 0 9 = 0 then some ((-2), σ) else (zX8_at σ a1 a2).bind (fun r1 => (zX8_put σ a1 a2 a3).bind (fun σ2 => some (r1, (fr_put σ2 0 8 1))))
set_option maxRecDepth 100000 in
set_option maxHeartbeats 4000000 in
theorem mX9_looks (a1 : Int32) (a2 : Int32) (a3 : Int32) : fr_MI2 yX9_looks cX9_looks 5 .int 3 65 fr_shX (fun w => [.ref (fr_ad w 0), .int a1, .int a2, .int a3]) (fun σ => zX9_looks σ a1 a2 a3) := by
  refine fr_mkI2 (by decide) (fun w => Nat.le_of_ble_eq_true rfl) (fun g w σ hg => ?_)
  show fr_V g w 5 (zX9_looks σ a1 a2 a3) _ 0 [(0, .ref (fr_ad w 0)), (1, .int a1), (2, .int a2), (3, .int a3)] [] σ
  unfold zX9_looks
  refine fr_iload_n hg 1 rfl dX9_looks_0 rfl ?_
  refine fr_ci0 hg (mX9_isKind a1) (fr_crS hg mo_X9_118 rfl (by decide) (by decide) (Nat.le_of_ble_eq_true rfl) dX9_looks_1 rfl) rfl ?_
  refine fr_if_eq hg (m := 24) dX9_looks_4 (by decide) rfl ?_ ?_
  · refine fr_bipush hg (v := (-2)) (by decide) dX9_looks_24 rfl ?_
    exact fr_iret hg (rty := .int) rfl dX9_looks_26 (fun h => h)
  · refine fr_iload_n hg 2 rfl dX9_looks_7 rfl ?_
    refine fr_ci0 hg (mX9_isCell a2) (fr_crS hg mo_X9_121 rfl (by decide) (by decide) (Nat.le_of_ble_eq_true rfl) dX9_looks_8 rfl) rfl ?_
    refine fr_if_eq hg (m := 24) dX9_looks_11 (by decide) rfl ?_ ?_
    · refine fr_bipush hg (v := (-2)) (by decide) dX9_looks_24 rfl ?_
      exact fr_iret hg (rty := .int) rfl dX9_looks_26 (fun h => h)
    · refine fr_iload_n hg 3 rfl dX9_looks_14 rfl ?_
      refine fr_iconst hg (v := 0) (by decide) dX9_looks_15 rfl ?_
      refine fr_bipush hg (v := 9) (by decide) dX9_looks_16 rfl ?_
      refine fr_ci0 hg (mX9_within a3 0 9) (fr_crS hg mo_X9_77 rfl (by decide) (by decide) (Nat.le_of_ble_eq_true rfl) dX9_looks_18 rfl) rfl ?_
      refine fr_if_ne hg (m := 27) dX9_looks_21 (by decide) rfl ?_ ?_
      · refine fr_aload_n hg 0 rfl dX9_looks_27 rfl ?_
        refine fr_getr hg (q := 0) (q' := 12) fo_X9_33 rfl rfl dX9_looks_28 rfl ?_
        refine fr_iload_n hg 1 rfl dX9_looks_31 rfl ?_
        refine fr_iload_n hg 2 rfl dX9_looks_32 rfl ?_
        refine fr_ci1 hg (mX8_at a1 a2) (fr_crV hg (q := 12) mo_X9_124 rfl ⟨_, _, rfl⟩ rfl (by decide) (by decide) (Nat.le_of_ble_eq_true rfl) dX9_looks_33 rfl) rfl (fun r1 => ?_)
        refine fr_istore hg (ls' := [(0, .ref (fr_ad w 0)), (1, .int a1), (2, .int a2), (3, .int a3), (4, .int r1)]) dX9_looks_36 (by decide) rfl rfl ?_
        refine fr_aload_n hg 0 rfl dX9_looks_38 rfl ?_
        refine fr_getr hg (q := 0) (q' := 12) fo_X9_33 rfl rfl dX9_looks_39 rfl ?_
        refine fr_iload_n hg 1 rfl dX9_looks_42 rfl ?_
        refine fr_iload_n hg 2 rfl dX9_looks_43 rfl ?_
        refine fr_iload_n hg 3 rfl dX9_looks_44 rfl ?_
        refine fr_cv2 hg (mX8_put a1 a2 a3) (fr_crV hg (q := 12) mo_X9_128 rfl ⟨_, _, rfl⟩ rfl (by decide) (by decide) (Nat.le_of_ble_eq_true rfl) dX9_looks_45 rfl) rfl (fun σ2 => ?_)
        refine fr_aload_n hg 0 rfl dX9_looks_48 rfl ?_
        refine fr_iconst hg (v := 1) (by decide) dX9_looks_49 rfl ?_
        refine fr_puti hg (q := 0) fp_X9_64 rfl rfl rfl rfl dX9_looks_50 rfl ?_
        refine fr_iload hg 4 rfl dX9_looks_53 rfl ?_
        exact fr_iret hg (rty := .int) rfl dX9_looks_55 (fun h => h)
      · refine fr_bipush hg (v := (-2)) (by decide) dX9_looks_24 rfl ?_
        exact fr_iret hg (rty := .int) rfl dX9_looks_26 (fun h => h)
def zX9_isSheet (a1 : Int32) : Int32 :=
  zX9_within a1 0 3
theorem zbX9_isSheet (a1 : Int32) : zX9_isSheet a1 = 0 ∨ zX9_isSheet a1 = 1 := by
  unfold zX9_isSheet
  first | exact zbX9_within a1 0 3 | ((repeat' split) <;> first | exact Or.inl rfl | exact Or.inr rfl)
set_option maxRecDepth 100000 in
set_option maxHeartbeats 4000000 in
theorem mX9_isSheet (a1 : Int32) : fr_MI0 yX9_isSheet cX9_isSheet 1 .boolean 1 22 fr_shX (fun w => [.int a1]) (fun σ => zX9_isSheet a1) := by
  refine fr_mkI0 (by decide) (fun w => Nat.le_of_ble_eq_true rfl) (fun g w σ hg => ?_)
  show fr_V g w 1 (some (zX9_isSheet a1)) _ 0 [(0, .int a1)] [] σ
  unfold zX9_isSheet
  refine fr_iload_n hg 0 rfl dX9_isSheet_0 rfl ?_
  refine fr_iconst hg (v := 0) (by decide) dX9_isSheet_1 rfl ?_
  refine fr_iconst hg (v := 3) (by decide) dX9_isSheet_2 rfl ?_
  refine fr_ci0 hg (mX9_within a1 0 3) (fr_crS hg mo_X9_77 rfl (by decide) (by decide) (Nat.le_of_ble_eq_true rfl) dX9_isSheet_3 rfl) rfl ?_
  exact fr_iret hg (rty := .boolean) (fr_nb (zbX9_within a1 0 3)) dX9_isSheet_6 (fun h => h)
