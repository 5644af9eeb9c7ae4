noncomputable def zX10_faced (σ : fr_St)  : Option (Int32 × fr_St) :=
  (zX10_readsPane σ).bind (fun p2 => (zX10_facedNow p2.2).bind (fun r3 => some (r3, p2.2)))
set_option maxRecDepth 100000 in
set_option maxHeartbeats 4000000 in
theorem mX10_faced  : fr_MI2 yX10_faced cX10_faced 1 .int 3 69 fr_shM (fun w => [.ref (fr_ad w 0)]) (fun σ => zX10_faced σ) := by
  refine fr_mkI2 (by decide) (fun w => Nat.le_of_ble_eq_true rfl) (fun g w σ hg => ?_)
  show fr_V g w 1 (zX10_faced σ) _ 0 [(0, .ref (fr_ad w 0))] [] σ
  unfold zX10_faced
  refine fr_aload_n hg 0 rfl dX10_faced_0 rfl ?_
  refine fr_ci2 hg mX10_readsPane (fr_crV hg (q := 0) mo_X10_134 rfl ⟨_, _, rfl⟩ rfl (by decide) (by decide) (Nat.le_of_ble_eq_true rfl) dX10_faced_1 rfl) rfl (fun p2 => ?_)
  refine fr_pop hg rfl dX10_faced_4 rfl ?_
  refine fr_aload_n hg 0 rfl dX10_faced_5 rfl ?_
  refine fr_ci1 hg mX10_facedNow (fr_crV hg (q := 0) mo_X10_271 rfl ⟨_, _, rfl⟩ rfl (by decide) (by decide) (Nat.le_of_ble_eq_true rfl) dX10_faced_6 rfl) rfl (fun r3 => ?_)
  exact fr_iret hg (rty := .int) rfl dX10_faced_9 (fun h => h)
noncomputable def zX10_bendOf (σ : fr_St) (a1 : Int32) (a2 : Int32) (a3 : Int32) : Option (Int32) :=
  (zX10_riskOf σ a1).bind (fun r1 => if a3 * r1 ≤ a2 then some 0 else some 1)
set_option maxRecDepth 100000 in
set_option maxHeartbeats 4000000 in
theorem mX10_bendOf (a1 : Int32) (a2 : Int32) (a3 : Int32) : fr_MI1 yX10_bendOf cX10_bendOf 4 .int 1 23 fr_shM (fun w => [.ref (fr_ad w 0), .int a1, .int a2, .int a3]) (fun σ => zX10_bendOf σ a1 a2 a3) := by
  refine fr_mkI1 (by decide) (fun w => Nat.le_of_ble_eq_true rfl) (fun g w σ hg => ?_)
  show fr_V g w 4 (zX10_bendOf σ a1 a2 a3) _ 0 [(0, .ref (fr_ad w 0)), (1, .int a1), (2, .int a2), (3, .int a3)] [] σ
  unfold zX10_bendOf
  refine fr_iload_n hg 2 rfl dX10_bendOf_0 rfl ?_
  refine fr_iload_n hg 3 rfl dX10_bendOf_1 rfl ?_
  refine fr_aload_n hg 0 rfl dX10_bendOf_2 rfl ?_
  refine fr_iload_n hg 1 rfl dX10_bendOf_3 rfl ?_
  refine fr_ci1 hg (mX10_riskOf a1) (fr_crV hg (q := 0) mo_X10_177 rfl ⟨_, _, rfl⟩ rfl (by decide) (by decide) (Nat.le_of_ble_eq_true rfl) dX10_bendOf_4 rfl) rfl (fun r1 => ?_)
  refine fr_imul hg dX10_bendOf_7 rfl ?_
  refine fr_icmp_ge hg (m := 15) dX10_bendOf_8 (by decide) rfl ?_ ?_
  · refine fr_iconst hg (v := 0) (by decide) dX10_bendOf_15 rfl ?_
    exact fr_iret hg (rty := .int) rfl dX10_bendOf_16 (fun h => h)
  · refine fr_iconst hg (v := 1) (by decide) dX10_bendOf_11 rfl ?_
    refine fr_goto hg (n := 16) dX10_bendOf_12 (by decide) ?_
    exact fr_iret hg (rty := .int) rfl dX10_bendOf_16 (fun h => h)
noncomputable def zX10_bend (σ : fr_St) (a1 : Int32) (a2 : Int32) (a3 : Int32) : Option (Int32 × fr_St) :=
  (zX10_scrapesAll σ).bind (fun σ1 => if zX10_in a1.toInt64 0 (((σ1 0 14) - 1).toInt64) = 0 then some ((-2), σ1) else if zX10_in a2.toInt64 0 999 = 0 then some ((-2), σ1) else if zX10_in a3.toInt64 0 99 = 0 then some ((-2), σ1) else (zX10_bendOf σ1 a1 a2 a3).bind (fun r2 => some (r2, σ1)))
set_option maxRecDepth 100000 in
set_option maxHeartbeats 4000000 in
theorem mX10_bend (a1 : Int32) (a2 : Int32) (a3 : Int32) : fr_MI2 yX10_bend cX10_bend 4 .int 5 113 fr_shM (fun w => [.ref (fr_ad w 0), .int a1, .int a2, .int a3]) (fun σ => zX10_bend σ a1 a2 a3) := by
  refine fr_mkI2 (by decide) (fun w => Nat.le_of_ble_eq_true rfl) (fun g w σ hg => ?_)
  show fr_V g w 4 (zX10_bend σ a1 a2 a3) _ 0 [(0, .ref (fr_ad w 0)), (1, .int a1), (2, .int a2), (3, .int a3)] [] σ
  unfold zX10_bend
  refine fr_aload_n hg 0 rfl dX10_bend_0 rfl ?_
  refine fr_cv2 hg mX10_scrapesAll (fr_crV hg (q := 0) mo_X10_174 rfl ⟨_, _, rfl⟩ rfl (by decide) (by decide) (Nat.le_of_ble_eq_true rfl) dX10_bend_1 rfl) rfl (fun σ1 => ?_)
  refine fr_iload_n hg 1 rfl dX10_bend_4 rfl ?_
  refine fr_i2l hg dX10_bend_5 rfl ?_
  refine fr_lconst hg (v := 0) (by decide) dX10_bend_6 rfl ?_
  refine fr_aload_n hg 0 rfl dX10_bend_7 rfl ?_
  refine fr_geti hg (q := 0) fo_X10_128 rfl rfl dX10_bend_8 rfl ?_
  refine fr_iconst hg (v := 1) (by decide) dX10_bend_11 rfl ?_
  refine fr_isub hg dX10_bend_12 rfl ?_
  refine fr_i2l hg dX10_bend_13 rfl ?_
  refine fr_ci0 hg (mX10_in a1.toInt64 0 (((σ1 0 14) - 1).toInt64)) (fr_crS hg mo_X10_73 rfl (by decide) (by decide) (Nat.le_of_ble_eq_true rfl) dX10_bend_14 rfl) rfl ?_
  refine fr_if_eq hg (m := 54) dX10_bend_17 (by decide) rfl ?_ ?_
  · refine fr_bipush hg (v := (-2)) (by decide) dX10_bend_54 rfl ?_
    exact fr_iret hg (rty := .int) rfl dX10_bend_56 (fun h => h)
  · refine fr_iload_n hg 2 rfl dX10_bend_20 rfl ?_
    refine fr_i2l hg dX10_bend_21 rfl ?_
    refine fr_lconst hg (v := 0) (by decide) dX10_bend_22 rfl ?_
    refine fr_ldc2 hg cl_X10_274 dX10_bend_23 rfl ?_
    refine fr_ci0 hg (mX10_in a2.toInt64 0 999) (fr_crS hg mo_X10_73 rfl (by decide) (by decide) (Nat.le_of_ble_eq_true rfl) dX10_bend_26 rfl) rfl ?_
    refine fr_if_eq hg (m := 54) dX10_bend_29 (by decide) rfl ?_ ?_
    · refine fr_bipush hg (v := (-2)) (by decide) dX10_bend_54 rfl ?_
      exact fr_iret hg (rty := .int) rfl dX10_bend_56 (fun h => h)
    · refine fr_iload_n hg 3 rfl dX10_bend_32 rfl ?_
      refine fr_i2l hg dX10_bend_33 rfl ?_
      refine fr_lconst hg (v := 0) (by decide) dX10_bend_34 rfl ?_
      refine fr_ldc2 hg cl_X10_148 dX10_bend_35 rfl ?_
      refine fr_ci0 hg (mX10_in a3.toInt64 0 99) (fr_crS hg mo_X10_73 rfl (by decide) (by decide) (Nat.le_of_ble_eq_true rfl) dX10_bend_38 rfl) rfl ?_
      refine fr_if_eq hg (m := 54) dX10_bend_41 (by decide) rfl ?_ ?_
      · refine fr_bipush hg (v := (-2)) (by decide) dX10_bend_54 rfl ?_
        exact fr_iret hg (rty := .int) rfl dX10_bend_56 (fun h => h)
      · refine fr_aload_n hg 0 rfl dX10_bend_44 rfl ?_
        refine fr_iload_n hg 1 rfl dX10_bend_45 rfl ?_
        refine fr_iload_n hg 2 rfl dX10_bend_46 rfl ?_
        refine fr_iload_n hg 3 rfl dX10_bend_47 rfl ?_
        refine fr_ci1 hg (mX10_bendOf a1 a2 a3) (fr_crV hg (q := 0) mo_X10_276 rfl ⟨_, _, rfl⟩ rfl (by decide) (by decide) (Nat.le_of_ble_eq_true rfl) dX10_bend_48 rfl) rfl (fun r2 => ?_)
        refine fr_goto hg (n := 56) dX10_bend_51 (by decide) ?_
        exact fr_iret hg (rty := .int) rfl dX10_bend_56 (fun h => h)
noncomputable def zX10_sheet_L55 (k1 : Int32) (k3 : Int32) (v4 : Int32) (σ : fr_St) : Option ((Int32 × fr_St) ⊕ (fr_St)) :=
  if k3 ≤ v4 then some (.inr σ) else (fr_as 240 σ 3 ((60 * k1) + v4) 0).bind (fun σ1 => some (.inl (v4 + 1, σ1)))
noncomputable def zX10_sheet (σ : fr_St) (a1 : Int32) (a2 : Int32) (a3 : Int32) : Option (Int32 × fr_St) :=
  if zX10_isSheet a1 = 0 then some ((-2), σ) else if zX10_in a2.toInt64 0 2 = 0 then some ((-2), σ) else if a3 ≤ 60 then if 0 ≤ a3 then (fr_as 4 σ 1 a1 a2).bind (fun σ1 => (fr_as 4 σ1 2 a1 a3).bind (fun σ2 => (fr_loop (fun (b3 : Int32 × fr_St) => zX10_sheet_L55 a1 a3 b3.1 b3.2) fr_fu (0, σ2)).bind (fun (c4 : fr_St) => some (a3, c4)))) else (zX10_met σ 5).bind (fun p7 => some (p7.1, p7.2)) else some ((-2), σ)
set_option maxRecDepth 100000 in
set_option maxHeartbeats 4000000 in
theorem mX10_sheet (a1 : Int32) (a2 : Int32) (a3 : Int32) : fr_MI2 yX10_sheet cX10_sheet 5 .int 2 45 fr_shM (fun w => [.ref (fr_ad w 0), .int a1, .int a2, .int a3]) (fun σ => zX10_sheet σ a1 a2 a3) := by
  refine fr_mkI2 (by decide) (fun w => Nat.le_of_ble_eq_true rfl) (fun g w σ hg => ?_)
  show fr_V g w 5 (zX10_sheet σ a1 a2 a3) _ 0 [(0, .ref (fr_ad w 0)), (1, .int a1), (2, .int a2), (3, .int a3)] [] σ
  unfold zX10_sheet
  refine fr_iload_n hg 1 rfl dX10_sheet_0 rfl ?_
  refine fr_ci0 hg (mX10_isSheet a1) (fr_crS hg mo_X10_83 rfl (by decide) (by decide) (Nat.le_of_ble_eq_true rfl) dX10_sheet_1 rfl) rfl ?_
  refine fr_if_eq hg (m := 25) dX10_sheet_4 (by decide) rfl ?_ ?_
  · refine fr_bipush hg (v := (-2)) (by decide) dX10_sheet_25 rfl ?_
    exact fr_iret hg (rty := .int) rfl dX10_sheet_27 (fun h => h)
  · refine fr_iload_n hg 2 rfl dX10_sheet_7 rfl ?_
    refine fr_i2l hg dX10_sheet_8 rfl ?_
    refine fr_lconst hg (v := 0) (by decide) dX10_sheet_9 rfl ?_
    refine fr_ldc2 hg cl_X10_87 dX10_sheet_10 rfl ?_
    refine fr_ci0 hg (mX10_in a2.toInt64 0 2) (fr_crS hg mo_X10_73 rfl (by decide) (by decide) (Nat.le_of_ble_eq_true rfl) dX10_sheet_13 rfl) rfl ?_
    refine fr_if_eq hg (m := 25) dX10_sheet_16 (by decide) rfl ?_ ?_
    · refine fr_bipush hg (v := (-2)) (by decide) dX10_sheet_25 rfl ?_
      exact fr_iret hg (rty := .int) rfl dX10_sheet_27 (fun h => h)
    · refine fr_iload_n hg 3 rfl dX10_sheet_19 rfl ?_
      refine fr_bipush hg (v := 60) (by decide) dX10_sheet_20 rfl ?_
      refine fr_icmp_le hg (m := 28) dX10_sheet_22 (by decide) rfl ?_ ?_
      · refine fr_iload_n hg 3 rfl dX10_sheet_28 rfl ?_
        refine fr_if_ge hg (m := 38) dX10_sheet_29 (by decide) rfl ?_ ?_
        · refine fr_aload_n hg 0 rfl dX10_sheet_38 rfl ?_
          refine fr_getr hg (q := 0) (q' := 1) fo_X10_7 rfl rfl dX10_sheet_39 rfl ?_
          refine fr_iload_n hg 1 rfl dX10_sheet_42 rfl ?_
          refine fr_iload_n hg 2 rfl dX10_sheet_43 rfl ?_
          refine fr_iastore hg (q := 1) rfl dX10_sheet_44 rfl (fun σ1 => ?_)
          refine fr_aload_n hg 0 rfl dX10_sheet_45 rfl ?_
          refine fr_getr hg (q := 0) (q' := 2) fo_X10_13 rfl rfl dX10_sheet_46 rfl ?_
          refine fr_iload_n hg 1 rfl dX10_sheet_49 rfl ?_
          refine fr_iload_n hg 3 rfl dX10_sheet_50 rfl ?_
          refine fr_iastore hg (q := 2) rfl dX10_sheet_51 rfl (fun σ2 => ?_)
          refine fr_iconst hg (v := 0) (by decide) dX10_sheet_52 rfl ?_
          refine fr_istore hg (ls' := [(0, .ref (fr_ad w 0)), (1, .int a1), (2, .int a2), (3, .int a3), (4, .int 0)]) dX10_sheet_53 (by decide) rfl rfl ?_
          refine fr_lp (fun (b3 : Int32 × fr_St) => [(0, .ref (fr_ad w 0)), (1, .int a1), (3, .int a3), (4, .int b3.1)]) (fun b3 => b3.2) 80 (fun (c4 : fr_St) => [(3, .int a3)]) (fun c4 => c4) [0, 1, 3, 4] rfl rfl (fun b3 => ?_) (fun c4 => ?_)
          · show fr_V g w _ (zX10_sheet_L55 a1 a3 b3.1 b3.2) _ _ _ _ _
            unfold zX10_sheet_L55
            refine fr_iload hg 3 rfl dX10_sheet_55 rfl ?_
            refine fr_iload_n hg 2 rfl dX10_sheet_57 rfl ?_
            refine fr_icmp_ge hg (m := 80) dX10_sheet_58 (by decide) rfl ?_ ?_
            · exact fr_leaf [2] rfl (fun h => h)
            · refine fr_aload_n hg 0 rfl dX10_sheet_61 rfl ?_
              refine fr_getr hg (q := 0) (q' := 3) fo_X10_16 rfl rfl dX10_sheet_62 rfl ?_
              refine fr_bipush hg (v := 60) (by decide) dX10_sheet_65 rfl ?_
              refine fr_iload_n hg 1 rfl dX10_sheet_67 rfl ?_
              refine fr_imul hg dX10_sheet_68 rfl ?_
              refine fr_iload hg 3 rfl dX10_sheet_69 rfl ?_
              refine fr_iadd hg dX10_sheet_71 rfl ?_
              refine fr_iconst hg (v := 0) (by decide) dX10_sheet_72 rfl ?_
              refine fr_iastore hg (q := 3) rfl dX10_sheet_73 rfl (fun σ5 => ?_)
              refine fr_iinc hg 3 (v := b3.1 + 1) (ls' := [(0, .ref (fr_ad w 0)), (1, .int a1), (3, .int a3), (4, .int (b3.1 + 1))]) dX10_sheet_74 rfl rfl (by decide) rfl rfl ?_
              refine fr_goto hg (n := 55) dX10_sheet_77 (by decide) ?_
              exact fr_leaf [0, 1, 2, 3] rfl (fun h => h)
          refine fr_iload_n hg 0 rfl dX10_sheet_80 rfl ?_
          exact fr_iret hg (rty := .int) rfl dX10_sheet_81 (fun h => h)
        · refine fr_aload_n hg 0 rfl dX10_sheet_32 rfl ?_
          refine fr_iconst hg (v := 5) (by decide) dX10_sheet_33 rfl ?_
          refine fr_ci2 hg (mX10_met 5) (fr_crV hg (q := 0) mo_X10_89 rfl ⟨_, _, rfl⟩ rfl (by decide) (by decide) (Nat.le_of_ble_eq_true rfl) dX10_sheet_34 rfl) rfl (fun p7 => ?_)
          exact fr_iret hg (rty := .int) rfl dX10_sheet_37 (fun h => h)
      · refine fr_bipush hg (v := (-2)) (by decide) dX10_sheet_25 rfl ?_
        exact fr_iret hg (rty := .int) rfl dX10_sheet_27 (fun h => h)
noncomputable def zX10_lose (σ : fr_St) (a1 : Int32) : Option (Int32 × fr_St) :=
  if zX10_isSheet a1 = 0 then some ((-2), σ) else (fr_al 4 σ 1 a1).bind (fun x1 => if 0 ≤ x1 then (fr_as 4 σ 1 a1 (-1)).bind (fun σ2 => (fr_al 4 σ2 2 a1).bind (fun x3 => some (x3, σ2))) else (zX10_met σ 1).bind (fun p5 => some (p5.1, p5.2)))
set_option maxRecDepth 100000 in
set_option maxHeartbeats 4000000 in
theorem mX10_lose (a1 : Int32) : fr_MI2 yX10_lose cX10_lose 2 .int 2 45 fr_shM (fun w => [.ref (fr_ad w 0), .int a1]) (fun σ => zX10_lose σ a1) := by
  refine fr_mkI2 (by decide) (fun w => Nat.le_of_ble_eq_true rfl) (fun g w σ hg => ?_)
  show fr_V g w 2 (zX10_lose σ a1) _ 0 [(0, .ref (fr_ad w 0)), (1, .int a1)] [] σ
  unfold zX10_lose
  refine fr_iload_n hg 1 rfl dX10_lose_0 rfl ?_
  refine fr_ci0 hg (mX10_isSheet a1) (fr_crS hg mo_X10_83 rfl (by decide) (by decide) (Nat.le_of_ble_eq_true rfl) dX10_lose_1 rfl) rfl ?_
  refine fr_if_ne hg (m := 10) dX10_lose_4 (by decide) rfl ?_ ?_
  · refine fr_aload_n hg 0 rfl dX10_lose_10 rfl ?_
    refine fr_getr hg (q := 0) (q' := 1) fo_X10_7 rfl rfl dX10_lose_11 rfl ?_
    refine fr_iload_n hg 1 rfl dX10_lose_14 rfl ?_
    refine fr_iaload hg (q := 1) rfl dX10_lose_15 rfl (fun x1 => ?_)
    refine fr_if_ge hg (m := 25) dX10_lose_16 (by decide) rfl ?_ ?_
    · refine fr_aload_n hg 0 rfl dX10_lose_25 rfl ?_
      refine fr_getr hg (q := 0) (q' := 1) fo_X10_7 rfl rfl dX10_lose_26 rfl ?_
      refine fr_iload_n hg 1 rfl dX10_lose_29 rfl ?_
      refine fr_iconst hg (v := (-1)) (by decide) dX10_lose_30 rfl ?_
      refine fr_iastore hg (q := 1) rfl dX10_lose_31 rfl (fun σ2 => ?_)
      refine fr_aload_n hg 0 rfl dX10_lose_32 rfl ?_
      refine fr_getr hg (q := 0) (q' := 2) fo_X10_13 rfl rfl dX10_lose_33 rfl ?_
      refine fr_iload_n hg 1 rfl dX10_lose_36 rfl ?_
      refine fr_iaload hg (q := 2) rfl dX10_lose_37 rfl (fun x3 => ?_)
      exact fr_iret hg (rty := .int) rfl dX10_lose_38 (fun h => h)
    · refine fr_aload_n hg 0 rfl dX10_lose_19 rfl ?_
      refine fr_iconst hg (v := 1) (by decide) dX10_lose_20 rfl ?_
      refine fr_ci2 hg (mX10_met 1) (fr_crV hg (q := 0) mo_X10_89 rfl ⟨_, _, rfl⟩ rfl (by decide) (by decide) (Nat.le_of_ble_eq_true rfl) dX10_lose_21 rfl) rfl (fun p5 => ?_)
      exact fr_iret hg (rty := .int) rfl dX10_lose_24 (fun h => h)
  · refine fr_bipush hg (v := (-2)) (by decide) dX10_lose_7 rfl ?_
    exact fr_iret hg (rty := .int) rfl dX10_lose_9 (fun h => h)
noncomputable def zX10_lacks (σ : fr_St) (a1 : Int32) (a2 : Int32) (a3 : Int32) : Option (Int32 × fr_St) :=
  (fr_al 4 σ 1 a1).bind (fun x1 => if 0 ≤ x1 then (fr_al 4 σ 1 a1).bind (fun x2 => if x2 = a2 then (fr_al 4 σ 2 a1).bind (fun x3 => if zX10_in a3.toInt64 0 ((x3 - 1).toInt64) = 0 then (zX10_met σ 2).bind (fun p5 => some (p5.1, p5.2)) else some (0, σ)) else (zX10_met σ 3).bind (fun p7 => some (p7.1, p7.2))) else (zX10_met σ 1).bind (fun p9 => some (p9.1, p9.2)))
set_option maxRecDepth 100000 in
set_option maxHeartbeats 4000000 in
theorem mX10_lacks (a1 : Int32) (a2 : Int32) (a3 : Int32) : fr_MI2 yX10_lacks cX10_lacks 4 .int 1 25 fr_shM (fun w => [.ref (fr_ad w 0), .int a1, .int a2, .int a3]) (fun σ => zX10_lacks σ a1 a2 a3) := by
  refine fr_mkI2 (by decide) (fun w => Nat.le_of_ble_eq_true rfl) (fun g w σ hg => ?_)
  show fr_V g w 4 (zX10_lacks σ a1 a2 a3) _ 0 [(0, .ref (fr_ad w 0)), (1, .int a1), (2, .int a2), (3, .int a3)] [] σ
  unfold zX10_lacks
  refine fr_aload_n hg 0 rfl dX10_lacks_0 rfl ?_
  refine fr_getr hg (q := 0) (q' := 1) fo_X10_7 rfl rfl dX10_lacks_1 rfl ?_
  refine fr_iload_n hg 1 rfl dX10_lacks_4 rfl ?_
  refine fr_iaload hg (q := 1) rfl dX10_lacks_5 rfl (fun x1 => ?_)
  refine fr_if_ge hg (m := 15) dX10_lacks_6 (by decide) rfl ?_ ?_
  · refine fr_aload_n hg 0 rfl dX10_lacks_15 rfl ?_
    refine fr_getr hg (q := 0) (q' := 1) fo_X10_7 rfl rfl dX10_lacks_16 rfl ?_
    refine fr_iload_n hg 1 rfl dX10_lacks_19 rfl ?_
    refine fr_iaload hg (q := 1) rfl dX10_lacks_20 rfl (fun x2 => ?_)
    refine fr_iload_n hg 2 rfl dX10_lacks_21 rfl ?_
    refine fr_icmp_eq hg (m := 31) dX10_lacks_22 (by decide) rfl ?_ ?_
    · refine fr_iload_n hg 3 rfl dX10_lacks_31 rfl ?_
      refine fr_i2l hg dX10_lacks_32 rfl ?_
      refine fr_lconst hg (v := 0) (by decide) dX10_lacks_33 rfl ?_
      refine fr_aload_n hg 0 rfl dX10_lacks_34 rfl ?_
      refine fr_getr hg (q := 0) (q' := 2) fo_X10_13 rfl rfl dX10_lacks_35 rfl ?_
      refine fr_iload_n hg 1 rfl dX10_lacks_38 rfl ?_
      refine fr_iaload hg (q := 2) rfl dX10_lacks_39 rfl (fun x3 => ?_)
      refine fr_iconst hg (v := 1) (by decide) dX10_lacks_40 rfl ?_
      refine fr_isub hg dX10_lacks_41 rfl ?_
      refine fr_i2l hg dX10_lacks_42 rfl ?_
      refine fr_ci0 hg (mX10_in a3.toInt64 0 ((x3 - 1).toInt64)) (fr_crS hg mo_X10_73 rfl (by decide) (by decide) (Nat.le_of_ble_eq_true rfl) dX10_lacks_43 rfl) rfl ?_
      refine fr_if_eq hg (m := 53) dX10_lacks_46 (by decide) rfl ?_ ?_
      · refine fr_aload_n hg 0 rfl dX10_lacks_53 rfl ?_
        refine fr_iconst hg (v := 2) (by decide) dX10_lacks_54 rfl ?_
        refine fr_ci2 hg (mX10_met 2) (fr_crV hg (q := 0) mo_X10_89 rfl ⟨_, _, rfl⟩ rfl (by decide) (by decide) (Nat.le_of_ble_eq_true rfl) dX10_lacks_55 rfl) rfl (fun p5 => ?_)
        exact fr_iret hg (rty := .int) rfl dX10_lacks_58 (fun h => h)
      · refine fr_iconst hg (v := 0) (by decide) dX10_lacks_49 rfl ?_
        refine fr_goto hg (n := 58) dX10_lacks_50 (by decide) ?_
        exact fr_iret hg (rty := .int) rfl dX10_lacks_58 (fun h => h)
    · refine fr_aload_n hg 0 rfl dX10_lacks_25 rfl ?_
      refine fr_iconst hg (v := 3) (by decide) dX10_lacks_26 rfl ?_
      refine fr_ci2 hg (mX10_met 3) (fr_crV hg (q := 0) mo_X10_89 rfl ⟨_, _, rfl⟩ rfl (by decide) (by decide) (Nat.le_of_ble_eq_true rfl) dX10_lacks_27 rfl) rfl (fun p7 => ?_)
      exact fr_iret hg (rty := .int) rfl dX10_lacks_30 (fun h => h)
  · refine fr_aload_n hg 0 rfl dX10_lacks_9 rfl ?_
    refine fr_iconst hg (v := 1) (by decide) dX10_lacks_10 rfl ?_
    refine fr_ci2 hg (mX10_met 1) (fr_crV hg (q := 0) mo_X10_89 rfl ⟨_, _, rfl⟩ rfl (by decide) (by decide) (Nat.le_of_ble_eq_true rfl) dX10_lacks_11 rfl) rfl (fun p9 => ?_)
    exact fr_iret hg (rty := .int) rfl dX10_lacks_14 (fun h => h)
def zX10_cut (a1 : Int32) (a2 : Int32) : Int32 :=
  if a1 = 0 then a2.toInt8.toInt32 else if a1 = 1 then a2.toInt16.toInt32 else a2
set_option maxRecDepth 100000 in
set_option maxHeartbeats 4000000 in
theorem mX10_cut (a1 : Int32) (a2 : Int32) : fr_MI0 yX10_cut cX10_cut 2 .int 0 0 fr_shM (fun w => [.int a1, .int a2]) (fun σ => zX10_cut a1 a2) := by
  refine fr_mkI0 (by decide) (fun w => Nat.le_of_ble_eq_true rfl) (fun g w σ hg => ?_)
  show fr_V g w 2 (some (zX10_cut a1 a2)) _ 0 [(0, .int a1), (1, .int a2)] [] σ
  unfold zX10_cut
  refine fr_iload_n hg 0 rfl dX10_cut_0 rfl ?_
  refine fr_some_ite ?_
  refine fr_if_ne hg (m := 9) dX10_cut_1 (by decide) rfl ?_ ?_
  · refine fr_iload_n hg 0 rfl dX10_cut_9 rfl ?_
    refine fr_iconst hg (v := 1) (by decide) dX10_cut_10 rfl ?_
    refine fr_some_ite ?_
    refine fr_icmp_ne hg (m := 19) dX10_cut_11 (by decide) rfl ?_ ?_
    · refine fr_iload_n hg 1 rfl dX10_cut_19 rfl ?_
      exact fr_iret hg (rty := .int) rfl dX10_cut_20 (fun h => h)
    · refine fr_iload_n hg 1 rfl dX10_cut_14 rfl ?_
      refine fr_i2s hg dX10_cut_15 rfl ?_
      refine fr_goto hg (n := 20) dX10_cut_16 (by decide) ?_
      exact fr_iret hg (rty := .int) rfl dX10_cut_20 (fun h => h)
  · refine fr_iload_n hg 1 rfl dX10_cut_4 rfl ?_
    refine fr_i2b hg dX10_cut_5 rfl ?_
    refine fr_goto hg (n := 20) dX10_cut_6 (by decide) ?_
    exact fr_iret hg (rty := .int) rfl dX10_cut_20 (fun h => h)
noncomputable def zX10_lay (σ : fr_St) (a1 : Int32) (a2 : Int32) (a3 : Int32) (a4 : Int32) : Option (Int32 × fr_St) :=
  if zX10_isSheet a1 = 0 then some ((-2), σ) else if zX10_in a2.toInt64 0 2 = 0 then some ((-2), σ) else (zX10_lacks σ a1 a2 a3).bind (fun p2 => if p2.1 = 0 then (fr_as 240 p2.2 3 ((60 * a1) + a3) (zX10_cut a2 a4)).bind (fun σ3 => some (1, σ3)) else some (p2.1, p2.2))
set_option maxRecDepth 100000 in
set_option maxHeartbeats 4000000 in
theorem mX10_lay (a1 : Int32) (a2 : Int32) (a3 : Int32) (a4 : Int32) : fr_MI2 yX10_lay cX10_lay 6 .int 2 48 fr_shM (fun w => [.ref (fr_ad w 0), .int a1, .int a2, .int a3, .int a4]) (fun σ => zX10_lay σ a1 a2 a3 a4) := by
  refine fr_mkI2 (by decide) (fun w => Nat.le_of_ble_eq_true rfl) (fun g w σ hg => ?_)
  show fr_V g w 6 (zX10_lay σ a1 a2 a3 a4) _ 0 [(0, .ref (fr_ad w 0)), (1, .int a1), (2, .int a2), (3, .int a3), (4, .int a4)] [] σ
  unfold zX10_lay
  refine fr_iload_n hg 1 rfl dX10_lay_0 rfl ?_
  refine fr_ci0 hg (mX10_isSheet a1) (fr_crS hg mo_X10_83 rfl (by decide) (by decide) (Nat.le_of_ble_eq_true rfl) dX10_lay_1 rfl) rfl ?_
  refine fr_if_eq hg (m := 19) dX10_lay_4 (by decide) rfl ?_ ?_
  · refine fr_bipush hg (v := (-2)) (by decide) dX10_lay_19 rfl ?_
    exact fr_iret hg (rty := .int) rfl dX10_lay_21 (fun h => h)
  · refine fr_iload_n hg 2 rfl dX10_lay_7 rfl ?_
    refine fr_i2l hg dX10_lay_8 rfl ?_
    refine fr_lconst hg (v := 0) (by decide) dX10_lay_9 rfl ?_
    refine fr_ldc2 hg cl_X10_87 dX10_lay_10 rfl ?_
    refine fr_ci0 hg (mX10_in a2.toInt64 0 2) (fr_crS hg mo_X10_73 rfl (by decide) (by decide) (Nat.le_of_ble_eq_true rfl) dX10_lay_13 rfl) rfl ?_
    refine fr_if_ne hg (m := 22) dX10_lay_16 (by decide) rfl ?_ ?_
    · refine fr_aload_n hg 0 rfl dX10_lay_22 rfl ?_
      refine fr_iload_n hg 1 rfl dX10_lay_23 rfl ?_
      refine fr_iload_n hg 2 rfl dX10_lay_24 rfl ?_
      refine fr_iload_n hg 3 rfl dX10_lay_25 rfl ?_
      refine fr_ci2 hg (mX10_lacks a1 a2 a3) (fr_crV hg (q := 0) mo_X10_93 rfl ⟨_, _, rfl⟩ rfl (by decide) (by decide) (Nat.le_of_ble_eq_true rfl) dX10_lay_26 rfl) rfl (fun p2 => ?_)
      refine fr_istore hg (ls' := [(0, .ref (fr_ad w 0)), (1, .int a1), (2, .int a2), (3, .int a3), (4, .int a4), (5, .int p2.1)]) dX10_lay_29 (by decide) rfl rfl ?_
      refine fr_iload hg 5 rfl dX10_lay_31 rfl ?_
      refine fr_if_eq hg (m := 39) dX10_lay_33 (by decide) rfl ?_ ?_
      · refine fr_aload_n hg 0 rfl dX10_lay_39 rfl ?_
        refine fr_getr hg (q := 0) (q' := 3) fo_X10_16 rfl rfl dX10_lay_40 rfl ?_
        refine fr_bipush hg (v := 60) (by decide) dX10_lay_43 rfl ?_
        refine fr_iload_n hg 1 rfl dX10_lay_45 rfl ?_
        refine fr_imul hg dX10_lay_46 rfl ?_
        refine fr_iload_n hg 3 rfl dX10_lay_47 rfl ?_
        refine fr_iadd hg dX10_lay_48 rfl ?_
        refine fr_iload_n hg 2 rfl dX10_lay_49 rfl ?_
        refine fr_iload hg 4 rfl dX10_lay_50 rfl ?_
        refine fr_ci0 hg (mX10_cut a2 a4) (fr_crS hg mo_X10_97 rfl (by decide) (by decide) (Nat.le_of_ble_eq_true rfl) dX10_lay_52 rfl) rfl ?_
        refine fr_iastore hg (q := 3) rfl dX10_lay_55 rfl (fun σ3 => ?_)
        refine fr_iconst hg (v := 1) (by decide) dX10_lay_56 rfl ?_
        exact fr_iret hg (rty := .int) rfl dX10_lay_57 (fun h => h)
      · refine fr_iload hg 5 rfl dX10_lay_36 rfl ?_
        exact fr_iret hg (rty := .int) rfl dX10_lay_38 (fun h => h)
    · refine fr_bipush hg (v := (-2)) (by decide) dX10_lay_19 rfl ?_
      exact fr_iret hg (rty := .int) rfl dX10_lay_21 (fun h => h)
noncomputable def zX10_get (σ : fr_St) (a1 : Int32) (a2 : Int32) (a3 : Int32) : Option (Int32 × fr_St) :=
  if zX10_isSheet a1 = 0 then some ((-2147483648), σ) else if zX10_in a2.toInt64 0 2 = 0 then some ((-2147483648), σ) else (zX10_lacks σ a1 a2 a3).bind (fun p2 => if p2.1 = 0 then (fr_al 240 p2.2 3 ((60 * a1) + a3)).bind (fun x3 => some (x3, p2.2)) else some ((-2147483648), p2.2))
set_option maxRecDepth 100000 in
set_option maxHeartbeats 4000000 in
theorem mX10_get (a1 : Int32) (a2 : Int32) (a3 : Int32) : fr_MI2 yX10_get cX10_get 4 .int 2 48 fr_shM (fun w => [.ref (fr_ad w 0), .int a1, .int a2, .int a3]) (fun σ => zX10_get σ a1 a2 a3) := by
  refine fr_mkI2 (by decide) (fun w => Nat.le_of_ble_eq_true rfl) (fun g w σ hg => ?_)
  show fr_V g w 4 (zX10_get σ a1 a2 a3) _ 0 [(0, .ref (fr_ad w 0)), (1, .int a1), (2, .int a2), (3, .int a3)] [] σ
  unfold zX10_get
  refine fr_iload_n hg 1 rfl dX10_get_0 rfl ?_
  refine fr_ci0 hg (mX10_isSheet a1) (fr_crS hg mo_X10_83 rfl (by decide) (by decide) (Nat.le_of_ble_eq_true rfl) dX10_get_1 rfl) rfl ?_
  refine fr_if_eq hg (m := 29) dX10_get_4 (by decide) rfl ?_ ?_
  · refine fr_ldc hg cl_X10_101 dX10_get_29 rfl ?_
    exact fr_iret hg (rty := .int) rfl dX10_get_31 (fun h => h)
  · refine fr_iload_n hg 2 rfl dX10_get_7 rfl ?_
    refine fr_i2l hg dX10_get_8 rfl ?_
    refine fr_lconst hg (v := 0) (by decide) dX10_get_9 rfl ?_
    refine fr_ldc2 hg cl_X10_87 dX10_get_10 rfl ?_
    refine fr_ci0 hg (mX10_in a2.toInt64 0 2) (fr_crS hg mo_X10_73 rfl (by decide) (by decide) (Nat.le_of_ble_eq_true rfl) dX10_get_13 rfl) rfl ?_
    refine fr_if_eq hg (m := 29) dX10_get_16 (by decide) rfl ?_ ?_
    · refine fr_ldc hg cl_X10_101 dX10_get_29 rfl ?_
      exact fr_iret hg (rty := .int) rfl dX10_get_31 (fun h => h)
    · refine fr_aload_n hg 0 rfl dX10_get_19 rfl ?_
      refine fr_iload_n hg 1 rfl dX10_get_20 rfl ?_
      refine fr_iload_n hg 2 rfl dX10_get_21 rfl ?_
      refine fr_iload_n hg 3 rfl dX10_get_22 rfl ?_
      refine fr_ci2 hg (mX10_lacks a1 a2 a3) (fr_crV hg (q := 0) mo_X10_93 rfl ⟨_, _, rfl⟩ rfl (by decide) (by decide) (Nat.le_of_ble_eq_true rfl) dX10_get_23 rfl) rfl (fun p2 => ?_)
      refine fr_if_eq hg (m := 32) dX10_get_26 (by decide) rfl ?_ ?_
      · refine fr_aload_n hg 0 rfl dX10_get_32 rfl ?_
        refine fr_getr hg (q := 0) (q' := 3) fo_X10_16 rfl rfl dX10_get_33 rfl ?_
        refine fr_bipush hg (v := 60) (by decide) dX10_get_36 rfl ?_
        refine fr_iload_n hg 1 rfl dX10_get_38 rfl ?_
        refine fr_imul hg dX10_get_39 rfl ?_
        refine fr_iload_n hg 3 rfl dX10_get_40 rfl ?_
        refine fr_iadd hg dX10_get_41 rfl ?_
        refine fr_iaload hg (q := 3) rfl dX10_get_42 rfl (fun x3 => ?_)
        exact fr_iret hg (rty := .int) rfl dX10_get_43 (fun h => h)
      · refine fr_ldc hg cl_X10_101 dX10_get_29 rfl ?_
        exact fr_iret hg (rty := .int) rfl dX10_get_31 (fun h => h)
