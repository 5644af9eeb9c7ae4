noncomputable def zX9_sixteenthsTonight (σ : fr_St) (a1 : Int32) (a2 : Int32) (a3 : Int32) (a4 : Int32) : Option (Int32) :=
  (fr_al 4 σ 10 a4).bind (fun x1 => some (((σ 1 3) * x1) * ((a1 * (zX9_frostOf 0 a2 a3)) + ((16 - a1) * (zX9_frostOf 1 a2 a3)))))
set_option maxRecDepth 100000 in
set_option maxHeartbeats 4000000 in
theorem mX9_sixteenthsTonight (a1 : Int32) (a2 : Int32) (a3 : Int32) (a4 : Int32) : fr_MI1 yX9_sixteenthsTonight cX9_sixteenthsTonight 6 .int 2 44 fr_shX (fun w => [.ref (fr_ad w 0), .int a1, .int a2, .int a3, .int a4]) (fun σ => zX9_sixteenthsTonight σ a1 a2 a3 a4) := by
  refine fr_mkI1 (by decide) (fun w => Nat.le_of_ble_eq_true rfl) (fun g w σ hg => ?_)
  show fr_V g w 6 (zX9_sixteenthsTonight σ a1 a2 a3 a4) _ 0 [(0, .ref (fr_ad w 0)), (1, .int a1), (2, .int a2), (3, .int a3), (4, .int a4)] [] σ
  unfold zX9_sixteenthsTonight
  refine fr_iload_n hg 1 rfl dX9_sixteenthsTonight_0 rfl ?_
  refine fr_iconst hg (v := 0) (by decide) dX9_sixteenthsTonight_1 rfl ?_
  refine fr_iload_n hg 2 rfl dX9_sixteenthsTonight_2 rfl ?_
  refine fr_iload_n hg 3 rfl dX9_sixteenthsTonight_3 rfl ?_
  refine fr_ci0 hg (mX9_frostOf 0 a2 a3) (fr_crS hg mo_X9_229 rfl (by decide) (by decide) (Nat.le_of_ble_eq_true rfl) dX9_sixteenthsTonight_4 rfl) rfl ?_
  refine fr_imul hg dX9_sixteenthsTonight_7 rfl ?_
  refine fr_bipush hg (v := 16) (by decide) dX9_sixteenthsTonight_8 rfl ?_
  refine fr_iload_n hg 1 rfl dX9_sixteenthsTonight_10 rfl ?_
  refine fr_isub hg dX9_sixteenthsTonight_11 rfl ?_
  refine fr_iconst hg (v := 1) (by decide) dX9_sixteenthsTonight_12 rfl ?_
  refine fr_iload_n hg 2 rfl dX9_sixteenthsTonight_13 rfl ?_
  refine fr_iload_n hg 3 rfl dX9_sixteenthsTonight_14 rfl ?_
  refine fr_ci0 hg (mX9_frostOf 1 a2 a3) (fr_crS hg mo_X9_229 rfl (by decide) (by decide) (Nat.le_of_ble_eq_true rfl) dX9_sixteenthsTonight_15 rfl) rfl ?_
  refine fr_imul hg dX9_sixteenthsTonight_18 rfl ?_
  refine fr_iadd hg dX9_sixteenthsTonight_19 rfl ?_
  refine fr_istore hg (ls' := [(0, .ref (fr_ad w 0)), (1, .int a1), (2, .int a2), (3, .int a3), (4, .int a4), (5, .int ((a1 * (zX9_frostOf 0 a2 a3)) + ((16 - a1) * (zX9_frostOf 1 a2 a3))))]) dX9_sixteenthsTonight_20 (by decide) rfl rfl ?_
  refine fr_aload_n hg 0 rfl dX9_sixteenthsTonight_22 rfl ?_
  refine fr_getr hg (q := 0) (q' := 1) fo_X9_12 rfl rfl dX9_sixteenthsTonight_23 rfl ?_
  refine fr_geti hg (q := 1) fo_X9_279 rfl rfl dX9_sixteenthsTonight_26 rfl ?_
  refine fr_aload_n hg 0 rfl dX9_sixteenthsTonight_29 rfl ?_
  refine fr_getr hg (q := 0) (q' := 9) fo_X9_26 rfl rfl dX9_sixteenthsTonight_30 rfl ?_
  refine fr_getr hg (q := 9) (q' := 10) fo_X9_111 rfl rfl dX9_sixteenthsTonight_33 rfl ?_
  refine fr_iload hg 4 rfl dX9_sixteenthsTonight_36 rfl ?_
  refine fr_iaload hg (q := 10) rfl dX9_sixteenthsTonight_38 rfl (fun x1 => ?_)
  refine fr_imul hg dX9_sixteenthsTonight_39 rfl ?_
  refine fr_iload hg 5 rfl dX9_sixteenthsTonight_40 rfl ?_
  refine fr_imul hg dX9_sixteenthsTonight_42 rfl ?_
  exact fr_iret hg (rty := .int) rfl dX9_sixteenthsTonight_43 (fun h => h)
noncomputable def zX9_tonight_L68 (k5 : Int32) (v6 : Int32) (v7 : Int32) (v8 : Int32) : Option ((Int32 × Int32 × Int32) ⊕ (Int32 × Int32)) :=
  if 4 ≤ v8 then some (.inr (v6, v7)) else if v6 - v6 / 2 * 2 = 0 then some (.inl (v6 / 2, v7 / 2, v8 + 1)) else some (.inl (v6, v7, v8 + 1))
noncomputable def zX9_tonight (σ : fr_St) (a1 : Int32) (a2 : Int32) (a3 : Int32) (a4 : Int32) (a5 : Int32) : Option (Int64) :=
  if zX9_within a1 0 16 = 0 then some (-9223372036854775806) else if zX9_within a2 0 3 = 0 then some (-9223372036854775806) else if zX9_isPair a3 = 0 then some (-9223372036854775806) else if zX9_isTool a4 = 0 then some (-9223372036854775806) else if zX9_isPair a5 = 0 then some (-9223372036854775806) else (zX9_sixteenthsTonight σ a1 a2 a3 a4).bind (fun r1 => (fr_loop (fun (b2 : Int32 × Int32 × Int32) => zX9_tonight_L68 a5 b2.1 b2.2.1 b2.2.2) fr_fu (r1, 16, 0)).bind (fun (c3 : Int32 × Int32) => if a5 = 0 then some c3.1.toInt64 else some c3.2.toInt64))
set_option maxRecDepth 100000 in
set_option maxHeartbeats 4000000 in
theorem mX9_tonight (a1 : Int32) (a2 : Int32) (a3 : Int32) (a4 : Int32) (a5 : Int32) : fr_ML1 yX9_tonight cX9_tonight 9 3 69 fr_shX (fun w => [.ref (fr_ad w 0), .int a1, .int a2, .int a3, .int a4, .int a5]) (fun σ => zX9_tonight σ a1 a2 a3 a4 a5) := by
  refine fr_mkL1 (by decide) (fun w => Nat.le_of_ble_eq_true rfl) (fun g w σ hg => ?_)
  show fr_V g w 9 (zX9_tonight σ a1 a2 a3 a4 a5) _ 0 [(0, .ref (fr_ad w 0)), (1, .int a1), (2, .int a2), (3, .int a3), (4, .int a4), (5, .int a5)] [] σ
  unfold zX9_tonight
  refine fr_iload_n hg 1 rfl dX9_tonight_0 rfl ?_
  refine fr_iconst hg (v := 0) (by decide) dX9_tonight_1 rfl ?_
  refine fr_bipush hg (v := 16) (by decide) dX9_tonight_2 rfl ?_
  refine fr_ci0 hg (mX9_within a1 0 16) (fr_crS hg mo_X9_77 rfl (by decide) (by decide) (Nat.le_of_ble_eq_true rfl) dX9_tonight_4 rfl) rfl ?_
  refine fr_if_eq hg (m := 26) dX9_tonight_7 (by decide) rfl ?_ ?_
  · refine fr_ldc2 hg cl_X9_232 dX9_tonight_26 rfl ?_
    exact fr_lret hg dX9_tonight_29 (fun h => h)
  · refine fr_iload_n hg 2 rfl dX9_tonight_10 rfl ?_
    refine fr_iconst hg (v := 0) (by decide) dX9_tonight_11 rfl ?_
    refine fr_iconst hg (v := 3) (by decide) dX9_tonight_12 rfl ?_
    refine fr_ci0 hg (mX9_within a2 0 3) (fr_crS hg mo_X9_77 rfl (by decide) (by decide) (Nat.le_of_ble_eq_true rfl) dX9_tonight_13 rfl) rfl ?_
    refine fr_if_eq hg (m := 26) dX9_tonight_16 (by decide) rfl ?_ ?_
    · refine fr_ldc2 hg cl_X9_232 dX9_tonight_26 rfl ?_
      exact fr_lret hg dX9_tonight_29 (fun h => h)
    · refine fr_iload_n hg 3 rfl dX9_tonight_19 rfl ?_
      refine fr_ci0 hg (mX9_isPair a3) (fr_crS hg mo_X9_108 rfl (by decide) (by decide) (Nat.le_of_ble_eq_true rfl) dX9_tonight_20 rfl) rfl ?_
      refine fr_if_ne hg (m := 30) dX9_tonight_23 (by decide) rfl ?_ ?_
      · refine fr_iload hg 4 rfl dX9_tonight_30 rfl ?_
        refine fr_ci0 hg (mX9_isTool a4) (fr_crS hg mo_X9_105 rfl (by decide) (by decide) (Nat.le_of_ble_eq_true rfl) dX9_tonight_32 rfl) rfl ?_
        refine fr_if_eq hg (m := 46) dX9_tonight_35 (by decide) rfl ?_ ?_
        · refine fr_ldc2 hg cl_X9_232 dX9_tonight_46 rfl ?_
          exact fr_lret hg dX9_tonight_49 (fun h => h)
        · refine fr_iload hg 5 rfl dX9_tonight_38 rfl ?_
          refine fr_ci0 hg (mX9_isPair a5) (fr_crS hg mo_X9_108 rfl (by decide) (by decide) (Nat.le_of_ble_eq_true rfl) dX9_tonight_40 rfl) rfl ?_
          refine fr_if_ne hg (m := 50) dX9_tonight_43 (by decide) rfl ?_ ?_
          · refine fr_aload_n hg 0 rfl dX9_tonight_50 rfl ?_
            refine fr_iload_n hg 1 rfl dX9_tonight_51 rfl ?_
            refine fr_iload_n hg 2 rfl dX9_tonight_52 rfl ?_
            refine fr_iload_n hg 3 rfl dX9_tonight_53 rfl ?_
            refine fr_iload hg 4 rfl dX9_tonight_54 rfl ?_
            refine fr_ci1 hg (mX9_sixteenthsTonight a1 a2 a3 a4) (fr_crV hg (q := 0) mo_X9_234 rfl ⟨_, _, rfl⟩ rfl (by decide) (by decide) (Nat.le_of_ble_eq_true rfl) dX9_tonight_56 rfl) rfl (fun r1 => ?_)
            refine fr_istore hg (ls' := [(0, .ref (fr_ad w 0)), (1, .int a1), (2, .int a2), (3, .int a3), (4, .int a4), (5, .int a5), (6, .int r1)]) dX9_tonight_59 (by decide) rfl rfl ?_
            refine fr_bipush hg (v := 16) (by decide) dX9_tonight_61 rfl ?_
            refine fr_istore hg (ls' := [(0, .ref (fr_ad w 0)), (1, .int a1), (2, .int a2), (3, .int a3), (4, .int a4), (5, .int a5), (6, .int r1), (7, .int 16)]) dX9_tonight_63 (by decide) rfl rfl ?_
            refine fr_iconst hg (v := 0) (by decide) dX9_tonight_65 rfl ?_
            refine fr_istore hg (ls' := [(0, .ref (fr_ad w 0)), (1, .int a1), (2, .int a2), (3, .int a3), (4, .int a4), (5, .int a5), (6, .int r1), (7, .int 16), (8, .int 0)]) dX9_tonight_66 (by decide) rfl rfl ?_
            refine fr_lp (fun (b2 : Int32 × Int32 × Int32) => [(5, .int a5), (6, .int b2.1), (7, .int b2.2.1), (8, .int b2.2.2)]) (fun b2 => σ) 99 (fun (c3 : Int32 × Int32) => [(5, .int a5), (6, .int c3.1), (7, .int c3.2)]) (fun c3 => σ) [5, 6, 7, 8] rfl rfl (fun b2 => ?_) (fun c3 => ?_)
            · show fr_V g w _ (zX9_tonight_L68 a5 b2.1 b2.2.1 b2.2.2) _ _ _ _ _
              unfold zX9_tonight_L68
              refine fr_iload hg 3 rfl dX9_tonight_68 rfl ?_
              refine fr_iconst hg (v := 4) (by decide) dX9_tonight_70 rfl ?_
              refine fr_icmp_ge hg (m := 99) dX9_tonight_71 (by decide) rfl ?_ ?_
              · exact fr_leaf [0, 1, 2] rfl (fun h => h)
              · refine fr_iload hg 1 rfl dX9_tonight_74 rfl ?_
                refine fr_iconst hg (v := 2) (by decide) dX9_tonight_76 rfl ?_
                refine fr_irem0 hg (by decide) dX9_tonight_77 rfl ?_
                refine fr_if_ne hg (m := 93) dX9_tonight_78 (by decide) rfl ?_ ?_
                · refine fr_iinc hg 3 (v := b2.2.2 + 1) (ls' := [(5, .int a5), (6, .int b2.1), (7, .int b2.2.1), (8, .int (b2.2.2 + 1))]) dX9_tonight_93 rfl rfl (by decide) rfl rfl ?_
                  refine fr_goto hg (n := 68) dX9_tonight_96 (by decide) ?_
                  exact fr_leaf [0, 1, 2, 3] rfl (fun h => h)
                · refine fr_iload hg 1 rfl dX9_tonight_81 rfl ?_
                  refine fr_iconst hg (v := 2) (by decide) dX9_tonight_83 rfl ?_
                  refine fr_idiv0 hg (by decide) dX9_tonight_84 rfl ?_
                  refine fr_istore hg (ls' := [(5, .int a5), (6, .int (b2.1 / 2)), (7, .int b2.2.1), (8, .int b2.2.2)]) dX9_tonight_85 (by decide) rfl rfl ?_
                  refine fr_iload hg 2 rfl dX9_tonight_87 rfl ?_
                  refine fr_iconst hg (v := 2) (by decide) dX9_tonight_89 rfl ?_
                  refine fr_idiv0 hg (by decide) dX9_tonight_90 rfl ?_
                  refine fr_istore hg (ls' := [(5, .int a5), (6, .int (b2.1 / 2)), (7, .int (b2.2.1 / 2)), (8, .int b2.2.2)]) dX9_tonight_91 (by decide) rfl rfl ?_
                  refine fr_iinc hg 3 (v := b2.2.2 + 1) (ls' := [(5, .int a5), (6, .int (b2.1 / 2)), (7, .int (b2.2.1 / 2)), (8, .int (b2.2.2 + 1))]) dX9_tonight_93 rfl rfl (by decide) rfl rfl ?_
                  refine fr_goto hg (n := 68) dX9_tonight_96 (by decide) ?_
                  exact fr_leaf [0, 1, 2, 3] rfl (fun h => h)
            refine fr_iload hg 0 rfl dX9_tonight_99 rfl ?_
            refine fr_if_ne hg (m := 110) dX9_tonight_101 (by decide) rfl ?_ ?_
            · refine fr_iload hg 2 rfl dX9_tonight_110 rfl ?_
              refine fr_i2l hg dX9_tonight_112 rfl ?_
              exact fr_lret hg dX9_tonight_113 (fun h => h)
            · refine fr_iload hg 1 rfl dX9_tonight_104 rfl ?_
              refine fr_i2l hg dX9_tonight_106 rfl ?_
              refine fr_goto hg (n := 113) dX9_tonight_107 (by decide) ?_
              exact fr_lret hg dX9_tonight_113 (fun h => h)
          · refine fr_ldc2 hg cl_X9_232 dX9_tonight_46 rfl ?_
            exact fr_lret hg dX9_tonight_49 (fun h => h)
      · refine fr_ldc2 hg cl_X9_232 dX9_tonight_26 rfl ?_
        exact fr_lret hg dX9_tonight_29 (fun h => h)
noncomputable def zX9_cover (σ : fr_St) (a1 : Int32) (a2 : Int32) (a3 : Int32) (a4 : Int32) : Option (Int32) :=
  if zX9_within a1 0 16 = 0 then some (-2) else if zX9_within a2 0 9999 = 0 then some (-2) else if zX9_within a3 0 16 = 0 then some (-2) else if zX9_within a4 0 9999 = 0 then some (-2) else (zX9_sixteenthsTonight σ a1 0 0 0).bind (fun r1 => if r1 ≤ (16 * a2) + (a3 * a4) then some 0 else some 1)
set_option maxRecDepth 100000 in
set_option maxHeartbeats 4000000 in
theorem mX9_cover (a1 : Int32) (a2 : Int32) (a3 : Int32) (a4 : Int32) : fr_MI1 yX9_cover cX9_cover 6 .int 3 69 fr_shX (fun w => [.ref (fr_ad w 0), .int a1, .int a2, .int a3, .int a4]) (fun σ => zX9_cover σ a1 a2 a3 a4) := by
  refine fr_mkI1 (by decide) (fun w => Nat.le_of_ble_eq_true rfl) (fun g w σ hg => ?_)
  show fr_V g w 6 (zX9_cover σ a1 a2 a3 a4) _ 0 [(0, .ref (fr_ad w 0)), (1, .int a1), (2, .int a2), (3, .int a3), (4, .int a4)] [] σ
  unfold zX9_cover
  refine fr_iload_n hg 1 rfl dX9_cover_0 rfl ?_
  refine fr_iconst hg (v := 0) (by decide) dX9_cover_1 rfl ?_
  refine fr_bipush hg (v := 16) (by decide) dX9_cover_2 rfl ?_
  refine fr_ci0 hg (mX9_within a1 0 16) (fr_crS hg mo_X9_77 rfl (by decide) (by decide) (Nat.le_of_ble_eq_true rfl) dX9_cover_4 rfl) rfl ?_
  refine fr_if_eq hg (m := 21) dX9_cover_7 (by decide) rfl ?_ ?_
  · refine fr_bipush hg (v := (-2)) (by decide) dX9_cover_21 rfl ?_
    exact fr_iret hg (rty := .int) rfl dX9_cover_23 (fun h => h)
  · refine fr_iload_n hg 2 rfl dX9_cover_10 rfl ?_
    refine fr_iconst hg (v := 0) (by decide) dX9_cover_11 rfl ?_
    refine fr_sipush hg (v := 9999) (by decide) dX9_cover_12 rfl ?_
    refine fr_ci0 hg (mX9_within a2 0 9999) (fr_crS hg mo_X9_77 rfl (by decide) (by decide) (Nat.le_of_ble_eq_true rfl) dX9_cover_15 rfl) rfl ?_
    refine fr_if_ne hg (m := 24) dX9_cover_18 (by decide) rfl ?_ ?_
    · refine fr_iload_n hg 3 rfl dX9_cover_24 rfl ?_
      refine fr_iconst hg (v := 0) (by decide) dX9_cover_25 rfl ?_
      refine fr_bipush hg (v := 16) (by decide) dX9_cover_26 rfl ?_
      refine fr_ci0 hg (mX9_within a3 0 16) (fr_crS hg mo_X9_77 rfl (by decide) (by decide) (Nat.le_of_ble_eq_true rfl) dX9_cover_28 rfl) rfl ?_
      refine fr_if_eq hg (m := 46) dX9_cover_31 (by decide) rfl ?_ ?_
      · refine fr_bipush hg (v := (-2)) (by decide) dX9_cover_46 rfl ?_
        exact fr_iret hg (rty := .int) rfl dX9_cover_48 (fun h => h)
      · refine fr_iload hg 4 rfl dX9_cover_34 rfl ?_
        refine fr_iconst hg (v := 0) (by decide) dX9_cover_36 rfl ?_
        refine fr_sipush hg (v := 9999) (by decide) dX9_cover_37 rfl ?_
        refine fr_ci0 hg (mX9_within a4 0 9999) (fr_crS hg mo_X9_77 rfl (by decide) (by decide) (Nat.le_of_ble_eq_true rfl) dX9_cover_40 rfl) rfl ?_
        refine fr_if_ne hg (m := 49) dX9_cover_43 (by decide) rfl ?_ ?_
        · refine fr_bipush hg (v := 16) (by decide) dX9_cover_49 rfl ?_
          refine fr_iload_n hg 2 rfl dX9_cover_51 rfl ?_
          refine fr_imul hg dX9_cover_52 rfl ?_
          refine fr_iload_n hg 3 rfl dX9_cover_53 rfl ?_
          refine fr_iload hg 4 rfl dX9_cover_54 rfl ?_
          refine fr_imul hg dX9_cover_56 rfl ?_
          refine fr_iadd hg dX9_cover_57 rfl ?_
          refine fr_istore hg (ls' := [(0, .ref (fr_ad w 0)), (1, .int a1), (2, .int a2), (3, .int a3), (4, .int a4), (5, .int ((16 * a2) + (a3 * a4)))]) dX9_cover_58 (by decide) rfl rfl ?_
          refine fr_iload hg 5 rfl dX9_cover_60 rfl ?_
          refine fr_aload_n hg 0 rfl dX9_cover_62 rfl ?_
          refine fr_iload_n hg 1 rfl dX9_cover_63 rfl ?_
          refine fr_iconst hg (v := 0) (by decide) dX9_cover_64 rfl ?_
          refine fr_iconst hg (v := 0) (by decide) dX9_cover_65 rfl ?_
          refine fr_iconst hg (v := 0) (by decide) dX9_cover_66 rfl ?_
          refine fr_ci1 hg (mX9_sixteenthsTonight a1 0 0 0) (fr_crV hg (q := 0) mo_X9_234 rfl ⟨_, _, rfl⟩ rfl (by decide) (by decide) (Nat.le_of_ble_eq_true rfl) dX9_cover_67 rfl) rfl (fun r1 => ?_)
          refine fr_icmp_ge hg (m := 77) dX9_cover_70 (by decide) rfl ?_ ?_
          · refine fr_iconst hg (v := 0) (by decide) dX9_cover_77 rfl ?_
            exact fr_iret hg (rty := .int) rfl dX9_cover_78 (fun h => h)
          · refine fr_iconst hg (v := 1) (by decide) dX9_cover_73 rfl ?_
            refine fr_goto hg (n := 78) dX9_cover_74 (by decide) ?_
            exact fr_iret hg (rty := .int) rfl dX9_cover_78 (fun h => h)
        · refine fr_bipush hg (v := (-2)) (by decide) dX9_cover_46 rfl ?_
          exact fr_iret hg (rty := .int) rfl dX9_cover_48 (fun h => h)
    · refine fr_bipush hg (v := (-2)) (by decide) dX9_cover_21 rfl ?_
      exact fr_iret hg (rty := .int) rfl dX9_cover_23 (fun h => h)
noncomputable def zX6_spentOn_L4 (σ : fr_St) (k1 : Int32) (v2 : Int32) (v3 : Int32) : Option ((Int32 × Int32) ⊕ (Int32)) :=
  if σ 24 4 ≤ v3 then some (.inr v2) else if (k1 >>> (v3 &&& 31)) &&& 1 = 1 then (fr_al 7 σ 25 v3).bind (fun x1 => some (.inl (v2 + x1, v3 + 1))) else some (.inl (v2 + 0, v3 + 1))
noncomputable def zX6_spentOn (σ : fr_St) (a1 : Int32) : Option (Int32) :=
  (fr_loop (fun (b1 : Int32 × Int32) => zX6_spentOn_L4 σ a1 b1.1 b1.2) fr_fu (0, 0)).bind (fun (c2 : Int32) => some c2)
set_option maxRecDepth 100000 in
set_option maxHeartbeats 4000000 in
theorem mX6_spentOn (a1 : Int32) : fr_MI1 yX6_spentOn cX6_spentOn 4 .int 0 0 fr_shX (fun w => [.ref (fr_ad w 24), .int a1]) (fun σ => zX6_spentOn σ a1) := by
  refine fr_mkI1 (by decide) (fun w => Nat.le_of_ble_eq_true rfl) (fun g w σ hg => ?_)
  show fr_V g w 4 (zX6_spentOn σ a1) _ 0 [(0, .ref (fr_ad w 24)), (1, .int a1)] [] σ
  unfold zX6_spentOn
  refine fr_iconst hg (v := 0) (by decide) dX6_spentOn_0 rfl ?_
  refine fr_istore_n hg (ls' := [(0, .ref (fr_ad w 24)), (1, .int a1), (2, .int 0)]) dX6_spentOn_1 rfl (by decide) rfl rfl ?_
  refine fr_iconst hg (v := 0) (by decide) dX6_spentOn_2 rfl ?_
  refine fr_istore_n hg (ls' := [(0, .ref (fr_ad w 24)), (1, .int a1), (2, .int 0), (3, .int 0)]) dX6_spentOn_3 rfl (by decide) rfl rfl ?_
  refine fr_lp (fun (b1 : Int32 × Int32) => [(0, .ref (fr_ad w 24)), (1, .int a1), (2, .int b1.1), (3, .int b1.2)]) (fun b1 => σ) 40 (fun (c2 : Int32) => [(2, .int c2)]) (fun c2 => σ) [0, 1, 2, 3] rfl rfl (fun b1 => ?_) (fun c2 => ?_)
  · show fr_V g w _ (zX6_spentOn_L4 σ a1 b1.1 b1.2) _ _ _ _ _
    unfold zX6_spentOn_L4
    refine fr_iload_n hg 3 rfl dX6_spentOn_4 rfl ?_
    refine fr_aload_n hg 0 rfl dX6_spentOn_5 rfl ?_
    refine fr_geti hg (q := 24) fo_X6_24 rfl rfl dX6_spentOn_6 rfl ?_
    refine fr_icmp_ge hg (m := 40) dX6_spentOn_9 (by decide) rfl ?_ ?_
    · exact fr_leaf [2] rfl (fun h => h)
    · refine fr_iload_n hg 2 rfl dX6_spentOn_12 rfl ?_
      refine fr_iload_n hg 1 rfl dX6_spentOn_13 rfl ?_
      refine fr_iload_n hg 3 rfl dX6_spentOn_14 rfl ?_
      refine fr_ishr hg dX6_spentOn_15 rfl ?_
      refine fr_iconst hg (v := 1) (by decide) dX6_spentOn_16 rfl ?_
      refine fr_iand hg dX6_spentOn_17 rfl ?_
      refine fr_iconst hg (v := 1) (by decide) dX6_spentOn_18 rfl ?_
      refine fr_icmp_ne hg (m := 31) dX6_spentOn_19 (by decide) rfl ?_ ?_
      · refine fr_iconst hg (v := 0) (by decide) dX6_spentOn_31 rfl ?_
        refine fr_iadd hg dX6_spentOn_32 rfl ?_
        refine fr_istore_n hg (ls' := [(0, .ref (fr_ad w 24)), (1, .int a1), (2, .int (b1.1 + 0)), (3, .int b1.2)]) dX6_spentOn_33 rfl (by decide) rfl rfl ?_
        refine fr_iinc hg 3 (v := b1.2 + 1) (ls' := [(0, .ref (fr_ad w 24)), (1, .int a1), (2, .int (b1.1 + 0)), (3, .int (b1.2 + 1))]) dX6_spentOn_34 rfl rfl (by decide) rfl rfl ?_
        refine fr_goto hg (n := 4) dX6_spentOn_37 (by decide) ?_
        exact fr_leaf [0, 1, 2, 3] rfl (fun h => h)
      · refine fr_aload_n hg 0 rfl dX6_spentOn_22 rfl ?_
        refine fr_getr hg (q := 24) (q' := 25) fo_X6_9 rfl rfl dX6_spentOn_23 rfl ?_
        refine fr_iload_n hg 3 rfl dX6_spentOn_26 rfl ?_
        refine fr_iaload hg (q := 25) rfl dX6_spentOn_27 rfl (fun x3 => ?_)
        refine fr_goto hg (n := 32) dX6_spentOn_28 (by decide) ?_
        refine fr_iadd hg dX6_spentOn_32 rfl ?_
        refine fr_istore_n hg (ls' := [(0, .ref (fr_ad w 24)), (1, .int a1), (2, .int (b1.1 + x3)), (3, .int b1.2)]) dX6_spentOn_33 rfl (by decide) rfl rfl ?_
        refine fr_iinc hg 3 (v := b1.2 + 1) (ls' := [(0, .ref (fr_ad w 24)), (1, .int a1), (2, .int (b1.1 + x3)), (3, .int (b1.2 + 1))]) dX6_spentOn_34 rfl rfl (by decide) rfl rfl ?_
        refine fr_goto hg (n := 4) dX6_spentOn_37 (by decide) ?_
        exact fr_leaf [0, 1, 2, 3] rfl (fun h => h)
  refine fr_iload_n hg 0 rfl dX6_spentOn_40 rfl ?_
  exact fr_iret hg (rty := .int) rfl dX6_spentOn_41 (fun h => h)
noncomputable def zX6_lateWith (σ : fr_St) (a1 : Int32) (a2 : Int32) (a3 : Int32) : Option (Int32) :=
  (fr_al 7 σ 25 a3).bind (fun x1 => (fr_al 7 σ 26 a3).bind (fun x2 => (fr_al 128 σ 28 (a1 ||| (1 <<< (a3 &&& 31)))).bind (fun x3 => some ((if 0 < (a2 + x1) - x2 then (a2 + x1) - x2 else 0) + x3))))
set_option maxRecDepth 100000 in
set_option maxHeartbeats 4000000 in
theorem mX6_lateWith (a1 : Int32) (a2 : Int32) (a3 : Int32) : fr_MI1 yX6_lateWith cX6_lateWith 4 .int 1 21 fr_shX (fun w => [.ref (fr_ad w 24), .int a1, .int a2, .int a3]) (fun σ => zX6_lateWith σ a1 a2 a3) := by
  refine fr_mkI1 (by decide) (fun w => Nat.le_of_ble_eq_true rfl) (fun g w σ hg => ?_)
  show fr_V g w 4 (zX6_lateWith σ a1 a2 a3) _ 0 [(0, .ref (fr_ad w 24)), (1, .int a1), (2, .int a2), (3, .int a3)] [] σ
  unfold zX6_lateWith
  refine fr_iconst hg (v := 0) (by decide) dX6_lateWith_0 rfl ?_
  refine fr_iload_n hg 2 rfl dX6_lateWith_1 rfl ?_
  refine fr_aload_n hg 0 rfl dX6_lateWith_2 rfl ?_
  refine fr_getr hg (q := 24) (q' := 25) fo_X6_9 rfl rfl dX6_lateWith_3 rfl ?_
  refine fr_iload_n hg 3 rfl dX6_lateWith_6 rfl ?_
  refine fr_iaload hg (q := 25) rfl dX6_lateWith_7 rfl (fun x1 => ?_)
  refine fr_iadd hg dX6_lateWith_8 rfl ?_
  refine fr_aload_n hg 0 rfl dX6_lateWith_9 rfl ?_
  refine fr_getr hg (q := 24) (q' := 26) fo_X6_15 rfl rfl dX6_lateWith_10 rfl ?_
  refine fr_iload_n hg 3 rfl dX6_lateWith_13 rfl ?_
  refine fr_iaload hg (q := 26) rfl dX6_lateWith_14 rfl (fun x2 => ?_)
  refine fr_isub hg dX6_lateWith_15 rfl ?_
  refine fr_max hg mo_X6_43 (by decide) (Nat.le_of_ble_eq_true rfl) dX6_lateWith_16 rfl ?_
  refine fr_aload_n hg 0 rfl dX6_lateWith_19 rfl ?_
  refine fr_getr hg (q := 24) (q' := 28) fo_X6_21 rfl rfl dX6_lateWith_20 rfl ?_
  refine fr_iload_n hg 1 rfl dX6_lateWith_23 rfl ?_
  refine fr_iconst hg (v := 1) (by decide) dX6_lateWith_24 rfl ?_
  refine fr_iload_n hg 3 rfl dX6_lateWith_25 rfl ?_
  refine fr_ishl hg dX6_lateWith_26 rfl ?_
  refine fr_ior hg dX6_lateWith_27 rfl ?_
  refine fr_iaload hg (q := 28) rfl dX6_lateWith_28 rfl (fun x3 => ?_)
  refine fr_iadd hg dX6_lateWith_29 rfl ?_
  exact fr_iret hg (rty := .int) rfl dX6_lateWith_30 (fun h => h)
noncomputable def zX6_bestNext_L8 (σ : fr_St) (k1 : Int32) (k2 : Int32) (v3 : Int32) (v4 : Int32) (v5 : Int32) : Option ((Int32 × Int32 × Int32) ⊕ (Int32)) :=
  if σ 24 4 ≤ v5 then some (.inr v3) else if (k1 >>> (v5 &&& 31)) &&& 1 = 0 then (zX6_lateWith σ k1 k2 v5).bind (fun r1 => if v4 = (-1) then some (.inl (v5, r1, v5 + 1)) else if v4 ≤ r1 then some (.inl (v3, v4, v5 + 1)) else some (.inl (v5, r1, v5 + 1))) else some (.inl (v3, v4, v5 + 1))
noncomputable def zX6_bestNext (σ : fr_St) (a1 : Int32) (a2 : Int32) : Option (Int32) :=
  (fr_loop (fun (b1 : Int32 × Int32 × Int32) => zX6_bestNext_L8 σ a1 a2 b1.1 b1.2.1 b1.2.2) fr_fu (0, (-1), 0)).bind (fun (c2 : Int32) => some c2)
set_option maxRecDepth 100000 in
set_option maxHeartbeats 4000000 in
theorem mX6_bestNext (a1 : Int32) (a2 : Int32) : fr_MI1 yX6_bestNext cX6_bestNext 7 .int 2 44 fr_shX (fun w => [.ref (fr_ad w 24), .int a1, .int a2]) (fun σ => zX6_bestNext σ a1 a2) := by
  refine fr_mkI1 (by decide) (fun w => Nat.le_of_ble_eq_true rfl) (fun g w σ hg => ?_)
  show fr_V g w 7 (zX6_bestNext σ a1 a2) _ 0 [(0, .ref (fr_ad w 24)), (1, .int a1), (2, .int a2)] [] σ
  unfold zX6_bestNext
  refine fr_iconst hg (v := 0) (by decide) dX6_bestNext_0 rfl ?_
  refine fr_istore_n hg (ls' := [(0, .ref (fr_ad w 24)), (1, .int a1), (2, .int a2), (3, .int 0)]) dX6_bestNext_1 rfl (by decide) rfl rfl ?_
  refine fr_iconst hg (v := (-1)) (by decide) dX6_bestNext_2 rfl ?_
  refine fr_istore hg (ls' := [(0, .ref (fr_ad w 24)), (1, .int a1), (2, .int a2), (3, .int 0), (4, .int (-1))]) dX6_bestNext_3 (by decide) rfl rfl ?_
  refine fr_iconst hg (v := 0) (by decide) dX6_bestNext_5 rfl ?_
  refine fr_istore hg (ls' := [(0, .ref (fr_ad w 24)), (1, .int a1), (2, .int a2), (3, .int 0), (4, .int (-1)), (5, .int 0)]) dX6_bestNext_6 (by decide) rfl rfl ?_
  refine fr_lp (fun (b1 : Int32 × Int32 × Int32) => [(0, .ref (fr_ad w 24)), (1, .int a1), (2, .int a2), (3, .int b1.1), (4, .int b1.2.1), (5, .int b1.2.2)]) (fun b1 => σ) 62 (fun (c2 : Int32) => [(3, .int c2)]) (fun c2 => σ) [0, 1, 2, 3, 4, 5] rfl rfl (fun b1 => ?_) (fun c2 => ?_)
  · show fr_V g w _ (zX6_bestNext_L8 σ a1 a2 b1.1 b1.2.1 b1.2.2) _ _ _ _ _
    unfold zX6_bestNext_L8
    refine fr_iload hg 5 rfl dX6_bestNext_8 rfl ?_
    refine fr_aload_n hg 0 rfl dX6_bestNext_10 rfl ?_
    refine fr_geti hg (q := 24) fo_X6_24 rfl rfl dX6_bestNext_11 rfl ?_
    refine fr_icmp_ge hg (m := 62) dX6_bestNext_14 (by decide) rfl ?_ ?_
    · exact fr_leaf [3] rfl (fun h => h)
    · refine fr_iload_n hg 1 rfl dX6_bestNext_17 rfl ?_
      refine fr_iload hg 5 rfl dX6_bestNext_18 rfl ?_
      refine fr_ishr hg dX6_bestNext_20 rfl ?_
      refine fr_iconst hg (v := 1) (by decide) dX6_bestNext_21 rfl ?_
      refine fr_iand hg dX6_bestNext_22 rfl ?_
      refine fr_if_ne hg (m := 56) dX6_bestNext_23 (by decide) rfl ?_ ?_
      · refine fr_iinc hg 5 (v := b1.2.2 + 1) (ls' := [(0, .ref (fr_ad w 24)), (1, .int a1), (2, .int a2), (3, .int b1.1), (4, .int b1.2.1), (5, .int (b1.2.2 + 1))]) dX6_bestNext_56 rfl rfl (by decide) rfl rfl ?_
        refine fr_goto hg (n := 8) dX6_bestNext_59 (by decide) ?_
        exact fr_leaf [0, 1, 2, 3, 4, 5] rfl (fun h => h)
      · refine fr_aload_n hg 0 rfl dX6_bestNext_26 rfl ?_
        refine fr_iload_n hg 1 rfl dX6_bestNext_27 rfl ?_
        refine fr_iload_n hg 2 rfl dX6_bestNext_28 rfl ?_
        refine fr_iload hg 5 rfl dX6_bestNext_29 rfl ?_
        refine fr_ci1 hg (mX6_lateWith a1 a2 b1.2.2) (fr_crV hg (q := 24) mo_X6_39 rfl ⟨_, _, rfl⟩ rfl (by decide) (by decide) (Nat.le_of_ble_eq_true rfl) dX6_bestNext_31 rfl) rfl (fun r3 => ?_)
        refine fr_istore hg (ls' := [(0, .ref (fr_ad w 24)), (1, .int a1), (2, .int a2), (3, .int b1.1), (4, .int b1.2.1), (5, .int b1.2.2), (6, .int r3)]) dX6_bestNext_34 (by decide) rfl rfl ?_
        refine fr_iload hg 4 rfl dX6_bestNext_36 rfl ?_
        refine fr_iconst hg (v := (-1)) (by decide) dX6_bestNext_38 rfl ?_
        refine fr_icmp_eq hg (m := 49) dX6_bestNext_39 (by decide) rfl ?_ ?_
        · refine fr_iload hg 6 rfl dX6_bestNext_49 rfl ?_
          refine fr_istore hg (ls' := [(0, .ref (fr_ad w 24)), (1, .int a1), (2, .int a2), (3, .int b1.1), (4, .int r3), (5, .int b1.2.2), (6, .int r3)]) dX6_bestNext_51 (by decide) rfl rfl ?_
          refine fr_iload hg 5 rfl dX6_bestNext_53 rfl ?_
          refine fr_istore_n hg (ls' := [(0, .ref (fr_ad w 24)), (1, .int a1), (2, .int a2), (3, .int b1.2.2), (4, .int r3), (5, .int b1.2.2), (6, .int r3)]) dX6_bestNext_55 rfl (by decide) rfl rfl ?_
          refine fr_iinc hg 5 (v := b1.2.2 + 1) (ls' := [(0, .ref (fr_ad w 24)), (1, .int a1), (2, .int a2), (3, .int b1.2.2), (4, .int r3), (5, .int (b1.2.2 + 1)), (6, .int r3)]) dX6_bestNext_56 rfl rfl (by decide) rfl rfl ?_
          refine fr_goto hg (n := 8) dX6_bestNext_59 (by decide) ?_
          exact fr_leaf [0, 1, 2, 3, 4, 5] rfl (fun h => h)
        · refine fr_iload hg 6 rfl dX6_bestNext_42 rfl ?_
          refine fr_iload hg 4 rfl dX6_bestNext_44 rfl ?_
          refine fr_icmp_ge hg (m := 56) dX6_bestNext_46 (by decide) rfl ?_ ?_
          · refine fr_iinc hg 5 (v := b1.2.2 + 1) (ls' := [(0, .ref (fr_ad w 24)), (1, .int a1), (2, .int a2), (3, .int b1.1), (4, .int b1.2.1), (5, .int (b1.2.2 + 1)), (6, .int r3)]) dX6_bestNext_56 rfl rfl (by decide) rfl rfl ?_
            refine fr_goto hg (n := 8) dX6_bestNext_59 (by decide) ?_
            exact fr_leaf [0, 1, 2, 3, 4, 5] rfl (fun h => h)
          · refine fr_iload hg 6 rfl dX6_bestNext_49 rfl ?_
            refine fr_istore hg (ls' := [(0, .ref (fr_ad w 24)), (1, .int a1), (2, .int a2), (3, .int b1.1), (4, .int r3), (5, .int b1.2.2), (6, .int r3)]) dX6_bestNext_51 (by decide) rfl rfl ?_
            refine fr_iload hg 5 rfl dX6_bestNext_53 rfl ?_
            refine fr_istore_n hg (ls' := [(0, .ref (fr_ad w 24)), (1, .int a1), (2, .int a2), (3, .int b1.2.2), (4, .int r3), (5, .int b1.2.2), (6, .int r3)]) dX6_bestNext_55 rfl (by decide) rfl rfl ?_
            refine fr_iinc hg 5 (v := b1.2.2 + 1) (ls' := [(0, .ref (fr_ad w 24)), (1, .int a1), (2, .int a2), (3, .int b1.2.2), (4, .int r3), (5, .int (b1.2.2 + 1)), (6, .int r3)]) dX6_bestNext_56 rfl rfl (by decide) rfl rfl ?_
            refine fr_goto hg (n := 8) dX6_bestNext_59 (by decide) ?_
            exact fr_leaf [0, 1, 2, 3, 4, 5] rfl (fun h => h)
  refine fr_iload_n hg 0 rfl dX6_bestNext_62 rfl ?_
  exact fr_iret hg (rty := .int) rfl dX6_bestNext_63 (fun h => h)
noncomputable def zX6_plan_L20 (v2 : Int32) (σ : fr_St) : Option ((Int32 × fr_St) ⊕ (fr_St)) :=
  if v2 < 0 then some (.inr σ) else (zX6_spentOn σ v2).bind (fun r1 => (zX6_bestNext σ v2 r1).bind (fun r2 => (zX6_lateWith σ v2 r1 r2).bind (fun r3 => (fr_as 128 σ 28 v2 r3).bind (fun σ4 => some (.inl (v2 + (-1), σ4))))))
noncomputable def zX6_plan_L58 (v2 : Int32) (v3 : Int32) (σ : fr_St) : Option ((Int32 × Int32 × fr_St) ⊕ (fr_St)) :=
  if σ 24 4 ≤ v3 then some (.inr σ) else (zX6_spentOn σ v2).bind (fun r1 => (zX6_bestNext σ v2 r1).bind (fun r2 => (fr_as 7 σ 27 v3 r2).bind (fun σ3 => (fr_al 7 σ3 27 v3).bind (fun x4 => some (.inl (v2 ||| (1 <<< (x4 &&& 31)), v3 + 1, σ3))))))
noncomputable def zX6_plan (σ : fr_St)  : Option (fr_St) :=
  (fr_as 128 σ 28 ((1 <<< ((σ 24 4) &&& 31)) - 1) 0).bind (fun σ1 => (fr_loop (fun (b2 : Int32 × fr_St) => zX6_plan_L20 b2.1 b2.2) fr_fu (((1 <<< ((σ 24 4) &&& 31)) - 1) - 1, σ1)).bind (fun (c3 : fr_St) => (fr_loop (fun (b8 : Int32 × Int32 × fr_St) => zX6_plan_L58 b8.1 b8.2.1 b8.2.2) fr_fu (0, 0, c3)).bind (fun (c9 : fr_St) => some c9)))
set_option maxRecDepth 100000 in
set_option maxHeartbeats 4000000 in
theorem mX6_plan  : fr_MV2 yX6_plan cX6_plan 4 3 70 fr_shX (fun w => [.ref (fr_ad w 24)]) (fun σ => zX6_plan σ) := by
  refine fr_mkV2 (by decide) (fun w => Nat.le_of_ble_eq_true rfl) (fun g w σ hg => ?_)
  show fr_V g w 4 (zX6_plan σ) _ 0 [(0, .ref (fr_ad w 24))] [] σ
  unfold zX6_plan
  refine fr_iconst hg (v := 1) (by decide) dX6_plan_0 rfl ?_
  refine fr_aload_n hg 0 rfl dX6_plan_1 rfl ?_
  refine fr_geti hg (q := 24) fo_X6_24 rfl rfl dX6_plan_2 rfl ?_
  refine fr_ishl hg dX6_plan_5 rfl ?_
  refine fr_iconst hg (v := 1) (by decide) dX6_plan_6 rfl ?_
  refine fr_isub hg dX6_plan_7 rfl ?_
  refine fr_istore_n hg (ls' := [(0, .ref (fr_ad w 24)), (1, .int ((1 <<< ((σ 24 4) &&& 31)) - 1))]) dX6_plan_8 rfl (by decide) rfl rfl ?_
  refine fr_aload_n hg 0 rfl dX6_plan_9 rfl ?_
  refine fr_getr hg (q := 24) (q' := 28) fo_X6_21 rfl rfl dX6_plan_10 rfl ?_
  refine fr_iload_n hg 1 rfl dX6_plan_13 rfl ?_
  refine fr_iconst hg (v := 0) (by decide) dX6_plan_14 rfl ?_
  refine fr_iastore hg (q := 28) rfl dX6_plan_15 rfl (fun σ1 => ?_)
  refine fr_iload_n hg 1 rfl dX6_plan_16 rfl ?_
  refine fr_iconst hg (v := 1) (by decide) dX6_plan_17 rfl ?_
  refine fr_isub hg dX6_plan_18 rfl ?_
  refine fr_istore_n hg (ls' := [(0, .ref (fr_ad w 24)), (1, .int ((1 <<< ((σ 24 4) &&& 31)) - 1)), (2, .int (((1 <<< ((σ 24 4) &&& 31)) - 1) - 1))]) dX6_plan_19 rfl (by decide) rfl rfl ?_
  refine fr_lp (fun (b2 : Int32 × fr_St) => [(0, .ref (fr_ad w 24)), (2, .int b2.1)]) (fun b2 => b2.2) 54 (fun (c3 : fr_St) => [(0, .ref (fr_ad w 24))]) (fun c3 => c3) [0, 2] rfl rfl (fun b2 => ?_) (fun c3 => ?_)
  · show fr_V g w _ (zX6_plan_L20 b2.1 b2.2) _ _ _ _ _
    unfold zX6_plan_L20
    refine fr_iload_n hg 1 rfl dX6_plan_20 rfl ?_
    refine fr_if_lt hg (m := 54) dX6_plan_21 (by decide) rfl ?_ ?_
    · exact fr_leaf [0] rfl (fun h => h)
    · refine fr_aload_n hg 0 rfl dX6_plan_24 rfl ?_
      refine fr_iload_n hg 1 rfl dX6_plan_25 rfl ?_
      refine fr_ci1 hg (mX6_spentOn b2.1) (fr_crV hg (q := 24) mo_X6_31 rfl ⟨_, _, rfl⟩ rfl (by decide) (by decide) (Nat.le_of_ble_eq_true rfl) dX6_plan_26 rfl) rfl (fun r4 => ?_)
      refine fr_istore_n hg (ls' := [(0, .ref (fr_ad w 24)), (2, .int b2.1), (3, .int r4)]) dX6_plan_29 rfl (by decide) rfl rfl ?_
      refine fr_aload_n hg 0 rfl dX6_plan_30 rfl ?_
      refine fr_getr hg (q := 24) (q' := 28) fo_X6_21 rfl rfl dX6_plan_31 rfl ?_
      refine fr_iload_n hg 1 rfl dX6_plan_34 rfl ?_
      refine fr_aload_n hg 0 rfl dX6_plan_35 rfl ?_
      refine fr_iload_n hg 1 rfl dX6_plan_36 rfl ?_
      refine fr_iload_n hg 2 rfl dX6_plan_37 rfl ?_
      refine fr_aload_n hg 0 rfl dX6_plan_38 rfl ?_
      refine fr_iload_n hg 1 rfl dX6_plan_39 rfl ?_
      refine fr_iload_n hg 2 rfl dX6_plan_40 rfl ?_
      refine fr_ci1 hg (mX6_bestNext b2.1 r4) (fr_crV hg (q := 24) mo_X6_35 rfl ⟨_, _, rfl⟩ rfl (by decide) (by decide) (Nat.le_of_ble_eq_true rfl) dX6_plan_41 rfl) rfl (fun r5 => ?_)
      refine fr_ci1 hg (mX6_lateWith b2.1 r4 r5) (fr_crV hg (q := 24) mo_X6_39 rfl ⟨_, _, rfl⟩ rfl (by decide) (by decide) (Nat.le_of_ble_eq_true rfl) dX6_plan_44 rfl) rfl (fun r6 => ?_)
      refine fr_iastore hg (q := 28) rfl dX6_plan_47 rfl (fun σ7 => ?_)
      refine fr_iinc hg 1 (v := b2.1 + (-1)) (ls' := [(0, .ref (fr_ad w 24)), (2, .int (b2.1 + (-1))), (3, .int r4)]) dX6_plan_48 rfl rfl (by decide) rfl rfl ?_
      refine fr_goto hg (n := 20) dX6_plan_51 (by decide) ?_
      exact fr_leaf [0, 1] rfl (fun h => h)
  refine fr_iconst hg (v := 0) (by decide) dX6_plan_54 rfl ?_
  refine fr_istore_n hg (ls' := [(0, .ref (fr_ad w 24)), (2, .int 0)]) dX6_plan_55 rfl (by decide) rfl rfl ?_
  refine fr_iconst hg (v := 0) (by decide) dX6_plan_56 rfl ?_
  refine fr_istore_n hg (ls' := [(0, .ref (fr_ad w 24)), (2, .int 0), (3, .int 0)]) dX6_plan_57 rfl (by decide) rfl rfl ?_
  refine fr_lp (fun (b8 : Int32 × Int32 × fr_St) => [(0, .ref (fr_ad w 24)), (2, .int b8.1), (3, .int b8.2.1)]) (fun b8 => b8.2.2) 99 (fun (c9 : fr_St) => []) (fun c9 => c9) [0, 1, 2] rfl rfl (fun b8 => ?_) (fun c9 => ?_)
  · show fr_V g w _ (zX6_plan_L58 b8.1 b8.2.1 b8.2.2) _ _ _ _ _
    unfold zX6_plan_L58
    refine fr_iload_n hg 2 rfl dX6_plan_58 rfl ?_
    refine fr_aload_n hg 0 rfl dX6_plan_59 rfl ?_
    refine fr_geti hg (q := 24) fo_X6_24 rfl rfl dX6_plan_60 rfl ?_
    refine fr_icmp_ge hg (m := 99) dX6_plan_63 (by decide) rfl ?_ ?_
    · exact fr_leaf [] rfl (fun h => h)
    · refine fr_aload_n hg 0 rfl dX6_plan_66 rfl ?_
      refine fr_getr hg (q := 24) (q' := 27) fo_X6_18 rfl rfl dX6_plan_67 rfl ?_
      refine fr_iload_n hg 2 rfl dX6_plan_70 rfl ?_
      refine fr_aload_n hg 0 rfl dX6_plan_71 rfl ?_
      refine fr_iload_n hg 1 rfl dX6_plan_72 rfl ?_
      refine fr_aload_n hg 0 rfl dX6_plan_73 rfl ?_
      refine fr_iload_n hg 1 rfl dX6_plan_74 rfl ?_
      refine fr_ci1 hg (mX6_spentOn b8.1) (fr_crV hg (q := 24) mo_X6_31 rfl ⟨_, _, rfl⟩ rfl (by decide) (by decide) (Nat.le_of_ble_eq_true rfl) dX6_plan_75 rfl) rfl (fun r10 => ?_)
      refine fr_ci1 hg (mX6_bestNext b8.1 r10) (fr_crV hg (q := 24) mo_X6_35 rfl ⟨_, _, rfl⟩ rfl (by decide) (by decide) (Nat.le_of_ble_eq_true rfl) dX6_plan_78 rfl) rfl (fun r11 => ?_)
      refine fr_iastore hg (q := 27) rfl dX6_plan_81 rfl (fun σ12 => ?_)
      refine fr_iload_n hg 1 rfl dX6_plan_82 rfl ?_
      refine fr_iconst hg (v := 1) (by decide) dX6_plan_83 rfl ?_
      refine fr_aload_n hg 0 rfl dX6_plan_84 rfl ?_
      refine fr_getr hg (q := 24) (q' := 27) fo_X6_18 rfl rfl dX6_plan_85 rfl ?_
      refine fr_iload_n hg 2 rfl dX6_plan_88 rfl ?_
      refine fr_iaload hg (q := 27) rfl dX6_plan_89 rfl (fun x13 => ?_)
      refine fr_ishl hg dX6_plan_90 rfl ?_
      refine fr_ior hg dX6_plan_91 rfl ?_
      refine fr_istore_n hg (ls' := [(0, .ref (fr_ad w 24)), (2, .int (b8.1 ||| (1 <<< (x13 &&& 31)))), (3, .int b8.2.1)]) dX6_plan_92 rfl (by decide) rfl rfl ?_
      refine fr_iinc hg 2 (v := b8.2.1 + 1) (ls' := [(0, .ref (fr_ad w 24)), (2, .int (b8.1 ||| (1 <<< (x13 &&& 31)))), (3, .int (b8.2.1 + 1))]) dX6_plan_93 rfl rfl (by decide) rfl rfl ?_
      refine fr_goto hg (n := 58) dX6_plan_96 (by decide) ?_
      exact fr_leaf [0, 1, 2] rfl (fun h => h)
  exact fr_vret hg dX6_plan_99 (fun h => h)
noncomputable def zX6_append (σ : fr_St) (a1 : Int32) (a2 : Int32) : Option (fr_St) :=
  if 7 ≤ σ 24 4 then some σ else (fr_as 7 σ 25 (σ 24 4) a1).bind (fun σ1 => (fr_as 7 σ1 26 (σ1 24 4) a2).bind (fun σ2 => (zX6_plan (fr_put σ2 24 4 ((σ2 24 4) + 1))).bind (fun σ3 => some σ3)))
set_option maxRecDepth 100000 in
set_option maxHeartbeats 4000000 in
theorem mX6_append (a1 : Int32) (a2 : Int32) : fr_MV2 yX6_append cX6_append 3 4 93 fr_shX (fun w => [.ref (fr_ad w 24), .int a1, .int a2]) (fun σ => zX6_append σ a1 a2) := by
  refine fr_mkV2 (by decide) (fun w => Nat.le_of_ble_eq_true rfl) (fun g w σ hg => ?_)
  show fr_V g w 3 (zX6_append σ a1 a2) _ 0 [(0, .ref (fr_ad w 24)), (1, .int a1), (2, .int a2)] [] σ
  unfold zX6_append
  refine fr_aload_n hg 0 rfl dX6_append_0 rfl ?_
  refine fr_geti hg (q := 24) fo_X6_24 rfl rfl dX6_append_1 rfl ?_
  refine fr_bipush hg (v := 7) (by decide) dX6_append_4 rfl ?_
  refine fr_icmp_ge hg (m := 43) dX6_append_6 (by decide) rfl ?_ ?_
  · exact fr_vret hg dX6_append_43 (fun h => h)
  · refine fr_aload_n hg 0 rfl dX6_append_9 rfl ?_
    refine fr_getr hg (q := 24) (q' := 25) fo_X6_9 rfl rfl dX6_append_10 rfl ?_
    refine fr_aload_n hg 0 rfl dX6_append_13 rfl ?_
    refine fr_geti hg (q := 24) fo_X6_24 rfl rfl dX6_append_14 rfl ?_
    refine fr_iload_n hg 1 rfl dX6_append_17 rfl ?_
    refine fr_iastore hg (q := 25) rfl dX6_append_18 rfl (fun σ1 => ?_)
    refine fr_aload_n hg 0 rfl dX6_append_19 rfl ?_
    refine fr_getr hg (q := 24) (q' := 26) fo_X6_15 rfl rfl dX6_append_20 rfl ?_
    refine fr_aload_n hg 0 rfl dX6_append_23 rfl ?_
    refine fr_geti hg (q := 24) fo_X6_24 rfl rfl dX6_append_24 rfl ?_
    refine fr_iload_n hg 2 rfl dX6_append_27 rfl ?_
    refine fr_iastore hg (q := 26) rfl dX6_append_28 rfl (fun σ2 => ?_)
    refine fr_aload_n hg 0 rfl dX6_append_29 rfl ?_
    refine fr_dup hg rfl dX6_append_30 rfl ?_
    refine fr_geti hg (q := 24) fo_X6_24 rfl rfl dX6_append_31 rfl ?_
    refine fr_iconst hg (v := 1) (by decide) dX6_append_34 rfl ?_
    refine fr_iadd hg dX6_append_35 rfl ?_
    refine fr_puti hg (q := 24) fp_X6_24 rfl rfl rfl rfl dX6_append_36 rfl ?_
    refine fr_aload_n hg 0 rfl dX6_append_39 rfl ?_
    refine fr_cv2 hg mX6_plan (fr_crV hg (q := 24) mo_X6_28 rfl ⟨_, _, rfl⟩ rfl (by decide) (by decide) (Nat.le_of_ble_eq_true rfl) dX6_append_40 rfl) rfl (fun σ3 => ?_)
    exact fr_vret hg dX6_append_43 (fun h => h)
noncomputable def zX9_car (σ : fr_St) (a1 : Int32) (a2 : Int32) : Option (Int32 × fr_St) :=
  if zX9_within a1 1 9999 = 0 then some ((-2), σ) else if zX9_within a2 0 9999 = 0 then some ((-2), σ) else if σ 24 4 < 7 then (zX6_append σ a1 a2).bind (fun σ1 => some (σ1 24 4, σ1)) else some ((-4), σ)
set_option maxRecDepth 100000 in
set_option maxHeartbeats 4000000 in
theorem mX9_car (a1 : Int32) (a2 : Int32) : fr_MI2 yX9_car cX9_car 3 .int 5 115 fr_shX (fun w => [.ref (fr_ad w 0), .int a1, .int a2]) (fun σ => zX9_car σ a1 a2) := by
  refine fr_mkI2 (by decide) (fun w => Nat.le_of_ble_eq_true rfl) (fun g w σ hg => ?_)
  show fr_V g w 3 (zX9_car σ a1 a2) _ 0 [(0, .ref (fr_ad w 0)), (1, .int a1), (2, .int a2)] [] σ
  unfold zX9_car
  refine fr_iload_n hg 1 rfl dX9_car_0 rfl ?_
  refine fr_iconst hg (v := 1) (by decide) dX9_car_1 rfl ?_
  refine fr_sipush hg (v := 9999) (by decide) dX9_car_2 rfl ?_
  refine fr_ci0 hg (mX9_within a1 1 9999) (fr_crS hg mo_X9_77 rfl (by decide) (by decide) (Nat.le_of_ble_eq_true rfl) dX9_car_5 rfl) rfl ?_
  refine fr_if_eq hg (m := 22) dX9_car_8 (by decide) rfl ?_ ?_
  · refine fr_bipush hg (v := (-2)) (by decide) dX9_car_22 rfl ?_
    exact fr_iret hg (rty := .int) rfl dX9_car_24 (fun h => h)
  · refine fr_iload_n hg 2 rfl dX9_car_11 rfl ?_
    refine fr_iconst hg (v := 0) (by decide) dX9_car_12 rfl ?_
    refine fr_sipush hg (v := 9999) (by decide) dX9_car_13 rfl ?_
    refine fr_ci0 hg (mX9_within a2 0 9999) (fr_crS hg mo_X9_77 rfl (by decide) (by decide) (Nat.le_of_ble_eq_true rfl) dX9_car_16 rfl) rfl ?_
    refine fr_if_ne hg (m := 25) dX9_car_19 (by decide) rfl ?_ ?_
    · refine fr_aload_n hg 0 rfl dX9_car_25 rfl ?_
      refine fr_getr hg (q := 0) (q' := 24) fo_X9_54 rfl rfl dX9_car_26 rfl ?_
      refine fr_geti hg (q := 24) fo_X9_238 rfl rfl dX9_car_29 rfl ?_
      refine fr_bipush hg (v := 7) (by decide) dX9_car_32 rfl ?_
      refine fr_icmp_lt hg (m := 40) dX9_car_34 (by decide) rfl ?_ ?_
      · refine fr_aload_n hg 0 rfl dX9_car_40 rfl ?_
        refine fr_getr hg (q := 0) (q' := 24) fo_X9_54 rfl rfl dX9_car_41 rfl ?_
        refine fr_iload_n hg 1 rfl dX9_car_44 rfl ?_
        refine fr_iload_n hg 2 rfl dX9_car_45 rfl ?_
        refine fr_cv2 hg (mX6_append a1 a2) (fr_crV hg (q := 24) mo_X9_239 rfl ⟨_, _, rfl⟩ rfl (by decide) (by decide) (Nat.le_of_ble_eq_true rfl) dX9_car_46 rfl) rfl (fun σ1 => ?_)
        refine fr_aload_n hg 0 rfl dX9_car_49 rfl ?_
        refine fr_getr hg (q := 0) (q' := 24) fo_X9_54 rfl rfl dX9_car_50 rfl ?_
        refine fr_geti hg (q := 24) fo_X9_238 rfl rfl dX9_car_53 rfl ?_
        exact fr_iret hg (rty := .int) rfl dX9_car_56 (fun h => h)
      · refine fr_bipush hg (v := (-4)) (by decide) dX9_car_37 rfl ?_
        exact fr_iret hg (rty := .int) rfl dX9_car_39 (fun h => h)
    · refine fr_bipush hg (v := (-2)) (by decide) dX9_car_22 rfl ?_
      exact fr_iret hg (rty := .int) rfl dX9_car_24 (fun h => h)
