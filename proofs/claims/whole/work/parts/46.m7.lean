def zX10_nightOf (a1 : Int32) (a2 : Int32) (a3 : Int32) : Int32 :=
  if a3 = 1 then (zX10_greater ((6 - (4 * a1)) - a2) 0) - ((zX10_greater ((6 - (4 * a1)) - a2) 0) / 2) else zX10_greater ((6 - (4 * a1)) - a2) 0
set_option maxRecDepth 100000 in
set_option maxHeartbeats 4000000 in
theorem mX10_nightOf (a1 : Int32) (a2 : Int32) (a3 : Int32) : fr_MI0 yX10_nightOf cX10_nightOf 4 .int 1 21 fr_shM (fun w => [.int a1, .int a2, .int a3]) (fun σ => zX10_nightOf a1 a2 a3) := by
  refine fr_mkI0 (by decide) (fun w => Nat.le_of_ble_eq_true rfl) (fun g w σ hg => ?_)
  show fr_V g w 4 (some (zX10_nightOf a1 a2 a3)) _ 0 [(0, .int a1), (1, .int a2), (2, .int a3)] [] σ
  unfold zX10_nightOf
  refine fr_bipush hg (v := 6) (by decide) dX10_nightOf_0 rfl ?_
  refine fr_iconst hg (v := 4) (by decide) dX10_nightOf_2 rfl ?_
  refine fr_iload_n hg 0 rfl dX10_nightOf_3 rfl ?_
  refine fr_imul hg dX10_nightOf_4 rfl ?_
  refine fr_isub hg dX10_nightOf_5 rfl ?_
  refine fr_iload_n hg 1 rfl dX10_nightOf_6 rfl ?_
  refine fr_isub hg dX10_nightOf_7 rfl ?_
  refine fr_iconst hg (v := 0) (by decide) dX10_nightOf_8 rfl ?_
  refine fr_ci0 hg (mX10_greater ((6 - (4 * a1)) - a2) 0) (fr_crS hg mo_X10_225 rfl (by decide) (by decide) (Nat.le_of_ble_eq_true rfl) dX10_nightOf_9 rfl) rfl ?_
  refine fr_istore_n hg (ls' := [(0, .int a1), (1, .int a2), (2, .int a3), (3, .int (zX10_greater ((6 - (4 * a1)) - a2) 0))]) dX10_nightOf_12 rfl (by decide) rfl rfl ?_
  refine fr_iload_n hg 2 rfl dX10_nightOf_13 rfl ?_
  refine fr_iconst hg (v := 1) (by decide) dX10_nightOf_14 rfl ?_
  refine fr_some_ite ?_
  refine fr_icmp_ne hg (m := 26) dX10_nightOf_15 (by decide) rfl ?_ ?_
  · refine fr_iload_n hg 3 rfl dX10_nightOf_26 rfl ?_
    exact fr_iret hg (rty := .int) rfl dX10_nightOf_27 (fun h => h)
  · refine fr_iload_n hg 3 rfl dX10_nightOf_18 rfl ?_
    refine fr_iload_n hg 3 rfl dX10_nightOf_19 rfl ?_
    refine fr_iconst hg (v := 2) (by decide) dX10_nightOf_20 rfl ?_
    refine fr_idiv0 hg (by decide) dX10_nightOf_21 rfl ?_
    refine fr_isub hg dX10_nightOf_22 rfl ?_
    refine fr_goto hg (n := 27) dX10_nightOf_23 (by decide) ?_
    exact fr_iret hg (rty := .int) rfl dX10_nightOf_27 (fun h => h)
def zX10_night (a1 : Int32) (a2 : Int32) (a3 : Int32) : Int32 :=
  if zX10_isTwo a1 = 0 then (-2) else if zX10_isNight a2 a3 = 0 then (-2) else zX10_nightOf a1 a2 a3
set_option maxRecDepth 100000 in
set_option maxHeartbeats 4000000 in
theorem mX10_night (a1 : Int32) (a2 : Int32) (a3 : Int32) : fr_MI0 yX10_night cX10_night 4 .int 3 66 fr_shM (fun w => [.ref (fr_ad w 0), .int a1, .int a2, .int a3]) (fun σ => zX10_night a1 a2 a3) := by
  refine fr_mkI0 (by decide) (fun w => Nat.le_of_ble_eq_true rfl) (fun g w σ hg => ?_)
  show fr_V g w 4 (some (zX10_night a1 a2 a3)) _ 0 [(0, .ref (fr_ad w 0)), (1, .int a1), (2, .int a2), (3, .int a3)] [] σ
  unfold zX10_night
  refine fr_iload_n hg 1 rfl dX10_night_0 rfl ?_
  refine fr_ci0 hg (mX10_isTwo a1) (fr_crS hg mo_X10_102 rfl (by decide) (by decide) (Nat.le_of_ble_eq_true rfl) dX10_night_1 rfl) rfl ?_
  refine fr_some_ite ?_
  refine fr_if_eq hg (m := 24) dX10_night_4 (by decide) rfl ?_ ?_
  · refine fr_bipush hg (v := (-2)) (by decide) dX10_night_24 rfl ?_
    exact fr_iret hg (rty := .int) rfl dX10_night_26 (fun h => h)
  · refine fr_iload_n hg 2 rfl dX10_night_7 rfl ?_
    refine fr_iload_n hg 3 rfl dX10_night_8 rfl ?_
    refine fr_ci0 hg (mX10_isNight a2 a3) (fr_crS hg mo_X10_233 rfl (by decide) (by decide) (Nat.le_of_ble_eq_true rfl) dX10_night_9 rfl) rfl ?_
    refine fr_some_ite ?_
    refine fr_if_eq hg (m := 24) dX10_night_12 (by decide) rfl ?_ ?_
    · refine fr_bipush hg (v := (-2)) (by decide) dX10_night_24 rfl ?_
      exact fr_iret hg (rty := .int) rfl dX10_night_26 (fun h => h)
    · refine fr_iload_n hg 1 rfl dX10_night_15 rfl ?_
      refine fr_iload_n hg 2 rfl dX10_night_16 rfl ?_
      refine fr_iload_n hg 3 rfl dX10_night_17 rfl ?_
      refine fr_ci0 hg (mX10_nightOf a1 a2 a3) (fr_crS hg mo_X10_236 rfl (by decide) (by decide) (Nat.le_of_ble_eq_true rfl) dX10_night_18 rfl) rfl ?_
      refine fr_goto hg (n := 26) dX10_night_21 (by decide) ?_
      exact fr_iret hg (rty := .int) rfl dX10_night_26 (fun h => h)
noncomputable def zX10_tonightBy (σ : fr_St) (a1 : Int32) (a2 : Int32) (a3 : Int32) (a4 : Int32) : Option (Int32) :=
  (fr_al 4 σ 11 a4).bind (fun x1 => some (((σ 0 11) * x1) * ((a1 * (zX10_nightOf 0 a2 a3)) + ((16 - a1) * (zX10_nightOf 1 a2 a3)))))
set_option maxRecDepth 100000 in
set_option maxHeartbeats 4000000 in
theorem mX10_tonightBy (a1 : Int32) (a2 : Int32) (a3 : Int32) (a4 : Int32) : fr_MI1 yX10_tonightBy cX10_tonightBy 5 .int 2 44 fr_shM (fun w => [.ref (fr_ad w 0), .int a1, .int a2, .int a3, .int a4]) (fun σ => zX10_tonightBy σ a1 a2 a3 a4) := by
  refine fr_mkI1 (by decide) (fun w => Nat.le_of_ble_eq_true rfl) (fun g w σ hg => ?_)
  show fr_V g w 5 (zX10_tonightBy σ a1 a2 a3 a4) _ 0 [(0, .ref (fr_ad w 0)), (1, .int a1), (2, .int a2), (3, .int a3), (4, .int a4)] [] σ
  unfold zX10_tonightBy
  refine fr_aload_n hg 0 rfl dX10_tonightBy_0 rfl ?_
  refine fr_geti hg (q := 0) fo_X10_107 rfl rfl dX10_tonightBy_1 rfl ?_
  refine fr_aload_n hg 0 rfl dX10_tonightBy_4 rfl ?_
  refine fr_getr hg (q := 0) (q' := 11) fo_X10_41 rfl rfl dX10_tonightBy_5 rfl ?_
  refine fr_iload hg 4 rfl dX10_tonightBy_8 rfl ?_
  refine fr_iaload hg (q := 11) rfl dX10_tonightBy_10 rfl (fun x1 => ?_)
  refine fr_imul hg dX10_tonightBy_11 rfl ?_
  refine fr_iload_n hg 1 rfl dX10_tonightBy_12 rfl ?_
  refine fr_iconst hg (v := 0) (by decide) dX10_tonightBy_13 rfl ?_
  refine fr_iload_n hg 2 rfl dX10_tonightBy_14 rfl ?_
  refine fr_iload_n hg 3 rfl dX10_tonightBy_15 rfl ?_
  refine fr_ci0 hg (mX10_nightOf 0 a2 a3) (fr_crS hg mo_X10_236 rfl (by decide) (by decide) (Nat.le_of_ble_eq_true rfl) dX10_tonightBy_16 rfl) rfl ?_
  refine fr_imul hg dX10_tonightBy_19 rfl ?_
  refine fr_bipush hg (v := 16) (by decide) dX10_tonightBy_20 rfl ?_
  refine fr_iload_n hg 1 rfl dX10_tonightBy_22 rfl ?_
  refine fr_isub hg dX10_tonightBy_23 rfl ?_
  refine fr_iconst hg (v := 1) (by decide) dX10_tonightBy_24 rfl ?_
  refine fr_iload_n hg 2 rfl dX10_tonightBy_25 rfl ?_
  refine fr_iload_n hg 3 rfl dX10_tonightBy_26 rfl ?_
  refine fr_ci0 hg (mX10_nightOf 1 a2 a3) (fr_crS hg mo_X10_236 rfl (by decide) (by decide) (Nat.le_of_ble_eq_true rfl) dX10_tonightBy_27 rfl) rfl ?_
  refine fr_imul hg dX10_tonightBy_30 rfl ?_
  refine fr_iadd hg dX10_tonightBy_31 rfl ?_
  refine fr_imul hg dX10_tonightBy_32 rfl ?_
  exact fr_iret hg (rty := .int) rfl dX10_tonightBy_33 (fun h => h)
noncomputable def zX10_part_L6 (k0 : Int64) (k2 : Int64) (k4 : Int32) (v5 : Int64) (v7 : Int64) : Option ((Int64 × Int64) ⊕ (Int64)) :=
  if lg_cmp v7 0 = 0 then some (.inr v5) else (fr_lrm v5 v7).bind (fun x1 => some (.inl (v7, x1)))
noncomputable def zX10_part (a1 : Int64) (a2 : Int64) (a3 : Int32) : Option (Int64) :=
  (fr_loop (fun (b1 : Int64 × Int64) => zX10_part_L6 a1 a2 a3 b1.1 b1.2) fr_fu (a1, a2)).bind (fun (c2 : Int64) => if a3 = 0 then (fr_ldv a1 c2).bind (fun x5 => some x5) else (fr_ldv a2 c2).bind (fun x4 => some x4))
set_option maxRecDepth 100000 in
set_option maxHeartbeats 4000000 in
theorem mX10_part (a1 : Int64) (a2 : Int64) (a3 : Int32) : fr_ML1 yX10_part cX10_part 11 0 0 fr_shM (fun w => [.long a1, .long a2, .int a3]) (fun σ => zX10_part a1 a2 a3) := by
  refine fr_mkL1 (by decide) (fun w => Nat.le_of_ble_eq_true rfl) (fun g w σ hg => ?_)
  show fr_V g w 11 (zX10_part a1 a2 a3) _ 0 [(0, .long a1), (2, .long a2), (4, .int a3)] [] σ
  unfold zX10_part
  refine fr_lload_n hg 0 rfl dX10_part_0 rfl ?_
  refine fr_lstore hg (ls' := [(0, .long a1), (2, .long a2), (4, .int a3), (5, .long a1)]) dX10_part_1 (by decide) rfl rfl ?_
  refine fr_lload_n hg 1 rfl dX10_part_3 rfl ?_
  refine fr_lstore hg (ls' := [(0, .long a1), (2, .long a2), (4, .int a3), (5, .long a1), (7, .long a2)]) dX10_part_4 (by decide) rfl rfl ?_
  refine fr_lp (fun (b1 : Int64 × Int64) => [(0, .long a1), (2, .long a2), (4, .int a3), (5, .long b1.1), (7, .long b1.2)]) (fun b1 => σ) 31 (fun (c2 : Int64) => [(0, .long a1), (2, .long a2), (4, .int a3), (5, .long c2)]) (fun c2 => σ) [0, 1, 2, 3, 4] rfl rfl (fun b1 => ?_) (fun c2 => ?_)
  · show fr_V g w _ (zX10_part_L6 a1 a2 a3 b1.1 b1.2) _ _ _ _ _
    unfold zX10_part_L6
    refine fr_lload hg 4 rfl dX10_part_6 rfl ?_
    refine fr_lconst hg (v := 0) (by decide) dX10_part_8 rfl ?_
    refine fr_lcmp hg dX10_part_9 rfl ?_
    refine fr_if_eq hg (m := 31) dX10_part_10 (by decide) rfl ?_ ?_
    · exact fr_leaf [0, 1, 2, 3] rfl (fun h => h)
    · refine fr_lload hg 3 rfl dX10_part_13 rfl ?_
      refine fr_lload hg 4 rfl dX10_part_15 rfl ?_
      refine fr_lrem hg dX10_part_17 rfl (fun x3 => ?_)
      refine fr_lstore hg (ls' := [(0, .long a1), (2, .long a2), (4, .int a3), (5, .long b1.1), (7, .long b1.2), (9, .long x3)]) dX10_part_18 (by decide) rfl rfl ?_
      refine fr_lload hg 4 rfl dX10_part_20 rfl ?_
      refine fr_lstore hg (ls' := [(0, .long a1), (2, .long a2), (4, .int a3), (5, .long b1.2), (7, .long b1.2), (9, .long x3)]) dX10_part_22 (by decide) rfl rfl ?_
      refine fr_lload hg 5 rfl dX10_part_24 rfl ?_
      refine fr_lstore hg (ls' := [(0, .long a1), (2, .long a2), (4, .int a3), (5, .long b1.2), (7, .long x3), (9, .long x3)]) dX10_part_26 (by decide) rfl rfl ?_
      refine fr_goto hg (n := 6) dX10_part_28 (by decide) ?_
      exact fr_leaf [0, 1, 2, 3, 4] rfl (fun h => h)
  refine fr_iload hg 2 rfl dX10_part_31 rfl ?_
  refine fr_if_ne hg (m := 40) dX10_part_33 (by decide) rfl ?_ ?_
  · refine fr_lload_n hg 1 rfl dX10_part_40 rfl ?_
    refine fr_lload hg 3 rfl dX10_part_41 rfl ?_
    refine fr_ldiv hg dX10_part_43 rfl (fun x4 => ?_)
    exact fr_lret hg dX10_part_44 (fun h => h)
  · refine fr_lload_n hg 0 rfl dX10_part_36 rfl ?_
    refine fr_goto hg (n := 41) dX10_part_37 (by decide) ?_
    refine fr_lload hg 3 rfl dX10_part_41 rfl ?_
    refine fr_ldiv hg dX10_part_43 rfl (fun x5 => ?_)
    exact fr_lret hg dX10_part_44 (fun h => h)
def zX10_no (a1 : Int32) : Int64 :=
  (-9223372036854775808) - a1.toInt64
set_option maxRecDepth 100000 in
set_option maxHeartbeats 4000000 in
theorem mX10_no (a1 : Int32) : fr_ML0 yX10_no cX10_no 1 0 0 fr_shM (fun w => [.int a1]) (fun σ => zX10_no a1) := by
  refine fr_mkL0 (by decide) (fun w => Nat.le_of_ble_eq_true rfl) (fun g w σ hg => ?_)
  show fr_V g w 1 (some (zX10_no a1)) _ 0 [(0, .int a1)] [] σ
  unfold zX10_no
  refine fr_ldc2 hg cl_X10_71 dX10_no_0 rfl ?_
  refine fr_iload_n hg 0 rfl dX10_no_3 rfl ?_
  refine fr_i2l hg dX10_no_4 rfl ?_
  refine fr_lsub hg dX10_no_5 rfl ?_
  exact fr_lret hg dX10_no_6 (fun h => h)
noncomputable def zX10_tonight (σ : fr_St) (a1 : Int32) (a2 : Int32) (a3 : Int32) (a4 : Int32) (a5 : Int32) : Option (Int64 × fr_St) :=
  (zX10_readsPane σ).bind (fun p2 => if zX10_in a1.toInt64 0 16 = 0 then if (0 : Int32) = 0 then some (zX10_no (-2), p2.2) else (zX10_tonightBy p2.2 a1 a2 a3 a4).bind (fun r3 => (zX10_part r3.toInt64 16 a5).bind (fun r4 => some (r4, p2.2))) else if zX10_isNight a2 a3 = 0 then if (0 : Int32) = 0 then some (zX10_no (-2), p2.2) else (zX10_tonightBy p2.2 a1 a2 a3 a4).bind (fun r5 => (zX10_part r5.toInt64 16 a5).bind (fun r6 => some (r6, p2.2))) else if zX10_isTool a4 = 0 then if (0 : Int32) = 0 then some (zX10_no (-2), p2.2) else (zX10_tonightBy p2.2 a1 a2 a3 a4).bind (fun r7 => (zX10_part r7.toInt64 16 a5).bind (fun r8 => some (r8, p2.2))) else (some (if zX10_isTwo a5 = 0 then 0 else 1) : Option (Int32)).bind (fun t9 => if t9 = 0 then some (zX10_no (-2), p2.2) else (zX10_tonightBy p2.2 a1 a2 a3 a4).bind (fun r10 => (zX10_part r10.toInt64 16 a5).bind (fun r11 => some (r11, p2.2)))))
set_option maxRecDepth 100000 in
set_option maxHeartbeats 4000000 in
theorem mX10_tonight (a1 : Int32) (a2 : Int32) (a3 : Int32) (a4 : Int32) (a5 : Int32) : fr_ML2 yX10_tonight cX10_tonight 7 3 69 fr_shM (fun w => [.ref (fr_ad w 0), .int a1, .int a2, .int a3, .int a4, .int a5]) (fun σ => zX10_tonight σ a1 a2 a3 a4 a5) := by
  refine fr_mkL2 (by decide) (fun w => Nat.le_of_ble_eq_true rfl) (fun g w σ hg => ?_)
  show fr_V g w 7 (zX10_tonight σ a1 a2 a3 a4 a5) _ 0 [(0, .ref (fr_ad w 0)), (1, .int a1), (2, .int a2), (3, .int a3), (4, .int a4), (5, .int a5)] [] σ
  unfold zX10_tonight
  refine fr_aload_n hg 0 rfl dX10_tonight_0 rfl ?_
  refine fr_ci2 hg mX10_readsPane (fr_crV hg (q := 0) mo_X10_134 rfl ⟨_, _, rfl⟩ rfl (by decide) (by decide) (Nat.le_of_ble_eq_true rfl) dX10_tonight_1 rfl) rfl (fun p2 => ?_)
  refine fr_pop hg rfl dX10_tonight_4 rfl ?_
  refine fr_iload_n hg 1 rfl dX10_tonight_5 rfl ?_
  refine fr_i2l hg dX10_tonight_6 rfl ?_
  refine fr_lconst hg (v := 0) (by decide) dX10_tonight_7 rfl ?_
  refine fr_ldc2 hg cl_X10_239 dX10_tonight_8 rfl ?_
  refine fr_ci0 hg (mX10_in a1.toInt64 0 16) (fr_crS hg mo_X10_73 rfl (by decide) (by decide) (Nat.le_of_ble_eq_true rfl) dX10_tonight_11 rfl) rfl ?_
  refine fr_if_eq hg (m := 45) dX10_tonight_14 (by decide) rfl ?_ ?_
  · refine fr_iconst hg (v := 0) (by decide) dX10_tonight_45 rfl ?_
    refine fr_istore hg (ls' := [(0, .ref (fr_ad w 0)), (1, .int a1), (2, .int a2), (3, .int a3), (4, .int a4), (5, .int a5), (6, .int 0)]) dX10_tonight_46 (by decide) rfl rfl ?_
    refine fr_iload hg 6 rfl dX10_tonight_48 rfl ?_
    refine fr_if_eq hg (m := 74) dX10_tonight_50 (by decide) rfl ?_ ?_
    · refine fr_bipush hg (v := (-2)) (by decide) dX10_tonight_74 rfl ?_
      refine fr_cl0 hg (mX10_no (-2)) (fr_crS hg mo_X10_248 rfl (by decide) (by decide) (Nat.le_of_ble_eq_true rfl) dX10_tonight_76 rfl) rfl ?_
      exact fr_lret hg dX10_tonight_79 (fun h => h)
    · refine fr_aload_n hg 0 rfl dX10_tonight_53 rfl ?_
      refine fr_iload_n hg 1 rfl dX10_tonight_54 rfl ?_
      refine fr_iload_n hg 2 rfl dX10_tonight_55 rfl ?_
      refine fr_iload_n hg 3 rfl dX10_tonight_56 rfl ?_
      refine fr_iload hg 4 rfl dX10_tonight_57 rfl ?_
      refine fr_ci1 hg (mX10_tonightBy a1 a2 a3 a4) (fr_crV hg (q := 0) mo_X10_241 rfl ⟨_, _, rfl⟩ rfl (by decide) (by decide) (Nat.le_of_ble_eq_true rfl) dX10_tonight_59 rfl) rfl (fun r3 => ?_)
      refine fr_i2l hg dX10_tonight_62 rfl ?_
      refine fr_ldc2 hg cl_X10_239 dX10_tonight_63 rfl ?_
      refine fr_iload hg 5 rfl dX10_tonight_66 rfl ?_
      refine fr_cl1 hg (mX10_part r3.toInt64 16 a5) (fr_crS hg mo_X10_244 rfl (by decide) (by decide) (Nat.le_of_ble_eq_true rfl) dX10_tonight_68 rfl) rfl (fun r4 => ?_)
      refine fr_goto hg (n := 79) dX10_tonight_71 (by decide) ?_
      exact fr_lret hg dX10_tonight_79 (fun h => h)
  · refine fr_iload_n hg 2 rfl dX10_tonight_17 rfl ?_
    refine fr_iload_n hg 3 rfl dX10_tonight_18 rfl ?_
    refine fr_ci0 hg (mX10_isNight a2 a3) (fr_crS hg mo_X10_233 rfl (by decide) (by decide) (Nat.le_of_ble_eq_true rfl) dX10_tonight_19 rfl) rfl ?_
    refine fr_if_eq hg (m := 45) dX10_tonight_22 (by decide) rfl ?_ ?_
    · refine fr_iconst hg (v := 0) (by decide) dX10_tonight_45 rfl ?_
      refine fr_istore hg (ls' := [(0, .ref (fr_ad w 0)), (1, .int a1), (2, .int a2), (3, .int a3), (4, .int a4), (5, .int a5), (6, .int 0)]) dX10_tonight_46 (by decide) rfl rfl ?_
      refine fr_iload hg 6 rfl dX10_tonight_48 rfl ?_
      refine fr_if_eq hg (m := 74) dX10_tonight_50 (by decide) rfl ?_ ?_
      · refine fr_bipush hg (v := (-2)) (by decide) dX10_tonight_74 rfl ?_
        refine fr_cl0 hg (mX10_no (-2)) (fr_crS hg mo_X10_248 rfl (by decide) (by decide) (Nat.le_of_ble_eq_true rfl) dX10_tonight_76 rfl) rfl ?_
        exact fr_lret hg dX10_tonight_79 (fun h => h)
      · refine fr_aload_n hg 0 rfl dX10_tonight_53 rfl ?_
        refine fr_iload_n hg 1 rfl dX10_tonight_54 rfl ?_
        refine fr_iload_n hg 2 rfl dX10_tonight_55 rfl ?_
        refine fr_iload_n hg 3 rfl dX10_tonight_56 rfl ?_
        refine fr_iload hg 4 rfl dX10_tonight_57 rfl ?_
        refine fr_ci1 hg (mX10_tonightBy a1 a2 a3 a4) (fr_crV hg (q := 0) mo_X10_241 rfl ⟨_, _, rfl⟩ rfl (by decide) (by decide) (Nat.le_of_ble_eq_true rfl) dX10_tonight_59 rfl) rfl (fun r5 => ?_)
        refine fr_i2l hg dX10_tonight_62 rfl ?_
        refine fr_ldc2 hg cl_X10_239 dX10_tonight_63 rfl ?_
        refine fr_iload hg 5 rfl dX10_tonight_66 rfl ?_
        refine fr_cl1 hg (mX10_part r5.toInt64 16 a5) (fr_crS hg mo_X10_244 rfl (by decide) (by decide) (Nat.le_of_ble_eq_true rfl) dX10_tonight_68 rfl) rfl (fun r6 => ?_)
        refine fr_goto hg (n := 79) dX10_tonight_71 (by decide) ?_
        exact fr_lret hg dX10_tonight_79 (fun h => h)
    · refine fr_iload hg 4 rfl dX10_tonight_25 rfl ?_
      refine fr_ci0 hg (mX10_isTool a4) (fr_crS hg mo_X10_143 rfl (by decide) (by decide) (Nat.le_of_ble_eq_true rfl) dX10_tonight_27 rfl) rfl ?_
      refine fr_if_eq hg (m := 45) dX10_tonight_30 (by decide) rfl ?_ ?_
      · refine fr_iconst hg (v := 0) (by decide) dX10_tonight_45 rfl ?_
        refine fr_istore hg (ls' := [(0, .ref (fr_ad w 0)), (1, .int a1), (2, .int a2), (3, .int a3), (4, .int a4), (5, .int a5), (6, .int 0)]) dX10_tonight_46 (by decide) rfl rfl ?_
        refine fr_iload hg 6 rfl dX10_tonight_48 rfl ?_
        refine fr_if_eq hg (m := 74) dX10_tonight_50 (by decide) rfl ?_ ?_
        · refine fr_bipush hg (v := (-2)) (by decide) dX10_tonight_74 rfl ?_
          refine fr_cl0 hg (mX10_no (-2)) (fr_crS hg mo_X10_248 rfl (by decide) (by decide) (Nat.le_of_ble_eq_true rfl) dX10_tonight_76 rfl) rfl ?_
          exact fr_lret hg dX10_tonight_79 (fun h => h)
        · refine fr_aload_n hg 0 rfl dX10_tonight_53 rfl ?_
          refine fr_iload_n hg 1 rfl dX10_tonight_54 rfl ?_
          refine fr_iload_n hg 2 rfl dX10_tonight_55 rfl ?_
          refine fr_iload_n hg 3 rfl dX10_tonight_56 rfl ?_
          refine fr_iload hg 4 rfl dX10_tonight_57 rfl ?_
          refine fr_ci1 hg (mX10_tonightBy a1 a2 a3 a4) (fr_crV hg (q := 0) mo_X10_241 rfl ⟨_, _, rfl⟩ rfl (by decide) (by decide) (Nat.le_of_ble_eq_true rfl) dX10_tonight_59 rfl) rfl (fun r7 => ?_)
          refine fr_i2l hg dX10_tonight_62 rfl ?_
          refine fr_ldc2 hg cl_X10_239 dX10_tonight_63 rfl ?_
          refine fr_iload hg 5 rfl dX10_tonight_66 rfl ?_
          refine fr_cl1 hg (mX10_part r7.toInt64 16 a5) (fr_crS hg mo_X10_244 rfl (by decide) (by decide) (Nat.le_of_ble_eq_true rfl) dX10_tonight_68 rfl) rfl (fun r8 => ?_)
          refine fr_goto hg (n := 79) dX10_tonight_71 (by decide) ?_
          exact fr_lret hg dX10_tonight_79 (fun h => h)
      · refine fr_iload hg 5 rfl dX10_tonight_33 rfl ?_
        refine fr_ci0 hg (mX10_isTwo a5) (fr_crS hg mo_X10_102 rfl (by decide) (by decide) (Nat.le_of_ble_eq_true rfl) dX10_tonight_35 rfl) rfl ?_
        refine fr_join (m := 46) (lj := fun (t9 : Int32) => [(0, .ref (fr_ad w 0)), (1, .int a1), (2, .int a2), (3, .int a3), (4, .int a4), (5, .int a5)]) (sj := fun t9 => [.int t9]) (wj := fun t9 => p2.2) ?_ (fun t9 => ?_)
        · refine fr_some_ite ?_
          refine fr_if_eq hg (m := 45) dX10_tonight_38 (by decide) rfl ?_ ?_
          · refine fr_iconst hg (v := 0) (by decide) dX10_tonight_45 rfl ?_
            exact fr_leaf [0, 1, 2, 3, 4, 5] rfl (fun h => h)
          · refine fr_iconst hg (v := 1) (by decide) dX10_tonight_41 rfl ?_
            refine fr_goto hg (n := 46) dX10_tonight_42 (by decide) ?_
            exact fr_leaf [0, 1, 2, 3, 4, 5] rfl (fun h => h)
        refine fr_istore hg (ls' := [(0, .ref (fr_ad w 0)), (1, .int a1), (2, .int a2), (3, .int a3), (4, .int a4), (5, .int a5), (6, .int t9)]) dX10_tonight_46 (by decide) rfl rfl ?_
        refine fr_iload hg 6 rfl dX10_tonight_48 rfl ?_
        refine fr_if_eq hg (m := 74) dX10_tonight_50 (by decide) rfl ?_ ?_
        · refine fr_bipush hg (v := (-2)) (by decide) dX10_tonight_74 rfl ?_
          refine fr_cl0 hg (mX10_no (-2)) (fr_crS hg mo_X10_248 rfl (by decide) (by decide) (Nat.le_of_ble_eq_true rfl) dX10_tonight_76 rfl) rfl ?_
          exact fr_lret hg dX10_tonight_79 (fun h => h)
        · refine fr_aload_n hg 0 rfl dX10_tonight_53 rfl ?_
          refine fr_iload_n hg 1 rfl dX10_tonight_54 rfl ?_
          refine fr_iload_n hg 2 rfl dX10_tonight_55 rfl ?_
          refine fr_iload_n hg 3 rfl dX10_tonight_56 rfl ?_
          refine fr_iload hg 4 rfl dX10_tonight_57 rfl ?_
          refine fr_ci1 hg (mX10_tonightBy a1 a2 a3 a4) (fr_crV hg (q := 0) mo_X10_241 rfl ⟨_, _, rfl⟩ rfl (by decide) (by decide) (Nat.le_of_ble_eq_true rfl) dX10_tonight_59 rfl) rfl (fun r10 => ?_)
          refine fr_i2l hg dX10_tonight_62 rfl ?_
          refine fr_ldc2 hg cl_X10_239 dX10_tonight_63 rfl ?_
          refine fr_iload hg 5 rfl dX10_tonight_66 rfl ?_
          refine fr_cl1 hg (mX10_part r10.toInt64 16 a5) (fr_crS hg mo_X10_244 rfl (by decide) (by decide) (Nat.le_of_ble_eq_true rfl) dX10_tonight_68 rfl) rfl (fun r11 => ?_)
          refine fr_goto hg (n := 79) dX10_tonight_71 (by decide) ?_
          exact fr_lret hg dX10_tonight_79 (fun h => h)
noncomputable def zX10_cover (σ : fr_St) (a1 : Int32) (a2 : Int32) (a3 : Int32) (a4 : Int32) : Option (Int32 × fr_St) :=
  (zX10_readsPane σ).bind (fun p2 => if zX10_in a1.toInt64 0 16 = 0 then if (0 : Int32) = 0 then some ((-2), p2.2) else (zX10_tonightBy p2.2 a1 0 0 0).bind (fun r3 => if r3 ≤ (16 * a2) + (a4 * a3) then some (0, p2.2) else some (1, p2.2)) else if zX10_in a2.toInt64 0 9999 = 0 then if (0 : Int32) = 0 then some ((-2), p2.2) else (zX10_tonightBy p2.2 a1 0 0 0).bind (fun r4 => if r4 ≤ (16 * a2) + (a4 * a3) then some (0, p2.2) else some (1, p2.2)) else if zX10_in a3.toInt64 0 16 = 0 then if (0 : Int32) = 0 then some ((-2), p2.2) else (zX10_tonightBy p2.2 a1 0 0 0).bind (fun r5 => if r5 ≤ (16 * a2) + (a4 * a3) then some (0, p2.2) else some (1, p2.2)) else (some (if zX10_in a4.toInt64 0 9999 = 0 then 0 else 1) : Option (Int32)).bind (fun t6 => if t6 = 0 then some ((-2), p2.2) else (zX10_tonightBy p2.2 a1 0 0 0).bind (fun r7 => if r7 ≤ (16 * a2) + (a4 * a3) then some (0, p2.2) else some (1, p2.2))))
set_option maxRecDepth 100000 in
set_option maxHeartbeats 4000000 in
theorem mX10_cover (a1 : Int32) (a2 : Int32) (a3 : Int32) (a4 : Int32) : fr_MI2 yX10_cover cX10_cover 6 .int 3 69 fr_shM (fun w => [.ref (fr_ad w 0), .int a1, .int a2, .int a3, .int a4]) (fun σ => zX10_cover σ a1 a2 a3 a4) := by
  refine fr_mkI2 (by decide) (fun w => Nat.le_of_ble_eq_true rfl) (fun g w σ hg => ?_)
  show fr_V g w 6 (zX10_cover σ a1 a2 a3 a4) _ 0 [(0, .ref (fr_ad w 0)), (1, .int a1), (2, .int a2), (3, .int a3), (4, .int a4)] [] σ
  unfold zX10_cover
  refine fr_aload_n hg 0 rfl dX10_cover_0 rfl ?_
  refine fr_ci2 hg mX10_readsPane (fr_crV hg (q := 0) mo_X10_134 rfl ⟨_, _, rfl⟩ rfl (by decide) (by decide) (Nat.le_of_ble_eq_true rfl) dX10_cover_1 rfl) rfl (fun p2 => ?_)
  refine fr_pop hg rfl dX10_cover_4 rfl ?_
  refine fr_iload_n hg 1 rfl dX10_cover_5 rfl ?_
  refine fr_i2l hg dX10_cover_6 rfl ?_
  refine fr_lconst hg (v := 0) (by decide) dX10_cover_7 rfl ?_
  refine fr_ldc2 hg cl_X10_239 dX10_cover_8 rfl ?_
  refine fr_ci0 hg (mX10_in a1.toInt64 0 16) (fr_crS hg mo_X10_73 rfl (by decide) (by decide) (Nat.le_of_ble_eq_true rfl) dX10_cover_11 rfl) rfl ?_
  refine fr_if_eq hg (m := 58) dX10_cover_14 (by decide) rfl ?_ ?_
  · refine fr_iconst hg (v := 0) (by decide) dX10_cover_58 rfl ?_
    refine fr_istore hg (ls' := [(0, .ref (fr_ad w 0)), (1, .int a1), (2, .int a2), (3, .int a3), (4, .int a4), (5, .int 0)]) dX10_cover_59 (by decide) rfl rfl ?_
    refine fr_iload hg 5 rfl dX10_cover_61 rfl ?_
    refine fr_if_ne hg (m := 71) dX10_cover_63 (by decide) rfl ?_ ?_
    · refine fr_bipush hg (v := 16) (by decide) dX10_cover_71 rfl ?_
      refine fr_iload_n hg 2 rfl dX10_cover_73 rfl ?_
      refine fr_imul hg dX10_cover_74 rfl ?_
      refine fr_iload hg 4 rfl dX10_cover_75 rfl ?_
      refine fr_iload_n hg 3 rfl dX10_cover_77 rfl ?_
      refine fr_imul hg dX10_cover_78 rfl ?_
      refine fr_iadd hg dX10_cover_79 rfl ?_
      refine fr_aload_n hg 0 rfl dX10_cover_80 rfl ?_
      refine fr_iload_n hg 1 rfl dX10_cover_81 rfl ?_
      refine fr_iconst hg (v := 0) (by decide) dX10_cover_82 rfl ?_
      refine fr_iconst hg (v := 0) (by decide) dX10_cover_83 rfl ?_
      refine fr_iconst hg (v := 0) (by decide) dX10_cover_84 rfl ?_
      refine fr_ci1 hg (mX10_tonightBy a1 0 0 0) (fr_crV hg (q := 0) mo_X10_241 rfl ⟨_, _, rfl⟩ rfl (by decide) (by decide) (Nat.le_of_ble_eq_true rfl) dX10_cover_85 rfl) rfl (fun r3 => ?_)
      refine fr_icmp_ge hg (m := 95) dX10_cover_88 (by decide) rfl ?_ ?_
      · refine fr_iconst hg (v := 0) (by decide) dX10_cover_95 rfl ?_
        exact fr_iret hg (rty := .int) rfl dX10_cover_96 (fun h => h)
      · refine fr_iconst hg (v := 1) (by decide) dX10_cover_91 rfl ?_
        refine fr_goto hg (n := 96) dX10_cover_92 (by decide) ?_
        exact fr_iret hg (rty := .int) rfl dX10_cover_96 (fun h => h)
    · refine fr_bipush hg (v := (-2)) (by decide) dX10_cover_66 rfl ?_
      refine fr_goto hg (n := 96) dX10_cover_68 (by decide) ?_
      exact fr_iret hg (rty := .int) rfl dX10_cover_96 (fun h => h)
  · refine fr_iload_n hg 2 rfl dX10_cover_17 rfl ?_
    refine fr_i2l hg dX10_cover_18 rfl ?_
    refine fr_lconst hg (v := 0) (by decide) dX10_cover_19 rfl ?_
    refine fr_ldc2 hg cl_X10_252 dX10_cover_20 rfl ?_
    refine fr_ci0 hg (mX10_in a2.toInt64 0 9999) (fr_crS hg mo_X10_73 rfl (by decide) (by decide) (Nat.le_of_ble_eq_true rfl) dX10_cover_23 rfl) rfl ?_
    refine fr_if_eq hg (m := 58) dX10_cover_26 (by decide) rfl ?_ ?_
    · refine fr_iconst hg (v := 0) (by decide) dX10_cover_58 rfl ?_
      refine fr_istore hg (ls' := [(0, .ref (fr_ad w 0)), (1, .int a1), (2, .int a2), (3, .int a3), (4, .int a4), (5, .int 0)]) dX10_cover_59 (by decide) rfl rfl ?_
      refine fr_iload hg 5 rfl dX10_cover_61 rfl ?_
      refine fr_if_ne hg (m := 71) dX10_cover_63 (by decide) rfl ?_ ?_
      · refine fr_bipush hg (v := 16) (by decide) dX10_cover_71 rfl ?_
        refine fr_iload_n hg 2 rfl dX10_cover_73 rfl ?_
        refine fr_imul hg dX10_cover_74 rfl ?_
        refine fr_iload hg 4 rfl dX10_cover_75 rfl ?_
        refine fr_iload_n hg 3 rfl dX10_cover_77 rfl ?_
        refine fr_imul hg dX10_cover_78 rfl ?_
        refine fr_iadd hg dX10_cover_79 rfl ?_
        refine fr_aload_n hg 0 rfl dX10_cover_80 rfl ?_
        refine fr_iload_n hg 1 rfl dX10_cover_81 rfl ?_
        refine fr_iconst hg (v := 0) (by decide) dX10_cover_82 rfl ?_
        refine fr_iconst hg (v := 0) (by decide) dX10_cover_83 rfl ?_
        refine fr_iconst hg (v := 0) (by decide) dX10_cover_84 rfl ?_
        refine fr_ci1 hg (mX10_tonightBy a1 0 0 0) (fr_crV hg (q := 0) mo_X10_241 rfl ⟨_, _, rfl⟩ rfl (by decide) (by decide) (Nat.le_of_ble_eq_true rfl) dX10_cover_85 rfl) rfl (fun r4 => ?_)
        refine fr_icmp_ge hg (m := 95) dX10_cover_88 (by decide) rfl ?_ ?_
        · refine fr_iconst hg (v := 0) (by decide) dX10_cover_95 rfl ?_
          exact fr_iret hg (rty := .int) rfl dX10_cover_96 (fun h => h)
        · refine fr_iconst hg (v := 1) (by decide) dX10_cover_91 rfl ?_
          refine fr_goto hg (n := 96) dX10_cover_92 (by decide) ?_
          exact fr_iret hg (rty := .int) rfl dX10_cover_96 (fun h => h)
      · refine fr_bipush hg (v := (-2)) (by decide) dX10_cover_66 rfl ?_
        refine fr_goto hg (n := 96) dX10_cover_68 (by decide) ?_
        exact fr_iret hg (rty := .int) rfl dX10_cover_96 (fun h => h)
    · refine fr_iload_n hg 3 rfl dX10_cover_29 rfl ?_
      refine fr_i2l hg dX10_cover_30 rfl ?_
      refine fr_lconst hg (v := 0) (by decide) dX10_cover_31 rfl ?_
      refine fr_ldc2 hg cl_X10_239 dX10_cover_32 rfl ?_
      refine fr_ci0 hg (mX10_in a3.toInt64 0 16) (fr_crS hg mo_X10_73 rfl (by decide) (by decide) (Nat.le_of_ble_eq_true rfl) dX10_cover_35 rfl) rfl ?_
      refine fr_if_eq hg (m := 58) dX10_cover_38 (by decide) rfl ?_ ?_
      · refine fr_iconst hg (v := 0) (by decide) dX10_cover_58 rfl ?_
        refine fr_istore hg (ls' := [(0, .ref (fr_ad w 0)), (1, .int a1), (2, .int a2), (3, .int a3), (4, .int a4), (5, .int 0)]) dX10_cover_59 (by decide) rfl rfl ?_
        refine fr_iload hg 5 rfl dX10_cover_61 rfl ?_
        refine fr_if_ne hg (m := 71) dX10_cover_63 (by decide) rfl ?_ ?_
        · refine fr_bipush hg (v := 16) (by decide) dX10_cover_71 rfl ?_
          refine fr_iload_n hg 2 rfl dX10_cover_73 rfl ?_
          refine fr_imul hg dX10_cover_74 rfl ?_
          refine fr_iload hg 4 rfl dX10_cover_75 rfl ?_
          refine fr_iload_n hg 3 rfl dX10_cover_77 rfl ?_
          refine fr_imul hg dX10_cover_78 rfl ?_
          refine fr_iadd hg dX10_cover_79 rfl ?_
          refine fr_aload_n hg 0 rfl dX10_cover_80 rfl ?_
          refine fr_iload_n hg 1 rfl dX10_cover_81 rfl ?_
          refine fr_iconst hg (v := 0) (by decide) dX10_cover_82 rfl ?_
          refine fr_iconst hg (v := 0) (by decide) dX10_cover_83 rfl ?_
          refine fr_iconst hg (v := 0) (by decide) dX10_cover_84 rfl ?_
          refine fr_ci1 hg (mX10_tonightBy a1 0 0 0) (fr_crV hg (q := 0) mo_X10_241 rfl ⟨_, _, rfl⟩ rfl (by decide) (by decide) (Nat.le_of_ble_eq_true rfl) dX10_cover_85 rfl) rfl (fun r5 => ?_)
          refine fr_icmp_ge hg (m := 95) dX10_cover_88 (by decide) rfl ?_ ?_
          · refine fr_iconst hg (v := 0) (by decide) dX10_cover_95 rfl ?_
            exact fr_iret hg (rty := .int) rfl dX10_cover_96 (fun h => h)
          · refine fr_iconst hg (v := 1) (by decide) dX10_cover_91 rfl ?_
            refine fr_goto hg (n := 96) dX10_cover_92 (by decide) ?_
            exact fr_iret hg (rty := .int) rfl dX10_cover_96 (fun h => h)
        · refine fr_bipush hg (v := (-2)) (by decide) dX10_cover_66 rfl ?_
          refine fr_goto hg (n := 96) dX10_cover_68 (by decide) ?_
          exact fr_iret hg (rty := .int) rfl dX10_cover_96 (fun h => h)
      · refine fr_iload hg 4 rfl dX10_cover_41 rfl ?_
        refine fr_i2l hg dX10_cover_43 rfl ?_
        refine fr_lconst hg (v := 0) (by decide) dX10_cover_44 rfl ?_
        refine fr_ldc2 hg cl_X10_252 dX10_cover_45 rfl ?_
        refine fr_ci0 hg (mX10_in a4.toInt64 0 9999) (fr_crS hg mo_X10_73 rfl (by decide) (by decide) (Nat.le_of_ble_eq_true rfl) dX10_cover_48 rfl) rfl ?_
        refine fr_join (m := 59) (lj := fun (t6 : Int32) => [(0, .ref (fr_ad w 0)), (1, .int a1), (2, .int a2), (3, .int a3), (4, .int a4)]) (sj := fun t6 => [.int t6]) (wj := fun t6 => p2.2) ?_ (fun t6 => ?_)
        · refine fr_some_ite ?_
          refine fr_if_eq hg (m := 58) dX10_cover_51 (by decide) rfl ?_ ?_
          · refine fr_iconst hg (v := 0) (by decide) dX10_cover_58 rfl ?_
            exact fr_leaf [0, 1, 2, 3, 4] rfl (fun h => h)
          · refine fr_iconst hg (v := 1) (by decide) dX10_cover_54 rfl ?_
            refine fr_goto hg (n := 59) dX10_cover_55 (by decide) ?_
            exact fr_leaf [0, 1, 2, 3, 4] rfl (fun h => h)
        refine fr_istore hg (ls' := [(0, .ref (fr_ad w 0)), (1, .int a1), (2, .int a2), (3, .int a3), (4, .int a4), (5, .int t6)]) dX10_cover_59 (by decide) rfl rfl ?_
        refine fr_iload hg 5 rfl dX10_cover_61 rfl ?_
        refine fr_if_ne hg (m := 71) dX10_cover_63 (by decide) rfl ?_ ?_
        · refine fr_bipush hg (v := 16) (by decide) dX10_cover_71 rfl ?_
          refine fr_iload_n hg 2 rfl dX10_cover_73 rfl ?_
          refine fr_imul hg dX10_cover_74 rfl ?_
          refine fr_iload hg 4 rfl dX10_cover_75 rfl ?_
          refine fr_iload_n hg 3 rfl dX10_cover_77 rfl ?_
          refine fr_imul hg dX10_cover_78 rfl ?_
          refine fr_iadd hg dX10_cover_79 rfl ?_
          refine fr_aload_n hg 0 rfl dX10_cover_80 rfl ?_
          refine fr_iload_n hg 1 rfl dX10_cover_81 rfl ?_
          refine fr_iconst hg (v := 0) (by decide) dX10_cover_82 rfl ?_
          refine fr_iconst hg (v := 0) (by decide) dX10_cover_83 rfl ?_
          refine fr_iconst hg (v := 0) (by decide) dX10_cover_84 rfl ?_
          refine fr_ci1 hg (mX10_tonightBy a1 0 0 0) (fr_crV hg (q := 0) mo_X10_241 rfl ⟨_, _, rfl⟩ rfl (by decide) (by decide) (Nat.le_of_ble_eq_true rfl) dX10_cover_85 rfl) rfl (fun r7 => ?_)
          refine fr_icmp_ge hg (m := 95) dX10_cover_88 (by decide) rfl ?_ ?_
          · refine fr_iconst hg (v := 0) (by decide) dX10_cover_95 rfl ?_
            exact fr_iret hg (rty := .int) rfl dX10_cover_96 (fun h => h)
          · refine fr_iconst hg (v := 1) (by decide) dX10_cover_91 rfl ?_
            refine fr_goto hg (n := 96) dX10_cover_92 (by decide) ?_
            exact fr_iret hg (rty := .int) rfl dX10_cover_96 (fun h => h)
        · refine fr_bipush hg (v := (-2)) (by decide) dX10_cover_66 rfl ?_
          refine fr_goto hg (n := 96) dX10_cover_68 (by decide) ?_
          exact fr_iret hg (rty := .int) rfl dX10_cover_96 (fun h => h)
noncomputable def zX10_car (σ : fr_St) (a1 : Int32) (a2 : Int32) : Option (Int32 × fr_St) :=
  if zX10_in a1.toInt64 1 9999 = 0 then some ((-2), σ) else if zX10_in a2.toInt64 0 9999 = 0 then some ((-2), σ) else if σ 0 27 = 7 then some ((-4), σ) else (fr_as 14 σ 18 (2 * (σ 0 27)) a1).bind (fun σ1 => (fr_as 14 σ1 18 ((2 * (σ1 0 27)) + 1) a2).bind (fun σ2 => some ((fr_put σ2 0 27 ((σ2 0 27) + 1)) 0 27, (fr_put σ2 0 27 ((σ2 0 27) + 1)))))
set_option maxRecDepth 100000 in
set_option maxHeartbeats 4000000 in
theorem mX10_car (a1 : Int32) (a2 : Int32) : fr_MI2 yX10_car cX10_car 3 .int 1 25 fr_shM (fun w => [.ref (fr_ad w 0), .int a1, .int a2]) (fun σ => zX10_car σ a1 a2) := by
  refine fr_mkI2 (by decide) (fun w => Nat.le_of_ble_eq_true rfl) (fun g w σ hg => ?_)
  show fr_V g w 3 (zX10_car σ a1 a2) _ 0 [(0, .ref (fr_ad w 0)), (1, .int a1), (2, .int a2)] [] σ
  unfold zX10_car
  refine fr_iload_n hg 1 rfl dX10_car_0 rfl ?_
  refine fr_i2l hg dX10_car_1 rfl ?_
  refine fr_lconst hg (v := 1) (by decide) dX10_car_2 rfl ?_
  refine fr_ldc2 hg cl_X10_252 dX10_car_3 rfl ?_
  refine fr_ci0 hg (mX10_in a1.toInt64 1 9999) (fr_crS hg mo_X10_73 rfl (by decide) (by decide) (Nat.le_of_ble_eq_true rfl) dX10_car_6 rfl) rfl ?_
  refine fr_if_eq hg (m := 24) dX10_car_9 (by decide) rfl ?_ ?_
  · refine fr_bipush hg (v := (-2)) (by decide) dX10_car_24 rfl ?_
    exact fr_iret hg (rty := .int) rfl dX10_car_26 (fun h => h)
  · refine fr_iload_n hg 2 rfl dX10_car_12 rfl ?_
    refine fr_i2l hg dX10_car_13 rfl ?_
    refine fr_lconst hg (v := 0) (by decide) dX10_car_14 rfl ?_
    refine fr_ldc2 hg cl_X10_252 dX10_car_15 rfl ?_
    refine fr_ci0 hg (mX10_in a2.toInt64 0 9999) (fr_crS hg mo_X10_73 rfl (by decide) (by decide) (Nat.le_of_ble_eq_true rfl) dX10_car_18 rfl) rfl ?_
    refine fr_if_ne hg (m := 27) dX10_car_21 (by decide) rfl ?_ ?_
    · refine fr_aload_n hg 0 rfl dX10_car_27 rfl ?_
      refine fr_geti hg (q := 0) fo_X10_254 rfl rfl dX10_car_28 rfl ?_
      refine fr_bipush hg (v := 7) (by decide) dX10_car_31 rfl ?_
      refine fr_icmp_ne hg (m := 39) dX10_car_33 (by decide) rfl ?_ ?_
      · refine fr_aload_n hg 0 rfl dX10_car_39 rfl ?_
        refine fr_getr hg (q := 0) (q' := 18) fo_X10_62 rfl rfl dX10_car_40 rfl ?_
        refine fr_iconst hg (v := 2) (by decide) dX10_car_43 rfl ?_
        refine fr_aload_n hg 0 rfl dX10_car_44 rfl ?_
        refine fr_geti hg (q := 0) fo_X10_254 rfl rfl dX10_car_45 rfl ?_
        refine fr_imul hg dX10_car_48 rfl ?_
        refine fr_iload_n hg 1 rfl dX10_car_49 rfl ?_
        refine fr_iastore hg (q := 18) rfl dX10_car_50 rfl (fun σ1 => ?_)
        refine fr_aload_n hg 0 rfl dX10_car_51 rfl ?_
        refine fr_getr hg (q := 0) (q' := 18) fo_X10_62 rfl rfl dX10_car_52 rfl ?_
        refine fr_iconst hg (v := 2) (by decide) dX10_car_55 rfl ?_
        refine fr_aload_n hg 0 rfl dX10_car_56 rfl ?_
        refine fr_geti hg (q := 0) fo_X10_254 rfl rfl dX10_car_57 rfl ?_
        refine fr_imul hg dX10_car_60 rfl ?_
        refine fr_iconst hg (v := 1) (by decide) dX10_car_61 rfl ?_
        refine fr_iadd hg dX10_car_62 rfl ?_
        refine fr_iload_n hg 2 rfl dX10_car_63 rfl ?_
        refine fr_iastore hg (q := 18) rfl dX10_car_64 rfl (fun σ2 => ?_)
        refine fr_aload_n hg 0 rfl dX10_car_65 rfl ?_
        refine fr_dup hg rfl dX10_car_66 rfl ?_
        refine fr_geti hg (q := 0) fo_X10_254 rfl rfl dX10_car_67 rfl ?_
        refine fr_iconst hg (v := 1) (by decide) dX10_car_70 rfl ?_
        refine fr_iadd hg dX10_car_71 rfl ?_
        refine fr_puti hg (q := 0) fp_X10_254 rfl rfl rfl rfl dX10_car_72 rfl ?_
        refine fr_aload_n hg 0 rfl dX10_car_75 rfl ?_
        refine fr_geti hg (q := 0) fo_X10_254 rfl rfl dX10_car_76 rfl ?_
        exact fr_iret hg (rty := .int) rfl dX10_car_79 (fun h => h)
      · refine fr_bipush hg (v := (-4)) (by decide) dX10_car_36 rfl ?_
        exact fr_iret hg (rty := .int) rfl dX10_car_38 (fun h => h)
    · refine fr_bipush hg (v := (-2)) (by decide) dX10_car_24 rfl ?_
      exact fr_iret hg (rty := .int) rfl dX10_car_26 (fun h => h)
